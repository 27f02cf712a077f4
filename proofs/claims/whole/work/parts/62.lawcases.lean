/-! THE LAW: its cases 0 to 4 -/
theorem dL_law_164 : decode cL_law 164 = .ok (.aload_n 1, 1) := by decide +kernel
theorem dL_law_165 : decode cL_law 165 = .ok (.aload_n 0, 1) := by decide +kernel
theorem dL_law_166 : decode cL_law 166 = .ok (.iload_n 3, 1) := by decide +kernel
theorem dL_law_167 : decode cL_law 167 = .ok (.iconst 1, 1) := by decide +kernel
theorem dL_law_168 : decode cL_law 168 = .ok (.iadd, 1) := by decide +kernel
theorem dL_law_169 : decode cL_law 169 = .ok (.iaload, 1) := by decide +kernel
theorem dL_law_170 : decode cL_law 170 = .ok (.aload_n 0, 1) := by decide +kernel
theorem dL_law_171 : decode cL_law 171 = .ok (.iload_n 3, 1) := by decide +kernel
theorem dL_law_172 : decode cL_law 172 = .ok (.iconst 2, 1) := by decide +kernel
theorem dL_law_173 : decode cL_law 173 = .ok (.iadd, 1) := by decide +kernel
theorem dL_law_174 : decode cL_law 174 = .ok (.iaload, 1) := by decide +kernel
theorem dL_law_175 : decode cL_law 175 = .ok (.aload_n 0, 1) := by decide +kernel
theorem dL_law_176 : decode cL_law 176 = .ok (.iload_n 3, 1) := by decide +kernel
theorem dL_law_177 : decode cL_law 177 = .ok (.iconst 3, 1) := by decide +kernel
theorem dL_law_178 : decode cL_law 178 = .ok (.iadd, 1) := by decide +kernel
theorem dL_law_179 : decode cL_law 179 = .ok (.iaload, 1) := by decide +kernel
theorem dL_law_180 : decode cL_law 180 = .ok (.invokevirtual 13, 3) := by decide +kernel
theorem dL_law_183 : decode cL_law 183 = .ok (.aload_n 2, 1) := by decide +kernel
theorem dL_law_184 : decode cL_law 184 = .ok (.aload_n 0, 1) := by decide +kernel
theorem dL_law_185 : decode cL_law 185 = .ok (.iload_n 3, 1) := by decide +kernel
theorem dL_law_186 : decode cL_law 186 = .ok (.iconst 1, 1) := by decide +kernel
theorem dL_law_187 : decode cL_law 187 = .ok (.iadd, 1) := by decide +kernel
theorem dL_law_188 : decode cL_law 188 = .ok (.iaload, 1) := by decide +kernel
theorem dL_law_189 : decode cL_law 189 = .ok (.aload_n 0, 1) := by decide +kernel
theorem dL_law_190 : decode cL_law 190 = .ok (.iload_n 3, 1) := by decide +kernel
theorem dL_law_191 : decode cL_law 191 = .ok (.iconst 2, 1) := by decide +kernel
theorem dL_law_192 : decode cL_law 192 = .ok (.iadd, 1) := by decide +kernel
theorem dL_law_193 : decode cL_law 193 = .ok (.iaload, 1) := by decide +kernel
theorem dL_law_194 : decode cL_law 194 = .ok (.aload_n 0, 1) := by decide +kernel
theorem dL_law_195 : decode cL_law 195 = .ok (.iload_n 3, 1) := by decide +kernel
theorem dL_law_196 : decode cL_law 196 = .ok (.iconst 3, 1) := by decide +kernel
theorem dL_law_197 : decode cL_law 197 = .ok (.iadd, 1) := by decide +kernel
theorem dL_law_198 : decode cL_law 198 = .ok (.iaload, 1) := by decide +kernel
theorem dL_law_199 : decode cL_law 199 = .ok (.invokevirtual 17, 3) := by decide +kernel
theorem dL_law_202 : decode cL_law 202 = .ok (.if_icmp .eq 829, 3) := by decide +kernel
theorem dL_law_205 : decode cL_law 205 = .ok (.iconst 0, 1) := by decide +kernel
theorem dL_law_206 : decode cL_law 206 = .ok (.ireturn, 1) := by decide +kernel
theorem dL_law_207 : decode cL_law 207 = .ok (.aload_n 1, 1) := by decide +kernel
theorem dL_law_208 : decode cL_law 208 = .ok (.aload_n 0, 1) := by decide +kernel
theorem dL_law_209 : decode cL_law 209 = .ok (.iload_n 3, 1) := by decide +kernel
theorem dL_law_210 : decode cL_law 210 = .ok (.iconst 1, 1) := by decide +kernel
theorem dL_law_211 : decode cL_law 211 = .ok (.iadd, 1) := by decide +kernel
theorem dL_law_212 : decode cL_law 212 = .ok (.iaload, 1) := by decide +kernel
theorem dL_law_213 : decode cL_law 213 = .ok (.aload_n 0, 1) := by decide +kernel
theorem dL_law_214 : decode cL_law 214 = .ok (.iload_n 3, 1) := by decide +kernel
theorem dL_law_215 : decode cL_law 215 = .ok (.iconst 2, 1) := by decide +kernel
theorem dL_law_216 : decode cL_law 216 = .ok (.iadd, 1) := by decide +kernel
theorem dL_law_217 : decode cL_law 217 = .ok (.iaload, 1) := by decide +kernel
theorem dL_law_218 : decode cL_law 218 = .ok (.aload_n 0, 1) := by decide +kernel
theorem dL_law_219 : decode cL_law 219 = .ok (.iload_n 3, 1) := by decide +kernel
theorem dL_law_220 : decode cL_law 220 = .ok (.iconst 3, 1) := by decide +kernel
theorem dL_law_221 : decode cL_law 221 = .ok (.iadd, 1) := by decide +kernel
theorem dL_law_222 : decode cL_law 222 = .ok (.iaload, 1) := by decide +kernel
theorem dL_law_223 : decode cL_law 223 = .ok (.invokevirtual 18, 3) := by decide +kernel
theorem dL_law_226 : decode cL_law 226 = .ok (.aload_n 2, 1) := by decide +kernel
theorem dL_law_227 : decode cL_law 227 = .ok (.aload_n 0, 1) := by decide +kernel
theorem dL_law_228 : decode cL_law 228 = .ok (.iload_n 3, 1) := by decide +kernel
theorem dL_law_229 : decode cL_law 229 = .ok (.iconst 1, 1) := by decide +kernel
theorem dL_law_230 : decode cL_law 230 = .ok (.iadd, 1) := by decide +kernel
theorem dL_law_231 : decode cL_law 231 = .ok (.iaload, 1) := by decide +kernel
theorem dL_law_232 : decode cL_law 232 = .ok (.aload_n 0, 1) := by decide +kernel
theorem dL_law_233 : decode cL_law 233 = .ok (.iload_n 3, 1) := by decide +kernel
theorem dL_law_234 : decode cL_law 234 = .ok (.iconst 2, 1) := by decide +kernel
theorem dL_law_235 : decode cL_law 235 = .ok (.iadd, 1) := by decide +kernel
theorem dL_law_236 : decode cL_law 236 = .ok (.iaload, 1) := by decide +kernel
theorem dL_law_237 : decode cL_law 237 = .ok (.aload_n 0, 1) := by decide +kernel
theorem dL_law_238 : decode cL_law 238 = .ok (.iload_n 3, 1) := by decide +kernel
theorem dL_law_239 : decode cL_law 239 = .ok (.iconst 3, 1) := by decide +kernel
theorem dL_law_240 : decode cL_law 240 = .ok (.iadd, 1) := by decide +kernel
theorem dL_law_241 : decode cL_law 241 = .ok (.iaload, 1) := by decide +kernel
theorem dL_law_242 : decode cL_law 242 = .ok (.invokevirtual 21, 3) := by decide +kernel
theorem dL_law_245 : decode cL_law 245 = .ok (.if_icmp .eq 786, 3) := by decide +kernel
theorem dL_law_248 : decode cL_law 248 = .ok (.iconst 0, 1) := by decide +kernel
theorem dL_law_249 : decode cL_law 249 = .ok (.ireturn, 1) := by decide +kernel
theorem dL_law_250 : decode cL_law 250 = .ok (.aload_n 1, 1) := by decide +kernel
theorem dL_law_251 : decode cL_law 251 = .ok (.aload_n 0, 1) := by decide +kernel
theorem dL_law_252 : decode cL_law 252 = .ok (.iload_n 3, 1) := by decide +kernel
theorem dL_law_253 : decode cL_law 253 = .ok (.iconst 1, 1) := by decide +kernel
theorem dL_law_254 : decode cL_law 254 = .ok (.iadd, 1) := by decide +kernel
theorem dL_law_255 : decode cL_law 255 = .ok (.iaload, 1) := by decide +kernel
theorem dL_law_256 : decode cL_law 256 = .ok (.aload_n 0, 1) := by decide +kernel
theorem dL_law_257 : decode cL_law 257 = .ok (.iload_n 3, 1) := by decide +kernel
theorem dL_law_258 : decode cL_law 258 = .ok (.iconst 2, 1) := by decide +kernel
theorem dL_law_259 : decode cL_law 259 = .ok (.iadd, 1) := by decide +kernel
theorem dL_law_260 : decode cL_law 260 = .ok (.iaload, 1) := by decide +kernel
theorem dL_law_261 : decode cL_law 261 = .ok (.aload_n 0, 1) := by decide +kernel
theorem dL_law_262 : decode cL_law 262 = .ok (.iload_n 3, 1) := by decide +kernel
theorem dL_law_263 : decode cL_law 263 = .ok (.iconst 3, 1) := by decide +kernel
theorem dL_law_264 : decode cL_law 264 = .ok (.iadd, 1) := by decide +kernel
theorem dL_law_265 : decode cL_law 265 = .ok (.iaload, 1) := by decide +kernel
theorem dL_law_266 : decode cL_law 266 = .ok (.aload_n 0, 1) := by decide +kernel
theorem dL_law_267 : decode cL_law 267 = .ok (.iload_n 3, 1) := by decide +kernel
theorem dL_law_268 : decode cL_law 268 = .ok (.iconst 4, 1) := by decide +kernel
theorem dL_law_269 : decode cL_law 269 = .ok (.iadd, 1) := by decide +kernel
theorem dL_law_270 : decode cL_law 270 = .ok (.iaload, 1) := by decide +kernel
theorem dL_law_271 : decode cL_law 271 = .ok (.aload_n 0, 1) := by decide +kernel
theorem dL_law_272 : decode cL_law 272 = .ok (.iload_n 3, 1) := by decide +kernel
theorem dL_law_273 : decode cL_law 273 = .ok (.iconst 5, 1) := by decide +kernel
theorem dL_law_274 : decode cL_law 274 = .ok (.iadd, 1) := by decide +kernel
theorem dL_law_275 : decode cL_law 275 = .ok (.iaload, 1) := by decide +kernel
theorem dL_law_276 : decode cL_law 276 = .ok (.invokevirtual 22, 3) := by decide +kernel
theorem dL_law_279 : decode cL_law 279 = .ok (.aload_n 2, 1) := by decide +kernel
theorem dL_law_280 : decode cL_law 280 = .ok (.aload_n 0, 1) := by decide +kernel
theorem dL_law_281 : decode cL_law 281 = .ok (.iload_n 3, 1) := by decide +kernel
theorem dL_law_282 : decode cL_law 282 = .ok (.iconst 1, 1) := by decide +kernel
theorem dL_law_283 : decode cL_law 283 = .ok (.iadd, 1) := by decide +kernel
theorem dL_law_284 : decode cL_law 284 = .ok (.iaload, 1) := by decide +kernel
theorem dL_law_285 : decode cL_law 285 = .ok (.aload_n 0, 1) := by decide +kernel
theorem dL_law_286 : decode cL_law 286 = .ok (.iload_n 3, 1) := by decide +kernel
theorem dL_law_287 : decode cL_law 287 = .ok (.iconst 2, 1) := by decide +kernel
theorem dL_law_288 : decode cL_law 288 = .ok (.iadd, 1) := by decide +kernel
theorem dL_law_289 : decode cL_law 289 = .ok (.iaload, 1) := by decide +kernel
theorem dL_law_290 : decode cL_law 290 = .ok (.aload_n 0, 1) := by decide +kernel
theorem dL_law_291 : decode cL_law 291 = .ok (.iload_n 3, 1) := by decide +kernel
theorem dL_law_292 : decode cL_law 292 = .ok (.iconst 3, 1) := by decide +kernel
theorem dL_law_293 : decode cL_law 293 = .ok (.iadd, 1) := by decide +kernel
theorem dL_law_294 : decode cL_law 294 = .ok (.iaload, 1) := by decide +kernel
theorem dL_law_295 : decode cL_law 295 = .ok (.aload_n 0, 1) := by decide +kernel
theorem dL_law_296 : decode cL_law 296 = .ok (.iload_n 3, 1) := by decide +kernel
theorem dL_law_297 : decode cL_law 297 = .ok (.iconst 4, 1) := by decide +kernel
theorem dL_law_298 : decode cL_law 298 = .ok (.iadd, 1) := by decide +kernel
theorem dL_law_299 : decode cL_law 299 = .ok (.iaload, 1) := by decide +kernel
theorem dL_law_300 : decode cL_law 300 = .ok (.aload_n 0, 1) := by decide +kernel
theorem dL_law_301 : decode cL_law 301 = .ok (.iload_n 3, 1) := by decide +kernel
theorem dL_law_302 : decode cL_law 302 = .ok (.iconst 5, 1) := by decide +kernel
theorem dL_law_303 : decode cL_law 303 = .ok (.iadd, 1) := by decide +kernel
theorem dL_law_304 : decode cL_law 304 = .ok (.iaload, 1) := by decide +kernel
theorem dL_law_305 : decode cL_law 305 = .ok (.invokevirtual 26, 3) := by decide +kernel
theorem dL_law_308 : decode cL_law 308 = .ok (.if_icmp .eq 723, 3) := by decide +kernel
theorem dL_law_311 : decode cL_law 311 = .ok (.iconst 0, 1) := by decide +kernel
theorem dL_law_312 : decode cL_law 312 = .ok (.ireturn, 1) := by decide +kernel
theorem dL_law_313 : decode cL_law 313 = .ok (.aload_n 1, 1) := by decide +kernel
theorem dL_law_314 : decode cL_law 314 = .ok (.aload_n 0, 1) := by decide +kernel
theorem dL_law_315 : decode cL_law 315 = .ok (.iload_n 3, 1) := by decide +kernel
theorem dL_law_316 : decode cL_law 316 = .ok (.iconst 1, 1) := by decide +kernel
theorem dL_law_317 : decode cL_law 317 = .ok (.iadd, 1) := by decide +kernel
theorem dL_law_318 : decode cL_law 318 = .ok (.iaload, 1) := by decide +kernel
theorem dL_law_319 : decode cL_law 319 = .ok (.invokevirtual 27, 3) := by decide +kernel
theorem dL_law_322 : decode cL_law 322 = .ok (.aload_n 2, 1) := by decide +kernel
theorem dL_law_323 : decode cL_law 323 = .ok (.aload_n 0, 1) := by decide +kernel
theorem dL_law_324 : decode cL_law 324 = .ok (.iload_n 3, 1) := by decide +kernel
theorem dL_law_325 : decode cL_law 325 = .ok (.iconst 1, 1) := by decide +kernel
theorem dL_law_326 : decode cL_law 326 = .ok (.iadd, 1) := by decide +kernel
theorem dL_law_327 : decode cL_law 327 = .ok (.iaload, 1) := by decide +kernel
theorem dL_law_328 : decode cL_law 328 = .ok (.invokevirtual 31, 3) := by decide +kernel
theorem dL_law_331 : decode cL_law 331 = .ok (.if_icmp .eq 700, 3) := by decide +kernel
theorem dL_law_334 : decode cL_law 334 = .ok (.iconst 0, 1) := by decide +kernel
theorem dL_law_335 : decode cL_law 335 = .ok (.ireturn, 1) := by decide +kernel
theorem dL_law_336 : decode cL_law 336 = .ok (.aload_n 1, 1) := by decide +kernel
theorem dL_law_337 : decode cL_law 337 = .ok (.aload_n 0, 1) := by decide +kernel
theorem dL_law_338 : decode cL_law 338 = .ok (.iload_n 3, 1) := by decide +kernel
theorem dL_law_339 : decode cL_law 339 = .ok (.iconst 1, 1) := by decide +kernel
theorem dL_law_340 : decode cL_law 340 = .ok (.iadd, 1) := by decide +kernel
theorem dL_law_341 : decode cL_law 341 = .ok (.iaload, 1) := by decide +kernel
theorem dL_law_342 : decode cL_law 342 = .ok (.i2l, 1) := by decide +kernel
theorem dL_law_343 : decode cL_law 343 = .ok (.bipush 32, 2) := by decide +kernel
theorem dL_law_345 : decode cL_law 345 = .ok (.lshl, 1) := by decide +kernel
theorem dL_law_346 : decode cL_law 346 = .ok (.aload_n 0, 1) := by decide +kernel
theorem dL_law_347 : decode cL_law 347 = .ok (.iload_n 3, 1) := by decide +kernel
theorem dL_law_348 : decode cL_law 348 = .ok (.iconst 2, 1) := by decide +kernel
theorem dL_law_349 : decode cL_law 349 = .ok (.iadd, 1) := by decide +kernel
theorem dL_law_350 : decode cL_law 350 = .ok (.iaload, 1) := by decide +kernel
theorem dL_law_351 : decode cL_law 351 = .ok (.i2l, 1) := by decide +kernel
theorem dL_law_352 : decode cL_law 352 = .ok (.ldc2_w 32, 3) := by decide +kernel
theorem dL_law_355 : decode cL_law 355 = .ok (.land, 1) := by decide +kernel
theorem dL_law_356 : decode cL_law 356 = .ok (.lor, 1) := by decide +kernel
theorem dL_law_357 : decode cL_law 357 = .ok (.aload_n 0, 1) := by decide +kernel
theorem dL_law_358 : decode cL_law 358 = .ok (.iload_n 3, 1) := by decide +kernel
theorem dL_law_359 : decode cL_law 359 = .ok (.iconst 3, 1) := by decide +kernel
theorem dL_law_360 : decode cL_law 360 = .ok (.iadd, 1) := by decide +kernel
theorem dL_law_361 : decode cL_law 361 = .ok (.iaload, 1) := by decide +kernel
theorem dL_law_362 : decode cL_law 362 = .ok (.invokevirtual 34, 3) := by decide +kernel
theorem dL_law_365 : decode cL_law 365 = .ok (.aload_n 2, 1) := by decide +kernel
theorem dL_law_366 : decode cL_law 366 = .ok (.aload_n 0, 1) := by decide +kernel
theorem dL_law_367 : decode cL_law 367 = .ok (.iload_n 3, 1) := by decide +kernel
theorem dL_law_368 : decode cL_law 368 = .ok (.iconst 1, 1) := by decide +kernel
theorem dL_law_369 : decode cL_law 369 = .ok (.iadd, 1) := by decide +kernel
theorem dL_law_370 : decode cL_law 370 = .ok (.iaload, 1) := by decide +kernel
theorem dL_law_371 : decode cL_law 371 = .ok (.i2l, 1) := by decide +kernel
theorem dL_law_372 : decode cL_law 372 = .ok (.bipush 32, 2) := by decide +kernel
theorem dL_law_374 : decode cL_law 374 = .ok (.lshl, 1) := by decide +kernel
theorem dL_law_375 : decode cL_law 375 = .ok (.aload_n 0, 1) := by decide +kernel
theorem dL_law_376 : decode cL_law 376 = .ok (.iload_n 3, 1) := by decide +kernel
theorem dL_law_377 : decode cL_law 377 = .ok (.iconst 2, 1) := by decide +kernel
theorem dL_law_378 : decode cL_law 378 = .ok (.iadd, 1) := by decide +kernel
theorem dL_law_379 : decode cL_law 379 = .ok (.iaload, 1) := by decide +kernel
theorem dL_law_380 : decode cL_law 380 = .ok (.i2l, 1) := by decide +kernel
theorem dL_law_381 : decode cL_law 381 = .ok (.ldc2_w 32, 3) := by decide +kernel
theorem dL_law_384 : decode cL_law 384 = .ok (.land, 1) := by decide +kernel
theorem dL_law_385 : decode cL_law 385 = .ok (.lor, 1) := by decide +kernel
theorem dL_law_386 : decode cL_law 386 = .ok (.aload_n 0, 1) := by decide +kernel
theorem dL_law_387 : decode cL_law 387 = .ok (.iload_n 3, 1) := by decide +kernel
theorem dL_law_388 : decode cL_law 388 = .ok (.iconst 3, 1) := by decide +kernel
theorem dL_law_389 : decode cL_law 389 = .ok (.iadd, 1) := by decide +kernel
theorem dL_law_390 : decode cL_law 390 = .ok (.iaload, 1) := by decide +kernel
theorem dL_law_391 : decode cL_law 391 = .ok (.invokevirtual 38, 3) := by decide +kernel
theorem dL_law_394 : decode cL_law 394 = .ok (.if_icmp .eq 637, 3) := by decide +kernel
theorem dL_law_397 : decode cL_law 397 = .ok (.iconst 0, 1) := by decide +kernel
theorem dL_law_398 : decode cL_law 398 = .ok (.ireturn, 1) := by decide +kernel
section LC
variable {G : GG} {b L i : Nat} {xs : Nat → Int32} {σ : AH}
theorem lc_row (hL : L ≤ 3072) (hi : i + 6 ≤ L) (H : IV σ) (hn : ∀ σ2, IV σ2 → J G RL cL_law 4 ret (TL G b L xs) 184 σ2 184 6624 1031 [some (.ref (EXT + 400)), some (.ref 0), some (.ref 171), some (.int (nI i))] []) : J G RL cL_law 4 ret (TL G b L xs) 184 σ 184 6624 164 [some (.ref (EXT + 400)), some (.ref 0), some (.ref 171), some (.int (nI i))] [] := by
  obtain ⟨v, σ1, σ2, h5, h6, H2, fs, ho⟩ := IV_row (G := G) (z := 184) H (xs (i + 1)) (xs (i + 2)) (xs (i + 3))
  obtain ⟨fs0, ho0⟩ := IV_0 H
  refine j_aload_n dL_law_164 rfl rfl ?_
  refine j_aload_n dL_law_165 rfl rfl ?_
  refine j_iload_n dL_law_166 rfl rfl ?_
  refine j_iconst (nI 1) dL_law_167 rfl ?_
  first | refine j_iaddN dL_law_168 ?_ | refine j_iadd dL_law_168 ?_
  refine j_sld dL_law_169 (by omega) hL ?_
  refine j_aload_n dL_law_170 rfl rfl ?_
  refine j_iload_n dL_law_171 rfl rfl ?_
  refine j_iconst (nI 2) dL_law_172 rfl ?_
  first | refine j_iaddN dL_law_173 ?_ | refine j_iadd dL_law_173 ?_
  refine j_sld dL_law_174 (by omega) hL ?_
  refine j_aload_n dL_law_175 rfl rfl ?_
  refine j_iload_n dL_law_176 rfl rfl ?_
  refine j_iconst (nI 3) dL_law_177 rfl ?_
  first | refine j_iaddN dL_law_178 ?_ | refine j_iadd dL_law_178 ?_
  refine j_sld dL_law_179 (by omega) hL ?_
  refine j_callV h5 dL_law_180 rfl mv_L_13 ho0 rfl ⟨(Nat.le_of_ble_eq_true rfl), (Nat.le_of_ble_eq_true rfl)⟩ ⟨(Nat.le_of_ble_eq_true rfl), (Nat.le_of_ble_eq_true rfl)⟩ (Nat.le_of_ble_eq_true rfl) ?_
  refine j_aload_n dL_law_183 rfl rfl ?_
  refine j_aload_n dL_law_184 rfl rfl ?_
  refine j_iload_n dL_law_185 rfl rfl ?_
  refine j_iconst (nI 1) dL_law_186 rfl ?_
  first | refine j_iaddN dL_law_187 ?_ | refine j_iadd dL_law_187 ?_
  refine j_sld dL_law_188 (by omega) hL ?_
  refine j_aload_n dL_law_189 rfl rfl ?_
  refine j_iload_n dL_law_190 rfl rfl ?_
  refine j_iconst (nI 2) dL_law_191 rfl ?_
  first | refine j_iaddN dL_law_192 ?_ | refine j_iadd dL_law_192 ?_
  refine j_sld dL_law_193 (by omega) hL ?_
  refine j_aload_n dL_law_194 rfl rfl ?_
  refine j_iload_n dL_law_195 rfl rfl ?_
  refine j_iconst (nI 3) dL_law_196 rfl ?_
  first | refine j_iaddN dL_law_197 ?_ | refine j_iadd dL_law_197 ?_
  refine j_sld dL_law_198 (by omega) hL ?_
  refine j_callV h6 dL_law_199 rfl mv_L_17 ho rfl ⟨(Nat.le_of_ble_eq_true rfl), (Nat.le_of_ble_eq_true rfl)⟩ ⟨(Nat.le_of_ble_eq_true rfl), (Nat.le_of_ble_eq_true rfl)⟩ (Nat.le_of_ble_eq_true rfl) ?_
  refine j_icmp_eq 1031 dL_law_202 (by decide) (fun b202 => ?_) (fun b202 => by exact absurd rfl b202)
  exact hn σ2 H2
theorem lc_set (hL : L ≤ 3072) (hi : i + 6 ≤ L) (H : IV σ) (hn : ∀ σ2, IV σ2 → J G RL cL_law 4 ret (TL G b L xs) 184 σ2 184 6624 1031 [some (.ref (EXT + 400)), some (.ref 0), some (.ref 171), some (.int (nI i))] []) : J G RL cL_law 4 ret (TL G b L xs) 184 σ 184 6624 207 [some (.ref (EXT + 400)), some (.ref 0), some (.ref 171), some (.int (nI i))] [] := by
  obtain ⟨v, σ1, σ2, h5, h6, H2, fs, ho⟩ := IV_set (G := G) (z := 184) H (xs (i + 1)) (xs (i + 2)) (xs (i + 3))
  obtain ⟨fs0, ho0⟩ := IV_0 H
  refine j_aload_n dL_law_207 rfl rfl ?_
  refine j_aload_n dL_law_208 rfl rfl ?_
  refine j_iload_n dL_law_209 rfl rfl ?_
  refine j_iconst (nI 1) dL_law_210 rfl ?_
  first | refine j_iaddN dL_law_211 ?_ | refine j_iadd dL_law_211 ?_
  refine j_sld dL_law_212 (by omega) hL ?_
  refine j_aload_n dL_law_213 rfl rfl ?_
  refine j_iload_n dL_law_214 rfl rfl ?_
  refine j_iconst (nI 2) dL_law_215 rfl ?_
  first | refine j_iaddN dL_law_216 ?_ | refine j_iadd dL_law_216 ?_
  refine j_sld dL_law_217 (by omega) hL ?_
  refine j_aload_n dL_law_218 rfl rfl ?_
  refine j_iload_n dL_law_219 rfl rfl ?_
  refine j_iconst (nI 3) dL_law_220 rfl ?_
  first | refine j_iaddN dL_law_221 ?_ | refine j_iadd dL_law_221 ?_
  refine j_sld dL_law_222 (by omega) hL ?_
  refine j_callV h5 dL_law_223 rfl mv_L_18 ho0 rfl ⟨(Nat.le_of_ble_eq_true rfl), (Nat.le_of_ble_eq_true rfl)⟩ ⟨(Nat.le_of_ble_eq_true rfl), (Nat.le_of_ble_eq_true rfl)⟩ (Nat.le_of_ble_eq_true rfl) ?_
  refine j_aload_n dL_law_226 rfl rfl ?_
  refine j_aload_n dL_law_227 rfl rfl ?_
  refine j_iload_n dL_law_228 rfl rfl ?_
  refine j_iconst (nI 1) dL_law_229 rfl ?_
  first | refine j_iaddN dL_law_230 ?_ | refine j_iadd dL_law_230 ?_
  refine j_sld dL_law_231 (by omega) hL ?_
  refine j_aload_n dL_law_232 rfl rfl ?_
  refine j_iload_n dL_law_233 rfl rfl ?_
  refine j_iconst (nI 2) dL_law_234 rfl ?_
  first | refine j_iaddN dL_law_235 ?_ | refine j_iadd dL_law_235 ?_
  refine j_sld dL_law_236 (by omega) hL ?_
  refine j_aload_n dL_law_237 rfl rfl ?_
  refine j_iload_n dL_law_238 rfl rfl ?_
  refine j_iconst (nI 3) dL_law_239 rfl ?_
  first | refine j_iaddN dL_law_240 ?_ | refine j_iadd dL_law_240 ?_
  refine j_sld dL_law_241 (by omega) hL ?_
  refine j_callV h6 dL_law_242 rfl mv_L_21 ho rfl ⟨(Nat.le_of_ble_eq_true rfl), (Nat.le_of_ble_eq_true rfl)⟩ ⟨(Nat.le_of_ble_eq_true rfl), (Nat.le_of_ble_eq_true rfl)⟩ (Nat.le_of_ble_eq_true rfl) ?_
  refine j_icmp_eq 1031 dL_law_245 (by decide) (fun b245 => ?_) (fun b245 => by exact absurd rfl b245)
  exact hn σ2 H2
theorem lc_copy (hL : L ≤ 3072) (hi : i + 6 ≤ L) (H : IV σ) (hn : ∀ σ2, IV σ2 → J G RL cL_law 4 ret (TL G b L xs) 184 σ2 184 6624 1031 [some (.ref (EXT + 400)), some (.ref 0), some (.ref 171), some (.int (nI i))] []) : J G RL cL_law 4 ret (TL G b L xs) 184 σ 184 6624 250 [some (.ref (EXT + 400)), some (.ref 0), some (.ref 171), some (.int (nI i))] [] := by
  obtain ⟨v, σ1, σ2, h5, h6, H2, fs, ho⟩ := IV_copy (G := G) (z := 184) H (xs (i + 1)) (xs (i + 2)) (xs (i + 3)) (xs (i + 4)) (xs (i + 5))
  obtain ⟨fs0, ho0⟩ := IV_0 H
  refine j_aload_n dL_law_250 rfl rfl ?_
  refine j_aload_n dL_law_251 rfl rfl ?_
  refine j_iload_n dL_law_252 rfl rfl ?_
  refine j_iconst (nI 1) dL_law_253 rfl ?_
  first | refine j_iaddN dL_law_254 ?_ | refine j_iadd dL_law_254 ?_
  refine j_sld dL_law_255 (by omega) hL ?_
  refine j_aload_n dL_law_256 rfl rfl ?_
  refine j_iload_n dL_law_257 rfl rfl ?_
  refine j_iconst (nI 2) dL_law_258 rfl ?_
  first | refine j_iaddN dL_law_259 ?_ | refine j_iadd dL_law_259 ?_
  refine j_sld dL_law_260 (by omega) hL ?_
  refine j_aload_n dL_law_261 rfl rfl ?_
  refine j_iload_n dL_law_262 rfl rfl ?_
  refine j_iconst (nI 3) dL_law_263 rfl ?_
  first | refine j_iaddN dL_law_264 ?_ | refine j_iadd dL_law_264 ?_
  refine j_sld dL_law_265 (by omega) hL ?_
  refine j_aload_n dL_law_266 rfl rfl ?_
  refine j_iload_n dL_law_267 rfl rfl ?_
  refine j_iconst (nI 4) dL_law_268 rfl ?_
  first | refine j_iaddN dL_law_269 ?_ | refine j_iadd dL_law_269 ?_
  refine j_sld dL_law_270 (by omega) hL ?_
  refine j_aload_n dL_law_271 rfl rfl ?_
  refine j_iload_n dL_law_272 rfl rfl ?_
  refine j_iconst (nI 5) dL_law_273 rfl ?_
  first | refine j_iaddN dL_law_274 ?_ | refine j_iadd dL_law_274 ?_
  refine j_sld dL_law_275 (by omega) hL ?_
  refine j_callV h5 dL_law_276 rfl mv_L_22 ho0 rfl ⟨(Nat.le_of_ble_eq_true rfl), (Nat.le_of_ble_eq_true rfl)⟩ ⟨(Nat.le_of_ble_eq_true rfl), (Nat.le_of_ble_eq_true rfl)⟩ (Nat.le_of_ble_eq_true rfl) ?_
  refine j_aload_n dL_law_279 rfl rfl ?_
  refine j_aload_n dL_law_280 rfl rfl ?_
  refine j_iload_n dL_law_281 rfl rfl ?_
  refine j_iconst (nI 1) dL_law_282 rfl ?_
  first | refine j_iaddN dL_law_283 ?_ | refine j_iadd dL_law_283 ?_
  refine j_sld dL_law_284 (by omega) hL ?_
  refine j_aload_n dL_law_285 rfl rfl ?_
  refine j_iload_n dL_law_286 rfl rfl ?_
  refine j_iconst (nI 2) dL_law_287 rfl ?_
  first | refine j_iaddN dL_law_288 ?_ | refine j_iadd dL_law_288 ?_
  refine j_sld dL_law_289 (by omega) hL ?_
  refine j_aload_n dL_law_290 rfl rfl ?_
  refine j_iload_n dL_law_291 rfl rfl ?_
  refine j_iconst (nI 3) dL_law_292 rfl ?_
  first | refine j_iaddN dL_law_293 ?_ | refine j_iadd dL_law_293 ?_
  refine j_sld dL_law_294 (by omega) hL ?_
  refine j_aload_n dL_law_295 rfl rfl ?_
  refine j_iload_n dL_law_296 rfl rfl ?_
  refine j_iconst (nI 4) dL_law_297 rfl ?_
  first | refine j_iaddN dL_law_298 ?_ | refine j_iadd dL_law_298 ?_
  refine j_sld dL_law_299 (by omega) hL ?_
  refine j_aload_n dL_law_300 rfl rfl ?_
  refine j_iload_n dL_law_301 rfl rfl ?_
  refine j_iconst (nI 5) dL_law_302 rfl ?_
  first | refine j_iaddN dL_law_303 ?_ | refine j_iadd dL_law_303 ?_
  refine j_sld dL_law_304 (by omega) hL ?_
  refine j_callV h6 dL_law_305 rfl mv_L_26 ho rfl ⟨(Nat.le_of_ble_eq_true rfl), (Nat.le_of_ble_eq_true rfl)⟩ ⟨(Nat.le_of_ble_eq_true rfl), (Nat.le_of_ble_eq_true rfl)⟩ (Nat.le_of_ble_eq_true rfl) ?_
  refine j_icmp_eq 1031 dL_law_308 (by decide) (fun b308 => ?_) (fun b308 => by exact absurd rfl b308)
  exact hn σ2 H2
theorem lc_drop (hL : L ≤ 3072) (hi : i + 6 ≤ L) (H : IV σ) (hn : ∀ σ2, IV σ2 → J G RL cL_law 4 ret (TL G b L xs) 184 σ2 184 6624 1031 [some (.ref (EXT + 400)), some (.ref 0), some (.ref 171), some (.int (nI i))] []) : J G RL cL_law 4 ret (TL G b L xs) 184 σ 184 6624 313 [some (.ref (EXT + 400)), some (.ref 0), some (.ref 171), some (.int (nI i))] [] := by
  obtain ⟨v, σ1, σ2, h5, h6, H2, fs, ho⟩ := IV_drop (G := G) (z := 184) H (xs (i + 1))
  obtain ⟨fs0, ho0⟩ := IV_0 H
  refine j_aload_n dL_law_313 rfl rfl ?_
  refine j_aload_n dL_law_314 rfl rfl ?_
  refine j_iload_n dL_law_315 rfl rfl ?_
  refine j_iconst (nI 1) dL_law_316 rfl ?_
  first | refine j_iaddN dL_law_317 ?_ | refine j_iadd dL_law_317 ?_
  refine j_sld dL_law_318 (by omega) hL ?_
  refine j_callV h5 dL_law_319 rfl mv_L_27 ho0 rfl ⟨(Nat.le_of_ble_eq_true rfl), (Nat.le_of_ble_eq_true rfl)⟩ ⟨(Nat.le_of_ble_eq_true rfl), (Nat.le_of_ble_eq_true rfl)⟩ (Nat.le_of_ble_eq_true rfl) ?_
  refine j_aload_n dL_law_322 rfl rfl ?_
  refine j_aload_n dL_law_323 rfl rfl ?_
  refine j_iload_n dL_law_324 rfl rfl ?_
  refine j_iconst (nI 1) dL_law_325 rfl ?_
  first | refine j_iaddN dL_law_326 ?_ | refine j_iadd dL_law_326 ?_
  refine j_sld dL_law_327 (by omega) hL ?_
  refine j_callV h6 dL_law_328 rfl mv_L_31 ho rfl ⟨(Nat.le_of_ble_eq_true rfl), (Nat.le_of_ble_eq_true rfl)⟩ ⟨(Nat.le_of_ble_eq_true rfl), (Nat.le_of_ble_eq_true rfl)⟩ (Nat.le_of_ble_eq_true rfl) ?_
  refine j_icmp_eq 1031 dL_law_331 (by decide) (fun b331 => ?_) (fun b331 => by exact absurd rfl b331)
  exact hn σ2 H2
theorem lc_feed (hL : L ≤ 3072) (hi : i + 6 ≤ L) (H : IV σ) (hn : ∀ σ2, IV σ2 → J G RL cL_law 4 ret (TL G b L xs) 184 σ2 184 6624 1031 [some (.ref (EXT + 400)), some (.ref 0), some (.ref 171), some (.int (nI i))] []) : J G RL cL_law 4 ret (TL G b L xs) 184 σ 184 6624 336 [some (.ref (EXT + 400)), some (.ref 0), some (.ref 171), some (.int (nI i))] [] := by
  obtain ⟨v, σ1, σ2, h5, h6, H2, fs, ho⟩ := IV_feed (G := G) (z := 184) H ((xs (i + 1)).toInt64 <<< ((nI 32).toInt64 &&& 63) ||| ((xs (i + 2)).toInt64 &&& 4294967295)) (xs (i + 3))
  obtain ⟨fs0, ho0⟩ := IV_0 H
  refine j_aload_n dL_law_336 rfl rfl ?_
  refine j_aload_n dL_law_337 rfl rfl ?_
  refine j_iload_n dL_law_338 rfl rfl ?_
  refine j_iconst (nI 1) dL_law_339 rfl ?_
  first | refine j_iaddN dL_law_340 ?_ | refine j_iadd dL_law_340 ?_
  refine j_sld dL_law_341 (by omega) hL ?_
  refine j_i2l dL_law_342 ?_
  refine j_bipush (nI 32) dL_law_343 rfl ?_
  refine j_lshl dL_law_345 ?_
  refine j_aload_n dL_law_346 rfl rfl ?_
  refine j_iload_n dL_law_347 rfl rfl ?_
  refine j_iconst (nI 2) dL_law_348 rfl ?_
  first | refine j_iaddN dL_law_349 ?_ | refine j_iadd dL_law_349 ?_
  refine j_sld dL_law_350 (by omega) hL ?_
  refine j_i2l dL_law_351 ?_
  refine j_ldc2 (4294967295) dL_law_352 kl_L_32 ?_
  refine j_land dL_law_355 ?_
  refine j_lor dL_law_356 ?_
  refine j_aload_n dL_law_357 rfl rfl ?_
  refine j_iload_n dL_law_358 rfl rfl ?_
  refine j_iconst (nI 3) dL_law_359 rfl ?_
  first | refine j_iaddN dL_law_360 ?_ | refine j_iadd dL_law_360 ?_
  refine j_sld dL_law_361 (by omega) hL ?_
  refine j_callV h5 dL_law_362 rfl mv_L_34 ho0 rfl ⟨(Nat.le_of_ble_eq_true rfl), (Nat.le_of_ble_eq_true rfl)⟩ ⟨(Nat.le_of_ble_eq_true rfl), (Nat.le_of_ble_eq_true rfl)⟩ (Nat.le_of_ble_eq_true rfl) ?_
  refine j_aload_n dL_law_365 rfl rfl ?_
  refine j_aload_n dL_law_366 rfl rfl ?_
  refine j_iload_n dL_law_367 rfl rfl ?_
  refine j_iconst (nI 1) dL_law_368 rfl ?_
  first | refine j_iaddN dL_law_369 ?_ | refine j_iadd dL_law_369 ?_
  refine j_sld dL_law_370 (by omega) hL ?_
  refine j_i2l dL_law_371 ?_
  refine j_bipush (nI 32) dL_law_372 rfl ?_
  refine j_lshl dL_law_374 ?_
  refine j_aload_n dL_law_375 rfl rfl ?_
  refine j_iload_n dL_law_376 rfl rfl ?_
  refine j_iconst (nI 2) dL_law_377 rfl ?_
  first | refine j_iaddN dL_law_378 ?_ | refine j_iadd dL_law_378 ?_
  refine j_sld dL_law_379 (by omega) hL ?_
  refine j_i2l dL_law_380 ?_
  refine j_ldc2 (4294967295) dL_law_381 kl_L_32 ?_
  refine j_land dL_law_384 ?_
  refine j_lor dL_law_385 ?_
  refine j_aload_n dL_law_386 rfl rfl ?_
  refine j_iload_n dL_law_387 rfl rfl ?_
  refine j_iconst (nI 3) dL_law_388 rfl ?_
  first | refine j_iaddN dL_law_389 ?_ | refine j_iadd dL_law_389 ?_
  refine j_sld dL_law_390 (by omega) hL ?_
  refine j_callV h6 dL_law_391 rfl mv_L_38 ho rfl ⟨(Nat.le_of_ble_eq_true rfl), (Nat.le_of_ble_eq_true rfl)⟩ ⟨(Nat.le_of_ble_eq_true rfl), (Nat.le_of_ble_eq_true rfl)⟩ (Nat.le_of_ble_eq_true rfl) ?_
  refine j_icmp_eq 1031 dL_law_394 (by decide) (fun b394 => ?_) (fun b394 => by exact absurd rfl b394)
  exact hn σ2 H2
end LC
