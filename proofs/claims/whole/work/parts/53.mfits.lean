/-! THE MODEL's calls: fits (template printed by wip/tools/mkm53.py) -/
theorem dX6_fits_0 : decode cX6_fits 0 = .ok (.iload_n 1, 1) := by decide +kernel
theorem dX6_fits_1 : decode cX6_fits 1 = .ok (.invokestatic 58, 3) := by decide +kernel
theorem dX6_fits_4 : decode cX6_fits 4 = .ok (.ifCond .eq 15, 3) := by decide +kernel
theorem dX6_fits_7 : decode cX6_fits 7 = .ok (.iload_n 3, 1) := by decide +kernel
theorem dX6_fits_8 : decode cX6_fits 8 = .ok (.i2l, 1) := by decide +kernel
theorem dX6_fits_9 : decode cX6_fits 9 = .ok (.lconst 0, 1) := by decide +kernel
theorem dX6_fits_10 : decode cX6_fits 10 = .ok (.ldc2_w 189, 3) := by decide +kernel
theorem dX6_fits_13 : decode cX6_fits 13 = .ok (.invokestatic 54, 3) := by decide +kernel
theorem dX6_fits_16 : decode cX6_fits 16 = .ok (.ifCond .ne 6, 3) := by decide +kernel
theorem dX6_fits_19 : decode cX6_fits 19 = .ok (.ldc 64, 2) := by decide +kernel
theorem dX6_fits_21 : decode cX6_fits 21 = .ok (.ireturn, 1) := by decide +kernel
theorem dX6_fits_22 : decode cX6_fits 22 = .ok (.aload_n 0, 1) := by decide +kernel
theorem dX6_fits_23 : decode cX6_fits 23 = .ok (.getfield 26, 3) := by decide +kernel
theorem dX6_fits_26 : decode cX6_fits 26 = .ok (.iload_n 1, 1) := by decide +kernel
theorem dX6_fits_27 : decode cX6_fits 27 = .ok (.iaload, 1) := by decide +kernel
theorem dX6_fits_28 : decode cX6_fits 28 = .ok (.ifCond .ge 9, 3) := by decide +kernel
theorem dX6_fits_31 : decode cX6_fits 31 = .ok (.aload_n 0, 1) := by decide +kernel
theorem dX6_fits_32 : decode cX6_fits 32 = .ok (.iconst 1, 1) := by decide +kernel
theorem dX6_fits_33 : decode cX6_fits 33 = .ok (.invokevirtual 65, 3) := by decide +kernel
theorem dX6_fits_36 : decode cX6_fits 36 = .ok (.ireturn, 1) := by decide +kernel
theorem dX6_fits_37 : decode cX6_fits 37 = .ok (.iload_n 2, 1) := by decide +kernel
theorem dX6_fits_38 : decode cX6_fits 38 = .ok (.ifCond .lt 20, 3) := by decide +kernel
theorem dX6_fits_41 : decode cX6_fits 41 = .ok (.iload_n 2, 1) := by decide +kernel
theorem dX6_fits_42 : decode cX6_fits 42 = .ok (.i2l, 1) := by decide +kernel
theorem dX6_fits_43 : decode cX6_fits 43 = .ok (.ldc2_w 191, 3) := by decide +kernel
theorem dX6_fits_46 : decode cX6_fits 46 = .ok (.ladd, 1) := by decide +kernel
theorem dX6_fits_47 : decode cX6_fits 47 = .ok (.aload_n 0, 1) := by decide +kernel
theorem dX6_fits_48 : decode cX6_fits 48 = .ok (.getfield 26, 3) := by decide +kernel
theorem dX6_fits_51 : decode cX6_fits 51 = .ok (.iload_n 1, 1) := by decide +kernel
theorem dX6_fits_52 : decode cX6_fits 52 = .ok (.iaload, 1) := by decide +kernel
theorem dX6_fits_53 : decode cX6_fits 53 = .ok (.i2l, 1) := by decide +kernel
theorem dX6_fits_54 : decode cX6_fits 54 = .ok (.lcmp, 1) := by decide +kernel
theorem dX6_fits_55 : decode cX6_fits 55 = .ok (.ifCond .le 9, 3) := by decide +kernel
theorem dX6_fits_58 : decode cX6_fits 58 = .ok (.aload_n 0, 1) := by decide +kernel
theorem dX6_fits_59 : decode cX6_fits 59 = .ok (.iconst 2, 1) := by decide +kernel
theorem dX6_fits_60 : decode cX6_fits 60 = .ok (.invokevirtual 65, 3) := by decide +kernel
theorem dX6_fits_63 : decode cX6_fits 63 = .ok (.ireturn, 1) := by decide +kernel
theorem dX6_fits_64 : decode cX6_fits 64 = .ok (.iconst 1, 1) := by decide +kernel
theorem dX6_fits_65 : decode cX6_fits 65 = .ok (.istore 4, 2) := by decide +kernel
theorem dX6_fits_67 : decode cX6_fits 67 = .ok (.iconst 0, 1) := by decide +kernel
theorem dX6_fits_68 : decode cX6_fits 68 = .ok (.istore 5, 2) := by decide +kernel
theorem dX6_fits_70 : decode cX6_fits 70 = .ok (.iload 5, 2) := by decide +kernel
theorem dX6_fits_72 : decode cX6_fits 72 = .ok (.bipush 6, 2) := by decide +kernel
theorem dX6_fits_74 : decode cX6_fits 74 = .ok (.if_icmp .ge 74, 3) := by decide +kernel
theorem dX6_fits_77 : decode cX6_fits 77 = .ok (.aload_n 0, 1) := by decide +kernel
theorem dX6_fits_78 : decode cX6_fits 78 = .ok (.getfield 32, 3) := by decide +kernel
theorem dX6_fits_81 : decode cX6_fits 81 = .ok (.bipush 40, 2) := by decide +kernel
theorem dX6_fits_83 : decode cX6_fits 83 = .ok (.iload_n 1, 1) := by decide +kernel
theorem dX6_fits_84 : decode cX6_fits 84 = .ok (.imul, 1) := by decide +kernel
theorem dX6_fits_85 : decode cX6_fits 85 = .ok (.iload_n 2, 1) := by decide +kernel
theorem dX6_fits_86 : decode cX6_fits 86 = .ok (.iadd, 1) := by decide +kernel
theorem dX6_fits_87 : decode cX6_fits 87 = .ok (.iload 5, 2) := by decide +kernel
theorem dX6_fits_89 : decode cX6_fits 89 = .ok (.iadd, 1) := by decide +kernel
theorem dX6_fits_90 : decode cX6_fits 90 = .ok (.iaload, 1) := by decide +kernel
theorem dX6_fits_91 : decode cX6_fits 91 = .ok (.istore 6, 2) := by decide +kernel
theorem dX6_fits_93 : decode cX6_fits 93 = .ok (.iload 4, 2) := by decide +kernel
theorem dX6_fits_95 : decode cX6_fits 95 = .ok (.ifCond .eq 44, 3) := by decide +kernel
theorem dX6_fits_98 : decode cX6_fits 98 = .ok (.iload 5, 2) := by decide +kernel
theorem dX6_fits_100 : decode cX6_fits 100 = .ok (.iconst 3, 1) := by decide +kernel
theorem dX6_fits_101 : decode cX6_fits 101 = .ok (.if_icmp .ge 19, 3) := by decide +kernel
theorem dX6_fits_104 : decode cX6_fits 104 = .ok (.iload 6, 2) := by decide +kernel
theorem dX6_fits_106 : decode cX6_fits 106 = .ok (.i2l, 1) := by decide +kernel
theorem dX6_fits_107 : decode cX6_fits 107 = .ok (.lconst 0, 1) := by decide +kernel
theorem dX6_fits_108 : decode cX6_fits 108 = .ok (.ldc2_w 170, 3) := by decide +kernel
theorem dX6_fits_111 : decode cX6_fits 111 = .ok (.invokestatic 54, 3) := by decide +kernel
theorem dX6_fits_114 : decode cX6_fits 114 = .ok (.ifCond .eq 25, 3) := by decide +kernel
theorem dX6_fits_117 : decode cX6_fits 117 = .ok (.goto 18, 3) := by decide +kernel
theorem dX6_fits_120 : decode cX6_fits 120 = .ok (.iload 6, 2) := by decide +kernel
theorem dX6_fits_122 : decode cX6_fits 122 = .ok (.i2l, 1) := by decide +kernel
theorem dX6_fits_123 : decode cX6_fits 123 = .ok (.ldc2_w 193, 3) := by decide +kernel
theorem dX6_fits_126 : decode cX6_fits 126 = .ok (.ldc2_w 170, 3) := by decide +kernel
theorem dX6_fits_129 : decode cX6_fits 129 = .ok (.invokestatic 54, 3) := by decide +kernel
theorem dX6_fits_132 : decode cX6_fits 132 = .ok (.ifCond .eq 7, 3) := by decide +kernel
theorem dX6_fits_135 : decode cX6_fits 135 = .ok (.iconst 1, 1) := by decide +kernel
theorem dX6_fits_136 : decode cX6_fits 136 = .ok (.goto 4, 3) := by decide +kernel
theorem dX6_fits_139 : decode cX6_fits 139 = .ok (.iconst 0, 1) := by decide +kernel
theorem dX6_fits_140 : decode cX6_fits 140 = .ok (.istore 4, 2) := by decide +kernel
theorem dX6_fits_142 : decode cX6_fits 142 = .ok (.iinc 5 1, 3) := by decide +kernel
theorem dX6_fits_145 : decode cX6_fits 145 = .ok (.goto (-75), 3) := by decide +kernel
theorem dX6_fits_148 : decode cX6_fits 148 = .ok (.iload 4, 2) := by decide +kernel
theorem dX6_fits_150 : decode cX6_fits 150 = .ok (.ifCond .ne 6, 3) := by decide +kernel
theorem dX6_fits_153 : decode cX6_fits 153 = .ok (.ldc 64, 2) := by decide +kernel
theorem dX6_fits_155 : decode cX6_fits 155 = .ok (.ireturn, 1) := by decide +kernel
theorem dX6_fits_156 : decode cX6_fits 156 = .ok (.iconst 1, 1) := by decide +kernel
theorem dX6_fits_157 : decode cX6_fits 157 = .ok (.istore 5, 2) := by decide +kernel
theorem dX6_fits_159 : decode cX6_fits 159 = .ok (.iconst 0, 1) := by decide +kernel
theorem dX6_fits_160 : decode cX6_fits 160 = .ok (.istore 6, 2) := by decide +kernel
theorem dX6_fits_162 : decode cX6_fits 162 = .ok (.iload 6, 2) := by decide +kernel
theorem dX6_fits_164 : decode cX6_fits 164 = .ok (.bipush 6, 2) := by decide +kernel
theorem dX6_fits_166 : decode cX6_fits 166 = .ok (.if_icmp .ge 17, 3) := by decide +kernel
theorem dX6_fits_169 : decode cX6_fits 169 = .ok (.iload 5, 2) := by decide +kernel
theorem dX6_fits_171 : decode cX6_fits 171 = .ok (.iload_n 3, 1) := by decide +kernel
theorem dX6_fits_172 : decode cX6_fits 172 = .ok (.iconst 1, 1) := by decide +kernel
theorem dX6_fits_173 : decode cX6_fits 173 = .ok (.iadd, 1) := by decide +kernel
theorem dX6_fits_174 : decode cX6_fits 174 = .ok (.imul, 1) := by decide +kernel
theorem dX6_fits_175 : decode cX6_fits 175 = .ok (.istore 5, 2) := by decide +kernel
theorem dX6_fits_177 : decode cX6_fits 177 = .ok (.iinc 6 1, 3) := by decide +kernel
theorem dX6_fits_180 : decode cX6_fits 180 = .ok (.goto (-18), 3) := by decide +kernel
theorem dX6_fits_183 : decode cX6_fits 183 = .ok (.iconst 0, 1) := by decide +kernel
theorem dX6_fits_184 : decode cX6_fits 184 = .ok (.istore 6, 2) := by decide +kernel
theorem dX6_fits_186 : decode cX6_fits 186 = .ok (.iconst 0, 1) := by decide +kernel
theorem dX6_fits_187 : decode cX6_fits 187 = .ok (.istore 7, 2) := by decide +kernel
theorem dX6_fits_189 : decode cX6_fits 189 = .ok (.iload 7, 2) := by decide +kernel
theorem dX6_fits_191 : decode cX6_fits 191 = .ok (.iload 5, 2) := by decide +kernel
theorem dX6_fits_193 : decode cX6_fits 193 = .ok (.if_icmp .ge 192, 3) := by decide +kernel
theorem dX6_fits_196 : decode cX6_fits 196 = .ok (.iload 7, 2) := by decide +kernel
theorem dX6_fits_198 : decode cX6_fits 198 = .ok (.istore 8, 2) := by decide +kernel
theorem dX6_fits_200 : decode cX6_fits 200 = .ok (.iconst 0, 1) := by decide +kernel
theorem dX6_fits_201 : decode cX6_fits 201 = .ok (.istore 9, 2) := by decide +kernel
theorem dX6_fits_203 : decode cX6_fits 203 = .ok (.iload 9, 2) := by decide +kernel
theorem dX6_fits_205 : decode cX6_fits 205 = .ok (.bipush 6, 2) := by decide +kernel
theorem dX6_fits_207 : decode cX6_fits 207 = .ok (.if_icmp .ge 30, 3) := by decide +kernel
theorem dX6_fits_210 : decode cX6_fits 210 = .ok (.aload_n 0, 1) := by decide +kernel
theorem dX6_fits_211 : decode cX6_fits 211 = .ok (.getfield 38, 3) := by decide +kernel
theorem dX6_fits_214 : decode cX6_fits 214 = .ok (.iload 9, 2) := by decide +kernel
theorem dX6_fits_216 : decode cX6_fits 216 = .ok (.iload 8, 2) := by decide +kernel
theorem dX6_fits_218 : decode cX6_fits 218 = .ok (.iload_n 3, 1) := by decide +kernel
theorem dX6_fits_219 : decode cX6_fits 219 = .ok (.iconst 1, 1) := by decide +kernel
theorem dX6_fits_220 : decode cX6_fits 220 = .ok (.iadd, 1) := by decide +kernel
theorem dX6_fits_221 : decode cX6_fits 221 = .ok (.irem, 1) := by decide +kernel
theorem dX6_fits_222 : decode cX6_fits 222 = .ok (.iastore, 1) := by decide +kernel
theorem dX6_fits_223 : decode cX6_fits 223 = .ok (.iload 8, 2) := by decide +kernel
theorem dX6_fits_225 : decode cX6_fits 225 = .ok (.iload_n 3, 1) := by decide +kernel
theorem dX6_fits_226 : decode cX6_fits 226 = .ok (.iconst 1, 1) := by decide +kernel
theorem dX6_fits_227 : decode cX6_fits 227 = .ok (.iadd, 1) := by decide +kernel
theorem dX6_fits_228 : decode cX6_fits 228 = .ok (.idiv, 1) := by decide +kernel
theorem dX6_fits_229 : decode cX6_fits 229 = .ok (.istore 8, 2) := by decide +kernel
theorem dX6_fits_231 : decode cX6_fits 231 = .ok (.iinc 9 1, 3) := by decide +kernel
theorem dX6_fits_234 : decode cX6_fits 234 = .ok (.goto (-31), 3) := by decide +kernel
theorem dX6_fits_237 : decode cX6_fits 237 = .ok (.iconst 1, 1) := by decide +kernel
theorem dX6_fits_238 : decode cX6_fits 238 = .ok (.istore 9, 2) := by decide +kernel
theorem dX6_fits_240 : decode cX6_fits 240 = .ok (.iconst 0, 1) := by decide +kernel
theorem dX6_fits_241 : decode cX6_fits 241 = .ok (.istore 10, 2) := by decide +kernel
theorem dX6_fits_243 : decode cX6_fits 243 = .ok (.iload 10, 2) := by decide +kernel
theorem dX6_fits_245 : decode cX6_fits 245 = .ok (.iconst 3, 1) := by decide +kernel
theorem dX6_fits_246 : decode cX6_fits 246 = .ok (.if_icmp .ge 118, 3) := by decide +kernel
theorem dX6_fits_249 : decode cX6_fits 249 = .ok (.aload_n 0, 1) := by decide +kernel
theorem dX6_fits_250 : decode cX6_fits 250 = .ok (.getfield 38, 3) := by decide +kernel
theorem dX6_fits_253 : decode cX6_fits 253 = .ok (.iconst 2, 1) := by decide +kernel
theorem dX6_fits_254 : decode cX6_fits 254 = .ok (.iload 10, 2) := by decide +kernel
theorem dX6_fits_256 : decode cX6_fits 256 = .ok (.imul, 1) := by decide +kernel
theorem dX6_fits_257 : decode cX6_fits 257 = .ok (.iaload, 1) := by decide +kernel
theorem dX6_fits_258 : decode cX6_fits 258 = .ok (.aload_n 0, 1) := by decide +kernel
theorem dX6_fits_259 : decode cX6_fits 259 = .ok (.getfield 38, 3) := by decide +kernel
theorem dX6_fits_262 : decode cX6_fits 262 = .ok (.iconst 2, 1) := by decide +kernel
theorem dX6_fits_263 : decode cX6_fits 263 = .ok (.iload 10, 2) := by decide +kernel
theorem dX6_fits_265 : decode cX6_fits 265 = .ok (.imul, 1) := by decide +kernel
theorem dX6_fits_266 : decode cX6_fits 266 = .ok (.iconst 1, 1) := by decide +kernel
theorem dX6_fits_267 : decode cX6_fits 267 = .ok (.iadd, 1) := by decide +kernel
theorem dX6_fits_268 : decode cX6_fits 268 = .ok (.iaload, 1) := by decide +kernel
theorem dX6_fits_269 : decode cX6_fits 269 = .ok (.iadd, 1) := by decide +kernel
theorem dX6_fits_270 : decode cX6_fits 270 = .ok (.istore 11, 2) := by decide +kernel
theorem dX6_fits_272 : decode cX6_fits 272 = .ok (.aload_n 0, 1) := by decide +kernel
theorem dX6_fits_273 : decode cX6_fits 273 = .ok (.getfield 38, 3) := by decide +kernel
theorem dX6_fits_276 : decode cX6_fits 276 = .ok (.iconst 2, 1) := by decide +kernel
theorem dX6_fits_277 : decode cX6_fits 277 = .ok (.iload 10, 2) := by decide +kernel
theorem dX6_fits_279 : decode cX6_fits 279 = .ok (.iconst 2, 1) := by decide +kernel
theorem dX6_fits_280 : decode cX6_fits 280 = .ok (.iadd, 1) := by decide +kernel
theorem dX6_fits_281 : decode cX6_fits 281 = .ok (.iconst 3, 1) := by decide +kernel
theorem dX6_fits_282 : decode cX6_fits 282 = .ok (.irem, 1) := by decide +kernel
theorem dX6_fits_283 : decode cX6_fits 283 = .ok (.imul, 1) := by decide +kernel
theorem dX6_fits_284 : decode cX6_fits 284 = .ok (.iaload, 1) := by decide +kernel
theorem dX6_fits_285 : decode cX6_fits 285 = .ok (.aload_n 0, 1) := by decide +kernel
theorem dX6_fits_286 : decode cX6_fits 286 = .ok (.getfield 38, 3) := by decide +kernel
theorem dX6_fits_289 : decode cX6_fits 289 = .ok (.iconst 2, 1) := by decide +kernel
theorem dX6_fits_290 : decode cX6_fits 290 = .ok (.iload 10, 2) := by decide +kernel
theorem dX6_fits_292 : decode cX6_fits 292 = .ok (.iconst 1, 1) := by decide +kernel
theorem dX6_fits_293 : decode cX6_fits 293 = .ok (.iadd, 1) := by decide +kernel
theorem dX6_fits_294 : decode cX6_fits 294 = .ok (.iconst 3, 1) := by decide +kernel
theorem dX6_fits_295 : decode cX6_fits 295 = .ok (.irem, 1) := by decide +kernel
theorem dX6_fits_296 : decode cX6_fits 296 = .ok (.imul, 1) := by decide +kernel
theorem dX6_fits_297 : decode cX6_fits 297 = .ok (.iconst 1, 1) := by decide +kernel
theorem dX6_fits_298 : decode cX6_fits 298 = .ok (.iadd, 1) := by decide +kernel
theorem dX6_fits_299 : decode cX6_fits 299 = .ok (.iaload, 1) := by decide +kernel
theorem dX6_fits_300 : decode cX6_fits 300 = .ok (.iadd, 1) := by decide +kernel
theorem dX6_fits_301 : decode cX6_fits 301 = .ok (.istore 12, 2) := by decide +kernel
theorem dX6_fits_303 : decode cX6_fits 303 = .ok (.iload 9, 2) := by decide +kernel
theorem dX6_fits_305 : decode cX6_fits 305 = .ok (.ifCond .eq 50, 3) := by decide +kernel
theorem dX6_fits_308 : decode cX6_fits 308 = .ok (.iload 11, 2) := by decide +kernel
theorem dX6_fits_310 : decode cX6_fits 310 = .ok (.aload_n 0, 1) := by decide +kernel
theorem dX6_fits_311 : decode cX6_fits 311 = .ok (.getfield 32, 3) := by decide +kernel
theorem dX6_fits_314 : decode cX6_fits 314 = .ok (.bipush 40, 2) := by decide +kernel
theorem dX6_fits_316 : decode cX6_fits 316 = .ok (.iload_n 1, 1) := by decide +kernel
theorem dX6_fits_317 : decode cX6_fits 317 = .ok (.imul, 1) := by decide +kernel
theorem dX6_fits_318 : decode cX6_fits 318 = .ok (.iload_n 2, 1) := by decide +kernel
theorem dX6_fits_319 : decode cX6_fits 319 = .ok (.iadd, 1) := by decide +kernel
theorem dX6_fits_320 : decode cX6_fits 320 = .ok (.iload 10, 2) := by decide +kernel
theorem dX6_fits_322 : decode cX6_fits 322 = .ok (.iadd, 1) := by decide +kernel
theorem dX6_fits_323 : decode cX6_fits 323 = .ok (.iaload, 1) := by decide +kernel
theorem dX6_fits_324 : decode cX6_fits 324 = .ok (.if_icmp .ne 31, 3) := by decide +kernel
theorem dX6_fits_327 : decode cX6_fits 327 = .ok (.iload 12, 2) := by decide +kernel
theorem dX6_fits_329 : decode cX6_fits 329 = .ok (.iload 11, 2) := by decide +kernel
theorem dX6_fits_331 : decode cX6_fits 331 = .ok (.isub, 1) := by decide +kernel
theorem dX6_fits_332 : decode cX6_fits 332 = .ok (.aload_n 0, 1) := by decide +kernel
theorem dX6_fits_333 : decode cX6_fits 333 = .ok (.getfield 32, 3) := by decide +kernel
theorem dX6_fits_336 : decode cX6_fits 336 = .ok (.bipush 40, 2) := by decide +kernel
theorem dX6_fits_338 : decode cX6_fits 338 = .ok (.iload_n 1, 1) := by decide +kernel
theorem dX6_fits_339 : decode cX6_fits 339 = .ok (.imul, 1) := by decide +kernel
theorem dX6_fits_340 : decode cX6_fits 340 = .ok (.iload_n 2, 1) := by decide +kernel
theorem dX6_fits_341 : decode cX6_fits 341 = .ok (.iadd, 1) := by decide +kernel
theorem dX6_fits_342 : decode cX6_fits 342 = .ok (.iconst 3, 1) := by decide +kernel
theorem dX6_fits_343 : decode cX6_fits 343 = .ok (.iadd, 1) := by decide +kernel
theorem dX6_fits_344 : decode cX6_fits 344 = .ok (.iload 10, 2) := by decide +kernel
theorem dX6_fits_346 : decode cX6_fits 346 = .ok (.iadd, 1) := by decide +kernel
theorem dX6_fits_347 : decode cX6_fits 347 = .ok (.iaload, 1) := by decide +kernel
theorem dX6_fits_348 : decode cX6_fits 348 = .ok (.if_icmp .ne 7, 3) := by decide +kernel
theorem dX6_fits_351 : decode cX6_fits 351 = .ok (.iconst 1, 1) := by decide +kernel
theorem dX6_fits_352 : decode cX6_fits 352 = .ok (.goto 4, 3) := by decide +kernel
theorem dX6_fits_355 : decode cX6_fits 355 = .ok (.iconst 0, 1) := by decide +kernel
theorem dX6_fits_356 : decode cX6_fits 356 = .ok (.istore 9, 2) := by decide +kernel
theorem dX6_fits_358 : decode cX6_fits 358 = .ok (.iinc 10 1, 3) := by decide +kernel
theorem dX6_fits_361 : decode cX6_fits 361 = .ok (.goto (-118), 3) := by decide +kernel
theorem dX6_fits_364 : decode cX6_fits 364 = .ok (.iload 6, 2) := by decide +kernel
theorem dX6_fits_366 : decode cX6_fits 366 = .ok (.iload 9, 2) := by decide +kernel
theorem dX6_fits_368 : decode cX6_fits 368 = .ok (.ifCond .eq 7, 3) := by decide +kernel
theorem dX6_fits_371 : decode cX6_fits 371 = .ok (.iconst 1, 1) := by decide +kernel
theorem dX6_fits_372 : decode cX6_fits 372 = .ok (.goto 4, 3) := by decide +kernel
theorem dX6_fits_375 : decode cX6_fits 375 = .ok (.iconst 0, 1) := by decide +kernel
theorem dX6_fits_376 : decode cX6_fits 376 = .ok (.iadd, 1) := by decide +kernel
theorem dX6_fits_377 : decode cX6_fits 377 = .ok (.istore 6, 2) := by decide +kernel
theorem dX6_fits_379 : decode cX6_fits 379 = .ok (.iinc 7 1, 3) := by decide +kernel
theorem dX6_fits_382 : decode cX6_fits 382 = .ok (.goto (-193), 3) := by decide +kernel
theorem dX6_fits_385 : decode cX6_fits 385 = .ok (.aload_n 0, 1) := by decide +kernel
theorem dX6_fits_386 : decode cX6_fits 386 = .ok (.iload 6, 2) := by decide +kernel
theorem dX6_fits_388 : decode cX6_fits 388 = .ok (.invokevirtual 69, 3) := by decide +kernel
theorem dX6_fits_391 : decode cX6_fits 391 = .ok (.ireturn, 1) := by decide +kernel
/-! sums of numbers -/
def smN (f : Nat → Nat) : Nat → Nat
  | 0 => 0
  | n + 1 => smN f n + f n
theorem smN_ext {f g : Nat → Nat} : ∀ {n : Nat}, (∀ k, k < n → f k = g k) → smN f n = smN g n
  | 0, _ => rfl
  | n + 1, h => by
    show smN f n + f n = smN g n + g n
    rw [smN_ext (fun k hk => h k (by omega)), h n (by omega)]
theorem smN_add {f g : Nat → Nat} : ∀ {n : Nat}, smN (fun k => f k + g k) n = smN f n + smN g n
  | 0 => rfl
  | n + 1 => by
    show smN (fun k => f k + g k) n + (f n + g n) = (smN f n + f n) + (smN g n + g n)
    rw [smN_add]; omega
theorem smN_z {f : Nat → Nat} : ∀ {n : Nat}, (∀ k, k < n → f k = 0) → smN f n = 0
  | 0, _ => rfl
  | n + 1, h => by
    show smN f n + f n = 0
    rw [smN_z (fun k hk => h k (by omega)), h n (by omega)]
theorem smN_pick {f : Nat → Nat} {t : Nat} : ∀ {n : Nat}, t < n → (∀ k, k < n → k ≠ t → f k = 0) → smN f n = f t
  | 0, h, _ => absurd h (by omega)
  | n + 1, h, hz => by
    show smN f n + f n = f t
    by_cases e : t = n
    · subst e; rw [smN_z (fun k hk => hz k (by omega) (by omega))]; omega
    · rw [smN_pick (t := t) (by omega) (fun k hk hne => hz k (by omega) hne), hz n (by omega) (fun q => e q.symm)]; omega
theorem smN_comm {f : Nat → Nat → Nat} {b : Nat} : ∀ {a : Nat}, smN (fun i => smN (fun j => f i j) b) a = smN (fun j => smN (fun i => f i j) a) b
  | 0 => (smN_z (fun _ _ => rfl)).symm
  | a + 1 => by
    show smN (fun i => smN (fun j => f i j) b) a + smN (fun j => f a j) b = smN (fun j => smN (fun i => f i j) a + f a j) b
    rw [smN_comm (a := a), smN_add]
theorem smN_app {f : Nat → Nat} {a : Nat} : ∀ {b : Nat}, smN f (a + b) = smN f a + smN (fun k => f (a + k)) b
  | 0 => rfl
  | b + 1 => by
    show smN f (a + b) + f (a + b) = smN f a + (smN (fun k => f (a + k)) b + f (a + b))
    rw [smN_app (b := b)]; omega
theorem smN_dig {H : Nat → Nat → Nat} {b : Nat} (hb : 0 < b) : ∀ {n : Nat}, smN (fun c => H (c % b) (c / b)) (b * n) = smN (fun q => smN (fun r => H r q) b) n
  | 0 => rfl
  | n + 1 => by
    rw [Nat.mul_succ, smN_app, smN_dig hb (n := n)]
    show _ = smN (fun q => smN (fun r => H r q) b) n + smN (fun r => H r n) b
    congr 1
    refine smN_ext (fun k hk => ?_)
    rw [Nat.mul_add_mod, Nat.mod_eq_of_lt hk, Nat.mul_add_div hb, Nat.div_eq_of_lt hk, Nat.add_zero]
noncomputable def indP (p : Prop) : Nat := @ite Nat p (Classical.propDecidable p) 1 0
theorem ind_y {p : Prop} (h : p) : indP p = 1 := @if_pos p (Classical.propDecidable p) h Nat 1 0
theorem ind_n {p : Prop} (h : ¬ p) : indP p = 0 := @if_neg p (Classical.propDecidable p) h Nat 1 0
theorem ind_le (p : Prop) : indP p ≤ 1 := by
  by_cases h : p
  · rw [ind_y h]; exact Nat.le_refl 1
  · rw [ind_n h]; omega
theorem ind_i {p q : Prop} (h : p ↔ q) : indP p = indP q := by rw [propext h]
/-! the model's codes -/
def lfM (m c : Nat) : Nat → Nat
  | 0 => c
  | k + 1 => lfM m c k / (m + 1)
def dgM (m c k : Nat) : Nat := lfM m c k % (m + 1)
def sxB (m : Nat) (f : Nat → Int32) (c : Nat) : Nat → Nat → Int32
  | 0 => f
  | k + 1 => upd (sxB m f c k) k (nI (dgM m c k))
def sxA (m : Nat) (f : Nat → Int32) : Nat → Nat → Int32
  | 0 => f
  | c + 1 => sxB m (sxA m f c) c 6
theorem sxB_at {m : Nat} {f : Nat → Int32} {c j : Nat} : ∀ {k : Nat}, j < k → sxB m f c k j = nI (dgM m c j)
  | 0, h => absurd h (by omega)
  | k + 1, h => by
    show upd (sxB m f c k) k (nI (dgM m c k)) j = _
    by_cases e : j = k
    · subst e; exact pk_us
    · rw [pk_un e]; exact sxB_at (by omega)
theorem lfM_le (m c : Nat) : ∀ k, lfM m c k ≤ c
  | 0 => Nat.le_refl c
  | k + 1 => Nat.le_trans (Nat.div_le_self _ _) (lfM_le m c k)
theorem dgM_lt (m c k : Nat) : dgM m c k < m + 1 := Nat.mod_lt _ (by omega)
/-- what a man owes, what he gets: of six debts -/
def fxC (it : Nat → Int32) (i x0 x1 x2 x3 x4 x5 : Nat) : Prop := (nI (x0 + x1) = it i ∧ nI (x4 + x3) - nI (x0 + x1) = it (i + 3)) ∧ (nI (x2 + x3) = it (i + 1) ∧ nI (x0 + x5) - nI (x2 + x3) = it (i + 4)) ∧ (nI (x4 + x5) = it (i + 2) ∧ nI (x2 + x1) - nI (x4 + x5) = it (i + 5))
def fxM (it : Nat → Int32) (i m c : Nat) : Prop := fxC it i (dgM m c 0) (dgM m c 1) (dgM m c 2) (dgM m c 3) (dgM m c 4) (dgM m c 5)
theorem wi_y {x : Int32} {m a : Nat} (hm : m ≤ 3) (ha : a ≤ m) : (¬ wiI (x - nI a) m = 0 ↔ ∃ t, t < m + 1 ∧ nI (a + t) = x) := by
  constructor
  · intro h
    unfold wiI at h
    by_cases h1 : x - nI a < 0
    · rw [if_pos h1] at h; exact absurd rfl h
    · rw [if_neg h1] at h
      by_cases h2 : nI m < x - nI a
      · rw [if_pos h2] at h; exact absurd rfl h
      · obtain ⟨t, ht, e⟩ := nI_of2 (n := m) (nI_toInt (by omega)) h1 (Int32.not_lt.mp h2)
        refine ⟨t, by omega, ?_⟩
        rw [← nI_add, ← e, Int32.add_comm]
        exact Int32.sub_add_cancel _ _
  · intro h
    obtain ⟨t, ht, e⟩ := h
    have e2 : x - nI a = nI t := by rw [← e, pk_sub (by omega)]; congr 1; omega
    unfold wiI
    rw [e2, if_neg (nI_pos (by omega)), if_neg (nI_nlt (by omega) (by omega))]
    decide
theorem nI_sb {a b : Nat} (x : Int32) (h : nI (a + b) = x) : x - nI a = nI b := by rw [← h, pk_sub (by omega)]; congr 1; omega
theorem sb_sb (x y v : Int32) : x - y - v = x - (y + v) := by
  rw [Int32.sub_eq_add_neg, Int32.sub_eq_add_neg, Int32.sub_eq_add_neg, Int32.neg_add, Int32.add_assoc]
  congr 1
  exact (Int32.sub_eq_add_neg _ _).symm
/-- three debts tell the other three -/
theorem fx_three {it : Nat → Int32} {i m x0 x3 x4 : Nat} (hm : m ≤ 3) (h0 : x0 < m + 1) (h3 : x3 < m + 1) (h4 : x4 < m + 1) : smN (fun x5 => smN (fun x2 => smN (fun x1 => indP (fxC it i x0 x1 x2 x3 x4 x5)) (m + 1)) (m + 1)) (m + 1) = indP (ftC it i m x0 x3 x4) := by
  by_cases hw : (∃ t, t < m + 1 ∧ nI (x0 + t) = it i) ∧ (∃ t, t < m + 1 ∧ nI (x3 + t) = it (i + 1)) ∧ (∃ t, t < m + 1 ∧ nI (x4 + t) = it (i + 2))
  · obtain ⟨⟨t1, g1, e1⟩, ⟨t2, g2, e2⟩, ⟨t5, g5, e5⟩⟩ := hw
    have u : ∀ (a t k : Nat), a < m + 1 → t < m + 1 → k < m + 1 → nI (a + k) = nI (a + t) → k = t := fun a t k ha ht hk e => by
      have := (nI_eq (by omega) (by omega)).mp e
      omega
    rw [smN_pick (t := t5) g5 (fun k hk hne => smN_z (fun x2 _ => smN_z (fun x1 _ => ind_n (fun q => hne (u x4 t5 k h4 g5 hk (q.2.2.1.trans e5.symm))))))]
    rw [smN_pick (t := t2) g2 (fun k hk hne => smN_z (fun x1 _ => ind_n (fun q => hne (u x3 t2 k h3 g2 hk ((show nI (x3 + k) = it (i + 1) by rw [Nat.add_comm]; exact q.2.1.1).trans e2.symm)))))]
    rw [smN_pick (t := t1) g1 (fun k hk hne => ind_n (fun q => hne (u x0 t1 k h0 g1 hk (q.1.1.trans e1.symm))))]
    have c1 := (wi_y (x := it i) hm (show x0 ≤ m by omega)).mpr ⟨t1, g1, e1⟩
    have c2 := (wi_y (x := it (i + 1)) hm (show x3 ≤ m by omega)).mpr ⟨t2, g2, e2⟩
    have c3 := (wi_y (x := it (i + 2)) hm (show x4 ≤ m by omega)).mpr ⟨t5, g5, e5⟩
    refine ind_i ?_
    unfold fxC ftC
    rw [nI_sb _ e1, nI_sb _ e2, nI_sb _ e5]
    have f1 : nI x3 + nI x4 - nI x0 - nI t1 = nI (x4 + x3) - nI (x0 + t1) := by
      rw [sb_sb, nI_add, nI_add, Nat.add_comm x4 x3]
    have f2 : nI x0 + nI t5 - nI x3 - nI t2 = nI (x0 + t5) - nI (t2 + x3) := by
      rw [sb_sb, nI_add, nI_add, Nat.add_comm t2 x3]
    have f3 : nI t1 + nI t2 - nI x4 - nI t5 = nI (t2 + t1) - nI (x4 + t5) := by
      rw [sb_sb, nI_add, nI_add, Nat.add_comm t2 t1]
    rw [f1, f2, f3]
    rw [nI_sb _ e1] at c1
    rw [nI_sb _ e2] at c2
    rw [nI_sb _ e5] at c3
    rw [Nat.add_comm x3 t2] at e2
    exact ⟨fun q => ⟨⟨c1, c2, c3⟩, q.1.2, q.2.1.2, q.2.2.2⟩, fun q => ⟨⟨e1, q.2.1⟩, ⟨e2, q.2.2.1⟩, ⟨e5, q.2.2.2⟩⟩⟩
  · rw [ind_n (fun q => hw ⟨(wi_y hm (show x0 ≤ m by omega)).mp q.1.1, (wi_y hm (show x3 ≤ m by omega)).mp q.1.2.1, (wi_y hm (show x4 ≤ m by omega)).mp q.1.2.2⟩)]
    refine smN_z (fun x5 g5 => smN_z (fun x2 g2 => smN_z (fun x1 g1 => ind_n (fun q => hw ⟨⟨x1, g1, q.1.1⟩, ⟨x2, g2, by rw [Nat.add_comm]; exact q.2.1.1⟩, ⟨x5, g5, q.2.2.1⟩⟩))))
theorem ftN_s {it : Nat → Int32} {i m ab ba c : Nat} : ∀ {k : Nat}, ftN it i m ab ba c k = c + smN (fun ca => indP (ftC it i m ab ba ca)) k
  | 0 => rfl
  | k + 1 => by
    have ih := ftN_s (it := it) (i := i) (m := m) (ab := ab) (ba := ba) (c := c) (k := k)
    show @ite Nat (ftC it i m ab ba k) (Classical.propDecidable _) (ftN it i m ab ba c k + 1) (ftN it i m ab ba c k) = c + (smN (fun ca => indP (ftC it i m ab ba ca)) k + indP (ftC it i m ab ba k))
    rw [ih]
    by_cases h : ftC it i m ab ba k
    · rw [if_pos h, ind_y h]; omega
    · rw [if_neg h, ind_n h]; omega
theorem ftB_s {it : Nat → Int32} {i m ab c : Nat} : ∀ {k : Nat}, ftB it i m ab c k = c + smN (fun ba => smN (fun ca => indP (ftC it i m ab ba ca)) (m + 1)) k
  | 0 => rfl
  | k + 1 => by
    show ftN it i m ab k (ftB it i m ab c k) (m + 1) = c + (smN _ k + _)
    rw [ftN_s, ftB_s (k := k), Nat.add_assoc]
theorem ftA_s {it : Nat → Int32} {i m : Nat} : ∀ {k : Nat}, ftA it i m k = smN (fun ab => smN (fun ba => smN (fun ca => indP (ftC it i m ab ba ca)) (m + 1)) (m + 1)) k
  | 0 => rfl
  | k + 1 => by
    show ftB it i m k (ftA it i m k) (m + 1) = smN _ k + _
    rw [ftB_s, ftA_s (k := k)]
theorem perm6 {F : Nat → Nat → Nat → Nat → Nat → Nat → Nat} {b : Nat} : smN (fun x5 => smN (fun x4 => smN (fun x3 => smN (fun x2 => smN (fun x1 => smN (fun x0 => F x0 x1 x2 x3 x4 x5) b) b) b) b) b) b = smN (fun x0 => smN (fun x3 => smN (fun x4 => smN (fun x5 => smN (fun x2 => smN (fun x1 => F x0 x1 x2 x3 x4 x5) b) b) b) b) b) b := by
  refine (smN_ext (fun x5 _ => smN_ext (fun x4 _ => smN_ext (fun x3 _ => smN_ext (fun x2 _ => smN_comm))))).trans ?_
  refine (smN_ext (fun x5 _ => smN_ext (fun x4 _ => smN_ext (fun x3 _ => smN_comm)))).trans ?_
  refine (smN_ext (fun x5 _ => smN_ext (fun x4 _ => smN_comm))).trans ?_
  refine (smN_ext (fun x5 _ => smN_comm)).trans ?_
  refine smN_comm.trans ?_
  refine smN_ext (fun x0 _ => ?_)
  refine smN_comm.trans ?_
  refine (smN_ext (fun x4 _ => smN_comm)).trans ?_
  exact smN_comm
theorem dig6 {F : Nat → Nat → Nat → Nat → Nat → Nat → Nat} {m : Nat} : smN (fun c => F (dgM m c 0) (dgM m c 1) (dgM m c 2) (dgM m c 3) (dgM m c 4) (dgM m c 5)) ((m + 1) ^ 6) = smN (fun x5 => smN (fun x4 => smN (fun x3 => smN (fun x2 => smN (fun x1 => smN (fun x0 => F x0 x1 x2 x3 x4 x5) (m + 1)) (m + 1)) (m + 1)) (m + 1)) (m + 1)) (m + 1) := by
  have hb : 0 < m + 1 := by omega
  have e6 : (m + 1) ^ 6 = (m + 1) * ((m + 1) * ((m + 1) * ((m + 1) * ((m + 1) * ((m + 1) * 1))))) := by
    rw [show (6 : Nat) = 5 + 1 from rfl, Nat.pow_succ', show (5 : Nat) = 4 + 1 from rfl, Nat.pow_succ', show (4 : Nat) = 3 + 1 from rfl, Nat.pow_succ', show (3 : Nat) = 2 + 1 from rfl, Nat.pow_succ', show (2 : Nat) = 1 + 1 from rfl, Nat.pow_succ', Nat.pow_succ', Nat.pow_zero]
  rw [e6]
  refine (smN_dig (H := fun r q => F r (q % (m + 1)) (q / (m + 1) % (m + 1)) (q / (m + 1) / (m + 1) % (m + 1)) (q / (m + 1) / (m + 1) / (m + 1) % (m + 1)) (q / (m + 1) / (m + 1) / (m + 1) / (m + 1) % (m + 1))) hb).trans ?_
  refine (smN_dig (H := fun x1 q => smN (fun x0 => F x0 x1 (q % (m + 1)) (q / (m + 1) % (m + 1)) (q / (m + 1) / (m + 1) % (m + 1)) (q / (m + 1) / (m + 1) / (m + 1) % (m + 1))) (m + 1)) hb).trans ?_
  refine (smN_dig (H := fun x2 q => smN (fun x1 => smN (fun x0 => F x0 x1 x2 (q % (m + 1)) (q / (m + 1) % (m + 1)) (q / (m + 1) / (m + 1) % (m + 1))) (m + 1)) (m + 1)) hb).trans ?_
  refine (smN_dig (H := fun x3 q => smN (fun x2 => smN (fun x1 => smN (fun x0 => F x0 x1 x2 x3 (q % (m + 1)) (q / (m + 1) % (m + 1))) (m + 1)) (m + 1)) (m + 1)) hb).trans ?_
  refine (smN_dig (H := fun x4 q => smN (fun x3 => smN (fun x2 => smN (fun x1 => smN (fun x0 => F x0 x1 x2 x3 x4 (q % (m + 1))) (m + 1)) (m + 1)) (m + 1)) (m + 1)) hb).trans ?_
  refine (smN_dig (H := fun x5 q => smN (fun x4 => smN (fun x3 => smN (fun x2 => smN (fun x1 => smN (fun x0 => F x0 x1 x2 x3 x4 x5) (m + 1)) (m + 1)) (m + 1)) (m + 1)) (m + 1)) hb).trans ?_
  exact Nat.zero_add _
/-- as many codes as there are ways -/
theorem fx_all {it : Nat → Int32} {i m : Nat} (hm : m ≤ 3) : smN (fun c => indP (fxM it i m c)) ((m + 1) ^ 6) = ftA it i m (m + 1) := by
  rw [ftA_s]
  refine (dig6 (F := fun x0 x1 x2 x3 x4 x5 => indP (fxC it i x0 x1 x2 x3 x4 x5))).trans ?_
  refine perm6.trans ?_
  exact smN_ext (fun x0 h0 => smN_ext (fun x3 h3 => smN_ext (fun x4 h4 => fx_three hm h0 h3 h4)))
theorem pow6 {m : Nat} (hm : m ≤ 3) : (m + 1) ^ 6 ≤ 4096 := by
  rcases (show m = 0 ∨ m = 1 ∨ m = 2 ∨ m = 3 by omega) with h | h | h | h <;> (subst h; decide)
theorem powk {m k : Nat} (hm : m ≤ 3) (hk : k ≤ 6) : (m + 1) ^ k ≤ 4096 := Nat.le_trans (Nat.pow_le_pow_right (by omega) hk) (pow6 hm)
theorem smN_le {f : Nat → Nat} (h : ∀ k, f k ≤ 1) : ∀ n, smN f n ≤ n
  | 0 => Nat.le_refl 0
  | n + 1 => by
    have h1 := smN_le h n
    have h2 := h n
    show smN f n + f n ≤ n + 1
    omega
section MFI
variable {G : GG} {z : Nat} {σ : AH} {a0 a1 a2 a3 a4 a5 a6 a7 a8 a9 a10 a11 : Nat → Int32} {i0 i1 i2 i3 i4 i5 i6 i7 i8 i9 i10 i11 : Int32}
theorem m_fits_bad (r i m : Int32) (h : ¬ nrI r = 0 ∨ m < 0 ∨ nI 3 < m) : Ct G yX6_fits cX6_fits 13 (some .int) 3 0 0 z (mH σ a0 a1 a2 a3 a4 a5 a6 a7 a8 a9 a10 a11 i0 i1 i2 i3 i4 i5 i6 i7 i8 i9 i10 i11) [.ref 171, .int r, .int i, .int m] (some (.int (-1000001))) z (mH σ a0 a1 a2 a3 a4 a5 a6 a7 a8 a9 a10 a11 i0 i1 i2 i3 i4 i5 i6 i7 i8 i9 i10 i11) := by
  refine Ct.ofJ RX6 rfl [some (.ref 171), some (.int r), some (.int i), some (.int m), none, none, none, none, none, none, none, none, none] rfl (by decide) (by simp [Value.category]) ?_
  refine j_iload_n dX6_fits_0 rfl rfl ?_
  refine j_callS (m_isRow r) dX6_fits_1 rfl ms_X6_58 ⟨(Nat.le_of_ble_eq_true rfl), (Nat.le_of_ble_eq_true rfl)⟩ ⟨(Nat.le_of_ble_eq_true rfl), (Nat.le_of_ble_eq_true rfl)⟩ (Nat.le_of_ble_eq_true rfl) ?_
  refine j_if_eq 19 dX6_fits_4 (by decide) (fun b4 => ?_) (fun b4 => ?_)
  · refine j_ldc (-1000001) dX6_fits_19 kc_X6_64 ?_
    exact j_iret rfl dX6_fits_21 rfl rfl (Nat.le_of_ble_eq_true rfl) (Nat.le_of_ble_eq_true rfl)
  · refine j_iload_n dX6_fits_7 rfl rfl ?_
    refine j_i2l dX6_fits_8 ?_
    refine j_lconst (0) dX6_fits_9 rfl ?_
    refine j_ldc2 (3) dX6_fits_10 kl_X6_189 ?_
    refine j_callS (m_in3 m (nI 0) (nI 3) rfl rfl) dX6_fits_13 rfl ms_X6_54 ⟨(Nat.le_of_ble_eq_true rfl), (Nat.le_of_ble_eq_true rfl)⟩ ⟨(Nat.le_of_ble_eq_true rfl), (Nat.le_of_ble_eq_true rfl)⟩ (Nat.le_of_ble_eq_true rfl) ?_
    refine j_if_ne 22 dX6_fits_16 (by decide) (fun b16 => ?_) (fun b16 => ?_)
    · exact absurd h (fun q => q.elim (fun w => w (inI_row b4)) (fun q => q.elim (inI_ne b16).1 (fun u => absurd (inI_ne b16).2 (Int32.not_le.mpr u))))
    · refine j_ldc (-1000001) dX6_fits_19 kc_X6_64 ?_
      exact j_iret rfl dX6_fits_21 rfl rfl (Nat.le_of_ble_eq_true rfl) (Nat.le_of_ble_eq_true rfl)
theorem m_fits_null {k m : Nat} (hk : k < 8) (hm : m ≤ 3) (i : Int32) (hl : a5 k = -1) : Ct G yX6_fits cX6_fits 13 (some .int) 3 0 0 z (mH σ a0 a1 a2 a3 a4 a5 a6 a7 a8 a9 a10 a11 i0 i1 i2 i3 i4 i5 i6 i7 i8 i9 i10 i11) [.ref 171, .int (nI k), .int i, .int (nI m)] (some (.int (-1000010 - nI 1))) z (mH σ a0 a1 a2 a3 a4 a5 a6 a7 a8 a9 a10 a11 i0 (nI 1) i2 i3 i4 i5 i6 i7 i8 i9 i10 i11) := by
  refine Ct.ofJ RX6 rfl [some (.ref 171), some (.int (nI k)), some (.int i), some (.int (nI m)), none, none, none, none, none, none, none, none, none] rfl (by decide) (by simp [Value.category]) ?_
  refine j_iload_n dX6_fits_0 rfl rfl ?_
  refine j_callS (m_isRow (nI k)) dX6_fits_1 rfl ms_X6_58 ⟨(Nat.le_of_ble_eq_true rfl), (Nat.le_of_ble_eq_true rfl)⟩ ⟨(Nat.le_of_ble_eq_true rfl), (Nat.le_of_ble_eq_true rfl)⟩ (Nat.le_of_ble_eq_true rfl) ?_
  refine j_top (nI 1) (inI_k hk) ?_
  refine j_if_eq 19 dX6_fits_4 (by decide) (fun h => absurd h (by decide)) (fun _ => ?_)
  refine j_iload_n dX6_fits_7 rfl rfl ?_
  refine j_i2l dX6_fits_8 ?_
  refine j_lconst (0) dX6_fits_9 rfl ?_
  refine j_ldc2 (3) dX6_fits_10 kl_X6_189 ?_
  refine j_callS (m_in3 (nI m) (nI 0) (nI 3) rfl rfl) dX6_fits_13 rfl ms_X6_54 ⟨(Nat.le_of_ble_eq_true rfl), (Nat.le_of_ble_eq_true rfl)⟩ ⟨(Nat.le_of_ble_eq_true rfl), (Nat.le_of_ble_eq_true rfl)⟩ (Nat.le_of_ble_eq_true rfl) ?_
  refine j_top (nI 1) (inI_N (by omega) hm (by omega)) ?_
  refine j_if_ne 22 dX6_fits_16 (by decide) (fun _ => ?_) (fun h => absurd h (by decide))
  refine j_aload_n dX6_fits_22 rfl rfl ?_
  refine j_getf dX6_fits_23 6 8 rfl (Nat.le_of_ble_eq_true rfl) fl_X6_26 in_6 mH_o rfl ?_
  refine j_iload_n dX6_fits_26 rfl rfl ?_
  refine j_iald dX6_fits_27 mH_a5 rfl (by omega) (by decide) ?_
  refine j_top (-1) hl ?_
  refine j_if_ge 37 dX6_fits_28 (by decide) (fun b28 => by exact absurd b28 (by decide)) (fun b28 => ?_)
  refine j_aload_n dX6_fits_31 rfl rfl ?_
  refine j_iconst (nI 1) dX6_fits_32 rfl ?_
  refine j_callV (m_finds (nI 1)) dX6_fits_33 rfl mv_X6_65 mH_o rfl ⟨(Nat.le_of_ble_eq_true rfl), (Nat.le_of_ble_eq_true rfl)⟩ ⟨(Nat.le_of_ble_eq_true rfl), (Nat.le_of_ble_eq_true rfl)⟩ (Nat.le_of_ble_eq_true rfl) ?_
  exact j_iret rfl dX6_fits_36 rfl rfl (Nat.le_of_ble_eq_true rfl) (Nat.le_of_ble_eq_true rfl)
theorem m_fits_place {k m : Nat} (hk : k < 8) (hm : m ≤ 3) {m2 : Nat} (i : Int32) (hl : a5 k = nI m2) (hm2 : m2 ≤ 40) (hr : rngI i (nI 6) (nI m2) = nI 0) : Ct G yX6_fits cX6_fits 13 (some .int) 3 0 0 z (mH σ a0 a1 a2 a3 a4 a5 a6 a7 a8 a9 a10 a11 i0 i1 i2 i3 i4 i5 i6 i7 i8 i9 i10 i11) [.ref 171, .int (nI k), .int i, .int (nI m)] (some (.int (-1000010 - nI 2))) z (mH σ a0 a1 a2 a3 a4 a5 a6 a7 a8 a9 a10 a11 i0 (nI 2) i2 i3 i4 i5 i6 i7 i8 i9 i10 i11) := by
  refine Ct.ofJ RX6 rfl [some (.ref 171), some (.int (nI k)), some (.int i), some (.int (nI m)), none, none, none, none, none, none, none, none, none] rfl (by decide) (by simp [Value.category]) ?_
  refine j_iload_n dX6_fits_0 rfl rfl ?_
  refine j_callS (m_isRow (nI k)) dX6_fits_1 rfl ms_X6_58 ⟨(Nat.le_of_ble_eq_true rfl), (Nat.le_of_ble_eq_true rfl)⟩ ⟨(Nat.le_of_ble_eq_true rfl), (Nat.le_of_ble_eq_true rfl)⟩ (Nat.le_of_ble_eq_true rfl) ?_
  refine j_top (nI 1) (inI_k hk) ?_
  refine j_if_eq 19 dX6_fits_4 (by decide) (fun h => absurd h (by decide)) (fun _ => ?_)
  refine j_iload_n dX6_fits_7 rfl rfl ?_
  refine j_i2l dX6_fits_8 ?_
  refine j_lconst (0) dX6_fits_9 rfl ?_
  refine j_ldc2 (3) dX6_fits_10 kl_X6_189 ?_
  refine j_callS (m_in3 (nI m) (nI 0) (nI 3) rfl rfl) dX6_fits_13 rfl ms_X6_54 ⟨(Nat.le_of_ble_eq_true rfl), (Nat.le_of_ble_eq_true rfl)⟩ ⟨(Nat.le_of_ble_eq_true rfl), (Nat.le_of_ble_eq_true rfl)⟩ (Nat.le_of_ble_eq_true rfl) ?_
  refine j_top (nI 1) (inI_N (by omega) hm (by omega)) ?_
  refine j_if_ne 22 dX6_fits_16 (by decide) (fun _ => ?_) (fun h => absurd h (by decide))
  refine j_aload_n dX6_fits_22 rfl rfl ?_
  refine j_getf dX6_fits_23 6 8 rfl (Nat.le_of_ble_eq_true rfl) fl_X6_26 in_6 mH_o rfl ?_
  refine j_iload_n dX6_fits_26 rfl rfl ?_
  refine j_iald dX6_fits_27 mH_a5 rfl (by omega) (by decide) ?_
  refine j_top (nI m2) hl ?_
  refine j_if_ge 37 dX6_fits_28 (by decide) (fun b28 => ?_) (fun b28 => by exact absurd (nI_pos' (by omega)) b28)
  refine j_iload_n dX6_fits_37 rfl rfl ?_
  refine j_if_lt 58 dX6_fits_38 (by decide) (fun b38 => ?_) (fun b38 => ?_)
  · refine j_aload_n dX6_fits_58 rfl rfl ?_
    refine j_iconst (nI 2) dX6_fits_59 rfl ?_
    refine j_callV (m_finds (nI 2)) dX6_fits_60 rfl mv_X6_65 mH_o rfl ⟨(Nat.le_of_ble_eq_true rfl), (Nat.le_of_ble_eq_true rfl)⟩ ⟨(Nat.le_of_ble_eq_true rfl), (Nat.le_of_ble_eq_true rfl)⟩ (Nat.le_of_ble_eq_true rfl) ?_
    exact j_iret rfl dX6_fits_63 rfl rfl (Nat.le_of_ble_eq_true rfl) (Nat.le_of_ble_eq_true rfl)
  · refine j_iload_n dX6_fits_41 rfl rfl ?_
    refine j_i2l dX6_fits_42 ?_
    refine j_ldc2 (6) dX6_fits_43 kl_X6_191 ?_
    refine j_ladd dX6_fits_46 ?_
    refine j_aload_n dX6_fits_47 rfl rfl ?_
    refine j_getf dX6_fits_48 6 8 rfl (Nat.le_of_ble_eq_true rfl) fl_X6_26 in_6 mH_o rfl ?_
    refine j_iload_n dX6_fits_51 rfl rfl ?_
    refine j_iald dX6_fits_52 mH_a5 rfl (by omega) (by decide) ?_
    refine j_top (nI m2) hl ?_
    refine j_i2l dX6_fits_53 ?_
    refine j_lcmp dX6_fits_54 ?_
    refine j_if_le 64 dX6_fits_55 (by decide) (fun b55 => ?_) (fun b55 => ?_)
    · exfalso
      unfold rngI at hr
      rw [if_neg b38, if_neg (by decide), if_neg (fun q => absurd ((lg_cmp_le _ _).mp b55) (Int64.not_le.mpr ((rng_long hm2 i (nI 6) b38 (by decide)).mp q)))] at hr
      exact absurd hr (by decide)
    · refine j_aload_n dX6_fits_58 rfl rfl ?_
      refine j_iconst (nI 2) dX6_fits_59 rfl ?_
      refine j_callV (m_finds (nI 2)) dX6_fits_60 rfl mv_X6_65 mH_o rfl ⟨(Nat.le_of_ble_eq_true rfl), (Nat.le_of_ble_eq_true rfl)⟩ ⟨(Nat.le_of_ble_eq_true rfl), (Nat.le_of_ble_eq_true rfl)⟩ (Nat.le_of_ble_eq_true rfl) ?_
      exact j_iret rfl dX6_fits_63 rfl rfl (Nat.le_of_ble_eq_true rfl) (Nat.le_of_ble_eq_true rfl)

def okS (it : Nat → Int32) (j q : Nat) : Prop := if q < 3 then (¬ it (j + q) < 0 ∧ it (j + q) ≤ nI 9) else (¬ it (j + q) < -9 ∧ it (j + q) ≤ nI 9)
theorem okS_all {it : Nat → Int32} {j : Nat} : (∀ q, q < 6 → okS it j q) ↔ (∀ q, q < 3 → okI (it (j + q)) (it (j + 3 + q))) := by
  constructor
  · intro h q hq
    have h1 := h q (by omega)
    have h2 := h (q + 3) (by omega)
    unfold okS at h1 h2
    rw [if_pos hq] at h1
    rw [if_neg (by omega)] at h2
    rw [show j + (q + 3) = j + 3 + q by omega] at h2
    exact ⟨h1.1, Int32.not_lt.mpr h1.2, h2.1, h2.2⟩
  · intro h q hq
    unfold okS
    by_cases c : q < 3
    · rw [if_pos c]
      have := h q c
      exact ⟨this.1, Int32.not_lt.mp this.2.1⟩
    · rw [if_neg c]
      have := h (q - 3) (by omega)
      rw [show j + 3 + (q - 3) = j + q by omega] at this
      exact ⟨this.2.2.1, this.2.2.2⟩
theorem m_fits_items {k m : Nat} (hk : k < 8) (hm : m ≤ 3) {m2 j : Nat} (hl : a5 k = nI m2) (hm2 : m2 ≤ 40) (hj : j + 6 ≤ m2) {rr : Option Value} {hh : AH} (K : ∀ fl : Int32, (fl = nI 1 ∧ (∀ q, q < 6 → okS (fun q => a7 (40 * k + q)) j q)) ∨ (fl = nI 0 ∧ ¬ (∀ q, q < 6 → okS (fun q => a7 (40 * k + q)) j q)) → ∀ o6 : Option Value, J G RX6 cX6_fits 13 (some .int) (TQ G 3 0 0 rr z hh) z (mH σ a0 a1 a2 a3 a4 a5 a6 a7 a8 a9 a10 a11 i0 i1 i2 i3 i4 i5 i6 i7 i8 i9 i10 i11) 0 0 148 [some (.ref 171), some (.int (nI k)), some (.int (nI j)), some (.int (nI m)), some (.int fl), some (.int (nI 6)), o6, none, none, none, none, none, none] []) :
    ∀ (kk i : Nat) (fl : Int32) (o6 : Option Value), i ≤ 6 → 6 < i + kk → (fl = nI 1 ∧ (∀ q, q < i → okS (fun q => a7 (40 * k + q)) j q)) ∨ (fl = nI 0 ∧ ¬ (∀ q, q < i → okS (fun q => a7 (40 * k + q)) j q)) → J G RX6 cX6_fits 13 (some .int) (TQ G 3 0 0 rr z hh) z (mH σ a0 a1 a2 a3 a4 a5 a6 a7 a8 a9 a10 a11 i0 i1 i2 i3 i4 i5 i6 i7 i8 i9 i10 i11) 0 0 70 [some (.ref 171), some (.int (nI k)), some (.int (nI j)), some (.int (nI m)), some (.int fl), some (.int (nI i)), o6, none, none, none, none, none, none] [] := by
  intro kk
  induction kk with
  | zero => intro i fl o6 h1 h2; exact absurd h2 (by omega)
  | succ kk ih =>
    intro i fl o6 h1 h2 hf
    by_cases hi : i < 6
    · have hs1 : okS (fun q => a7 (40 * k + q)) j i → (∀ q, q < i → okS (fun q => a7 (40 * k + q)) j q) → ∀ q, q < i + 1 → okS (fun q => a7 (40 * k + q)) j q := by
        intro h a q hq
        rcases (show q < i ∨ q = i by omega) with w | w
        · exact a q w
        · rw [w]; exact h
      have hs0 : ¬ okS (fun q => a7 (40 * k + q)) j i → ¬ ∀ q, q < i + 1 → okS (fun q => a7 (40 * k + q)) j q := fun h a => h (a i (by omega))
      have hs2 : (¬ ∀ q, q < i → okS (fun q => a7 (40 * k + q)) j q) → ¬ ∀ q, q < i + 1 → okS (fun q => a7 (40 * k + q)) j q := fun h a => h (fun q hq => a q (by omega))
      have ea : a7 (40 * k + j + i) = (fun q => a7 (40 * k + q)) (j + i) := by show _ = a7 (40 * k + (j + i)); rw [Nat.add_assoc]
      rcases hf with ⟨rfl, hf⟩ | ⟨rfl, hf⟩
      · by_cases c : i < 3
        · by_cases ho : okS (fun q => a7 (40 * k + q)) j i
          · have ho2 := ho
            unfold okS at ho2
            rw [if_pos c] at ho2
            refine j_iload dX6_fits_70 rfl ?_
            refine j_bipush (nI 6) dX6_fits_72 rfl ?_
            refine j_icmp_geN 148 dX6_fits_74 (by decide) (by omega) (by omega) (fun b74 => by exfalso; omega) (fun b74 => ?_)
            refine j_aload_n dX6_fits_77 rfl rfl ?_
            refine j_getf dX6_fits_78 6 10 rfl (Nat.le_of_ble_eq_true rfl) fl_X6_32 in_6 mH_o rfl ?_
            refine j_bipush (nI 40) dX6_fits_81 rfl ?_
            refine j_iload_n dX6_fits_83 rfl rfl ?_
            first | refine j_imulN dX6_fits_84 ?_ | refine j_imul dX6_fits_84 ?_
            refine j_iload_n dX6_fits_85 rfl rfl ?_
            first | refine j_iaddN dX6_fits_86 ?_ | refine j_iadd dX6_fits_86 ?_
            refine j_iload dX6_fits_87 rfl ?_
            first | refine j_iaddN dX6_fits_89 ?_ | refine j_iadd dX6_fits_89 ?_
            refine j_iald dX6_fits_90 mH_a7 rfl (by omega) (by decide) ?_
            refine j_top _ ea ?_
            refine j_istore dX6_fits_91 (Nat.le_of_ble_eq_true rfl) rfl ?_
            refine j_iload dX6_fits_93 rfl ?_
            refine j_top (nI 1) rfl ?_
            refine j_if_eq 139 dX6_fits_95 (by decide) (fun h => absurd h (by decide)) (fun _ => ?_)
            refine j_iload dX6_fits_98 rfl ?_
            refine j_iconst (nI 3) dX6_fits_100 rfl ?_
            refine j_icmp_geN 120 dX6_fits_101 (by decide) (by omega) (by omega) (fun b101 => by exfalso; omega) (fun b101 => ?_)
            refine j_iload dX6_fits_104 rfl ?_
            refine j_i2l dX6_fits_106 ?_
            refine j_lconst (0) dX6_fits_107 rfl ?_
            refine j_ldc2 (9) dX6_fits_108 kl_X6_170 ?_
            refine j_callS (m_in3 _ (nI 0) (nI 9) rfl rfl) dX6_fits_111 rfl ms_X6_54 ⟨(Nat.le_of_ble_eq_true rfl), (Nat.le_of_ble_eq_true rfl)⟩ ⟨(Nat.le_of_ble_eq_true rfl), (Nat.le_of_ble_eq_true rfl)⟩ (Nat.le_of_ble_eq_true rfl) ?_
            refine j_top (nI 1) (inI_yes ho2.1 ho2.2) ?_
            refine j_if_eq 139 dX6_fits_114 (by decide) (fun h => absurd h (by decide)) (fun _ => ?_)
            refine j_goto 135 dX6_fits_117 (by decide) ?_
            refine j_iconst (nI 1) dX6_fits_135 rfl ?_
            refine j_goto 140 dX6_fits_136 (by decide) ?_
            refine j_istore dX6_fits_140 (Nat.le_of_ble_eq_true rfl) rfl ?_
            first | refine j_iincN dX6_fits_142 rfl (Nat.le_of_ble_eq_true rfl) rfl ?_ | refine j_iinc _ dX6_fits_142 rfl rfl (Nat.le_of_ble_eq_true rfl) rfl ?_
            refine j_goto 70 dX6_fits_145 (by decide) ?_
            exact ih (i + 1) _ _ (by omega) (by omega) (Or.inl ⟨rfl, hs1 ho hf⟩)
          · have ho2 := ho
            unfold okS at ho2
            rw [if_pos c] at ho2
            refine j_iload dX6_fits_70 rfl ?_
            refine j_bipush (nI 6) dX6_fits_72 rfl ?_
            refine j_icmp_geN 148 dX6_fits_74 (by decide) (by omega) (by omega) (fun b74 => by exfalso; omega) (fun b74 => ?_)
            refine j_aload_n dX6_fits_77 rfl rfl ?_
            refine j_getf dX6_fits_78 6 10 rfl (Nat.le_of_ble_eq_true rfl) fl_X6_32 in_6 mH_o rfl ?_
            refine j_bipush (nI 40) dX6_fits_81 rfl ?_
            refine j_iload_n dX6_fits_83 rfl rfl ?_
            first | refine j_imulN dX6_fits_84 ?_ | refine j_imul dX6_fits_84 ?_
            refine j_iload_n dX6_fits_85 rfl rfl ?_
            first | refine j_iaddN dX6_fits_86 ?_ | refine j_iadd dX6_fits_86 ?_
            refine j_iload dX6_fits_87 rfl ?_
            first | refine j_iaddN dX6_fits_89 ?_ | refine j_iadd dX6_fits_89 ?_
            refine j_iald dX6_fits_90 mH_a7 rfl (by omega) (by decide) ?_
            refine j_top _ ea ?_
            refine j_istore dX6_fits_91 (Nat.le_of_ble_eq_true rfl) rfl ?_
            refine j_iload dX6_fits_93 rfl ?_
            refine j_top (nI 1) rfl ?_
            refine j_if_eq 139 dX6_fits_95 (by decide) (fun h => absurd h (by decide)) (fun _ => ?_)
            refine j_iload dX6_fits_98 rfl ?_
            refine j_iconst (nI 3) dX6_fits_100 rfl ?_
            refine j_icmp_geN 120 dX6_fits_101 (by decide) (by omega) (by omega) (fun b101 => by exfalso; omega) (fun b101 => ?_)
            refine j_iload dX6_fits_104 rfl ?_
            refine j_i2l dX6_fits_106 ?_
            refine j_lconst (0) dX6_fits_107 rfl ?_
            refine j_ldc2 (9) dX6_fits_108 kl_X6_170 ?_
            refine j_callS (m_in3 _ (nI 0) (nI 9) rfl rfl) dX6_fits_111 rfl ms_X6_54 ⟨(Nat.le_of_ble_eq_true rfl), (Nat.le_of_ble_eq_true rfl)⟩ ⟨(Nat.le_of_ble_eq_true rfl), (Nat.le_of_ble_eq_true rfl)⟩ (Nat.le_of_ble_eq_true rfl) ?_
            refine j_top (nI 0) (inI_no (Classical.byContradiction (fun w => ho2 ⟨fun u => w (Or.inl u), Int32.not_lt.mp (fun u => w (Or.inr u))⟩))) ?_
            refine j_if_eq 139 dX6_fits_114 (by decide) (fun _ => ?_) (fun h => absurd rfl h)
            refine j_iconst (nI 0) dX6_fits_139 rfl ?_
            refine j_istore dX6_fits_140 (Nat.le_of_ble_eq_true rfl) rfl ?_
            first | refine j_iincN dX6_fits_142 rfl (Nat.le_of_ble_eq_true rfl) rfl ?_ | refine j_iinc _ dX6_fits_142 rfl rfl (Nat.le_of_ble_eq_true rfl) rfl ?_
            refine j_goto 70 dX6_fits_145 (by decide) ?_
            exact ih (i + 1) _ _ (by omega) (by omega) (Or.inr ⟨rfl, hs0 ho⟩)
        · by_cases ho : okS (fun q => a7 (40 * k + q)) j i
          · have ho2 := ho
            unfold okS at ho2
            rw [if_neg c] at ho2
            refine j_iload dX6_fits_70 rfl ?_
            refine j_bipush (nI 6) dX6_fits_72 rfl ?_
            refine j_icmp_geN 148 dX6_fits_74 (by decide) (by omega) (by omega) (fun b74 => by exfalso; omega) (fun b74 => ?_)
            refine j_aload_n dX6_fits_77 rfl rfl ?_
            refine j_getf dX6_fits_78 6 10 rfl (Nat.le_of_ble_eq_true rfl) fl_X6_32 in_6 mH_o rfl ?_
            refine j_bipush (nI 40) dX6_fits_81 rfl ?_
            refine j_iload_n dX6_fits_83 rfl rfl ?_
            first | refine j_imulN dX6_fits_84 ?_ | refine j_imul dX6_fits_84 ?_
            refine j_iload_n dX6_fits_85 rfl rfl ?_
            first | refine j_iaddN dX6_fits_86 ?_ | refine j_iadd dX6_fits_86 ?_
            refine j_iload dX6_fits_87 rfl ?_
            first | refine j_iaddN dX6_fits_89 ?_ | refine j_iadd dX6_fits_89 ?_
            refine j_iald dX6_fits_90 mH_a7 rfl (by omega) (by decide) ?_
            refine j_top _ ea ?_
            refine j_istore dX6_fits_91 (Nat.le_of_ble_eq_true rfl) rfl ?_
            refine j_iload dX6_fits_93 rfl ?_
            refine j_top (nI 1) rfl ?_
            refine j_if_eq 139 dX6_fits_95 (by decide) (fun h => absurd h (by decide)) (fun _ => ?_)
            refine j_iload dX6_fits_98 rfl ?_
            refine j_iconst (nI 3) dX6_fits_100 rfl ?_
            refine j_icmp_geN 120 dX6_fits_101 (by decide) (by omega) (by omega) (fun b101 => ?_) (fun b101 => by exfalso; omega)
            refine j_iload dX6_fits_120 rfl ?_
            refine j_i2l dX6_fits_122 ?_
            refine j_ldc2 (-9) dX6_fits_123 kl_X6_193 ?_
            refine j_ldc2 (9) dX6_fits_126 kl_X6_170 ?_
            refine j_callS (m_in3 _ (-9) (nI 9) rfl rfl) dX6_fits_129 rfl ms_X6_54 ⟨(Nat.le_of_ble_eq_true rfl), (Nat.le_of_ble_eq_true rfl)⟩ ⟨(Nat.le_of_ble_eq_true rfl), (Nat.le_of_ble_eq_true rfl)⟩ (Nat.le_of_ble_eq_true rfl) ?_
            refine j_top (nI 1) (inI_yes ho2.1 ho2.2) ?_
            refine j_if_eq 139 dX6_fits_132 (by decide) (fun h => absurd h (by decide)) (fun _ => ?_)
            refine j_iconst (nI 1) dX6_fits_135 rfl ?_
            refine j_goto 140 dX6_fits_136 (by decide) ?_
            refine j_istore dX6_fits_140 (Nat.le_of_ble_eq_true rfl) rfl ?_
            first | refine j_iincN dX6_fits_142 rfl (Nat.le_of_ble_eq_true rfl) rfl ?_ | refine j_iinc _ dX6_fits_142 rfl rfl (Nat.le_of_ble_eq_true rfl) rfl ?_
            refine j_goto 70 dX6_fits_145 (by decide) ?_
            exact ih (i + 1) _ _ (by omega) (by omega) (Or.inl ⟨rfl, hs1 ho hf⟩)
          · have ho2 := ho
            unfold okS at ho2
            rw [if_neg c] at ho2
            refine j_iload dX6_fits_70 rfl ?_
            refine j_bipush (nI 6) dX6_fits_72 rfl ?_
            refine j_icmp_geN 148 dX6_fits_74 (by decide) (by omega) (by omega) (fun b74 => by exfalso; omega) (fun b74 => ?_)
            refine j_aload_n dX6_fits_77 rfl rfl ?_
            refine j_getf dX6_fits_78 6 10 rfl (Nat.le_of_ble_eq_true rfl) fl_X6_32 in_6 mH_o rfl ?_
            refine j_bipush (nI 40) dX6_fits_81 rfl ?_
            refine j_iload_n dX6_fits_83 rfl rfl ?_
            first | refine j_imulN dX6_fits_84 ?_ | refine j_imul dX6_fits_84 ?_
            refine j_iload_n dX6_fits_85 rfl rfl ?_
            first | refine j_iaddN dX6_fits_86 ?_ | refine j_iadd dX6_fits_86 ?_
            refine j_iload dX6_fits_87 rfl ?_
            first | refine j_iaddN dX6_fits_89 ?_ | refine j_iadd dX6_fits_89 ?_
            refine j_iald dX6_fits_90 mH_a7 rfl (by omega) (by decide) ?_
            refine j_top _ ea ?_
            refine j_istore dX6_fits_91 (Nat.le_of_ble_eq_true rfl) rfl ?_
            refine j_iload dX6_fits_93 rfl ?_
            refine j_top (nI 1) rfl ?_
            refine j_if_eq 139 dX6_fits_95 (by decide) (fun h => absurd h (by decide)) (fun _ => ?_)
            refine j_iload dX6_fits_98 rfl ?_
            refine j_iconst (nI 3) dX6_fits_100 rfl ?_
            refine j_icmp_geN 120 dX6_fits_101 (by decide) (by omega) (by omega) (fun b101 => ?_) (fun b101 => by exfalso; omega)
            refine j_iload dX6_fits_120 rfl ?_
            refine j_i2l dX6_fits_122 ?_
            refine j_ldc2 (-9) dX6_fits_123 kl_X6_193 ?_
            refine j_ldc2 (9) dX6_fits_126 kl_X6_170 ?_
            refine j_callS (m_in3 _ (-9) (nI 9) rfl rfl) dX6_fits_129 rfl ms_X6_54 ⟨(Nat.le_of_ble_eq_true rfl), (Nat.le_of_ble_eq_true rfl)⟩ ⟨(Nat.le_of_ble_eq_true rfl), (Nat.le_of_ble_eq_true rfl)⟩ (Nat.le_of_ble_eq_true rfl) ?_
            refine j_top (nI 0) (inI_no (Classical.byContradiction (fun w => ho2 ⟨fun u => w (Or.inl u), Int32.not_lt.mp (fun u => w (Or.inr u))⟩))) ?_
            refine j_if_eq 139 dX6_fits_132 (by decide) (fun _ => ?_) (fun h => absurd rfl h)
            refine j_iconst (nI 0) dX6_fits_139 rfl ?_
            refine j_istore dX6_fits_140 (Nat.le_of_ble_eq_true rfl) rfl ?_
            first | refine j_iincN dX6_fits_142 rfl (Nat.le_of_ble_eq_true rfl) rfl ?_ | refine j_iinc _ dX6_fits_142 rfl rfl (Nat.le_of_ble_eq_true rfl) rfl ?_
            refine j_goto 70 dX6_fits_145 (by decide) ?_
            exact ih (i + 1) _ _ (by omega) (by omega) (Or.inr ⟨rfl, hs0 ho⟩)
      · refine j_iload dX6_fits_70 rfl ?_
        refine j_bipush (nI 6) dX6_fits_72 rfl ?_
        refine j_icmp_geN 148 dX6_fits_74 (by decide) (by omega) (by omega) (fun b74 => by exfalso; omega) (fun b74 => ?_)
        refine j_aload_n dX6_fits_77 rfl rfl ?_
        refine j_getf dX6_fits_78 6 10 rfl (Nat.le_of_ble_eq_true rfl) fl_X6_32 in_6 mH_o rfl ?_
        refine j_bipush (nI 40) dX6_fits_81 rfl ?_
        refine j_iload_n dX6_fits_83 rfl rfl ?_
        first | refine j_imulN dX6_fits_84 ?_ | refine j_imul dX6_fits_84 ?_
        refine j_iload_n dX6_fits_85 rfl rfl ?_
        first | refine j_iaddN dX6_fits_86 ?_ | refine j_iadd dX6_fits_86 ?_
        refine j_iload dX6_fits_87 rfl ?_
        first | refine j_iaddN dX6_fits_89 ?_ | refine j_iadd dX6_fits_89 ?_
        refine j_iald dX6_fits_90 mH_a7 rfl (by omega) (by decide) ?_
        refine j_istore dX6_fits_91 (Nat.le_of_ble_eq_true rfl) rfl ?_
        refine j_iload dX6_fits_93 rfl ?_
        refine j_top (nI 0) rfl ?_
        refine j_if_eq 139 dX6_fits_95 (by decide) (fun _ => ?_) (fun h => absurd rfl h)
        refine j_iconst (nI 0) dX6_fits_139 rfl ?_
        refine j_istore dX6_fits_140 (Nat.le_of_ble_eq_true rfl) rfl ?_
        first | refine j_iincN dX6_fits_142 rfl (Nat.le_of_ble_eq_true rfl) rfl ?_ | refine j_iinc _ dX6_fits_142 rfl rfl (Nat.le_of_ble_eq_true rfl) rfl ?_
        refine j_goto 70 dX6_fits_145 (by decide) ?_
        exact ih (i + 1) _ _ (by omega) (by omega) (Or.inr ⟨rfl, hs2 hf⟩)
    · obtain rfl : i = 6 := by omega
      refine j_iload dX6_fits_70 rfl ?_
      refine j_bipush (nI 6) dX6_fits_72 rfl ?_
      refine j_icmp_geN 148 dX6_fits_74 (by decide) (by omega) (by omega) (fun b74 => ?_) (fun b74 => by exfalso; omega)
      exact K _ hf _
theorem m_fits_item {k m : Nat} (hk : k < 8) (hm : m ≤ 3) {m2 j : Nat} (hl : a5 k = nI m2) (hm2 : m2 ≤ 40) (hj : j + 6 ≤ m2) (h : ∃ q, q < 3 ∧ ¬ okI ((fun q => a7 (40 * k + q)) (j + q)) ((fun q => a7 (40 * k + q)) (j + 3 + q))) : Ct G yX6_fits cX6_fits 13 (some .int) 3 0 0 z (mH σ a0 a1 a2 a3 a4 a5 a6 a7 a8 a9 a10 a11 i0 i1 i2 i3 i4 i5 i6 i7 i8 i9 i10 i11) [.ref 171, .int (nI k), .int (nI j), .int (nI m)] (some (.int (-1000001))) z (mH σ a0 a1 a2 a3 a4 a5 a6 a7 a8 a9 a10 a11 i0 i1 i2 i3 i4 i5 i6 i7 i8 i9 i10 i11) := by
  refine Ct.ofJ RX6 rfl [some (.ref 171), some (.int (nI k)), some (.int (nI j)), some (.int (nI m)), none, none, none, none, none, none, none, none, none] rfl (by decide) (by simp [Value.category]) ?_
  refine j_iload_n dX6_fits_0 rfl rfl ?_
  refine j_callS (m_isRow (nI k)) dX6_fits_1 rfl ms_X6_58 ⟨(Nat.le_of_ble_eq_true rfl), (Nat.le_of_ble_eq_true rfl)⟩ ⟨(Nat.le_of_ble_eq_true rfl), (Nat.le_of_ble_eq_true rfl)⟩ (Nat.le_of_ble_eq_true rfl) ?_
  refine j_top (nI 1) (inI_k hk) ?_
  refine j_if_eq 19 dX6_fits_4 (by decide) (fun h => absurd h (by decide)) (fun _ => ?_)
  refine j_iload_n dX6_fits_7 rfl rfl ?_
  refine j_i2l dX6_fits_8 ?_
  refine j_lconst (0) dX6_fits_9 rfl ?_
  refine j_ldc2 (3) dX6_fits_10 kl_X6_189 ?_
  refine j_callS (m_in3 (nI m) (nI 0) (nI 3) rfl rfl) dX6_fits_13 rfl ms_X6_54 ⟨(Nat.le_of_ble_eq_true rfl), (Nat.le_of_ble_eq_true rfl)⟩ ⟨(Nat.le_of_ble_eq_true rfl), (Nat.le_of_ble_eq_true rfl)⟩ (Nat.le_of_ble_eq_true rfl) ?_
  refine j_top (nI 1) (inI_N (by omega) hm (by omega)) ?_
  refine j_if_ne 22 dX6_fits_16 (by decide) (fun _ => ?_) (fun h => absurd h (by decide))
  refine j_aload_n dX6_fits_22 rfl rfl ?_
  refine j_getf dX6_fits_23 6 8 rfl (Nat.le_of_ble_eq_true rfl) fl_X6_26 in_6 mH_o rfl ?_
  refine j_iload_n dX6_fits_26 rfl rfl ?_
  refine j_iald dX6_fits_27 mH_a5 rfl (by omega) (by decide) ?_
  refine j_top (nI m2) hl ?_
  refine j_if_ge 37 dX6_fits_28 (by decide) (fun b28 => ?_) (fun b28 => by exact absurd (nI_pos' (by omega)) b28)
  refine j_iload_n dX6_fits_37 rfl rfl ?_
  refine j_if_lt 58 dX6_fits_38 (by decide) (fun b38 => by exact absurd b38 (nI_pos (by omega))) (fun b38 => ?_)
  refine j_iload_n dX6_fits_41 rfl rfl ?_
  refine j_i2l dX6_fits_42 ?_
  refine j_ldc2 (6) dX6_fits_43 kl_X6_191 ?_
  refine j_ladd dX6_fits_46 ?_
  refine j_aload_n dX6_fits_47 rfl rfl ?_
  refine j_getf dX6_fits_48 6 8 rfl (Nat.le_of_ble_eq_true rfl) fl_X6_26 in_6 mH_o rfl ?_
  refine j_iload_n dX6_fits_51 rfl rfl ?_
  refine j_iald dX6_fits_52 mH_a5 rfl (by omega) (by decide) ?_
  refine j_top (nI m2) hl ?_
  refine j_i2l dX6_fits_53 ?_
  refine j_lcmp dX6_fits_54 ?_
  refine j_if_le 64 dX6_fits_55 (by decide) (fun b55 => ?_) (fun b55 => by exact absurd ((lg_cmp_le _ _).mpr (Int64.not_lt.mp (fun q => absurd ((rng_long hm2 (nI j) (nI 6) (nI_pos (by omega)) (by decide)).mpr q) (by rw [pk_sub (by omega)]; exact nI_nlt (by omega) (by omega))))) b55)
  refine j_iconst (nI 1) dX6_fits_64 rfl ?_
  refine j_istore dX6_fits_65 (Nat.le_of_ble_eq_true rfl) rfl ?_
  refine j_iconst (nI 0) dX6_fits_67 rfl ?_
  refine j_istore dX6_fits_68 (Nat.le_of_ble_eq_true rfl) rfl ?_
  skip
  refine m_fits_items hk hm hl hm2 hj (fun fl hf o6 => ?_) 7 0 (nI 1) _ (by omega) (by omega) (Or.inl ⟨rfl, fun q hq => absurd hq (by omega)⟩)
  rcases hf with ⟨_, hf⟩ | ⟨rfl, hf⟩
  · obtain ⟨q, hq, w⟩ := h
    exact absurd (okS_all.mp hf q hq) w
  · refine j_iload dX6_fits_148 rfl ?_
    refine j_top (nI 0) rfl ?_
    refine j_if_ne 156 dX6_fits_150 (by decide) (fun h => absurd rfl h) (fun _ => ?_)
    refine j_ldc (-1000001) dX6_fits_153 kc_X6_64 ?_
    exact j_iret rfl dX6_fits_155 rfl rfl (Nat.le_of_ble_eq_true rfl) (Nat.le_of_ble_eq_true rfl)

theorem m_fits_p0 {k m : Nat} (hk : k < 8) (hm : m ≤ 3) {j : Nat} (hj : j + 6 ≤ 40) {c : Nat} {f9 : Nat → Int32} (h9 : ∀ q, q < 6 → f9 q = nI (dgM m c q)) {rr : Option Value} {hh : AH} {l5 l6 l8 : Int32} (A : Prop) (K : ∀ fl : Int32, (fl = nI 1 ∧ (A ∧ (nI (dgM m c 0 + dgM m c 1) = (fun q => a7 (40 * k + q)) (j + 0) ∧ nI (dgM m c 4 + dgM m c 3) - nI (dgM m c 0 + dgM m c 1) = (fun q => a7 (40 * k + q)) (j + 3)))) ∨ (fl = nI 0 ∧ ¬ (A ∧ (nI (dgM m c 0 + dgM m c 1) = (fun q => a7 (40 * k + q)) (j + 0) ∧ nI (dgM m c 4 + dgM m c 3) - nI (dgM m c 0 + dgM m c 1) = (fun q => a7 (40 * k + q)) (j + 3)))) → ∀ (o11 o12 : Option Value), J G RX6 cX6_fits 13 (some .int) (TQ G 3 0 0 rr z hh) z (mH σ a0 a1 a2 a3 a4 a5 a6 a7 a8 f9 a10 a11 i0 i1 i2 i3 i4 i5 i6 i7 i8 i9 i10 i11) 0 0 243 [some (.ref 171), some (.int (nI k)), some (.int (nI j)), some (.int (nI m)), some (.int (nI 1)), some (.int l5), some (.int l6), some (.int (nI c)), some (.int l8), some (.int fl), some (.int (nI 1)), o11, o12] []) :
    ∀ (fl : Int32) (o11 o12 : Option Value), (fl = nI 1 ∧ A) ∨ (fl = nI 0 ∧ ¬ A) → J G RX6 cX6_fits 13 (some .int) (TQ G 3 0 0 rr z hh) z (mH σ a0 a1 a2 a3 a4 a5 a6 a7 a8 f9 a10 a11 i0 i1 i2 i3 i4 i5 i6 i7 i8 i9 i10 i11) 0 0 243 [some (.ref 171), some (.int (nI k)), some (.int (nI j)), some (.int (nI m)), some (.int (nI 1)), some (.int l5), some (.int l6), some (.int (nI c)), some (.int l8), some (.int fl), some (.int (nI 0)), o11, o12] [] := by
  intro fl o11 o12 hf
  have ea : a7 (40 * k + j + 0) = (fun q => a7 (40 * k + q)) (j + 0) := by show _ = a7 (40 * k + (j + 0)); rw [Nat.add_assoc]
  have eb : a7 (40 * k + j + 3 + 0) = (fun q => a7 (40 * k + q)) (j + 3) := by show _ = a7 (40 * k + (j + 3)); congr 1
  have d0 := dgM_lt m c 0
  have d1 := dgM_lt m c 1
  refine j_iload dX6_fits_243 rfl ?_
  refine j_iconst (nI 3) dX6_fits_245 rfl ?_
  refine j_icmp_geN 364 dX6_fits_246 (by decide) (by omega) (by omega) (fun b246 => by exfalso; omega) (fun b246 => ?_)
  refine j_aload_n dX6_fits_249 rfl rfl ?_
  refine j_getf dX6_fits_250 6 19 rfl (Nat.le_of_ble_eq_true rfl) fl_X6_38 in_6 mH_o rfl ?_
  refine j_iconst (nI 2) dX6_fits_253 rfl ?_
  refine j_iload dX6_fits_254 rfl ?_
  first | refine j_imulN dX6_fits_256 ?_ | refine j_imul dX6_fits_256 ?_
  refine j_iald dX6_fits_257 mH_a9 (k := 0) rfl (by omega) (by decide) ?_
  refine j_top _ (h9 0 (by omega)) ?_
  refine j_aload_n dX6_fits_258 rfl rfl ?_
  refine j_getf dX6_fits_259 6 19 rfl (Nat.le_of_ble_eq_true rfl) fl_X6_38 in_6 mH_o rfl ?_
  refine j_iconst (nI 2) dX6_fits_262 rfl ?_
  refine j_iload dX6_fits_263 rfl ?_
  first | refine j_imulN dX6_fits_265 ?_ | refine j_imul dX6_fits_265 ?_
  refine j_iconst (nI 1) dX6_fits_266 rfl ?_
  first | refine j_iaddN dX6_fits_267 ?_ | refine j_iadd dX6_fits_267 ?_
  refine j_iald dX6_fits_268 mH_a9 (k := 1) rfl (by omega) (by decide) ?_
  refine j_top _ (h9 1 (by omega)) ?_
  first | refine j_iaddN dX6_fits_269 ?_ | refine j_iadd dX6_fits_269 ?_
  refine j_istore dX6_fits_270 (Nat.le_of_ble_eq_true rfl) rfl ?_
  refine j_aload_n dX6_fits_272 rfl rfl ?_
  refine j_getf dX6_fits_273 6 19 rfl (Nat.le_of_ble_eq_true rfl) fl_X6_38 in_6 mH_o rfl ?_
  refine j_iconst (nI 2) dX6_fits_276 rfl ?_
  refine j_iload dX6_fits_277 rfl ?_
  refine j_iconst (nI 2) dX6_fits_279 rfl ?_
  first | refine j_iaddN dX6_fits_280 ?_ | refine j_iadd dX6_fits_280 ?_
  refine j_iconst (nI 3) dX6_fits_281 rfl ?_
  refine j_irem dX6_fits_282 (by decide) ?_
  refine j_top (nI 2) (by decide) ?_
  first | refine j_imulN dX6_fits_283 ?_ | refine j_imul dX6_fits_283 ?_
  refine j_iald dX6_fits_284 mH_a9 (k := 4) rfl (by omega) (by decide) ?_
  refine j_top _ (h9 4 (by omega)) ?_
  refine j_aload_n dX6_fits_285 rfl rfl ?_
  refine j_getf dX6_fits_286 6 19 rfl (Nat.le_of_ble_eq_true rfl) fl_X6_38 in_6 mH_o rfl ?_
  refine j_iconst (nI 2) dX6_fits_289 rfl ?_
  refine j_iload dX6_fits_290 rfl ?_
  refine j_iconst (nI 1) dX6_fits_292 rfl ?_
  first | refine j_iaddN dX6_fits_293 ?_ | refine j_iadd dX6_fits_293 ?_
  refine j_iconst (nI 3) dX6_fits_294 rfl ?_
  refine j_irem dX6_fits_295 (by decide) ?_
  refine j_top (nI 1) (by decide) ?_
  first | refine j_imulN dX6_fits_296 ?_ | refine j_imul dX6_fits_296 ?_
  refine j_iconst (nI 1) dX6_fits_297 rfl ?_
  first | refine j_iaddN dX6_fits_298 ?_ | refine j_iadd dX6_fits_298 ?_
  refine j_iald dX6_fits_299 mH_a9 (k := 3) rfl (by omega) (by decide) ?_
  refine j_top _ (h9 3 (by omega)) ?_
  first | refine j_iaddN dX6_fits_300 ?_ | refine j_iadd dX6_fits_300 ?_
  refine j_istore dX6_fits_301 (Nat.le_of_ble_eq_true rfl) rfl ?_
  refine j_iload dX6_fits_303 rfl ?_
  refine j_if_eq 355 dX6_fits_305 (by decide) (fun b305 => ?_) (fun b305 => ?_)
  · refine j_iconst (nI 0) dX6_fits_355 rfl ?_
    refine j_istore dX6_fits_356 (Nat.le_of_ble_eq_true rfl) rfl ?_
    first | refine j_iincN dX6_fits_358 rfl (Nat.le_of_ble_eq_true rfl) rfl ?_ | refine j_iinc _ dX6_fits_358 rfl rfl (Nat.le_of_ble_eq_true rfl) rfl ?_
    refine j_goto 243 dX6_fits_361 (by decide) ?_
    first
    | exact K _ (Or.inr ⟨rfl, fun q => hf.elim (fun w => absurd (show nI 1 = 0 from w.1.symm.trans b305) (by decide)) (fun w => w.2 q.1)⟩) _ _
    | exact K _ (Or.inr ⟨rfl, fun q => b324 q.2.1⟩) _ _
    | exact K _ (Or.inr ⟨rfl, fun q => b348 q.2.2⟩) _ _
    | exact K _ (Or.inl ⟨rfl, hf.elim (fun w => w.2) (fun w => absurd w.1 b305), b324, b348⟩) _ _
  · refine j_iload dX6_fits_308 rfl ?_
    refine j_aload_n dX6_fits_310 rfl rfl ?_
    refine j_getf dX6_fits_311 6 10 rfl (Nat.le_of_ble_eq_true rfl) fl_X6_32 in_6 mH_o rfl ?_
    refine j_bipush (nI 40) dX6_fits_314 rfl ?_
    refine j_iload_n dX6_fits_316 rfl rfl ?_
    first | refine j_imulN dX6_fits_317 ?_ | refine j_imul dX6_fits_317 ?_
    refine j_iload_n dX6_fits_318 rfl rfl ?_
    first | refine j_iaddN dX6_fits_319 ?_ | refine j_iadd dX6_fits_319 ?_
    refine j_iload dX6_fits_320 rfl ?_
    first | refine j_iaddN dX6_fits_322 ?_ | refine j_iadd dX6_fits_322 ?_
    refine j_iald dX6_fits_323 mH_a7 rfl (by omega) (by decide) ?_
    refine j_top _ ea ?_
    refine j_icmp_ne 355 dX6_fits_324 (by decide) (fun b324 => ?_) (fun b324 => ?_)
    · refine j_iconst (nI 0) dX6_fits_355 rfl ?_
      refine j_istore dX6_fits_356 (Nat.le_of_ble_eq_true rfl) rfl ?_
      first | refine j_iincN dX6_fits_358 rfl (Nat.le_of_ble_eq_true rfl) rfl ?_ | refine j_iinc _ dX6_fits_358 rfl rfl (Nat.le_of_ble_eq_true rfl) rfl ?_
      refine j_goto 243 dX6_fits_361 (by decide) ?_
      first
      | exact K _ (Or.inr ⟨rfl, fun q => hf.elim (fun w => absurd (show nI 1 = 0 from w.1.symm.trans b305) (by decide)) (fun w => w.2 q.1)⟩) _ _
      | exact K _ (Or.inr ⟨rfl, fun q => b324 q.2.1⟩) _ _
      | exact K _ (Or.inr ⟨rfl, fun q => b348 q.2.2⟩) _ _
      | exact K _ (Or.inl ⟨rfl, hf.elim (fun w => w.2) (fun w => absurd w.1 b305), b324, b348⟩) _ _
    · refine j_iload dX6_fits_327 rfl ?_
      refine j_iload dX6_fits_329 rfl ?_
      refine j_isub dX6_fits_331 ?_
      refine j_aload_n dX6_fits_332 rfl rfl ?_
      refine j_getf dX6_fits_333 6 10 rfl (Nat.le_of_ble_eq_true rfl) fl_X6_32 in_6 mH_o rfl ?_
      refine j_bipush (nI 40) dX6_fits_336 rfl ?_
      refine j_iload_n dX6_fits_338 rfl rfl ?_
      first | refine j_imulN dX6_fits_339 ?_ | refine j_imul dX6_fits_339 ?_
      refine j_iload_n dX6_fits_340 rfl rfl ?_
      first | refine j_iaddN dX6_fits_341 ?_ | refine j_iadd dX6_fits_341 ?_
      refine j_iconst (nI 3) dX6_fits_342 rfl ?_
      first | refine j_iaddN dX6_fits_343 ?_ | refine j_iadd dX6_fits_343 ?_
      refine j_iload dX6_fits_344 rfl ?_
      first | refine j_iaddN dX6_fits_346 ?_ | refine j_iadd dX6_fits_346 ?_
      refine j_iald dX6_fits_347 mH_a7 rfl (by omega) (by decide) ?_
      refine j_top _ eb ?_
      refine j_icmp_ne 355 dX6_fits_348 (by decide) (fun b348 => ?_) (fun b348 => ?_)
      · refine j_iconst (nI 0) dX6_fits_355 rfl ?_
        refine j_istore dX6_fits_356 (Nat.le_of_ble_eq_true rfl) rfl ?_
        first | refine j_iincN dX6_fits_358 rfl (Nat.le_of_ble_eq_true rfl) rfl ?_ | refine j_iinc _ dX6_fits_358 rfl rfl (Nat.le_of_ble_eq_true rfl) rfl ?_
        refine j_goto 243 dX6_fits_361 (by decide) ?_
        first
        | exact K _ (Or.inr ⟨rfl, fun q => hf.elim (fun w => absurd (show nI 1 = 0 from w.1.symm.trans b305) (by decide)) (fun w => w.2 q.1)⟩) _ _
        | exact K _ (Or.inr ⟨rfl, fun q => b324 q.2.1⟩) _ _
        | exact K _ (Or.inr ⟨rfl, fun q => b348 q.2.2⟩) _ _
        | exact K _ (Or.inl ⟨rfl, hf.elim (fun w => w.2) (fun w => absurd w.1 b305), b324, b348⟩) _ _
      · refine j_iconst (nI 1) dX6_fits_351 rfl ?_
        refine j_goto 356 dX6_fits_352 (by decide) ?_
        refine j_istore dX6_fits_356 (Nat.le_of_ble_eq_true rfl) rfl ?_
        first | refine j_iincN dX6_fits_358 rfl (Nat.le_of_ble_eq_true rfl) rfl ?_ | refine j_iinc _ dX6_fits_358 rfl rfl (Nat.le_of_ble_eq_true rfl) rfl ?_
        refine j_goto 243 dX6_fits_361 (by decide) ?_
        first
        | exact K _ (Or.inr ⟨rfl, fun q => hf.elim (fun w => absurd (show nI 1 = 0 from w.1.symm.trans b305) (by decide)) (fun w => w.2 q.1)⟩) _ _
        | exact K _ (Or.inr ⟨rfl, fun q => b324 q.2.1⟩) _ _
        | exact K _ (Or.inr ⟨rfl, fun q => b348 q.2.2⟩) _ _
        | exact K _ (Or.inl ⟨rfl, hf.elim (fun w => w.2) (fun w => absurd w.1 b305), b324, b348⟩) _ _
theorem m_fits_p1 {k m : Nat} (hk : k < 8) (hm : m ≤ 3) {j : Nat} (hj : j + 6 ≤ 40) {c : Nat} {f9 : Nat → Int32} (h9 : ∀ q, q < 6 → f9 q = nI (dgM m c q)) {rr : Option Value} {hh : AH} {l5 l6 l8 : Int32} (A : Prop) (K : ∀ fl : Int32, (fl = nI 1 ∧ (A ∧ (nI (dgM m c 2 + dgM m c 3) = (fun q => a7 (40 * k + q)) (j + 1) ∧ nI (dgM m c 0 + dgM m c 5) - nI (dgM m c 2 + dgM m c 3) = (fun q => a7 (40 * k + q)) (j + 4)))) ∨ (fl = nI 0 ∧ ¬ (A ∧ (nI (dgM m c 2 + dgM m c 3) = (fun q => a7 (40 * k + q)) (j + 1) ∧ nI (dgM m c 0 + dgM m c 5) - nI (dgM m c 2 + dgM m c 3) = (fun q => a7 (40 * k + q)) (j + 4)))) → ∀ (o11 o12 : Option Value), J G RX6 cX6_fits 13 (some .int) (TQ G 3 0 0 rr z hh) z (mH σ a0 a1 a2 a3 a4 a5 a6 a7 a8 f9 a10 a11 i0 i1 i2 i3 i4 i5 i6 i7 i8 i9 i10 i11) 0 0 243 [some (.ref 171), some (.int (nI k)), some (.int (nI j)), some (.int (nI m)), some (.int (nI 1)), some (.int l5), some (.int l6), some (.int (nI c)), some (.int l8), some (.int fl), some (.int (nI 2)), o11, o12] []) :
    ∀ (fl : Int32) (o11 o12 : Option Value), (fl = nI 1 ∧ A) ∨ (fl = nI 0 ∧ ¬ A) → J G RX6 cX6_fits 13 (some .int) (TQ G 3 0 0 rr z hh) z (mH σ a0 a1 a2 a3 a4 a5 a6 a7 a8 f9 a10 a11 i0 i1 i2 i3 i4 i5 i6 i7 i8 i9 i10 i11) 0 0 243 [some (.ref 171), some (.int (nI k)), some (.int (nI j)), some (.int (nI m)), some (.int (nI 1)), some (.int l5), some (.int l6), some (.int (nI c)), some (.int l8), some (.int fl), some (.int (nI 1)), o11, o12] [] := by
  intro fl o11 o12 hf
  have ea : a7 (40 * k + j + 1) = (fun q => a7 (40 * k + q)) (j + 1) := by show _ = a7 (40 * k + (j + 1)); rw [Nat.add_assoc]
  have eb : a7 (40 * k + j + 3 + 1) = (fun q => a7 (40 * k + q)) (j + 4) := by show _ = a7 (40 * k + (j + 4)); congr 1
  have d0 := dgM_lt m c 2
  have d1 := dgM_lt m c 3
  refine j_iload dX6_fits_243 rfl ?_
  refine j_iconst (nI 3) dX6_fits_245 rfl ?_
  refine j_icmp_geN 364 dX6_fits_246 (by decide) (by omega) (by omega) (fun b246 => by exfalso; omega) (fun b246 => ?_)
  refine j_aload_n dX6_fits_249 rfl rfl ?_
  refine j_getf dX6_fits_250 6 19 rfl (Nat.le_of_ble_eq_true rfl) fl_X6_38 in_6 mH_o rfl ?_
  refine j_iconst (nI 2) dX6_fits_253 rfl ?_
  refine j_iload dX6_fits_254 rfl ?_
  first | refine j_imulN dX6_fits_256 ?_ | refine j_imul dX6_fits_256 ?_
  refine j_iald dX6_fits_257 mH_a9 (k := 2) rfl (by omega) (by decide) ?_
  refine j_top _ (h9 2 (by omega)) ?_
  refine j_aload_n dX6_fits_258 rfl rfl ?_
  refine j_getf dX6_fits_259 6 19 rfl (Nat.le_of_ble_eq_true rfl) fl_X6_38 in_6 mH_o rfl ?_
  refine j_iconst (nI 2) dX6_fits_262 rfl ?_
  refine j_iload dX6_fits_263 rfl ?_
  first | refine j_imulN dX6_fits_265 ?_ | refine j_imul dX6_fits_265 ?_
  refine j_iconst (nI 1) dX6_fits_266 rfl ?_
  first | refine j_iaddN dX6_fits_267 ?_ | refine j_iadd dX6_fits_267 ?_
  refine j_iald dX6_fits_268 mH_a9 (k := 3) rfl (by omega) (by decide) ?_
  refine j_top _ (h9 3 (by omega)) ?_
  first | refine j_iaddN dX6_fits_269 ?_ | refine j_iadd dX6_fits_269 ?_
  refine j_istore dX6_fits_270 (Nat.le_of_ble_eq_true rfl) rfl ?_
  refine j_aload_n dX6_fits_272 rfl rfl ?_
  refine j_getf dX6_fits_273 6 19 rfl (Nat.le_of_ble_eq_true rfl) fl_X6_38 in_6 mH_o rfl ?_
  refine j_iconst (nI 2) dX6_fits_276 rfl ?_
  refine j_iload dX6_fits_277 rfl ?_
  refine j_iconst (nI 2) dX6_fits_279 rfl ?_
  first | refine j_iaddN dX6_fits_280 ?_ | refine j_iadd dX6_fits_280 ?_
  refine j_iconst (nI 3) dX6_fits_281 rfl ?_
  refine j_irem dX6_fits_282 (by decide) ?_
  refine j_top (nI 0) (by decide) ?_
  first | refine j_imulN dX6_fits_283 ?_ | refine j_imul dX6_fits_283 ?_
  refine j_iald dX6_fits_284 mH_a9 (k := 0) rfl (by omega) (by decide) ?_
  refine j_top _ (h9 0 (by omega)) ?_
  refine j_aload_n dX6_fits_285 rfl rfl ?_
  refine j_getf dX6_fits_286 6 19 rfl (Nat.le_of_ble_eq_true rfl) fl_X6_38 in_6 mH_o rfl ?_
  refine j_iconst (nI 2) dX6_fits_289 rfl ?_
  refine j_iload dX6_fits_290 rfl ?_
  refine j_iconst (nI 1) dX6_fits_292 rfl ?_
  first | refine j_iaddN dX6_fits_293 ?_ | refine j_iadd dX6_fits_293 ?_
  refine j_iconst (nI 3) dX6_fits_294 rfl ?_
  refine j_irem dX6_fits_295 (by decide) ?_
  refine j_top (nI 2) (by decide) ?_
  first | refine j_imulN dX6_fits_296 ?_ | refine j_imul dX6_fits_296 ?_
  refine j_iconst (nI 1) dX6_fits_297 rfl ?_
  first | refine j_iaddN dX6_fits_298 ?_ | refine j_iadd dX6_fits_298 ?_
  refine j_iald dX6_fits_299 mH_a9 (k := 5) rfl (by omega) (by decide) ?_
  refine j_top _ (h9 5 (by omega)) ?_
  first | refine j_iaddN dX6_fits_300 ?_ | refine j_iadd dX6_fits_300 ?_
  refine j_istore dX6_fits_301 (Nat.le_of_ble_eq_true rfl) rfl ?_
  refine j_iload dX6_fits_303 rfl ?_
  refine j_if_eq 355 dX6_fits_305 (by decide) (fun b305 => ?_) (fun b305 => ?_)
  · refine j_iconst (nI 0) dX6_fits_355 rfl ?_
    refine j_istore dX6_fits_356 (Nat.le_of_ble_eq_true rfl) rfl ?_
    first | refine j_iincN dX6_fits_358 rfl (Nat.le_of_ble_eq_true rfl) rfl ?_ | refine j_iinc _ dX6_fits_358 rfl rfl (Nat.le_of_ble_eq_true rfl) rfl ?_
    refine j_goto 243 dX6_fits_361 (by decide) ?_
    first
    | exact K _ (Or.inr ⟨rfl, fun q => hf.elim (fun w => absurd (show nI 1 = 0 from w.1.symm.trans b305) (by decide)) (fun w => w.2 q.1)⟩) _ _
    | exact K _ (Or.inr ⟨rfl, fun q => b324 q.2.1⟩) _ _
    | exact K _ (Or.inr ⟨rfl, fun q => b348 q.2.2⟩) _ _
    | exact K _ (Or.inl ⟨rfl, hf.elim (fun w => w.2) (fun w => absurd w.1 b305), b324, b348⟩) _ _
  · refine j_iload dX6_fits_308 rfl ?_
    refine j_aload_n dX6_fits_310 rfl rfl ?_
    refine j_getf dX6_fits_311 6 10 rfl (Nat.le_of_ble_eq_true rfl) fl_X6_32 in_6 mH_o rfl ?_
    refine j_bipush (nI 40) dX6_fits_314 rfl ?_
    refine j_iload_n dX6_fits_316 rfl rfl ?_
    first | refine j_imulN dX6_fits_317 ?_ | refine j_imul dX6_fits_317 ?_
    refine j_iload_n dX6_fits_318 rfl rfl ?_
    first | refine j_iaddN dX6_fits_319 ?_ | refine j_iadd dX6_fits_319 ?_
    refine j_iload dX6_fits_320 rfl ?_
    first | refine j_iaddN dX6_fits_322 ?_ | refine j_iadd dX6_fits_322 ?_
    refine j_iald dX6_fits_323 mH_a7 rfl (by omega) (by decide) ?_
    refine j_top _ ea ?_
    refine j_icmp_ne 355 dX6_fits_324 (by decide) (fun b324 => ?_) (fun b324 => ?_)
    · refine j_iconst (nI 0) dX6_fits_355 rfl ?_
      refine j_istore dX6_fits_356 (Nat.le_of_ble_eq_true rfl) rfl ?_
      first | refine j_iincN dX6_fits_358 rfl (Nat.le_of_ble_eq_true rfl) rfl ?_ | refine j_iinc _ dX6_fits_358 rfl rfl (Nat.le_of_ble_eq_true rfl) rfl ?_
      refine j_goto 243 dX6_fits_361 (by decide) ?_
      first
      | exact K _ (Or.inr ⟨rfl, fun q => hf.elim (fun w => absurd (show nI 1 = 0 from w.1.symm.trans b305) (by decide)) (fun w => w.2 q.1)⟩) _ _
      | exact K _ (Or.inr ⟨rfl, fun q => b324 q.2.1⟩) _ _
      | exact K _ (Or.inr ⟨rfl, fun q => b348 q.2.2⟩) _ _
      | exact K _ (Or.inl ⟨rfl, hf.elim (fun w => w.2) (fun w => absurd w.1 b305), b324, b348⟩) _ _
    · refine j_iload dX6_fits_327 rfl ?_
      refine j_iload dX6_fits_329 rfl ?_
      refine j_isub dX6_fits_331 ?_
      refine j_aload_n dX6_fits_332 rfl rfl ?_
      refine j_getf dX6_fits_333 6 10 rfl (Nat.le_of_ble_eq_true rfl) fl_X6_32 in_6 mH_o rfl ?_
      refine j_bipush (nI 40) dX6_fits_336 rfl ?_
      refine j_iload_n dX6_fits_338 rfl rfl ?_
      first | refine j_imulN dX6_fits_339 ?_ | refine j_imul dX6_fits_339 ?_
      refine j_iload_n dX6_fits_340 rfl rfl ?_
      first | refine j_iaddN dX6_fits_341 ?_ | refine j_iadd dX6_fits_341 ?_
      refine j_iconst (nI 3) dX6_fits_342 rfl ?_
      first | refine j_iaddN dX6_fits_343 ?_ | refine j_iadd dX6_fits_343 ?_
      refine j_iload dX6_fits_344 rfl ?_
      first | refine j_iaddN dX6_fits_346 ?_ | refine j_iadd dX6_fits_346 ?_
      refine j_iald dX6_fits_347 mH_a7 rfl (by omega) (by decide) ?_
      refine j_top _ eb ?_
      refine j_icmp_ne 355 dX6_fits_348 (by decide) (fun b348 => ?_) (fun b348 => ?_)
      · refine j_iconst (nI 0) dX6_fits_355 rfl ?_
        refine j_istore dX6_fits_356 (Nat.le_of_ble_eq_true rfl) rfl ?_
        first | refine j_iincN dX6_fits_358 rfl (Nat.le_of_ble_eq_true rfl) rfl ?_ | refine j_iinc _ dX6_fits_358 rfl rfl (Nat.le_of_ble_eq_true rfl) rfl ?_
        refine j_goto 243 dX6_fits_361 (by decide) ?_
        first
        | exact K _ (Or.inr ⟨rfl, fun q => hf.elim (fun w => absurd (show nI 1 = 0 from w.1.symm.trans b305) (by decide)) (fun w => w.2 q.1)⟩) _ _
        | exact K _ (Or.inr ⟨rfl, fun q => b324 q.2.1⟩) _ _
        | exact K _ (Or.inr ⟨rfl, fun q => b348 q.2.2⟩) _ _
        | exact K _ (Or.inl ⟨rfl, hf.elim (fun w => w.2) (fun w => absurd w.1 b305), b324, b348⟩) _ _
      · refine j_iconst (nI 1) dX6_fits_351 rfl ?_
        refine j_goto 356 dX6_fits_352 (by decide) ?_
        refine j_istore dX6_fits_356 (Nat.le_of_ble_eq_true rfl) rfl ?_
        first | refine j_iincN dX6_fits_358 rfl (Nat.le_of_ble_eq_true rfl) rfl ?_ | refine j_iinc _ dX6_fits_358 rfl rfl (Nat.le_of_ble_eq_true rfl) rfl ?_
        refine j_goto 243 dX6_fits_361 (by decide) ?_
        first
        | exact K _ (Or.inr ⟨rfl, fun q => hf.elim (fun w => absurd (show nI 1 = 0 from w.1.symm.trans b305) (by decide)) (fun w => w.2 q.1)⟩) _ _
        | exact K _ (Or.inr ⟨rfl, fun q => b324 q.2.1⟩) _ _
        | exact K _ (Or.inr ⟨rfl, fun q => b348 q.2.2⟩) _ _
        | exact K _ (Or.inl ⟨rfl, hf.elim (fun w => w.2) (fun w => absurd w.1 b305), b324, b348⟩) _ _
theorem m_fits_p2 {k m : Nat} (hk : k < 8) (hm : m ≤ 3) {j : Nat} (hj : j + 6 ≤ 40) {c : Nat} {f9 : Nat → Int32} (h9 : ∀ q, q < 6 → f9 q = nI (dgM m c q)) {rr : Option Value} {hh : AH} {l5 l6 l8 : Int32} (A : Prop) (K : ∀ fl : Int32, (fl = nI 1 ∧ (A ∧ (nI (dgM m c 4 + dgM m c 5) = (fun q => a7 (40 * k + q)) (j + 2) ∧ nI (dgM m c 2 + dgM m c 1) - nI (dgM m c 4 + dgM m c 5) = (fun q => a7 (40 * k + q)) (j + 5)))) ∨ (fl = nI 0 ∧ ¬ (A ∧ (nI (dgM m c 4 + dgM m c 5) = (fun q => a7 (40 * k + q)) (j + 2) ∧ nI (dgM m c 2 + dgM m c 1) - nI (dgM m c 4 + dgM m c 5) = (fun q => a7 (40 * k + q)) (j + 5)))) → ∀ (o11 o12 : Option Value), J G RX6 cX6_fits 13 (some .int) (TQ G 3 0 0 rr z hh) z (mH σ a0 a1 a2 a3 a4 a5 a6 a7 a8 f9 a10 a11 i0 i1 i2 i3 i4 i5 i6 i7 i8 i9 i10 i11) 0 0 243 [some (.ref 171), some (.int (nI k)), some (.int (nI j)), some (.int (nI m)), some (.int (nI 1)), some (.int l5), some (.int l6), some (.int (nI c)), some (.int l8), some (.int fl), some (.int (nI 3)), o11, o12] []) :
    ∀ (fl : Int32) (o11 o12 : Option Value), (fl = nI 1 ∧ A) ∨ (fl = nI 0 ∧ ¬ A) → J G RX6 cX6_fits 13 (some .int) (TQ G 3 0 0 rr z hh) z (mH σ a0 a1 a2 a3 a4 a5 a6 a7 a8 f9 a10 a11 i0 i1 i2 i3 i4 i5 i6 i7 i8 i9 i10 i11) 0 0 243 [some (.ref 171), some (.int (nI k)), some (.int (nI j)), some (.int (nI m)), some (.int (nI 1)), some (.int l5), some (.int l6), some (.int (nI c)), some (.int l8), some (.int fl), some (.int (nI 2)), o11, o12] [] := by
  intro fl o11 o12 hf
  have ea : a7 (40 * k + j + 2) = (fun q => a7 (40 * k + q)) (j + 2) := by show _ = a7 (40 * k + (j + 2)); rw [Nat.add_assoc]
  have eb : a7 (40 * k + j + 3 + 2) = (fun q => a7 (40 * k + q)) (j + 5) := by show _ = a7 (40 * k + (j + 5)); congr 1
  have d0 := dgM_lt m c 4
  have d1 := dgM_lt m c 5
  refine j_iload dX6_fits_243 rfl ?_
  refine j_iconst (nI 3) dX6_fits_245 rfl ?_
  refine j_icmp_geN 364 dX6_fits_246 (by decide) (by omega) (by omega) (fun b246 => by exfalso; omega) (fun b246 => ?_)
  refine j_aload_n dX6_fits_249 rfl rfl ?_
  refine j_getf dX6_fits_250 6 19 rfl (Nat.le_of_ble_eq_true rfl) fl_X6_38 in_6 mH_o rfl ?_
  refine j_iconst (nI 2) dX6_fits_253 rfl ?_
  refine j_iload dX6_fits_254 rfl ?_
  first | refine j_imulN dX6_fits_256 ?_ | refine j_imul dX6_fits_256 ?_
  refine j_iald dX6_fits_257 mH_a9 (k := 4) rfl (by omega) (by decide) ?_
  refine j_top _ (h9 4 (by omega)) ?_
  refine j_aload_n dX6_fits_258 rfl rfl ?_
  refine j_getf dX6_fits_259 6 19 rfl (Nat.le_of_ble_eq_true rfl) fl_X6_38 in_6 mH_o rfl ?_
  refine j_iconst (nI 2) dX6_fits_262 rfl ?_
  refine j_iload dX6_fits_263 rfl ?_
  first | refine j_imulN dX6_fits_265 ?_ | refine j_imul dX6_fits_265 ?_
  refine j_iconst (nI 1) dX6_fits_266 rfl ?_
  first | refine j_iaddN dX6_fits_267 ?_ | refine j_iadd dX6_fits_267 ?_
  refine j_iald dX6_fits_268 mH_a9 (k := 5) rfl (by omega) (by decide) ?_
  refine j_top _ (h9 5 (by omega)) ?_
  first | refine j_iaddN dX6_fits_269 ?_ | refine j_iadd dX6_fits_269 ?_
  refine j_istore dX6_fits_270 (Nat.le_of_ble_eq_true rfl) rfl ?_
  refine j_aload_n dX6_fits_272 rfl rfl ?_
  refine j_getf dX6_fits_273 6 19 rfl (Nat.le_of_ble_eq_true rfl) fl_X6_38 in_6 mH_o rfl ?_
  refine j_iconst (nI 2) dX6_fits_276 rfl ?_
  refine j_iload dX6_fits_277 rfl ?_
  refine j_iconst (nI 2) dX6_fits_279 rfl ?_
  first | refine j_iaddN dX6_fits_280 ?_ | refine j_iadd dX6_fits_280 ?_
  refine j_iconst (nI 3) dX6_fits_281 rfl ?_
  refine j_irem dX6_fits_282 (by decide) ?_
  refine j_top (nI 1) (by decide) ?_
  first | refine j_imulN dX6_fits_283 ?_ | refine j_imul dX6_fits_283 ?_
  refine j_iald dX6_fits_284 mH_a9 (k := 2) rfl (by omega) (by decide) ?_
  refine j_top _ (h9 2 (by omega)) ?_
  refine j_aload_n dX6_fits_285 rfl rfl ?_
  refine j_getf dX6_fits_286 6 19 rfl (Nat.le_of_ble_eq_true rfl) fl_X6_38 in_6 mH_o rfl ?_
  refine j_iconst (nI 2) dX6_fits_289 rfl ?_
  refine j_iload dX6_fits_290 rfl ?_
  refine j_iconst (nI 1) dX6_fits_292 rfl ?_
  first | refine j_iaddN dX6_fits_293 ?_ | refine j_iadd dX6_fits_293 ?_
  refine j_iconst (nI 3) dX6_fits_294 rfl ?_
  refine j_irem dX6_fits_295 (by decide) ?_
  refine j_top (nI 0) (by decide) ?_
  first | refine j_imulN dX6_fits_296 ?_ | refine j_imul dX6_fits_296 ?_
  refine j_iconst (nI 1) dX6_fits_297 rfl ?_
  first | refine j_iaddN dX6_fits_298 ?_ | refine j_iadd dX6_fits_298 ?_
  refine j_iald dX6_fits_299 mH_a9 (k := 1) rfl (by omega) (by decide) ?_
  refine j_top _ (h9 1 (by omega)) ?_
  first | refine j_iaddN dX6_fits_300 ?_ | refine j_iadd dX6_fits_300 ?_
  refine j_istore dX6_fits_301 (Nat.le_of_ble_eq_true rfl) rfl ?_
  refine j_iload dX6_fits_303 rfl ?_
  refine j_if_eq 355 dX6_fits_305 (by decide) (fun b305 => ?_) (fun b305 => ?_)
  · refine j_iconst (nI 0) dX6_fits_355 rfl ?_
    refine j_istore dX6_fits_356 (Nat.le_of_ble_eq_true rfl) rfl ?_
    first | refine j_iincN dX6_fits_358 rfl (Nat.le_of_ble_eq_true rfl) rfl ?_ | refine j_iinc _ dX6_fits_358 rfl rfl (Nat.le_of_ble_eq_true rfl) rfl ?_
    refine j_goto 243 dX6_fits_361 (by decide) ?_
    first
    | exact K _ (Or.inr ⟨rfl, fun q => hf.elim (fun w => absurd (show nI 1 = 0 from w.1.symm.trans b305) (by decide)) (fun w => w.2 q.1)⟩) _ _
    | exact K _ (Or.inr ⟨rfl, fun q => b324 q.2.1⟩) _ _
    | exact K _ (Or.inr ⟨rfl, fun q => b348 q.2.2⟩) _ _
    | exact K _ (Or.inl ⟨rfl, hf.elim (fun w => w.2) (fun w => absurd w.1 b305), b324, b348⟩) _ _
  · refine j_iload dX6_fits_308 rfl ?_
    refine j_aload_n dX6_fits_310 rfl rfl ?_
    refine j_getf dX6_fits_311 6 10 rfl (Nat.le_of_ble_eq_true rfl) fl_X6_32 in_6 mH_o rfl ?_
    refine j_bipush (nI 40) dX6_fits_314 rfl ?_
    refine j_iload_n dX6_fits_316 rfl rfl ?_
    first | refine j_imulN dX6_fits_317 ?_ | refine j_imul dX6_fits_317 ?_
    refine j_iload_n dX6_fits_318 rfl rfl ?_
    first | refine j_iaddN dX6_fits_319 ?_ | refine j_iadd dX6_fits_319 ?_
    refine j_iload dX6_fits_320 rfl ?_
    first | refine j_iaddN dX6_fits_322 ?_ | refine j_iadd dX6_fits_322 ?_
    refine j_iald dX6_fits_323 mH_a7 rfl (by omega) (by decide) ?_
    refine j_top _ ea ?_
    refine j_icmp_ne 355 dX6_fits_324 (by decide) (fun b324 => ?_) (fun b324 => ?_)
    · refine j_iconst (nI 0) dX6_fits_355 rfl ?_
      refine j_istore dX6_fits_356 (Nat.le_of_ble_eq_true rfl) rfl ?_
      first | refine j_iincN dX6_fits_358 rfl (Nat.le_of_ble_eq_true rfl) rfl ?_ | refine j_iinc _ dX6_fits_358 rfl rfl (Nat.le_of_ble_eq_true rfl) rfl ?_
      refine j_goto 243 dX6_fits_361 (by decide) ?_
      first
      | exact K _ (Or.inr ⟨rfl, fun q => hf.elim (fun w => absurd (show nI 1 = 0 from w.1.symm.trans b305) (by decide)) (fun w => w.2 q.1)⟩) _ _
      | exact K _ (Or.inr ⟨rfl, fun q => b324 q.2.1⟩) _ _
      | exact K _ (Or.inr ⟨rfl, fun q => b348 q.2.2⟩) _ _
      | exact K _ (Or.inl ⟨rfl, hf.elim (fun w => w.2) (fun w => absurd w.1 b305), b324, b348⟩) _ _
    · refine j_iload dX6_fits_327 rfl ?_
      refine j_iload dX6_fits_329 rfl ?_
      refine j_isub dX6_fits_331 ?_
      refine j_aload_n dX6_fits_332 rfl rfl ?_
      refine j_getf dX6_fits_333 6 10 rfl (Nat.le_of_ble_eq_true rfl) fl_X6_32 in_6 mH_o rfl ?_
      refine j_bipush (nI 40) dX6_fits_336 rfl ?_
      refine j_iload_n dX6_fits_338 rfl rfl ?_
      first | refine j_imulN dX6_fits_339 ?_ | refine j_imul dX6_fits_339 ?_
      refine j_iload_n dX6_fits_340 rfl rfl ?_
      first | refine j_iaddN dX6_fits_341 ?_ | refine j_iadd dX6_fits_341 ?_
      refine j_iconst (nI 3) dX6_fits_342 rfl ?_
      first | refine j_iaddN dX6_fits_343 ?_ | refine j_iadd dX6_fits_343 ?_
      refine j_iload dX6_fits_344 rfl ?_
      first | refine j_iaddN dX6_fits_346 ?_ | refine j_iadd dX6_fits_346 ?_
      refine j_iald dX6_fits_347 mH_a7 rfl (by omega) (by decide) ?_
      refine j_top _ eb ?_
      refine j_icmp_ne 355 dX6_fits_348 (by decide) (fun b348 => ?_) (fun b348 => ?_)
      · refine j_iconst (nI 0) dX6_fits_355 rfl ?_
        refine j_istore dX6_fits_356 (Nat.le_of_ble_eq_true rfl) rfl ?_
        first | refine j_iincN dX6_fits_358 rfl (Nat.le_of_ble_eq_true rfl) rfl ?_ | refine j_iinc _ dX6_fits_358 rfl rfl (Nat.le_of_ble_eq_true rfl) rfl ?_
        refine j_goto 243 dX6_fits_361 (by decide) ?_
        first
        | exact K _ (Or.inr ⟨rfl, fun q => hf.elim (fun w => absurd (show nI 1 = 0 from w.1.symm.trans b305) (by decide)) (fun w => w.2 q.1)⟩) _ _
        | exact K _ (Or.inr ⟨rfl, fun q => b324 q.2.1⟩) _ _
        | exact K _ (Or.inr ⟨rfl, fun q => b348 q.2.2⟩) _ _
        | exact K _ (Or.inl ⟨rfl, hf.elim (fun w => w.2) (fun w => absurd w.1 b305), b324, b348⟩) _ _
      · refine j_iconst (nI 1) dX6_fits_351 rfl ?_
        refine j_goto 356 dX6_fits_352 (by decide) ?_
        refine j_istore dX6_fits_356 (Nat.le_of_ble_eq_true rfl) rfl ?_
        first | refine j_iincN dX6_fits_358 rfl (Nat.le_of_ble_eq_true rfl) rfl ?_ | refine j_iinc _ dX6_fits_358 rfl rfl (Nat.le_of_ble_eq_true rfl) rfl ?_
        refine j_goto 243 dX6_fits_361 (by decide) ?_
        first
        | exact K _ (Or.inr ⟨rfl, fun q => hf.elim (fun w => absurd (show nI 1 = 0 from w.1.symm.trans b305) (by decide)) (fun w => w.2 q.1)⟩) _ _
        | exact K _ (Or.inr ⟨rfl, fun q => b324 q.2.1⟩) _ _
        | exact K _ (Or.inr ⟨rfl, fun q => b348 q.2.2⟩) _ _
        | exact K _ (Or.inl ⟨rfl, hf.elim (fun w => w.2) (fun w => absurd w.1 b305), b324, b348⟩) _ _
theorem m_fits_code {k m : Nat} (hk : k < 8) (hm : m ≤ 3) {m2 j : Nat} (hl : a5 k = nI m2) (hm2 : m2 ≤ 40) (hj : j + 6 ≤ m2) :
    ∀ (kk c : Nat) (o8 o9 o10 o11 o12 : Option Value), c ≤ (m + 1) ^ 6 → (m + 1) ^ 6 < c + kk → J G RX6 cX6_fits 13 (some .int) (TQ G 3 0 0 (some (.int (nI (ftA (fun q => a7 (40 * k + q)) j m (m + 1))))) z (mH σ a0 a1 a2 a3 a4 a5 a6 a7 a8 (sxA m a9 ((m + 1) ^ 6)) a10 a11 i0 (nI 0) i2 i3 i4 i5 i6 i7 i8 i9 i10 i11)) z (mH σ a0 a1 a2 a3 a4 a5 a6 a7 a8 (sxA m a9 c) a10 a11 i0 i1 i2 i3 i4 i5 i6 i7 i8 i9 i10 i11) 0 0 189 [some (.ref 171), some (.int (nI k)), some (.int (nI j)), some (.int (nI m)), some (.int (nI 1)), some (.int (nI ((m + 1) ^ 6))), some (.int (nI (smN (fun c => indP (fxM (fun q => a7 (40 * k + q)) j m c)) c))), some (.int (nI c)), o8, o9, o10, o11, o12] [] := by
  have h6 := pow6 hm
  intro kk
  induction kk with
  | zero => intro c o8 o9 o10 o11 o12 h1 h2; exact absurd h2 (by omega)
  | succ kk ih =>
    intro c o8 o9 o10 o11 o12 h1 h2
    by_cases hc : c < (m + 1) ^ 6
    · refine j_iload dX6_fits_189 rfl ?_
      refine j_iload dX6_fits_191 rfl ?_
      refine j_icmp_geN 385 dX6_fits_193 (by decide) (by omega) (by omega) (fun b193 => by exfalso; omega) (fun b193 => ?_)
      refine j_iload dX6_fits_196 rfl ?_
      refine j_istore dX6_fits_198 (Nat.le_of_ble_eq_true rfl) rfl ?_
      refine j_iconst (nI 0) dX6_fits_200 rfl ?_
      refine j_istore dX6_fits_201 (Nat.le_of_ble_eq_true rfl) rfl ?_
      skip
      suffices H : ∀ (kk q : Nat), q ≤ 6 → 6 < q + kk → J G RX6 cX6_fits 13 (some .int) (TQ G 3 0 0 (some (.int (nI (ftA (fun q => a7 (40 * k + q)) j m (m + 1))))) z (mH σ a0 a1 a2 a3 a4 a5 a6 a7 a8 (sxA m a9 ((m + 1) ^ 6)) a10 a11 i0 (nI 0) i2 i3 i4 i5 i6 i7 i8 i9 i10 i11)) z (mH σ a0 a1 a2 a3 a4 a5 a6 a7 a8 (sxB m (sxA m a9 c) c q) a10 a11 i0 i1 i2 i3 i4 i5 i6 i7 i8 i9 i10 i11) 0 0 203 [some (.ref 171), some (.int (nI k)), some (.int (nI j)), some (.int (nI m)), some (.int (nI 1)), some (.int (nI ((m + 1) ^ 6))), some (.int (nI (smN (fun c => indP (fxM (fun q => a7 (40 * k + q)) j m c)) c))), some (.int (nI c)), some (.int (nI (lfM m c q))), some (.int (nI q)), o10, o11, o12] [] from H 7 0 (by omega) (by omega)
      intro kk2
      induction kk2 with
      | zero => intro q h1 h2; exact absurd h2 (by omega)
      | succ kk2 ih2 =>
        intro q h1q h2q
        have hlf := lfM_le m c q
        by_cases hq : q < 6
        · refine j_iload dX6_fits_203 rfl ?_
          refine j_bipush (nI 6) dX6_fits_205 rfl ?_
          refine j_icmp_geN 237 dX6_fits_207 (by decide) (by omega) (by omega) (fun b207 => by exfalso; omega) (fun b207 => ?_)
          refine j_aload_n dX6_fits_210 rfl rfl ?_
          refine j_getf dX6_fits_211 6 19 rfl (Nat.le_of_ble_eq_true rfl) fl_X6_38 in_6 mH_o rfl ?_
          refine j_iload dX6_fits_214 rfl ?_
          refine j_iload dX6_fits_216 rfl ?_
          refine j_iload_n dX6_fits_218 rfl rfl ?_
          refine j_iconst (nI 1) dX6_fits_219 rfl ?_
          first | refine j_iaddN dX6_fits_220 ?_ | refine j_iadd dX6_fits_220 ?_
          refine j_irem dX6_fits_221 (nI_ne0 (by omega) (by omega)) ?_
          refine j_top (nI (dgM m c q)) (pk_rem (by omega) (by omega) (by omega)) ?_
          refine j_iast dX6_fits_222 mH_a9 rfl (by omega) (by decide) _ mH_s9 ?_
          refine j_iload dX6_fits_223 rfl ?_
          refine j_iload_n dX6_fits_225 rfl rfl ?_
          refine j_iconst (nI 1) dX6_fits_226 rfl ?_
          first | refine j_iaddN dX6_fits_227 ?_ | refine j_iadd dX6_fits_227 ?_
          refine j_idiv dX6_fits_228 (nI_ne0 (by omega) (by omega)) ?_
          refine j_top (nI (lfM m c (q + 1))) (pk_div (by omega) (by omega) (by omega)) ?_
          refine j_istore dX6_fits_229 (Nat.le_of_ble_eq_true rfl) rfl ?_
          first | refine j_iincN dX6_fits_231 rfl (Nat.le_of_ble_eq_true rfl) rfl ?_ | refine j_iinc _ dX6_fits_231 rfl rfl (Nat.le_of_ble_eq_true rfl) rfl ?_
          refine j_goto 203 dX6_fits_234 (by decide) ?_
          exact ih2 (q + 1) (by omega) (by omega)
        · obtain rfl : q = 6 := by omega
          have h9 : ∀ q, q < 6 → sxB m (sxA m a9 c) c 6 q = nI (dgM m c q) := fun q hq => sxB_at hq
          have hle := smN_le (f := fun c => indP (fxM (fun q => a7 (40 * k + q)) j m c)) (fun k => ind_le _) c
          have hend : ∀ fl : Int32, (fl = nI 1 ∧ fxM (fun q => a7 (40 * k + q)) j m c) ∨ (fl = nI 0 ∧ ¬ fxM (fun q => a7 (40 * k + q)) j m c) → ∀ (o10 o11 o12 : Option Value), J G RX6 cX6_fits 13 (some .int) (TQ G 3 0 0 (some (.int (nI (ftA (fun q => a7 (40 * k + q)) j m (m + 1))))) z (mH σ a0 a1 a2 a3 a4 a5 a6 a7 a8 (sxA m a9 ((m + 1) ^ 6)) a10 a11 i0 (nI 0) i2 i3 i4 i5 i6 i7 i8 i9 i10 i11)) z (mH σ a0 a1 a2 a3 a4 a5 a6 a7 a8 (sxB m (sxA m a9 c) c 6) a10 a11 i0 i1 i2 i3 i4 i5 i6 i7 i8 i9 i10 i11) 0 0 364 [some (.ref 171), some (.int (nI k)), some (.int (nI j)), some (.int (nI m)), some (.int (nI 1)), some (.int (nI ((m + 1) ^ 6))), some (.int (nI (smN (fun c => indP (fxM (fun q => a7 (40 * k + q)) j m c)) c))), some (.int (nI c)), some (.int (nI (lfM m c 6))), some (.int fl), o10, o11, o12] [] := by
            intro fl hf o10 o11 o12
            rcases hf with ⟨rfl, hf⟩ | ⟨rfl, hf⟩
            · have e1 : smN (fun c => indP (fxM (fun q => a7 (40 * k + q)) j m c)) (c + 1) = smN (fun c => indP (fxM (fun q => a7 (40 * k + q)) j m c)) c + 1 := by show _ + indP _ = _; rw [ind_y hf]
              have ih3 := fun o8 o9 o10 o11 o12 => ih (c + 1) o8 o9 o10 o11 o12 (by omega) (by omega)
              rw [e1] at ih3
              refine j_iload dX6_fits_364 rfl ?_
              refine j_iload dX6_fits_366 rfl ?_
              refine j_top (nI 1) rfl ?_
              refine j_if_eq 375 dX6_fits_368 (by decide) (fun h => absurd h (by decide)) (fun _ => ?_)
              refine j_iconst (nI 1) dX6_fits_371 rfl ?_
              refine j_goto 376 dX6_fits_372 (by decide) ?_
              first | refine j_iaddN dX6_fits_376 ?_ | refine j_iadd dX6_fits_376 ?_
              refine j_istore dX6_fits_377 (Nat.le_of_ble_eq_true rfl) rfl ?_
              first | refine j_iincN dX6_fits_379 rfl (Nat.le_of_ble_eq_true rfl) rfl ?_ | refine j_iinc _ dX6_fits_379 rfl rfl (Nat.le_of_ble_eq_true rfl) rfl ?_
              refine j_goto 189 dX6_fits_382 (by decide) ?_
              exact ih3 _ _ _ _ _
            · have e1 : smN (fun c => indP (fxM (fun q => a7 (40 * k + q)) j m c)) (c + 1) = smN (fun c => indP (fxM (fun q => a7 (40 * k + q)) j m c)) c + 0 := by show _ + indP _ = _; rw [ind_n hf]
              have ih3 := fun o8 o9 o10 o11 o12 => ih (c + 1) o8 o9 o10 o11 o12 (by omega) (by omega)
              rw [e1] at ih3
              refine j_iload dX6_fits_364 rfl ?_
              refine j_iload dX6_fits_366 rfl ?_
              refine j_top (nI 0) rfl ?_
              refine j_if_eq 375 dX6_fits_368 (by decide) (fun _ => ?_) (fun h => absurd rfl h)
              refine j_iconst (nI 0) dX6_fits_375 rfl ?_
              first | refine j_iaddN dX6_fits_376 ?_ | refine j_iadd dX6_fits_376 ?_
              refine j_istore dX6_fits_377 (Nat.le_of_ble_eq_true rfl) rfl ?_
              first | refine j_iincN dX6_fits_379 rfl (Nat.le_of_ble_eq_true rfl) rfl ?_ | refine j_iinc _ dX6_fits_379 rfl rfl (Nat.le_of_ble_eq_true rfl) rfl ?_
              refine j_goto 189 dX6_fits_382 (by decide) ?_
              exact ih3 _ _ _ _ _
          refine j_iload dX6_fits_203 rfl ?_
          refine j_bipush (nI 6) dX6_fits_205 rfl ?_
          refine j_icmp_geN 237 dX6_fits_207 (by decide) (by omega) (by omega) (fun b207 => ?_) (fun b207 => by exfalso; omega)
          refine j_iconst (nI 1) dX6_fits_237 rfl ?_
          refine j_istore dX6_fits_238 (Nat.le_of_ble_eq_true rfl) rfl ?_
          refine j_iconst (nI 0) dX6_fits_240 rfl ?_
          refine j_istore dX6_fits_241 (Nat.le_of_ble_eq_true rfl) rfl ?_
          skip
          refine m_fits_p0 hk hm (by omega) h9 True (fun fl hf o11 o12 => ?_) (nI 1) _ _ (Or.inl ⟨rfl, trivial⟩)
          refine m_fits_p1 hk hm (by omega) h9 _ (fun fl hf o11 o12 => ?_) fl _ _ hf
          refine m_fits_p2 hk hm (by omega) h9 _ (fun fl hf o11 o12 => ?_) fl _ _ hf
          refine j_iload dX6_fits_243 rfl ?_
          refine j_iconst (nI 3) dX6_fits_245 rfl ?_
          refine j_icmp_geN 364 dX6_fits_246 (by decide) (by omega) (by omega) (fun b246 => ?_) (fun b246 => by exfalso; omega)
          refine hend fl ?_ _ _ _
          rcases hf with ⟨h, w⟩ | ⟨h, w⟩
          · exact Or.inl ⟨h, w.1.1.2, w.1.2, w.2⟩
          · exact Or.inr ⟨h, fun u => w ⟨⟨⟨trivial, u.1⟩, u.2.1⟩, u.2.2⟩⟩
    · obtain rfl : c = (m + 1) ^ 6 := by omega
      rw [fx_all hm]
      refine j_iload dX6_fits_189 rfl ?_
      refine j_iload dX6_fits_191 rfl ?_
      refine j_icmp_geN 385 dX6_fits_193 (by decide) (by omega) (by omega) (fun b193 => ?_) (fun b193 => by exfalso; omega)
      refine j_aload_n dX6_fits_385 rfl rfl ?_
      refine j_iload dX6_fits_386 rfl ?_
      refine j_callV (m_fine _) dX6_fits_388 rfl mv_X6_69 mH_o rfl ⟨(Nat.le_of_ble_eq_true rfl), (Nat.le_of_ble_eq_true rfl)⟩ ⟨(Nat.le_of_ble_eq_true rfl), (Nat.le_of_ble_eq_true rfl)⟩ (Nat.le_of_ble_eq_true rfl) ?_
      exact j_iret rfl dX6_fits_391 rfl rfl (Nat.le_of_ble_eq_true rfl) (Nat.le_of_ble_eq_true rfl)
theorem m_fits_ok {k m : Nat} (hk : k < 8) (hm : m ≤ 3) {m2 j : Nat} (hl : a5 k = nI m2) (hm2 : m2 ≤ 40) (hj : j + 6 ≤ m2) (h : ∀ q, q < 3 → okI ((fun q => a7 (40 * k + q)) (j + q)) ((fun q => a7 (40 * k + q)) (j + 3 + q))) : Ct G yX6_fits cX6_fits 13 (some .int) 3 0 0 z (mH σ a0 a1 a2 a3 a4 a5 a6 a7 a8 a9 a10 a11 i0 i1 i2 i3 i4 i5 i6 i7 i8 i9 i10 i11) [.ref 171, .int (nI k), .int (nI j), .int (nI m)] (some (.int (nI (ftA (fun q => a7 (40 * k + q)) j m (m + 1))))) z (mH σ a0 a1 a2 a3 a4 a5 a6 a7 a8 (sxA m a9 ((m + 1) ^ 6)) a10 a11 i0 (nI 0) i2 i3 i4 i5 i6 i7 i8 i9 i10 i11) := by
  refine Ct.ofJ RX6 rfl [some (.ref 171), some (.int (nI k)), some (.int (nI j)), some (.int (nI m)), none, none, none, none, none, none, none, none, none] rfl (by decide) (by simp [Value.category]) ?_
  have h6 := pow6 hm
  refine j_iload_n dX6_fits_0 rfl rfl ?_
  refine j_callS (m_isRow (nI k)) dX6_fits_1 rfl ms_X6_58 ⟨(Nat.le_of_ble_eq_true rfl), (Nat.le_of_ble_eq_true rfl)⟩ ⟨(Nat.le_of_ble_eq_true rfl), (Nat.le_of_ble_eq_true rfl)⟩ (Nat.le_of_ble_eq_true rfl) ?_
  refine j_top (nI 1) (inI_k hk) ?_
  refine j_if_eq 19 dX6_fits_4 (by decide) (fun h => absurd h (by decide)) (fun _ => ?_)
  refine j_iload_n dX6_fits_7 rfl rfl ?_
  refine j_i2l dX6_fits_8 ?_
  refine j_lconst (0) dX6_fits_9 rfl ?_
  refine j_ldc2 (3) dX6_fits_10 kl_X6_189 ?_
  refine j_callS (m_in3 (nI m) (nI 0) (nI 3) rfl rfl) dX6_fits_13 rfl ms_X6_54 ⟨(Nat.le_of_ble_eq_true rfl), (Nat.le_of_ble_eq_true rfl)⟩ ⟨(Nat.le_of_ble_eq_true rfl), (Nat.le_of_ble_eq_true rfl)⟩ (Nat.le_of_ble_eq_true rfl) ?_
  refine j_top (nI 1) (inI_N (by omega) hm (by omega)) ?_
  refine j_if_ne 22 dX6_fits_16 (by decide) (fun _ => ?_) (fun h => absurd h (by decide))
  refine j_aload_n dX6_fits_22 rfl rfl ?_
  refine j_getf dX6_fits_23 6 8 rfl (Nat.le_of_ble_eq_true rfl) fl_X6_26 in_6 mH_o rfl ?_
  refine j_iload_n dX6_fits_26 rfl rfl ?_
  refine j_iald dX6_fits_27 mH_a5 rfl (by omega) (by decide) ?_
  refine j_top (nI m2) hl ?_
  refine j_if_ge 37 dX6_fits_28 (by decide) (fun b28 => ?_) (fun b28 => by exact absurd (nI_pos' (by omega)) b28)
  refine j_iload_n dX6_fits_37 rfl rfl ?_
  refine j_if_lt 58 dX6_fits_38 (by decide) (fun b38 => by exact absurd b38 (nI_pos (by omega))) (fun b38 => ?_)
  refine j_iload_n dX6_fits_41 rfl rfl ?_
  refine j_i2l dX6_fits_42 ?_
  refine j_ldc2 (6) dX6_fits_43 kl_X6_191 ?_
  refine j_ladd dX6_fits_46 ?_
  refine j_aload_n dX6_fits_47 rfl rfl ?_
  refine j_getf dX6_fits_48 6 8 rfl (Nat.le_of_ble_eq_true rfl) fl_X6_26 in_6 mH_o rfl ?_
  refine j_iload_n dX6_fits_51 rfl rfl ?_
  refine j_iald dX6_fits_52 mH_a5 rfl (by omega) (by decide) ?_
  refine j_top (nI m2) hl ?_
  refine j_i2l dX6_fits_53 ?_
  refine j_lcmp dX6_fits_54 ?_
  refine j_if_le 64 dX6_fits_55 (by decide) (fun b55 => ?_) (fun b55 => by exact absurd ((lg_cmp_le _ _).mpr (Int64.not_lt.mp (fun q => absurd ((rng_long hm2 (nI j) (nI 6) (nI_pos (by omega)) (by decide)).mpr q) (by rw [pk_sub (by omega)]; exact nI_nlt (by omega) (by omega))))) b55)
  refine j_iconst (nI 1) dX6_fits_64 rfl ?_
  refine j_istore dX6_fits_65 (Nat.le_of_ble_eq_true rfl) rfl ?_
  refine j_iconst (nI 0) dX6_fits_67 rfl ?_
  refine j_istore dX6_fits_68 (Nat.le_of_ble_eq_true rfl) rfl ?_
  skip
  refine m_fits_items hk hm hl hm2 hj (fun fl hf o6 => ?_) 7 0 (nI 1) _ (by omega) (by omega) (Or.inl ⟨rfl, fun q hq => absurd hq (by omega)⟩)
  rcases hf with ⟨rfl, hf⟩ | ⟨_, hf⟩
  · refine j_iload dX6_fits_148 rfl ?_
    refine j_top (nI 1) rfl ?_
    refine j_if_ne 156 dX6_fits_150 (by decide) (fun _ => ?_) (fun h => absurd h (by decide))
    refine j_iconst (nI 1) dX6_fits_156 rfl ?_
    refine j_istore dX6_fits_157 (Nat.le_of_ble_eq_true rfl) rfl ?_
    refine j_iconst (nI 0) dX6_fits_159 rfl ?_
    refine j_istore dX6_fits_160 (Nat.le_of_ble_eq_true rfl) rfl ?_
    skip
    suffices H : ∀ (kk q : Nat), q ≤ 6 → 6 < q + kk → J G RX6 cX6_fits 13 (some .int) (TQ G 3 0 0 (some (.int (nI (ftA (fun q => a7 (40 * k + q)) j m (m + 1))))) z (mH σ a0 a1 a2 a3 a4 a5 a6 a7 a8 (sxA m a9 ((m + 1) ^ 6)) a10 a11 i0 (nI 0) i2 i3 i4 i5 i6 i7 i8 i9 i10 i11)) z (mH σ a0 a1 a2 a3 a4 a5 a6 a7 a8 a9 a10 a11 i0 i1 i2 i3 i4 i5 i6 i7 i8 i9 i10 i11) 0 0 162 [some (.ref 171), some (.int (nI k)), some (.int (nI j)), some (.int (nI m)), some (.int (nI 1)), some (.int (nI ((m + 1) ^ q))), some (.int (nI q)), none, none, none, none, none, none] [] from H 7 0 (by omega) (by omega)
    intro kk
    induction kk with
    | zero => intro q h1 h2; exact absurd h2 (by omega)
    | succ kk ih =>
      intro q h1 h2
      have hpk := powk (k := q) hm h1
      by_cases hq : q < 6
      · refine j_iload dX6_fits_162 rfl ?_
        refine j_bipush (nI 6) dX6_fits_164 rfl ?_
        refine j_icmp_geN 183 dX6_fits_166 (by decide) (by omega) (by omega) (fun b166 => by exfalso; omega) (fun b166 => ?_)
        refine j_iload dX6_fits_169 rfl ?_
        refine j_iload_n dX6_fits_171 rfl rfl ?_
        refine j_iconst (nI 1) dX6_fits_172 rfl ?_
        first | refine j_iaddN dX6_fits_173 ?_ | refine j_iadd dX6_fits_173 ?_
        first | refine j_imulN dX6_fits_174 ?_ | refine j_imul dX6_fits_174 ?_
        refine j_istore dX6_fits_175 (Nat.le_of_ble_eq_true rfl) rfl ?_
        first | refine j_iincN dX6_fits_177 rfl (Nat.le_of_ble_eq_true rfl) rfl ?_ | refine j_iinc _ dX6_fits_177 rfl rfl (Nat.le_of_ble_eq_true rfl) rfl ?_
        refine j_goto 162 dX6_fits_180 (by decide) ?_
        exact ih (q + 1) (by omega) (by omega)
      · obtain rfl : q = 6 := by omega
        refine j_iload dX6_fits_162 rfl ?_
        refine j_bipush (nI 6) dX6_fits_164 rfl ?_
        refine j_icmp_geN 183 dX6_fits_166 (by decide) (by omega) (by omega) (fun b166 => ?_) (fun b166 => by exfalso; omega)
        refine j_iconst (nI 0) dX6_fits_183 rfl ?_
        refine j_istore dX6_fits_184 (Nat.le_of_ble_eq_true rfl) rfl ?_
        refine j_iconst (nI 0) dX6_fits_186 rfl ?_
        refine j_istore dX6_fits_187 (Nat.le_of_ble_eq_true rfl) rfl ?_
        have hcc := fun o8 o9 o10 o11 o12 => m_fits_code (G := G) (z := z) (σ := σ) (a0 := a0) (a1 := a1) (a2 := a2) (a3 := a3) (a4 := a4) (a6 := a6) (a7 := a7) (a8 := a8) (a9 := a9) (a10 := a10) (a11 := a11) (i0 := i0) (i1 := i1) (i2 := i2) (i3 := i3) (i4 := i4) (i5 := i5) (i6 := i6) (i7 := i7) (i8 := i8) (i9 := i9) (i10 := i10) (i11 := i11) (k := k) (m := m) (j := j) hk hm hl hm2 hj ((m + 1) ^ 6 + 1) 0 o8 o9 o10 o11 o12 (by omega) (by omega)
        exact hcc _ _ _ _ _
  · exact absurd ((okS_all (it := (fun q => a7 (40 * k + q))) (j := j)).mpr h) hf
end MFI
