/-! THE MODEL's calls: quarter -/
theorem dX6_quarter_0 : decode cX6_quarter 0 = .ok (.aload_n 0, 1) := by decide +kernel
theorem dX6_quarter_1 : decode cX6_quarter 1 = .ok (.getfield 7, 3) := by decide +kernel
theorem dX6_quarter_4 : decode cX6_quarter 4 = .ok (.iconst 0, 1) := by decide +kernel
theorem dX6_quarter_5 : decode cX6_quarter 5 = .ok (.iaload, 1) := by decide +kernel
theorem dX6_quarter_6 : decode cX6_quarter 6 = .ok (.ifCond .ne 6, 3) := by decide +kernel
theorem dX6_quarter_9 : decode cX6_quarter 9 = .ok (.ldc 163, 2) := by decide +kernel
theorem dX6_quarter_11 : decode cX6_quarter 11 = .ok (.ireturn, 1) := by decide +kernel
theorem dX6_quarter_12 : decode cX6_quarter 12 = .ok (.iload_n 1, 1) := by decide +kernel
theorem dX6_quarter_13 : decode cX6_quarter 13 = .ok (.i2l, 1) := by decide +kernel
theorem dX6_quarter_14 : decode cX6_quarter 14 = .ok (.lconst 0, 1) := by decide +kernel
theorem dX6_quarter_15 : decode cX6_quarter 15 = .ok (.ldc2_w 175, 3) := by decide +kernel
theorem dX6_quarter_18 : decode cX6_quarter 18 = .ok (.invokestatic 54, 3) := by decide +kernel
theorem dX6_quarter_21 : decode cX6_quarter 21 = .ok (.ifCond .ne 6, 3) := by decide +kernel
theorem dX6_quarter_24 : decode cX6_quarter 24 = .ok (.ldc 64, 2) := by decide +kernel
theorem dX6_quarter_26 : decode cX6_quarter 26 = .ok (.ireturn, 1) := by decide +kernel
theorem dX6_quarter_27 : decode cX6_quarter 27 = .ok (.aload_n 0, 1) := by decide +kernel
theorem dX6_quarter_28 : decode cX6_quarter 28 = .ok (.getfield 7, 3) := by decide +kernel
theorem dX6_quarter_31 : decode cX6_quarter 31 = .ok (.iconst 3, 1) := by decide +kernel
theorem dX6_quarter_32 : decode cX6_quarter 32 = .ok (.iaload, 1) := by decide +kernel
theorem dX6_quarter_33 : decode cX6_quarter 33 = .ok (.sipush 999, 3) := by decide +kernel
theorem dX6_quarter_36 : decode cX6_quarter 36 = .ok (.if_icmp .ne 6, 3) := by decide +kernel
theorem dX6_quarter_39 : decode cX6_quarter 39 = .ok (.ldc 77, 2) := by decide +kernel
theorem dX6_quarter_41 : decode cX6_quarter 41 = .ok (.ireturn, 1) := by decide +kernel
theorem dX6_quarter_42 : decode cX6_quarter 42 = .ok (.aload_n 0, 1) := by decide +kernel
theorem dX6_quarter_43 : decode cX6_quarter 43 = .ok (.invokevirtual 165, 3) := by decide +kernel
theorem dX6_quarter_46 : decode cX6_quarter 46 = .ok (.iload_n 1, 1) := by decide +kernel
theorem dX6_quarter_47 : decode cX6_quarter 47 = .ok (.i2l, 1) := by decide +kernel
theorem dX6_quarter_48 : decode cX6_quarter 48 = .ok (.lstore_n 2, 1) := by decide +kernel
theorem dX6_quarter_49 : decode cX6_quarter 49 = .ok (.iconst 0, 1) := by decide +kernel
theorem dX6_quarter_50 : decode cX6_quarter 50 = .ok (.istore 4, 2) := by decide +kernel
theorem dX6_quarter_52 : decode cX6_quarter 52 = .ok (.iload 4, 2) := by decide +kernel
theorem dX6_quarter_54 : decode cX6_quarter 54 = .ok (.aload_n 0, 1) := by decide +kernel
theorem dX6_quarter_55 : decode cX6_quarter 55 = .ok (.getfield 7, 3) := by decide +kernel
theorem dX6_quarter_58 : decode cX6_quarter 58 = .ok (.iconst 2, 1) := by decide +kernel
theorem dX6_quarter_59 : decode cX6_quarter 59 = .ok (.iaload, 1) := by decide +kernel
theorem dX6_quarter_60 : decode cX6_quarter 60 = .ok (.if_icmp .ge 64, 3) := by decide +kernel
theorem dX6_quarter_63 : decode cX6_quarter 63 = .ok (.lload_n 2, 1) := by decide +kernel
theorem dX6_quarter_64 : decode cX6_quarter 64 = .ok (.ldc2_w 177, 3) := by decide +kernel
theorem dX6_quarter_67 : decode cX6_quarter 67 = .ok (.lmul, 1) := by decide +kernel
theorem dX6_quarter_68 : decode cX6_quarter 68 = .ok (.ldc2_w 179, 3) := by decide +kernel
theorem dX6_quarter_71 : decode cX6_quarter 71 = .ok (.lrem, 1) := by decide +kernel
theorem dX6_quarter_72 : decode cX6_quarter 72 = .ok (.lstore_n 2, 1) := by decide +kernel
theorem dX6_quarter_73 : decode cX6_quarter 73 = .ok (.aload_n 0, 1) := by decide +kernel
theorem dX6_quarter_74 : decode cX6_quarter 74 = .ok (.getfield 7, 3) := by decide +kernel
theorem dX6_quarter_77 : decode cX6_quarter 77 = .ok (.iconst 4, 1) := by decide +kernel
theorem dX6_quarter_78 : decode cX6_quarter 78 = .ok (.iload 4, 2) := by decide +kernel
theorem dX6_quarter_80 : decode cX6_quarter 80 = .ok (.iadd, 1) := by decide +kernel
theorem dX6_quarter_81 : decode cX6_quarter 81 = .ok (.dup2, 1) := by decide +kernel
theorem dX6_quarter_82 : decode cX6_quarter 82 = .ok (.iaload, 1) := by decide +kernel
theorem dX6_quarter_83 : decode cX6_quarter 83 = .ok (.iload_n 1, 1) := by decide +kernel
theorem dX6_quarter_84 : decode cX6_quarter 84 = .ok (.ifCond .ne 16, 3) := by decide +kernel
theorem dX6_quarter_87 : decode cX6_quarter 87 = .ok (.aload_n 0, 1) := by decide +kernel
theorem dX6_quarter_88 : decode cX6_quarter 88 = .ok (.getfield 7, 3) := by decide +kernel
theorem dX6_quarter_91 : decode cX6_quarter 91 = .ok (.bipush 11, 2) := by decide +kernel
theorem dX6_quarter_93 : decode cX6_quarter 93 = .ok (.iload 4, 2) := by decide +kernel
theorem dX6_quarter_95 : decode cX6_quarter 95 = .ok (.iadd, 1) := by decide +kernel
theorem dX6_quarter_96 : decode cX6_quarter 96 = .ok (.iaload, 1) := by decide +kernel
theorem dX6_quarter_97 : decode cX6_quarter 97 = .ok (.goto 19, 3) := by decide +kernel
theorem dX6_quarter_100 : decode cX6_quarter 100 = .ok (.lload_n 2, 1) := by decide +kernel
theorem dX6_quarter_101 : decode cX6_quarter 101 = .ok (.aload_n 0, 1) := by decide +kernel
theorem dX6_quarter_102 : decode cX6_quarter 102 = .ok (.getfield 7, 3) := by decide +kernel
theorem dX6_quarter_105 : decode cX6_quarter 105 = .ok (.bipush 11, 2) := by decide +kernel
theorem dX6_quarter_107 : decode cX6_quarter 107 = .ok (.iload 4, 2) := by decide +kernel
theorem dX6_quarter_109 : decode cX6_quarter 109 = .ok (.iadd, 1) := by decide +kernel
theorem dX6_quarter_110 : decode cX6_quarter 110 = .ok (.iaload, 1) := by decide +kernel
theorem dX6_quarter_111 : decode cX6_quarter 111 = .ok (.iconst 1, 1) := by decide +kernel
theorem dX6_quarter_112 : decode cX6_quarter 112 = .ok (.iadd, 1) := by decide +kernel
theorem dX6_quarter_113 : decode cX6_quarter 113 = .ok (.i2l, 1) := by decide +kernel
theorem dX6_quarter_114 : decode cX6_quarter 114 = .ok (.lrem, 1) := by decide +kernel
theorem dX6_quarter_115 : decode cX6_quarter 115 = .ok (.l2i, 1) := by decide +kernel
theorem dX6_quarter_116 : decode cX6_quarter 116 = .ok (.iadd, 1) := by decide +kernel
theorem dX6_quarter_117 : decode cX6_quarter 117 = .ok (.iastore, 1) := by decide +kernel
theorem dX6_quarter_118 : decode cX6_quarter 118 = .ok (.iinc 4 1, 3) := by decide +kernel
theorem dX6_quarter_121 : decode cX6_quarter 121 = .ok (.goto (-69), 3) := by decide +kernel
theorem dX6_quarter_124 : decode cX6_quarter 124 = .ok (.iconst 0, 1) := by decide +kernel
theorem dX6_quarter_125 : decode cX6_quarter 125 = .ok (.istore 4, 2) := by decide +kernel
theorem dX6_quarter_127 : decode cX6_quarter 127 = .ok (.iload 4, 2) := by decide +kernel
theorem dX6_quarter_129 : decode cX6_quarter 129 = .ok (.aload_n 0, 1) := by decide +kernel
theorem dX6_quarter_130 : decode cX6_quarter 130 = .ok (.getfield 7, 3) := by decide +kernel
theorem dX6_quarter_133 : decode cX6_quarter 133 = .ok (.iconst 2, 1) := by decide +kernel
theorem dX6_quarter_134 : decode cX6_quarter 134 = .ok (.iaload, 1) := by decide +kernel
theorem dX6_quarter_135 : decode cX6_quarter 135 = .ok (.if_icmp .ge 56, 3) := by decide +kernel
theorem dX6_quarter_138 : decode cX6_quarter 138 = .ok (.aload_n 0, 1) := by decide +kernel
theorem dX6_quarter_139 : decode cX6_quarter 139 = .ok (.getfield 7, 3) := by decide +kernel
theorem dX6_quarter_142 : decode cX6_quarter 142 = .ok (.iload 4, 2) := by decide +kernel
theorem dX6_quarter_144 : decode cX6_quarter 144 = .ok (.invokestatic 151, 3) := by decide +kernel
theorem dX6_quarter_147 : decode cX6_quarter 147 = .ok (.ifCond .le 7, 3) := by decide +kernel
theorem dX6_quarter_150 : decode cX6_quarter 150 = .ok (.iconst 1, 1) := by decide +kernel
theorem dX6_quarter_151 : decode cX6_quarter 151 = .ok (.goto 4, 3) := by decide +kernel
theorem dX6_quarter_154 : decode cX6_quarter 154 = .ok (.iconst 0, 1) := by decide +kernel
theorem dX6_quarter_155 : decode cX6_quarter 155 = .ok (.istore 5, 2) := by decide +kernel
theorem dX6_quarter_157 : decode cX6_quarter 157 = .ok (.aload_n 0, 1) := by decide +kernel
theorem dX6_quarter_158 : decode cX6_quarter 158 = .ok (.getfield 7, 3) := by decide +kernel
theorem dX6_quarter_161 : decode cX6_quarter 161 = .ok (.iload 4, 2) := by decide +kernel
theorem dX6_quarter_163 : decode cX6_quarter 163 = .ok (.invokestatic 181, 3) := by decide +kernel
theorem dX6_quarter_166 : decode cX6_quarter 166 = .ok (.ifCond .ne 19, 3) := by decide +kernel
theorem dX6_quarter_169 : decode cX6_quarter 169 = .ok (.iload 5, 2) := by decide +kernel
theorem dX6_quarter_171 : decode cX6_quarter 171 = .ok (.ifCond .eq 14, 3) := by decide +kernel
theorem dX6_quarter_174 : decode cX6_quarter 174 = .ok (.aload_n 0, 1) := by decide +kernel
theorem dX6_quarter_175 : decode cX6_quarter 175 = .ok (.getfield 7, 3) := by decide +kernel
theorem dX6_quarter_178 : decode cX6_quarter 178 = .ok (.bipush 32, 2) := by decide +kernel
theorem dX6_quarter_180 : decode cX6_quarter 180 = .ok (.iload 4, 2) := by decide +kernel
theorem dX6_quarter_182 : decode cX6_quarter 182 = .ok (.iadd, 1) := by decide +kernel
theorem dX6_quarter_183 : decode cX6_quarter 183 = .ok (.iconst 1, 1) := by decide +kernel
theorem dX6_quarter_184 : decode cX6_quarter 184 = .ok (.iastore, 1) := by decide +kernel
theorem dX6_quarter_185 : decode cX6_quarter 185 = .ok (.iinc 4 1, 3) := by decide +kernel
theorem dX6_quarter_188 : decode cX6_quarter 188 = .ok (.goto (-61), 3) := by decide +kernel
theorem dX6_quarter_191 : decode cX6_quarter 191 = .ok (.aload_n 0, 1) := by decide +kernel
theorem dX6_quarter_192 : decode cX6_quarter 192 = .ok (.getfield 7, 3) := by decide +kernel
theorem dX6_quarter_195 : decode cX6_quarter 195 = .ok (.iconst 3, 1) := by decide +kernel
theorem dX6_quarter_196 : decode cX6_quarter 196 = .ok (.dup2, 1) := by decide +kernel
theorem dX6_quarter_197 : decode cX6_quarter 197 = .ok (.iaload, 1) := by decide +kernel
theorem dX6_quarter_198 : decode cX6_quarter 198 = .ok (.iconst 1, 1) := by decide +kernel
theorem dX6_quarter_199 : decode cX6_quarter 199 = .ok (.iadd, 1) := by decide +kernel
theorem dX6_quarter_200 : decode cX6_quarter 200 = .ok (.iastore, 1) := by decide +kernel
theorem dX6_quarter_201 : decode cX6_quarter 201 = .ok (.aload_n 0, 1) := by decide +kernel
theorem dX6_quarter_202 : decode cX6_quarter 202 = .ok (.getfield 7, 3) := by decide +kernel
theorem dX6_quarter_205 : decode cX6_quarter 205 = .ok (.iconst 3, 1) := by decide +kernel
theorem dX6_quarter_206 : decode cX6_quarter 206 = .ok (.iaload, 1) := by decide +kernel
theorem dX6_quarter_207 : decode cX6_quarter 207 = .ok (.bipush 9, 2) := by decide +kernel
theorem dX6_quarter_209 : decode cX6_quarter 209 = .ok (.irem, 1) := by decide +kernel
theorem dX6_quarter_210 : decode cX6_quarter 210 = .ok (.ifCond .ne 7, 3) := by decide +kernel
theorem dX6_quarter_213 : decode cX6_quarter 213 = .ok (.iconst 1, 1) := by decide +kernel
theorem dX6_quarter_214 : decode cX6_quarter 214 = .ok (.goto 4, 3) := by decide +kernel
theorem dX6_quarter_217 : decode cX6_quarter 217 = .ok (.iconst 0, 1) := by decide +kernel
theorem dX6_quarter_218 : decode cX6_quarter 218 = .ok (.istore 4, 2) := by decide +kernel
theorem dX6_quarter_220 : decode cX6_quarter 220 = .ok (.iconst 0, 1) := by decide +kernel
theorem dX6_quarter_221 : decode cX6_quarter 221 = .ok (.istore 5, 2) := by decide +kernel
theorem dX6_quarter_223 : decode cX6_quarter 223 = .ok (.iload 5, 2) := by decide +kernel
theorem dX6_quarter_225 : decode cX6_quarter 225 = .ok (.aload_n 0, 1) := by decide +kernel
theorem dX6_quarter_226 : decode cX6_quarter 226 = .ok (.getfield 7, 3) := by decide +kernel
theorem dX6_quarter_229 : decode cX6_quarter 229 = .ok (.iconst 2, 1) := by decide +kernel
theorem dX6_quarter_230 : decode cX6_quarter 230 = .ok (.iaload, 1) := by decide +kernel
theorem dX6_quarter_231 : decode cX6_quarter 231 = .ok (.if_icmp .ge 45, 3) := by decide +kernel
theorem dX6_quarter_234 : decode cX6_quarter 234 = .ok (.aload_n 0, 1) := by decide +kernel
theorem dX6_quarter_235 : decode cX6_quarter 235 = .ok (.getfield 7, 3) := by decide +kernel
theorem dX6_quarter_238 : decode cX6_quarter 238 = .ok (.bipush 32, 2) := by decide +kernel
theorem dX6_quarter_240 : decode cX6_quarter 240 = .ok (.iload 5, 2) := by decide +kernel
theorem dX6_quarter_242 : decode cX6_quarter 242 = .ok (.iadd, 1) := by decide +kernel
theorem dX6_quarter_243 : decode cX6_quarter 243 = .ok (.aload_n 0, 1) := by decide +kernel
theorem dX6_quarter_244 : decode cX6_quarter 244 = .ok (.getfield 7, 3) := by decide +kernel
theorem dX6_quarter_247 : decode cX6_quarter 247 = .ok (.iload 5, 2) := by decide +kernel
theorem dX6_quarter_249 : decode cX6_quarter 249 = .ok (.invokestatic 151, 3) := by decide +kernel
theorem dX6_quarter_252 : decode cX6_quarter 252 = .ok (.ifCond .ne 7, 3) := by decide +kernel
theorem dX6_quarter_255 : decode cX6_quarter 255 = .ok (.iconst 0, 1) := by decide +kernel
theorem dX6_quarter_256 : decode cX6_quarter 256 = .ok (.goto 13, 3) := by decide +kernel
theorem dX6_quarter_259 : decode cX6_quarter 259 = .ok (.aload_n 0, 1) := by decide +kernel
theorem dX6_quarter_260 : decode cX6_quarter 260 = .ok (.getfield 7, 3) := by decide +kernel
theorem dX6_quarter_263 : decode cX6_quarter 263 = .ok (.bipush 32, 2) := by decide +kernel
theorem dX6_quarter_265 : decode cX6_quarter 265 = .ok (.iload 5, 2) := by decide +kernel
theorem dX6_quarter_267 : decode cX6_quarter 267 = .ok (.iadd, 1) := by decide +kernel
theorem dX6_quarter_268 : decode cX6_quarter 268 = .ok (.iaload, 1) := by decide +kernel
theorem dX6_quarter_269 : decode cX6_quarter 269 = .ok (.iastore, 1) := by decide +kernel
theorem dX6_quarter_270 : decode cX6_quarter 270 = .ok (.iinc 5 1, 3) := by decide +kernel
theorem dX6_quarter_273 : decode cX6_quarter 273 = .ok (.goto (-50), 3) := by decide +kernel
theorem dX6_quarter_276 : decode cX6_quarter 276 = .ok (.iconst 0, 1) := by decide +kernel
theorem dX6_quarter_277 : decode cX6_quarter 277 = .ok (.istore 5, 2) := by decide +kernel
theorem dX6_quarter_279 : decode cX6_quarter 279 = .ok (.iload 5, 2) := by decide +kernel
theorem dX6_quarter_281 : decode cX6_quarter 281 = .ok (.aload_n 0, 1) := by decide +kernel
theorem dX6_quarter_282 : decode cX6_quarter 282 = .ok (.getfield 7, 3) := by decide +kernel
theorem dX6_quarter_285 : decode cX6_quarter 285 = .ok (.iconst 2, 1) := by decide +kernel
theorem dX6_quarter_286 : decode cX6_quarter 286 = .ok (.iaload, 1) := by decide +kernel
theorem dX6_quarter_287 : decode cX6_quarter 287 = .ok (.if_icmp .ge 131, 3) := by decide +kernel
theorem dX6_quarter_290 : decode cX6_quarter 290 = .ok (.aload_n 0, 1) := by decide +kernel
theorem dX6_quarter_291 : decode cX6_quarter 291 = .ok (.getfield 7, 3) := by decide +kernel
theorem dX6_quarter_294 : decode cX6_quarter 294 = .ok (.bipush 25, 2) := by decide +kernel
theorem dX6_quarter_296 : decode cX6_quarter 296 = .ok (.iload 5, 2) := by decide +kernel
theorem dX6_quarter_298 : decode cX6_quarter 298 = .ok (.iadd, 1) := by decide +kernel
theorem dX6_quarter_299 : decode cX6_quarter 299 = .ok (.bipush 10, 2) := by decide +kernel
theorem dX6_quarter_301 : decode cX6_quarter 301 = .ok (.iastore, 1) := by decide +kernel
theorem dX6_quarter_302 : decode cX6_quarter 302 = .ok (.iconst 0, 1) := by decide +kernel
theorem dX6_quarter_303 : decode cX6_quarter 303 = .ok (.istore 6, 2) := by decide +kernel
theorem dX6_quarter_305 : decode cX6_quarter 305 = .ok (.iload 6, 2) := by decide +kernel
theorem dX6_quarter_307 : decode cX6_quarter 307 = .ok (.aload_n 0, 1) := by decide +kernel
theorem dX6_quarter_308 : decode cX6_quarter 308 = .ok (.getfield 7, 3) := by decide +kernel
theorem dX6_quarter_311 : decode cX6_quarter 311 = .ok (.iconst 2, 1) := by decide +kernel
theorem dX6_quarter_312 : decode cX6_quarter 312 = .ok (.iaload, 1) := by decide +kernel
theorem dX6_quarter_313 : decode cX6_quarter 313 = .ok (.if_icmp .ge 99, 3) := by decide +kernel
theorem dX6_quarter_316 : decode cX6_quarter 316 = .ok (.aload_n 0, 1) := by decide +kernel
theorem dX6_quarter_317 : decode cX6_quarter 317 = .ok (.getfield 7, 3) := by decide +kernel
theorem dX6_quarter_320 : decode cX6_quarter 320 = .ok (.bipush 40, 2) := by decide +kernel
theorem dX6_quarter_322 : decode cX6_quarter 322 = .ok (.bipush 7, 2) := by decide +kernel
theorem dX6_quarter_324 : decode cX6_quarter 324 = .ok (.iload 5, 2) := by decide +kernel
theorem dX6_quarter_326 : decode cX6_quarter 326 = .ok (.imul, 1) := by decide +kernel
theorem dX6_quarter_327 : decode cX6_quarter 327 = .ok (.iadd, 1) := by decide +kernel
theorem dX6_quarter_328 : decode cX6_quarter 328 = .ok (.iload 6, 2) := by decide +kernel
theorem dX6_quarter_330 : decode cX6_quarter 330 = .ok (.iadd, 1) := by decide +kernel
theorem dX6_quarter_331 : decode cX6_quarter 331 = .ok (.iaload, 1) := by decide +kernel
theorem dX6_quarter_332 : decode cX6_quarter 332 = .ok (.istore 7, 2) := by decide +kernel
theorem dX6_quarter_334 : decode cX6_quarter 334 = .ok (.iload 7, 2) := by decide +kernel
theorem dX6_quarter_336 : decode cX6_quarter 336 = .ok (.iload 7, 2) := by decide +kernel
theorem dX6_quarter_338 : decode cX6_quarter 338 = .ok (.aload_n 0, 1) := by decide +kernel
theorem dX6_quarter_339 : decode cX6_quarter 339 = .ok (.getfield 7, 3) := by decide +kernel
theorem dX6_quarter_342 : decode cX6_quarter 342 = .ok (.iconst 1, 1) := by decide +kernel
theorem dX6_quarter_343 : decode cX6_quarter 343 = .ok (.iaload, 1) := by decide +kernel
theorem dX6_quarter_344 : decode cX6_quarter 344 = .ok (.imul, 1) := by decide +kernel
theorem dX6_quarter_345 : decode cX6_quarter 345 = .ok (.bipush 100, 2) := by decide +kernel
theorem dX6_quarter_347 : decode cX6_quarter 347 = .ok (.idiv, 1) := by decide +kernel
theorem dX6_quarter_348 : decode cX6_quarter 348 = .ok (.iadd, 1) := by decide +kernel
theorem dX6_quarter_349 : decode cX6_quarter 349 = .ok (.istore 8, 2) := by decide +kernel
theorem dX6_quarter_351 : decode cX6_quarter 351 = .ok (.aload_n 0, 1) := by decide +kernel
theorem dX6_quarter_352 : decode cX6_quarter 352 = .ok (.getfield 7, 3) := by decide +kernel
theorem dX6_quarter_355 : decode cX6_quarter 355 = .ok (.bipush 40, 2) := by decide +kernel
theorem dX6_quarter_357 : decode cX6_quarter 357 = .ok (.bipush 7, 2) := by decide +kernel
theorem dX6_quarter_359 : decode cX6_quarter 359 = .ok (.iload 5, 2) := by decide +kernel
theorem dX6_quarter_361 : decode cX6_quarter 361 = .ok (.imul, 1) := by decide +kernel
theorem dX6_quarter_362 : decode cX6_quarter 362 = .ok (.iadd, 1) := by decide +kernel
theorem dX6_quarter_363 : decode cX6_quarter 363 = .ok (.iload 6, 2) := by decide +kernel
theorem dX6_quarter_365 : decode cX6_quarter 365 = .ok (.iadd, 1) := by decide +kernel
theorem dX6_quarter_366 : decode cX6_quarter 366 = .ok (.iload 4, 2) := by decide +kernel
theorem dX6_quarter_368 : decode cX6_quarter 368 = .ok (.ifCond .eq 23, 3) := by decide +kernel
theorem dX6_quarter_371 : decode cX6_quarter 371 = .ok (.iload 7, 2) := by decide +kernel
theorem dX6_quarter_373 : decode cX6_quarter 373 = .ok (.aload_n 0, 1) := by decide +kernel
theorem dX6_quarter_374 : decode cX6_quarter 374 = .ok (.getfield 7, 3) := by decide +kernel
theorem dX6_quarter_377 : decode cX6_quarter 377 = .ok (.iconst 0, 1) := by decide +kernel
theorem dX6_quarter_378 : decode cX6_quarter 378 = .ok (.iaload, 1) := by decide +kernel
theorem dX6_quarter_379 : decode cX6_quarter 379 = .ok (.if_icmp .ge 7, 3) := by decide +kernel
theorem dX6_quarter_382 : decode cX6_quarter 382 = .ok (.iconst 0, 1) := by decide +kernel
theorem dX6_quarter_383 : decode cX6_quarter 383 = .ok (.goto 22, 3) := by decide +kernel
theorem dX6_quarter_386 : decode cX6_quarter 386 = .ok (.iload 7, 2) := by decide +kernel
theorem dX6_quarter_388 : decode cX6_quarter 388 = .ok (.goto 17, 3) := by decide +kernel
theorem dX6_quarter_391 : decode cX6_quarter 391 = .ok (.iload 8, 2) := by decide +kernel
theorem dX6_quarter_393 : decode cX6_quarter 393 = .ok (.ldc 164, 2) := by decide +kernel
theorem dX6_quarter_395 : decode cX6_quarter 395 = .ok (.if_icmp .le 8, 3) := by decide +kernel
theorem dX6_quarter_398 : decode cX6_quarter 398 = .ok (.ldc 164, 2) := by decide +kernel
theorem dX6_quarter_400 : decode cX6_quarter 400 = .ok (.goto 5, 3) := by decide +kernel
theorem dX6_quarter_403 : decode cX6_quarter 403 = .ok (.iload 8, 2) := by decide +kernel
theorem dX6_quarter_405 : decode cX6_quarter 405 = .ok (.iastore, 1) := by decide +kernel
theorem dX6_quarter_406 : decode cX6_quarter 406 = .ok (.iinc 6 1, 3) := by decide +kernel
theorem dX6_quarter_409 : decode cX6_quarter 409 = .ok (.goto (-104), 3) := by decide +kernel
theorem dX6_quarter_412 : decode cX6_quarter 412 = .ok (.iinc 5 1, 3) := by decide +kernel
theorem dX6_quarter_415 : decode cX6_quarter 415 = .ok (.goto (-136), 3) := by decide +kernel
theorem dX6_quarter_418 : decode cX6_quarter 418 = .ok (.aload_n 0, 1) := by decide +kernel
theorem dX6_quarter_419 : decode cX6_quarter 419 = .ok (.getfield 7, 3) := by decide +kernel
theorem dX6_quarter_422 : decode cX6_quarter 422 = .ok (.iconst 3, 1) := by decide +kernel
theorem dX6_quarter_423 : decode cX6_quarter 423 = .ok (.iaload, 1) := by decide +kernel
theorem dX6_quarter_424 : decode cX6_quarter 424 = .ok (.ireturn, 1) := by decide +kernel
theorem sumR_ext {f g : Nat → Int32} : ∀ {n : Nat}, (∀ k, k < n → f k = g k) → sumR f n = sumR g n
  | 0, _ => rfl
  | n + 1, h => by
    show sumR f n + f n = sumR g n + g n
    rw [sumR_ext (fun k hk => h k (by omega)), h n (by omega)]
/-- two towns that look alike to the model -/
theorem enc_ext {C C2 I I2 P P2 D D2 : Nat → Int32} {N U R Q : Nat} {H H2 F F2 : Int32} (hC : ∀ p, p < N → C p = C2 p) (hI : ∀ p, p < N → I p = I2 p) (hP : ∀ p, p < N → P p = P2 p) (hD : ∀ a b, a < N → b < N → D (a * 7 + b) = D2 (a * 7 + b)) (hH : ∀ p, p < N → bitI H (nI p) = bitI H2 (nI p)) (hF : ∀ p, p < N → bitI F (nI p) = bitI F2 (nI p)) : encT (C, I, P, D, N, U, R, Q, H, F) = encT (C2, I2, P2, D2, N, U, R, Q, H2, F2) := by
  funext k
  unfold encT
  refine ite_congr rfl (fun _ => rfl) (fun _ => ite_congr rfl (fun _ => rfl) (fun _ => ite_congr rfl (fun _ => rfl) (fun _ => ite_congr rfl (fun _ => rfl) (fun _ => ite_congr rfl (fun _ => ite_congr rfl (fun h => hC _ h) (fun _ => rfl)) (fun _ => ite_congr rfl (fun _ => ite_congr rfl (fun h => hI _ h) (fun _ => rfl)) (fun _ => ite_congr rfl (fun _ => ite_congr rfl (fun h => hH _ h) (fun _ => rfl)) (fun _ => ite_congr rfl (fun _ => ite_congr rfl (fun h => ?_) (fun _ => rfl)) (fun _ => ite_congr rfl (fun _ => ite_congr rfl (fun h => hF _ h) (fun _ => rfl)) (fun _ => ite_congr rfl (fun _ => rfl) (fun _ => ite_congr rfl (fun _ => ite_congr rfl (fun h => ?_) (fun _ => rfl)) (fun _ => rfl)))))))))))
  · show (if P (k - 25) = -1 then nI 10 else P (k - 25)) = (if P2 (k - 25) = -1 then nI 10 else P2 (k - 25))
    rw [hP _ h]
  · show D (k - 40) = D2 (k - 40)
    have h2 := hD _ _ h.1 h.2
    rw [show (k - 40) / 7 * 7 + (k - 40) % 7 = k - 40 by omega] at h2
    exact h2
/-- who pays changes his own debts alone -/
theorem stl_row {p : Nat} {ca de : Nat → Int32} {j : Nat} : ∀ {n : Nat}, (j < p * 7 ∨ p * 7 + n ≤ j) → (stl p ca de n).2.1 j = de j
  | 0, _ => rfl
  | n + 1, h => by
    show upd (stl p ca de n).2.1 (p * 7 + n) _ j = de j
    rw [pk_un (by omega), stl_row (by omega)]
def qC (d : TS) (s : Int32) (i : Nat) : Nat → Int32 := (alS (sN d) (incC s (sI d) (sC d) (sN d)) (sD d) (sF d) i).1
def qD (d : TS) (s : Int32) (i : Nat) : Nat → Int32 := (alS (sN d) (incC s (sI d) (sC d) (sN d)) (sD d) (sF d) i).2.1
def qF (d : TS) (s : Int32) (i : Nat) : Int32 := (alS (sN d) (incC s (sI d) (sC d) (sN d)) (sD d) (sF d) i).2.2
def qPd (d : TS) (s : Int32) (q : Nat) : Int32 := (stl q (qC d s q) (qD d s q) (sN d)).2.2
def owP (d : TS) (s : Int32) (q : Nat) : Prop := 0 < dsum (qD d s q) (sN d) q ∧ ¬ 0 < qPd d s q
theorem qD_row {d : TS} {s : Int32} {q b : Nat} (hN : sN d ≤ 7) (hb : b < 7) : ∀ {i : Nat}, q < i → qD d s i (q * 7 + b) = qD d s (q + 1) (q * 7 + b)
  | 0, h => absurd h (by omega)
  | i + 1, h => by
    by_cases e : q = i
    · subst e; rfl
    · have h2 := qD_row (d := d) (s := s) (q := q) hN hb (i := i) (by omega)
      rw [← h2]
      show (stl i (qC d s i) (qD d s i) (sN d)).2.1 (q * 7 + b) = _
      exact stl_row (by omega)
theorem qD_sum {d : TS} {s : Int32} {q : Nat} (hN : sN d ≤ 7) {i : Nat} (h : q < i) : dsum (qD d s i) (sN d) q = dsum (qD d s (q + 1)) (sN d) q :=
  sumR_ext (fun _ hb => qD_row hN (by omega) h)
theorem qF_s {d : TS} {s : Int32} {i : Nat} : (dsum (qD d s (i + 1)) (sN d) i = 0 → owP d s i → qF d s (i + 1) = clrI (orI (qF d s i) i) i) ∧ (dsum (qD d s (i + 1)) (sN d) i = 0 → ¬ owP d s i → qF d s (i + 1) = clrI (qF d s i) i) ∧ (¬ dsum (qD d s (i + 1)) (sN d) i = 0 → owP d s i → qF d s (i + 1) = orI (qF d s i) i) ∧ (¬ dsum (qD d s (i + 1)) (sN d) i = 0 → ¬ owP d s i → qF d s (i + 1) = qF d s i) := by
  have e : qF d s (i + 1) = if dsum (qD d s (i + 1)) (sN d) i = 0 then clrI (if 0 < dsum (qD d s i) (sN d) i ∧ ¬ 0 < qPd d s i then orI (qF d s i) i else qF d s i) i else (if 0 < dsum (qD d s i) (sN d) i ∧ ¬ 0 < qPd d s i then orI (qF d s i) i else qF d s i) := rfl
  refine ⟨fun h1 h2 => ?_, fun h1 h2 => ?_, fun h1 h2 => ?_, fun h1 h2 => ?_⟩
  · rw [e, if_pos h1, if_pos (show 0 < dsum (qD d s i) (sN d) i ∧ ¬ 0 < qPd d s i from h2)]
  · rw [e, if_pos h1, if_neg (show ¬ (0 < dsum (qD d s i) (sN d) i ∧ ¬ 0 < qPd d s i) from h2)]
  · rw [e, if_neg h1, if_pos (show 0 < dsum (qD d s i) (sN d) i ∧ ¬ 0 < qPd d s i from h2)]
  · rw [e, if_neg h1, if_neg (show ¬ (0 < dsum (qD d s i) (sN d) i ∧ ¬ 0 < qPd d s i) from h2)]
theorem qF_bit {d : TS} {s : Int32} {q : Nat} (hq : q < 7) : ∀ {i : Nat}, i ≤ 7 → (¬ q < i → bitI (qF d s i) (nI q) = bitI (sF d) (nI q)) ∧ (q < i → dsum (qD d s (q + 1)) (sN d) q = 0 → bitI (qF d s i) (nI q) = nI 0) ∧ (q < i → ¬ dsum (qD d s (q + 1)) (sN d) q = 0 → (owP d s q → bitI (qF d s i) (nI q) = nI 1) ∧ (¬ owP d s q → bitI (qF d s i) (nI q) = bitI (sF d) (nI q)))
  | 0, _ => ⟨fun _ => rfl, fun h => absurd h (by omega), fun h => absurd h (by omega)⟩
  | i + 1, hi => by
    have ih := qF_bit (d := d) (s := s) hq (i := i) (by omega)
    have k := qF_s (d := d) (s := s) (i := i)
    have hz : ∀ j, j < 7 → bitI (qF d s (i + 1)) (nI j) = if j = i then bitI (qF d s (i + 1)) (nI i) else bitI (qF d s i) (nI j) := by
      intro j hj
      by_cases e : j = i
      · rw [if_pos e, e]
      · rw [if_neg e]
        by_cases c1 : dsum (qD d s (i + 1)) (sN d) i = 0
        · by_cases c2 : owP d s i
          · rw [k.1 c1 c2, bit_clr _ hj (by omega), if_neg e, bit_or _ hj (by omega), if_neg e]
          · rw [k.2.1 c1 c2, bit_clr _ hj (by omega), if_neg e]
        · by_cases c2 : owP d s i
          · rw [k.2.2.1 c1 c2, bit_or _ hj (by omega), if_neg e]
          · rw [k.2.2.2 c1 c2]
    rw [hz q hq]
    by_cases e : q = i
    · subst e
      rw [if_pos rfl]
      refine ⟨fun h => absurd h (by omega), fun _ h1 => ?_, fun _ h1 => ⟨fun h2 => ?_, fun h2 => ?_⟩⟩
      · by_cases c2 : owP d s q
        · rw [k.1 h1 c2, bit_clr _ hq hq, if_pos rfl]
        · rw [k.2.1 h1 c2, bit_clr _ hq hq, if_pos rfl]
      · rw [k.2.2.1 h1 h2, bit_or _ hq hq, if_pos rfl]
      · rw [k.2.2.2 h1 h2]; exact ih.1 (by omega)
    · rw [if_neg e]
      exact ⟨fun h => ih.1 (by omega), fun h => ih.2.1 (by omega), fun h => ih.2.2 (by omega)⟩
theorem fgv_at {un : Int32} {de : Nat → Int32} {j : Nat} : ∀ {n : Nat}, fgv un de n j = if j < n then (if un ≤ de j then de j else nI 0) else de j
  | 0 => by rw [if_neg (show ¬ j < 0 by omega)]; rfl
  | n + 1 => by
    have ih := fgv_at (un := un) (de := de) (j := j) (n := n)
    have e : fgv un de (n + 1) = if un ≤ fgv un de n n then fgv un de n else upd (fgv un de n) n (nI 0) := rfl
    have en : fgv un de n n = de n := by rw [fgv_at (n := n), if_neg (show ¬ n < n by omega)]
    rw [e, en]
    by_cases c : un ≤ de n
    · rw [if_pos c, ih]
      by_cases h : j < n
      · rw [if_pos h, if_pos (show j < n + 1 by omega)]
      · rw [if_neg h]
        by_cases h2 : j = n
        · subst h2; rw [if_pos (show j < j + 1 by omega), if_pos c]
        · rw [if_neg (show ¬ j < n + 1 by omega)]
    · rw [if_neg c]
      by_cases h2 : j = n
      · subst h2; rw [pk_us, if_pos (show j < j + 1 by omega), if_neg c]
      · rw [pk_un h2, ih]
        by_cases h : j < n
        · rw [if_pos h, if_pos (show j < n + 1 by omega)]
        · rw [if_neg h, if_neg (show ¬ j < n + 1 by omega)]
theorem grw_at {ra : Int32} {de : Nat → Int32} {j : Nat} : ∀ {n : Nat}, grw ra de n j = if j < n then minI (de j + ra * de j / nI 100) 99999 else de j
  | 0 => by rw [if_neg (show ¬ j < 0 by omega)]; rfl
  | n + 1 => by
    have ih := grw_at (ra := ra) (de := de) (j := j) (n := n)
    have en : grw ra de n n = de n := by rw [grw_at (n := n), if_neg (show ¬ n < n by omega)]
    have e : grw ra de (n + 1) = upd (grw ra de n) n (minI (grw ra de n n + ra * grw ra de n n / nI 100) 99999) := rfl
    rw [e, en]
    by_cases h2 : j = n
    · subst h2; rw [pk_us, if_pos (show j < j + 1 by omega)]
    · rw [pk_un h2, ih]
      by_cases h : j < n
      · rw [if_pos h, if_pos (show j < n + 1 by omega)]
      · rw [if_neg h, if_neg (show ¬ j < n + 1 by omega)]
theorem fil_at {x : Int32} {f : Nat → Int32} {j : Nat} : ∀ {n : Nat}, fil x f n j = if j < n then x else f j
  | 0 => by rw [if_neg (show ¬ j < 0 by omega)]; rfl
  | n + 1 => by
    have ih := fil_at (x := x) (f := f) (j := j) (n := n)
    show upd (fil x f n) n x j = _
    by_cases h2 : j = n
    · subst h2; rw [pk_us, if_pos (show j < j + 1 by omega)]
    · rw [pk_un h2, ih]
      by_cases h : j < n
      · rw [if_pos h, if_pos (show j < n + 1 by omega)]
      · rw [if_neg h, if_neg (show ¬ j < n + 1 by omega)]
/-- a debt behind a quarter -/
def qV (d : TS) (s : Int32) : Nat → Int32 := (qua (sN d) s (sI d) (sC d) (sD d) (nI (sU d)) (nI (sR d)) (sQ d) (sF d)).2.1
theorem qV_fg {d : TS} {s : Int32} (h : nI (sQ d + 1) - nI (sQ d + 1) / nI 9 * nI 9 = 0) {j : Nat} (hj : j < 49) : qV d s j = if qD d s (sN d) j < nI (sU d) then nI 0 else qD d s (sN d) j := by
  unfold qV qua
  show (if nI (sQ d + 1) - nI (sQ d + 1) / nI 9 * nI 9 = 0 then fgv (nI (sU d)) (qD d s (sN d)) 49 else grw (nI (sR d)) (qD d s (sN d)) 49) j = _
  rw [if_pos h, fgv_at, if_pos hj]
  by_cases c : qD d s (sN d) j < nI (sU d)
  · rw [if_pos c, if_neg (Int32.not_le.mpr c)]
  · rw [if_neg c, if_pos (Int32.not_lt.mp c)]
theorem qV_gr {d : TS} {s : Int32} (h : ¬ nI (sQ d + 1) - nI (sQ d + 1) / nI 9 * nI 9 = 0) {j : Nat} (hj : j < 49) : qV d s j = minI (qD d s (sN d) j + qD d s (sN d) j * nI (sR d) / nI 100) 99999 := by
  unfold qV qua
  show (if nI (sQ d + 1) - nI (sQ d + 1) / nI 9 * nI 9 = 0 then fgv (nI (sU d)) (qD d s (sN d)) 49 else grw (nI (sR d)) (qD d s (sN d)) 49) j = _
  rw [if_neg h, grw_at, if_pos hj, Int32.mul_comm]
/-- the town behind a quarter -/
def quT (d : TS) (s : Int32) : TS := ((qua (sN d) s (sI d) (sC d) (sD d) (nI (sU d)) (nI (sR d)) (sQ d) (sF d)).1, sI d, fil (-1) (sP d) (sN d), (qua (sN d) s (sI d) (sC d) (sD d) (nI (sU d)) (nI (sR d)) (sQ d) (sF d)).2.1, sN d, sU d, sR d, sQ d + 1, sH d, (qua (sN d) s (sI d) (sC d) (sD d) (nI (sU d)) (nI (sR d)) (sQ d) (sF d)).2.2)
theorem quT_enc {d : TS} {s : Int32} {P D : Nat → Int32} {F : Int32} (hN : sN d ≤ 7) (hP : ∀ p, p < sN d → P p = -1) (hD : ∀ a b, a < sN d → b < sN d → D (a * 7 + b) = qV d s (a * 7 + b)) (hF : ∀ q, q < sN d → bitI F (nI q) = bitI (qF d s (sN d)) (nI q)) : encT (qC d s (sN d), sI d, P, D, sN d, sU d, sR d, sQ d + 1, sH d, F) = encT (quT d s) := by
  refine enc_ext (fun _ _ => rfl) (fun _ _ => rfl) (fun p hp => ?_) hD (fun _ _ => rfl) hF
  rw [hP p hp, fil_at, if_pos hp]
section MQ
variable {G : GG} {z : Nat} {σ : AH} {a0 a1 a2 a3 a4 a5 a6 a7 a8 a9 a10 a11 : Nat → Int32} {i0 i1 i2 i3 i4 i5 i6 i7 i8 i9 i10 i11 : Int32} {d : TS} {kp : Nat}
theorem m_quarter_state (h : a0 0 = nI 0) (s : Int32) : Ct G yX6_quarter cX6_quarter 9 (some .int) 6 0 0 z (mH σ a0 a1 a2 a3 a4 a5 a6 a7 a8 a9 a10 a11 i0 i1 i2 i3 i4 i5 i6 i7 i8 i9 i10 i11) [.ref 171, .int s] (some (.int (-1000002))) z (mH σ a0 a1 a2 a3 a4 a5 a6 a7 a8 a9 a10 a11 i0 i1 i2 i3 i4 i5 i6 i7 i8 i9 i10 i11) := by
  refine Ct.ofJ RX6 rfl [some (.ref 171), some (.int s), none, none, none, none, none, none, none] rfl (by decide) (by simp [Value.category]) ?_
  refine j_aload_n dX6_quarter_0 rfl rfl ?_
  refine j_getf dX6_quarter_1 6 0 rfl (Nat.le_of_ble_eq_true rfl) fl_X6_7 in_6 mH_o rfl ?_
  refine j_iconst (nI 0) dX6_quarter_4 rfl ?_
  refine j_iald dX6_quarter_5 mH_a0 rfl (by omega) (by decide) ?_
  refine j_top (nI 0) h ?_
  refine j_if_ne 12 dX6_quarter_6 (by decide) (fun h => absurd rfl h) (fun _ => ?_)
  refine j_ldc (-1000002) dX6_quarter_9 kc_X6_163 ?_
  exact j_iret rfl dX6_quarter_11 rfl rfl (Nat.le_of_ble_eq_true rfl) (Nat.le_of_ble_eq_true rfl)
theorem m_quarter_bad (h0 : ¬ a0 0 = 0) (s : Int32) (h : s < 0 ∨ 999999 < s) : Ct G yX6_quarter cX6_quarter 9 (some .int) 6 0 0 z (mH σ a0 a1 a2 a3 a4 a5 a6 a7 a8 a9 a10 a11 i0 i1 i2 i3 i4 i5 i6 i7 i8 i9 i10 i11) [.ref 171, .int s] (some (.int (-1000001))) z (mH σ a0 a1 a2 a3 a4 a5 a6 a7 a8 a9 a10 a11 i0 i1 i2 i3 i4 i5 i6 i7 i8 i9 i10 i11) := by
  refine Ct.ofJ RX6 rfl [some (.ref 171), some (.int s), none, none, none, none, none, none, none] rfl (by decide) (by simp [Value.category]) ?_
  refine j_aload_n dX6_quarter_0 rfl rfl ?_
  refine j_getf dX6_quarter_1 6 0 rfl (Nat.le_of_ble_eq_true rfl) fl_X6_7 in_6 mH_o rfl ?_
  refine j_iconst (nI 0) dX6_quarter_4 rfl ?_
  refine j_iald dX6_quarter_5 mH_a0 rfl (by omega) (by decide) ?_
  refine j_if_ne 12 dX6_quarter_6 (by decide) (fun b6 => ?_) (fun b6 => by exact absurd b6 h0)
  refine j_iload_n dX6_quarter_12 rfl rfl ?_
  refine j_i2l dX6_quarter_13 ?_
  refine j_lconst (0) dX6_quarter_14 rfl ?_
  refine j_ldc2 (999999) dX6_quarter_15 kl_X6_175 ?_
  refine j_callS (m_in3 s (nI 0) 999999 rfl rfl) dX6_quarter_18 rfl ms_X6_54 ⟨(Nat.le_of_ble_eq_true rfl), (Nat.le_of_ble_eq_true rfl)⟩ ⟨(Nat.le_of_ble_eq_true rfl), (Nat.le_of_ble_eq_true rfl)⟩ (Nat.le_of_ble_eq_true rfl) ?_
  refine j_top (nI 0) (inI_no h) ?_
  refine j_if_ne 27 dX6_quarter_21 (by decide) (fun h => absurd rfl h) (fun _ => ?_)
  refine j_ldc (-1000001) dX6_quarter_24 kc_X6_64 ?_
  exact j_iret rfl dX6_quarter_26 rfl rfl (Nat.le_of_ble_eq_true rfl) (Nat.le_of_ble_eq_true rfl)
theorem m_quarter_full (h0 : ¬ a0 0 = 0) (s : Int32) (h1 : ¬ s < 0) (h2 : s ≤ 999999) (h : a0 3 = nI 999) : Ct G yX6_quarter cX6_quarter 9 (some .int) 6 0 0 z (mH σ a0 a1 a2 a3 a4 a5 a6 a7 a8 a9 a10 a11 i0 i1 i2 i3 i4 i5 i6 i7 i8 i9 i10 i11) [.ref 171, .int s] (some (.int (-1000003))) z (mH σ a0 a1 a2 a3 a4 a5 a6 a7 a8 a9 a10 a11 i0 i1 i2 i3 i4 i5 i6 i7 i8 i9 i10 i11) := by
  refine Ct.ofJ RX6 rfl [some (.ref 171), some (.int s), none, none, none, none, none, none, none] rfl (by decide) (by simp [Value.category]) ?_
  refine j_aload_n dX6_quarter_0 rfl rfl ?_
  refine j_getf dX6_quarter_1 6 0 rfl (Nat.le_of_ble_eq_true rfl) fl_X6_7 in_6 mH_o rfl ?_
  refine j_iconst (nI 0) dX6_quarter_4 rfl ?_
  refine j_iald dX6_quarter_5 mH_a0 rfl (by omega) (by decide) ?_
  refine j_if_ne 12 dX6_quarter_6 (by decide) (fun b6 => ?_) (fun b6 => by exact absurd b6 h0)
  refine j_iload_n dX6_quarter_12 rfl rfl ?_
  refine j_i2l dX6_quarter_13 ?_
  refine j_lconst (0) dX6_quarter_14 rfl ?_
  refine j_ldc2 (999999) dX6_quarter_15 kl_X6_175 ?_
  refine j_callS (m_in3 s (nI 0) 999999 rfl rfl) dX6_quarter_18 rfl ms_X6_54 ⟨(Nat.le_of_ble_eq_true rfl), (Nat.le_of_ble_eq_true rfl)⟩ ⟨(Nat.le_of_ble_eq_true rfl), (Nat.le_of_ble_eq_true rfl)⟩ (Nat.le_of_ble_eq_true rfl) ?_
  refine j_top (nI 1) (inI_yes h1 h2) ?_
  refine j_if_ne 27 dX6_quarter_21 (by decide) (fun _ => ?_) (fun h => absurd h (by decide))
  refine j_aload_n dX6_quarter_27 rfl rfl ?_
  refine j_getf dX6_quarter_28 6 0 rfl (Nat.le_of_ble_eq_true rfl) fl_X6_7 in_6 mH_o rfl ?_
  refine j_iconst (nI 3) dX6_quarter_31 rfl ?_
  refine j_iald dX6_quarter_32 mH_a0 rfl (by omega) (by decide) ?_
  refine j_sipush (nI 999) dX6_quarter_33 rfl ?_
  refine j_icmp_ne 42 dX6_quarter_36 (by decide) (fun b36 => by exact absurd h b36) (fun b36 => ?_)
  refine j_ldc (-1000003) dX6_quarter_39 kc_X6_77 ?_
  exact j_iret rfl dX6_quarter_41 rfl rfl (Nat.le_of_ble_eq_true rfl) (Nat.le_of_ble_eq_true rfl)
theorem m_quarter_4 (hN : sN d ≤ 7) (s : Int32) (F fg : Int32) (hfg : (fg = 0 → ¬ nI (sQ d + 1) - nI (sQ d + 1) / nI 9 * nI 9 = 0) ∧ (¬ fg = 0 → nI (sQ d + 1) - nI (sQ d + 1) / nI 9 * nI 9 = 0)) (hF : ∀ q, q < sN d → bitI F (nI q) = bitI (qF d s (sN d)) (nI q)) (l2 : Option Value) :
    ∀ (kk i : Nat) (P D : Nat → Int32) (o6 o7 o8 : Option Value), i ≤ sN d → sN d < i + kk → (∀ p, p < i → P p = -1) → (∀ a b, a < sN d → b < sN d → (a < i → D (a * 7 + b) = qV d s (a * 7 + b)) ∧ (¬ a < i → D (a * 7 + b) = qD d s (sN d) (a * 7 + b))) →
      J G RX6 cX6_quarter 9 (some .int) (TQ G 6 0 0 (some (.int (nI (sQ d + 1)))) z (mH σ (encT (quT d s)) a1 a2 a3 (remW kp a4 (encT d)) a5 a6 a7 a8 a9 a10 a11 (nI (min (kp + 1) 24)) i1 i2 i3 i4 i5 i6 i7 i8 i9 i10 i11)) z (mH σ (encT (qC d s (sN d), sI d, P, D, sN d, sU d, sR d, sQ d + 1, sH d, F)) a1 a2 a3 (remW kp a4 (encT d)) a5 a6 a7 a8 a9 a10 a11 (nI (min (kp + 1) 24)) i1 i2 i3 i4 i5 i6 i7 i8 i9 i10 i11) 0 0 279 [some (.ref 171), some (.int s), l2, none, some (.int fg), some (.int (nI i)), o6, o7, o8] [] := by
  intro kk
  induction kk with
  | zero => intro i P D o6 o7 o8 h1 h2; exact absurd h2 (by omega)
  | succ kk ih =>
    intro i P D o6 o7 o8 h1 h2 hP hD
    by_cases hi : i < sN d
    · refine j_iload dX6_quarter_279 rfl ?_
      refine j_aload_n dX6_quarter_281 rfl rfl ?_
      refine j_getf dX6_quarter_282 6 0 rfl (Nat.le_of_ble_eq_true rfl) fl_X6_7 in_6 mH_o rfl ?_
      refine j_iconst (nI 2) dX6_quarter_285 rfl ?_
      refine j_iald dX6_quarter_286 mH_a0 (k := 2) rfl (by omega) (by decide) ?_
      refine j_top (nI (sN d)) rfl ?_
      refine j_icmp_geN 418 dX6_quarter_287 (by decide) (by omega) (by omega) (fun b287 => by exfalso; omega) (fun b287 => ?_)
      refine j_aload_n dX6_quarter_290 rfl rfl ?_
      refine j_getf dX6_quarter_291 6 0 rfl (Nat.le_of_ble_eq_true rfl) fl_X6_7 in_6 mH_o rfl ?_
      refine j_bipush (nI 25) dX6_quarter_294 rfl ?_
      refine j_iload dX6_quarter_296 rfl ?_
      first | refine j_iaddN dX6_quarter_298 ?_ | refine j_iadd dX6_quarter_298 ?_
      refine j_bipush (nI 10) dX6_quarter_299 rfl ?_
      refine j_iast dX6_quarter_301 mH_a0 rfl (by omega) (by decide) _ (mH_t0 (enc_wP (d := (qC d s (sN d), sI d, P, D, sN d, sU d, sR d, sQ d + 1, sH d, F)) (y := -1) hN hi (if_pos rfl))) ?_
      refine j_iconst (nI 0) dX6_quarter_302 rfl ?_
      refine j_istore dX6_quarter_303 (Nat.le_of_ble_eq_true rfl) rfl ?_
      skip
      suffices H : ∀ (kk o : Nat) (D : Nat → Int32) (o7 o8 : Option Value), o ≤ sN d → sN d < o + kk → (∀ a b, a < sN d → b < sN d → ((a < i ∨ (a = i ∧ b < o)) → D (a * 7 + b) = qV d s (a * 7 + b)) ∧ (¬ (a < i ∨ (a = i ∧ b < o)) → D (a * 7 + b) = qD d s (sN d) (a * 7 + b))) → J G RX6 cX6_quarter 9 (some .int) (TQ G 6 0 0 (some (.int (nI (sQ d + 1)))) z (mH σ (encT (quT d s)) a1 a2 a3 (remW kp a4 (encT d)) a5 a6 a7 a8 a9 a10 a11 (nI (min (kp + 1) 24)) i1 i2 i3 i4 i5 i6 i7 i8 i9 i10 i11)) z (mH σ (encT (qC d s (sN d), sI d, upd P i (-1), D, sN d, sU d, sR d, sQ d + 1, sH d, F)) a1 a2 a3 (remW kp a4 (encT d)) a5 a6 a7 a8 a9 a10 a11 (nI (min (kp + 1) 24)) i1 i2 i3 i4 i5 i6 i7 i8 i9 i10 i11) 0 0 305 [some (.ref 171), some (.int s), l2, none, some (.int fg), some (.int (nI i)), some (.int (nI o)), o7, o8] [] from H (sN d + 1) 0 D o7 o8 (by omega) (by omega) (fun a b ha hb => ⟨fun q => (hD a b ha hb).1 (by omega), fun q => (hD a b ha hb).2 (by omega)⟩)
      intro kk2
      induction kk2 with
      | zero => intro o D o7 o8 h1 h2; exact absurd h2 (by omega)
      | succ kk2 ih2 =>
        intro o D o7 o8 h1o h2o hD
        by_cases ho : o < sN d
        · suffices HH : ∀ v : Int32, v = qV d s (i * 7 + o) → ∀ (o7 o8 : Option Value), J G RX6 cX6_quarter 9 (some .int) (TQ G 6 0 0 (some (.int (nI (sQ d + 1)))) z (mH σ (encT (quT d s)) a1 a2 a3 (remW kp a4 (encT d)) a5 a6 a7 a8 a9 a10 a11 (nI (min (kp + 1) 24)) i1 i2 i3 i4 i5 i6 i7 i8 i9 i10 i11)) z (mH σ (encT (qC d s (sN d), sI d, upd P i (-1), D, sN d, sU d, sR d, sQ d + 1, sH d, F)) a1 a2 a3 (remW kp a4 (encT d)) a5 a6 a7 a8 a9 a10 a11 (nI (min (kp + 1) 24)) i1 i2 i3 i4 i5 i6 i7 i8 i9 i10 i11) 0 0 405 [some (.ref 171), some (.int s), l2, none, some (.int fg), some (.int (nI i)), some (.int (nI o)), o7, o8] [.int v, .int (nI (40 + 7 * i + o)), .ref 172] by
            have eD : D (i * 7 + o) = qD d s (sN d) (i * 7 + o) := (hD i o hi ho).2 (by omega)
            refine j_iload dX6_quarter_305 rfl ?_
            refine j_aload_n dX6_quarter_307 rfl rfl ?_
            refine j_getf dX6_quarter_308 6 0 rfl (Nat.le_of_ble_eq_true rfl) fl_X6_7 in_6 mH_o rfl ?_
            refine j_iconst (nI 2) dX6_quarter_311 rfl ?_
            refine j_iald dX6_quarter_312 mH_a0 (k := 2) rfl (by omega) (by decide) ?_
            refine j_top (nI (sN d)) rfl ?_
            refine j_icmp_geN 412 dX6_quarter_313 (by decide) (by omega) (by omega) (fun b313 => by exfalso; omega) (fun b313 => ?_)
            refine j_aload_n dX6_quarter_316 rfl rfl ?_
            refine j_getf dX6_quarter_317 6 0 rfl (Nat.le_of_ble_eq_true rfl) fl_X6_7 in_6 mH_o rfl ?_
            refine j_bipush (nI 40) dX6_quarter_320 rfl ?_
            refine j_bipush (nI 7) dX6_quarter_322 rfl ?_
            refine j_iload dX6_quarter_324 rfl ?_
            first | refine j_imulN dX6_quarter_326 ?_ | refine j_imul dX6_quarter_326 ?_
            first | refine j_iaddN dX6_quarter_327 ?_ | refine j_iadd dX6_quarter_327 ?_
            refine j_iload dX6_quarter_328 rfl ?_
            first | refine j_iaddN dX6_quarter_330 ?_ | refine j_iadd dX6_quarter_330 ?_
            refine j_iald dX6_quarter_331 mH_a0 rfl (by omega) (by decide) ?_
            refine j_top (qD d s (sN d) (i * 7 + o)) ((enc_d (d := (qC d s (sN d), sI d, upd P i (-1), D, sN d, sU d, sR d, sQ d + 1, sH d, F)) hN hi ho).trans eD) ?_
            refine j_istore dX6_quarter_332 (Nat.le_of_ble_eq_true rfl) rfl ?_
            refine j_iload dX6_quarter_334 rfl ?_
            refine j_iload dX6_quarter_336 rfl ?_
            refine j_aload_n dX6_quarter_338 rfl rfl ?_
            refine j_getf dX6_quarter_339 6 0 rfl (Nat.le_of_ble_eq_true rfl) fl_X6_7 in_6 mH_o rfl ?_
            refine j_iconst (nI 1) dX6_quarter_342 rfl ?_
            refine j_iald dX6_quarter_343 mH_a0 (k := 1) rfl (by omega) (by decide) ?_
            refine j_top (nI (sR d)) rfl ?_
            refine j_imul dX6_quarter_344 ?_
            refine j_bipush (nI 100) dX6_quarter_345 rfl ?_
            refine j_idiv dX6_quarter_347 (by decide) ?_
            refine j_iadd dX6_quarter_348 ?_
            refine j_istore dX6_quarter_349 (Nat.le_of_ble_eq_true rfl) rfl ?_
            refine j_aload_n dX6_quarter_351 rfl rfl ?_
            refine j_getf dX6_quarter_352 6 0 rfl (Nat.le_of_ble_eq_true rfl) fl_X6_7 in_6 mH_o rfl ?_
            refine j_bipush (nI 40) dX6_quarter_355 rfl ?_
            refine j_bipush (nI 7) dX6_quarter_357 rfl ?_
            refine j_iload dX6_quarter_359 rfl ?_
            first | refine j_imulN dX6_quarter_361 ?_ | refine j_imul dX6_quarter_361 ?_
            first | refine j_iaddN dX6_quarter_362 ?_ | refine j_iadd dX6_quarter_362 ?_
            refine j_iload dX6_quarter_363 rfl ?_
            first | refine j_iaddN dX6_quarter_365 ?_ | refine j_iadd dX6_quarter_365 ?_
            refine j_iload dX6_quarter_366 rfl ?_
            refine j_if_eq 391 dX6_quarter_368 (by decide) (fun b368 => ?_) (fun b368 => ?_)
            · refine j_iload dX6_quarter_391 rfl ?_
              refine j_ldc (99999) dX6_quarter_393 kc_X6_164 ?_
              refine j_icmp_le 403 dX6_quarter_395 (by decide) (fun b395 => ?_) (fun b395 => ?_)
              · refine j_iload dX6_quarter_403 rfl ?_
                exact HH _ (by first | rw [qV_fg (hfg.2 b368) (by omega), if_neg (Int32.not_lt.mpr b379)] | rw [qV_fg (hfg.2 b368) (by omega), if_pos (Int32.not_le.mp b379)] | (rw [qV_gr (hfg.1 b368) (by omega)]; unfold minI; rw [if_neg (Int32.not_lt.mpr b395)]) | (rw [qV_gr (hfg.1 b368) (by omega)]; unfold minI; rw [if_pos (Int32.not_le.mp b395)]) | done) _ _
              · refine j_ldc (99999) dX6_quarter_398 kc_X6_164 ?_
                refine j_goto 405 dX6_quarter_400 (by decide) ?_
                exact HH _ (by first | rw [qV_fg (hfg.2 b368) (by omega), if_neg (Int32.not_lt.mpr b379)] | rw [qV_fg (hfg.2 b368) (by omega), if_pos (Int32.not_le.mp b379)] | (rw [qV_gr (hfg.1 b368) (by omega)]; unfold minI; rw [if_neg (Int32.not_lt.mpr b395)]) | (rw [qV_gr (hfg.1 b368) (by omega)]; unfold minI; rw [if_pos (Int32.not_le.mp b395)]) | done) _ _
            · refine j_iload dX6_quarter_371 rfl ?_
              refine j_aload_n dX6_quarter_373 rfl rfl ?_
              refine j_getf dX6_quarter_374 6 0 rfl (Nat.le_of_ble_eq_true rfl) fl_X6_7 in_6 mH_o rfl ?_
              refine j_iconst (nI 0) dX6_quarter_377 rfl ?_
              refine j_iald dX6_quarter_378 mH_a0 (k := 0) rfl (by omega) (by decide) ?_
              refine j_top (nI (sU d)) rfl ?_
              refine j_icmp_ge 386 dX6_quarter_379 (by decide) (fun b379 => ?_) (fun b379 => ?_)
              · refine j_iload dX6_quarter_386 rfl ?_
                refine j_goto 405 dX6_quarter_388 (by decide) ?_
                exact HH _ (by first | rw [qV_fg (hfg.2 b368) (by omega), if_neg (Int32.not_lt.mpr b379)] | rw [qV_fg (hfg.2 b368) (by omega), if_pos (Int32.not_le.mp b379)] | (rw [qV_gr (hfg.1 b368) (by omega)]; unfold minI; rw [if_neg (Int32.not_lt.mpr b395)]) | (rw [qV_gr (hfg.1 b368) (by omega)]; unfold minI; rw [if_pos (Int32.not_le.mp b395)]) | done) _ _
              · refine j_iconst (nI 0) dX6_quarter_382 rfl ?_
                refine j_goto 405 dX6_quarter_383 (by decide) ?_
                exact HH _ (by first | rw [qV_fg (hfg.2 b368) (by omega), if_neg (Int32.not_lt.mpr b379)] | rw [qV_fg (hfg.2 b368) (by omega), if_pos (Int32.not_le.mp b379)] | (rw [qV_gr (hfg.1 b368) (by omega)]; unfold minI; rw [if_neg (Int32.not_lt.mpr b395)]) | (rw [qV_gr (hfg.1 b368) (by omega)]; unfold minI; rw [if_pos (Int32.not_le.mp b395)]) | done) _ _
          intro v hv o7 o8
          refine j_iast dX6_quarter_405 mH_a0 rfl (by omega) (by decide) _ (mH_t0 (enc_wD (d := (qC d s (sN d), sI d, upd P i (-1), D, sN d, sU d, sR d, sQ d + 1, sH d, F)) hN hi ho)) ?_
          first | refine j_iincN dX6_quarter_406 rfl (Nat.le_of_ble_eq_true rfl) rfl ?_ | refine j_iinc _ dX6_quarter_406 rfl rfl (Nat.le_of_ble_eq_true rfl) rfl ?_
          refine j_goto 305 dX6_quarter_409 (by decide) ?_
          refine ih2 (o + 1) _ _ _ (by omega) (by omega) (fun a b ha hb => ⟨fun q => ?_, fun q => (pk_un (by omega)).trans ((hD a b ha hb).2 (by omega))⟩)
          rcases Classical.em (a * 7 + b = i * 7 + o) with e | e
          · rw [e]; exact pk_us.trans hv
          · exact (pk_un e).trans ((hD a b ha hb).1 (by omega))
        · obtain rfl : o = sN d := by omega
          refine j_iload dX6_quarter_305 rfl ?_
          refine j_aload_n dX6_quarter_307 rfl rfl ?_
          refine j_getf dX6_quarter_308 6 0 rfl (Nat.le_of_ble_eq_true rfl) fl_X6_7 in_6 mH_o rfl ?_
          refine j_iconst (nI 2) dX6_quarter_311 rfl ?_
          refine j_iald dX6_quarter_312 mH_a0 (k := 2) rfl (by omega) (by decide) ?_
          refine j_top (nI (sN d)) rfl ?_
          refine j_icmp_geN 412 dX6_quarter_313 (by decide) (by omega) (by omega) (fun b313 => ?_) (fun b313 => by exfalso; omega)
          first | refine j_iincN dX6_quarter_412 rfl (Nat.le_of_ble_eq_true rfl) rfl ?_ | refine j_iinc _ dX6_quarter_412 rfl rfl (Nat.le_of_ble_eq_true rfl) rfl ?_
          refine j_goto 279 dX6_quarter_415 (by decide) ?_
          refine ih (i + 1) _ _ _ _ _ (by omega) (by omega) (fun p hp => ?_) (fun a b ha hb => ⟨fun q => (hD a b ha hb).1 (by omega), fun q => (hD a b ha hb).2 (by omega)⟩)
          rcases Classical.em (p = i) with e | e
          · rw [e]; exact pk_us
          · exact (pk_un e).trans (hP p (by omega))
    · obtain rfl : i = sN d := by omega
      refine j_iload dX6_quarter_279 rfl ?_
      refine j_aload_n dX6_quarter_281 rfl rfl ?_
      refine j_getf dX6_quarter_282 6 0 rfl (Nat.le_of_ble_eq_true rfl) fl_X6_7 in_6 mH_o rfl ?_
      refine j_iconst (nI 2) dX6_quarter_285 rfl ?_
      refine j_iald dX6_quarter_286 mH_a0 (k := 2) rfl (by omega) (by decide) ?_
      refine j_top (nI (sN d)) rfl ?_
      refine j_icmp_geN 418 dX6_quarter_287 (by decide) (by omega) (by omega) (fun b287 => ?_) (fun b287 => by exfalso; omega)
      refine j_aload_n dX6_quarter_418 rfl rfl ?_
      refine j_getf dX6_quarter_419 6 0 rfl (Nat.le_of_ble_eq_true rfl) fl_X6_7 in_6 mH_o rfl ?_
      refine j_iconst (nI 3) dX6_quarter_422 rfl ?_
      refine j_iald dX6_quarter_423 mH_a0 (k := 3) rfl (by omega) (by decide) ?_
      exact j_iret rfl dX6_quarter_424 rfl (by rw [quT_enc hN hP (fun a b ha hb => (hD a b ha hb).1 ha) hF]) (Nat.le_of_ble_eq_true rfl) (Nat.le_of_ble_eq_true rfl)
theorem m_quarter_3 (hN : sN d ≤ 7) (s : Int32) (fg : Int32) (hfg : (fg = 0 → ¬ nI (sQ d + 1) - nI (sQ d + 1) / nI 9 * nI 9 = 0) ∧ (¬ fg = 0 → nI (sQ d + 1) - nI (sQ d + 1) / nI 9 * nI 9 = 0)) (l2 : Option Value) :
    ∀ (kk i : Nat) (F : Int32) (o6 o7 o8 : Option Value), i ≤ sN d → sN d < i + kk → (∀ q, q < sN d → ((q < i ∧ dsum (qD d s (sN d)) (sN d) q = 0) → bitI F (nI q) = nI 0) ∧ (¬ (q < i ∧ dsum (qD d s (sN d)) (sN d) q = 0) → (owP d s q → bitI F (nI q) = nI 1) ∧ (¬ owP d s q → bitI F (nI q) = bitI (sF d) (nI q)))) →
      J G RX6 cX6_quarter 9 (some .int) (TQ G 6 0 0 (some (.int (nI (sQ d + 1)))) z (mH σ (encT (quT d s)) a1 a2 a3 (remW kp a4 (encT d)) a5 a6 a7 a8 a9 a10 a11 (nI (min (kp + 1) 24)) i1 i2 i3 i4 i5 i6 i7 i8 i9 i10 i11)) z (mH σ (encT (qC d s (sN d), sI d, sP d, qD d s (sN d), sN d, sU d, sR d, sQ d + 1, sH d, F)) a1 a2 a3 (remW kp a4 (encT d)) a5 a6 a7 a8 a9 a10 a11 (nI (min (kp + 1) 24)) i1 i2 i3 i4 i5 i6 i7 i8 i9 i10 i11) 0 0 223 [some (.ref 171), some (.int s), l2, none, some (.int fg), some (.int (nI i)), o6, o7, o8] [] := by
  intro kk
  induction kk with
  | zero => intro i F o6 o7 o8 h1 h2; exact absurd h2 (by omega)
  | succ kk ih =>
    intro i F o6 o7 o8 h1 h2 hF
    by_cases hi : i < sN d
    · by_cases hz : dsum (qD d s (sN d)) (sN d) i = 0
      · have hF2 : ∀ q, q < sN d → ((q < i + 1 ∧ dsum (qD d s (sN d)) (sN d) q = 0) → bitI (clrI F i) (nI q) = nI 0) ∧ (¬ (q < i + 1 ∧ dsum (qD d s (sN d)) (sN d) q = 0) → (owP d s q → bitI (clrI F i) (nI q) = nI 1) ∧ (¬ owP d s q → bitI (clrI F i) (nI q) = bitI (sF d) (nI q))) := by
          intro q hq
          rw [bit_clr _ (by omega) (by omega)]
          have hb := hF q hq
          by_cases e : q = i
          · subst e
            rw [if_pos rfl]
            exact ⟨fun _ => rfl, fun k => absurd ⟨by omega, hz⟩ k⟩
          · rw [if_neg e]
            exact ⟨fun k => hb.1 ⟨by omega, k.2⟩, fun k => hb.2 (fun w => k ⟨by omega, w.2⟩)⟩
        refine j_iload dX6_quarter_223 rfl ?_
        refine j_aload_n dX6_quarter_225 rfl rfl ?_
        refine j_getf dX6_quarter_226 6 0 rfl (Nat.le_of_ble_eq_true rfl) fl_X6_7 in_6 mH_o rfl ?_
        refine j_iconst (nI 2) dX6_quarter_229 rfl ?_
        refine j_iald dX6_quarter_230 mH_a0 (k := 2) rfl (by omega) (by decide) ?_
        refine j_top (nI (sN d)) rfl ?_
        refine j_icmp_geN 276 dX6_quarter_231 (by decide) (by omega) (by omega) (fun b231 => by exfalso; omega) (fun b231 => ?_)
        refine j_aload_n dX6_quarter_234 rfl rfl ?_
        refine j_getf dX6_quarter_235 6 0 rfl (Nat.le_of_ble_eq_true rfl) fl_X6_7 in_6 mH_o rfl ?_
        refine j_bipush (nI 32) dX6_quarter_238 rfl ?_
        refine j_iload dX6_quarter_240 rfl ?_
        first | refine j_iaddN dX6_quarter_242 ?_ | refine j_iadd dX6_quarter_242 ?_
        refine j_aload_n dX6_quarter_243 rfl rfl ?_
        refine j_getf dX6_quarter_244 6 0 rfl (Nat.le_of_ble_eq_true rfl) fl_X6_7 in_6 mH_o rfl ?_
        refine j_iload dX6_quarter_247 rfl ?_
        refine j_callS (m_owedIn (d := (qC d s (sN d), sI d, sP d, qD d s (sN d), sN d, sU d, sR d, sQ d + 1, sH d, F)) mH_a0 hN hi) dX6_quarter_249 rfl ms_X6_151 ⟨(Nat.le_of_ble_eq_true rfl), (Nat.le_of_ble_eq_true rfl)⟩ ⟨(Nat.le_of_ble_eq_true rfl), (Nat.le_of_ble_eq_true rfl)⟩ (Nat.le_of_ble_eq_true rfl) ?_
        refine j_if_ne 259 dX6_quarter_252 (by decide) (fun b252 => by exact absurd hz b252) (fun b252 => ?_)
        refine j_iconst (nI 0) dX6_quarter_255 rfl ?_
        refine j_goto 269 dX6_quarter_256 (by decide) ?_
        refine j_iast dX6_quarter_269 mH_a0 rfl (by omega) (by decide) _ (mH_t0 (enc_wF (d := (qC d s (sN d), sI d, sP d, qD d s (sN d), sN d, sU d, sR d, sQ d + 1, sH d, F)) (y := clrI F i) hN hi (by rw [bit_clr _ (by omega) (by omega), if_pos rfl]) (fun q hq hne => by rw [bit_clr _ hq (by omega), if_neg hne]))) ?_
        first | refine j_iincN dX6_quarter_270 rfl (Nat.le_of_ble_eq_true rfl) rfl ?_ | refine j_iinc _ dX6_quarter_270 rfl rfl (Nat.le_of_ble_eq_true rfl) rfl ?_
        refine j_goto 223 dX6_quarter_273 (by decide) ?_
        exact ih (i + 1) _ _ _ _ (by omega) (by omega) hF2
      · have hF2 : ∀ q, q < sN d → ((q < i + 1 ∧ dsum (qD d s (sN d)) (sN d) q = 0) → bitI F (nI q) = nI 0) ∧ (¬ (q < i + 1 ∧ dsum (qD d s (sN d)) (sN d) q = 0) → (owP d s q → bitI F (nI q) = nI 1) ∧ (¬ owP d s q → bitI F (nI q) = bitI (sF d) (nI q))) := by
          intro q hq
          have hb := hF q hq
          by_cases e : q = i
          · subst e
            exact ⟨fun k => absurd k.2 hz, fun k => hb.2 (by omega)⟩
          · exact ⟨fun k => hb.1 ⟨by omega, k.2⟩, fun k => hb.2 (fun w => k ⟨by omega, w.2⟩)⟩
        refine j_iload dX6_quarter_223 rfl ?_
        refine j_aload_n dX6_quarter_225 rfl rfl ?_
        refine j_getf dX6_quarter_226 6 0 rfl (Nat.le_of_ble_eq_true rfl) fl_X6_7 in_6 mH_o rfl ?_
        refine j_iconst (nI 2) dX6_quarter_229 rfl ?_
        refine j_iald dX6_quarter_230 mH_a0 (k := 2) rfl (by omega) (by decide) ?_
        refine j_top (nI (sN d)) rfl ?_
        refine j_icmp_geN 276 dX6_quarter_231 (by decide) (by omega) (by omega) (fun b231 => by exfalso; omega) (fun b231 => ?_)
        refine j_aload_n dX6_quarter_234 rfl rfl ?_
        refine j_getf dX6_quarter_235 6 0 rfl (Nat.le_of_ble_eq_true rfl) fl_X6_7 in_6 mH_o rfl ?_
        refine j_bipush (nI 32) dX6_quarter_238 rfl ?_
        refine j_iload dX6_quarter_240 rfl ?_
        first | refine j_iaddN dX6_quarter_242 ?_ | refine j_iadd dX6_quarter_242 ?_
        refine j_aload_n dX6_quarter_243 rfl rfl ?_
        refine j_getf dX6_quarter_244 6 0 rfl (Nat.le_of_ble_eq_true rfl) fl_X6_7 in_6 mH_o rfl ?_
        refine j_iload dX6_quarter_247 rfl ?_
        refine j_callS (m_owedIn (d := (qC d s (sN d), sI d, sP d, qD d s (sN d), sN d, sU d, sR d, sQ d + 1, sH d, F)) mH_a0 hN hi) dX6_quarter_249 rfl ms_X6_151 ⟨(Nat.le_of_ble_eq_true rfl), (Nat.le_of_ble_eq_true rfl)⟩ ⟨(Nat.le_of_ble_eq_true rfl), (Nat.le_of_ble_eq_true rfl)⟩ (Nat.le_of_ble_eq_true rfl) ?_
        refine j_if_ne 259 dX6_quarter_252 (by decide) (fun b252 => ?_) (fun b252 => by exact absurd b252 hz)
        refine j_aload_n dX6_quarter_259 rfl rfl ?_
        refine j_getf dX6_quarter_260 6 0 rfl (Nat.le_of_ble_eq_true rfl) fl_X6_7 in_6 mH_o rfl ?_
        refine j_bipush (nI 32) dX6_quarter_263 rfl ?_
        refine j_iload dX6_quarter_265 rfl ?_
        first | refine j_iaddN dX6_quarter_267 ?_ | refine j_iadd dX6_quarter_267 ?_
        refine j_iald dX6_quarter_268 mH_a0 rfl (by omega) (by decide) ?_
        refine j_top (bitI F (nI i)) (enc_f (d := (qC d s (sN d), sI d, sP d, qD d s (sN d), sN d, sU d, sR d, sQ d + 1, sH d, F)) hN hi) ?_
        refine j_iast dX6_quarter_269 mH_a0 rfl (by omega) (by decide) _ (mH_t0 (enc_wF (d := (qC d s (sN d), sI d, sP d, qD d s (sN d), sN d, sU d, sR d, sQ d + 1, sH d, F)) (y := F) hN hi rfl (fun q hq hne => rfl))) ?_
        first | refine j_iincN dX6_quarter_270 rfl (Nat.le_of_ble_eq_true rfl) rfl ?_ | refine j_iinc _ dX6_quarter_270 rfl rfl (Nat.le_of_ble_eq_true rfl) rfl ?_
        refine j_goto 223 dX6_quarter_273 (by decide) ?_
        exact ih (i + 1) _ _ _ _ (by omega) (by omega) hF2
    · obtain rfl : i = sN d := by omega
      have hFF : ∀ q, q < sN d → bitI F (nI q) = bitI (qF d s (sN d)) (nI q) := by
        intro q hq
        have k := qF_bit (d := d) (s := s) (q := q) (by omega) hN
        have hs := qD_sum (d := d) (s := s) hN hq
        by_cases c : dsum (qD d s (sN d)) (sN d) q = 0
        · rw [(hF q hq).1 ⟨hq, c⟩, k.2.1 hq (hs ▸ c)]
        · have k2 := k.2.2 hq (fun w => c (hs.trans w))
          have k3 := (hF q hq).2 (fun w => c w.2)
          by_cases o : owP d s q
          · rw [k2.1 o, k3.1 o]
          · rw [k2.2 o, k3.2 o]
      refine j_iload dX6_quarter_223 rfl ?_
      refine j_aload_n dX6_quarter_225 rfl rfl ?_
      refine j_getf dX6_quarter_226 6 0 rfl (Nat.le_of_ble_eq_true rfl) fl_X6_7 in_6 mH_o rfl ?_
      refine j_iconst (nI 2) dX6_quarter_229 rfl ?_
      refine j_iald dX6_quarter_230 mH_a0 (k := 2) rfl (by omega) (by decide) ?_
      refine j_top (nI (sN d)) rfl ?_
      refine j_icmp_geN 276 dX6_quarter_231 (by decide) (by omega) (by omega) (fun b231 => ?_) (fun b231 => by exfalso; omega)
      refine j_iconst (nI 0) dX6_quarter_276 rfl ?_
      refine j_istore dX6_quarter_277 (Nat.le_of_ble_eq_true rfl) rfl ?_
      exact m_quarter_4 hN s F fg hfg hFF l2 (sN d + 1) 0 _ _ _ _ _ (by omega) (by omega) (fun p hp => absurd hp (by omega)) (fun a b ha hb => ⟨fun q => absurd q (by omega), fun _ => rfl⟩)
theorem m_quarter_2 (hN : sN d ≤ 7) (s : Int32) (h : sQ d < 999) (hpd : ∀ q, q < sN d → 0 ≤ qPd d s q) (l2 : Option Value) :
    ∀ (kk i : Nat) (F : Int32) (o5 o6 o7 o8 : Option Value), i ≤ sN d → sN d < i + kk → (∀ q, q < sN d → ((q < i ∧ owP d s q) → bitI F (nI q) = nI 1) ∧ (¬ (q < i ∧ owP d s q) → bitI F (nI q) = bitI (sF d) (nI q))) →
      J G RX6 cX6_quarter 9 (some .int) (TQ G 6 0 0 (some (.int (nI (sQ d + 1)))) z (mH σ (encT (quT d s)) a1 a2 a3 (remW kp a4 (encT d)) a5 a6 a7 a8 a9 a10 a11 (nI (min (kp + 1) 24)) i1 i2 i3 i4 i5 i6 i7 i8 i9 i10 i11)) z (mH σ (encT (qC d s i, sI d, sP d, qD d s i, sN d, sU d, sR d, sQ d, sH d, F)) a1 a2 a3 (remW kp a4 (encT d)) a5 a6 a7 a8 a9 a10 a11 (nI (min (kp + 1) 24)) i1 i2 i3 i4 i5 i6 i7 i8 i9 i10 i11) 0 0 127 [some (.ref 171), some (.int s), l2, none, some (.int (nI i)), o5, o6, o7, o8] [] := by
  intro kk
  induction kk with
  | zero => intro i F o5 o6 o7 o8 h1 h2; exact absurd h2 (by omega)
  | succ kk ih =>
    intro i F o5 o6 o7 o8 h1 h2 hF
    by_cases hi : i < sN d
    · have hor : ∀ q, q < sN d → q ≠ i → ((q < i + 1 ∧ owP d s q) → bitI (orI F i) (nI q) = nI 1) ∧ (¬ (q < i + 1 ∧ owP d s q) → bitI (orI F i) (nI q) = bitI (sF d) (nI q)) := by
        intro q hq hne
        rw [bit_or _ (by omega) (by omega), if_neg hne]
        exact ⟨fun w => (hF q hq).1 ⟨by omega, w.2⟩, fun w => (hF q hq).2 (fun w2 => w ⟨by omega, w2.2⟩)⟩
      have hno : ∀ q, q < sN d → q ≠ i → ((q < i + 1 ∧ owP d s q) → bitI F (nI q) = nI 1) ∧ (¬ (q < i + 1 ∧ owP d s q) → bitI F (nI q) = bitI (sF d) (nI q)) := by
        intro q hq hne
        exact ⟨fun w => (hF q hq).1 ⟨by omega, w.2⟩, fun w => (hF q hq).2 (fun w2 => w ⟨by omega, w2.2⟩)⟩
      have yes : owP d s i → ∀ q, q < sN d → ((q < i + 1 ∧ owP d s q) → bitI (orI F i) (nI q) = nI 1) ∧ (¬ (q < i + 1 ∧ owP d s q) → bitI (orI F i) (nI q) = bitI (sF d) (nI q)) := by
        intro ho q hq
        by_cases e : q = i
        · subst e; exact ⟨fun _ => (by rw [bit_or _ (by omega) (by omega), if_pos rfl]), fun w => absurd ⟨by omega, ho⟩ w⟩
        · exact hor q hq e
      have no : ¬ owP d s i → ∀ q, q < sN d → ((q < i + 1 ∧ owP d s q) → bitI F (nI q) = nI 1) ∧ (¬ (q < i + 1 ∧ owP d s q) → bitI F (nI q) = bitI (sF d) (nI q)) := by
        intro ho q hq
        by_cases e : q = i
        · subst e; exact ⟨fun w => absurd w.2 ho, fun w => (hF q hq).2 (fun w2 => ho w2.2)⟩
        · exact hno q hq e
      refine j_iload dX6_quarter_127 rfl ?_
      refine j_aload_n dX6_quarter_129 rfl rfl ?_
      refine j_getf dX6_quarter_130 6 0 rfl (Nat.le_of_ble_eq_true rfl) fl_X6_7 in_6 mH_o rfl ?_
      refine j_iconst (nI 2) dX6_quarter_133 rfl ?_
      refine j_iald dX6_quarter_134 mH_a0 (k := 2) rfl (by omega) (by decide) ?_
      refine j_top (nI (sN d)) rfl ?_
      refine j_icmp_geN 191 dX6_quarter_135 (by decide) (by omega) (by omega) (fun b135 => by exfalso; omega) (fun b135 => ?_)
      refine j_aload_n dX6_quarter_138 rfl rfl ?_
      refine j_getf dX6_quarter_139 6 0 rfl (Nat.le_of_ble_eq_true rfl) fl_X6_7 in_6 mH_o rfl ?_
      refine j_iload dX6_quarter_142 rfl ?_
      refine j_callS (m_owedIn (d := (qC d s i, sI d, sP d, qD d s i, sN d, sU d, sR d, sQ d, sH d, F)) mH_a0 hN hi) dX6_quarter_144 rfl ms_X6_151 ⟨(Nat.le_of_ble_eq_true rfl), (Nat.le_of_ble_eq_true rfl)⟩ ⟨(Nat.le_of_ble_eq_true rfl), (Nat.le_of_ble_eq_true rfl)⟩ (Nat.le_of_ble_eq_true rfl) ?_
      refine j_if_le 154 dX6_quarter_147 (by decide) (fun b147 => ?_) (fun b147 => ?_)
      · refine j_iconst (nI 0) dX6_quarter_154 rfl ?_
        refine j_istore dX6_quarter_155 (Nat.le_of_ble_eq_true rfl) rfl ?_
        refine j_aload_n dX6_quarter_157 rfl rfl ?_
        refine j_getf dX6_quarter_158 6 0 rfl (Nat.le_of_ble_eq_true rfl) fl_X6_7 in_6 mH_o rfl ?_
        refine j_iload dX6_quarter_161 rfl ?_
        refine j_callS (m_pays (d := (qC d s i, sI d, sP d, qD d s i, sN d, sU d, sR d, sQ d, sH d, F)) mH_a0 hN hi) dX6_quarter_163 rfl ms_X6_181 ⟨(Nat.le_of_ble_eq_true rfl), (Nat.le_of_ble_eq_true rfl)⟩ ⟨(Nat.le_of_ble_eq_true rfl), (Nat.le_of_ble_eq_true rfl)⟩ (Nat.le_of_ble_eq_true rfl) ?_
        rw [mH_s0]
        refine j_if_ne 185 dX6_quarter_166 (by decide) (fun b166 => ?_) (fun b166 => ?_)
        · first | refine j_iincN dX6_quarter_185 rfl (Nat.le_of_ble_eq_true rfl) rfl ?_ | refine j_iinc _ dX6_quarter_185 rfl rfl (Nat.le_of_ble_eq_true rfl) rfl ?_
          refine j_goto 127 dX6_quarter_188 (by decide) ?_
          first
          | exact ih (i + 1) _ _ _ _ _ (by omega) (by omega) (yes ⟨Int32.not_le.mp b147, fun w => absurd (show qPd d s i = 0 from b166) (Int32.ne_of_lt w).symm⟩)
          | exact ih (i + 1) _ _ _ _ _ (by omega) (by omega) (no (fun w => absurd w.1 (Int32.not_lt.mpr b147)))
          | exact ih (i + 1) _ _ _ _ _ (by omega) (by omega) (no (fun w => b166 (Int32.le_antisymm (Int32.not_lt.mp w.2) (hpd i hi))))
        · refine j_iload dX6_quarter_169 rfl ?_
          refine j_if_eq 185 dX6_quarter_171 (by decide) (fun _ => ?_) (fun h => absurd rfl h)
          first | refine j_iincN dX6_quarter_185 rfl (Nat.le_of_ble_eq_true rfl) rfl ?_ | refine j_iinc _ dX6_quarter_185 rfl rfl (Nat.le_of_ble_eq_true rfl) rfl ?_
          refine j_goto 127 dX6_quarter_188 (by decide) ?_
          first
          | exact ih (i + 1) _ _ _ _ _ (by omega) (by omega) (yes ⟨Int32.not_le.mp b147, fun w => absurd (show qPd d s i = 0 from b166) (Int32.ne_of_lt w).symm⟩)
          | exact ih (i + 1) _ _ _ _ _ (by omega) (by omega) (no (fun w => absurd w.1 (Int32.not_lt.mpr b147)))
          | exact ih (i + 1) _ _ _ _ _ (by omega) (by omega) (no (fun w => b166 (Int32.le_antisymm (Int32.not_lt.mp w.2) (hpd i hi))))
      · refine j_iconst (nI 1) dX6_quarter_150 rfl ?_
        refine j_goto 155 dX6_quarter_151 (by decide) ?_
        refine j_istore dX6_quarter_155 (Nat.le_of_ble_eq_true rfl) rfl ?_
        refine j_aload_n dX6_quarter_157 rfl rfl ?_
        refine j_getf dX6_quarter_158 6 0 rfl (Nat.le_of_ble_eq_true rfl) fl_X6_7 in_6 mH_o rfl ?_
        refine j_iload dX6_quarter_161 rfl ?_
        refine j_callS (m_pays (d := (qC d s i, sI d, sP d, qD d s i, sN d, sU d, sR d, sQ d, sH d, F)) mH_a0 hN hi) dX6_quarter_163 rfl ms_X6_181 ⟨(Nat.le_of_ble_eq_true rfl), (Nat.le_of_ble_eq_true rfl)⟩ ⟨(Nat.le_of_ble_eq_true rfl), (Nat.le_of_ble_eq_true rfl)⟩ (Nat.le_of_ble_eq_true rfl) ?_
        rw [mH_s0]
        refine j_if_ne 185 dX6_quarter_166 (by decide) (fun b166 => ?_) (fun b166 => ?_)
        · first | refine j_iincN dX6_quarter_185 rfl (Nat.le_of_ble_eq_true rfl) rfl ?_ | refine j_iinc _ dX6_quarter_185 rfl rfl (Nat.le_of_ble_eq_true rfl) rfl ?_
          refine j_goto 127 dX6_quarter_188 (by decide) ?_
          first
          | exact ih (i + 1) _ _ _ _ _ (by omega) (by omega) (yes ⟨Int32.not_le.mp b147, fun w => absurd (show qPd d s i = 0 from b166) (Int32.ne_of_lt w).symm⟩)
          | exact ih (i + 1) _ _ _ _ _ (by omega) (by omega) (no (fun w => absurd w.1 (Int32.not_lt.mpr b147)))
          | exact ih (i + 1) _ _ _ _ _ (by omega) (by omega) (no (fun w => b166 (Int32.le_antisymm (Int32.not_lt.mp w.2) (hpd i hi))))
        · refine j_iload dX6_quarter_169 rfl ?_
          refine j_if_eq 185 dX6_quarter_171 (by decide) (fun h => absurd h (by decide)) (fun _ => ?_)
          refine j_aload_n dX6_quarter_174 rfl rfl ?_
          refine j_getf dX6_quarter_175 6 0 rfl (Nat.le_of_ble_eq_true rfl) fl_X6_7 in_6 mH_o rfl ?_
          refine j_bipush (nI 32) dX6_quarter_178 rfl ?_
          refine j_iload dX6_quarter_180 rfl ?_
          first | refine j_iaddN dX6_quarter_182 ?_ | refine j_iadd dX6_quarter_182 ?_
          refine j_iconst (nI 1) dX6_quarter_183 rfl ?_
          refine j_iast dX6_quarter_184 mH_a0 rfl (by omega) (by decide) _ (mH_t0 (enc_wF (d := stT (qC d s i, sI d, sP d, qD d s i, sN d, sU d, sR d, sQ d, sH d, F) i (sN d)) (y := orI F i) hN hi (by rw [bit_or _ (by omega) (by omega), if_pos rfl]) (fun q hq hne => by rw [bit_or _ hq (by omega), if_neg hne]; rfl))) ?_
          first | refine j_iincN dX6_quarter_185 rfl (Nat.le_of_ble_eq_true rfl) rfl ?_ | refine j_iinc _ dX6_quarter_185 rfl rfl (Nat.le_of_ble_eq_true rfl) rfl ?_
          refine j_goto 127 dX6_quarter_188 (by decide) ?_
          first
          | exact ih (i + 1) _ _ _ _ _ (by omega) (by omega) (yes ⟨Int32.not_le.mp b147, fun w => absurd (show qPd d s i = 0 from b166) (Int32.ne_of_lt w).symm⟩)
          | exact ih (i + 1) _ _ _ _ _ (by omega) (by omega) (no (fun w => absurd w.1 (Int32.not_lt.mpr b147)))
          | exact ih (i + 1) _ _ _ _ _ (by omega) (by omega) (no (fun w => b166 (Int32.le_antisymm (Int32.not_lt.mp w.2) (hpd i hi))))
    · obtain rfl : i = sN d := by omega
      have hF3 : ∀ q, q < sN d → ((q < 0 ∧ dsum (qD d s (sN d)) (sN d) q = 0) → bitI F (nI q) = nI 0) ∧ (¬ (q < 0 ∧ dsum (qD d s (sN d)) (sN d) q = 0) → (owP d s q → bitI F (nI q) = nI 1) ∧ (¬ owP d s q → bitI F (nI q) = bitI (sF d) (nI q))) :=
        fun q hq => ⟨fun w => absurd w.1 (by omega), fun _ => ⟨fun o => (hF q hq).1 ⟨hq, o⟩, fun o => (hF q hq).2 (fun w => o w.2)⟩⟩
      refine j_iload dX6_quarter_127 rfl ?_
      refine j_aload_n dX6_quarter_129 rfl rfl ?_
      refine j_getf dX6_quarter_130 6 0 rfl (Nat.le_of_ble_eq_true rfl) fl_X6_7 in_6 mH_o rfl ?_
      refine j_iconst (nI 2) dX6_quarter_133 rfl ?_
      refine j_iald dX6_quarter_134 mH_a0 (k := 2) rfl (by omega) (by decide) ?_
      refine j_top (nI (sN d)) rfl ?_
      refine j_icmp_geN 191 dX6_quarter_135 (by decide) (by omega) (by omega) (fun b135 => ?_) (fun b135 => by exfalso; omega)
      refine j_aload_n dX6_quarter_191 rfl rfl ?_
      refine j_getf dX6_quarter_192 6 0 rfl (Nat.le_of_ble_eq_true rfl) fl_X6_7 in_6 mH_o rfl ?_
      refine j_iconst (nI 3) dX6_quarter_195 rfl ?_
      refine j_dup2 dX6_quarter_196 rfl rfl ?_
      refine j_iald dX6_quarter_197 mH_a0 (k := 3) rfl (by omega) (by decide) ?_
      refine j_top (nI (sQ d)) rfl ?_
      refine j_iconst (nI 1) dX6_quarter_198 rfl ?_
      first | refine j_iaddN dX6_quarter_199 ?_ | refine j_iadd dX6_quarter_199 ?_
      refine j_iast dX6_quarter_200 mH_a0 rfl (by omega) (by decide) _ (mH_t0 (enc_wQ (d := (qC d s (sN d), sI d, sP d, qD d s (sN d), sN d, sU d, sR d, sQ d, sH d, F)))) ?_
      refine j_aload_n dX6_quarter_201 rfl rfl ?_
      refine j_getf dX6_quarter_202 6 0 rfl (Nat.le_of_ble_eq_true rfl) fl_X6_7 in_6 mH_o rfl ?_
      refine j_iconst (nI 3) dX6_quarter_205 rfl ?_
      refine j_iald dX6_quarter_206 mH_a0 (k := 3) rfl (by omega) (by decide) ?_
      refine j_top (nI (sQ d + 1)) rfl ?_
      refine j_bipush (nI 9) dX6_quarter_207 rfl ?_
      refine j_irem dX6_quarter_209 (by decide) ?_
      refine j_if_ne 217 dX6_quarter_210 (by decide) (fun b210 => ?_) (fun b210 => ?_)
      · refine j_iconst (nI 0) dX6_quarter_217 rfl ?_
        refine j_istore dX6_quarter_218 (Nat.le_of_ble_eq_true rfl) rfl ?_
        refine j_iconst (nI 0) dX6_quarter_220 rfl ?_
        refine j_istore dX6_quarter_221 (Nat.le_of_ble_eq_true rfl) rfl ?_
        first
        | exact m_quarter_3 hN s _ ⟨fun w => absurd w (by decide), fun _ => b210⟩ l2 (sN d + 1) 0 F _ _ _ (by omega) (by omega) hF3
        | exact m_quarter_3 hN s _ ⟨fun _ => b210, fun w => absurd rfl w⟩ l2 (sN d + 1) 0 F _ _ _ (by omega) (by omega) hF3
      · refine j_iconst (nI 1) dX6_quarter_213 rfl ?_
        refine j_goto 218 dX6_quarter_214 (by decide) ?_
        refine j_istore dX6_quarter_218 (Nat.le_of_ble_eq_true rfl) rfl ?_
        refine j_iconst (nI 0) dX6_quarter_220 rfl ?_
        refine j_istore dX6_quarter_221 (Nat.le_of_ble_eq_true rfl) rfl ?_
        first
        | exact m_quarter_3 hN s _ ⟨fun w => absurd w (by decide), fun _ => b210⟩ l2 (sN d + 1) 0 F _ _ _ (by omega) (by omega) hF3
        | exact m_quarter_3 hN s _ ⟨fun _ => b210, fun w => absurd rfl w⟩ l2 (sN d + 1) 0 F _ _ _ (by omega) (by omega) hF3
theorem m_quarter_1 (hN : sN d ≤ 7) (s : Int32) (h : sQ d < 999) (hinc : ∀ p, p < 7 → 0 ≤ sI d p ∧ ¬ (sI d p + nI 1).toInt64 = 0) (hpd : ∀ q, q < sN d → 0 ≤ qPd d s q) :
    ∀ (kk i : Nat) (o5 o6 o7 o8 : Option Value), i ≤ sN d → sN d < i + kk →
      J G RX6 cX6_quarter 9 (some .int) (TQ G 6 0 0 (some (.int (nI (sQ d + 1)))) z (mH σ (encT (quT d s)) a1 a2 a3 (remW kp a4 (encT d)) a5 a6 a7 a8 a9 a10 a11 (nI (min (kp + 1) 24)) i1 i2 i3 i4 i5 i6 i7 i8 i9 i10 i11)) z (mH σ (encT (incC s (sI d) (sC d) i, sI d, sP d, sD d, sN d, sU d, sR d, sQ d, sH d, sF d)) a1 a2 a3 (remW kp a4 (encT d)) a5 a6 a7 a8 a9 a10 a11 (nI (min (kp + 1) 24)) i1 i2 i3 i4 i5 i6 i7 i8 i9 i10 i11) 0 0 52 [some (.ref 171), some (.int s), some (.long (drawX s i)), none, some (.int (nI i)), o5, o6, o7, o8] [] := by
  intro kk
  induction kk with
  | zero => intro i o5 o6 o7 o8 h1 h2; exact absurd h2 (by omega)
  | succ kk ih =>
    intro i o5 o6 o7 o8 h1 h2
    by_cases hi : i < sN d
    · refine j_iload dX6_quarter_52 rfl ?_
      refine j_aload_n dX6_quarter_54 rfl rfl ?_
      refine j_getf dX6_quarter_55 6 0 rfl (Nat.le_of_ble_eq_true rfl) fl_X6_7 in_6 mH_o rfl ?_
      refine j_iconst (nI 2) dX6_quarter_58 rfl ?_
      refine j_iald dX6_quarter_59 mH_a0 (k := 2) rfl (by omega) (by decide) ?_
      refine j_top (nI (sN d)) rfl ?_
      refine j_icmp_geN 124 dX6_quarter_60 (by decide) (by omega) (by omega) (fun b60 => by exfalso; omega) (fun b60 => ?_)
      refine j_lload_n dX6_quarter_63 rfl rfl ?_
      refine j_ldc2 (16807) dX6_quarter_64 kl_X6_177 ?_
      refine j_lmul dX6_quarter_67 ?_
      refine j_ldc2 (2147483647) dX6_quarter_68 kl_X6_179 ?_
      refine j_lrem dX6_quarter_71 (by decide) ?_
      refine j_topl (drawX s (i + 1)) rfl ?_
      refine j_lstore_n dX6_quarter_72 rfl (Nat.le_of_ble_eq_true rfl) rfl ?_
      refine j_aload_n dX6_quarter_73 rfl rfl ?_
      refine j_getf dX6_quarter_74 6 0 rfl (Nat.le_of_ble_eq_true rfl) fl_X6_7 in_6 mH_o rfl ?_
      refine j_iconst (nI 4) dX6_quarter_77 rfl ?_
      refine j_iload dX6_quarter_78 rfl ?_
      first | refine j_iaddN dX6_quarter_80 ?_ | refine j_iadd dX6_quarter_80 ?_
      refine j_dup2 dX6_quarter_81 rfl rfl ?_
      refine j_iald dX6_quarter_82 mH_a0 rfl (by omega) (by decide) ?_
      refine j_top (incC s (sI d) (sC d) i i) (enc_c (d := (incC s (sI d) (sC d) i, sI d, sP d, sD d, sN d, sU d, sR d, sQ d, sH d, sF d)) hN hi) ?_
      refine j_iload_n dX6_quarter_83 rfl rfl ?_
      refine j_if_ne 100 dX6_quarter_84 (by decide) (fun b84 => ?_) (fun b84 => ?_)
      · refine j_lload_n dX6_quarter_100 rfl rfl ?_
        refine j_aload_n dX6_quarter_101 rfl rfl ?_
        refine j_getf dX6_quarter_102 6 0 rfl (Nat.le_of_ble_eq_true rfl) fl_X6_7 in_6 mH_o rfl ?_
        refine j_bipush (nI 11) dX6_quarter_105 rfl ?_
        refine j_iload dX6_quarter_107 rfl ?_
        first | refine j_iaddN dX6_quarter_109 ?_ | refine j_iadd dX6_quarter_109 ?_
        refine j_iald dX6_quarter_110 mH_a0 rfl (by omega) (by decide) ?_
        refine j_top (sI d i) (enc_i (d := (incC s (sI d) (sC d) i, sI d, sP d, sD d, sN d, sU d, sR d, sQ d, sH d, sF d)) hN hi) ?_
        refine j_iconst (nI 1) dX6_quarter_111 rfl ?_
        refine j_iadd dX6_quarter_112 ?_
        refine j_i2l dX6_quarter_113 ?_
        refine j_lrem dX6_quarter_114 (hinc i (by omega)).2 ?_
        refine j_l2i dX6_quarter_115 ?_
        refine j_top (if s = 0 then sI d i else drawnI (drawX s (i + 1)) (sI d i)) (by first | rw [if_pos b84] | (rw [if_neg b84]; rfl) | done) ?_
        refine j_iadd dX6_quarter_116 ?_
        refine j_iast dX6_quarter_117 mH_a0 rfl (by omega) (by decide) _ (mH_t0 (enc_wC (d := (incC s (sI d) (sC d) i, sI d, sP d, sD d, sN d, sU d, sR d, sQ d, sH d, sF d)) hN hi)) ?_
        first | refine j_iincN dX6_quarter_118 rfl (Nat.le_of_ble_eq_true rfl) rfl ?_ | refine j_iinc _ dX6_quarter_118 rfl rfl (Nat.le_of_ble_eq_true rfl) rfl ?_
        refine j_goto 52 dX6_quarter_121 (by decide) ?_
        exact ih (i + 1) _ _ _ _ (by omega) (by omega)
      · refine j_aload_n dX6_quarter_87 rfl rfl ?_
        refine j_getf dX6_quarter_88 6 0 rfl (Nat.le_of_ble_eq_true rfl) fl_X6_7 in_6 mH_o rfl ?_
        refine j_bipush (nI 11) dX6_quarter_91 rfl ?_
        refine j_iload dX6_quarter_93 rfl ?_
        first | refine j_iaddN dX6_quarter_95 ?_ | refine j_iadd dX6_quarter_95 ?_
        refine j_iald dX6_quarter_96 mH_a0 rfl (by omega) (by decide) ?_
        refine j_top (sI d i) (enc_i (d := (incC s (sI d) (sC d) i, sI d, sP d, sD d, sN d, sU d, sR d, sQ d, sH d, sF d)) hN hi) ?_
        refine j_goto 116 dX6_quarter_97 (by decide) ?_
        refine j_top (if s = 0 then sI d i else drawnI (drawX s (i + 1)) (sI d i)) (by first | rw [if_pos b84] | (rw [if_neg b84]; rfl) | done) ?_
        refine j_iadd dX6_quarter_116 ?_
        refine j_iast dX6_quarter_117 mH_a0 rfl (by omega) (by decide) _ (mH_t0 (enc_wC (d := (incC s (sI d) (sC d) i, sI d, sP d, sD d, sN d, sU d, sR d, sQ d, sH d, sF d)) hN hi)) ?_
        first | refine j_iincN dX6_quarter_118 rfl (Nat.le_of_ble_eq_true rfl) rfl ?_ | refine j_iinc _ dX6_quarter_118 rfl rfl (Nat.le_of_ble_eq_true rfl) rfl ?_
        refine j_goto 52 dX6_quarter_121 (by decide) ?_
        exact ih (i + 1) _ _ _ _ (by omega) (by omega)
    · obtain rfl : i = sN d := by omega
      refine j_iload dX6_quarter_52 rfl ?_
      refine j_aload_n dX6_quarter_54 rfl rfl ?_
      refine j_getf dX6_quarter_55 6 0 rfl (Nat.le_of_ble_eq_true rfl) fl_X6_7 in_6 mH_o rfl ?_
      refine j_iconst (nI 2) dX6_quarter_58 rfl ?_
      refine j_iald dX6_quarter_59 mH_a0 (k := 2) rfl (by omega) (by decide) ?_
      refine j_top (nI (sN d)) rfl ?_
      refine j_icmp_geN 124 dX6_quarter_60 (by decide) (by omega) (by omega) (fun b60 => ?_) (fun b60 => by exfalso; omega)
      refine j_iconst (nI 0) dX6_quarter_124 rfl ?_
      refine j_istore dX6_quarter_125 (Nat.le_of_ble_eq_true rfl) rfl ?_
      exact m_quarter_2 hN s h hpd _ (sN d + 1) 0 (sF d) _ _ _ _ (by omega) (by omega) (fun q hq => ⟨fun w => absurd w.1 (by omega), fun _ => rfl⟩)
theorem m_quarter_ok (hN : sN d ≤ 7) (hu : 1 ≤ sU d) (hu2 : sU d ≤ 20) (s : Int32) (h1 : ¬ s < 0) (h2 : s ≤ 999999) (h : sQ d < 999) (hkp : kp ≤ 24) (hinc : ∀ p, p < 7 → 0 ≤ sI d p ∧ ¬ (sI d p + nI 1).toInt64 = 0) (hpd : ∀ q, q < sN d → 0 ≤ qPd d s q) : Ct G yX6_quarter cX6_quarter 9 (some .int) 6 0 0 z (mH σ (encT d) a1 a2 a3 a4 a5 a6 a7 a8 a9 a10 a11 (nI kp) i1 i2 i3 i4 i5 i6 i7 i8 i9 i10 i11) [.ref 171, .int s] (some (.int (nI (sQ d + 1)))) z (mH σ (encT (quT d s)) a1 a2 a3 (remW kp a4 (encT d)) a5 a6 a7 a8 a9 a10 a11 (nI (min (kp + 1) 24)) i1 i2 i3 i4 i5 i6 i7 i8 i9 i10 i11) := by
  refine Ct.ofJ RX6 rfl [some (.ref 171), some (.int s), none, none, none, none, none, none, none] rfl (by decide) (by simp [Value.category]) ?_
  refine j_aload_n dX6_quarter_0 rfl rfl ?_
  refine j_getf dX6_quarter_1 6 0 rfl (Nat.le_of_ble_eq_true rfl) fl_X6_7 in_6 mH_o rfl ?_
  refine j_iconst (nI 0) dX6_quarter_4 rfl ?_
  refine j_iald dX6_quarter_5 mH_a0 (k := 0) rfl (by omega) (by decide) ?_
  refine j_top (nI (sU d)) rfl ?_
  refine j_if_ne 12 dX6_quarter_6 (by decide) (fun b6 => ?_) (fun b6 => by exact absurd b6 (nI_ne0 hu (by omega)))
  refine j_iload_n dX6_quarter_12 rfl rfl ?_
  refine j_i2l dX6_quarter_13 ?_
  refine j_lconst (0) dX6_quarter_14 rfl ?_
  refine j_ldc2 (999999) dX6_quarter_15 kl_X6_175 ?_
  refine j_callS (m_in3 s (nI 0) 999999 rfl rfl) dX6_quarter_18 rfl ms_X6_54 ⟨(Nat.le_of_ble_eq_true rfl), (Nat.le_of_ble_eq_true rfl)⟩ ⟨(Nat.le_of_ble_eq_true rfl), (Nat.le_of_ble_eq_true rfl)⟩ (Nat.le_of_ble_eq_true rfl) ?_
  refine j_top (nI 1) (inI_yes h1 h2) ?_
  refine j_if_ne 27 dX6_quarter_21 (by decide) (fun _ => ?_) (fun h => absurd h (by decide))
  refine j_aload_n dX6_quarter_27 rfl rfl ?_
  refine j_getf dX6_quarter_28 6 0 rfl (Nat.le_of_ble_eq_true rfl) fl_X6_7 in_6 mH_o rfl ?_
  refine j_iconst (nI 3) dX6_quarter_31 rfl ?_
  refine j_iald dX6_quarter_32 mH_a0 (k := 3) rfl (by omega) (by decide) ?_
  refine j_top (nI (sQ d)) rfl ?_
  refine j_sipush (nI 999) dX6_quarter_33 rfl ?_
  refine j_icmp_neN 42 dX6_quarter_36 (by decide) (by omega) (by omega) (fun b36 => ?_) (fun b36 => by exfalso; omega)
  refine j_aload_n dX6_quarter_42 rfl rfl ?_
  refine j_callV (m_remembers hkp) dX6_quarter_43 rfl mv_X6_165 mH_o rfl ⟨(Nat.le_of_ble_eq_true rfl), (Nat.le_of_ble_eq_true rfl)⟩ ⟨(Nat.le_of_ble_eq_true rfl), (Nat.le_of_ble_eq_true rfl)⟩ (Nat.le_of_ble_eq_true rfl) ?_
  refine j_iload_n dX6_quarter_46 rfl rfl ?_
  refine j_i2l dX6_quarter_47 ?_
  refine j_lstore_n dX6_quarter_48 rfl (Nat.le_of_ble_eq_true rfl) rfl ?_
  refine j_iconst (nI 0) dX6_quarter_49 rfl ?_
  refine j_istore dX6_quarter_50 (Nat.le_of_ble_eq_true rfl) rfl ?_
  exact m_quarter_1 hN s h hinc hpd (sN d + 1) 0 _ _ _ _ (by omega) (by omega)
end MQ
