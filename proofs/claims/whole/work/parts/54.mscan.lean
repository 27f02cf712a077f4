/-! THE MODEL: its reader: tokens -/
theorem dX6_isAt_0 : decode cX6_isAt 0 = .ok (.aload_n 0, 1) := by decide +kernel
theorem dX6_isAt_1 : decode cX6_isAt 1 = .ok (.getfield 80, 3) := by decide +kernel
theorem dX6_isAt_4 : decode cX6_isAt 4 = .ok (.aload_n 0, 1) := by decide +kernel
theorem dX6_isAt_5 : decode cX6_isAt 5 = .ok (.getfield 74, 3) := by decide +kernel
theorem dX6_isAt_8 : decode cX6_isAt 8 = .ok (.if_icmp .ge 27, 3) := by decide +kernel
theorem dX6_isAt_11 : decode cX6_isAt 11 = .ok (.aload_n 0, 1) := by decide +kernel
theorem dX6_isAt_12 : decode cX6_isAt 12 = .ok (.getfield 35, 3) := by decide +kernel
theorem dX6_isAt_15 : decode cX6_isAt 15 = .ok (.aload_n 0, 1) := by decide +kernel
theorem dX6_isAt_16 : decode cX6_isAt 16 = .ok (.getfield 80, 3) := by decide +kernel
theorem dX6_isAt_19 : decode cX6_isAt 19 = .ok (.iaload, 1) := by decide +kernel
theorem dX6_isAt_20 : decode cX6_isAt 20 = .ok (.i2l, 1) := by decide +kernel
theorem dX6_isAt_21 : decode cX6_isAt 21 = .ok (.iload_n 1, 1) := by decide +kernel
theorem dX6_isAt_22 : decode cX6_isAt 22 = .ok (.i2l, 1) := by decide +kernel
theorem dX6_isAt_23 : decode cX6_isAt 23 = .ok (.iload_n 2, 1) := by decide +kernel
theorem dX6_isAt_24 : decode cX6_isAt 24 = .ok (.i2l, 1) := by decide +kernel
theorem dX6_isAt_25 : decode cX6_isAt 25 = .ok (.invokestatic 54, 3) := by decide +kernel
theorem dX6_isAt_28 : decode cX6_isAt 28 = .ok (.ifCond .eq 7, 3) := by decide +kernel
theorem dX6_isAt_31 : decode cX6_isAt 31 = .ok (.iconst 1, 1) := by decide +kernel
theorem dX6_isAt_32 : decode cX6_isAt 32 = .ok (.goto 4, 3) := by decide +kernel
theorem dX6_isAt_35 : decode cX6_isAt 35 = .ok (.iconst 0, 1) := by decide +kernel
theorem dX6_isAt_36 : decode cX6_isAt 36 = .ok (.ireturn, 1) := by decide +kernel
theorem dX6_scans_0 : decode cX6_scans 0 = .ok (.aload_n 0, 1) := by decide +kernel
theorem dX6_scans_1 : decode cX6_scans 1 = .ok (.bipush 32, 2) := by decide +kernel
theorem dX6_scans_3 : decode cX6_scans 3 = .ok (.bipush 32, 2) := by decide +kernel
theorem dX6_scans_5 : decode cX6_scans 5 = .ok (.invokevirtual 83, 3) := by decide +kernel
theorem dX6_scans_8 : decode cX6_scans 8 = .ok (.ifCond .ne 14, 3) := by decide +kernel
theorem dX6_scans_11 : decode cX6_scans 11 = .ok (.aload_n 0, 1) := by decide +kernel
theorem dX6_scans_12 : decode cX6_scans 12 = .ok (.bipush 10, 2) := by decide +kernel
theorem dX6_scans_14 : decode cX6_scans 14 = .ok (.bipush 10, 2) := by decide +kernel
theorem dX6_scans_16 : decode cX6_scans 16 = .ok (.invokevirtual 83, 3) := by decide +kernel
theorem dX6_scans_19 : decode cX6_scans 19 = .ok (.ifCond .eq 16, 3) := by decide +kernel
theorem dX6_scans_22 : decode cX6_scans 22 = .ok (.aload_n 0, 1) := by decide +kernel
theorem dX6_scans_23 : decode cX6_scans 23 = .ok (.dup, 1) := by decide +kernel
theorem dX6_scans_24 : decode cX6_scans 24 = .ok (.getfield 80, 3) := by decide +kernel
theorem dX6_scans_27 : decode cX6_scans 27 = .ok (.iconst 1, 1) := by decide +kernel
theorem dX6_scans_28 : decode cX6_scans 28 = .ok (.iadd, 1) := by decide +kernel
theorem dX6_scans_29 : decode cX6_scans 29 = .ok (.putfield 80, 3) := by decide +kernel
theorem dX6_scans_32 : decode cX6_scans 32 = .ok (.goto (-32), 3) := by decide +kernel
theorem dX6_scans_35 : decode cX6_scans 35 = .ok (.aload_n 0, 1) := by decide +kernel
theorem dX6_scans_36 : decode cX6_scans 36 = .ok (.aload_n 0, 1) := by decide +kernel
theorem dX6_scans_37 : decode cX6_scans 37 = .ok (.getfield 80, 3) := by decide +kernel
theorem dX6_scans_40 : decode cX6_scans 40 = .ok (.putfield 87, 3) := by decide +kernel
theorem dX6_scans_43 : decode cX6_scans 43 = .ok (.aload_n 0, 1) := by decide +kernel
theorem dX6_scans_44 : decode cX6_scans 44 = .ok (.getfield 80, 3) := by decide +kernel
theorem dX6_scans_47 : decode cX6_scans 47 = .ok (.aload_n 0, 1) := by decide +kernel
theorem dX6_scans_48 : decode cX6_scans 48 = .ok (.getfield 74, 3) := by decide +kernel
theorem dX6_scans_51 : decode cX6_scans 51 = .ok (.if_icmp .ne 9, 3) := by decide +kernel
theorem dX6_scans_54 : decode cX6_scans 54 = .ok (.aload_n 0, 1) := by decide +kernel
theorem dX6_scans_55 : decode cX6_scans 55 = .ok (.iconst 0, 1) := by decide +kernel
theorem dX6_scans_56 : decode cX6_scans 56 = .ok (.putfield 90, 3) := by decide +kernel
theorem dX6_scans_59 : decode cX6_scans 59 = .ok (.return_, 1) := by decide +kernel
theorem dX6_scans_60 : decode cX6_scans 60 = .ok (.aload_n 0, 1) := by decide +kernel
theorem dX6_scans_61 : decode cX6_scans 61 = .ok (.bipush 97, 2) := by decide +kernel
theorem dX6_scans_63 : decode cX6_scans 63 = .ok (.bipush 122, 2) := by decide +kernel
theorem dX6_scans_65 : decode cX6_scans 65 = .ok (.invokevirtual 83, 3) := by decide +kernel
theorem dX6_scans_68 : decode cX6_scans 68 = .ok (.ifCond .eq 157, 3) := by decide +kernel
theorem dX6_scans_71 : decode cX6_scans 71 = .ok (.lconst 0, 1) := by decide +kernel
theorem dX6_scans_72 : decode cX6_scans 72 = .ok (.lstore_n 1, 1) := by decide +kernel
theorem dX6_scans_73 : decode cX6_scans 73 = .ok (.aload_n 0, 1) := by decide +kernel
theorem dX6_scans_74 : decode cX6_scans 74 = .ok (.bipush 97, 2) := by decide +kernel
theorem dX6_scans_76 : decode cX6_scans 76 = .ok (.bipush 122, 2) := by decide +kernel
theorem dX6_scans_78 : decode cX6_scans 78 = .ok (.invokevirtual 83, 3) := by decide +kernel
theorem dX6_scans_81 : decode cX6_scans 81 = .ok (.ifCond .eq 57, 3) := by decide +kernel
theorem dX6_scans_84 : decode cX6_scans 84 = .ok (.aload_n 0, 1) := by decide +kernel
theorem dX6_scans_85 : decode cX6_scans 85 = .ok (.getfield 80, 3) := by decide +kernel
theorem dX6_scans_88 : decode cX6_scans 88 = .ok (.aload_n 0, 1) := by decide +kernel
theorem dX6_scans_89 : decode cX6_scans 89 = .ok (.getfield 87, 3) := by decide +kernel
theorem dX6_scans_92 : decode cX6_scans 92 = .ok (.isub, 1) := by decide +kernel
theorem dX6_scans_93 : decode cX6_scans 93 = .ok (.bipush 7, 2) := by decide +kernel
theorem dX6_scans_95 : decode cX6_scans 95 = .ok (.if_icmp .le 7, 3) := by decide +kernel
theorem dX6_scans_98 : decode cX6_scans 98 = .ok (.lconst 0, 1) := by decide +kernel
theorem dX6_scans_99 : decode cX6_scans 99 = .ok (.goto 25, 3) := by decide +kernel
theorem dX6_scans_102 : decode cX6_scans 102 = .ok (.ldc2_w 93, 3) := by decide +kernel
theorem dX6_scans_105 : decode cX6_scans 105 = .ok (.lload_n 1, 1) := by decide +kernel
theorem dX6_scans_106 : decode cX6_scans 106 = .ok (.lmul, 1) := by decide +kernel
theorem dX6_scans_107 : decode cX6_scans 107 = .ok (.aload_n 0, 1) := by decide +kernel
theorem dX6_scans_108 : decode cX6_scans 108 = .ok (.getfield 35, 3) := by decide +kernel
theorem dX6_scans_111 : decode cX6_scans 111 = .ok (.aload_n 0, 1) := by decide +kernel
theorem dX6_scans_112 : decode cX6_scans 112 = .ok (.getfield 80, 3) := by decide +kernel
theorem dX6_scans_115 : decode cX6_scans 115 = .ok (.iaload, 1) := by decide +kernel
theorem dX6_scans_116 : decode cX6_scans 116 = .ok (.i2l, 1) := by decide +kernel
theorem dX6_scans_117 : decode cX6_scans 117 = .ok (.ladd, 1) := by decide +kernel
theorem dX6_scans_118 : decode cX6_scans 118 = .ok (.ldc2_w 95, 3) := by decide +kernel
theorem dX6_scans_121 : decode cX6_scans 121 = .ok (.lsub, 1) := by decide +kernel
theorem dX6_scans_122 : decode cX6_scans 122 = .ok (.lconst 1, 1) := by decide +kernel
theorem dX6_scans_123 : decode cX6_scans 123 = .ok (.ladd, 1) := by decide +kernel
theorem dX6_scans_124 : decode cX6_scans 124 = .ok (.lstore_n 1, 1) := by decide +kernel
theorem dX6_scans_125 : decode cX6_scans 125 = .ok (.aload_n 0, 1) := by decide +kernel
theorem dX6_scans_126 : decode cX6_scans 126 = .ok (.dup, 1) := by decide +kernel
theorem dX6_scans_127 : decode cX6_scans 127 = .ok (.getfield 80, 3) := by decide +kernel
theorem dX6_scans_130 : decode cX6_scans 130 = .ok (.iconst 1, 1) := by decide +kernel
theorem dX6_scans_131 : decode cX6_scans 131 = .ok (.iadd, 1) := by decide +kernel
theorem dX6_scans_132 : decode cX6_scans 132 = .ok (.putfield 80, 3) := by decide +kernel
theorem dX6_scans_135 : decode cX6_scans 135 = .ok (.goto (-62), 3) := by decide +kernel
theorem dX6_scans_138 : decode cX6_scans 138 = .ok (.aload_n 0, 1) := by decide +kernel
theorem dX6_scans_139 : decode cX6_scans 139 = .ok (.aload_n 0, 1) := by decide +kernel
theorem dX6_scans_140 : decode cX6_scans 140 = .ok (.getfield 80, 3) := by decide +kernel
theorem dX6_scans_143 : decode cX6_scans 143 = .ok (.aload_n 0, 1) := by decide +kernel
theorem dX6_scans_144 : decode cX6_scans 144 = .ok (.getfield 87, 3) := by decide +kernel
theorem dX6_scans_147 : decode cX6_scans 147 = .ok (.isub, 1) := by decide +kernel
theorem dX6_scans_148 : decode cX6_scans 148 = .ok (.bipush 7, 2) := by decide +kernel
theorem dX6_scans_150 : decode cX6_scans 150 = .ok (.if_icmp .le 7, 3) := by decide +kernel
theorem dX6_scans_153 : decode cX6_scans 153 = .ok (.iconst 1, 1) := by decide +kernel
theorem dX6_scans_154 : decode cX6_scans 154 = .ok (.goto 67, 3) := by decide +kernel
theorem dX6_scans_157 : decode cX6_scans 157 = .ok (.lload_n 1, 1) := by decide +kernel
theorem dX6_scans_158 : decode cX6_scans 158 = .ok (.ldc2_w 97, 3) := by decide +kernel
theorem dX6_scans_161 : decode cX6_scans 161 = .ok (.lcmp, 1) := by decide +kernel
theorem dX6_scans_162 : decode cX6_scans 162 = .ok (.ifCond .ne 7, 3) := by decide +kernel
theorem dX6_scans_165 : decode cX6_scans 165 = .ok (.iconst 4, 1) := by decide +kernel
theorem dX6_scans_166 : decode cX6_scans 166 = .ok (.goto 55, 3) := by decide +kernel
theorem dX6_scans_169 : decode cX6_scans 169 = .ok (.lload_n 1, 1) := by decide +kernel
theorem dX6_scans_170 : decode cX6_scans 170 = .ok (.ldc2_w 99, 3) := by decide +kernel
theorem dX6_scans_173 : decode cX6_scans 173 = .ok (.lcmp, 1) := by decide +kernel
theorem dX6_scans_174 : decode cX6_scans 174 = .ok (.ifCond .ne 7, 3) := by decide +kernel
theorem dX6_scans_177 : decode cX6_scans 177 = .ok (.iconst 5, 1) := by decide +kernel
theorem dX6_scans_178 : decode cX6_scans 178 = .ok (.goto 43, 3) := by decide +kernel
theorem dX6_scans_181 : decode cX6_scans 181 = .ok (.lload_n 1, 1) := by decide +kernel
theorem dX6_scans_182 : decode cX6_scans 182 = .ok (.ldc2_w 101, 3) := by decide +kernel
theorem dX6_scans_185 : decode cX6_scans 185 = .ok (.lcmp, 1) := by decide +kernel
theorem dX6_scans_186 : decode cX6_scans 186 = .ok (.ifCond .ne 8, 3) := by decide +kernel
theorem dX6_scans_189 : decode cX6_scans 189 = .ok (.bipush 6, 2) := by decide +kernel
theorem dX6_scans_191 : decode cX6_scans 191 = .ok (.goto 30, 3) := by decide +kernel
theorem dX6_scans_194 : decode cX6_scans 194 = .ok (.lload_n 1, 1) := by decide +kernel
theorem dX6_scans_195 : decode cX6_scans 195 = .ok (.ldc2_w 103, 3) := by decide +kernel
theorem dX6_scans_198 : decode cX6_scans 198 = .ok (.lcmp, 1) := by decide +kernel
theorem dX6_scans_199 : decode cX6_scans 199 = .ok (.ifCond .ne 8, 3) := by decide +kernel
theorem dX6_scans_202 : decode cX6_scans 202 = .ok (.bipush 7, 2) := by decide +kernel
theorem dX6_scans_204 : decode cX6_scans 204 = .ok (.goto 17, 3) := by decide +kernel
theorem dX6_scans_207 : decode cX6_scans 207 = .ok (.lload_n 1, 1) := by decide +kernel
theorem dX6_scans_208 : decode cX6_scans 208 = .ok (.ldc2_w 105, 3) := by decide +kernel
theorem dX6_scans_211 : decode cX6_scans 211 = .ok (.lcmp, 1) := by decide +kernel
theorem dX6_scans_212 : decode cX6_scans 212 = .ok (.ifCond .ne 8, 3) := by decide +kernel
theorem dX6_scans_215 : decode cX6_scans 215 = .ok (.bipush 8, 2) := by decide +kernel
theorem dX6_scans_217 : decode cX6_scans 217 = .ok (.goto 4, 3) := by decide +kernel
theorem dX6_scans_220 : decode cX6_scans 220 = .ok (.iconst 1, 1) := by decide +kernel
theorem dX6_scans_221 : decode cX6_scans 221 = .ok (.putfield 90, 3) := by decide +kernel
theorem dX6_scans_224 : decode cX6_scans 224 = .ok (.return_, 1) := by decide +kernel
theorem dX6_scans_225 : decode cX6_scans 225 = .ok (.aload_n 0, 1) := by decide +kernel
theorem dX6_scans_226 : decode cX6_scans 226 = .ok (.bipush 48, 2) := by decide +kernel
theorem dX6_scans_228 : decode cX6_scans 228 = .ok (.bipush 57, 2) := by decide +kernel
theorem dX6_scans_230 : decode cX6_scans 230 = .ok (.invokevirtual 83, 3) := by decide +kernel
theorem dX6_scans_233 : decode cX6_scans 233 = .ok (.ifCond .eq 99, 3) := by decide +kernel
theorem dX6_scans_236 : decode cX6_scans 236 = .ok (.aload_n 0, 1) := by decide +kernel
theorem dX6_scans_237 : decode cX6_scans 237 = .ok (.iconst 0, 1) := by decide +kernel
theorem dX6_scans_238 : decode cX6_scans 238 = .ok (.putfield 107, 3) := by decide +kernel
theorem dX6_scans_241 : decode cX6_scans 241 = .ok (.aload_n 0, 1) := by decide +kernel
theorem dX6_scans_242 : decode cX6_scans 242 = .ok (.bipush 48, 2) := by decide +kernel
theorem dX6_scans_244 : decode cX6_scans 244 = .ok (.bipush 57, 2) := by decide +kernel
theorem dX6_scans_246 : decode cX6_scans 246 = .ok (.invokevirtual 83, 3) := by decide +kernel
theorem dX6_scans_249 : decode cX6_scans 249 = .ok (.ifCond .eq 60, 3) := by decide +kernel
theorem dX6_scans_252 : decode cX6_scans 252 = .ok (.aload_n 0, 1) := by decide +kernel
theorem dX6_scans_253 : decode cX6_scans 253 = .ok (.aload_n 0, 1) := by decide +kernel
theorem dX6_scans_254 : decode cX6_scans 254 = .ok (.getfield 80, 3) := by decide +kernel
theorem dX6_scans_257 : decode cX6_scans 257 = .ok (.aload_n 0, 1) := by decide +kernel
theorem dX6_scans_258 : decode cX6_scans 258 = .ok (.getfield 87, 3) := by decide +kernel
theorem dX6_scans_261 : decode cX6_scans 261 = .ok (.isub, 1) := by decide +kernel
theorem dX6_scans_262 : decode cX6_scans 262 = .ok (.iconst 3, 1) := by decide +kernel
theorem dX6_scans_263 : decode cX6_scans 263 = .ok (.if_icmp .ge 26, 3) := by decide +kernel
theorem dX6_scans_266 : decode cX6_scans 266 = .ok (.bipush 10, 2) := by decide +kernel
theorem dX6_scans_268 : decode cX6_scans 268 = .ok (.aload_n 0, 1) := by decide +kernel
theorem dX6_scans_269 : decode cX6_scans 269 = .ok (.getfield 107, 3) := by decide +kernel
theorem dX6_scans_272 : decode cX6_scans 272 = .ok (.imul, 1) := by decide +kernel
theorem dX6_scans_273 : decode cX6_scans 273 = .ok (.aload_n 0, 1) := by decide +kernel
theorem dX6_scans_274 : decode cX6_scans 274 = .ok (.getfield 35, 3) := by decide +kernel
theorem dX6_scans_277 : decode cX6_scans 277 = .ok (.aload_n 0, 1) := by decide +kernel
theorem dX6_scans_278 : decode cX6_scans 278 = .ok (.getfield 80, 3) := by decide +kernel
theorem dX6_scans_281 : decode cX6_scans 281 = .ok (.iaload, 1) := by decide +kernel
theorem dX6_scans_282 : decode cX6_scans 282 = .ok (.iadd, 1) := by decide +kernel
theorem dX6_scans_283 : decode cX6_scans 283 = .ok (.bipush 48, 2) := by decide +kernel
theorem dX6_scans_285 : decode cX6_scans 285 = .ok (.isub, 1) := by decide +kernel
theorem dX6_scans_286 : decode cX6_scans 286 = .ok (.goto 7, 3) := by decide +kernel
theorem dX6_scans_289 : decode cX6_scans 289 = .ok (.aload_n 0, 1) := by decide +kernel
theorem dX6_scans_290 : decode cX6_scans 290 = .ok (.getfield 107, 3) := by decide +kernel
theorem dX6_scans_293 : decode cX6_scans 293 = .ok (.putfield 107, 3) := by decide +kernel
theorem dX6_scans_296 : decode cX6_scans 296 = .ok (.aload_n 0, 1) := by decide +kernel
theorem dX6_scans_297 : decode cX6_scans 297 = .ok (.dup, 1) := by decide +kernel
theorem dX6_scans_298 : decode cX6_scans 298 = .ok (.getfield 80, 3) := by decide +kernel
theorem dX6_scans_301 : decode cX6_scans 301 = .ok (.iconst 1, 1) := by decide +kernel
theorem dX6_scans_302 : decode cX6_scans 302 = .ok (.iadd, 1) := by decide +kernel
theorem dX6_scans_303 : decode cX6_scans 303 = .ok (.putfield 80, 3) := by decide +kernel
theorem dX6_scans_306 : decode cX6_scans 306 = .ok (.goto (-65), 3) := by decide +kernel
theorem dX6_scans_309 : decode cX6_scans 309 = .ok (.aload_n 0, 1) := by decide +kernel
theorem dX6_scans_310 : decode cX6_scans 310 = .ok (.aload_n 0, 1) := by decide +kernel
theorem dX6_scans_311 : decode cX6_scans 311 = .ok (.getfield 80, 3) := by decide +kernel
theorem dX6_scans_314 : decode cX6_scans 314 = .ok (.aload_n 0, 1) := by decide +kernel
theorem dX6_scans_315 : decode cX6_scans 315 = .ok (.getfield 87, 3) := by decide +kernel
theorem dX6_scans_318 : decode cX6_scans 318 = .ok (.isub, 1) := by decide +kernel
theorem dX6_scans_319 : decode cX6_scans 319 = .ok (.iconst 3, 1) := by decide +kernel
theorem dX6_scans_320 : decode cX6_scans 320 = .ok (.if_icmp .le 7, 3) := by decide +kernel
theorem dX6_scans_323 : decode cX6_scans 323 = .ok (.iconst 1, 1) := by decide +kernel
theorem dX6_scans_324 : decode cX6_scans 324 = .ok (.goto 4, 3) := by decide +kernel
theorem dX6_scans_327 : decode cX6_scans 327 = .ok (.iconst 2, 1) := by decide +kernel
theorem dX6_scans_328 : decode cX6_scans 328 = .ok (.putfield 90, 3) := by decide +kernel
theorem dX6_scans_331 : decode cX6_scans 331 = .ok (.return_, 1) := by decide +kernel
theorem dX6_scans_332 : decode cX6_scans 332 = .ok (.aload_n 0, 1) := by decide +kernel
theorem dX6_scans_333 : decode cX6_scans 333 = .ok (.aload_n 0, 1) := by decide +kernel
theorem dX6_scans_334 : decode cX6_scans 334 = .ok (.bipush 59, 2) := by decide +kernel
theorem dX6_scans_336 : decode cX6_scans 336 = .ok (.bipush 59, 2) := by decide +kernel
theorem dX6_scans_338 : decode cX6_scans 338 = .ok (.invokevirtual 83, 3) := by decide +kernel
theorem dX6_scans_341 : decode cX6_scans 341 = .ok (.ifCond .eq 7, 3) := by decide +kernel
theorem dX6_scans_344 : decode cX6_scans 344 = .ok (.iconst 3, 1) := by decide +kernel
theorem dX6_scans_345 : decode cX6_scans 345 = .ok (.goto 4, 3) := by decide +kernel
theorem dX6_scans_348 : decode cX6_scans 348 = .ok (.iconst 1, 1) := by decide +kernel
theorem dX6_scans_349 : decode cX6_scans 349 = .ok (.putfield 90, 3) := by decide +kernel
theorem dX6_scans_352 : decode cX6_scans 352 = .ok (.aload_n 0, 1) := by decide +kernel
theorem dX6_scans_353 : decode cX6_scans 353 = .ok (.dup, 1) := by decide +kernel
theorem dX6_scans_354 : decode cX6_scans 354 = .ok (.getfield 80, 3) := by decide +kernel
theorem dX6_scans_357 : decode cX6_scans 357 = .ok (.iconst 1, 1) := by decide +kernel
theorem dX6_scans_358 : decode cX6_scans 358 = .ok (.iadd, 1) := by decide +kernel
theorem dX6_scans_359 : decode cX6_scans 359 = .ok (.putfield 80, 3) := by decide +kernel
theorem dX6_scans_362 : decode cX6_scans 362 = .ok (.return_, 1) := by decide +kernel
theorem dX6_faults_0 : decode cX6_faults 0 = .ok (.aload_n 0, 1) := by decide +kernel
theorem dX6_faults_1 : decode cX6_faults 1 = .ok (.iload_n 1, 1) := by decide +kernel
theorem dX6_faults_2 : decode cX6_faults 2 = .ok (.putfield 110, 3) := by decide +kernel
theorem dX6_faults_5 : decode cX6_faults 5 = .ok (.iconst 0, 1) := by decide +kernel
theorem dX6_faults_6 : decode cX6_faults 6 = .ok (.ireturn, 1) := by decide +kernel
theorem dX6_takes_0 : decode cX6_takes 0 = .ok (.aload_n 0, 1) := by decide +kernel
theorem dX6_takes_1 : decode cX6_takes 1 = .ok (.getfield 90, 3) := by decide +kernel
theorem dX6_takes_4 : decode cX6_takes 4 = .ok (.iconst 2, 1) := by decide +kernel
theorem dX6_takes_5 : decode cX6_takes 5 = .ok (.if_icmp .eq 9, 3) := by decide +kernel
theorem dX6_takes_8 : decode cX6_takes 8 = .ok (.aload_n 0, 1) := by decide +kernel
theorem dX6_takes_9 : decode cX6_takes 9 = .ok (.iconst 1, 1) := by decide +kernel
theorem dX6_takes_10 : decode cX6_takes 10 = .ok (.invokevirtual 113, 3) := by decide +kernel
theorem dX6_takes_13 : decode cX6_takes 13 = .ok (.ireturn, 1) := by decide +kernel
theorem dX6_takes_14 : decode cX6_takes 14 = .ok (.aload_n 0, 1) := by decide +kernel
theorem dX6_takes_15 : decode cX6_takes 15 = .ok (.getfield 107, 3) := by decide +kernel
theorem dX6_takes_18 : decode cX6_takes 18 = .ok (.i2l, 1) := by decide +kernel
theorem dX6_takes_19 : decode cX6_takes 19 = .ok (.iload_n 1, 1) := by decide +kernel
theorem dX6_takes_20 : decode cX6_takes 20 = .ok (.i2l, 1) := by decide +kernel
theorem dX6_takes_21 : decode cX6_takes 21 = .ok (.iload_n 2, 1) := by decide +kernel
theorem dX6_takes_22 : decode cX6_takes 22 = .ok (.i2l, 1) := by decide +kernel
theorem dX6_takes_23 : decode cX6_takes 23 = .ok (.invokestatic 54, 3) := by decide +kernel
theorem dX6_takes_26 : decode cX6_takes 26 = .ok (.ifCond .ne 9, 3) := by decide +kernel
theorem dX6_takes_29 : decode cX6_takes 29 = .ok (.aload_n 0, 1) := by decide +kernel
theorem dX6_takes_30 : decode cX6_takes 30 = .ok (.iconst 2, 1) := by decide +kernel
theorem dX6_takes_31 : decode cX6_takes 31 = .ok (.invokevirtual 113, 3) := by decide +kernel
theorem dX6_takes_34 : decode cX6_takes 34 = .ok (.ireturn, 1) := by decide +kernel
theorem dX6_takes_35 : decode cX6_takes 35 = .ok (.aload_n 0, 1) := by decide +kernel
theorem dX6_takes_36 : decode cX6_takes 36 = .ok (.aload_n 0, 1) := by decide +kernel
theorem dX6_takes_37 : decode cX6_takes 37 = .ok (.getfield 107, 3) := by decide +kernel
theorem dX6_takes_40 : decode cX6_takes 40 = .ok (.putfield 116, 3) := by decide +kernel
theorem dX6_takes_43 : decode cX6_takes 43 = .ok (.aload_n 0, 1) := by decide +kernel
theorem dX6_takes_44 : decode cX6_takes 44 = .ok (.invokevirtual 119, 3) := by decide +kernel
theorem dX6_takes_47 : decode cX6_takes 47 = .ok (.iconst 1, 1) := by decide +kernel
theorem dX6_takes_48 : decode cX6_takes 48 = .ok (.ireturn, 1) := by decide +kernel
theorem dX6_ends_0 : decode cX6_ends 0 = .ok (.aload_n 0, 1) := by decide +kernel
theorem dX6_ends_1 : decode cX6_ends 1 = .ok (.getfield 90, 3) := by decide +kernel
theorem dX6_ends_4 : decode cX6_ends 4 = .ok (.iconst 3, 1) := by decide +kernel
theorem dX6_ends_5 : decode cX6_ends 5 = .ok (.if_icmp .eq 9, 3) := by decide +kernel
theorem dX6_ends_8 : decode cX6_ends 8 = .ok (.aload_n 0, 1) := by decide +kernel
theorem dX6_ends_9 : decode cX6_ends 9 = .ok (.iconst 1, 1) := by decide +kernel
theorem dX6_ends_10 : decode cX6_ends 10 = .ok (.invokevirtual 113, 3) := by decide +kernel
theorem dX6_ends_13 : decode cX6_ends 13 = .ok (.ireturn, 1) := by decide +kernel
theorem dX6_ends_14 : decode cX6_ends 14 = .ok (.aload_n 0, 1) := by decide +kernel
theorem dX6_ends_15 : decode cX6_ends 15 = .ok (.invokevirtual 119, 3) := by decide +kernel
theorem dX6_ends_18 : decode cX6_ends 18 = .ok (.iconst 1, 1) := by decide +kernel
theorem dX6_ends_19 : decode cX6_ends 19 = .ok (.ireturn, 1) := by decide +kernel
/-- the tape holds bytes -/
def bOK (tp : Nat → Int32) : Prop := ∀ j, -128 ≤ (tp j).toInt ∧ (tp j).toInt ≤ 127
def isIn (c : Int32) (lo hi : Nat) : Bool := decide (nI lo ≤ c ∧ c ≤ nI hi)
theorem ub_v (x : Int32) : ubI x = nI (x.toBitVec.toNat % 256) := pk_and x (m := 255) 8 rfl
theorem ti_bv (x : Int32) : x.toInt = if x.toBitVec.toNat < 2147483648 then (x.toBitVec.toNat : Int) else (x.toBitVec.toNat : Int) - 4294967296 := by
  show x.toBitVec.toInt = _
  rw [BitVec.toInt_eq_toNat_cond]
  have h := x.toBitVec.isLt
  by_cases q : 2 * x.toBitVec.toNat < 2 ^ 32
  · rw [if_pos q, if_pos (by omega)]
  · rw [if_neg q, if_neg (by omega)]; rfl
theorem ub_pos {x : Int32} (h0 : 0 ≤ x.toInt) (h1 : x.toInt ≤ 127) : ubI x = x := by
  obtain ⟨n, hn, rfl⟩ := ti_nI (m := 127) h0 (by omega)
  rw [ub_v, pk_tn (by omega), Nat.mod_eq_of_lt (by omega)]
theorem ub_neg {x : Int32} (h0 : x.toInt < 0) (h1 : -128 ≤ x.toInt) : 127 < (ubI x).toInt := by
  have h := ti_bv x
  have hl := x.toBitVec.isLt
  rw [ub_v, nI_toInt (by omega)]
  by_cases q : x.toBitVec.toNat < 2147483648
  · rw [if_pos q] at h; omega
  · rw [if_neg q] at h; omega
theorem inI_ub {x : Int32} (h : -128 ≤ x.toInt ∧ x.toInt ≤ 127) {lo hi : Nat} (hlo : lo ≤ hi) (hh : hi ≤ 127) : inI (ubI x) (nI lo) (nI hi) = b2I (isIn x lo hi) := by
  unfold b2I isIn
  by_cases h0 : 0 ≤ x.toInt
  · rw [ub_pos h0 h.2]
    unfold inI
    by_cases h1 : x < nI lo
    · rw [if_pos h1, if_neg (by simp only [decide_eq_true_eq]; exact fun q => absurd q.1 (Int32.not_le.mpr h1))]
    · rw [if_neg h1]
      by_cases h2 : nI hi < x
      · rw [if_pos h2, if_neg (by simp only [decide_eq_true_eq]; exact fun q => absurd q.2 (Int32.not_le.mpr h2))]
      · rw [if_neg h2, if_pos (decide_eq_true ⟨Int32.not_lt.mp h1, Int32.not_lt.mp h2⟩)]
  · have h1 := ub_neg (x := x) (by omega) h.1
    rw [inI_no (Or.inr (ti_lt.mpr (by rw [nI_toInt (by omega)]; omega))), if_neg (by
      simp only [decide_eq_true_eq]
      intro q
      have := ti_le.mp q.1
      rw [nI_toInt (by omega)] at this
      omega)]
theorem isIn_eq {c : Int32} {n : Nat} : isIn c n n = true ↔ c = nI n := by
  unfold isIn
  simp only [decide_eq_true_eq]
  exact ⟨fun q => Int32.le_antisymm q.2 q.1, fun q => by subst q; exact ⟨Int32.le_refl _, Int32.le_refl _⟩⟩
theorem isLt_v {c : Int32} (h : isLt c = true) : ∃ n, 97 ≤ n ∧ n ≤ 122 ∧ c = nI n := by
  unfold isLt at h
  simp only [decide_eq_true_eq] at h
  have h1 := ti_le.mp h.1
  have h2 := ti_le.mp h.2
  rw [nI_toInt (by omega)] at h1 h2
  obtain ⟨n, hn, e⟩ := ti_nI (x := c) (m := 122) (by omega) (by omega)
  subst e
  rw [nI_toInt (by omega)] at h1
  exact ⟨n, by omega, hn, rfl⟩
theorem isFg_v {c : Int32} (h : isFg c = true) : ∃ n, 48 ≤ n ∧ n ≤ 57 ∧ c = nI n := by
  unfold isFg at h
  simp only [decide_eq_true_eq] at h
  have h1 := ti_le.mp h.1
  have h2 := ti_le.mp h.2
  rw [nI_toInt (by omega)] at h1 h2
  obtain ⟨n, hn, e⟩ := ti_nI (x := c) (m := 57) (by omega) (by omega)
  subst e
  rw [nI_toInt (by omega)] at h1
  exact ⟨n, by omega, hn, rfl⟩
theorem ub_nI {n : Nat} (h : n ≤ 127) : ubI (nI n) = nI n := ub_pos (by rw [nI_toInt (by omega)]; omega) (by rw [nI_toInt (by omega)]; omega)
/-- a name as the model counts it -/
def vL (a8 : Nat → Int32) (s : Nat) : Nat → Int64
  | 0 => 0
  | k + 1 => if 7 < k then 0 else 32 * vL a8 s k + (a8 (s + k)).toInt64 - 97 + 1
def enc5 (f : Nat → Nat) : Nat → Nat
  | 0 => 0
  | k + 1 => 32 * enc5 f k + f k
theorem enc5_lt {f : Nat → Nat} : ∀ n, (∀ k, k < n → f k < 32) → enc5 f n < 32 ^ n
  | 0, _ => by show 0 < 32 ^ 0; decide
  | n + 1, h => by
    have h1 := enc5_lt (f := f) n (fun k hk => h k (by omega))
    have h2 := h n (by omega)
    show 32 * enc5 f n + f n < 32 ^ (n + 1)
    rw [Nat.pow_succ]
    omega
theorem enc5_inj {f g : Nat → Nat} : ∀ n m, (∀ k, k < n → 1 ≤ f k ∧ f k < 32) → (∀ k, k < m → 1 ≤ g k ∧ g k < 32) → enc5 f n = enc5 g m → n = m ∧ ∀ k, k < n → f k = g k
  | 0, 0, _, _, _ => ⟨rfl, fun k hk => absurd hk (by omega)⟩
  | 0, m + 1, _, hg, h => by
    have := hg m (by omega)
    have h2 : 0 = 32 * enc5 g m + g m := h
    omega
  | n + 1, 0, hf, _, h => by
    have := hf n (by omega)
    have h2 : 32 * enc5 f n + f n = 0 := h
    omega
  | n + 1, m + 1, hf, hg, h => by
    have h1 := hf n (by omega)
    have h2 := hg m (by omega)
    have h3 : 32 * enc5 f n + f n = 32 * enc5 g m + g m := h
    obtain ⟨e, h4⟩ := enc5_inj n m (fun k hk => hf k (by omega)) (fun k hk => hg k (by omega)) (by omega)
    subst e
    refine ⟨rfl, fun k hk => ?_⟩
    by_cases q : k = n
    · subst q; omega
    · exact h4 k (by omega)
theorem vL_N {tp a8 : Nat → Int32} {s : Nat} (h8 : ∀ j, a8 j = ubI (tp j)) : ∀ n, n ≤ 7 → (∀ k, k < n → isLt (tp (s + k)) = true) → vL a8 s n = lN (enc5 (fun k => clp (tp (s + k)) - 96) n) ∧ ∀ k, k < n → 1 ≤ clp (tp (s + k)) - 96 ∧ clp (tp (s + k)) - 96 < 32
  | 0, _, _ => ⟨rfl, fun k hk => absurd hk (by omega)⟩
  | n + 1, hn, h => by
    obtain ⟨e, hr⟩ := vL_N h8 n (by omega) (fun k hk => h k (by omega))
    obtain ⟨c, h1, h2, hc⟩ := isLt_v (h n (by omega))
    have hcl : clp (tp (s + n)) = c := by rw [hc]; exact nI_clamp (by omega)
    refine ⟨?_, fun k hk => ?_⟩
    · show (if 7 < n then 0 else 32 * vL a8 s n + (a8 (s + n)).toInt64 - 97 + 1) = lN (32 * enc5 (fun k => clp (tp (s + k)) - 96) n + (clp (tp (s + n)) - 96))
      rw [if_neg (by omega), e, h8, hc, ub_nI (by omega), nI_l (by omega), show clp (nI c) = c from nI_clamp (by omega), show (32 : Int64) = lN 32 from rfl, lN_mul, lN_add, show (97 : Int64) = lN 97 from rfl, lN_sub (by omega), show (1 : Int64) = lN 1 from rfl, lN_add]
      congr 1
      omega
    · by_cases q : k = n
      · subst q; rw [hcl]; omega
      · exact hr k (by omega)
def encC : List Nat := [12343, 542723566, 8556773, 508078, 515251]
theorem encC_ok : ∀ i, i < 5 → encC.getD i 0 = enc5 (fun k => clp (btS i k) - 96) (lnS i) := by decide
theorem btS_ok : ∀ i, i < 5 → ∀ k, k < lnS i → 97 ≤ clp (btS i k) ∧ clp (btS i k) ≤ 122 ∧ btS i k = nI (clp (btS i k)) := by decide
theorem enc5_63 {f : Nat → Nat} {n : Nat} (hn : n ≤ 7) (h : ∀ k, k < n → f k < 32) : enc5 f n < 2 ^ 63 := by
  have h1 := enc5_lt n h
  have h2 : (32 : Nat) ^ n ≤ 32 ^ 7 := Nat.pow_le_pow_right (by decide) hn
  have h3 : (32 : Nat) ^ 7 = 34359738368 := by decide
  rw [h3] at h2
  generalize (32 : Nat) ^ n = x at h1 h2
  omega
theorem enc5_ext {f g : Nat → Nat} : ∀ m, (∀ k, k < m → f k = g k) → enc5 f m = enc5 g m
  | 0, _ => rfl
  | m + 1, h => by
    show 32 * enc5 f m + f m = 32 * enc5 g m + g m
    rw [enc5_ext m (fun k hk => h k (by omega)), h m (by omega)]
theorem word_f {tp : Nat → Int32} {s n i : Nat} (h : ∀ k, k < n → isLt (tp (s + k)) = true) (hr : ∀ k, k < n → 1 ≤ clp (tp (s + k)) - 96 ∧ clp (tp (s + k)) - 96 < 32) (hb : ∀ k, k < lnS i → 97 ≤ clp (btS i k) ∧ clp (btS i k) ≤ 122 ∧ btS i k = nI (clp (btS i k))) (q : enc5 (fun k => clp (tp (s + k)) - 96) n = enc5 (fun k => clp (btS i k) - 96) (lnS i)) : n = lnS i ∧ ∀ k, k < lnS i → tp (s + k) = btS i k := by
  obtain ⟨e1, e2⟩ := enc5_inj n (lnS i) hr (fun k hk => ⟨Nat.le_sub_of_add_le (Nat.le_trans (by decide) (hb k hk).1), Nat.lt_of_le_of_lt (Nat.sub_le_sub_right (hb k hk).2.1 96) (by decide)⟩) q
  refine ⟨e1, fun k hk => ?_⟩
  have e3 : clp (tp (s + k)) - 96 = clp (btS i k) - 96 := e2 k (by rw [e1]; exact hk)
  obtain ⟨c, h1, h2, hc⟩ := isLt_v (h k (by rw [e1]; exact hk))
  have hcl : clp (tp (s + k)) = c := by rw [hc]; exact nI_clamp (by omega)
  have hk2 := hb k hk
  rw [hk2.2.2, hc]
  generalize clp (btS i k) = b at e3 hk2
  rw [show c = b by omega]
theorem word_v {tp a8 : Nat → Int32} {s n i : Nat} (h8 : ∀ j, a8 j = ubI (tp j)) (hn : n ≤ 7) (h : ∀ k, k < n → isLt (tp (s + k)) = true) (hi : i < 5) : vL a8 s n = lN (encC.getD i 0) ↔ n = lnS i ∧ ∀ k, k < lnS i → tp (s + k) = btS i k := by
  obtain ⟨e, hr⟩ := vL_N h8 n hn h
  have hb := btS_ok i hi
  have hq1 := enc5_63 hn (fun k hk => (hr k hk).2)
  have hq2 := enc5_63 (f := fun k => clp (btS i k) - 96) (n := lnS i) (Nat.le_trans (lnS_le i hi).2 (by decide)) (fun k hk => Nat.lt_of_le_of_lt (Nat.sub_le_sub_right (hb k hk).2.1 96) (by decide))
  rw [e, encC_ok i hi, pk_lEQ hq1 hq2]
  constructor
  · exact word_f h hr hb
  · rintro ⟨e1, e2⟩
    rw [e1]
    exact enc5_ext _ (fun k hk => by show clp (tp (s + k)) - 96 = clp (btS i k) - 96; rw [e2 k hk])
/-- the model's token, out of the class's -/
noncomputable def tokR (tp : Nat → Int32) (r : RS) : Nat := if r.1 = 0 then 0 else if r.1 = 2 then 2 else if r.1 = 3 then 3 else if atI tp r 0 = true then 4 else if atI tp r 1 = true then 5 else if atI tp r 4 = true then 6 else if atI tp r 3 = true then 7 else if atI tp r 2 = true then 8 else 1
theorem atI_w {tp : Nat → Int32} {r : RS} {i : Nat} (h : atI tp r i = true) : atW tp r i := Classical.byContradiction fun q => by rw [atI_n q] at h; exact absurd h (by decide)
theorem atI_1 {tp : Nat → Int32} {r : RS} {i : Nat} (h : atI tp r i = true) : r.1 = 1 := (atI_w h).1
theorem atI_len {tp : Nat → Int32} {r : RS} {i j : Nat} (h : atI tp r i = true) (hl : lnS i ≠ lnS j) : ¬ atI tp r j = true := fun q => hl (by have h1 := (atI_w h).2.1; have h2 := (atI_w q).2.1; omega)
theorem atI_34 {tp : Nat → Int32} {r : RS} (h : atI tp r 3 = true) : ¬ atI tp r 4 = true := fun q => by
  have h1 := (atI_w h).2.2 1 (by decide)
  have h2 := (atI_w q).2.2 1 (by decide)
  rw [h1] at h2
  exact absurd h2 (by decide)
theorem tokR_1 {tp : Nat → Int32} {r : RS} (h : r.1 = 1) : tokR tp r = if atI tp r 0 = true then 4 else if atI tp r 1 = true then 5 else if atI tp r 4 = true then 6 else if atI tp r 3 = true then 7 else if atI tp r 2 = true then 8 else 1 := by
  unfold tokR
  rw [if_neg (by rw [h]; decide), if_neg (by rw [h]; decide), if_neg (by rw [h]; decide)]
theorem tokR_4 {tp : Nat → Int32} {r : RS} (h : r.1 = 4) : tokR tp r = 1 := by
  have n : ∀ i, ¬ atI tp r i = true := fun i q => by have := atI_1 q; omega
  unfold tokR
  rw [if_neg (by rw [h]; decide), if_neg (by rw [h]; decide), if_neg (by rw [h]; decide), if_neg (n 0), if_neg (n 1), if_neg (n 4), if_neg (n 3), if_neg (n 2)]
theorem tok_le {tp : Nat → Int32} {r : RS} : tokR tp r ≤ 8 := by
  unfold tokR
  repeat' split
  all_goals omega
theorem tok_2 {tp : Nat → Int32} {r : RS} : tokR tp r = 2 ↔ r.1 = 2 := by
  unfold tokR
  constructor
  · intro h
    repeat' (split at h)
    all_goals first | assumption | omega
  · intro h
    rw [if_neg (by omega), if_pos h]
theorem tok_3 {tp : Nat → Int32} {r : RS} : tokR tp r = 3 ↔ r.1 = 3 := by
  unfold tokR
  constructor
  · intro h
    repeat' (split at h)
    all_goals first | assumption | omega
  · intro h
    rw [if_neg (by omega), if_neg (by omega), if_pos h]
theorem tok_0 {tp : Nat → Int32} {r : RS} : tokR tp r = 0 ↔ r.1 = 0 := by
  unfold tokR
  constructor
  · intro h
    repeat' (split at h)
    all_goals first | assumption | omega
  · intro h
    rw [if_pos h]
theorem tok_w0 {tp : Nat → Int32} {r : RS} : tokR tp r = 4 ↔ atI tp r 0 = true := by
  constructor
  · intro h
    unfold tokR at h
    repeat' (split at h)
    all_goals first | assumption | omega
  · intro h
    rw [tokR_1 (atI_1 h), if_pos h]
theorem tok_w1 {tp : Nat → Int32} {r : RS} : tokR tp r = 5 ↔ atI tp r 1 = true := by
  constructor
  · intro h
    unfold tokR at h
    repeat' (split at h)
    all_goals first | assumption | omega
  · intro h
    rw [tokR_1 (atI_1 h), if_neg (atI_len h (by decide)), if_pos h]
theorem tok_w4 {tp : Nat → Int32} {r : RS} : tokR tp r = 6 ↔ atI tp r 4 = true := by
  constructor
  · intro h
    unfold tokR at h
    repeat' (split at h)
    all_goals first | assumption | omega
  · intro h
    rw [tokR_1 (atI_1 h), if_neg (atI_len h (by decide)), if_neg (atI_len h (by decide)), if_pos h]
theorem tok_w3 {tp : Nat → Int32} {r : RS} : tokR tp r = 7 ↔ atI tp r 3 = true := by
  constructor
  · intro h
    unfold tokR at h
    repeat' (split at h)
    all_goals first | assumption | omega
  · intro h
    rw [tokR_1 (atI_1 h), if_neg (atI_len h (by decide)), if_neg (atI_len h (by decide)), if_neg (atI_34 h), if_pos h]
theorem tok_w2 {tp : Nat → Int32} {r : RS} : tokR tp r = 8 ↔ atI tp r 2 = true := by
  constructor
  · intro h
    unfold tokR at h
    repeat' (split at h)
    all_goals first | assumption | omega
  · intro h
    rw [tokR_1 (atI_1 h), if_neg (atI_len h (by decide)), if_neg (atI_len h (by decide)), if_neg (atI_len h (by decide)), if_neg (atI_len h (by decide)), if_pos h]
theorem fst_no {P : Nat → Bool} {len e x : Nat} (h : e < len) (hp : P e = false) (hf : fstN P (len - e) e = x) : fstN P (len - (e + 1)) (e + 1) = x := by
  rw [show len - e = (len - (e + 1)) + 1 by omega] at hf
  rw [← hf]
  show _ = if P e = true then e else fstN P (len - (e + 1)) (e + 1)
  rw [if_neg (by rw [hp]; decide)]
theorem fst_yes {P : Nat → Bool} {len e x : Nat} (hp : e < len → P e = true) (hf : fstN P (len - e) e = x) : e = x := by
  by_cases h : e < len
  · rw [show len - e = (len - (e + 1)) + 1 by omega] at hf
    have hf2 : (if P e = true then e else fstN P (len - (e + 1)) (e + 1)) = x := hf
    rw [if_pos (hp h)] at hf2
    exact hf2
  · rw [show len - e = 0 by omega] at hf
    exact hf
theorem and_t {e len : Nat} {b : Bool} (h : ¬ b2I (decide (e < len) && b) = 0) : e < len ∧ b = true := by
  have := b2I_1 h
  simp only [Bool.and_eq_true, decide_eq_true_eq] at this
  exact this
theorem and_f {e len : Nat} {b : Bool} (h : b2I (decide (e < len) && b) = 0) (q : e < len) : b = false := by
  have := b2I_0 h
  rw [decide_eq_true q] at this
  exact this
theorem nar_b (b : Bool) : narrow .boolean (.int (b2I b)) = .int (b2I b) := by cases b <;> rfl
section MS
variable {G : GG} {z : Nat} {σ : AH} {a0 a1 a2 a3 a4 a5 a6 a7 a8 a9 a10 a11 : Nat → Int32} {i0 i1 i2 i3 i4 i5 i6 i7 i8 i9 i10 i11 : Int32} {tp : Nat → Int32} {len e : Nat} {va : Int32}
theorem m_isAt {lo hi : Nat} (hb : bOK tp) (h8 : ∀ j, a8 j = ubI (tp j)) (hl : len ≤ 400) (he : e ≤ len) (hlo : lo ≤ hi) (hh : hi ≤ 127) : Ct G yX6_isAt cX6_isAt 3 (some .boolean) 2 0 0 z (mH σ a0 a1 a2 a3 a4 a5 a6 a7 a8 a9 a10 a11 i0 i1 i2 (nI len) (nI e) i5 i6 i7 i8 i9 i10 i11) [.ref 171, .int (nI lo), .int (nI hi)] (some (.int (b2I (decide (e < len) && isIn (tp e) lo hi)))) z (mH σ a0 a1 a2 a3 a4 a5 a6 a7 a8 a9 a10 a11 i0 i1 i2 (nI len) (nI e) i5 i6 i7 i8 i9 i10 i11) := by
  refine Ct.ofJ RX6 rfl [some (.ref 171), some (.int (nI lo)), some (.int (nI hi))] rfl (by decide) (by simp [Value.category]) ?_
  refine j_aload_n dX6_isAt_0 rfl rfl ?_
  refine j_getf dX6_isAt_1 6 13 rfl (Nat.le_of_ble_eq_true rfl) fl_X6_80 in_6 mH_o rfl ?_
  refine j_aload_n dX6_isAt_4 rfl rfl ?_
  refine j_getf dX6_isAt_5 6 12 rfl (Nat.le_of_ble_eq_true rfl) fl_X6_74 in_6 mH_o rfl ?_
  refine j_icmp_geN 35 dX6_isAt_8 (by decide) (by omega) (by omega) (fun b8 => ?_) (fun b8 => ?_)
  · refine j_iconst (nI 0) dX6_isAt_35 rfl ?_
    exact j_zret .boolean rfl rfl dX6_isAt_36 (by first | (rw [decide_eq_false (show ¬ e < len by omega)]; rfl) | (rw [b2I_0 b28, Bool.and_false]; rfl) | (rw [b2I_1 b28, decide_eq_true (show e < len by omega)]; rfl)) rfl (Nat.le_of_ble_eq_true rfl) (Nat.le_of_ble_eq_true rfl)
  · refine j_aload_n dX6_isAt_11 rfl rfl ?_
    refine j_getf dX6_isAt_12 6 11 rfl (Nat.le_of_ble_eq_true rfl) fl_X6_35 in_6 mH_o rfl ?_
    refine j_aload_n dX6_isAt_15 rfl rfl ?_
    refine j_getf dX6_isAt_16 6 13 rfl (Nat.le_of_ble_eq_true rfl) fl_X6_80 in_6 mH_o rfl ?_
    refine j_iald dX6_isAt_19 mH_a8 rfl (by omega) (by decide) ?_
    refine j_i2l dX6_isAt_20 ?_
    refine j_iload_n dX6_isAt_21 rfl rfl ?_
    refine j_i2l dX6_isAt_22 ?_
    refine j_iload_n dX6_isAt_23 rfl rfl ?_
    refine j_i2l dX6_isAt_24 ?_
    refine j_callS (m_in3 (a8 e) (nI lo) (nI hi) rfl rfl) dX6_isAt_25 rfl ms_X6_54 ⟨(Nat.le_of_ble_eq_true rfl), (Nat.le_of_ble_eq_true rfl)⟩ ⟨(Nat.le_of_ble_eq_true rfl), (Nat.le_of_ble_eq_true rfl)⟩ (Nat.le_of_ble_eq_true rfl) ?_
    refine j_top (b2I (isIn (tp e) lo hi)) (by rw [h8 e]; exact inI_ub (hb e) hlo hh) ?_
    refine j_if_eq 35 dX6_isAt_28 (by decide) (fun b28 => ?_) (fun b28 => ?_)
    · refine j_iconst (nI 0) dX6_isAt_35 rfl ?_
      exact j_zret .boolean rfl rfl dX6_isAt_36 (by first | (rw [decide_eq_false (show ¬ e < len by omega)]; rfl) | (rw [b2I_0 b28, Bool.and_false]; rfl) | (rw [b2I_1 b28, decide_eq_true (show e < len by omega)]; rfl)) rfl (Nat.le_of_ble_eq_true rfl) (Nat.le_of_ble_eq_true rfl)
    · refine j_iconst (nI 1) dX6_isAt_31 rfl ?_
      refine j_goto 36 dX6_isAt_32 (by decide) ?_
      exact j_zret .boolean rfl rfl dX6_isAt_36 (by first | (rw [decide_eq_false (show ¬ e < len by omega)]; rfl) | (rw [b2I_0 b28, Bool.and_false]; rfl) | (rw [b2I_1 b28, decide_eq_true (show e < len by omega)]; rfl)) rfl (Nat.le_of_ble_eq_true rfl) (Nat.le_of_ble_eq_true rfl)
theorem ml_let {ss : Nat} (hb : bOK tp) (h8 : ∀ j, a8 j = ubI (tp j)) (hl : len ≤ 400) (hs : ss ≤ len) : J G RX6 cX6_scans 3 none (TQ G 3 0 0 none z (mH σ a0 a1 a2 a3 a4 a5 a6 a7 a8 a9 a10 a11 i0 i1 i2 (nI len) (nI (enL tp len ss)) (nI ss) (nI (tokR tp (1, ss, enL tp len ss, i7, 0, 0))) i7 i8 i9 i10 i11)) z (mH σ a0 a1 a2 a3 a4 a5 a6 a7 a8 a9 a10 a11 i0 i1 i2 (nI len) (nI ss) (nI ss) i6 i7 i8 i9 i10 i11) 0 0 73 [some (.ref 171), some (.long 0), none] [] := by
  suffices H : ∀ (kk k : Nat), ss + k ≤ len → len < ss + k + kk → (∀ q, q < k → isLt (tp (ss + q)) = true) → fstN (fun j => !isLt (tp j)) (len - (ss + k)) (ss + k) = enL tp len ss → J G RX6 cX6_scans 3 none (TQ G 3 0 0 none z (mH σ a0 a1 a2 a3 a4 a5 a6 a7 a8 a9 a10 a11 i0 i1 i2 (nI len) (nI (enL tp len ss)) (nI ss) (nI (tokR tp (1, ss, enL tp len ss, i7, 0, 0))) i7 i8 i9 i10 i11)) z (mH σ a0 a1 a2 a3 a4 a5 a6 a7 a8 a9 a10 a11 i0 i1 i2 (nI len) (nI (ss + k)) (nI ss) i6 i7 i8 i9 i10 i11) 0 0 73 [some (.ref 171), some (.long (vL a8 ss k)), none] [] from H (len + 1) 0 (by omega) (by omega) (fun q h => by omega) rfl
  intro kk
  induction kk with
  | zero => intro k h1 h2; exact absurd h2 (by omega)
  | succ kk ih =>
    intro k h1 h2 hq hf
    have hend : ss + k = enL tp len ss → J G RX6 cX6_scans 3 none (TQ G 3 0 0 none z (mH σ a0 a1 a2 a3 a4 a5 a6 a7 a8 a9 a10 a11 i0 i1 i2 (nI len) (nI (enL tp len ss)) (nI ss) (nI (tokR tp (1, ss, enL tp len ss, i7, 0, 0))) i7 i8 i9 i10 i11)) z (mH σ a0 a1 a2 a3 a4 a5 a6 a7 a8 a9 a10 a11 i0 i1 i2 (nI len) (nI (ss + k)) (nI ss) i6 i7 i8 i9 i10 i11) 0 0 138 [some (.ref 171), some (.long (vL a8 ss k)), none] [] := by
      intro he
      rw [← he]
      by_cases h7 : k ≤ 7
      · have hw : ∀ i, i < 5 → (lg_cmp (vL a8 ss k) (lN (encC.getD i 0)) = 0 ↔ atI tp (1, ss, ss + k, i7, 0, 0) i = true) := by
          intro i hi
          rw [lg_cmp_eq, word_v h8 h7 hq hi]
          constructor
          · rintro ⟨e1, e2⟩
            exact atI_y ⟨rfl, by show ss + k = ss + lnS i; omega, e2⟩
          · intro q
            have w := atI_w q
            have w1 : ss + k = ss + lnS i := w.2.1
            exact ⟨by omega, w.2.2⟩
        have h0 : lg_cmp (vL a8 ss k) 12343 = 0 ↔ atI tp (1, ss, ss + k, i7, 0, 0) 0 = true := hw 0 (by decide)
        have h1 : lg_cmp (vL a8 ss k) 542723566 = 0 ↔ atI tp (1, ss, ss + k, i7, 0, 0) 1 = true := hw 1 (by decide)
        have h2 : lg_cmp (vL a8 ss k) 8556773 = 0 ↔ atI tp (1, ss, ss + k, i7, 0, 0) 2 = true := hw 2 (by decide)
        have h3 : lg_cmp (vL a8 ss k) 508078 = 0 ↔ atI tp (1, ss, ss + k, i7, 0, 0) 3 = true := hw 3 (by decide)
        have h4 : lg_cmp (vL a8 ss k) 515251 = 0 ↔ atI tp (1, ss, ss + k, i7, 0, 0) 4 = true := hw 4 (by decide)
        refine j_aload_n dX6_scans_138 rfl rfl ?_
        refine j_aload_n dX6_scans_139 rfl rfl ?_
        refine j_getf dX6_scans_140 6 13 rfl (Nat.le_of_ble_eq_true rfl) fl_X6_80 in_6 mH_o rfl ?_
        refine j_aload_n dX6_scans_143 rfl rfl ?_
        refine j_getf dX6_scans_144 6 14 rfl (Nat.le_of_ble_eq_true rfl) fl_X6_87 in_6 mH_o rfl ?_
        refine j_isubN dX6_scans_147 (by omega) ?_
        refine j_top (nI k) (by rw [Nat.add_sub_cancel_left]) ?_
        refine j_bipush (nI 7) dX6_scans_148 rfl ?_
        refine j_icmp_leN 157 dX6_scans_150 (by decide) (by omega) (by omega) (fun b150 => ?_) (fun b150 => by exfalso; omega)
        refine j_lload_n dX6_scans_157 rfl rfl ?_
        refine j_ldc2 (12343) dX6_scans_158 kl_X6_97 ?_
        refine j_lcmp dX6_scans_161 ?_
        refine j_if_ne 169 dX6_scans_162 (by decide) (fun b162 => ?_) (fun b162 => ?_)
        · refine j_lload_n dX6_scans_169 rfl rfl ?_
          refine j_ldc2 (542723566) dX6_scans_170 kl_X6_99 ?_
          refine j_lcmp dX6_scans_173 ?_
          refine j_if_ne 181 dX6_scans_174 (by decide) (fun b174 => ?_) (fun b174 => ?_)
          · refine j_lload_n dX6_scans_181 rfl rfl ?_
            refine j_ldc2 (515251) dX6_scans_182 kl_X6_101 ?_
            refine j_lcmp dX6_scans_185 ?_
            refine j_if_ne 194 dX6_scans_186 (by decide) (fun b186 => ?_) (fun b186 => ?_)
            · refine j_lload_n dX6_scans_194 rfl rfl ?_
              refine j_ldc2 (508078) dX6_scans_195 kl_X6_103 ?_
              refine j_lcmp dX6_scans_198 ?_
              refine j_if_ne 207 dX6_scans_199 (by decide) (fun b199 => ?_) (fun b199 => ?_)
              · refine j_lload_n dX6_scans_207 rfl rfl ?_
                refine j_ldc2 (8556773) dX6_scans_208 kl_X6_105 ?_
                refine j_lcmp dX6_scans_211 ?_
                refine j_if_ne 220 dX6_scans_212 (by decide) (fun b212 => ?_) (fun b212 => ?_)
                · have t : tokR tp (1, ss, ss + k, i7, 0, 0) = 1 := by rw [tokR_1 rfl, if_neg (fun q => b162 (h0.mpr q)), if_neg (fun q => b174 (h1.mpr q)), if_neg (fun q => b186 (h4.mpr q)), if_neg (fun q => b199 (h3.mpr q)), if_neg (fun q => b212 (h2.mpr q))]
                  refine j_iconst (nI 1) dX6_scans_220 rfl ?_
                  refine j_putf dX6_scans_221 6 15 rfl (Nat.le_of_ble_eq_true rfl) fl_X6_90 in_6 tyX6 tyX6_ok nmX6 rfl rfl mH_o (Nat.le_of_ble_eq_true rfl) _ mH_p6 ?_
                  exact j_vret rfl dX6_scans_224 (by rw [t] <;> rfl) (Nat.le_of_ble_eq_true rfl) (Nat.le_of_ble_eq_true rfl)
                · have t : tokR tp (1, ss, ss + k, i7, 0, 0) = 8 := tok_w2.mpr (h2.mp b212)
                  refine j_bipush (nI 8) dX6_scans_215 rfl ?_
                  refine j_goto 221 dX6_scans_217 (by decide) ?_
                  refine j_putf dX6_scans_221 6 15 rfl (Nat.le_of_ble_eq_true rfl) fl_X6_90 in_6 tyX6 tyX6_ok nmX6 rfl rfl mH_o (Nat.le_of_ble_eq_true rfl) _ mH_p6 ?_
                  exact j_vret rfl dX6_scans_224 (by rw [t] <;> rfl) (Nat.le_of_ble_eq_true rfl) (Nat.le_of_ble_eq_true rfl)
              · have t : tokR tp (1, ss, ss + k, i7, 0, 0) = 7 := tok_w3.mpr (h3.mp b199)
                refine j_bipush (nI 7) dX6_scans_202 rfl ?_
                refine j_goto 221 dX6_scans_204 (by decide) ?_
                refine j_putf dX6_scans_221 6 15 rfl (Nat.le_of_ble_eq_true rfl) fl_X6_90 in_6 tyX6 tyX6_ok nmX6 rfl rfl mH_o (Nat.le_of_ble_eq_true rfl) _ mH_p6 ?_
                exact j_vret rfl dX6_scans_224 (by rw [t] <;> rfl) (Nat.le_of_ble_eq_true rfl) (Nat.le_of_ble_eq_true rfl)
            · have t : tokR tp (1, ss, ss + k, i7, 0, 0) = 6 := tok_w4.mpr (h4.mp b186)
              refine j_bipush (nI 6) dX6_scans_189 rfl ?_
              refine j_goto 221 dX6_scans_191 (by decide) ?_
              refine j_putf dX6_scans_221 6 15 rfl (Nat.le_of_ble_eq_true rfl) fl_X6_90 in_6 tyX6 tyX6_ok nmX6 rfl rfl mH_o (Nat.le_of_ble_eq_true rfl) _ mH_p6 ?_
              exact j_vret rfl dX6_scans_224 (by rw [t] <;> rfl) (Nat.le_of_ble_eq_true rfl) (Nat.le_of_ble_eq_true rfl)
          · have t : tokR tp (1, ss, ss + k, i7, 0, 0) = 5 := tok_w1.mpr (h1.mp b174)
            refine j_iconst (nI 5) dX6_scans_177 rfl ?_
            refine j_goto 221 dX6_scans_178 (by decide) ?_
            refine j_putf dX6_scans_221 6 15 rfl (Nat.le_of_ble_eq_true rfl) fl_X6_90 in_6 tyX6 tyX6_ok nmX6 rfl rfl mH_o (Nat.le_of_ble_eq_true rfl) _ mH_p6 ?_
            exact j_vret rfl dX6_scans_224 (by rw [t] <;> rfl) (Nat.le_of_ble_eq_true rfl) (Nat.le_of_ble_eq_true rfl)
        · have t : tokR tp (1, ss, ss + k, i7, 0, 0) = 4 := tok_w0.mpr (h0.mp b162)
          refine j_iconst (nI 4) dX6_scans_165 rfl ?_
          refine j_goto 221 dX6_scans_166 (by decide) ?_
          refine j_putf dX6_scans_221 6 15 rfl (Nat.le_of_ble_eq_true rfl) fl_X6_90 in_6 tyX6 tyX6_ok nmX6 rfl rfl mH_o (Nat.le_of_ble_eq_true rfl) _ mH_p6 ?_
          exact j_vret rfl dX6_scans_224 (by rw [t] <;> rfl) (Nat.le_of_ble_eq_true rfl) (Nat.le_of_ble_eq_true rfl)
      · have t : tokR tp (1, ss, ss + k, i7, 0, 0) = 1 := by
          have n : ∀ i, i < 5 → ¬ atI tp (1, ss, ss + k, i7, 0, 0) i = true := by
            intro i hi q
            have w1 : ss + k = ss + lnS i := (atI_w q).2.1
            have := lnS_le i hi
            omega
          rw [tokR_1 rfl, if_neg (n 0 (by decide)), if_neg (n 1 (by decide)), if_neg (n 4 (by decide)), if_neg (n 3 (by decide)), if_neg (n 2 (by decide))]
        refine j_aload_n dX6_scans_138 rfl rfl ?_
        refine j_aload_n dX6_scans_139 rfl rfl ?_
        refine j_getf dX6_scans_140 6 13 rfl (Nat.le_of_ble_eq_true rfl) fl_X6_80 in_6 mH_o rfl ?_
        refine j_aload_n dX6_scans_143 rfl rfl ?_
        refine j_getf dX6_scans_144 6 14 rfl (Nat.le_of_ble_eq_true rfl) fl_X6_87 in_6 mH_o rfl ?_
        refine j_isubN dX6_scans_147 (by omega) ?_
        refine j_top (nI k) (by rw [Nat.add_sub_cancel_left]) ?_
        refine j_bipush (nI 7) dX6_scans_148 rfl ?_
        refine j_icmp_leN 157 dX6_scans_150 (by decide) (by omega) (by omega) (fun b150 => by exfalso; omega) (fun b150 => ?_)
        refine j_iconst (nI 1) dX6_scans_153 rfl ?_
        refine j_goto 221 dX6_scans_154 (by decide) ?_
        refine j_putf dX6_scans_221 6 15 rfl (Nat.le_of_ble_eq_true rfl) fl_X6_90 in_6 tyX6 tyX6_ok nmX6 rfl rfl mH_o (Nat.le_of_ble_eq_true rfl) _ mH_p6 ?_
        exact j_vret rfl dX6_scans_224 (by rw [t] <;> rfl) (Nat.le_of_ble_eq_true rfl) (Nat.le_of_ble_eq_true rfl)
    refine j_aload_n dX6_scans_73 rfl rfl ?_
    refine j_bipush (nI 97) dX6_scans_74 rfl ?_
    refine j_bipush (nI 122) dX6_scans_76 rfl ?_
    refine j_callV (m_isAt (e := ss + k) (lo := 97) (hi := 122) hb h8 hl h1 (by decide) (by decide)) dX6_scans_78 rfl mv_X6_83 mH_o rfl ⟨(Nat.le_of_ble_eq_true rfl), (Nat.le_of_ble_eq_true rfl)⟩ ⟨(Nat.le_of_ble_eq_true rfl), (Nat.le_of_ble_eq_true rfl)⟩ (Nat.le_of_ble_eq_true rfl) ?_
    refine j_if_eq 138 dX6_scans_81 (by decide) (fun b81 => ?_) (fun b81 => ?_)
    · exact hend (fst_yes (P := fun j => !isLt (tp j)) (fun q => by show (!isLt (tp (ss + k))) = true; rw [show isLt (tp (ss + k)) = false from and_f b81 q]; rfl) hf)
    · have hlt := and_t b81
      refine j_aload_n dX6_scans_84 rfl rfl ?_
      refine j_getf dX6_scans_85 6 13 rfl (Nat.le_of_ble_eq_true rfl) fl_X6_80 in_6 mH_o rfl ?_
      refine j_aload_n dX6_scans_88 rfl rfl ?_
      refine j_getf dX6_scans_89 6 14 rfl (Nat.le_of_ble_eq_true rfl) fl_X6_87 in_6 mH_o rfl ?_
      refine j_isubN dX6_scans_92 (by omega) ?_
      refine j_top (nI k) (by rw [Nat.add_sub_cancel_left]) ?_
      refine j_bipush (nI 7) dX6_scans_93 rfl ?_
      refine j_icmp_leN 102 dX6_scans_95 (by decide) (by omega) (by omega) (fun b95 => ?_) (fun b95 => ?_)
      · refine j_ldc2 (32) dX6_scans_102 kl_X6_93 ?_
        refine j_lload_n dX6_scans_105 rfl rfl ?_
        refine j_lmul dX6_scans_106 ?_
        refine j_aload_n dX6_scans_107 rfl rfl ?_
        refine j_getf dX6_scans_108 6 11 rfl (Nat.le_of_ble_eq_true rfl) fl_X6_35 in_6 mH_o rfl ?_
        refine j_aload_n dX6_scans_111 rfl rfl ?_
        refine j_getf dX6_scans_112 6 13 rfl (Nat.le_of_ble_eq_true rfl) fl_X6_80 in_6 mH_o rfl ?_
        refine j_iald dX6_scans_115 mH_a8 rfl (by omega) (by decide) ?_
        refine j_i2l dX6_scans_116 ?_
        refine j_ladd dX6_scans_117 ?_
        refine j_ldc2 (97) dX6_scans_118 kl_X6_95 ?_
        refine j_lsub dX6_scans_121 ?_
        refine j_lconst (1) dX6_scans_122 rfl ?_
        refine j_ladd dX6_scans_123 ?_
        refine j_topl (vL a8 ss (k + 1)) (by first | (show _ = if 7 < k then _ else _; rw [if_pos (by omega)]) | (show _ = if 7 < k then _ else _; rw [if_neg (by omega)])) ?_
        refine j_lstore_n dX6_scans_124 rfl (Nat.le_of_ble_eq_true rfl) rfl ?_
        refine j_aload_n dX6_scans_125 rfl rfl ?_
        refine j_dup dX6_scans_126 rfl ?_
        refine j_getf dX6_scans_127 6 13 rfl (Nat.le_of_ble_eq_true rfl) fl_X6_80 in_6 mH_o rfl ?_
        refine j_iconst (nI 1) dX6_scans_130 rfl ?_
        first | refine j_iaddN dX6_scans_131 ?_ | refine j_iadd dX6_scans_131 ?_
        refine j_putf dX6_scans_132 6 13 rfl (Nat.le_of_ble_eq_true rfl) fl_X6_80 in_6 tyX6 tyX6_ok nmX6 rfl rfl mH_o (Nat.le_of_ble_eq_true rfl) _ mH_p4 ?_
        refine j_goto 73 dX6_scans_135 (by decide) ?_
        refine ih (k + 1) (by omega) (by omega) (fun q hq2 => ?_) (fst_no (P := fun j => !isLt (tp j)) hlt.1 (by show (!isLt (tp (ss + k))) = false; rw [show isLt (tp (ss + k)) = true from hlt.2]; rfl) hf)
        rcases Nat.lt_or_ge q k with w | w
        · exact hq q w
        · rw [show q = k by omega]; exact hlt.2
      · refine j_lconst (0) dX6_scans_98 rfl ?_
        refine j_goto 124 dX6_scans_99 (by decide) ?_
        refine j_topl (vL a8 ss (k + 1)) (by first | (show _ = if 7 < k then _ else _; rw [if_pos (by omega)]) | (show _ = if 7 < k then _ else _; rw [if_neg (by omega)])) ?_
        refine j_lstore_n dX6_scans_124 rfl (Nat.le_of_ble_eq_true rfl) rfl ?_
        refine j_aload_n dX6_scans_125 rfl rfl ?_
        refine j_dup dX6_scans_126 rfl ?_
        refine j_getf dX6_scans_127 6 13 rfl (Nat.le_of_ble_eq_true rfl) fl_X6_80 in_6 mH_o rfl ?_
        refine j_iconst (nI 1) dX6_scans_130 rfl ?_
        first | refine j_iaddN dX6_scans_131 ?_ | refine j_iadd dX6_scans_131 ?_
        refine j_putf dX6_scans_132 6 13 rfl (Nat.le_of_ble_eq_true rfl) fl_X6_80 in_6 tyX6 tyX6_ok nmX6 rfl rfl mH_o (Nat.le_of_ble_eq_true rfl) _ mH_p4 ?_
        refine j_goto 73 dX6_scans_135 (by decide) ?_
        refine ih (k + 1) (by omega) (by omega) (fun q hq2 => ?_) (fst_no (P := fun j => !isLt (tp j)) hlt.1 (by show (!isLt (tp (ss + k))) = false; rw [show isLt (tp (ss + k)) = true from hlt.2]; rfl) hf)
        rcases Nat.lt_or_ge q k with w | w
        · exact hq q w
        · rw [show q = k by omega]; exact hlt.2
theorem ml_fig {ss : Nat} (hb : bOK tp) (h8 : ∀ j, a8 j = ubI (tp j)) (hl : len ≤ 400) (hs : ss ≤ len) : J G RX6 cX6_scans 3 none (TQ G 3 0 0 none z (mH σ a0 a1 a2 a3 a4 a5 a6 a7 a8 a9 a10 a11 i0 i1 i2 (nI len) (nI (enF tp len ss)) (nI ss) (nI (tokR tp ((if enF tp len ss - ss ≤ 3 then 2 else 4), ss, enF tp len ss, vlF tp ss (enF tp len ss - ss), 0, 0))) (vlF tp ss (enF tp len ss - ss)) i8 i9 i10 i11)) z (mH σ a0 a1 a2 a3 a4 a5 a6 a7 a8 a9 a10 a11 i0 i1 i2 (nI len) (nI ss) (nI ss) i6 (nI 0) i8 i9 i10 i11) 0 0 241 [some (.ref 171), none, none] [] := by
  suffices H : ∀ (kk k : Nat), ss + k ≤ len → len < ss + k + kk → fstN (fun j => !isFg (tp j)) (len - (ss + k)) (ss + k) = enF tp len ss → J G RX6 cX6_scans 3 none (TQ G 3 0 0 none z (mH σ a0 a1 a2 a3 a4 a5 a6 a7 a8 a9 a10 a11 i0 i1 i2 (nI len) (nI (enF tp len ss)) (nI ss) (nI (tokR tp ((if enF tp len ss - ss ≤ 3 then 2 else 4), ss, enF tp len ss, vlF tp ss (enF tp len ss - ss), 0, 0))) (vlF tp ss (enF tp len ss - ss)) i8 i9 i10 i11)) z (mH σ a0 a1 a2 a3 a4 a5 a6 a7 a8 a9 a10 a11 i0 i1 i2 (nI len) (nI (ss + k)) (nI ss) i6 (vlF tp ss k) i8 i9 i10 i11) 0 0 241 [some (.ref 171), none, none] [] from H (len + 1) 0 (by omega) (by omega) rfl
  intro kk
  induction kk with
  | zero => intro k h1 h2; exact absurd h2 (by omega)
  | succ kk ih =>
    intro k h1 h2 hf
    have hend : ss + k = enF tp len ss → J G RX6 cX6_scans 3 none (TQ G 3 0 0 none z (mH σ a0 a1 a2 a3 a4 a5 a6 a7 a8 a9 a10 a11 i0 i1 i2 (nI len) (nI (enF tp len ss)) (nI ss) (nI (tokR tp ((if enF tp len ss - ss ≤ 3 then 2 else 4), ss, enF tp len ss, vlF tp ss (enF tp len ss - ss), 0, 0))) (vlF tp ss (enF tp len ss - ss)) i8 i9 i10 i11)) z (mH σ a0 a1 a2 a3 a4 a5 a6 a7 a8 a9 a10 a11 i0 i1 i2 (nI len) (nI (ss + k)) (nI ss) i6 (vlF tp ss k) i8 i9 i10 i11) 0 0 309 [some (.ref 171), none, none] [] := by
      intro he
      rw [← he, Nat.add_sub_cancel_left]
      refine j_aload_n dX6_scans_309 rfl rfl ?_
      refine j_aload_n dX6_scans_310 rfl rfl ?_
      refine j_getf dX6_scans_311 6 13 rfl (Nat.le_of_ble_eq_true rfl) fl_X6_80 in_6 mH_o rfl ?_
      refine j_aload_n dX6_scans_314 rfl rfl ?_
      refine j_getf dX6_scans_315 6 14 rfl (Nat.le_of_ble_eq_true rfl) fl_X6_87 in_6 mH_o rfl ?_
      refine j_isubN dX6_scans_318 (by omega) ?_
      refine j_top (nI k) (by rw [Nat.add_sub_cancel_left]) ?_
      refine j_iconst (nI 3) dX6_scans_319 rfl ?_
      refine j_icmp_leN 327 dX6_scans_320 (by decide) (by omega) (by omega) (fun b320 => ?_) (fun b320 => ?_)
      · have t : tokR tp ((if k ≤ 3 then 2 else 4), ss, ss + k, vlF tp ss k, 0, 0) = 2 := tok_2.mpr (if_pos (by omega))
        refine j_iconst (nI 2) dX6_scans_327 rfl ?_
        refine j_putf dX6_scans_328 6 15 rfl (Nat.le_of_ble_eq_true rfl) fl_X6_90 in_6 tyX6 tyX6_ok nmX6 rfl rfl mH_o (Nat.le_of_ble_eq_true rfl) _ mH_p6 ?_
        exact j_vret rfl dX6_scans_331 (by rw [t] <;> rfl) (Nat.le_of_ble_eq_true rfl) (Nat.le_of_ble_eq_true rfl)
      · have t : tokR tp ((if k ≤ 3 then 2 else 4), ss, ss + k, vlF tp ss k, 0, 0) = 1 := tokR_4 (if_neg (by omega))
        refine j_iconst (nI 1) dX6_scans_323 rfl ?_
        refine j_goto 328 dX6_scans_324 (by decide) ?_
        refine j_putf dX6_scans_328 6 15 rfl (Nat.le_of_ble_eq_true rfl) fl_X6_90 in_6 tyX6 tyX6_ok nmX6 rfl rfl mH_o (Nat.le_of_ble_eq_true rfl) _ mH_p6 ?_
        exact j_vret rfl dX6_scans_331 (by rw [t] <;> rfl) (Nat.le_of_ble_eq_true rfl) (Nat.le_of_ble_eq_true rfl)
    refine j_aload_n dX6_scans_241 rfl rfl ?_
    refine j_bipush (nI 48) dX6_scans_242 rfl ?_
    refine j_bipush (nI 57) dX6_scans_244 rfl ?_
    refine j_callV (m_isAt (e := ss + k) (lo := 48) (hi := 57) hb h8 hl h1 (by decide) (by decide)) dX6_scans_246 rfl mv_X6_83 mH_o rfl ⟨(Nat.le_of_ble_eq_true rfl), (Nat.le_of_ble_eq_true rfl)⟩ ⟨(Nat.le_of_ble_eq_true rfl), (Nat.le_of_ble_eq_true rfl)⟩ (Nat.le_of_ble_eq_true rfl) ?_
    refine j_if_eq 309 dX6_scans_249 (by decide) (fun b249 => ?_) (fun b249 => ?_)
    · exact hend (fst_yes (P := fun j => !isFg (tp j)) (fun q => by show (!isFg (tp (ss + k))) = true; rw [show isFg (tp (ss + k)) = false from and_f b249 q]; rfl) hf)
    · have hlt := and_t b249
      have h8k : a8 (ss + k) = tp (ss + k) := by
        obtain ⟨n, n1, n2, hn⟩ := isFg_v (show isFg (tp (ss + k)) = true from hlt.2)
        rw [h8, hn, ub_nI (by omega)]
      refine j_aload_n dX6_scans_252 rfl rfl ?_
      refine j_aload_n dX6_scans_253 rfl rfl ?_
      refine j_getf dX6_scans_254 6 13 rfl (Nat.le_of_ble_eq_true rfl) fl_X6_80 in_6 mH_o rfl ?_
      refine j_aload_n dX6_scans_257 rfl rfl ?_
      refine j_getf dX6_scans_258 6 14 rfl (Nat.le_of_ble_eq_true rfl) fl_X6_87 in_6 mH_o rfl ?_
      refine j_isubN dX6_scans_261 (by omega) ?_
      refine j_top (nI k) (by rw [Nat.add_sub_cancel_left]) ?_
      refine j_iconst (nI 3) dX6_scans_262 rfl ?_
      refine j_icmp_geN 289 dX6_scans_263 (by decide) (by omega) (by omega) (fun b263 => ?_) (fun b263 => ?_)
      · refine j_aload_n dX6_scans_289 rfl rfl ?_
        refine j_getf dX6_scans_290 6 16 rfl (Nat.le_of_ble_eq_true rfl) fl_X6_107 in_6 mH_o rfl ?_
        refine j_top (vlF tp ss (k + 1)) (by first | (show _ = if k < 3 then _ else _; rw [if_pos (by omega), h8k]) | (show _ = if k < 3 then _ else _; rw [if_neg (by omega)])) ?_
        refine j_putf dX6_scans_293 6 16 rfl (Nat.le_of_ble_eq_true rfl) fl_X6_107 in_6 tyX6 tyX6_ok nmX6 rfl rfl mH_o (Nat.le_of_ble_eq_true rfl) _ mH_p7 ?_
        refine j_aload_n dX6_scans_296 rfl rfl ?_
        refine j_dup dX6_scans_297 rfl ?_
        refine j_getf dX6_scans_298 6 13 rfl (Nat.le_of_ble_eq_true rfl) fl_X6_80 in_6 mH_o rfl ?_
        refine j_iconst (nI 1) dX6_scans_301 rfl ?_
        first | refine j_iaddN dX6_scans_302 ?_ | refine j_iadd dX6_scans_302 ?_
        refine j_putf dX6_scans_303 6 13 rfl (Nat.le_of_ble_eq_true rfl) fl_X6_80 in_6 tyX6 tyX6_ok nmX6 rfl rfl mH_o (Nat.le_of_ble_eq_true rfl) _ mH_p4 ?_
        refine j_goto 241 dX6_scans_306 (by decide) ?_
        exact ih (k + 1) (by omega) (by omega) (fst_no (P := fun j => !isFg (tp j)) hlt.1 (by show (!isFg (tp (ss + k))) = false; rw [show isFg (tp (ss + k)) = true from hlt.2]; rfl) hf)
      · refine j_bipush (nI 10) dX6_scans_266 rfl ?_
        refine j_aload_n dX6_scans_268 rfl rfl ?_
        refine j_getf dX6_scans_269 6 16 rfl (Nat.le_of_ble_eq_true rfl) fl_X6_107 in_6 mH_o rfl ?_
        refine j_imul dX6_scans_272 ?_
        refine j_aload_n dX6_scans_273 rfl rfl ?_
        refine j_getf dX6_scans_274 6 11 rfl (Nat.le_of_ble_eq_true rfl) fl_X6_35 in_6 mH_o rfl ?_
        refine j_aload_n dX6_scans_277 rfl rfl ?_
        refine j_getf dX6_scans_278 6 13 rfl (Nat.le_of_ble_eq_true rfl) fl_X6_80 in_6 mH_o rfl ?_
        refine j_iald dX6_scans_281 mH_a8 rfl (by omega) (by decide) ?_
        refine j_iadd dX6_scans_282 ?_
        refine j_bipush (nI 48) dX6_scans_283 rfl ?_
        refine j_isub dX6_scans_285 ?_
        refine j_goto 293 dX6_scans_286 (by decide) ?_
        refine j_top (vlF tp ss (k + 1)) (by first | (show _ = if k < 3 then _ else _; rw [if_pos (by omega), h8k]) | (show _ = if k < 3 then _ else _; rw [if_neg (by omega)])) ?_
        refine j_putf dX6_scans_293 6 16 rfl (Nat.le_of_ble_eq_true rfl) fl_X6_107 in_6 tyX6 tyX6_ok nmX6 rfl rfl mH_o (Nat.le_of_ble_eq_true rfl) _ mH_p7 ?_
        refine j_aload_n dX6_scans_296 rfl rfl ?_
        refine j_dup dX6_scans_297 rfl ?_
        refine j_getf dX6_scans_298 6 13 rfl (Nat.le_of_ble_eq_true rfl) fl_X6_80 in_6 mH_o rfl ?_
        refine j_iconst (nI 1) dX6_scans_301 rfl ?_
        first | refine j_iaddN dX6_scans_302 ?_ | refine j_iadd dX6_scans_302 ?_
        refine j_putf dX6_scans_303 6 13 rfl (Nat.le_of_ble_eq_true rfl) fl_X6_80 in_6 tyX6 tyX6_ok nmX6 rfl rfl mH_o (Nat.le_of_ble_eq_true rfl) _ mH_p4 ?_
        refine j_goto 241 dX6_scans_306 (by decide) ?_
        exact ih (k + 1) (by omega) (by omega) (fst_no (P := fun j => !isFg (tp j)) hlt.1 (by show (!isFg (tp (ss + k))) = false; rw [show isFg (tp (ss + k)) = true from hlt.2]; rfl) hf)
theorem m_scans (hb : bOK tp) (h8 : ∀ j, a8 j = ubI (tp j)) (hl : len ≤ 400) (he : e ≤ len) : Ct G yX6_scans cX6_scans 3 none 3 0 0 z (mH σ a0 a1 a2 a3 a4 a5 a6 a7 a8 a9 a10 a11 i0 i1 i2 (nI len) (nI e) i5 i6 i7 i8 i9 i10 i11) [.ref 171] none z (mH σ a0 a1 a2 a3 a4 a5 a6 a7 a8 a9 a10 a11 i0 i1 i2 (nI len) (nI (tk tp len e i7).2.2.1) (nI (tk tp len e i7).2.1) (nI (tokR tp ((tk tp len e i7).1, (tk tp len e i7).2.1, (tk tp len e i7).2.2.1, (tk tp len e i7).2.2.2, 0, 0))) ((tk tp len e i7).2.2.2) i8 i9 i10 i11) := by
  refine Ct.ofJ RX6 rfl [some (.ref 171), none, none] rfl (by decide) (by simp [Value.category]) ?_
  have hend : J G RX6 cX6_scans 3 none (TQ G 3 0 0 none z (mH σ a0 a1 a2 a3 a4 a5 a6 a7 a8 a9 a10 a11 i0 i1 i2 (nI len) (nI (tk tp len e i7).2.2.1) (nI (tk tp len e i7).2.1) (nI (tokR tp ((tk tp len e i7).1, (tk tp len e i7).2.1, (tk tp len e i7).2.2.1, (tk tp len e i7).2.2.2, 0, 0))) ((tk tp len e i7).2.2.2) i8 i9 i10 i11)) z (mH σ a0 a1 a2 a3 a4 a5 a6 a7 a8 a9 a10 a11 i0 i1 i2 (nI len) (nI (tkS tp len e)) i5 i6 i7 i8 i9 i10 i11) 0 0 35 [some (.ref 171), none, none] [] := by
    have h1 : tkS tp len e ≤ len := by have := fstN_le (fun j => !isBl (tp j)) (len - e) e; unfold tkS; omega
    have htu : tk tp len e i7 = if len ≤ tkS tp len e then (0, tkS tp len e, tkS tp len e, i7)
      else if isLt (tp (tkS tp len e)) = true then (1, tkS tp len e, enL tp len (tkS tp len e), i7)
      else if isFg (tp (tkS tp len e)) = true then ((if enF tp len (tkS tp len e) - tkS tp len e ≤ 3 then 2 else 4), tkS tp len e, enF tp len (tkS tp len e), vlF tp (tkS tp len e) (enF tp len (tkS tp len e) - tkS tp len e))
      else ((if tp (tkS tp len e) = nI 59 then 3 else 4), tkS tp len e, tkS tp len e + 1, i7) := rfl
    generalize tkS tp len e = ss at h1 htu ⊢
    generalize tk tp len e i7 = tt at htu ⊢
    refine j_aload_n dX6_scans_35 rfl rfl ?_
    refine j_aload_n dX6_scans_36 rfl rfl ?_
    refine j_getf dX6_scans_37 6 13 rfl (Nat.le_of_ble_eq_true rfl) fl_X6_80 in_6 mH_o rfl ?_
    refine j_putf dX6_scans_40 6 14 rfl (Nat.le_of_ble_eq_true rfl) fl_X6_87 in_6 tyX6 tyX6_ok nmX6 rfl rfl mH_o (Nat.le_of_ble_eq_true rfl) _ mH_p5 ?_
    refine j_aload_n dX6_scans_43 rfl rfl ?_
    refine j_getf dX6_scans_44 6 13 rfl (Nat.le_of_ble_eq_true rfl) fl_X6_80 in_6 mH_o rfl ?_
    refine j_aload_n dX6_scans_47 rfl rfl ?_
    refine j_getf dX6_scans_48 6 12 rfl (Nat.le_of_ble_eq_true rfl) fl_X6_74 in_6 mH_o rfl ?_
    refine j_icmp_neN 60 dX6_scans_51 (by decide) (by omega) (by omega) (fun b51 => ?_) (fun b51 => ?_)
    · rw [if_neg (show ¬ len ≤ ss by omega)] at htu
      refine j_aload_n dX6_scans_60 rfl rfl ?_
      refine j_bipush (nI 97) dX6_scans_61 rfl ?_
      refine j_bipush (nI 122) dX6_scans_63 rfl ?_
      refine j_callV (m_isAt (e := ss) (lo := 97) (hi := 122) hb h8 hl h1 (by decide) (by decide)) dX6_scans_65 rfl mv_X6_83 mH_o rfl ⟨(Nat.le_of_ble_eq_true rfl), (Nat.le_of_ble_eq_true rfl)⟩ ⟨(Nat.le_of_ble_eq_true rfl), (Nat.le_of_ble_eq_true rfl)⟩ (Nat.le_of_ble_eq_true rfl) ?_
      refine j_if_eq 225 dX6_scans_68 (by decide) (fun b68 => ?_) (fun b68 => ?_)
      · rw [if_neg (by rw [show isLt (tp ss) = false from and_f b68 (by omega)]; decide)] at htu
        refine j_aload_n dX6_scans_225 rfl rfl ?_
        refine j_bipush (nI 48) dX6_scans_226 rfl ?_
        refine j_bipush (nI 57) dX6_scans_228 rfl ?_
        refine j_callV (m_isAt (e := ss) (lo := 48) (hi := 57) hb h8 hl h1 (by decide) (by decide)) dX6_scans_230 rfl mv_X6_83 mH_o rfl ⟨(Nat.le_of_ble_eq_true rfl), (Nat.le_of_ble_eq_true rfl)⟩ ⟨(Nat.le_of_ble_eq_true rfl), (Nat.le_of_ble_eq_true rfl)⟩ (Nat.le_of_ble_eq_true rfl) ?_
        refine j_if_eq 332 dX6_scans_233 (by decide) (fun b233 => ?_) (fun b233 => ?_)
        · rw [if_neg (by rw [show isFg (tp ss) = false from and_f b233 (by omega)]; decide)] at htu
          refine j_aload_n dX6_scans_332 rfl rfl ?_
          refine j_aload_n dX6_scans_333 rfl rfl ?_
          refine j_bipush (nI 59) dX6_scans_334 rfl ?_
          refine j_bipush (nI 59) dX6_scans_336 rfl ?_
          refine j_callV (m_isAt (e := ss) (lo := 59) (hi := 59) hb h8 hl h1 (by decide) (by decide)) dX6_scans_338 rfl mv_X6_83 mH_o rfl ⟨(Nat.le_of_ble_eq_true rfl), (Nat.le_of_ble_eq_true rfl)⟩ ⟨(Nat.le_of_ble_eq_true rfl), (Nat.le_of_ble_eq_true rfl)⟩ (Nat.le_of_ble_eq_true rfl) ?_
          refine j_if_eq 348 dX6_scans_341 (by decide) (fun b341 => ?_) (fun b341 => ?_)
          · rw [if_neg (fun q => by have := and_f b341 (by omega); rw [isIn_eq.mpr q] at this; exact absurd this (by decide))] at htu
            have t : tokR tp (tt.1, tt.2.1, tt.2.2.1, tt.2.2.2, 0, 0) = 1 := tokR_4 (by rw [htu])
            rw [t, htu]
            refine j_iconst (nI 1) dX6_scans_348 rfl ?_
            refine j_putf dX6_scans_349 6 15 rfl (Nat.le_of_ble_eq_true rfl) fl_X6_90 in_6 tyX6 tyX6_ok nmX6 rfl rfl mH_o (Nat.le_of_ble_eq_true rfl) _ mH_p6 ?_
            refine j_aload_n dX6_scans_352 rfl rfl ?_
            refine j_dup dX6_scans_353 rfl ?_
            refine j_getf dX6_scans_354 6 13 rfl (Nat.le_of_ble_eq_true rfl) fl_X6_80 in_6 mH_o rfl ?_
            refine j_iconst (nI 1) dX6_scans_357 rfl ?_
            first | refine j_iaddN dX6_scans_358 ?_ | refine j_iadd dX6_scans_358 ?_
            refine j_putf dX6_scans_359 6 13 rfl (Nat.le_of_ble_eq_true rfl) fl_X6_80 in_6 tyX6 tyX6_ok nmX6 rfl rfl mH_o (Nat.le_of_ble_eq_true rfl) _ mH_p4 ?_
            exact j_vret rfl dX6_scans_362 rfl (Nat.le_of_ble_eq_true rfl) (Nat.le_of_ble_eq_true rfl)
          · rw [if_pos (isIn_eq.mp (and_t b341).2)] at htu
            have t : tokR tp (tt.1, tt.2.1, tt.2.2.1, tt.2.2.2, 0, 0) = 3 := tok_3.mpr (by rw [htu])
            rw [t, htu]
            refine j_iconst (nI 3) dX6_scans_344 rfl ?_
            refine j_goto 349 dX6_scans_345 (by decide) ?_
            refine j_putf dX6_scans_349 6 15 rfl (Nat.le_of_ble_eq_true rfl) fl_X6_90 in_6 tyX6 tyX6_ok nmX6 rfl rfl mH_o (Nat.le_of_ble_eq_true rfl) _ mH_p6 ?_
            refine j_aload_n dX6_scans_352 rfl rfl ?_
            refine j_dup dX6_scans_353 rfl ?_
            refine j_getf dX6_scans_354 6 13 rfl (Nat.le_of_ble_eq_true rfl) fl_X6_80 in_6 mH_o rfl ?_
            refine j_iconst (nI 1) dX6_scans_357 rfl ?_
            first | refine j_iaddN dX6_scans_358 ?_ | refine j_iadd dX6_scans_358 ?_
            refine j_putf dX6_scans_359 6 13 rfl (Nat.le_of_ble_eq_true rfl) fl_X6_80 in_6 tyX6 tyX6_ok nmX6 rfl rfl mH_o (Nat.le_of_ble_eq_true rfl) _ mH_p4 ?_
            exact j_vret rfl dX6_scans_362 rfl (Nat.le_of_ble_eq_true rfl) (Nat.le_of_ble_eq_true rfl)
        · rw [if_pos (show isFg (tp ss) = true from (and_t b233).2)] at htu
          subst htu
          refine j_aload_n dX6_scans_236 rfl rfl ?_
          refine j_iconst (nI 0) dX6_scans_237 rfl ?_
          refine j_putf dX6_scans_238 6 16 rfl (Nat.le_of_ble_eq_true rfl) fl_X6_107 in_6 tyX6 tyX6_ok nmX6 rfl rfl mH_o (Nat.le_of_ble_eq_true rfl) _ mH_p7 ?_
          exact ml_fig hb h8 hl h1
      · rw [if_pos (show isLt (tp ss) = true from (and_t b68).2)] at htu
        subst htu
        refine j_lconst (0) dX6_scans_71 rfl ?_
        refine j_lstore_n dX6_scans_72 rfl (Nat.le_of_ble_eq_true rfl) rfl ?_
        exact ml_let hb h8 hl h1
    · rw [if_pos (show len ≤ ss by omega)] at htu
      refine j_aload_n dX6_scans_54 rfl rfl ?_
      refine j_iconst (nI 0) dX6_scans_55 rfl ?_
      refine j_putf dX6_scans_56 6 15 rfl (Nat.le_of_ble_eq_true rfl) fl_X6_90 in_6 tyX6 tyX6_ok nmX6 rfl rfl mH_o (Nat.le_of_ble_eq_true rfl) _ mH_p6 ?_
      exact j_vret rfl dX6_scans_59 (by rw [htu] <;> rfl) (Nat.le_of_ble_eq_true rfl) (Nat.le_of_ble_eq_true rfl)
  suffices H : ∀ (kk e2 : Nat), e2 ≤ len → len < e2 + kk → fstN (fun j => !isBl (tp j)) (len - e2) e2 = tkS tp len e → J G RX6 cX6_scans 3 none (TQ G 3 0 0 none z (mH σ a0 a1 a2 a3 a4 a5 a6 a7 a8 a9 a10 a11 i0 i1 i2 (nI len) (nI (tk tp len e i7).2.2.1) (nI (tk tp len e i7).2.1) (nI (tokR tp ((tk tp len e i7).1, (tk tp len e i7).2.1, (tk tp len e i7).2.2.1, (tk tp len e i7).2.2.2, 0, 0))) ((tk tp len e i7).2.2.2) i8 i9 i10 i11)) z (mH σ a0 a1 a2 a3 a4 a5 a6 a7 a8 a9 a10 a11 i0 i1 i2 (nI len) (nI e2) i5 i6 i7 i8 i9 i10 i11) 0 0 0 [some (.ref 171), none, none] [] from H (len + 1) e he (by omega) rfl
  intro kk
  induction kk with
  | zero => intro e2 h1 h2; exact absurd h2 (by omega)
  | succ kk ih =>
    intro e2 h1 h2 hf
    refine j_aload_n dX6_scans_0 rfl rfl ?_
    refine j_bipush (nI 32) dX6_scans_1 rfl ?_
    refine j_bipush (nI 32) dX6_scans_3 rfl ?_
    refine j_callV (m_isAt (e := e2) (lo := 32) (hi := 32) hb h8 hl h1 (by decide) (by decide)) dX6_scans_5 rfl mv_X6_83 mH_o rfl ⟨(Nat.le_of_ble_eq_true rfl), (Nat.le_of_ble_eq_true rfl)⟩ ⟨(Nat.le_of_ble_eq_true rfl), (Nat.le_of_ble_eq_true rfl)⟩ (Nat.le_of_ble_eq_true rfl) ?_
    refine j_if_ne 22 dX6_scans_8 (by decide) (fun b8 => ?_) (fun b8 => ?_)
    · refine j_aload_n dX6_scans_22 rfl rfl ?_
      refine j_dup dX6_scans_23 rfl ?_
      refine j_getf dX6_scans_24 6 13 rfl (Nat.le_of_ble_eq_true rfl) fl_X6_80 in_6 mH_o rfl ?_
      refine j_iconst (nI 1) dX6_scans_27 rfl ?_
      first | refine j_iaddN dX6_scans_28 ?_ | refine j_iadd dX6_scans_28 ?_
      refine j_putf dX6_scans_29 6 13 rfl (Nat.le_of_ble_eq_true rfl) fl_X6_80 in_6 tyX6 tyX6_ok nmX6 rfl rfl mH_o (Nat.le_of_ble_eq_true rfl) _ mH_p4 ?_
      refine j_goto 0 dX6_scans_32 (by decide) ?_
      have hlt : e2 < len ∧ isBl (tp e2) = true := by
        first | exact ⟨(and_t b8).1, by unfold isBl; exact decide_eq_true (Or.inl (isIn_eq.mp (and_t b8).2))⟩ | exact ⟨(and_t b19).1, by unfold isBl; exact decide_eq_true (Or.inr (isIn_eq.mp (and_t b19).2))⟩
      exact ih (e2 + 1) (by omega) (by omega) (fst_no (P := fun j => !isBl (tp j)) hlt.1 (by show (!isBl (tp e2)) = false; rw [hlt.2]; rfl) hf)
    · refine j_aload_n dX6_scans_11 rfl rfl ?_
      refine j_bipush (nI 10) dX6_scans_12 rfl ?_
      refine j_bipush (nI 10) dX6_scans_14 rfl ?_
      refine j_callV (m_isAt (e := e2) (lo := 10) (hi := 10) hb h8 hl h1 (by decide) (by decide)) dX6_scans_16 rfl mv_X6_83 mH_o rfl ⟨(Nat.le_of_ble_eq_true rfl), (Nat.le_of_ble_eq_true rfl)⟩ ⟨(Nat.le_of_ble_eq_true rfl), (Nat.le_of_ble_eq_true rfl)⟩ (Nat.le_of_ble_eq_true rfl) ?_
      refine j_if_eq 35 dX6_scans_19 (by decide) (fun b19 => ?_) (fun b19 => ?_)
      · have h3 : e2 = tkS tp len e := fst_yes (P := fun j => !isBl (tp j)) (fun q => by
          have c1 := and_f b8 q
          have c2 := and_f b19 q
          have c3 : isBl (tp e2) = false := by
            unfold isBl
            simp only [decide_eq_false_iff_not]
            rintro (w | w)
            · rw [isIn_eq.mpr w] at c1; exact absurd c1 (by decide)
            · rw [isIn_eq.mpr w] at c2; exact absurd c2 (by decide)
          show (!isBl (tp e2)) = true
          rw [c3]; rfl) hf
        rw [h3]
        exact hend
      · refine j_aload_n dX6_scans_22 rfl rfl ?_
        refine j_dup dX6_scans_23 rfl ?_
        refine j_getf dX6_scans_24 6 13 rfl (Nat.le_of_ble_eq_true rfl) fl_X6_80 in_6 mH_o rfl ?_
        refine j_iconst (nI 1) dX6_scans_27 rfl ?_
        first | refine j_iaddN dX6_scans_28 ?_ | refine j_iadd dX6_scans_28 ?_
        refine j_putf dX6_scans_29 6 13 rfl (Nat.le_of_ble_eq_true rfl) fl_X6_80 in_6 tyX6 tyX6_ok nmX6 rfl rfl mH_o (Nat.le_of_ble_eq_true rfl) _ mH_p4 ?_
        refine j_goto 0 dX6_scans_32 (by decide) ?_
        have hlt : e2 < len ∧ isBl (tp e2) = true := by
          first | exact ⟨(and_t b8).1, by unfold isBl; exact decide_eq_true (Or.inl (isIn_eq.mp (and_t b8).2))⟩ | exact ⟨(and_t b19).1, by unfold isBl; exact decide_eq_true (Or.inr (isIn_eq.mp (and_t b19).2))⟩
        exact ih (e2 + 1) (by omega) (by omega) (fst_no (P := fun j => !isBl (tp j)) hlt.1 (by show (!isBl (tp e2)) = false; rw [hlt.2]; rfl) hf)
end MS
section MT
variable {G : GG} {z : Nat} {σ : AH} {a0 a1 a2 a3 a4 a5 a6 a7 a8 a9 a10 a11 : Nat → Int32} {i0 i1 i2 i3 i4 i5 i6 i7 i8 i9 i10 i11 : Int32} {tp : Nat → Int32} {len : Nat} {r : RS}
theorem m_scansR (hb : bOK tp) (h8 : ∀ j, a8 j = ubI (tp j)) (hl : len ≤ 400) (hr : r.2.2.1 ≤ len) : Ct G yX6_scans cX6_scans 3 none 3 0 0 z (mH σ a0 a1 a2 a3 a4 a5 a6 a7 a8 a9 a10 a11 i0 i1 i2 (nI len) (nI r.2.2.1) (nI r.2.1) (nI (tokR tp r)) r.2.2.2.1 r.2.2.2.2.2 r.2.2.2.2.1 i10 i11) [.ref 171] none z (mH σ a0 a1 a2 a3 a4 a5 a6 a7 a8 a9 a10 a11 i0 i1 i2 (nI len) (nI (nextT tp len r).2.2.1) (nI (nextT tp len r).2.1) (nI (tokR tp (nextT tp len r))) ((nextT tp len r).2.2.2.1) ((nextT tp len r).2.2.2.2.2) ((nextT tp len r).2.2.2.2.1) i10 i11) := m_scans hb h8 hl hr
theorem m_faults (n : Nat) : Ct G yX6_faults cX6_faults 2 (some .boolean) 1 0 0 z (mH σ a0 a1 a2 a3 a4 a5 a6 a7 a8 a9 a10 a11 i0 i1 i2 (nI len) (nI r.2.2.1) (nI r.2.1) (nI (tokR tp r)) r.2.2.2.1 r.2.2.2.2.2 r.2.2.2.2.1 i10 i11) [.ref 171, .int (nI n)] (some (.int (nI 0))) z (mH σ a0 a1 a2 a3 a4 a5 a6 a7 a8 a9 a10 a11 i0 i1 i2 (nI len) (nI (hsF n r).2.2.1) (nI (hsF n r).2.1) (nI (tokR tp (hsF n r))) ((hsF n r).2.2.2.1) ((hsF n r).2.2.2.2.2) ((hsF n r).2.2.2.2.1) i10 i11) := by
  refine Ct.ofJ RX6 rfl [some (.ref 171), some (.int (nI n))] rfl (by decide) (by simp [Value.category]) ?_
  refine j_aload_n dX6_faults_0 rfl rfl ?_
  refine j_iload_n dX6_faults_1 rfl rfl ?_
  refine j_putf dX6_faults_2 6 17 rfl (Nat.le_of_ble_eq_true rfl) fl_X6_110 in_6 tyX6 tyX6_ok nmX6 rfl rfl mH_o (Nat.le_of_ble_eq_true rfl) _ mH_p8 ?_
  refine j_iconst (nI 0) dX6_faults_5 rfl ?_
  exact j_zret .boolean rfl rfl dX6_faults_6 rfl rfl (Nat.le_of_ble_eq_true rfl) (Nat.le_of_ble_eq_true rfl)
theorem m_takes (lo hi : Int32) (hlo : (-1 : Int32) < lo) (hb : bOK tp) (h8 : ∀ j, a8 j = ubI (tp j)) (hl : len ≤ 400) (hr : rOK len r) : Ct G yX6_takes cX6_takes 3 (some .boolean) 4 0 0 z (mH σ a0 a1 a2 a3 a4 a5 a6 a7 a8 a9 a10 a11 i0 i1 i2 (nI len) (nI r.2.2.1) (nI r.2.1) (nI (tokR tp r)) r.2.2.2.1 r.2.2.2.2.2 r.2.2.2.2.1 i10 i11) [.ref 171, .int lo, .int hi] (some (.int (b2I (tNum tp len lo hi (-1) r).1))) z (mH σ a0 a1 a2 a3 a4 a5 a6 a7 a8 a9 a10 a11 i0 i1 i2 (nI len) (nI ((tNum tp len lo hi (-1) r).2).2.2.1) (nI ((tNum tp len lo hi (-1) r).2).2.1) (nI (tokR tp ((tNum tp len lo hi (-1) r).2))) (((tNum tp len lo hi (-1) r).2).2.2.2.1) (((tNum tp len lo hi (-1) r).2).2.2.2.2.2) (((tNum tp len lo hi (-1) r).2).2.2.2.2.1) i10 i11) := by
  refine Ct.ofJ RX6 rfl [some (.ref 171), some (.int lo), some (.int hi)] rfl (by decide) (by simp [Value.category]) ?_
  have h2 := tok_2 (tp := tp) (r := r)
  have h8t := tok_le (tp := tp) (r := r)
  by_cases hA : r.1 = 2
  · by_cases hB : r.2.2.2.1 < lo ∨ hi < r.2.2.2.1
    · have e : tNum tp len lo hi (-1) r = (false, hsF 2 r) := by
        unfold tNum
        rw [if_pos hA]
        rcases hB with q | q
        · rw [if_pos q]
        · by_cases q2 : r.2.2.2.1 < lo
          · rw [if_pos q2]
          · rw [if_neg q2, if_pos q]
      rw [e]
      refine j_aload_n dX6_takes_0 rfl rfl ?_
      refine j_getf dX6_takes_1 6 15 rfl (Nat.le_of_ble_eq_true rfl) fl_X6_90 in_6 mH_o rfl ?_
      refine j_iconst (nI 2) dX6_takes_4 rfl ?_
      refine j_icmp_eqN 14 dX6_takes_5 (by decide) (by omega) (by omega) (fun b5 => ?_) (fun b5 => by exact absurd (h2.mpr hA) b5)
      refine j_aload_n dX6_takes_14 rfl rfl ?_
      refine j_getf dX6_takes_15 6 16 rfl (Nat.le_of_ble_eq_true rfl) fl_X6_107 in_6 mH_o rfl ?_
      refine j_i2l dX6_takes_18 ?_
      refine j_iload_n dX6_takes_19 rfl rfl ?_
      refine j_i2l dX6_takes_20 ?_
      refine j_iload_n dX6_takes_21 rfl rfl ?_
      refine j_i2l dX6_takes_22 ?_
      refine j_callS (m_in3 r.2.2.2.1 lo hi rfl rfl) dX6_takes_23 rfl ms_X6_54 ⟨(Nat.le_of_ble_eq_true rfl), (Nat.le_of_ble_eq_true rfl)⟩ ⟨(Nat.le_of_ble_eq_true rfl), (Nat.le_of_ble_eq_true rfl)⟩ (Nat.le_of_ble_eq_true rfl) ?_
      refine j_top (nI 0) (inI_no hB) ?_
      refine j_if_ne 35 dX6_takes_26 (by decide) (fun h => absurd rfl h) (fun _ => ?_)
      refine j_aload_n dX6_takes_29 rfl rfl ?_
      refine j_iconst (nI 2) dX6_takes_30 rfl ?_
      refine j_callV (m_faults 2) dX6_takes_31 rfl mv_X6_113 mH_o rfl ⟨(Nat.le_of_ble_eq_true rfl), (Nat.le_of_ble_eq_true rfl)⟩ ⟨(Nat.le_of_ble_eq_true rfl), (Nat.le_of_ble_eq_true rfl)⟩ (Nat.le_of_ble_eq_true rfl) ?_
      exact j_zret .boolean rfl rfl dX6_takes_34 rfl rfl (Nat.le_of_ble_eq_true rfl) (Nat.le_of_ble_eq_true rfl)
    · have h1 : ¬ r.2.2.2.1 < lo := fun q => hB (Or.inl q)
      have h3 : ¬ hi < r.2.2.2.1 := fun q => hB (Or.inr q)
      have h4 : ¬ r.2.2.2.1 = -1 := fun q => h1 (by rw [q]; exact hlo)
      have e : tNum tp len lo hi (-1) r = (true, nextT tp len (r.1, r.2.1, r.2.2.1, r.2.2.2.1, r.2.2.2.1, r.2.2.2.2.2)) := by
        unfold tNum
        rw [if_pos hA, if_neg h1, if_neg h3, if_neg h4]
      rw [e]
      refine j_aload_n dX6_takes_0 rfl rfl ?_
      refine j_getf dX6_takes_1 6 15 rfl (Nat.le_of_ble_eq_true rfl) fl_X6_90 in_6 mH_o rfl ?_
      refine j_iconst (nI 2) dX6_takes_4 rfl ?_
      refine j_icmp_eqN 14 dX6_takes_5 (by decide) (by omega) (by omega) (fun b5 => ?_) (fun b5 => by exact absurd (h2.mpr hA) b5)
      refine j_aload_n dX6_takes_14 rfl rfl ?_
      refine j_getf dX6_takes_15 6 16 rfl (Nat.le_of_ble_eq_true rfl) fl_X6_107 in_6 mH_o rfl ?_
      refine j_i2l dX6_takes_18 ?_
      refine j_iload_n dX6_takes_19 rfl rfl ?_
      refine j_i2l dX6_takes_20 ?_
      refine j_iload_n dX6_takes_21 rfl rfl ?_
      refine j_i2l dX6_takes_22 ?_
      refine j_callS (m_in3 r.2.2.2.1 lo hi rfl rfl) dX6_takes_23 rfl ms_X6_54 ⟨(Nat.le_of_ble_eq_true rfl), (Nat.le_of_ble_eq_true rfl)⟩ ⟨(Nat.le_of_ble_eq_true rfl), (Nat.le_of_ble_eq_true rfl)⟩ (Nat.le_of_ble_eq_true rfl) ?_
      refine j_top (nI 1) (inI_yes h1 (Int32.not_lt.mp h3)) ?_
      refine j_if_ne 35 dX6_takes_26 (by decide) (fun _ => ?_) (fun h => absurd h (by decide))
      refine j_aload_n dX6_takes_35 rfl rfl ?_
      refine j_aload_n dX6_takes_36 rfl rfl ?_
      refine j_getf dX6_takes_37 6 16 rfl (Nat.le_of_ble_eq_true rfl) fl_X6_107 in_6 mH_o rfl ?_
      refine j_putf dX6_takes_40 6 18 rfl (Nat.le_of_ble_eq_true rfl) fl_X6_116 in_6 tyX6 tyX6_ok nmX6 rfl rfl mH_o (Nat.le_of_ble_eq_true rfl) _ mH_p9 ?_
      refine j_aload_n dX6_takes_43 rfl rfl ?_
      refine j_callV (m_scansR (r := (r.1, r.2.1, r.2.2.1, r.2.2.2.1, r.2.2.2.1, r.2.2.2.2.2)) hb h8 hl hr.2) dX6_takes_44 rfl mv_X6_119 mH_o rfl ⟨(Nat.le_of_ble_eq_true rfl), (Nat.le_of_ble_eq_true rfl)⟩ ⟨(Nat.le_of_ble_eq_true rfl), (Nat.le_of_ble_eq_true rfl)⟩ (Nat.le_of_ble_eq_true rfl) ?_
      refine j_iconst (nI 1) dX6_takes_47 rfl ?_
      exact j_zret .boolean rfl rfl dX6_takes_48 rfl rfl (Nat.le_of_ble_eq_true rfl) (Nat.le_of_ble_eq_true rfl)
  · have e : tNum tp len lo hi (-1) r = (false, hsF 1 r) := by
      unfold tNum
      rw [if_neg hA]
    rw [e]
    refine j_aload_n dX6_takes_0 rfl rfl ?_
    refine j_getf dX6_takes_1 6 15 rfl (Nat.le_of_ble_eq_true rfl) fl_X6_90 in_6 mH_o rfl ?_
    refine j_iconst (nI 2) dX6_takes_4 rfl ?_
    refine j_icmp_eqN 14 dX6_takes_5 (by decide) (by omega) (by omega) (fun b5 => by exact absurd (h2.mp b5) hA) (fun b5 => ?_)
    refine j_aload_n dX6_takes_8 rfl rfl ?_
    refine j_iconst (nI 1) dX6_takes_9 rfl ?_
    refine j_callV (m_faults 1) dX6_takes_10 rfl mv_X6_113 mH_o rfl ⟨(Nat.le_of_ble_eq_true rfl), (Nat.le_of_ble_eq_true rfl)⟩ ⟨(Nat.le_of_ble_eq_true rfl), (Nat.le_of_ble_eq_true rfl)⟩ (Nat.le_of_ble_eq_true rfl) ?_
    exact j_zret .boolean rfl rfl dX6_takes_13 rfl rfl (Nat.le_of_ble_eq_true rfl) (Nat.le_of_ble_eq_true rfl)
theorem m_ends (hb : bOK tp) (h8 : ∀ j, a8 j = ubI (tp j)) (hl : len ≤ 400) (hr : rOK len r) : Ct G yX6_ends cX6_ends 1 (some .boolean) 4 0 0 z (mH σ a0 a1 a2 a3 a4 a5 a6 a7 a8 a9 a10 a11 i0 i1 i2 (nI len) (nI r.2.2.1) (nI r.2.1) (nI (tokR tp r)) r.2.2.2.1 r.2.2.2.2.2 r.2.2.2.2.1 i10 i11) [.ref 171] (some (.int (b2I (tSign tp len r).1))) z (mH σ a0 a1 a2 a3 a4 a5 a6 a7 a8 a9 a10 a11 i0 i1 i2 (nI len) (nI ((tSign tp len r).2).2.2.1) (nI ((tSign tp len r).2).2.1) (nI (tokR tp ((tSign tp len r).2))) (((tSign tp len r).2).2.2.2.1) (((tSign tp len r).2).2.2.2.2.2) (((tSign tp len r).2).2.2.2.2.1) i10 i11) := by
  refine Ct.ofJ RX6 rfl [some (.ref 171)] rfl (by decide) (by simp [Value.category]) ?_
  have h2 := tok_3 (tp := tp) (r := r)
  have h8t := tok_le (tp := tp) (r := r)
  by_cases hA : r.1 = 3
  · have e : tSign tp len r = (true, nextT tp len r) := by unfold tSign; rw [if_pos hA]
    rw [e]
    refine j_aload_n dX6_ends_0 rfl rfl ?_
    refine j_getf dX6_ends_1 6 15 rfl (Nat.le_of_ble_eq_true rfl) fl_X6_90 in_6 mH_o rfl ?_
    refine j_iconst (nI 3) dX6_ends_4 rfl ?_
    refine j_icmp_eqN 14 dX6_ends_5 (by decide) (by omega) (by omega) (fun b5 => ?_) (fun b5 => by exact absurd (h2.mpr hA) b5)
    refine j_aload_n dX6_ends_14 rfl rfl ?_
    refine j_callV (m_scansR hb h8 hl hr.2) dX6_ends_15 rfl mv_X6_119 mH_o rfl ⟨(Nat.le_of_ble_eq_true rfl), (Nat.le_of_ble_eq_true rfl)⟩ ⟨(Nat.le_of_ble_eq_true rfl), (Nat.le_of_ble_eq_true rfl)⟩ (Nat.le_of_ble_eq_true rfl) ?_
    refine j_iconst (nI 1) dX6_ends_18 rfl ?_
    exact j_zret .boolean rfl rfl dX6_ends_19 rfl rfl (Nat.le_of_ble_eq_true rfl) (Nat.le_of_ble_eq_true rfl)
  · have e : tSign tp len r = (false, hsF 1 r) := by unfold tSign; rw [if_neg hA]
    rw [e]
    refine j_aload_n dX6_ends_0 rfl rfl ?_
    refine j_getf dX6_ends_1 6 15 rfl (Nat.le_of_ble_eq_true rfl) fl_X6_90 in_6 mH_o rfl ?_
    refine j_iconst (nI 3) dX6_ends_4 rfl ?_
    refine j_icmp_eqN 14 dX6_ends_5 (by decide) (by omega) (by omega) (fun b5 => by exact absurd (h2.mp b5) hA) (fun b5 => ?_)
    refine j_aload_n dX6_ends_8 rfl rfl ?_
    refine j_iconst (nI 1) dX6_ends_9 rfl ?_
    refine j_callV (m_faults 1) dX6_ends_10 rfl mv_X6_113 mH_o rfl ⟨(Nat.le_of_ble_eq_true rfl), (Nat.le_of_ble_eq_true rfl)⟩ ⟨(Nat.le_of_ble_eq_true rfl), (Nat.le_of_ble_eq_true rfl)⟩ (Nat.le_of_ble_eq_true rfl) ?_
    exact j_zret .boolean rfl rfl dX6_ends_13 rfl rfl (Nat.le_of_ble_eq_true rfl) (Nat.le_of_ble_eq_true rfl)
end MT
