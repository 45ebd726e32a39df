/-! what stands at each place of the code, printed -/
theorem dL_isSound_0 : decode cL_isSound 0 = .ok (.aload_n 0, 1) := by decide +kernel
theorem dL_isSound_1 : decode cL_isSound 1 = .ok (.iconst 1, 1) := by decide +kernel
theorem dL_isSound_2 : decode cL_isSound 2 = .ok (.invokestatic 73, 3) := by decide +kernel
theorem dL_isSound_5 : decode cL_isSound 5 = .ok (.istore_n 1, 1) := by decide +kernel
theorem dL_isSound_6 : decode cL_isSound 6 = .ok (.aload_n 0, 1) := by decide +kernel
theorem dL_isSound_7 : decode cL_isSound 7 = .ok (.iconst 2, 1) := by decide +kernel
theorem dL_isSound_8 : decode cL_isSound 8 = .ok (.invokestatic 73, 3) := by decide +kernel
theorem dL_isSound_11 : decode cL_isSound 11 = .ok (.istore_n 2, 1) := by decide +kernel
theorem dL_isSound_12 : decode cL_isSound 12 = .ok (.iconst 0, 1) := by decide +kernel
theorem dL_isSound_13 : decode cL_isSound 13 = .ok (.istore_n 3, 1) := by decide +kernel
theorem dL_isSound_14 : decode cL_isSound 14 = .ok (.iconst 0, 1) := by decide +kernel
theorem dL_isSound_15 : decode cL_isSound 15 = .ok (.istore 4, 2) := by decide +kernel
theorem dL_isSound_17 : decode cL_isSound 17 = .ok (.aload_n 0, 1) := by decide +kernel
theorem dL_isSound_18 : decode cL_isSound 18 = .ok (.iconst 3, 1) := by decide +kernel
theorem dL_isSound_19 : decode cL_isSound 19 = .ok (.invokestatic 73, 3) := by decide +kernel
theorem dL_isSound_22 : decode cL_isSound 22 = .ok (.iload_n 2, 1) := by decide +kernel
theorem dL_isSound_23 : decode cL_isSound 23 = .ok (.iload_n 1, 1) := by decide +kernel
theorem dL_isSound_24 : decode cL_isSound 24 = .ok (.isub, 1) := by decide +kernel
theorem dL_isSound_25 : decode cL_isSound 25 = .ok (.if_icmp .ne 63, 3) := by decide +kernel
theorem dL_isSound_28 : decode cL_isSound 28 = .ok (.aload_n 0, 1) := by decide +kernel
theorem dL_isSound_29 : decode cL_isSound 29 = .ok (.iconst 3, 1) := by decide +kernel
theorem dL_isSound_30 : decode cL_isSound 30 = .ok (.invokestatic 73, 3) := by decide +kernel
theorem dL_isSound_33 : decode cL_isSound 33 = .ok (.aload_n 0, 1) := by decide +kernel
theorem dL_isSound_34 : decode cL_isSound 34 = .ok (.iconst 0, 1) := by decide +kernel
theorem dL_isSound_35 : decode cL_isSound 35 = .ok (.invokestatic 73, 3) := by decide +kernel
theorem dL_isSound_38 : decode cL_isSound 38 = .ok (.if_icmp .gt 50, 3) := by decide +kernel
theorem dL_isSound_41 : decode cL_isSound 41 = .ok (.iload_n 1, 1) := by decide +kernel
theorem dL_isSound_42 : decode cL_isSound 42 = .ok (.aload_n 0, 1) := by decide +kernel
theorem dL_isSound_43 : decode cL_isSound 43 = .ok (.iconst 0, 1) := by decide +kernel
theorem dL_isSound_44 : decode cL_isSound 44 = .ok (.iconst 1, 1) := by decide +kernel
theorem dL_isSound_45 : decode cL_isSound 45 = .ok (.invokestatic 78, 3) := by decide +kernel
theorem dL_isSound_48 : decode cL_isSound 48 = .ok (.aload_n 0, 1) := by decide +kernel
theorem dL_isSound_49 : decode cL_isSound 49 = .ok (.iconst 1, 1) := by decide +kernel
theorem dL_isSound_50 : decode cL_isSound 50 = .ok (.iconst 1, 1) := by decide +kernel
theorem dL_isSound_51 : decode cL_isSound 51 = .ok (.invokestatic 78, 3) := by decide +kernel
theorem dL_isSound_54 : decode cL_isSound 54 = .ok (.invokestatic 81, 3) := by decide +kernel
theorem dL_isSound_57 : decode cL_isSound 57 = .ok (.if_icmp .ne 31, 3) := by decide +kernel
theorem dL_isSound_60 : decode cL_isSound 60 = .ok (.aload_n 0, 1) := by decide +kernel
theorem dL_isSound_61 : decode cL_isSound 61 = .ok (.iload_n 2, 1) := by decide +kernel
theorem dL_isSound_62 : decode cL_isSound 62 = .ok (.iconst 0, 1) := by decide +kernel
theorem dL_isSound_63 : decode cL_isSound 63 = .ok (.invokestatic 84, 3) := by decide +kernel
theorem dL_isSound_66 : decode cL_isSound 66 = .ok (.bipush (-11), 2) := by decide +kernel
theorem dL_isSound_68 : decode cL_isSound 68 = .ok (.if_icmp .ne 20, 3) := by decide +kernel
theorem dL_isSound_71 : decode cL_isSound 71 = .ok (.aload_n 0, 1) := by decide +kernel
theorem dL_isSound_72 : decode cL_isSound 72 = .ok (.iload_n 1, 1) := by decide +kernel
theorem dL_isSound_73 : decode cL_isSound 73 = .ok (.iconst 1, 1) := by decide +kernel
theorem dL_isSound_74 : decode cL_isSound 74 = .ok (.isub, 1) := by decide +kernel
theorem dL_isSound_75 : decode cL_isSound 75 = .ok (.iconst 0, 1) := by decide +kernel
theorem dL_isSound_76 : decode cL_isSound 76 = .ok (.invokestatic 84, 3) := by decide +kernel
theorem dL_isSound_79 : decode cL_isSound 79 = .ok (.bipush (-11), 2) := by decide +kernel
theorem dL_isSound_81 : decode cL_isSound 81 = .ok (.if_icmp .ne 7, 3) := by decide +kernel
theorem dL_isSound_84 : decode cL_isSound 84 = .ok (.iconst 1, 1) := by decide +kernel
theorem dL_isSound_85 : decode cL_isSound 85 = .ok (.goto 4, 3) := by decide +kernel
theorem dL_isSound_88 : decode cL_isSound 88 = .ok (.iconst 0, 1) := by decide +kernel
theorem dL_isSound_89 : decode cL_isSound 89 = .ok (.istore 5, 2) := by decide +kernel
theorem dL_isSound_91 : decode cL_isSound 91 = .ok (.iload_n 1, 1) := by decide +kernel
theorem dL_isSound_92 : decode cL_isSound 92 = .ok (.istore 6, 2) := by decide +kernel
theorem dL_isSound_94 : decode cL_isSound 94 = .ok (.iload 6, 2) := by decide +kernel
theorem dL_isSound_96 : decode cL_isSound 96 = .ok (.iload_n 2, 1) := by decide +kernel
theorem dL_isSound_97 : decode cL_isSound 97 = .ok (.if_icmp .ge 142, 3) := by decide +kernel
theorem dL_isSound_100 : decode cL_isSound 100 = .ok (.iload 5, 2) := by decide +kernel
theorem dL_isSound_102 : decode cL_isSound 102 = .ok (.ifCond .eq 137, 3) := by decide +kernel
theorem dL_isSound_105 : decode cL_isSound 105 = .ok (.aload_n 0, 1) := by decide +kernel
theorem dL_isSound_106 : decode cL_isSound 106 = .ok (.iload 6, 2) := by decide +kernel
theorem dL_isSound_108 : decode cL_isSound 108 = .ok (.iconst 4, 1) := by decide +kernel
theorem dL_isSound_109 : decode cL_isSound 109 = .ok (.invokestatic 84, 3) := by decide +kernel
theorem dL_isSound_112 : decode cL_isSound 112 = .ok (.istore 7, 2) := by decide +kernel
theorem dL_isSound_114 : decode cL_isSound 114 = .ok (.iload_n 3, 1) := by decide +kernel
theorem dL_isSound_115 : decode cL_isSound 115 = .ok (.iload 7, 2) := by decide +kernel
theorem dL_isSound_117 : decode cL_isSound 117 = .ok (.iconst 1, 1) := by decide +kernel
theorem dL_isSound_118 : decode cL_isSound 118 = .ok (.iand, 1) := by decide +kernel
theorem dL_isSound_119 : decode cL_isSound 119 = .ok (.iload 7, 2) := by decide +kernel
theorem dL_isSound_121 : decode cL_isSound 121 = .ok (.iconst 1, 1) := by decide +kernel
theorem dL_isSound_122 : decode cL_isSound 122 = .ok (.ishr, 1) := by decide +kernel
theorem dL_isSound_123 : decode cL_isSound 123 = .ok (.iadd, 1) := by decide +kernel
theorem dL_isSound_124 : decode cL_isSound 124 = .ok (.iadd, 1) := by decide +kernel
theorem dL_isSound_125 : decode cL_isSound 125 = .ok (.istore_n 3, 1) := by decide +kernel
theorem dL_isSound_126 : decode cL_isSound 126 = .ok (.iload 4, 2) := by decide +kernel
theorem dL_isSound_128 : decode cL_isSound 128 = .ok (.iload 7, 2) := by decide +kernel
theorem dL_isSound_130 : decode cL_isSound 130 = .ok (.iconst 3, 1) := by decide +kernel
theorem dL_isSound_131 : decode cL_isSound 131 = .ok (.if_icmp .ne 7, 3) := by decide +kernel
theorem dL_isSound_134 : decode cL_isSound 134 = .ok (.iconst 1, 1) := by decide +kernel
theorem dL_isSound_135 : decode cL_isSound 135 = .ok (.goto 4, 3) := by decide +kernel
theorem dL_isSound_138 : decode cL_isSound 138 = .ok (.iconst 0, 1) := by decide +kernel
theorem dL_isSound_139 : decode cL_isSound 139 = .ok (.iadd, 1) := by decide +kernel
theorem dL_isSound_140 : decode cL_isSound 140 = .ok (.istore 4, 2) := by decide +kernel
theorem dL_isSound_142 : decode cL_isSound 142 = .ok (.aload_n 0, 1) := by decide +kernel
theorem dL_isSound_143 : decode cL_isSound 143 = .ok (.iload 6, 2) := by decide +kernel
theorem dL_isSound_145 : decode cL_isSound 145 = .ok (.iconst 5, 1) := by decide +kernel
theorem dL_isSound_146 : decode cL_isSound 146 = .ok (.invokestatic 84, 3) := by decide +kernel
theorem dL_isSound_149 : decode cL_isSound 149 = .ok (.aload_n 0, 1) := by decide +kernel
theorem dL_isSound_150 : decode cL_isSound 150 = .ok (.iconst 0, 1) := by decide +kernel
theorem dL_isSound_151 : decode cL_isSound 151 = .ok (.iconst 0, 1) := by decide +kernel
theorem dL_isSound_152 : decode cL_isSound 152 = .ok (.invokestatic 78, 3) := by decide +kernel
theorem dL_isSound_155 : decode cL_isSound 155 = .ok (.iload 6, 2) := by decide +kernel
theorem dL_isSound_157 : decode cL_isSound 157 = .ok (.if_icmp .le 7, 3) := by decide +kernel
theorem dL_isSound_160 : decode cL_isSound 160 = .ok (.iconst 1, 1) := by decide +kernel
theorem dL_isSound_161 : decode cL_isSound 161 = .ok (.goto 4, 3) := by decide +kernel
theorem dL_isSound_164 : decode cL_isSound 164 = .ok (.iconst 0, 1) := by decide +kernel
theorem dL_isSound_165 : decode cL_isSound 165 = .ok (.aload_n 0, 1) := by decide +kernel
theorem dL_isSound_166 : decode cL_isSound 166 = .ok (.iconst 1, 1) := by decide +kernel
theorem dL_isSound_167 : decode cL_isSound 167 = .ok (.iconst 0, 1) := by decide +kernel
theorem dL_isSound_168 : decode cL_isSound 168 = .ok (.invokestatic 78, 3) := by decide +kernel
theorem dL_isSound_171 : decode cL_isSound 171 = .ok (.iload 6, 2) := by decide +kernel
theorem dL_isSound_173 : decode cL_isSound 173 = .ok (.if_icmp .le 7, 3) := by decide +kernel
theorem dL_isSound_176 : decode cL_isSound 176 = .ok (.iconst 2, 1) := by decide +kernel
theorem dL_isSound_177 : decode cL_isSound 177 = .ok (.goto 4, 3) := by decide +kernel
theorem dL_isSound_180 : decode cL_isSound 180 = .ok (.iconst 0, 1) := by decide +kernel
theorem dL_isSound_181 : decode cL_isSound 181 = .ok (.iadd, 1) := by decide +kernel
theorem dL_isSound_182 : decode cL_isSound 182 = .ok (.if_icmp .ne 48, 3) := by decide +kernel
theorem dL_isSound_185 : decode cL_isSound 185 = .ok (.aload_n 0, 1) := by decide +kernel
theorem dL_isSound_186 : decode cL_isSound 186 = .ok (.iload 6, 2) := by decide +kernel
theorem dL_isSound_188 : decode cL_isSound 188 = .ok (.iconst 0, 1) := by decide +kernel
theorem dL_isSound_189 : decode cL_isSound 189 = .ok (.invokestatic 84, 3) := by decide +kernel
theorem dL_isSound_192 : decode cL_isSound 192 = .ok (.iconst 2, 1) := by decide +kernel
theorem dL_isSound_193 : decode cL_isSound 193 = .ok (.if_icmp .ge 16, 3) := by decide +kernel
theorem dL_isSound_196 : decode cL_isSound 196 = .ok (.aload_n 0, 1) := by decide +kernel
theorem dL_isSound_197 : decode cL_isSound 197 = .ok (.iload 6, 2) := by decide +kernel
theorem dL_isSound_199 : decode cL_isSound 199 = .ok (.iconst 2, 1) := by decide +kernel
theorem dL_isSound_200 : decode cL_isSound 200 = .ok (.invokestatic 84, 3) := by decide +kernel
theorem dL_isSound_203 : decode cL_isSound 203 = .ok (.ifCond .ne 27, 3) := by decide +kernel
theorem dL_isSound_206 : decode cL_isSound 206 = .ok (.goto 20, 3) := by decide +kernel
theorem dL_isSound_209 : decode cL_isSound 209 = .ok (.aload_n 0, 1) := by decide +kernel
theorem dL_isSound_210 : decode cL_isSound 210 = .ok (.iload 6, 2) := by decide +kernel
theorem dL_isSound_212 : decode cL_isSound 212 = .ok (.iconst 1, 1) := by decide +kernel
theorem dL_isSound_213 : decode cL_isSound 213 = .ok (.invokestatic 84, 3) := by decide +kernel
theorem dL_isSound_216 : decode cL_isSound 216 = .ok (.aload_n 0, 1) := by decide +kernel
theorem dL_isSound_217 : decode cL_isSound 217 = .ok (.iload 6, 2) := by decide +kernel
theorem dL_isSound_219 : decode cL_isSound 219 = .ok (.iconst 2, 1) := by decide +kernel
theorem dL_isSound_220 : decode cL_isSound 220 = .ok (.invokestatic 84, 3) := by decide +kernel
theorem dL_isSound_223 : decode cL_isSound 223 = .ok (.if_icmp .eq 7, 3) := by decide +kernel
theorem dL_isSound_226 : decode cL_isSound 226 = .ok (.iconst 1, 1) := by decide +kernel
theorem dL_isSound_227 : decode cL_isSound 227 = .ok (.goto 4, 3) := by decide +kernel
theorem dL_isSound_230 : decode cL_isSound 230 = .ok (.iconst 0, 1) := by decide +kernel
theorem dL_isSound_231 : decode cL_isSound 231 = .ok (.istore 5, 2) := by decide +kernel
theorem dL_isSound_233 : decode cL_isSound 233 = .ok (.iinc 6 1, 3) := by decide +kernel
theorem dL_isSound_236 : decode cL_isSound 236 = .ok (.goto (-142), 3) := by decide +kernel
theorem dL_isSound_239 : decode cL_isSound 239 = .ok (.iload 5, 2) := by decide +kernel
theorem dL_isSound_241 : decode cL_isSound 241 = .ok (.ifCond .eq 26, 3) := by decide +kernel
theorem dL_isSound_244 : decode cL_isSound 244 = .ok (.iload_n 3, 1) := by decide +kernel
theorem dL_isSound_245 : decode cL_isSound 245 = .ok (.aload_n 0, 1) := by decide +kernel
theorem dL_isSound_246 : decode cL_isSound 246 = .ok (.iconst 4, 1) := by decide +kernel
theorem dL_isSound_247 : decode cL_isSound 247 = .ok (.invokestatic 73, 3) := by decide +kernel
theorem dL_isSound_250 : decode cL_isSound 250 = .ok (.if_icmp .ne 17, 3) := by decide +kernel
theorem dL_isSound_253 : decode cL_isSound 253 = .ok (.iload 4, 2) := by decide +kernel
theorem dL_isSound_255 : decode cL_isSound 255 = .ok (.aload_n 0, 1) := by decide +kernel
theorem dL_isSound_256 : decode cL_isSound 256 = .ok (.iconst 5, 1) := by decide +kernel
theorem dL_isSound_257 : decode cL_isSound 257 = .ok (.invokestatic 73, 3) := by decide +kernel
theorem dL_isSound_260 : decode cL_isSound 260 = .ok (.if_icmp .ne 7, 3) := by decide +kernel
theorem dL_isSound_263 : decode cL_isSound 263 = .ok (.iconst 1, 1) := by decide +kernel
theorem dL_isSound_264 : decode cL_isSound 264 = .ok (.goto 4, 3) := by decide +kernel
theorem dL_isSound_267 : decode cL_isSound 267 = .ok (.iconst 0, 1) := by decide +kernel
theorem dL_isSound_268 : decode cL_isSound 268 = .ok (.istore 5, 2) := by decide +kernel
theorem dL_isSound_270 : decode cL_isSound 270 = .ok (.iconst 0, 1) := by decide +kernel
theorem dL_isSound_271 : decode cL_isSound 271 = .ok (.istore 6, 2) := by decide +kernel
theorem dL_isSound_273 : decode cL_isSound 273 = .ok (.iload 6, 2) := by decide +kernel
theorem dL_isSound_275 : decode cL_isSound 275 = .ok (.iconst 2, 1) := by decide +kernel
theorem dL_isSound_276 : decode cL_isSound 276 = .ok (.if_icmp .ge 284, 3) := by decide +kernel
theorem dL_isSound_279 : decode cL_isSound 279 = .ok (.iload 5, 2) := by decide +kernel
theorem dL_isSound_281 : decode cL_isSound 281 = .ok (.ifCond .eq 279, 3) := by decide +kernel
theorem dL_isSound_284 : decode cL_isSound 284 = .ok (.iconst 0, 1) := by decide +kernel
theorem dL_isSound_285 : decode cL_isSound 285 = .ok (.istore 7, 2) := by decide +kernel
theorem dL_isSound_287 : decode cL_isSound 287 = .ok (.aload_n 0, 1) := by decide +kernel
theorem dL_isSound_288 : decode cL_isSound 288 = .ok (.iload 6, 2) := by decide +kernel
theorem dL_isSound_290 : decode cL_isSound 290 = .ok (.iconst 0, 1) := by decide +kernel
theorem dL_isSound_291 : decode cL_isSound 291 = .ok (.invokestatic 78, 3) := by decide +kernel
theorem dL_isSound_294 : decode cL_isSound 294 = .ok (.istore 8, 2) := by decide +kernel
theorem dL_isSound_296 : decode cL_isSound 296 = .ok (.aload_n 0, 1) := by decide +kernel
theorem dL_isSound_297 : decode cL_isSound 297 = .ok (.iload 6, 2) := by decide +kernel
theorem dL_isSound_299 : decode cL_isSound 299 = .ok (.invokestatic 86, 3) := by decide +kernel
theorem dL_isSound_302 : decode cL_isSound 302 = .ok (.istore 9, 2) := by decide +kernel
theorem dL_isSound_304 : decode cL_isSound 304 = .ok (.iconst 0, 1) := by decide +kernel
theorem dL_isSound_305 : decode cL_isSound 305 = .ok (.istore 10, 2) := by decide +kernel
theorem dL_isSound_307 : decode cL_isSound 307 = .ok (.iload 10, 2) := by decide +kernel
theorem dL_isSound_309 : decode cL_isSound 309 = .ok (.bipush 8, 2) := by decide +kernel
theorem dL_isSound_311 : decode cL_isSound 311 = .ok (.if_icmp .ge 93, 3) := by decide +kernel
theorem dL_isSound_314 : decode cL_isSound 314 = .ok (.iload 5, 2) := by decide +kernel
theorem dL_isSound_316 : decode cL_isSound 316 = .ok (.ifCond .eq 88, 3) := by decide +kernel
theorem dL_isSound_319 : decode cL_isSound 319 = .ok (.aload_n 0, 1) := by decide +kernel
theorem dL_isSound_320 : decode cL_isSound 320 = .ok (.iload 8, 2) := by decide +kernel
theorem dL_isSound_322 : decode cL_isSound 322 = .ok (.iload 10, 2) := by decide +kernel
theorem dL_isSound_324 : decode cL_isSound 324 = .ok (.invokestatic 88, 3) := by decide +kernel
theorem dL_isSound_327 : decode cL_isSound 327 = .ok (.istore 11, 2) := by decide +kernel
theorem dL_isSound_329 : decode cL_isSound 329 = .ok (.iload 7, 2) := by decide +kernel
theorem dL_isSound_331 : decode cL_isSound 331 = .ok (.aload_n 0, 1) := by decide +kernel
theorem dL_isSound_332 : decode cL_isSound 332 = .ok (.iload 6, 2) := by decide +kernel
theorem dL_isSound_334 : decode cL_isSound 334 = .ok (.iload 10, 2) := by decide +kernel
theorem dL_isSound_336 : decode cL_isSound 336 = .ok (.invokestatic 90, 3) := by decide +kernel
theorem dL_isSound_339 : decode cL_isSound 339 = .ok (.iadd, 1) := by decide +kernel
theorem dL_isSound_340 : decode cL_isSound 340 = .ok (.istore 7, 2) := by decide +kernel
theorem dL_isSound_342 : decode cL_isSound 342 = .ok (.aload_n 0, 1) := by decide +kernel
theorem dL_isSound_343 : decode cL_isSound 343 = .ok (.iload 6, 2) := by decide +kernel
theorem dL_isSound_345 : decode cL_isSound 345 = .ok (.iload 10, 2) := by decide +kernel
theorem dL_isSound_347 : decode cL_isSound 347 = .ok (.invokestatic 90, 3) := by decide +kernel
theorem dL_isSound_350 : decode cL_isSound 350 = .ok (.ifCond .lt 45, 3) := by decide +kernel
theorem dL_isSound_353 : decode cL_isSound 353 = .ok (.aload_n 0, 1) := by decide +kernel
theorem dL_isSound_354 : decode cL_isSound 354 = .ok (.iload 6, 2) := by decide +kernel
theorem dL_isSound_356 : decode cL_isSound 356 = .ok (.iload 10, 2) := by decide +kernel
theorem dL_isSound_358 : decode cL_isSound 358 = .ok (.invokestatic 90, 3) := by decide +kernel
theorem dL_isSound_361 : decode cL_isSound 361 = .ok (.sipush 999, 3) := by decide +kernel
theorem dL_isSound_364 : decode cL_isSound 364 = .ok (.if_icmp .gt 31, 3) := by decide +kernel
theorem dL_isSound_367 : decode cL_isSound 367 = .ok (.iload 11, 2) := by decide +kernel
theorem dL_isSound_369 : decode cL_isSound 369 = .ok (.aload_n 0, 1) := by decide +kernel
theorem dL_isSound_370 : decode cL_isSound 370 = .ok (.iload 6, 2) := by decide +kernel
theorem dL_isSound_372 : decode cL_isSound 372 = .ok (.iload 10, 2) := by decide +kernel
theorem dL_isSound_374 : decode cL_isSound 374 = .ok (.invokestatic 90, 3) := by decide +kernel
theorem dL_isSound_377 : decode cL_isSound 377 = .ok (.if_icmp .eq 14, 3) := by decide +kernel
theorem dL_isSound_380 : decode cL_isSound 380 = .ok (.iload 11, 2) := by decide +kernel
theorem dL_isSound_382 : decode cL_isSound 382 = .ok (.iconst (-1), 1) := by decide +kernel
theorem dL_isSound_383 : decode cL_isSound 383 = .ok (.if_icmp .ne 12, 3) := by decide +kernel
theorem dL_isSound_386 : decode cL_isSound 386 = .ok (.iload 4, 2) := by decide +kernel
theorem dL_isSound_388 : decode cL_isSound 388 = .ok (.ifCond .le 7, 3) := by decide +kernel
theorem dL_isSound_391 : decode cL_isSound 391 = .ok (.iconst 1, 1) := by decide +kernel
theorem dL_isSound_392 : decode cL_isSound 392 = .ok (.goto 4, 3) := by decide +kernel
theorem dL_isSound_395 : decode cL_isSound 395 = .ok (.iconst 0, 1) := by decide +kernel
theorem dL_isSound_396 : decode cL_isSound 396 = .ok (.istore 5, 2) := by decide +kernel
theorem dL_isSound_398 : decode cL_isSound 398 = .ok (.iinc 10 1, 3) := by decide +kernel
theorem dL_isSound_401 : decode cL_isSound 401 = .ok (.goto (-94), 3) := by decide +kernel
theorem dL_isSound_404 : decode cL_isSound 404 = .ok (.iload 5, 2) := by decide +kernel
theorem dL_isSound_406 : decode cL_isSound 406 = .ok (.ifCond .eq 90, 3) := by decide +kernel
theorem dL_isSound_409 : decode cL_isSound 409 = .ok (.iload 7, 2) := by decide +kernel
theorem dL_isSound_411 : decode cL_isSound 411 = .ok (.aload_n 0, 1) := by decide +kernel
theorem dL_isSound_412 : decode cL_isSound 412 = .ok (.iload 6, 2) := by decide +kernel
theorem dL_isSound_414 : decode cL_isSound 414 = .ok (.iconst 3, 1) := by decide +kernel
theorem dL_isSound_415 : decode cL_isSound 415 = .ok (.invokestatic 78, 3) := by decide +kernel
theorem dL_isSound_418 : decode cL_isSound 418 = .ok (.if_icmp .ne 78, 3) := by decide +kernel
theorem dL_isSound_421 : decode cL_isSound 421 = .ok (.aload_n 0, 1) := by decide +kernel
theorem dL_isSound_422 : decode cL_isSound 422 = .ok (.iload 6, 2) := by decide +kernel
theorem dL_isSound_424 : decode cL_isSound 424 = .ok (.iconst 1, 1) := by decide +kernel
theorem dL_isSound_425 : decode cL_isSound 425 = .ok (.invokestatic 78, 3) := by decide +kernel
theorem dL_isSound_428 : decode cL_isSound 428 = .ok (.iload 8, 2) := by decide +kernel
theorem dL_isSound_430 : decode cL_isSound 430 = .ok (.if_icmp .gt 66, 3) := by decide +kernel
theorem dL_isSound_433 : decode cL_isSound 433 = .ok (.iload 8, 2) := by decide +kernel
theorem dL_isSound_435 : decode cL_isSound 435 = .ok (.iload 9, 2) := by decide +kernel
theorem dL_isSound_437 : decode cL_isSound 437 = .ok (.if_icmp .gt 59, 3) := by decide +kernel
theorem dL_isSound_440 : decode cL_isSound 440 = .ok (.iload 9, 2) := by decide +kernel
theorem dL_isSound_442 : decode cL_isSound 442 = .ok (.iload_n 2, 1) := by decide +kernel
theorem dL_isSound_443 : decode cL_isSound 443 = .ok (.if_icmp .gt 53, 3) := by decide +kernel
theorem dL_isSound_446 : decode cL_isSound 446 = .ok (.iload 9, 2) := by decide +kernel
theorem dL_isSound_448 : decode cL_isSound 448 = .ok (.iload_n 2, 1) := by decide +kernel
theorem dL_isSound_449 : decode cL_isSound 449 = .ok (.if_icmp .eq 14, 3) := by decide +kernel
theorem dL_isSound_452 : decode cL_isSound 452 = .ok (.aload_n 0, 1) := by decide +kernel
theorem dL_isSound_453 : decode cL_isSound 453 = .ok (.iload 9, 2) := by decide +kernel
theorem dL_isSound_455 : decode cL_isSound 455 = .ok (.iconst 4, 1) := by decide +kernel
theorem dL_isSound_456 : decode cL_isSound 456 = .ok (.invokestatic 84, 3) := by decide +kernel
theorem dL_isSound_459 : decode cL_isSound 459 = .ok (.iconst 3, 1) := by decide +kernel
theorem dL_isSound_460 : decode cL_isSound 460 = .ok (.if_icmp .ne 36, 3) := by decide +kernel
theorem dL_isSound_463 : decode cL_isSound 463 = .ok (.aload_n 0, 1) := by decide +kernel
theorem dL_isSound_464 : decode cL_isSound 464 = .ok (.iload 6, 2) := by decide +kernel
theorem dL_isSound_466 : decode cL_isSound 466 = .ok (.invokestatic 92, 3) := by decide +kernel
theorem dL_isSound_469 : decode cL_isSound 469 = .ok (.aload_n 0, 1) := by decide +kernel
theorem dL_isSound_470 : decode cL_isSound 470 = .ok (.iload 6, 2) := by decide +kernel
theorem dL_isSound_472 : decode cL_isSound 472 = .ok (.iconst 2, 1) := by decide +kernel
theorem dL_isSound_473 : decode cL_isSound 473 = .ok (.invokestatic 78, 3) := by decide +kernel
theorem dL_isSound_476 : decode cL_isSound 476 = .ok (.iconst 1, 1) := by decide +kernel
theorem dL_isSound_477 : decode cL_isSound 477 = .ok (.if_icmp .ne 11, 3) := by decide +kernel
theorem dL_isSound_480 : decode cL_isSound 480 = .ok (.iload 9, 2) := by decide +kernel
theorem dL_isSound_482 : decode cL_isSound 482 = .ok (.iload 8, 2) := by decide +kernel
theorem dL_isSound_484 : decode cL_isSound 484 = .ok (.isub, 1) := by decide +kernel
theorem dL_isSound_485 : decode cL_isSound 485 = .ok (.goto 4, 3) := by decide +kernel
theorem dL_isSound_488 : decode cL_isSound 488 = .ok (.iconst 0, 1) := by decide +kernel
theorem dL_isSound_489 : decode cL_isSound 489 = .ok (.if_icmp .ne 7, 3) := by decide +kernel
theorem dL_isSound_492 : decode cL_isSound 492 = .ok (.iconst 1, 1) := by decide +kernel
theorem dL_isSound_493 : decode cL_isSound 493 = .ok (.goto 4, 3) := by decide +kernel
theorem dL_isSound_496 : decode cL_isSound 496 = .ok (.iconst 0, 1) := by decide +kernel
theorem dL_isSound_497 : decode cL_isSound 497 = .ok (.istore 5, 2) := by decide +kernel
theorem dL_isSound_499 : decode cL_isSound 499 = .ok (.iload 5, 2) := by decide +kernel
theorem dL_isSound_501 : decode cL_isSound 501 = .ok (.ifCond .eq 50, 3) := by decide +kernel
theorem dL_isSound_504 : decode cL_isSound 504 = .ok (.aload_n 0, 1) := by decide +kernel
theorem dL_isSound_505 : decode cL_isSound 505 = .ok (.iload 6, 2) := by decide +kernel
theorem dL_isSound_507 : decode cL_isSound 507 = .ok (.invokestatic 94, 3) := by decide +kernel
theorem dL_isSound_510 : decode cL_isSound 510 = .ok (.aload_n 0, 1) := by decide +kernel
theorem dL_isSound_511 : decode cL_isSound 511 = .ok (.iconst 0, 1) := by decide +kernel
theorem dL_isSound_512 : decode cL_isSound 512 = .ok (.invokestatic 73, 3) := by decide +kernel
theorem dL_isSound_515 : decode cL_isSound 515 = .ok (.iload_n 2, 1) := by decide +kernel
theorem dL_isSound_516 : decode cL_isSound 516 = .ok (.isub, 1) := by decide +kernel
theorem dL_isSound_517 : decode cL_isSound 517 = .ok (.iload 8, 2) := by decide +kernel
theorem dL_isSound_519 : decode cL_isSound 519 = .ok (.aload_n 0, 1) := by decide +kernel
theorem dL_isSound_520 : decode cL_isSound 520 = .ok (.iconst 1, 1) := by decide +kernel
theorem dL_isSound_521 : decode cL_isSound 521 = .ok (.iload 6, 2) := by decide +kernel
theorem dL_isSound_523 : decode cL_isSound 523 = .ok (.isub, 1) := by decide +kernel
theorem dL_isSound_524 : decode cL_isSound 524 = .ok (.iconst 1, 1) := by decide +kernel
theorem dL_isSound_525 : decode cL_isSound 525 = .ok (.invokestatic 78, 3) := by decide +kernel
theorem dL_isSound_528 : decode cL_isSound 528 = .ok (.invokestatic 81, 3) := by decide +kernel
theorem dL_isSound_531 : decode cL_isSound 531 = .ok (.iadd, 1) := by decide +kernel
theorem dL_isSound_532 : decode cL_isSound 532 = .ok (.if_icmp .ne 19, 3) := by decide +kernel
theorem dL_isSound_535 : decode cL_isSound 535 = .ok (.aload_n 0, 1) := by decide +kernel
theorem dL_isSound_536 : decode cL_isSound 536 = .ok (.iload 6, 2) := by decide +kernel
theorem dL_isSound_538 : decode cL_isSound 538 = .ok (.iconst 4, 1) := by decide +kernel
theorem dL_isSound_539 : decode cL_isSound 539 = .ok (.invokestatic 78, 3) := by decide +kernel
theorem dL_isSound_542 : decode cL_isSound 542 = .ok (.iload 8, 2) := by decide +kernel
theorem dL_isSound_544 : decode cL_isSound 544 = .ok (.if_icmp .lt 7, 3) := by decide +kernel
theorem dL_isSound_547 : decode cL_isSound 547 = .ok (.iconst 1, 1) := by decide +kernel
theorem dL_isSound_548 : decode cL_isSound 548 = .ok (.goto 4, 3) := by decide +kernel
theorem dL_isSound_551 : decode cL_isSound 551 = .ok (.iconst 0, 1) := by decide +kernel
theorem dL_isSound_552 : decode cL_isSound 552 = .ok (.istore 5, 2) := by decide +kernel
theorem dL_isSound_554 : decode cL_isSound 554 = .ok (.iinc 6 1, 3) := by decide +kernel
theorem dL_isSound_557 : decode cL_isSound 557 = .ok (.goto (-284), 3) := by decide +kernel
theorem dL_isSound_560 : decode cL_isSound 560 = .ok (.aload_n 0, 1) := by decide +kernel
theorem dL_isSound_561 : decode cL_isSound 561 = .ok (.invokevirtual 96, 3) := by decide +kernel
theorem dL_isSound_564 : decode cL_isSound 564 = .ok (.istore 6, 2) := by decide +kernel
theorem dL_isSound_566 : decode cL_isSound 566 = .ok (.iload 5, 2) := by decide +kernel
theorem dL_isSound_568 : decode cL_isSound 568 = .ok (.ifCond .eq 50, 3) := by decide +kernel
theorem dL_isSound_571 : decode cL_isSound 571 = .ok (.iload 6, 2) := by decide +kernel
theorem dL_isSound_573 : decode cL_isSound 573 = .ok (.iconst 2, 1) := by decide +kernel
theorem dL_isSound_574 : decode cL_isSound 574 = .ok (.if_icmp .ne 21, 3) := by decide +kernel
theorem dL_isSound_577 : decode cL_isSound 577 = .ok (.aload_n 0, 1) := by decide +kernel
theorem dL_isSound_578 : decode cL_isSound 578 = .ok (.iconst 0, 1) := by decide +kernel
theorem dL_isSound_579 : decode cL_isSound 579 = .ok (.iconst 1, 1) := by decide +kernel
theorem dL_isSound_580 : decode cL_isSound 580 = .ok (.invokestatic 78, 3) := by decide +kernel
theorem dL_isSound_583 : decode cL_isSound 583 = .ok (.aload_n 0, 1) := by decide +kernel
theorem dL_isSound_584 : decode cL_isSound 584 = .ok (.iconst 1, 1) := by decide +kernel
theorem dL_isSound_585 : decode cL_isSound 585 = .ok (.iconst 1, 1) := by decide +kernel
theorem dL_isSound_586 : decode cL_isSound 586 = .ok (.invokestatic 78, 3) := by decide +kernel
theorem dL_isSound_589 : decode cL_isSound 589 = .ok (.if_icmp .ne 29, 3) := by decide +kernel
theorem dL_isSound_592 : decode cL_isSound 592 = .ok (.goto 22, 3) := by decide +kernel
theorem dL_isSound_595 : decode cL_isSound 595 = .ok (.aload_n 0, 1) := by decide +kernel
theorem dL_isSound_596 : decode cL_isSound 596 = .ok (.iload 6, 2) := by decide +kernel
theorem dL_isSound_598 : decode cL_isSound 598 = .ok (.iconst 1, 1) := by decide +kernel
theorem dL_isSound_599 : decode cL_isSound 599 = .ok (.invokestatic 78, 3) := by decide +kernel
theorem dL_isSound_602 : decode cL_isSound 602 = .ok (.aload_n 0, 1) := by decide +kernel
theorem dL_isSound_603 : decode cL_isSound 603 = .ok (.iconst 1, 1) := by decide +kernel
theorem dL_isSound_604 : decode cL_isSound 604 = .ok (.iload 6, 2) := by decide +kernel
theorem dL_isSound_606 : decode cL_isSound 606 = .ok (.isub, 1) := by decide +kernel
theorem dL_isSound_607 : decode cL_isSound 607 = .ok (.iconst 1, 1) := by decide +kernel
theorem dL_isSound_608 : decode cL_isSound 608 = .ok (.invokestatic 78, 3) := by decide +kernel
theorem dL_isSound_611 : decode cL_isSound 611 = .ok (.if_icmp .ge 7, 3) := by decide +kernel
theorem dL_isSound_614 : decode cL_isSound 614 = .ok (.iconst 1, 1) := by decide +kernel
theorem dL_isSound_615 : decode cL_isSound 615 = .ok (.goto 4, 3) := by decide +kernel
theorem dL_isSound_618 : decode cL_isSound 618 = .ok (.iconst 0, 1) := by decide +kernel
theorem dL_isSound_619 : decode cL_isSound 619 = .ok (.istore 5, 2) := by decide +kernel
theorem dL_isSound_621 : decode cL_isSound 621 = .ok (.iload 5, 2) := by decide +kernel
theorem dL_isSound_623 : decode cL_isSound 623 = .ok (.ifCond .eq 53, 3) := by decide +kernel
theorem dL_isSound_626 : decode cL_isSound 626 = .ok (.aload_n 0, 1) := by decide +kernel
theorem dL_isSound_627 : decode cL_isSound 627 = .ok (.invokevirtual 99, 3) := by decide +kernel
theorem dL_isSound_630 : decode cL_isSound 630 = .ok (.iconst 1, 1) := by decide +kernel
theorem dL_isSound_631 : decode cL_isSound 631 = .ok (.if_icmp .eq 16, 3) := by decide +kernel
theorem dL_isSound_634 : decode cL_isSound 634 = .ok (.aload_n 0, 1) := by decide +kernel
theorem dL_isSound_635 : decode cL_isSound 635 = .ok (.invokevirtual 99, 3) := by decide +kernel
theorem dL_isSound_638 : decode cL_isSound 638 = .ok (.iconst (-1), 1) := by decide +kernel
theorem dL_isSound_639 : decode cL_isSound 639 = .ok (.if_icmp .ne 37, 3) := by decide +kernel
theorem dL_isSound_642 : decode cL_isSound 642 = .ok (.iload 4, 2) := by decide +kernel
theorem dL_isSound_644 : decode cL_isSound 644 = .ok (.ifCond .le 32, 3) := by decide +kernel
theorem dL_isSound_647 : decode cL_isSound 647 = .ok (.aload_n 0, 1) := by decide +kernel
theorem dL_isSound_648 : decode cL_isSound 648 = .ok (.iload_n 2, 1) := by decide +kernel
theorem dL_isSound_649 : decode cL_isSound 649 = .ok (.iconst 1, 1) := by decide +kernel
theorem dL_isSound_650 : decode cL_isSound 650 = .ok (.iadd, 1) := by decide +kernel
theorem dL_isSound_651 : decode cL_isSound 651 = .ok (.iconst 0, 1) := by decide +kernel
theorem dL_isSound_652 : decode cL_isSound 652 = .ok (.invokestatic 88, 3) := by decide +kernel
theorem dL_isSound_655 : decode cL_isSound 655 = .ok (.iconst (-1), 1) := by decide +kernel
theorem dL_isSound_656 : decode cL_isSound 656 = .ok (.if_icmp .ne 20, 3) := by decide +kernel
theorem dL_isSound_659 : decode cL_isSound 659 = .ok (.aload_n 0, 1) := by decide +kernel
theorem dL_isSound_660 : decode cL_isSound 660 = .ok (.iload_n 1, 1) := by decide +kernel
theorem dL_isSound_661 : decode cL_isSound 661 = .ok (.iconst 1, 1) := by decide +kernel
theorem dL_isSound_662 : decode cL_isSound 662 = .ok (.isub, 1) := by decide +kernel
theorem dL_isSound_663 : decode cL_isSound 663 = .ok (.bipush 7, 2) := by decide +kernel
theorem dL_isSound_665 : decode cL_isSound 665 = .ok (.invokestatic 88, 3) := by decide +kernel
theorem dL_isSound_668 : decode cL_isSound 668 = .ok (.iconst (-1), 1) := by decide +kernel
theorem dL_isSound_669 : decode cL_isSound 669 = .ok (.if_icmp .ne 7, 3) := by decide +kernel
theorem dL_isSound_672 : decode cL_isSound 672 = .ok (.iconst 1, 1) := by decide +kernel
theorem dL_isSound_673 : decode cL_isSound 673 = .ok (.goto 4, 3) := by decide +kernel
theorem dL_isSound_676 : decode cL_isSound 676 = .ok (.iconst 0, 1) := by decide +kernel
theorem dL_isSound_677 : decode cL_isSound 677 = .ok (.ireturn, 1) := by decide +kernel
theorem dL_replays_0 : decode cL_replays 0 = .ok (.aload_n 0, 1) := by decide +kernel
theorem dL_replays_1 : decode cL_replays 1 = .ok (.iload_n 1, 1) := by decide +kernel
theorem dL_replays_2 : decode cL_replays 2 = .ok (.invokestatic 92, 3) := by decide +kernel
theorem dL_replays_5 : decode cL_replays 5 = .ok (.istore_n 3, 1) := by decide +kernel
theorem dL_replays_6 : decode cL_replays 6 = .ok (.aload_n 0, 1) := by decide +kernel
theorem dL_replays_7 : decode cL_replays 7 = .ok (.iload_n 1, 1) := by decide +kernel
theorem dL_replays_8 : decode cL_replays 8 = .ok (.iconst 0, 1) := by decide +kernel
theorem dL_replays_9 : decode cL_replays 9 = .ok (.invokestatic 78, 3) := by decide +kernel
theorem dL_replays_12 : decode cL_replays 12 = .ok (.istore 4, 2) := by decide +kernel
theorem dL_replays_14 : decode cL_replays 14 = .ok (.aload_n 0, 1) := by decide +kernel
theorem dL_replays_15 : decode cL_replays 15 = .ok (.iload_n 1, 1) := by decide +kernel
theorem dL_replays_16 : decode cL_replays 16 = .ok (.iload_n 2, 1) := by decide +kernel
theorem dL_replays_17 : decode cL_replays 17 = .ok (.invokestatic 102, 3) := by decide +kernel
theorem dL_replays_20 : decode cL_replays 20 = .ok (.iload_n 3, 1) := by decide +kernel
theorem dL_replays_21 : decode cL_replays 21 = .ok (.iload_n 2, 1) := by decide +kernel
theorem dL_replays_22 : decode cL_replays 22 = .ok (.invokestatic 81, 3) := by decide +kernel
theorem dL_replays_25 : decode cL_replays 25 = .ok (.if_icmp .ne 24, 3) := by decide +kernel
theorem dL_replays_28 : decode cL_replays 28 = .ok (.aload_n 0, 1) := by decide +kernel
theorem dL_replays_29 : decode cL_replays 29 = .ok (.iload_n 1, 1) := by decide +kernel
theorem dL_replays_30 : decode cL_replays 30 = .ok (.iconst 0, 1) := by decide +kernel
theorem dL_replays_31 : decode cL_replays 31 = .ok (.invokestatic 78, 3) := by decide +kernel
theorem dL_replays_34 : decode cL_replays 34 = .ok (.iload 4, 2) := by decide +kernel
theorem dL_replays_36 : decode cL_replays 36 = .ok (.iload_n 3, 1) := by decide +kernel
theorem dL_replays_37 : decode cL_replays 37 = .ok (.iload_n 2, 1) := by decide +kernel
theorem dL_replays_38 : decode cL_replays 38 = .ok (.invokestatic 81, 3) := by decide +kernel
theorem dL_replays_41 : decode cL_replays 41 = .ok (.iadd, 1) := by decide +kernel
theorem dL_replays_42 : decode cL_replays 42 = .ok (.if_icmp .ne 7, 3) := by decide +kernel
theorem dL_replays_45 : decode cL_replays 45 = .ok (.iconst 1, 1) := by decide +kernel
theorem dL_replays_46 : decode cL_replays 46 = .ok (.goto 4, 3) := by decide +kernel
theorem dL_replays_49 : decode cL_replays 49 = .ok (.iconst 0, 1) := by decide +kernel
theorem dL_replays_50 : decode cL_replays 50 = .ok (.istore 5, 2) := by decide +kernel
theorem dL_replays_52 : decode cL_replays 52 = .ok (.aload_n 0, 1) := by decide +kernel
theorem dL_replays_53 : decode cL_replays 53 = .ok (.iload_n 1, 1) := by decide +kernel
theorem dL_replays_54 : decode cL_replays 54 = .ok (.iconst 3, 1) := by decide +kernel
theorem dL_replays_55 : decode cL_replays 55 = .ok (.invokestatic 78, 3) := by decide +kernel
theorem dL_replays_58 : decode cL_replays 58 = .ok (.istore 6, 2) := by decide +kernel
theorem dL_replays_60 : decode cL_replays 60 = .ok (.aload_n 0, 1) := by decide +kernel
theorem dL_replays_61 : decode cL_replays 61 = .ok (.iload_n 1, 1) := by decide +kernel
theorem dL_replays_62 : decode cL_replays 62 = .ok (.iload_n 2, 1) := by decide +kernel
theorem dL_replays_63 : decode cL_replays 63 = .ok (.bipush 8, 2) := by decide +kernel
theorem dL_replays_65 : decode cL_replays 65 = .ok (.irem, 1) := by decide +kernel
theorem dL_replays_66 : decode cL_replays 66 = .ok (.invokestatic 90, 3) := by decide +kernel
theorem dL_replays_69 : decode cL_replays 69 = .ok (.istore 7, 2) := by decide +kernel
theorem dL_replays_71 : decode cL_replays 71 = .ok (.iload 5, 2) := by decide +kernel
theorem dL_replays_73 : decode cL_replays 73 = .ok (.ifCond .eq 25, 3) := by decide +kernel
theorem dL_replays_76 : decode cL_replays 76 = .ok (.aload_n 0, 1) := by decide +kernel
theorem dL_replays_77 : decode cL_replays 77 = .ok (.invokestatic 104, 3) := by decide +kernel
theorem dL_replays_80 : decode cL_replays 80 = .ok (.ifCond .lt 18, 3) := by decide +kernel
theorem dL_replays_83 : decode cL_replays 83 = .ok (.aload_n 0, 1) := by decide +kernel
theorem dL_replays_84 : decode cL_replays 84 = .ok (.iload_n 1, 1) := by decide +kernel
theorem dL_replays_85 : decode cL_replays 85 = .ok (.iconst 0, 1) := by decide +kernel
theorem dL_replays_86 : decode cL_replays 86 = .ok (.invokestatic 78, 3) := by decide +kernel
theorem dL_replays_89 : decode cL_replays 89 = .ok (.iload 4, 2) := by decide +kernel
theorem dL_replays_91 : decode cL_replays 91 = .ok (.if_icmp .ne 7, 3) := by decide +kernel
theorem dL_replays_94 : decode cL_replays 94 = .ok (.iconst 1, 1) := by decide +kernel
theorem dL_replays_95 : decode cL_replays 95 = .ok (.goto 4, 3) := by decide +kernel
theorem dL_replays_98 : decode cL_replays 98 = .ok (.iconst 0, 1) := by decide +kernel
theorem dL_replays_99 : decode cL_replays 99 = .ok (.istore 5, 2) := by decide +kernel
theorem dL_replays_101 : decode cL_replays 101 = .ok (.iconst 0, 1) := by decide +kernel
theorem dL_replays_102 : decode cL_replays 102 = .ok (.istore 8, 2) := by decide +kernel
theorem dL_replays_104 : decode cL_replays 104 = .ok (.iload 8, 2) := by decide +kernel
theorem dL_replays_106 : decode cL_replays 106 = .ok (.iload_n 2, 1) := by decide +kernel
theorem dL_replays_107 : decode cL_replays 107 = .ok (.if_icmp .ge 41, 3) := by decide +kernel
theorem dL_replays_110 : decode cL_replays 110 = .ok (.iload 5, 2) := by decide +kernel
theorem dL_replays_112 : decode cL_replays 112 = .ok (.ifCond .eq 36, 3) := by decide +kernel
theorem dL_replays_115 : decode cL_replays 115 = .ok (.aload_n 0, 1) := by decide +kernel
theorem dL_replays_116 : decode cL_replays 116 = .ok (.iload_n 1, 1) := by decide +kernel
theorem dL_replays_117 : decode cL_replays 117 = .ok (.iconst 1, 1) := by decide +kernel
theorem dL_replays_118 : decode cL_replays 118 = .ok (.invokestatic 102, 3) := by decide +kernel
theorem dL_replays_121 : decode cL_replays 121 = .ok (.iload 8, 2) := by decide +kernel
theorem dL_replays_123 : decode cL_replays 123 = .ok (.iload_n 3, 1) := by decide +kernel
theorem dL_replays_124 : decode cL_replays 124 = .ok (.if_icmp .ge 7, 3) := by decide +kernel
theorem dL_replays_127 : decode cL_replays 127 = .ok (.iconst 1, 1) := by decide +kernel
theorem dL_replays_128 : decode cL_replays 128 = .ok (.goto 4, 3) := by decide +kernel
theorem dL_replays_131 : decode cL_replays 131 = .ok (.iconst 0, 1) := by decide +kernel
theorem dL_replays_132 : decode cL_replays 132 = .ok (.if_icmp .ne 7, 3) := by decide +kernel
theorem dL_replays_135 : decode cL_replays 135 = .ok (.iconst 1, 1) := by decide +kernel
theorem dL_replays_136 : decode cL_replays 136 = .ok (.goto 4, 3) := by decide +kernel
theorem dL_replays_139 : decode cL_replays 139 = .ok (.iconst 0, 1) := by decide +kernel
theorem dL_replays_140 : decode cL_replays 140 = .ok (.istore 5, 2) := by decide +kernel
theorem dL_replays_142 : decode cL_replays 142 = .ok (.iinc 8 1, 3) := by decide +kernel
theorem dL_replays_145 : decode cL_replays 145 = .ok (.goto (-41), 3) := by decide +kernel
theorem dL_replays_148 : decode cL_replays 148 = .ok (.iload 5, 2) := by decide +kernel
theorem dL_replays_150 : decode cL_replays 150 = .ok (.ifCond .eq 32, 3) := by decide +kernel
theorem dL_replays_153 : decode cL_replays 153 = .ok (.aload_n 0, 1) := by decide +kernel
theorem dL_replays_154 : decode cL_replays 154 = .ok (.iload_n 1, 1) := by decide +kernel
theorem dL_replays_155 : decode cL_replays 155 = .ok (.iconst 3, 1) := by decide +kernel
theorem dL_replays_156 : decode cL_replays 156 = .ok (.invokestatic 78, 3) := by decide +kernel
theorem dL_replays_159 : decode cL_replays 159 = .ok (.iload 6, 2) := by decide +kernel
theorem dL_replays_161 : decode cL_replays 161 = .ok (.if_icmp .ne 21, 3) := by decide +kernel
theorem dL_replays_164 : decode cL_replays 164 = .ok (.aload_n 0, 1) := by decide +kernel
theorem dL_replays_165 : decode cL_replays 165 = .ok (.iload_n 1, 1) := by decide +kernel
theorem dL_replays_166 : decode cL_replays 166 = .ok (.iload_n 2, 1) := by decide +kernel
theorem dL_replays_167 : decode cL_replays 167 = .ok (.bipush 8, 2) := by decide +kernel
theorem dL_replays_169 : decode cL_replays 169 = .ok (.irem, 1) := by decide +kernel
theorem dL_replays_170 : decode cL_replays 170 = .ok (.invokestatic 90, 3) := by decide +kernel
theorem dL_replays_173 : decode cL_replays 173 = .ok (.iload 7, 2) := by decide +kernel
theorem dL_replays_175 : decode cL_replays 175 = .ok (.if_icmp .ne 7, 3) := by decide +kernel
theorem dL_replays_178 : decode cL_replays 178 = .ok (.iconst 1, 1) := by decide +kernel
theorem dL_replays_179 : decode cL_replays 179 = .ok (.goto 4, 3) := by decide +kernel
theorem dL_replays_182 : decode cL_replays 182 = .ok (.iconst 0, 1) := by decide +kernel
theorem dL_replays_183 : decode cL_replays 183 = .ok (.istore 5, 2) := by decide +kernel
theorem dL_replays_185 : decode cL_replays 185 = .ok (.aload_n 0, 1) := by decide +kernel
theorem dL_replays_186 : decode cL_replays 186 = .ok (.iload_n 1, 1) := by decide +kernel
theorem dL_replays_187 : decode cL_replays 187 = .ok (.iconst 0, 1) := by decide +kernel
theorem dL_replays_188 : decode cL_replays 188 = .ok (.invokestatic 78, 3) := by decide +kernel
theorem dL_replays_191 : decode cL_replays 191 = .ok (.aload_n 0, 1) := by decide +kernel
theorem dL_replays_192 : decode cL_replays 192 = .ok (.iload_n 1, 1) := by decide +kernel
theorem dL_replays_193 : decode cL_replays 193 = .ok (.iconst 1, 1) := by decide +kernel
theorem dL_replays_194 : decode cL_replays 194 = .ok (.invokestatic 78, 3) := by decide +kernel
theorem dL_replays_197 : decode cL_replays 197 = .ok (.isub, 1) := by decide +kernel
theorem dL_replays_198 : decode cL_replays 198 = .ok (.istore 8, 2) := by decide +kernel
theorem dL_replays_200 : decode cL_replays 200 = .ok (.aload_n 0, 1) := by decide +kernel
theorem dL_replays_201 : decode cL_replays 201 = .ok (.iload_n 1, 1) := by decide +kernel
theorem dL_replays_202 : decode cL_replays 202 = .ok (.iconst 5, 1) := by decide +kernel
theorem dL_replays_203 : decode cL_replays 203 = .ok (.invokestatic 78, 3) := by decide +kernel
theorem dL_replays_206 : decode cL_replays 206 = .ok (.istore 9, 2) := by decide +kernel
theorem dL_replays_208 : decode cL_replays 208 = .ok (.iload 5, 2) := by decide +kernel
theorem dL_replays_210 : decode cL_replays 210 = .ok (.ifCond .eq 45, 3) := by decide +kernel
theorem dL_replays_213 : decode cL_replays 213 = .ok (.aload_n 0, 1) := by decide +kernel
theorem dL_replays_214 : decode cL_replays 214 = .ok (.iload_n 1, 1) := by decide +kernel
theorem dL_replays_215 : decode cL_replays 215 = .ok (.invokestatic 107, 3) := by decide +kernel
theorem dL_replays_218 : decode cL_replays 218 = .ok (.iload 8, 2) := by decide +kernel
theorem dL_replays_220 : decode cL_replays 220 = .ok (.if_icmp .ne 35, 3) := by decide +kernel
theorem dL_replays_223 : decode cL_replays 223 = .ok (.aload_n 0, 1) := by decide +kernel
theorem dL_replays_224 : decode cL_replays 224 = .ok (.iload_n 1, 1) := by decide +kernel
theorem dL_replays_225 : decode cL_replays 225 = .ok (.iconst 5, 1) := by decide +kernel
theorem dL_replays_226 : decode cL_replays 226 = .ok (.invokestatic 78, 3) := by decide +kernel
theorem dL_replays_229 : decode cL_replays 229 = .ok (.iload 9, 2) := by decide +kernel
theorem dL_replays_231 : decode cL_replays 231 = .ok (.iconst 1, 1) := by decide +kernel
theorem dL_replays_232 : decode cL_replays 232 = .ok (.iadd, 1) := by decide +kernel
theorem dL_replays_233 : decode cL_replays 233 = .ok (.if_icmp .ne 22, 3) := by decide +kernel
theorem dL_replays_236 : decode cL_replays 236 = .ok (.aload_n 0, 1) := by decide +kernel
theorem dL_replays_237 : decode cL_replays 237 = .ok (.iload_n 1, 1) := by decide +kernel
theorem dL_replays_238 : decode cL_replays 238 = .ok (.iconst 0, 1) := by decide +kernel
theorem dL_replays_239 : decode cL_replays 239 = .ok (.invokestatic 78, 3) := by decide +kernel
theorem dL_replays_242 : decode cL_replays 242 = .ok (.aload_n 0, 1) := by decide +kernel
theorem dL_replays_243 : decode cL_replays 243 = .ok (.iload_n 1, 1) := by decide +kernel
theorem dL_replays_244 : decode cL_replays 244 = .ok (.iconst 1, 1) := by decide +kernel
theorem dL_replays_245 : decode cL_replays 245 = .ok (.invokestatic 78, 3) := by decide +kernel
theorem dL_replays_248 : decode cL_replays 248 = .ok (.if_icmp .ne 7, 3) := by decide +kernel
theorem dL_replays_251 : decode cL_replays 251 = .ok (.iconst 1, 1) := by decide +kernel
theorem dL_replays_252 : decode cL_replays 252 = .ok (.goto 4, 3) := by decide +kernel
theorem dL_replays_255 : decode cL_replays 255 = .ok (.iconst 0, 1) := by decide +kernel
theorem dL_replays_256 : decode cL_replays 256 = .ok (.istore 5, 2) := by decide +kernel
theorem dL_replays_258 : decode cL_replays 258 = .ok (.iload 5, 2) := by decide +kernel
theorem dL_replays_260 : decode cL_replays 260 = .ok (.ifCond .eq 69, 3) := by decide +kernel
theorem dL_replays_263 : decode cL_replays 263 = .ok (.iload 8, 2) := by decide +kernel
theorem dL_replays_265 : decode cL_replays 265 = .ok (.ifCond .le 64, 3) := by decide +kernel
theorem dL_replays_268 : decode cL_replays 268 = .ok (.iload 8, 2) := by decide +kernel
theorem dL_replays_270 : decode cL_replays 270 = .ok (.bipush 100, 2) := by decide +kernel
theorem dL_replays_272 : decode cL_replays 272 = .ok (.if_icmp .ge 57, 3) := by decide +kernel
theorem dL_replays_275 : decode cL_replays 275 = .ok (.aload_n 0, 1) := by decide +kernel
theorem dL_replays_276 : decode cL_replays 276 = .ok (.iload_n 1, 1) := by decide +kernel
theorem dL_replays_277 : decode cL_replays 277 = .ok (.invokestatic 92, 3) := by decide +kernel
theorem dL_replays_280 : decode cL_replays 280 = .ok (.iload 8, 2) := by decide +kernel
theorem dL_replays_282 : decode cL_replays 282 = .ok (.if_icmp .lt 47, 3) := by decide +kernel
theorem dL_replays_285 : decode cL_replays 285 = .ok (.aload_n 0, 1) := by decide +kernel
theorem dL_replays_286 : decode cL_replays 286 = .ok (.iload_n 1, 1) := by decide +kernel
theorem dL_replays_287 : decode cL_replays 287 = .ok (.iload 8, 2) := by decide +kernel
theorem dL_replays_289 : decode cL_replays 289 = .ok (.invokestatic 102, 3) := by decide +kernel
theorem dL_replays_292 : decode cL_replays 292 = .ok (.iload 8, 2) := by decide +kernel
theorem dL_replays_294 : decode cL_replays 294 = .ok (.if_icmp .ne 32, 3) := by decide +kernel
theorem dL_replays_297 : decode cL_replays 297 = .ok (.aload_n 0, 1) := by decide +kernel
theorem dL_replays_298 : decode cL_replays 298 = .ok (.iload_n 1, 1) := by decide +kernel
theorem dL_replays_299 : decode cL_replays 299 = .ok (.iconst 3, 1) := by decide +kernel
theorem dL_replays_300 : decode cL_replays 300 = .ok (.invokestatic 78, 3) := by decide +kernel
theorem dL_replays_303 : decode cL_replays 303 = .ok (.iload 6, 2) := by decide +kernel
theorem dL_replays_305 : decode cL_replays 305 = .ok (.if_icmp .ne 21, 3) := by decide +kernel
theorem dL_replays_308 : decode cL_replays 308 = .ok (.aload_n 0, 1) := by decide +kernel
theorem dL_replays_309 : decode cL_replays 309 = .ok (.iload_n 1, 1) := by decide +kernel
theorem dL_replays_310 : decode cL_replays 310 = .ok (.iload_n 2, 1) := by decide +kernel
theorem dL_replays_311 : decode cL_replays 311 = .ok (.bipush 8, 2) := by decide +kernel
theorem dL_replays_313 : decode cL_replays 313 = .ok (.irem, 1) := by decide +kernel
theorem dL_replays_314 : decode cL_replays 314 = .ok (.invokestatic 90, 3) := by decide +kernel
theorem dL_replays_317 : decode cL_replays 317 = .ok (.iload 7, 2) := by decide +kernel
theorem dL_replays_319 : decode cL_replays 319 = .ok (.if_icmp .ne 7, 3) := by decide +kernel
theorem dL_replays_322 : decode cL_replays 322 = .ok (.iconst 1, 1) := by decide +kernel
theorem dL_replays_323 : decode cL_replays 323 = .ok (.goto 4, 3) := by decide +kernel
theorem dL_replays_326 : decode cL_replays 326 = .ok (.iconst 0, 1) := by decide +kernel
theorem dL_replays_327 : decode cL_replays 327 = .ok (.istore 5, 2) := by decide +kernel
theorem dL_replays_329 : decode cL_replays 329 = .ok (.iload 5, 2) := by decide +kernel
theorem dL_replays_331 : decode cL_replays 331 = .ok (.ireturn, 1) := by decide +kernel
theorem dL_snaps_0 : decode cL_snaps 0 = .ok (.aload_n 0, 1) := by decide +kernel
theorem dL_snaps_1 : decode cL_snaps 1 = .ok (.iconst 1, 1) := by decide +kernel
theorem dL_snaps_2 : decode cL_snaps 2 = .ok (.invokestatic 73, 3) := by decide +kernel
theorem dL_snaps_5 : decode cL_snaps 5 = .ok (.istore_n 2, 1) := by decide +kernel
theorem dL_snaps_6 : decode cL_snaps 6 = .ok (.aload_n 0, 1) := by decide +kernel
theorem dL_snaps_7 : decode cL_snaps 7 = .ok (.iload_n 1, 1) := by decide +kernel
theorem dL_snaps_8 : decode cL_snaps 8 = .ok (.invokestatic 94, 3) := by decide +kernel
theorem dL_snaps_11 : decode cL_snaps 11 = .ok (.istore_n 3, 1) := by decide +kernel
theorem dL_snaps_12 : decode cL_snaps 12 = .ok (.aload_n 0, 1) := by decide +kernel
theorem dL_snaps_13 : decode cL_snaps 13 = .ok (.iload_n 1, 1) := by decide +kernel
theorem dL_snaps_14 : decode cL_snaps 14 = .ok (.invokestatic 109, 3) := by decide +kernel
theorem dL_snaps_17 : decode cL_snaps 17 = .ok (.istore 4, 2) := by decide +kernel
theorem dL_snaps_19 : decode cL_snaps 19 = .ok (.aload_n 0, 1) := by decide +kernel
theorem dL_snaps_20 : decode cL_snaps 20 = .ok (.iload_n 1, 1) := by decide +kernel
theorem dL_snaps_21 : decode cL_snaps 21 = .ok (.iconst 2, 1) := by decide +kernel
theorem dL_snaps_22 : decode cL_snaps 22 = .ok (.invokestatic 78, 3) := by decide +kernel
theorem dL_snaps_25 : decode cL_snaps 25 = .ok (.ifCond .ne 25, 3) := by decide +kernel
theorem dL_snaps_28 : decode cL_snaps 28 = .ok (.iload 4, 2) := by decide +kernel
theorem dL_snaps_30 : decode cL_snaps 30 = .ok (.bipush (-12), 2) := by decide +kernel
theorem dL_snaps_32 : decode cL_snaps 32 = .ok (.if_icmp .ne 16, 3) := by decide +kernel
theorem dL_snaps_35 : decode cL_snaps 35 = .ok (.aload_n 0, 1) := by decide +kernel
theorem dL_snaps_36 : decode cL_snaps 36 = .ok (.iconst 1, 1) := by decide +kernel
theorem dL_snaps_37 : decode cL_snaps 37 = .ok (.invokestatic 73, 3) := by decide +kernel
theorem dL_snaps_40 : decode cL_snaps 40 = .ok (.iload_n 2, 1) := by decide +kernel
theorem dL_snaps_41 : decode cL_snaps 41 = .ok (.if_icmp .ne 7, 3) := by decide +kernel
theorem dL_snaps_44 : decode cL_snaps 44 = .ok (.iconst 1, 1) := by decide +kernel
theorem dL_snaps_45 : decode cL_snaps 45 = .ok (.goto 4, 3) := by decide +kernel
theorem dL_snaps_48 : decode cL_snaps 48 = .ok (.iconst 0, 1) := by decide +kernel
theorem dL_snaps_49 : decode cL_snaps 49 = .ok (.ireturn, 1) := by decide +kernel
theorem dL_snaps_50 : decode cL_snaps 50 = .ok (.iload 4, 2) := by decide +kernel
theorem dL_snaps_52 : decode cL_snaps 52 = .ok (.aload_n 0, 1) := by decide +kernel
theorem dL_snaps_53 : decode cL_snaps 53 = .ok (.iconst 1, 1) := by decide +kernel
theorem dL_snaps_54 : decode cL_snaps 54 = .ok (.invokestatic 73, 3) := by decide +kernel
theorem dL_snaps_57 : decode cL_snaps 57 = .ok (.iload_n 2, 1) := by decide +kernel
theorem dL_snaps_58 : decode cL_snaps 58 = .ok (.isub, 1) := by decide +kernel
theorem dL_snaps_59 : decode cL_snaps 59 = .ok (.if_icmp .ne 42, 3) := by decide +kernel
theorem dL_snaps_62 : decode cL_snaps 62 = .ok (.iload 4, 2) := by decide +kernel
theorem dL_snaps_64 : decode cL_snaps 64 = .ok (.ifCond .lt 37, 3) := by decide +kernel
theorem dL_snaps_67 : decode cL_snaps 67 = .ok (.aload_n 0, 1) := by decide +kernel
theorem dL_snaps_68 : decode cL_snaps 68 = .ok (.iload_n 1, 1) := by decide +kernel
theorem dL_snaps_69 : decode cL_snaps 69 = .ok (.iconst 1, 1) := by decide +kernel
theorem dL_snaps_70 : decode cL_snaps 70 = .ok (.invokestatic 78, 3) := by decide +kernel
theorem dL_snaps_73 : decode cL_snaps 73 = .ok (.aload_n 0, 1) := by decide +kernel
theorem dL_snaps_74 : decode cL_snaps 74 = .ok (.iload_n 1, 1) := by decide +kernel
theorem dL_snaps_75 : decode cL_snaps 75 = .ok (.iconst 0, 1) := by decide +kernel
theorem dL_snaps_76 : decode cL_snaps 76 = .ok (.invokestatic 78, 3) := by decide +kernel
theorem dL_snaps_79 : decode cL_snaps 79 = .ok (.if_icmp .ne 22, 3) := by decide +kernel
theorem dL_snaps_82 : decode cL_snaps 82 = .ok (.aload_n 0, 1) := by decide +kernel
theorem dL_snaps_83 : decode cL_snaps 83 = .ok (.iconst 0, 1) := by decide +kernel
theorem dL_snaps_84 : decode cL_snaps 84 = .ok (.invokestatic 73, 3) := by decide +kernel
theorem dL_snaps_87 : decode cL_snaps 87 = .ok (.aload_n 0, 1) := by decide +kernel
theorem dL_snaps_88 : decode cL_snaps 88 = .ok (.iconst 3, 1) := by decide +kernel
theorem dL_snaps_89 : decode cL_snaps 89 = .ok (.invokestatic 73, 3) := by decide +kernel
theorem dL_snaps_92 : decode cL_snaps 92 = .ok (.isub, 1) := by decide +kernel
theorem dL_snaps_93 : decode cL_snaps 93 = .ok (.iload_n 3, 1) := by decide +kernel
theorem dL_snaps_94 : decode cL_snaps 94 = .ok (.if_icmp .ne 7, 3) := by decide +kernel
theorem dL_snaps_97 : decode cL_snaps 97 = .ok (.iconst 1, 1) := by decide +kernel
theorem dL_snaps_98 : decode cL_snaps 98 = .ok (.goto 4, 3) := by decide +kernel
theorem dL_snaps_101 : decode cL_snaps 101 = .ok (.iconst 0, 1) := by decide +kernel
theorem dL_snaps_102 : decode cL_snaps 102 = .ok (.ireturn, 1) := by decide +kernel
theorem dL_links_0 : decode cL_links 0 = .ok (.aload_n 0, 1) := by decide +kernel
theorem dL_links_1 : decode cL_links 1 = .ok (.iload_n 1, 1) := by decide +kernel
theorem dL_links_2 : decode cL_links 2 = .ok (.iconst 2, 1) := by decide +kernel
theorem dL_links_3 : decode cL_links 3 = .ok (.invokestatic 78, 3) := by decide +kernel
theorem dL_links_6 : decode cL_links 6 = .ok (.iconst 1, 1) := by decide +kernel
theorem dL_links_7 : decode cL_links 7 = .ok (.if_icmp .ne 7, 3) := by decide +kernel
theorem dL_links_10 : decode cL_links 10 = .ok (.iconst 1, 1) := by decide +kernel
theorem dL_links_11 : decode cL_links 11 = .ok (.goto 4, 3) := by decide +kernel
theorem dL_links_14 : decode cL_links 14 = .ok (.iconst 0, 1) := by decide +kernel
theorem dL_links_15 : decode cL_links 15 = .ok (.istore_n 2, 1) := by decide +kernel
theorem dL_links_16 : decode cL_links 16 = .ok (.aload_n 0, 1) := by decide +kernel
theorem dL_links_17 : decode cL_links 17 = .ok (.iload_n 1, 1) := by decide +kernel
theorem dL_links_18 : decode cL_links 18 = .ok (.iload_n 2, 1) := by decide +kernel
theorem dL_links_19 : decode cL_links 19 = .ok (.invokestatic 111, 3) := by decide +kernel
theorem dL_links_22 : decode cL_links 22 = .ok (.bipush (-12), 2) := by decide +kernel
theorem dL_links_24 : decode cL_links 24 = .ok (.if_icmp .ne 55, 3) := by decide +kernel
theorem dL_links_27 : decode cL_links 27 = .ok (.aload_n 0, 1) := by decide +kernel
theorem dL_links_28 : decode cL_links 28 = .ok (.iload_n 1, 1) := by decide +kernel
theorem dL_links_29 : decode cL_links 29 = .ok (.iload_n 2, 1) := by decide +kernel
theorem dL_links_30 : decode cL_links 30 = .ok (.ifCond .ne 7, 3) := by decide +kernel
theorem dL_links_33 : decode cL_links 33 = .ok (.iconst 1, 1) := by decide +kernel
theorem dL_links_34 : decode cL_links 34 = .ok (.goto 4, 3) := by decide +kernel
theorem dL_links_37 : decode cL_links 37 = .ok (.iconst 0, 1) := by decide +kernel
theorem dL_links_38 : decode cL_links 38 = .ok (.invokestatic 111, 3) := by decide +kernel
theorem dL_links_41 : decode cL_links 41 = .ok (.aload_n 0, 1) := by decide +kernel
theorem dL_links_42 : decode cL_links 42 = .ok (.iconst 0, 1) := by decide +kernel
theorem dL_links_43 : decode cL_links 43 = .ok (.iconst 2, 1) := by decide +kernel
theorem dL_links_44 : decode cL_links 44 = .ok (.invokestatic 78, 3) := by decide +kernel
theorem dL_links_47 : decode cL_links 47 = .ok (.aload_n 0, 1) := by decide +kernel
theorem dL_links_48 : decode cL_links 48 = .ok (.iconst 1, 1) := by decide +kernel
theorem dL_links_49 : decode cL_links 49 = .ok (.iconst 2, 1) := by decide +kernel
theorem dL_links_50 : decode cL_links 50 = .ok (.invokestatic 78, 3) := by decide +kernel
theorem dL_links_53 : decode cL_links 53 = .ok (.iadd, 1) := by decide +kernel
theorem dL_links_54 : decode cL_links 54 = .ok (.if_icmp .ne 25, 3) := by decide +kernel
theorem dL_links_57 : decode cL_links 57 = .ok (.aload_n 0, 1) := by decide +kernel
theorem dL_links_58 : decode cL_links 58 = .ok (.iload_n 1, 1) := by decide +kernel
theorem dL_links_59 : decode cL_links 59 = .ok (.iconst 2, 1) := by decide +kernel
theorem dL_links_60 : decode cL_links 60 = .ok (.invokestatic 78, 3) := by decide +kernel
theorem dL_links_63 : decode cL_links 63 = .ok (.iload_n 2, 1) := by decide +kernel
theorem dL_links_64 : decode cL_links 64 = .ok (.ifCond .eq 7, 3) := by decide +kernel
theorem dL_links_67 : decode cL_links 67 = .ok (.iconst 0, 1) := by decide +kernel
theorem dL_links_68 : decode cL_links 68 = .ok (.goto 4, 3) := by decide +kernel
theorem dL_links_71 : decode cL_links 71 = .ok (.iconst 1, 1) := by decide +kernel
theorem dL_links_72 : decode cL_links 72 = .ok (.if_icmp .ne 7, 3) := by decide +kernel
theorem dL_links_75 : decode cL_links 75 = .ok (.iconst 1, 1) := by decide +kernel
theorem dL_links_76 : decode cL_links 76 = .ok (.goto 4, 3) := by decide +kernel
theorem dL_links_79 : decode cL_links 79 = .ok (.iconst 0, 1) := by decide +kernel
theorem dL_links_80 : decode cL_links 80 = .ok (.ireturn, 1) := by decide +kernel
