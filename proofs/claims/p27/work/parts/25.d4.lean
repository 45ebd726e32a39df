/-! what stands at each place of the code, printed -/
theorem dL_carries_0 : decode cL_carries 0 = .ok (.aload_n 0, 1) := by decide +kernel
theorem dL_carries_1 : decode cL_carries 1 = .ok (.invokevirtual 114, 3) := by decide +kernel
theorem dL_carries_4 : decode cL_carries 4 = .ok (.pop, 1) := by decide +kernel
theorem dL_carries_5 : decode cL_carries 5 = .ok (.aload_n 0, 1) := by decide +kernel
theorem dL_carries_6 : decode cL_carries 6 = .ok (.invokevirtual 117, 3) := by decide +kernel
theorem dL_carries_9 : decode cL_carries 9 = .ok (.ifCond .ne 14, 3) := by decide +kernel
theorem dL_carries_12 : decode cL_carries 12 = .ok (.aload_n 0, 1) := by decide +kernel
theorem dL_carries_13 : decode cL_carries 13 = .ok (.invokestatic 104, 3) := by decide +kernel
theorem dL_carries_16 : decode cL_carries 16 = .ok (.ifCond .lt 7, 3) := by decide +kernel
theorem dL_carries_19 : decode cL_carries 19 = .ok (.iconst 1, 1) := by decide +kernel
theorem dL_carries_20 : decode cL_carries 20 = .ok (.goto 4, 3) := by decide +kernel
theorem dL_carries_23 : decode cL_carries 23 = .ok (.iconst 0, 1) := by decide +kernel
theorem dL_carries_24 : decode cL_carries 24 = .ok (.istore 5, 2) := by decide +kernel
theorem dL_carries_26 : decode cL_carries 26 = .ok (.aload_n 0, 1) := by decide +kernel
theorem dL_carries_27 : decode cL_carries 27 = .ok (.bipush 109, 2) := by decide +kernel
theorem dL_carries_29 : decode cL_carries 29 = .ok (.invokestatic 120, 3) := by decide +kernel
theorem dL_carries_32 : decode cL_carries 32 = .ok (.pop, 1) := by decide +kernel
theorem dL_carries_33 : decode cL_carries 33 = .ok (.aload_n 0, 1) := by decide +kernel
theorem dL_carries_34 : decode cL_carries 34 = .ok (.bipush 48, 2) := by decide +kernel
theorem dL_carries_36 : decode cL_carries 36 = .ok (.iload_n 1, 1) := by decide +kernel
theorem dL_carries_37 : decode cL_carries 37 = .ok (.iadd, 1) := by decide +kernel
theorem dL_carries_38 : decode cL_carries 38 = .ok (.invokestatic 120, 3) := by decide +kernel
theorem dL_carries_41 : decode cL_carries 41 = .ok (.pop, 1) := by decide +kernel
theorem dL_carries_42 : decode cL_carries 42 = .ok (.aload_n 0, 1) := by decide +kernel
theorem dL_carries_43 : decode cL_carries 43 = .ok (.bipush 48, 2) := by decide +kernel
theorem dL_carries_45 : decode cL_carries 45 = .ok (.iload_n 2, 1) := by decide +kernel
theorem dL_carries_46 : decode cL_carries 46 = .ok (.iadd, 1) := by decide +kernel
theorem dL_carries_47 : decode cL_carries 47 = .ok (.invokestatic 120, 3) := by decide +kernel
theorem dL_carries_50 : decode cL_carries 50 = .ok (.pop, 1) := by decide +kernel
theorem dL_carries_51 : decode cL_carries 51 = .ok (.aload_n 0, 1) := by decide +kernel
theorem dL_carries_52 : decode cL_carries 52 = .ok (.bipush 44, 2) := by decide +kernel
theorem dL_carries_54 : decode cL_carries 54 = .ok (.invokestatic 120, 3) := by decide +kernel
theorem dL_carries_57 : decode cL_carries 57 = .ok (.pop, 1) := by decide +kernel
theorem dL_carries_58 : decode cL_carries 58 = .ok (.aload_n 0, 1) := by decide +kernel
theorem dL_carries_59 : decode cL_carries 59 = .ok (.bipush 48, 2) := by decide +kernel
theorem dL_carries_61 : decode cL_carries 61 = .ok (.iload_n 3, 1) := by decide +kernel
theorem dL_carries_62 : decode cL_carries 62 = .ok (.bipush 10, 2) := by decide +kernel
theorem dL_carries_64 : decode cL_carries 64 = .ok (.idiv, 1) := by decide +kernel
theorem dL_carries_65 : decode cL_carries 65 = .ok (.iadd, 1) := by decide +kernel
theorem dL_carries_66 : decode cL_carries 66 = .ok (.invokestatic 120, 3) := by decide +kernel
theorem dL_carries_69 : decode cL_carries 69 = .ok (.pop, 1) := by decide +kernel
theorem dL_carries_70 : decode cL_carries 70 = .ok (.aload_n 0, 1) := by decide +kernel
theorem dL_carries_71 : decode cL_carries 71 = .ok (.bipush 48, 2) := by decide +kernel
theorem dL_carries_73 : decode cL_carries 73 = .ok (.iload_n 3, 1) := by decide +kernel
theorem dL_carries_74 : decode cL_carries 74 = .ok (.bipush 10, 2) := by decide +kernel
theorem dL_carries_76 : decode cL_carries 76 = .ok (.irem, 1) := by decide +kernel
theorem dL_carries_77 : decode cL_carries 77 = .ok (.iadd, 1) := by decide +kernel
theorem dL_carries_78 : decode cL_carries 78 = .ok (.invokestatic 120, 3) := by decide +kernel
theorem dL_carries_81 : decode cL_carries 81 = .ok (.pop, 1) := by decide +kernel
theorem dL_carries_82 : decode cL_carries 82 = .ok (.aload_n 0, 1) := by decide +kernel
theorem dL_carries_83 : decode cL_carries 83 = .ok (.bipush 59, 2) := by decide +kernel
theorem dL_carries_85 : decode cL_carries 85 = .ok (.invokestatic 120, 3) := by decide +kernel
theorem dL_carries_88 : decode cL_carries 88 = .ok (.pop, 1) := by decide +kernel
theorem dL_carries_89 : decode cL_carries 89 = .ok (.aload_n 0, 1) := by decide +kernel
theorem dL_carries_90 : decode cL_carries 90 = .ok (.bipush 114, 2) := by decide +kernel
theorem dL_carries_92 : decode cL_carries 92 = .ok (.invokestatic 120, 3) := by decide +kernel
theorem dL_carries_95 : decode cL_carries 95 = .ok (.pop, 1) := by decide +kernel
theorem dL_carries_96 : decode cL_carries 96 = .ok (.aload_n 0, 1) := by decide +kernel
theorem dL_carries_97 : decode cL_carries 97 = .ok (.bipush 48, 2) := by decide +kernel
theorem dL_carries_99 : decode cL_carries 99 = .ok (.iload 4, 2) := by decide +kernel
theorem dL_carries_101 : decode cL_carries 101 = .ok (.iadd, 1) := by decide +kernel
theorem dL_carries_102 : decode cL_carries 102 = .ok (.invokestatic 120, 3) := by decide +kernel
theorem dL_carries_105 : decode cL_carries 105 = .ok (.pop, 1) := by decide +kernel
theorem dL_carries_106 : decode cL_carries 106 = .ok (.aload_n 0, 1) := by decide +kernel
theorem dL_carries_107 : decode cL_carries 107 = .ok (.bipush 57, 2) := by decide +kernel
theorem dL_carries_109 : decode cL_carries 109 = .ok (.invokestatic 120, 3) := by decide +kernel
theorem dL_carries_112 : decode cL_carries 112 = .ok (.pop, 1) := by decide +kernel
theorem dL_carries_113 : decode cL_carries 113 = .ok (.aload_n 0, 1) := by decide +kernel
theorem dL_carries_114 : decode cL_carries 114 = .ok (.bipush 59, 2) := by decide +kernel
theorem dL_carries_116 : decode cL_carries 116 = .ok (.invokestatic 120, 3) := by decide +kernel
theorem dL_carries_119 : decode cL_carries 119 = .ok (.pop, 1) := by decide +kernel
theorem dL_carries_120 : decode cL_carries 120 = .ok (.aload_n 0, 1) := by decide +kernel
theorem dL_carries_121 : decode cL_carries 121 = .ok (.bipush 99, 2) := by decide +kernel
theorem dL_carries_123 : decode cL_carries 123 = .ok (.invokestatic 120, 3) := by decide +kernel
theorem dL_carries_126 : decode cL_carries 126 = .ok (.pop, 1) := by decide +kernel
theorem dL_carries_127 : decode cL_carries 127 = .ok (.aload_n 0, 1) := by decide +kernel
theorem dL_carries_128 : decode cL_carries 128 = .ok (.bipush 48, 2) := by decide +kernel
theorem dL_carries_130 : decode cL_carries 130 = .ok (.iload 4, 2) := by decide +kernel
theorem dL_carries_132 : decode cL_carries 132 = .ok (.iadd, 1) := by decide +kernel
theorem dL_carries_133 : decode cL_carries 133 = .ok (.invokestatic 120, 3) := by decide +kernel
theorem dL_carries_136 : decode cL_carries 136 = .ok (.pop, 1) := by decide +kernel
theorem dL_carries_137 : decode cL_carries 137 = .ok (.aload_n 0, 1) := by decide +kernel
theorem dL_carries_138 : decode cL_carries 138 = .ok (.bipush 59, 2) := by decide +kernel
theorem dL_carries_140 : decode cL_carries 140 = .ok (.invokestatic 120, 3) := by decide +kernel
theorem dL_carries_143 : decode cL_carries 143 = .ok (.istore 6, 2) := by decide +kernel
theorem dL_carries_145 : decode cL_carries 145 = .ok (.iload_n 1, 1) := by decide +kernel
theorem dL_carries_146 : decode cL_carries 146 = .ok (.iload_n 2, 1) := by decide +kernel
theorem dL_carries_147 : decode cL_carries 147 = .ok (.if_icmp .eq 20, 3) := by decide +kernel
theorem dL_carries_150 : decode cL_carries 150 = .ok (.aload_n 0, 1) := by decide +kernel
theorem dL_carries_151 : decode cL_carries 151 = .ok (.iconst 3, 1) := by decide +kernel
theorem dL_carries_152 : decode cL_carries 152 = .ok (.invokestatic 73, 3) := by decide +kernel
theorem dL_carries_155 : decode cL_carries 155 = .ok (.aload_n 0, 1) := by decide +kernel
theorem dL_carries_156 : decode cL_carries 156 = .ok (.iconst 0, 1) := by decide +kernel
theorem dL_carries_157 : decode cL_carries 157 = .ok (.invokestatic 73, 3) := by decide +kernel
theorem dL_carries_160 : decode cL_carries 160 = .ok (.if_icmp .ge 7, 3) := by decide +kernel
theorem dL_carries_163 : decode cL_carries 163 = .ok (.iconst 1, 1) := by decide +kernel
theorem dL_carries_164 : decode cL_carries 164 = .ok (.goto 4, 3) := by decide +kernel
theorem dL_carries_167 : decode cL_carries 167 = .ok (.iconst 0, 1) := by decide +kernel
theorem dL_carries_168 : decode cL_carries 168 = .ok (.istore 7, 2) := by decide +kernel
theorem dL_carries_170 : decode cL_carries 170 = .ok (.aload_n 0, 1) := by decide +kernel
theorem dL_carries_171 : decode cL_carries 171 = .ok (.iconst 2, 1) := by decide +kernel
theorem dL_carries_172 : decode cL_carries 172 = .ok (.invokestatic 73, 3) := by decide +kernel
theorem dL_carries_175 : decode cL_carries 175 = .ok (.istore 8, 2) := by decide +kernel
theorem dL_carries_177 : decode cL_carries 177 = .ok (.iload 5, 2) := by decide +kernel
theorem dL_carries_179 : decode cL_carries 179 = .ok (.ifCond .eq 52, 3) := by decide +kernel
theorem dL_carries_182 : decode cL_carries 182 = .ok (.iload 6, 2) := by decide +kernel
theorem dL_carries_184 : decode cL_carries 184 = .ok (.bipush 14, 2) := by decide +kernel
theorem dL_carries_186 : decode cL_carries 186 = .ok (.if_icmp .ne 45, 3) := by decide +kernel
theorem dL_carries_189 : decode cL_carries 189 = .ok (.aload_n 0, 1) := by decide +kernel
theorem dL_carries_190 : decode cL_carries 190 = .ok (.invokevirtual 117, 3) := by decide +kernel
theorem dL_carries_193 : decode cL_carries 193 = .ok (.iload 7, 2) := by decide +kernel
theorem dL_carries_195 : decode cL_carries 195 = .ok (.ifCond .eq 7, 3) := by decide +kernel
theorem dL_carries_198 : decode cL_carries 198 = .ok (.iconst 3, 1) := by decide +kernel
theorem dL_carries_199 : decode cL_carries 199 = .ok (.goto 4, 3) := by decide +kernel
theorem dL_carries_202 : decode cL_carries 202 = .ok (.iconst 0, 1) := by decide +kernel
theorem dL_carries_203 : decode cL_carries 203 = .ok (.if_icmp .ne 28, 3) := by decide +kernel
theorem dL_carries_206 : decode cL_carries 206 = .ok (.aload_n 0, 1) := by decide +kernel
theorem dL_carries_207 : decode cL_carries 207 = .ok (.iconst 2, 1) := by decide +kernel
theorem dL_carries_208 : decode cL_carries 208 = .ok (.invokestatic 73, 3) := by decide +kernel
theorem dL_carries_211 : decode cL_carries 211 = .ok (.iload 8, 2) := by decide +kernel
theorem dL_carries_213 : decode cL_carries 213 = .ok (.iload 7, 2) := by decide +kernel
theorem dL_carries_215 : decode cL_carries 215 = .ok (.ifCond .eq 7, 3) := by decide +kernel
theorem dL_carries_218 : decode cL_carries 218 = .ok (.iconst 1, 1) := by decide +kernel
theorem dL_carries_219 : decode cL_carries 219 = .ok (.goto 4, 3) := by decide +kernel
theorem dL_carries_222 : decode cL_carries 222 = .ok (.iconst 0, 1) := by decide +kernel
theorem dL_carries_223 : decode cL_carries 223 = .ok (.iadd, 1) := by decide +kernel
theorem dL_carries_224 : decode cL_carries 224 = .ok (.if_icmp .ne 7, 3) := by decide +kernel
theorem dL_carries_227 : decode cL_carries 227 = .ok (.iconst 1, 1) := by decide +kernel
theorem dL_carries_228 : decode cL_carries 228 = .ok (.goto 4, 3) := by decide +kernel
theorem dL_carries_231 : decode cL_carries 231 = .ok (.iconst 0, 1) := by decide +kernel
theorem dL_carries_232 : decode cL_carries 232 = .ok (.istore 5, 2) := by decide +kernel
theorem dL_carries_234 : decode cL_carries 234 = .ok (.aload_n 0, 1) := by decide +kernel
theorem dL_carries_235 : decode cL_carries 235 = .ok (.iload 4, 2) := by decide +kernel
theorem dL_carries_237 : decode cL_carries 237 = .ok (.iconst 4, 1) := by decide +kernel
theorem dL_carries_238 : decode cL_carries 238 = .ok (.invokestatic 78, 3) := by decide +kernel
theorem dL_carries_241 : decode cL_carries 241 = .ok (.istore 9, 2) := by decide +kernel
theorem dL_carries_243 : decode cL_carries 243 = .ok (.aload_n 0, 1) := by decide +kernel
theorem dL_carries_244 : decode cL_carries 244 = .ok (.iload 4, 2) := by decide +kernel
theorem dL_carries_246 : decode cL_carries 246 = .ok (.iconst 5, 1) := by decide +kernel
theorem dL_carries_247 : decode cL_carries 247 = .ok (.invokestatic 78, 3) := by decide +kernel
theorem dL_carries_250 : decode cL_carries 250 = .ok (.istore 10, 2) := by decide +kernel
theorem dL_carries_252 : decode cL_carries 252 = .ok (.iload 5, 2) := by decide +kernel
theorem dL_carries_254 : decode cL_carries 254 = .ok (.ifCond .eq 24, 3) := by decide +kernel
theorem dL_carries_257 : decode cL_carries 257 = .ok (.aload_n 0, 1) := by decide +kernel
theorem dL_carries_258 : decode cL_carries 258 = .ok (.invokestatic 104, 3) := by decide +kernel
theorem dL_carries_261 : decode cL_carries 261 = .ok (.ifCond .lt 17, 3) := by decide +kernel
theorem dL_carries_264 : decode cL_carries 264 = .ok (.aload_n 0, 1) := by decide +kernel
theorem dL_carries_265 : decode cL_carries 265 = .ok (.iconst 2, 1) := by decide +kernel
theorem dL_carries_266 : decode cL_carries 266 = .ok (.invokestatic 73, 3) := by decide +kernel
theorem dL_carries_269 : decode cL_carries 269 = .ok (.iload 8, 2) := by decide +kernel
theorem dL_carries_271 : decode cL_carries 271 = .ok (.if_icmp .ne 7, 3) := by decide +kernel
theorem dL_carries_274 : decode cL_carries 274 = .ok (.iconst 1, 1) := by decide +kernel
theorem dL_carries_275 : decode cL_carries 275 = .ok (.goto 4, 3) := by decide +kernel
theorem dL_carries_278 : decode cL_carries 278 = .ok (.iconst 0, 1) := by decide +kernel
theorem dL_carries_279 : decode cL_carries 279 = .ok (.istore 5, 2) := by decide +kernel
theorem dL_carries_281 : decode cL_carries 281 = .ok (.iload 7, 2) := by decide +kernel
theorem dL_carries_283 : decode cL_carries 283 = .ok (.ifCond .eq 72, 3) := by decide +kernel
theorem dL_carries_286 : decode cL_carries 286 = .ok (.iload 5, 2) := by decide +kernel
theorem dL_carries_288 : decode cL_carries 288 = .ok (.ifCond .eq 64, 3) := by decide +kernel
theorem dL_carries_291 : decode cL_carries 291 = .ok (.aload_n 0, 1) := by decide +kernel
theorem dL_carries_292 : decode cL_carries 292 = .ok (.iconst 2, 1) := by decide +kernel
theorem dL_carries_293 : decode cL_carries 293 = .ok (.iload_n 1, 1) := by decide +kernel
theorem dL_carries_294 : decode cL_carries 294 = .ok (.iload_n 2, 1) := by decide +kernel
theorem dL_carries_295 : decode cL_carries 295 = .ok (.iload_n 3, 1) := by decide +kernel
theorem dL_carries_296 : decode cL_carries 296 = .ok (.invokestatic 122, 3) := by decide +kernel
theorem dL_carries_299 : decode cL_carries 299 = .ok (.iload 8, 2) := by decide +kernel
theorem dL_carries_301 : decode cL_carries 301 = .ok (.if_icmp .ne 51, 3) := by decide +kernel
theorem dL_carries_304 : decode cL_carries 304 = .ok (.aload_n 0, 1) := by decide +kernel
theorem dL_carries_305 : decode cL_carries 305 = .ok (.iload 4, 2) := by decide +kernel
theorem dL_carries_307 : decode cL_carries 307 = .ok (.bipush 9, 2) := by decide +kernel
theorem dL_carries_309 : decode cL_carries 309 = .ok (.invokestatic 102, 3) := by decide +kernel
theorem dL_carries_312 : decode cL_carries 312 = .ok (.ifCond .lt 40, 3) := by decide +kernel
theorem dL_carries_315 : decode cL_carries 315 = .ok (.aload_n 0, 1) := by decide +kernel
theorem dL_carries_316 : decode cL_carries 316 = .ok (.iload 4, 2) := by decide +kernel
theorem dL_carries_318 : decode cL_carries 318 = .ok (.invokestatic 107, 3) := by decide +kernel
theorem dL_carries_321 : decode cL_carries 321 = .ok (.ifCond .lt 31, 3) := by decide +kernel
theorem dL_carries_324 : decode cL_carries 324 = .ok (.aload_n 0, 1) := by decide +kernel
theorem dL_carries_325 : decode cL_carries 325 = .ok (.iload 4, 2) := by decide +kernel
theorem dL_carries_327 : decode cL_carries 327 = .ok (.iconst 4, 1) := by decide +kernel
theorem dL_carries_328 : decode cL_carries 328 = .ok (.invokestatic 78, 3) := by decide +kernel
theorem dL_carries_331 : decode cL_carries 331 = .ok (.iload 9, 2) := by decide +kernel
theorem dL_carries_333 : decode cL_carries 333 = .ok (.if_icmp .ne 19, 3) := by decide +kernel
theorem dL_carries_336 : decode cL_carries 336 = .ok (.aload_n 0, 1) := by decide +kernel
theorem dL_carries_337 : decode cL_carries 337 = .ok (.iload 4, 2) := by decide +kernel
theorem dL_carries_339 : decode cL_carries 339 = .ok (.iconst 5, 1) := by decide +kernel
theorem dL_carries_340 : decode cL_carries 340 = .ok (.invokestatic 78, 3) := by decide +kernel
theorem dL_carries_343 : decode cL_carries 343 = .ok (.iload 10, 2) := by decide +kernel
theorem dL_carries_345 : decode cL_carries 345 = .ok (.if_icmp .ne 7, 3) := by decide +kernel
theorem dL_carries_348 : decode cL_carries 348 = .ok (.iconst 1, 1) := by decide +kernel
theorem dL_carries_349 : decode cL_carries 349 = .ok (.goto 4, 3) := by decide +kernel
theorem dL_carries_352 : decode cL_carries 352 = .ok (.iconst 0, 1) := by decide +kernel
theorem dL_carries_353 : decode cL_carries 353 = .ok (.istore 5, 2) := by decide +kernel
theorem dL_carries_355 : decode cL_carries 355 = .ok (.iload 5, 2) := by decide +kernel
theorem dL_carries_357 : decode cL_carries 357 = .ok (.ifCond .eq 56, 3) := by decide +kernel
theorem dL_carries_360 : decode cL_carries 360 = .ok (.aload_n 0, 1) := by decide +kernel
theorem dL_carries_361 : decode cL_carries 361 = .ok (.bipush 99, 2) := by decide +kernel
theorem dL_carries_363 : decode cL_carries 363 = .ok (.invokestatic 120, 3) := by decide +kernel
theorem dL_carries_366 : decode cL_carries 366 = .ok (.bipush 15, 2) := by decide +kernel
theorem dL_carries_368 : decode cL_carries 368 = .ok (.if_icmp .ne 45, 3) := by decide +kernel
theorem dL_carries_371 : decode cL_carries 371 = .ok (.aload_n 0, 1) := by decide +kernel
theorem dL_carries_372 : decode cL_carries 372 = .ok (.invokevirtual 117, 3) := by decide +kernel
theorem dL_carries_375 : decode cL_carries 375 = .ok (.bipush (-25), 2) := by decide +kernel
theorem dL_carries_377 : decode cL_carries 377 = .ok (.if_icmp .ne 36, 3) := by decide +kernel
theorem dL_carries_380 : decode cL_carries 380 = .ok (.aload_n 0, 1) := by decide +kernel
theorem dL_carries_381 : decode cL_carries 381 = .ok (.bipush 50, 2) := by decide +kernel
theorem dL_carries_383 : decode cL_carries 383 = .ok (.invokestatic 120, 3) := by decide +kernel
theorem dL_carries_386 : decode cL_carries 386 = .ok (.bipush 16, 2) := by decide +kernel
theorem dL_carries_388 : decode cL_carries 388 = .ok (.if_icmp .ne 25, 3) := by decide +kernel
theorem dL_carries_391 : decode cL_carries 391 = .ok (.aload_n 0, 1) := by decide +kernel
theorem dL_carries_392 : decode cL_carries 392 = .ok (.invokevirtual 117, 3) := by decide +kernel
theorem dL_carries_395 : decode cL_carries 395 = .ok (.bipush (-25), 2) := by decide +kernel
theorem dL_carries_397 : decode cL_carries 397 = .ok (.if_icmp .ne 16, 3) := by decide +kernel
theorem dL_carries_400 : decode cL_carries 400 = .ok (.aload_n 0, 1) := by decide +kernel
theorem dL_carries_401 : decode cL_carries 401 = .ok (.invokevirtual 114, 3) := by decide +kernel
theorem dL_carries_404 : decode cL_carries 404 = .ok (.bipush 16, 2) := by decide +kernel
theorem dL_carries_406 : decode cL_carries 406 = .ok (.if_icmp .ne 7, 3) := by decide +kernel
theorem dL_carries_409 : decode cL_carries 409 = .ok (.iconst 1, 1) := by decide +kernel
theorem dL_carries_410 : decode cL_carries 410 = .ok (.goto 4, 3) := by decide +kernel
theorem dL_carries_413 : decode cL_carries 413 = .ok (.iconst 0, 1) := by decide +kernel
theorem dL_carries_414 : decode cL_carries 414 = .ok (.istore 5, 2) := by decide +kernel
theorem dL_carries_416 : decode cL_carries 416 = .ok (.aload_n 0, 1) := by decide +kernel
theorem dL_carries_417 : decode cL_carries 417 = .ok (.bipush 108, 2) := by decide +kernel
theorem dL_carries_419 : decode cL_carries 419 = .ok (.invokestatic 120, 3) := by decide +kernel
theorem dL_carries_422 : decode cL_carries 422 = .ok (.pop, 1) := by decide +kernel
theorem dL_carries_423 : decode cL_carries 423 = .ok (.aload_n 0, 1) := by decide +kernel
theorem dL_carries_424 : decode cL_carries 424 = .ok (.bipush 48, 2) := by decide +kernel
theorem dL_carries_426 : decode cL_carries 426 = .ok (.iload_n 1, 1) := by decide +kernel
theorem dL_carries_427 : decode cL_carries 427 = .ok (.iadd, 1) := by decide +kernel
theorem dL_carries_428 : decode cL_carries 428 = .ok (.invokestatic 120, 3) := by decide +kernel
theorem dL_carries_431 : decode cL_carries 431 = .ok (.pop, 1) := by decide +kernel
theorem dL_carries_432 : decode cL_carries 432 = .ok (.aload_n 0, 1) := by decide +kernel
theorem dL_carries_433 : decode cL_carries 433 = .ok (.bipush 44, 2) := by decide +kernel
theorem dL_carries_435 : decode cL_carries 435 = .ok (.invokestatic 120, 3) := by decide +kernel
theorem dL_carries_438 : decode cL_carries 438 = .ok (.pop, 1) := by decide +kernel
theorem dL_carries_439 : decode cL_carries 439 = .ok (.aload_n 0, 1) := by decide +kernel
theorem dL_carries_440 : decode cL_carries 440 = .ok (.bipush 48, 2) := by decide +kernel
theorem dL_carries_442 : decode cL_carries 442 = .ok (.invokestatic 120, 3) := by decide +kernel
theorem dL_carries_445 : decode cL_carries 445 = .ok (.pop, 1) := by decide +kernel
theorem dL_carries_446 : decode cL_carries 446 = .ok (.iload 5, 2) := by decide +kernel
theorem dL_carries_448 : decode cL_carries 448 = .ok (.ifCond .eq 64, 3) := by decide +kernel
theorem dL_carries_451 : decode cL_carries 451 = .ok (.aload_n 0, 1) := by decide +kernel
theorem dL_carries_452 : decode cL_carries 452 = .ok (.invokevirtual 117, 3) := by decide +kernel
theorem dL_carries_455 : decode cL_carries 455 = .ok (.bipush (-13), 2) := by decide +kernel
theorem dL_carries_457 : decode cL_carries 457 = .ok (.if_icmp .ne 55, 3) := by decide +kernel
theorem dL_carries_460 : decode cL_carries 460 = .ok (.aload_n 0, 1) := by decide +kernel
theorem dL_carries_461 : decode cL_carries 461 = .ok (.bipush 53, 2) := by decide +kernel
theorem dL_carries_463 : decode cL_carries 463 = .ok (.invokestatic 120, 3) := by decide +kernel
theorem dL_carries_466 : decode cL_carries 466 = .ok (.iconst 5, 1) := by decide +kernel
theorem dL_carries_467 : decode cL_carries 467 = .ok (.if_icmp .ne 45, 3) := by decide +kernel
theorem dL_carries_470 : decode cL_carries 470 = .ok (.aload_n 0, 1) := by decide +kernel
theorem dL_carries_471 : decode cL_carries 471 = .ok (.invokevirtual 117, 3) := by decide +kernel
theorem dL_carries_474 : decode cL_carries 474 = .ok (.bipush (-15), 2) := by decide +kernel
theorem dL_carries_476 : decode cL_carries 476 = .ok (.if_icmp .ne 36, 3) := by decide +kernel
theorem dL_carries_479 : decode cL_carries 479 = .ok (.aload_n 0, 1) := by decide +kernel
theorem dL_carries_480 : decode cL_carries 480 = .ok (.bipush 53, 2) := by decide +kernel
theorem dL_carries_482 : decode cL_carries 482 = .ok (.invokestatic 120, 3) := by decide +kernel
theorem dL_carries_485 : decode cL_carries 485 = .ok (.bipush 6, 2) := by decide +kernel
theorem dL_carries_487 : decode cL_carries 487 = .ok (.if_icmp .ne 25, 3) := by decide +kernel
theorem dL_carries_490 : decode cL_carries 490 = .ok (.aload_n 0, 1) := by decide +kernel
theorem dL_carries_491 : decode cL_carries 491 = .ok (.invokevirtual 117, 3) := by decide +kernel
theorem dL_carries_494 : decode cL_carries 494 = .ok (.bipush (-15), 2) := by decide +kernel
theorem dL_carries_496 : decode cL_carries 496 = .ok (.if_icmp .ne 16, 3) := by decide +kernel
theorem dL_carries_499 : decode cL_carries 499 = .ok (.aload_n 0, 1) := by decide +kernel
theorem dL_carries_500 : decode cL_carries 500 = .ok (.invokevirtual 114, 3) := by decide +kernel
theorem dL_carries_503 : decode cL_carries 503 = .ok (.bipush 6, 2) := by decide +kernel
theorem dL_carries_505 : decode cL_carries 505 = .ok (.if_icmp .ne 7, 3) := by decide +kernel
theorem dL_carries_508 : decode cL_carries 508 = .ok (.iconst 1, 1) := by decide +kernel
theorem dL_carries_509 : decode cL_carries 509 = .ok (.goto 4, 3) := by decide +kernel
theorem dL_carries_512 : decode cL_carries 512 = .ok (.iconst 0, 1) := by decide +kernel
theorem dL_carries_513 : decode cL_carries 513 = .ok (.ireturn, 1) := by decide +kernel
theorem dL_refuses_0 : decode cL_refuses 0 = .ok (.aload_n 0, 1) := by decide +kernel
theorem dL_refuses_1 : decode cL_refuses 1 = .ok (.invokevirtual 125, 3) := by decide +kernel
theorem dL_refuses_4 : decode cL_refuses 4 = .ok (.lstore_n 1, 1) := by decide +kernel
theorem dL_refuses_5 : decode cL_refuses 5 = .ok (.aload_n 0, 1) := by decide +kernel
theorem dL_refuses_6 : decode cL_refuses 6 = .ok (.iconst 2, 1) := by decide +kernel
theorem dL_refuses_7 : decode cL_refuses 7 = .ok (.invokestatic 73, 3) := by decide +kernel
theorem dL_refuses_10 : decode cL_refuses 10 = .ok (.istore_n 3, 1) := by decide +kernel
theorem dL_refuses_11 : decode cL_refuses 11 = .ok (.aload_n 0, 1) := by decide +kernel
theorem dL_refuses_12 : decode cL_refuses 12 = .ok (.iconst 3, 1) := by decide +kernel
theorem dL_refuses_13 : decode cL_refuses 13 = .ok (.invokestatic 129, 3) := by decide +kernel
theorem dL_refuses_16 : decode cL_refuses 16 = .ok (.bipush (-11), 2) := by decide +kernel
theorem dL_refuses_18 : decode cL_refuses 18 = .ok (.if_icmp .ne 161, 3) := by decide +kernel
theorem dL_refuses_21 : decode cL_refuses 21 = .ok (.aload_n 0, 1) := by decide +kernel
theorem dL_refuses_22 : decode cL_refuses 22 = .ok (.bipush 33, 2) := by decide +kernel
theorem dL_refuses_24 : decode cL_refuses 24 = .ok (.invokestatic 129, 3) := by decide +kernel
theorem dL_refuses_27 : decode cL_refuses 27 = .ok (.bipush (-11), 2) := by decide +kernel
theorem dL_refuses_29 : decode cL_refuses 29 = .ok (.if_icmp .ne 150, 3) := by decide +kernel
theorem dL_refuses_32 : decode cL_refuses 32 = .ok (.aload_n 0, 1) := by decide +kernel
theorem dL_refuses_33 : decode cL_refuses 33 = .ok (.iconst 5, 1) := by decide +kernel
theorem dL_refuses_34 : decode cL_refuses 34 = .ok (.iconst 0, 1) := by decide +kernel
theorem dL_refuses_35 : decode cL_refuses 35 = .ok (.iconst 1, 1) := by decide +kernel
theorem dL_refuses_36 : decode cL_refuses 36 = .ok (.iconst 1, 1) := by decide +kernel
theorem dL_refuses_37 : decode cL_refuses 37 = .ok (.invokestatic 122, 3) := by decide +kernel
theorem dL_refuses_40 : decode cL_refuses 40 = .ok (.bipush (-11), 2) := by decide +kernel
theorem dL_refuses_42 : decode cL_refuses 42 = .ok (.if_icmp .ne 137, 3) := by decide +kernel
theorem dL_refuses_45 : decode cL_refuses 45 = .ok (.aload_n 0, 1) := by decide +kernel
theorem dL_refuses_46 : decode cL_refuses 46 = .ok (.iconst 0, 1) := by decide +kernel
theorem dL_refuses_47 : decode cL_refuses 47 = .ok (.bipush 8, 2) := by decide +kernel
theorem dL_refuses_49 : decode cL_refuses 49 = .ok (.iconst 1, 1) := by decide +kernel
theorem dL_refuses_50 : decode cL_refuses 50 = .ok (.iconst 1, 1) := by decide +kernel
theorem dL_refuses_51 : decode cL_refuses 51 = .ok (.invokestatic 122, 3) := by decide +kernel
theorem dL_refuses_54 : decode cL_refuses 54 = .ok (.bipush (-11), 2) := by decide +kernel
theorem dL_refuses_56 : decode cL_refuses 56 = .ok (.if_icmp .ne 123, 3) := by decide +kernel
theorem dL_refuses_59 : decode cL_refuses 59 = .ok (.aload_n 0, 1) := by decide +kernel
theorem dL_refuses_60 : decode cL_refuses 60 = .ok (.iconst 2, 1) := by decide +kernel
theorem dL_refuses_61 : decode cL_refuses 61 = .ok (.iconst 0, 1) := by decide +kernel
theorem dL_refuses_62 : decode cL_refuses 62 = .ok (.bipush 8, 2) := by decide +kernel
theorem dL_refuses_64 : decode cL_refuses 64 = .ok (.iconst 1, 1) := by decide +kernel
theorem dL_refuses_65 : decode cL_refuses 65 = .ok (.invokestatic 122, 3) := by decide +kernel
theorem dL_refuses_68 : decode cL_refuses 68 = .ok (.bipush (-11), 2) := by decide +kernel
theorem dL_refuses_70 : decode cL_refuses 70 = .ok (.if_icmp .ne 109, 3) := by decide +kernel
theorem dL_refuses_73 : decode cL_refuses 73 = .ok (.aload_n 0, 1) := by decide +kernel
theorem dL_refuses_74 : decode cL_refuses 74 = .ok (.iconst 3, 1) := by decide +kernel
theorem dL_refuses_75 : decode cL_refuses 75 = .ok (.iconst 4, 1) := by decide +kernel
theorem dL_refuses_76 : decode cL_refuses 76 = .ok (.iconst 4, 1) := by decide +kernel
theorem dL_refuses_77 : decode cL_refuses 77 = .ok (.iconst 1, 1) := by decide +kernel
theorem dL_refuses_78 : decode cL_refuses 78 = .ok (.invokestatic 122, 3) := by decide +kernel
theorem dL_refuses_81 : decode cL_refuses 81 = .ok (.bipush (-11), 2) := by decide +kernel
theorem dL_refuses_83 : decode cL_refuses 83 = .ok (.if_icmp .ne 96, 3) := by decide +kernel
theorem dL_refuses_86 : decode cL_refuses 86 = .ok (.aload_n 0, 1) := by decide +kernel
theorem dL_refuses_87 : decode cL_refuses 87 = .ok (.iconst 1, 1) := by decide +kernel
theorem dL_refuses_88 : decode cL_refuses 88 = .ok (.iconst 0, 1) := by decide +kernel
theorem dL_refuses_89 : decode cL_refuses 89 = .ok (.iconst 0, 1) := by decide +kernel
theorem dL_refuses_90 : decode cL_refuses 90 = .ok (.iconst 0, 1) := by decide +kernel
theorem dL_refuses_91 : decode cL_refuses 91 = .ok (.invokestatic 122, 3) := by decide +kernel
theorem dL_refuses_94 : decode cL_refuses 94 = .ok (.bipush (-11), 2) := by decide +kernel
theorem dL_refuses_96 : decode cL_refuses 96 = .ok (.if_icmp .ne 83, 3) := by decide +kernel
theorem dL_refuses_99 : decode cL_refuses 99 = .ok (.aload_n 0, 1) := by decide +kernel
theorem dL_refuses_100 : decode cL_refuses 100 = .ok (.iconst 1, 1) := by decide +kernel
theorem dL_refuses_101 : decode cL_refuses 101 = .ok (.iconst 0, 1) := by decide +kernel
theorem dL_refuses_102 : decode cL_refuses 102 = .ok (.iconst 0, 1) := by decide +kernel
theorem dL_refuses_103 : decode cL_refuses 103 = .ok (.bipush 100, 2) := by decide +kernel
theorem dL_refuses_105 : decode cL_refuses 105 = .ok (.invokestatic 122, 3) := by decide +kernel
theorem dL_refuses_108 : decode cL_refuses 108 = .ok (.bipush (-11), 2) := by decide +kernel
theorem dL_refuses_110 : decode cL_refuses 110 = .ok (.if_icmp .ne 69, 3) := by decide +kernel
theorem dL_refuses_113 : decode cL_refuses 113 = .ok (.aload_n 0, 1) := by decide +kernel
theorem dL_refuses_114 : decode cL_refuses 114 = .ok (.iload_n 3, 1) := by decide +kernel
theorem dL_refuses_115 : decode cL_refuses 115 = .ok (.iconst 0, 1) := by decide +kernel
theorem dL_refuses_116 : decode cL_refuses 116 = .ok (.invokestatic 131, 3) := by decide +kernel
theorem dL_refuses_119 : decode cL_refuses 119 = .ok (.bipush (-11), 2) := by decide +kernel
theorem dL_refuses_121 : decode cL_refuses 121 = .ok (.if_icmp .ne 58, 3) := by decide +kernel
theorem dL_refuses_124 : decode cL_refuses 124 = .ok (.aload_n 0, 1) := by decide +kernel
theorem dL_refuses_125 : decode cL_refuses 125 = .ok (.aload_n 0, 1) := by decide +kernel
theorem dL_refuses_126 : decode cL_refuses 126 = .ok (.iconst 1, 1) := by decide +kernel
theorem dL_refuses_127 : decode cL_refuses 127 = .ok (.invokestatic 73, 3) := by decide +kernel
theorem dL_refuses_130 : decode cL_refuses 130 = .ok (.iconst 1, 1) := by decide +kernel
theorem dL_refuses_131 : decode cL_refuses 131 = .ok (.isub, 1) := by decide +kernel
theorem dL_refuses_132 : decode cL_refuses 132 = .ok (.iconst 0, 1) := by decide +kernel
theorem dL_refuses_133 : decode cL_refuses 133 = .ok (.invokestatic 131, 3) := by decide +kernel
theorem dL_refuses_136 : decode cL_refuses 136 = .ok (.bipush (-11), 2) := by decide +kernel
theorem dL_refuses_138 : decode cL_refuses 138 = .ok (.if_icmp .ne 41, 3) := by decide +kernel
theorem dL_refuses_141 : decode cL_refuses 141 = .ok (.aload_n 0, 1) := by decide +kernel
theorem dL_refuses_142 : decode cL_refuses 142 = .ok (.iconst 2, 1) := by decide +kernel
theorem dL_refuses_143 : decode cL_refuses 143 = .ok (.iconst 1, 1) := by decide +kernel
theorem dL_refuses_144 : decode cL_refuses 144 = .ok (.invokestatic 102, 3) := by decide +kernel
theorem dL_refuses_147 : decode cL_refuses 147 = .ok (.bipush (-11), 2) := by decide +kernel
theorem dL_refuses_149 : decode cL_refuses 149 = .ok (.if_icmp .ne 30, 3) := by decide +kernel
theorem dL_refuses_152 : decode cL_refuses 152 = .ok (.aload_n 0, 1) := by decide +kernel
theorem dL_refuses_153 : decode cL_refuses 153 = .ok (.iconst 0, 1) := by decide +kernel
theorem dL_refuses_154 : decode cL_refuses 154 = .ok (.iconst 0, 1) := by decide +kernel
theorem dL_refuses_155 : decode cL_refuses 155 = .ok (.invokestatic 102, 3) := by decide +kernel
theorem dL_refuses_158 : decode cL_refuses 158 = .ok (.bipush (-12), 2) := by decide +kernel
theorem dL_refuses_160 : decode cL_refuses 160 = .ok (.if_icmp .ne 19, 3) := by decide +kernel
theorem dL_refuses_163 : decode cL_refuses 163 = .ok (.aload_n 0, 1) := by decide +kernel
theorem dL_refuses_164 : decode cL_refuses 164 = .ok (.iconst 1, 1) := by decide +kernel
theorem dL_refuses_165 : decode cL_refuses 165 = .ok (.bipush 100, 2) := by decide +kernel
theorem dL_refuses_167 : decode cL_refuses 167 = .ok (.invokestatic 102, 3) := by decide +kernel
theorem dL_refuses_170 : decode cL_refuses 170 = .ok (.bipush (-12), 2) := by decide +kernel
theorem dL_refuses_172 : decode cL_refuses 172 = .ok (.if_icmp .ne 7, 3) := by decide +kernel
theorem dL_refuses_175 : decode cL_refuses 175 = .ok (.iconst 1, 1) := by decide +kernel
theorem dL_refuses_176 : decode cL_refuses 176 = .ok (.goto 4, 3) := by decide +kernel
theorem dL_refuses_179 : decode cL_refuses 179 = .ok (.iconst 0, 1) := by decide +kernel
theorem dL_refuses_180 : decode cL_refuses 180 = .ok (.istore 4, 2) := by decide +kernel
theorem dL_refuses_182 : decode cL_refuses 182 = .ok (.iload 4, 2) := by decide +kernel
theorem dL_refuses_184 : decode cL_refuses 184 = .ok (.ifCond .eq 171, 3) := by decide +kernel
theorem dL_refuses_187 : decode cL_refuses 187 = .ok (.aload_n 0, 1) := by decide +kernel
theorem dL_refuses_188 : decode cL_refuses 188 = .ok (.iconst (-1), 1) := by decide +kernel
theorem dL_refuses_189 : decode cL_refuses 189 = .ok (.invokestatic 109, 3) := by decide +kernel
theorem dL_refuses_192 : decode cL_refuses 192 = .ok (.bipush (-11), 2) := by decide +kernel
theorem dL_refuses_194 : decode cL_refuses 194 = .ok (.if_icmp .ne 161, 3) := by decide +kernel
theorem dL_refuses_197 : decode cL_refuses 197 = .ok (.aload_n 0, 1) := by decide +kernel
theorem dL_refuses_198 : decode cL_refuses 198 = .ok (.iconst 2, 1) := by decide +kernel
theorem dL_refuses_199 : decode cL_refuses 199 = .ok (.invokestatic 107, 3) := by decide +kernel
theorem dL_refuses_202 : decode cL_refuses 202 = .ok (.bipush (-11), 2) := by decide +kernel
theorem dL_refuses_204 : decode cL_refuses 204 = .ok (.if_icmp .ne 151, 3) := by decide +kernel
theorem dL_refuses_207 : decode cL_refuses 207 = .ok (.aload_n 0, 1) := by decide +kernel
theorem dL_refuses_208 : decode cL_refuses 208 = .ok (.iconst 2, 1) := by decide +kernel
theorem dL_refuses_209 : decode cL_refuses 209 = .ok (.iconst 1, 1) := by decide +kernel
theorem dL_refuses_210 : decode cL_refuses 210 = .ok (.invokestatic 111, 3) := by decide +kernel
theorem dL_refuses_213 : decode cL_refuses 213 = .ok (.bipush (-11), 2) := by decide +kernel
theorem dL_refuses_215 : decode cL_refuses 215 = .ok (.if_icmp .ne 140, 3) := by decide +kernel
theorem dL_refuses_218 : decode cL_refuses 218 = .ok (.aload_n 0, 1) := by decide +kernel
theorem dL_refuses_219 : decode cL_refuses 219 = .ok (.iload_n 3, 1) := by decide +kernel
theorem dL_refuses_220 : decode cL_refuses 220 = .ok (.bipush 9, 2) := by decide +kernel
theorem dL_refuses_222 : decode cL_refuses 222 = .ok (.invokestatic 84, 3) := by decide +kernel
theorem dL_refuses_225 : decode cL_refuses 225 = .ok (.bipush (-11), 2) := by decide +kernel
theorem dL_refuses_227 : decode cL_refuses 227 = .ok (.if_icmp .ne 128, 3) := by decide +kernel
theorem dL_refuses_230 : decode cL_refuses 230 = .ok (.aload_n 0, 1) := by decide +kernel
theorem dL_refuses_231 : decode cL_refuses 231 = .ok (.iconst 2, 1) := by decide +kernel
theorem dL_refuses_232 : decode cL_refuses 232 = .ok (.iconst 0, 1) := by decide +kernel
theorem dL_refuses_233 : decode cL_refuses 233 = .ok (.invokestatic 78, 3) := by decide +kernel
theorem dL_refuses_236 : decode cL_refuses 236 = .ok (.bipush (-11), 2) := by decide +kernel
theorem dL_refuses_238 : decode cL_refuses 238 = .ok (.if_icmp .ne 117, 3) := by decide +kernel
theorem dL_refuses_241 : decode cL_refuses 241 = .ok (.aload_n 0, 1) := by decide +kernel
theorem dL_refuses_242 : decode cL_refuses 242 = .ok (.iconst 0, 1) := by decide +kernel
theorem dL_refuses_243 : decode cL_refuses 243 = .ok (.bipush 6, 2) := by decide +kernel
theorem dL_refuses_245 : decode cL_refuses 245 = .ok (.invokestatic 78, 3) := by decide +kernel
theorem dL_refuses_248 : decode cL_refuses 248 = .ok (.bipush (-12), 2) := by decide +kernel
theorem dL_refuses_250 : decode cL_refuses 250 = .ok (.if_icmp .ne 105, 3) := by decide +kernel
theorem dL_refuses_253 : decode cL_refuses 253 = .ok (.aload_n 0, 1) := by decide +kernel
theorem dL_refuses_254 : decode cL_refuses 254 = .ok (.iconst 0, 1) := by decide +kernel
theorem dL_refuses_255 : decode cL_refuses 255 = .ok (.bipush 8, 2) := by decide +kernel
theorem dL_refuses_257 : decode cL_refuses 257 = .ok (.invokestatic 90, 3) := by decide +kernel
theorem dL_refuses_260 : decode cL_refuses 260 = .ok (.bipush (-11), 2) := by decide +kernel
theorem dL_refuses_262 : decode cL_refuses 262 = .ok (.if_icmp .ne 93, 3) := by decide +kernel
theorem dL_refuses_265 : decode cL_refuses 265 = .ok (.aload_n 0, 1) := by decide +kernel
theorem dL_refuses_266 : decode cL_refuses 266 = .ok (.iconst (-1), 1) := by decide +kernel
theorem dL_refuses_267 : decode cL_refuses 267 = .ok (.iconst 0, 1) := by decide +kernel
theorem dL_refuses_268 : decode cL_refuses 268 = .ok (.invokestatic 90, 3) := by decide +kernel
theorem dL_refuses_271 : decode cL_refuses 271 = .ok (.bipush (-11), 2) := by decide +kernel
theorem dL_refuses_273 : decode cL_refuses 273 = .ok (.if_icmp .ne 82, 3) := by decide +kernel
theorem dL_refuses_276 : decode cL_refuses 276 = .ok (.aload_n 0, 1) := by decide +kernel
theorem dL_refuses_277 : decode cL_refuses 277 = .ok (.bipush 7, 2) := by decide +kernel
theorem dL_refuses_279 : decode cL_refuses 279 = .ok (.invokestatic 73, 3) := by decide +kernel
theorem dL_refuses_282 : decode cL_refuses 282 = .ok (.bipush (-11), 2) := by decide +kernel
theorem dL_refuses_284 : decode cL_refuses 284 = .ok (.if_icmp .ne 71, 3) := by decide +kernel
theorem dL_refuses_287 : decode cL_refuses 287 = .ok (.aload_n 0, 1) := by decide +kernel
theorem dL_refuses_288 : decode cL_refuses 288 = .ok (.iconst 2, 1) := by decide +kernel
theorem dL_refuses_289 : decode cL_refuses 289 = .ok (.invokestatic 92, 3) := by decide +kernel
theorem dL_refuses_292 : decode cL_refuses 292 = .ok (.bipush (-11), 2) := by decide +kernel
theorem dL_refuses_294 : decode cL_refuses 294 = .ok (.if_icmp .ne 61, 3) := by decide +kernel
theorem dL_refuses_297 : decode cL_refuses 297 = .ok (.aload_n 0, 1) := by decide +kernel
theorem dL_refuses_298 : decode cL_refuses 298 = .ok (.iconst (-1), 1) := by decide +kernel
theorem dL_refuses_299 : decode cL_refuses 299 = .ok (.invokestatic 86, 3) := by decide +kernel
theorem dL_refuses_302 : decode cL_refuses 302 = .ok (.bipush (-11), 2) := by decide +kernel
theorem dL_refuses_304 : decode cL_refuses 304 = .ok (.if_icmp .ne 51, 3) := by decide +kernel
theorem dL_refuses_307 : decode cL_refuses 307 = .ok (.aload_n 0, 1) := by decide +kernel
theorem dL_refuses_308 : decode cL_refuses 308 = .ok (.iconst 0, 1) := by decide +kernel
theorem dL_refuses_309 : decode cL_refuses 309 = .ok (.bipush 8, 2) := by decide +kernel
theorem dL_refuses_311 : decode cL_refuses 311 = .ok (.invokestatic 88, 3) := by decide +kernel
theorem dL_refuses_314 : decode cL_refuses 314 = .ok (.bipush (-11), 2) := by decide +kernel
theorem dL_refuses_316 : decode cL_refuses 316 = .ok (.if_icmp .ne 39, 3) := by decide +kernel
theorem dL_refuses_319 : decode cL_refuses 319 = .ok (.aload_n 0, 1) := by decide +kernel
theorem dL_refuses_320 : decode cL_refuses 320 = .ok (.iconst 2, 1) := by decide +kernel
theorem dL_refuses_321 : decode cL_refuses 321 = .ok (.invokestatic 94, 3) := by decide +kernel
theorem dL_refuses_324 : decode cL_refuses 324 = .ok (.bipush (-11), 2) := by decide +kernel
theorem dL_refuses_326 : decode cL_refuses 326 = .ok (.if_icmp .ne 29, 3) := by decide +kernel
theorem dL_refuses_329 : decode cL_refuses 329 = .ok (.aload_n 0, 1) := by decide +kernel
theorem dL_refuses_330 : decode cL_refuses 330 = .ok (.iconst (-1), 1) := by decide +kernel
theorem dL_refuses_331 : decode cL_refuses 331 = .ok (.invokestatic 120, 3) := by decide +kernel
theorem dL_refuses_334 : decode cL_refuses 334 = .ok (.bipush (-11), 2) := by decide +kernel
theorem dL_refuses_336 : decode cL_refuses 336 = .ok (.if_icmp .ne 19, 3) := by decide +kernel
theorem dL_refuses_339 : decode cL_refuses 339 = .ok (.aload_n 0, 1) := by decide +kernel
theorem dL_refuses_340 : decode cL_refuses 340 = .ok (.sipush 128, 3) := by decide +kernel
theorem dL_refuses_343 : decode cL_refuses 343 = .ok (.invokestatic 120, 3) := by decide +kernel
theorem dL_refuses_346 : decode cL_refuses 346 = .ok (.bipush (-11), 2) := by decide +kernel
theorem dL_refuses_348 : decode cL_refuses 348 = .ok (.if_icmp .ne 7, 3) := by decide +kernel
theorem dL_refuses_351 : decode cL_refuses 351 = .ok (.iconst 1, 1) := by decide +kernel
theorem dL_refuses_352 : decode cL_refuses 352 = .ok (.goto 4, 3) := by decide +kernel
theorem dL_refuses_355 : decode cL_refuses 355 = .ok (.iconst 0, 1) := by decide +kernel
theorem dL_refuses_356 : decode cL_refuses 356 = .ok (.istore 4, 2) := by decide +kernel
theorem dL_refuses_358 : decode cL_refuses 358 = .ok (.iload 4, 2) := by decide +kernel
theorem dL_refuses_360 : decode cL_refuses 360 = .ok (.ifCond .eq 68, 3) := by decide +kernel
theorem dL_refuses_363 : decode cL_refuses 363 = .ok (.aload_n 0, 1) := by decide +kernel
theorem dL_refuses_364 : decode cL_refuses 364 = .ok (.iconst 3, 1) := by decide +kernel
theorem dL_refuses_365 : decode cL_refuses 365 = .ok (.invokestatic 73, 3) := by decide +kernel
theorem dL_refuses_368 : decode cL_refuses 368 = .ok (.ifCond .eq 30, 3) := by decide +kernel
theorem dL_refuses_371 : decode cL_refuses 371 = .ok (.aload_n 0, 1) := by decide +kernel
theorem dL_refuses_372 : decode cL_refuses 372 = .ok (.iload_n 3, 1) := by decide +kernel
theorem dL_refuses_373 : decode cL_refuses 373 = .ok (.iconst 1, 1) := by decide +kernel
theorem dL_refuses_374 : decode cL_refuses 374 = .ok (.isub, 1) := by decide +kernel
theorem dL_refuses_375 : decode cL_refuses 375 = .ok (.iconst 2, 1) := by decide +kernel
theorem dL_refuses_376 : decode cL_refuses 376 = .ok (.invokestatic 131, 3) := by decide +kernel
theorem dL_refuses_379 : decode cL_refuses 379 = .ok (.bipush (-12), 2) := by decide +kernel
theorem dL_refuses_381 : decode cL_refuses 381 = .ok (.if_icmp .ne 47, 3) := by decide +kernel
theorem dL_refuses_384 : decode cL_refuses 384 = .ok (.aload_n 0, 1) := by decide +kernel
theorem dL_refuses_385 : decode cL_refuses 385 = .ok (.iload_n 3, 1) := by decide +kernel
theorem dL_refuses_386 : decode cL_refuses 386 = .ok (.iconst 1, 1) := by decide +kernel
theorem dL_refuses_387 : decode cL_refuses 387 = .ok (.isub, 1) := by decide +kernel
theorem dL_refuses_388 : decode cL_refuses 388 = .ok (.bipush 6, 2) := by decide +kernel
theorem dL_refuses_390 : decode cL_refuses 390 = .ok (.invokestatic 84, 3) := by decide +kernel
theorem dL_refuses_393 : decode cL_refuses 393 = .ok (.bipush (-12), 2) := by decide +kernel
theorem dL_refuses_395 : decode cL_refuses 395 = .ok (.if_icmp .ne 33, 3) := by decide +kernel
theorem dL_refuses_398 : decode cL_refuses 398 = .ok (.aload_n 0, 1) := by decide +kernel
theorem dL_refuses_399 : decode cL_refuses 399 = .ok (.iconst 3, 1) := by decide +kernel
theorem dL_refuses_400 : decode cL_refuses 400 = .ok (.invokestatic 73, 3) := by decide +kernel
theorem dL_refuses_403 : decode cL_refuses 403 = .ok (.aload_n 0, 1) := by decide +kernel
theorem dL_refuses_404 : decode cL_refuses 404 = .ok (.iconst 0, 1) := by decide +kernel
theorem dL_refuses_405 : decode cL_refuses 405 = .ok (.invokestatic 73, 3) := by decide +kernel
theorem dL_refuses_408 : decode cL_refuses 408 = .ok (.if_icmp .lt 16, 3) := by decide +kernel
theorem dL_refuses_411 : decode cL_refuses 411 = .ok (.aload_n 0, 1) := by decide +kernel
theorem dL_refuses_412 : decode cL_refuses 412 = .ok (.iconst 0, 1) := by decide +kernel
theorem dL_refuses_413 : decode cL_refuses 413 = .ok (.iconst 0, 1) := by decide +kernel
theorem dL_refuses_414 : decode cL_refuses 414 = .ok (.iconst 0, 1) := by decide +kernel
theorem dL_refuses_415 : decode cL_refuses 415 = .ok (.iconst 1, 1) := by decide +kernel
theorem dL_refuses_416 : decode cL_refuses 416 = .ok (.invokestatic 122, 3) := by decide +kernel
theorem dL_refuses_419 : decode cL_refuses 419 = .ok (.bipush (-12), 2) := by decide +kernel
theorem dL_refuses_421 : decode cL_refuses 421 = .ok (.if_icmp .ne 7, 3) := by decide +kernel
theorem dL_refuses_424 : decode cL_refuses 424 = .ok (.iconst 1, 1) := by decide +kernel
theorem dL_refuses_425 : decode cL_refuses 425 = .ok (.goto 4, 3) := by decide +kernel
theorem dL_refuses_428 : decode cL_refuses 428 = .ok (.iconst 0, 1) := by decide +kernel
theorem dL_refuses_429 : decode cL_refuses 429 = .ok (.istore 4, 2) := by decide +kernel
theorem dL_refuses_431 : decode cL_refuses 431 = .ok (.iload 4, 2) := by decide +kernel
theorem dL_refuses_433 : decode cL_refuses 433 = .ok (.ifCond .eq 16, 3) := by decide +kernel
theorem dL_refuses_436 : decode cL_refuses 436 = .ok (.aload_n 0, 1) := by decide +kernel
theorem dL_refuses_437 : decode cL_refuses 437 = .ok (.invokevirtual 125, 3) := by decide +kernel
theorem dL_refuses_440 : decode cL_refuses 440 = .ok (.lload_n 1, 1) := by decide +kernel
theorem dL_refuses_441 : decode cL_refuses 441 = .ok (.lcmp, 1) := by decide +kernel
theorem dL_refuses_442 : decode cL_refuses 442 = .ok (.ifCond .ne 7, 3) := by decide +kernel
theorem dL_refuses_445 : decode cL_refuses 445 = .ok (.iconst 1, 1) := by decide +kernel
theorem dL_refuses_446 : decode cL_refuses 446 = .ok (.goto 4, 3) := by decide +kernel
theorem dL_refuses_449 : decode cL_refuses 449 = .ok (.iconst 0, 1) := by decide +kernel
theorem dL_refuses_450 : decode cL_refuses 450 = .ok (.ireturn, 1) := by decide +kernel
theorem dL_acts_0 : decode cL_acts 0 = .ok (.iload_n 1, 1) := by decide +kernel
theorem dL_acts_1 : decode cL_acts 1 = .ok (.iconst 4, 1) := by decide +kernel
theorem dL_acts_2 : decode cL_acts 2 = .ok (.ishr, 1) := by decide +kernel
theorem dL_acts_3 : decode cL_acts 3 = .ok (.istore_n 2, 1) := by decide +kernel
theorem dL_acts_4 : decode cL_acts 4 = .ok (.iload_n 2, 1) := by decide +kernel
theorem dL_acts_5 : decode cL_acts 5 = .ok (.iconst 1, 1) := by decide +kernel
theorem dL_acts_6 : decode cL_acts 6 = .ok (.iand, 1) := by decide +kernel
theorem dL_acts_7 : decode cL_acts 7 = .ok (.istore_n 3, 1) := by decide +kernel
theorem dL_acts_8 : decode cL_acts 8 = .ok (.iload_n 2, 1) := by decide +kernel
theorem dL_acts_9 : decode cL_acts 9 = .ok (.iconst 2, 1) := by decide +kernel
theorem dL_acts_10 : decode cL_acts 10 = .ok (.idiv, 1) := by decide +kernel
theorem dL_acts_11 : decode cL_acts 11 = .ok (.bipush 7, 2) := by decide +kernel
theorem dL_acts_13 : decode cL_acts 13 = .ok (.iand, 1) := by decide +kernel
theorem dL_acts_14 : decode cL_acts 14 = .ok (.istore 4, 2) := by decide +kernel
theorem dL_acts_16 : decode cL_acts 16 = .ok (.iload_n 2, 1) := by decide +kernel
theorem dL_acts_17 : decode cL_acts 17 = .ok (.bipush 16, 2) := by decide +kernel
theorem dL_acts_19 : decode cL_acts 19 = .ok (.idiv, 1) := by decide +kernel
theorem dL_acts_20 : decode cL_acts 20 = .ok (.bipush 7, 2) := by decide +kernel
theorem dL_acts_22 : decode cL_acts 22 = .ok (.iand, 1) := by decide +kernel
theorem dL_acts_23 : decode cL_acts 23 = .ok (.istore 5, 2) := by decide +kernel
theorem dL_acts_25 : decode cL_acts 25 = .ok (.iload_n 1, 1) := by decide +kernel
theorem dL_acts_26 : decode cL_acts 26 = .ok (.bipush 15, 2) := by decide +kernel
theorem dL_acts_28 : decode cL_acts 28 = .ok (.iand, 1) := by decide +kernel
theorem dL_acts_29 : decode cL_acts 29 = .ok (.tableswitch 244 0 14 #[75, 75, 75, 75, 111, 111, 125, 147, 147, 153, 191, 204, 210, 224, 224], 75) := by decide +kernel
theorem dL_acts_104 : decode cL_acts 104 = .ok (.aload_n 0, 1) := by decide +kernel
theorem dL_acts_105 : decode cL_acts 105 = .ok (.iload_n 2, 1) := by decide +kernel
theorem dL_acts_106 : decode cL_acts 106 = .ok (.sipush 128, 3) := by decide +kernel
theorem dL_acts_109 : decode cL_acts 109 = .ok (.idiv, 1) := by decide +kernel
theorem dL_acts_110 : decode cL_acts 110 = .ok (.iconst 5, 1) := by decide +kernel
theorem dL_acts_111 : decode cL_acts 111 = .ok (.irem, 1) := by decide +kernel
theorem dL_acts_112 : decode cL_acts 112 = .ok (.iload 4, 2) := by decide +kernel
theorem dL_acts_114 : decode cL_acts 114 = .ok (.iload 5, 2) := by decide +kernel
theorem dL_acts_116 : decode cL_acts 116 = .ok (.iconst 1, 1) := by decide +kernel
theorem dL_acts_117 : decode cL_acts 117 = .ok (.iload_n 2, 1) := by decide +kernel
theorem dL_acts_118 : decode cL_acts 118 = .ok (.sipush 1024, 3) := by decide +kernel
theorem dL_acts_121 : decode cL_acts 121 = .ok (.idiv, 1) := by decide +kernel
theorem dL_acts_122 : decode cL_acts 122 = .ok (.bipush 99, 2) := by decide +kernel
theorem dL_acts_124 : decode cL_acts 124 = .ok (.irem, 1) := by decide +kernel
theorem dL_acts_125 : decode cL_acts 125 = .ok (.iadd, 1) := by decide +kernel
theorem dL_acts_126 : decode cL_acts 126 = .ok (.invokestatic 122, 3) := by decide +kernel
theorem dL_acts_129 : decode cL_acts 129 = .ok (.bipush (-12), 2) := by decide +kernel
theorem dL_acts_131 : decode cL_acts 131 = .ok (.if_icmp .lt 7, 3) := by decide +kernel
theorem dL_acts_134 : decode cL_acts 134 = .ok (.iconst 1, 1) := by decide +kernel
theorem dL_acts_135 : decode cL_acts 135 = .ok (.goto 4, 3) := by decide +kernel
theorem dL_acts_138 : decode cL_acts 138 = .ok (.iconst 0, 1) := by decide +kernel
theorem dL_acts_139 : decode cL_acts 139 = .ok (.ireturn, 1) := by decide +kernel
theorem dL_acts_140 : decode cL_acts 140 = .ok (.aload_n 0, 1) := by decide +kernel
theorem dL_acts_141 : decode cL_acts 141 = .ok (.iload_n 3, 1) := by decide +kernel
theorem dL_acts_142 : decode cL_acts 142 = .ok (.iconst 1, 1) := by decide +kernel
theorem dL_acts_143 : decode cL_acts 143 = .ok (.iload_n 2, 1) := by decide +kernel
theorem dL_acts_144 : decode cL_acts 144 = .ok (.iconst 2, 1) := by decide +kernel
theorem dL_acts_145 : decode cL_acts 145 = .ok (.idiv, 1) := by decide +kernel
theorem dL_acts_146 : decode cL_acts 146 = .ok (.bipush 9, 2) := by decide +kernel
theorem dL_acts_148 : decode cL_acts 148 = .ok (.irem, 1) := by decide +kernel
theorem dL_acts_149 : decode cL_acts 149 = .ok (.iadd, 1) := by decide +kernel
theorem dL_acts_150 : decode cL_acts 150 = .ok (.invokestatic 133, 3) := by decide +kernel
theorem dL_acts_153 : decode cL_acts 153 = .ok (.ireturn, 1) := by decide +kernel
theorem dL_acts_154 : decode cL_acts 154 = .ok (.aload_n 0, 1) := by decide +kernel
theorem dL_acts_155 : decode cL_acts 155 = .ok (.iload_n 3, 1) := by decide +kernel
theorem dL_acts_156 : decode cL_acts 156 = .ok (.iconst 1, 1) := by decide +kernel
theorem dL_acts_157 : decode cL_acts 157 = .ok (.iload_n 2, 1) := by decide +kernel
theorem dL_acts_158 : decode cL_acts 158 = .ok (.iconst 2, 1) := by decide +kernel
theorem dL_acts_159 : decode cL_acts 159 = .ok (.idiv, 1) := by decide +kernel
theorem dL_acts_160 : decode cL_acts 160 = .ok (.bipush 20, 2) := by decide +kernel
theorem dL_acts_162 : decode cL_acts 162 = .ok (.irem, 1) := by decide +kernel
theorem dL_acts_163 : decode cL_acts 163 = .ok (.iadd, 1) := by decide +kernel
theorem dL_acts_164 : decode cL_acts 164 = .ok (.invokestatic 102, 3) := by decide +kernel
theorem dL_acts_167 : decode cL_acts 167 = .ok (.ifCond .lt 7, 3) := by decide +kernel
theorem dL_acts_170 : decode cL_acts 170 = .ok (.iconst 1, 1) := by decide +kernel
theorem dL_acts_171 : decode cL_acts 171 = .ok (.goto 4, 3) := by decide +kernel
theorem dL_acts_174 : decode cL_acts 174 = .ok (.iconst 0, 1) := by decide +kernel
theorem dL_acts_175 : decode cL_acts 175 = .ok (.ireturn, 1) := by decide +kernel
theorem dL_acts_176 : decode cL_acts 176 = .ok (.aload_n 0, 1) := by decide +kernel
theorem dL_acts_177 : decode cL_acts 177 = .ok (.iload_n 3, 1) := by decide +kernel
theorem dL_acts_178 : decode cL_acts 178 = .ok (.invokestatic 137, 3) := by decide +kernel
theorem dL_acts_181 : decode cL_acts 181 = .ok (.ireturn, 1) := by decide +kernel
theorem dL_acts_182 : decode cL_acts 182 = .ok (.aload_n 0, 1) := by decide +kernel
theorem dL_acts_183 : decode cL_acts 183 = .ok (.iconst 3, 1) := by decide +kernel
theorem dL_acts_184 : decode cL_acts 184 = .ok (.invokestatic 73, 3) := by decide +kernel
theorem dL_acts_187 : decode cL_acts 187 = .ok (.ifCond .eq 27, 3) := by decide +kernel
theorem dL_acts_190 : decode cL_acts 190 = .ok (.aload_n 0, 1) := by decide +kernel
theorem dL_acts_191 : decode cL_acts 191 = .ok (.aload_n 0, 1) := by decide +kernel
theorem dL_acts_192 : decode cL_acts 192 = .ok (.iconst 1, 1) := by decide +kernel
theorem dL_acts_193 : decode cL_acts 193 = .ok (.invokestatic 73, 3) := by decide +kernel
theorem dL_acts_196 : decode cL_acts 196 = .ok (.iload_n 2, 1) := by decide +kernel
theorem dL_acts_197 : decode cL_acts 197 = .ok (.iconst 2, 1) := by decide +kernel
theorem dL_acts_198 : decode cL_acts 198 = .ok (.idiv, 1) := by decide +kernel
theorem dL_acts_199 : decode cL_acts 199 = .ok (.aload_n 0, 1) := by decide +kernel
theorem dL_acts_200 : decode cL_acts 200 = .ok (.iconst 3, 1) := by decide +kernel
theorem dL_acts_201 : decode cL_acts 201 = .ok (.invokestatic 73, 3) := by decide +kernel
theorem dL_acts_204 : decode cL_acts 204 = .ok (.irem, 1) := by decide +kernel
theorem dL_acts_205 : decode cL_acts 205 = .ok (.iadd, 1) := by decide +kernel
theorem dL_acts_206 : decode cL_acts 206 = .ok (.iload_n 3, 1) := by decide +kernel
theorem dL_acts_207 : decode cL_acts 207 = .ok (.invokestatic 131, 3) := by decide +kernel
theorem dL_acts_210 : decode cL_acts 210 = .ok (.iconst 1, 1) := by decide +kernel
theorem dL_acts_211 : decode cL_acts 211 = .ok (.if_icmp .lt 7, 3) := by decide +kernel
theorem dL_acts_214 : decode cL_acts 214 = .ok (.iconst 1, 1) := by decide +kernel
theorem dL_acts_215 : decode cL_acts 215 = .ok (.goto 4, 3) := by decide +kernel
theorem dL_acts_218 : decode cL_acts 218 = .ok (.iconst 0, 1) := by decide +kernel
theorem dL_acts_219 : decode cL_acts 219 = .ok (.ireturn, 1) := by decide +kernel
theorem dL_acts_220 : decode cL_acts 220 = .ok (.aload_n 0, 1) := by decide +kernel
theorem dL_acts_221 : decode cL_acts 221 = .ok (.invokevirtual 141, 3) := by decide +kernel
theorem dL_acts_224 : decode cL_acts 224 = .ok (.ifCond .lt 7, 3) := by decide +kernel
theorem dL_acts_227 : decode cL_acts 227 = .ok (.iconst 1, 1) := by decide +kernel
theorem dL_acts_228 : decode cL_acts 228 = .ok (.goto 4, 3) := by decide +kernel
theorem dL_acts_231 : decode cL_acts 231 = .ok (.iconst 0, 1) := by decide +kernel
theorem dL_acts_232 : decode cL_acts 232 = .ok (.ireturn, 1) := by decide +kernel
theorem dL_acts_233 : decode cL_acts 233 = .ok (.aload_n 0, 1) := by decide +kernel
theorem dL_acts_234 : decode cL_acts 234 = .ok (.iload_n 3, 1) := by decide +kernel
theorem dL_acts_235 : decode cL_acts 235 = .ok (.invokestatic 144, 3) := by decide +kernel
theorem dL_acts_238 : decode cL_acts 238 = .ok (.ireturn, 1) := by decide +kernel
theorem dL_acts_239 : decode cL_acts 239 = .ok (.aload_n 0, 1) := by decide +kernel
theorem dL_acts_240 : decode cL_acts 240 = .ok (.iload_n 3, 1) := by decide +kernel
theorem dL_acts_241 : decode cL_acts 241 = .ok (.invokestatic 107, 3) := by decide +kernel
theorem dL_acts_244 : decode cL_acts 244 = .ok (.ifCond .lt 7, 3) := by decide +kernel
theorem dL_acts_247 : decode cL_acts 247 = .ok (.iconst 1, 1) := by decide +kernel
theorem dL_acts_248 : decode cL_acts 248 = .ok (.goto 4, 3) := by decide +kernel
theorem dL_acts_251 : decode cL_acts 251 = .ok (.iconst 0, 1) := by decide +kernel
theorem dL_acts_252 : decode cL_acts 252 = .ok (.ireturn, 1) := by decide +kernel
theorem dL_acts_253 : decode cL_acts 253 = .ok (.aload_n 0, 1) := by decide +kernel
theorem dL_acts_254 : decode cL_acts 254 = .ok (.iload 4, 2) := by decide +kernel
theorem dL_acts_256 : decode cL_acts 256 = .ok (.iload 5, 2) := by decide +kernel
theorem dL_acts_258 : decode cL_acts 258 = .ok (.iconst 1, 1) := by decide +kernel
theorem dL_acts_259 : decode cL_acts 259 = .ok (.iload_n 2, 1) := by decide +kernel
theorem dL_acts_260 : decode cL_acts 260 = .ok (.sipush 1024, 3) := by decide +kernel
theorem dL_acts_263 : decode cL_acts 263 = .ok (.idiv, 1) := by decide +kernel
theorem dL_acts_264 : decode cL_acts 264 = .ok (.bipush 99, 2) := by decide +kernel
theorem dL_acts_266 : decode cL_acts 266 = .ok (.irem, 1) := by decide +kernel
theorem dL_acts_267 : decode cL_acts 267 = .ok (.iadd, 1) := by decide +kernel
theorem dL_acts_268 : decode cL_acts 268 = .ok (.iload_n 3, 1) := by decide +kernel
theorem dL_acts_269 : decode cL_acts 269 = .ok (.invokestatic 147, 3) := by decide +kernel
theorem dL_acts_272 : decode cL_acts 272 = .ok (.ireturn, 1) := by decide +kernel
theorem dL_acts_273 : decode cL_acts 273 = .ok (.iload_n 2, 1) := by decide +kernel
theorem dL_acts_274 : decode cL_acts 274 = .ok (.bipush 15, 2) := by decide +kernel
theorem dL_acts_276 : decode cL_acts 276 = .ok (.iand, 1) := by decide +kernel
theorem dL_acts_277 : decode cL_acts 277 = .ok (.ifCond .gt 19, 3) := by decide +kernel
theorem dL_acts_280 : decode cL_acts 280 = .ok (.aload_n 0, 1) := by decide +kernel
theorem dL_acts_281 : decode cL_acts 281 = .ok (.iconst 4, 1) := by decide +kernel
theorem dL_acts_282 : decode cL_acts 282 = .ok (.iload_n 2, 1) := by decide +kernel
theorem dL_acts_283 : decode cL_acts 283 = .ok (.bipush 16, 2) := by decide +kernel
theorem dL_acts_285 : decode cL_acts 285 = .ok (.idiv, 1) := by decide +kernel
theorem dL_acts_286 : decode cL_acts 286 = .ok (.bipush 29, 2) := by decide +kernel
theorem dL_acts_288 : decode cL_acts 288 = .ok (.irem, 1) := by decide +kernel
theorem dL_acts_289 : decode cL_acts 289 = .ok (.iadd, 1) := by decide +kernel
theorem dL_acts_290 : decode cL_acts 290 = .ok (.invokestatic 129, 3) := by decide +kernel
theorem dL_acts_293 : decode cL_acts 293 = .ok (.ifCond .lt 7, 3) := by decide +kernel
theorem dL_acts_296 : decode cL_acts 296 = .ok (.iconst 1, 1) := by decide +kernel
theorem dL_acts_297 : decode cL_acts 297 = .ok (.goto 4, 3) := by decide +kernel
theorem dL_acts_300 : decode cL_acts 300 = .ok (.iconst 0, 1) := by decide +kernel
theorem dL_acts_301 : decode cL_acts 301 = .ok (.ireturn, 1) := by decide +kernel
