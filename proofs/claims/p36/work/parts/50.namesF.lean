theorem dL_law_0 : decode cL_law 0 = .ok (.new 47, 3) := by decide +kernel
theorem dL_law_3 : decode cL_law 3 = .ok (.dup, 1) := by decide +kernel
theorem dL_law_4 : decode cL_law 4 = .ok (.invokespecial 84, 3) := by decide +kernel
theorem dL_law_7 : decode cL_law 7 = .ok (.astore_n 1, 1) := by decide +kernel
theorem dL_law_8 : decode cL_law 8 = .ok (.aload_n 1, 1) := by decide +kernel
theorem dL_law_9 : decode cL_law 9 = .ok (.aload_n 0, 1) := by decide +kernel
theorem dL_law_10 : decode cL_law 10 = .ok (.invokestatic 85, 3) := by decide +kernel
theorem dL_law_13 : decode cL_law 13 = .ok (.astore_n 2, 1) := by decide +kernel
theorem dL_law_14 : decode cL_law 14 = .ok (.aload_n 2, 1) := by decide +kernel
theorem dL_law_15 : decode cL_law 15 = .ok (.ifnonnull 5, 3) := by decide +kernel
theorem dL_law_18 : decode cL_law 18 = .ok (.iconst 0, 1) := by decide +kernel
theorem dL_law_19 : decode cL_law 19 = .ok (.ireturn, 1) := by decide +kernel
theorem dL_law_20 : decode cL_law 20 = .ok (.iconst 0, 1) := by decide +kernel
theorem dL_law_21 : decode cL_law 21 = .ok (.istore_n 3, 1) := by decide +kernel
theorem dL_law_22 : decode cL_law 22 = .ok (.iload_n 3, 1) := by decide +kernel
theorem dL_law_23 : decode cL_law 23 = .ok (.bipush 6, 2) := by decide +kernel
theorem dL_law_25 : decode cL_law 25 = .ok (.if_icmp .ge 1252, 3) := by decide +kernel
theorem dL_law_28 : decode cL_law 28 = .ok (.aload_n 0, 1) := by decide +kernel
theorem dL_law_29 : decode cL_law 29 = .ok (.iload_n 3, 1) := by decide +kernel
theorem dL_law_30 : decode cL_law 30 = .ok (.invokestatic 76, 3) := by decide +kernel
theorem dL_law_33 : decode cL_law 33 = .ok (.iconst 2, 1) := by decide +kernel
theorem dL_law_34 : decode cL_law 34 = .ok (.ishr, 1) := by decide +kernel
theorem dL_law_35 : decode cL_law 35 = .ok (.bipush 53, 2) := by decide +kernel
theorem dL_law_37 : decode cL_law 37 = .ok (.iload_n 3, 1) := by decide +kernel
theorem dL_law_38 : decode cL_law 38 = .ok (.imul, 1) := by decide +kernel
theorem dL_law_39 : decode cL_law 39 = .ok (.iadd, 1) := by decide +kernel
theorem dL_law_40 : decode cL_law 40 = .ok (.istore 4, 2) := by decide +kernel
theorem dL_law_42 : decode cL_law 42 = .ok (.iconst 0, 1) := by decide +kernel
theorem dL_law_43 : decode cL_law 43 = .ok (.istore 5, 2) := by decide +kernel
theorem dL_law_45 : decode cL_law 45 = .ok (.iload 5, 2) := by decide +kernel
theorem dL_law_47 : decode cL_law 47 = .ok (.iconst 4, 1) := by decide +kernel
theorem dL_law_48 : decode cL_law 48 = .ok (.if_icmp .ge 32, 3) := by decide +kernel
theorem dL_law_51 : decode cL_law 51 = .ok (.aload_n 1, 1) := by decide +kernel
theorem dL_law_52 : decode cL_law 52 = .ok (.aload_n 2, 1) := by decide +kernel
theorem dL_law_53 : decode cL_law 53 = .ok (.iload 4, 2) := by decide +kernel
theorem dL_law_55 : decode cL_law 55 = .ok (.iconst 3, 1) := by decide +kernel
theorem dL_law_56 : decode cL_law 56 = .ok (.iload 5, 2) := by decide +kernel
theorem dL_law_58 : decode cL_law 58 = .ok (.imul, 1) := by decide +kernel
theorem dL_law_59 : decode cL_law 59 = .ok (.ishr, 1) := by decide +kernel
theorem dL_law_60 : decode cL_law 60 = .ok (.bipush 29, 2) := by decide +kernel
theorem dL_law_62 : decode cL_law 62 = .ok (.iload 5, 2) := by decide +kernel
theorem dL_law_64 : decode cL_law 64 = .ok (.imul, 1) := by decide +kernel
theorem dL_law_65 : decode cL_law 65 = .ok (.iadd, 1) := by decide +kernel
theorem dL_law_66 : decode cL_law 66 = .ok (.invokestatic 80, 3) := by decide +kernel
theorem dL_law_69 : decode cL_law 69 = .ok (.ifCond .ne 5, 3) := by decide +kernel
theorem dL_law_72 : decode cL_law 72 = .ok (.iconst 0, 1) := by decide +kernel
theorem dL_law_73 : decode cL_law 73 = .ok (.ireturn, 1) := by decide +kernel
theorem dL_law_74 : decode cL_law 74 = .ok (.iinc 5 1, 3) := by decide +kernel
theorem dL_law_77 : decode cL_law 77 = .ok (.goto (-32), 3) := by decide +kernel
theorem dL_law_80 : decode cL_law 80 = .ok (.aload_n 1, 1) := by decide +kernel
theorem dL_law_81 : decode cL_law 81 = .ok (.invokevirtual 89, 3) := by decide +kernel
theorem dL_law_84 : decode cL_law 84 = .ok (.lstore 5, 2) := by decide +kernel
theorem dL_law_86 : decode cL_law 86 = .ok (.iconst 0, 1) := by decide +kernel
theorem dL_law_87 : decode cL_law 87 = .ok (.istore 7, 2) := by decide +kernel
theorem dL_law_89 : decode cL_law 89 = .ok (.iconst 0, 1) := by decide +kernel
theorem dL_law_90 : decode cL_law 90 = .ok (.istore 8, 2) := by decide +kernel
theorem dL_law_92 : decode cL_law 92 = .ok (.iload 8, 2) := by decide +kernel
theorem dL_law_94 : decode cL_law 94 = .ok (.bipush 6, 2) := by decide +kernel
theorem dL_law_96 : decode cL_law 96 = .ok (.if_icmp .ge 724, 3) := by decide +kernel
theorem dL_law_99 : decode cL_law 99 = .ok (.aload_n 1, 1) := by decide +kernel
theorem dL_law_100 : decode cL_law 100 = .ok (.iload 8, 2) := by decide +kernel
theorem dL_law_102 : decode cL_law 102 = .ok (.invokevirtual 93, 3) := by decide +kernel
theorem dL_law_105 : decode cL_law 105 = .ok (.istore 9, 2) := by decide +kernel
theorem dL_law_107 : decode cL_law 107 = .ok (.iconst 0, 1) := by decide +kernel
theorem dL_law_108 : decode cL_law 108 = .ok (.istore 10, 2) := by decide +kernel
theorem dL_law_110 : decode cL_law 110 = .ok (.iconst 0, 1) := by decide +kernel
theorem dL_law_111 : decode cL_law 111 = .ok (.istore 11, 2) := by decide +kernel
theorem dL_law_113 : decode cL_law 113 = .ok (.iconst 0, 1) := by decide +kernel
theorem dL_law_114 : decode cL_law 114 = .ok (.istore 12, 2) := by decide +kernel
theorem dL_law_116 : decode cL_law 116 = .ok (.iconst (-1), 1) := by decide +kernel
theorem dL_law_117 : decode cL_law 117 = .ok (.istore 13, 2) := by decide +kernel
theorem dL_law_119 : decode cL_law 119 = .ok (.iconst 0, 1) := by decide +kernel
theorem dL_law_120 : decode cL_law 120 = .ok (.istore 14, 2) := by decide +kernel
theorem dL_law_122 : decode cL_law 122 = .ok (.iload 7, 2) := by decide +kernel
theorem dL_law_124 : decode cL_law 124 = .ok (.iload 9, 2) := by decide +kernel
theorem dL_law_126 : decode cL_law 126 = .ok (.iadd, 1) := by decide +kernel
theorem dL_law_127 : decode cL_law 127 = .ok (.istore 7, 2) := by decide +kernel
theorem dL_law_129 : decode cL_law 129 = .ok (.iconst 0, 1) := by decide +kernel
theorem dL_law_130 : decode cL_law 130 = .ok (.istore 15, 2) := by decide +kernel
theorem dL_law_132 : decode cL_law 132 = .ok (.iload 15, 2) := by decide +kernel
theorem dL_law_134 : decode cL_law 134 = .ok (.iload 9, 2) := by decide +kernel
theorem dL_law_136 : decode cL_law 136 = .ok (.if_icmp .ge 356, 3) := by decide +kernel
theorem dL_law_139 : decode cL_law 139 = .ok (.aload_n 1, 1) := by decide +kernel
theorem dL_law_140 : decode cL_law 140 = .ok (.iload 8, 2) := by decide +kernel
theorem dL_law_142 : decode cL_law 142 = .ok (.iload 15, 2) := by decide +kernel
theorem dL_law_144 : decode cL_law 144 = .ok (.invokevirtual 97, 3) := by decide +kernel
theorem dL_law_147 : decode cL_law 147 = .ok (.istore 16, 2) := by decide +kernel
theorem dL_law_149 : decode cL_law 149 = .ok (.aload_n 1, 1) := by decide +kernel
theorem dL_law_150 : decode cL_law 150 = .ok (.iload 8, 2) := by decide +kernel
theorem dL_law_152 : decode cL_law 152 = .ok (.iload 16, 2) := by decide +kernel
theorem dL_law_154 : decode cL_law 154 = .ok (.invokevirtual 100, 3) := by decide +kernel
theorem dL_law_157 : decode cL_law 157 = .ok (.istore 17, 2) := by decide +kernel
theorem dL_law_159 : decode cL_law 159 = .ok (.aload_n 1, 1) := by decide +kernel
theorem dL_law_160 : decode cL_law 160 = .ok (.iload 8, 2) := by decide +kernel
theorem dL_law_162 : decode cL_law 162 = .ok (.iload 16, 2) := by decide +kernel
theorem dL_law_164 : decode cL_law 164 = .ok (.invokevirtual 103, 3) := by decide +kernel
theorem dL_law_167 : decode cL_law 167 = .ok (.istore 18, 2) := by decide +kernel
theorem dL_law_169 : decode cL_law 169 = .ok (.aload_n 1, 1) := by decide +kernel
theorem dL_law_170 : decode cL_law 170 = .ok (.iload 8, 2) := by decide +kernel
theorem dL_law_172 : decode cL_law 172 = .ok (.iload 16, 2) := by decide +kernel
theorem dL_law_174 : decode cL_law 174 = .ok (.invokevirtual 106, 3) := by decide +kernel
theorem dL_law_177 : decode cL_law 177 = .ok (.istore 19, 2) := by decide +kernel
theorem dL_law_179 : decode cL_law 179 = .ok (.aload_n 1, 1) := by decide +kernel
theorem dL_law_180 : decode cL_law 180 = .ok (.iload 8, 2) := by decide +kernel
theorem dL_law_182 : decode cL_law 182 = .ok (.iload 16, 2) := by decide +kernel
theorem dL_law_184 : decode cL_law 184 = .ok (.invokevirtual 109, 3) := by decide +kernel
theorem dL_law_187 : decode cL_law 187 = .ok (.istore 20, 2) := by decide +kernel
theorem dL_law_189 : decode cL_law 189 = .ok (.iload 10, 2) := by decide +kernel
theorem dL_law_191 : decode cL_law 191 = .ok (.iload 20, 2) := by decide +kernel
theorem dL_law_193 : decode cL_law 193 = .ok (.iadd, 1) := by decide +kernel
theorem dL_law_194 : decode cL_law 194 = .ok (.istore 10, 2) := by decide +kernel
theorem dL_law_196 : decode cL_law 196 = .ok (.iload 11, 2) := by decide +kernel
theorem dL_law_198 : decode cL_law 198 = .ok (.aload_n 1, 1) := by decide +kernel
theorem dL_law_199 : decode cL_law 199 = .ok (.iload 8, 2) := by decide +kernel
theorem dL_law_201 : decode cL_law 201 = .ok (.iload 16, 2) := by decide +kernel
theorem dL_law_203 : decode cL_law 203 = .ok (.invokevirtual 112, 3) := by decide +kernel
theorem dL_law_206 : decode cL_law 206 = .ok (.iadd, 1) := by decide +kernel
theorem dL_law_207 : decode cL_law 207 = .ok (.istore 11, 2) := by decide +kernel
theorem dL_law_209 : decode cL_law 209 = .ok (.iload 13, 2) := by decide +kernel
theorem dL_law_211 : decode cL_law 211 = .ok (.iload 20, 2) := by decide +kernel
theorem dL_law_213 : decode cL_law 213 = .ok (.invokestatic 113, 3) := by decide +kernel
theorem dL_law_216 : decode cL_law 216 = .ok (.istore 13, 2) := by decide +kernel
theorem dL_law_218 : decode cL_law 218 = .ok (.iload 12, 2) := by decide +kernel
theorem dL_law_220 : decode cL_law 220 = .ok (.iload 18, 2) := by decide +kernel
theorem dL_law_222 : decode cL_law 222 = .ok (.ifCond .ge 12, 3) := by decide +kernel
theorem dL_law_225 : decode cL_law 225 = .ok (.iload 19, 2) := by decide +kernel
theorem dL_law_227 : decode cL_law 227 = .ok (.ifCond .ge 7, 3) := by decide +kernel
theorem dL_law_230 : decode cL_law 230 = .ok (.iconst 1, 1) := by decide +kernel
theorem dL_law_231 : decode cL_law 231 = .ok (.goto 4, 3) := by decide +kernel
theorem dL_law_234 : decode cL_law 234 = .ok (.iconst 0, 1) := by decide +kernel
theorem dL_law_235 : decode cL_law 235 = .ok (.iadd, 1) := by decide +kernel
theorem dL_law_236 : decode cL_law 236 = .ok (.istore 12, 2) := by decide +kernel
theorem dL_law_238 : decode cL_law 238 = .ok (.iload 14, 2) := by decide +kernel
theorem dL_law_240 : decode cL_law 240 = .ok (.iload 17, 2) := by decide +kernel
theorem dL_law_242 : decode cL_law 242 = .ok (.ifCond .ge 7, 3) := by decide +kernel
theorem dL_law_245 : decode cL_law 245 = .ok (.iconst 1, 1) := by decide +kernel
theorem dL_law_246 : decode cL_law 246 = .ok (.goto 4, 3) := by decide +kernel
theorem dL_law_249 : decode cL_law 249 = .ok (.iconst 0, 1) := by decide +kernel
theorem dL_law_250 : decode cL_law 250 = .ok (.iadd, 1) := by decide +kernel
theorem dL_law_251 : decode cL_law 251 = .ok (.istore 14, 2) := by decide +kernel
theorem dL_law_253 : decode cL_law 253 = .ok (.iload 15, 2) := by decide +kernel
theorem dL_law_255 : decode cL_law 255 = .ok (.ifCond .le 18, 3) := by decide +kernel
theorem dL_law_258 : decode cL_law 258 = .ok (.aload_n 1, 1) := by decide +kernel
theorem dL_law_259 : decode cL_law 259 = .ok (.iload 8, 2) := by decide +kernel
theorem dL_law_261 : decode cL_law 261 = .ok (.iload 15, 2) := by decide +kernel
theorem dL_law_263 : decode cL_law 263 = .ok (.iconst 1, 1) := by decide +kernel
theorem dL_law_264 : decode cL_law 264 = .ok (.isub, 1) := by decide +kernel
theorem dL_law_265 : decode cL_law 265 = .ok (.invokevirtual 97, 3) := by decide +kernel
theorem dL_law_268 : decode cL_law 268 = .ok (.iload 16, 2) := by decide +kernel
theorem dL_law_270 : decode cL_law 270 = .ok (.if_icmp .ge 90, 3) := by decide +kernel
theorem dL_law_273 : decode cL_law 273 = .ok (.aload_n 1, 1) := by decide +kernel
theorem dL_law_274 : decode cL_law 274 = .ok (.iload 8, 2) := by decide +kernel
theorem dL_law_276 : decode cL_law 276 = .ok (.iload 16, 2) := by decide +kernel
theorem dL_law_278 : decode cL_law 278 = .ok (.invokevirtual 118, 3) := by decide +kernel
theorem dL_law_281 : decode cL_law 281 = .ok (.ifCond .eq 79, 3) := by decide +kernel
theorem dL_law_284 : decode cL_law 284 = .ok (.aload_n 1, 1) := by decide +kernel
theorem dL_law_285 : decode cL_law 285 = .ok (.iload 8, 2) := by decide +kernel
theorem dL_law_287 : decode cL_law 287 = .ok (.iload 16, 2) := by decide +kernel
theorem dL_law_289 : decode cL_law 289 = .ok (.invokevirtual 120, 3) := by decide +kernel
theorem dL_law_292 : decode cL_law 292 = .ok (.iload 15, 2) := by decide +kernel
theorem dL_law_294 : decode cL_law 294 = .ok (.if_icmp .ne 66, 3) := by decide +kernel
theorem dL_law_297 : decode cL_law 297 = .ok (.aload_n 1, 1) := by decide +kernel
theorem dL_law_298 : decode cL_law 298 = .ok (.iload 8, 2) := by decide +kernel
theorem dL_law_300 : decode cL_law 300 = .ok (.iload 16, 2) := by decide +kernel
theorem dL_law_302 : decode cL_law 302 = .ok (.invokevirtual 123, 3) := by decide +kernel
theorem dL_law_305 : decode cL_law 305 = .ok (.ifCond .lt 55, 3) := by decide +kernel
theorem dL_law_308 : decode cL_law 308 = .ok (.iload 17, 2) := by decide +kernel
theorem dL_law_310 : decode cL_law 310 = .ok (.ifCond .ge 7, 3) := by decide +kernel
theorem dL_law_313 : decode cL_law 313 = .ok (.iconst 1, 1) := by decide +kernel
theorem dL_law_314 : decode cL_law 314 = .ok (.goto 4, 3) := by decide +kernel
theorem dL_law_317 : decode cL_law 317 = .ok (.iconst 0, 1) := by decide +kernel
theorem dL_law_318 : decode cL_law 318 = .ok (.aload_n 1, 1) := by decide +kernel
theorem dL_law_319 : decode cL_law 319 = .ok (.iload 8, 2) := by decide +kernel
theorem dL_law_321 : decode cL_law 321 = .ok (.invokevirtual 126, 3) := by decide +kernel
theorem dL_law_324 : decode cL_law 324 = .ok (.iload 16, 2) := by decide +kernel
theorem dL_law_326 : decode cL_law 326 = .ok (.if_icmp .ne 7, 3) := by decide +kernel
theorem dL_law_329 : decode cL_law 329 = .ok (.iconst 1, 1) := by decide +kernel
theorem dL_law_330 : decode cL_law 330 = .ok (.goto 4, 3) := by decide +kernel
theorem dL_law_333 : decode cL_law 333 = .ok (.iconst 0, 1) := by decide +kernel
theorem dL_law_334 : decode cL_law 334 = .ok (.if_icmp .ne 26, 3) := by decide +kernel
theorem dL_law_337 : decode cL_law 337 = .ok (.iload 20, 2) := by decide +kernel
theorem dL_law_339 : decode cL_law 339 = .ok (.ifCond .ne 7, 3) := by decide +kernel
theorem dL_law_342 : decode cL_law 342 = .ok (.iconst 1, 1) := by decide +kernel
theorem dL_law_343 : decode cL_law 343 = .ok (.goto 4, 3) := by decide +kernel
theorem dL_law_346 : decode cL_law 346 = .ok (.iconst 0, 1) := by decide +kernel
theorem dL_law_347 : decode cL_law 347 = .ok (.iload 17, 2) := by decide +kernel
theorem dL_law_349 : decode cL_law 349 = .ok (.ifCond .ge 7, 3) := by decide +kernel
theorem dL_law_352 : decode cL_law 352 = .ok (.iconst 1, 1) := by decide +kernel
theorem dL_law_353 : decode cL_law 353 = .ok (.goto 4, 3) := by decide +kernel
theorem dL_law_356 : decode cL_law 356 = .ok (.iconst 0, 1) := by decide +kernel
theorem dL_law_357 : decode cL_law 357 = .ok (.if_icmp .eq 5, 3) := by decide +kernel
theorem dL_law_360 : decode cL_law 360 = .ok (.iconst 0, 1) := by decide +kernel
theorem dL_law_361 : decode cL_law 361 = .ok (.ireturn, 1) := by decide +kernel
theorem dL_law_362 : decode cL_law 362 = .ok (.iload 17, 2) := by decide +kernel
theorem dL_law_364 : decode cL_law 364 = .ok (.ifCond .lt 49, 3) := by decide +kernel
theorem dL_law_367 : decode cL_law 367 = .ok (.aload_n 1, 1) := by decide +kernel
theorem dL_law_368 : decode cL_law 368 = .ok (.iload 8, 2) := by decide +kernel
theorem dL_law_370 : decode cL_law 370 = .ok (.iload 17, 2) := by decide +kernel
theorem dL_law_372 : decode cL_law 372 = .ok (.invokevirtual 109, 3) := by decide +kernel
theorem dL_law_375 : decode cL_law 375 = .ok (.iload 20, 2) := by decide +kernel
theorem dL_law_377 : decode cL_law 377 = .ok (.iconst 1, 1) := by decide +kernel
theorem dL_law_378 : decode cL_law 378 = .ok (.isub, 1) := by decide +kernel
theorem dL_law_379 : decode cL_law 379 = .ok (.if_icmp .ne 53, 3) := by decide +kernel
theorem dL_law_382 : decode cL_law 382 = .ok (.iload 16, 2) := by decide +kernel
theorem dL_law_384 : decode cL_law 384 = .ok (.iload 17, 2) := by decide +kernel
theorem dL_law_386 : decode cL_law 386 = .ok (.if_icmp .ge 14, 3) := by decide +kernel
theorem dL_law_389 : decode cL_law 389 = .ok (.aload_n 1, 1) := by decide +kernel
theorem dL_law_390 : decode cL_law 390 = .ok (.iload 8, 2) := by decide +kernel
theorem dL_law_392 : decode cL_law 392 = .ok (.iload 17, 2) := by decide +kernel
theorem dL_law_394 : decode cL_law 394 = .ok (.invokevirtual 103, 3) := by decide +kernel
theorem dL_law_397 : decode cL_law 397 = .ok (.goto 11, 3) := by decide +kernel
theorem dL_law_400 : decode cL_law 400 = .ok (.aload_n 1, 1) := by decide +kernel
theorem dL_law_401 : decode cL_law 401 = .ok (.iload 8, 2) := by decide +kernel
theorem dL_law_403 : decode cL_law 403 = .ok (.iload 17, 2) := by decide +kernel
theorem dL_law_405 : decode cL_law 405 = .ok (.invokevirtual 106, 3) := by decide +kernel
theorem dL_law_408 : decode cL_law 408 = .ok (.iload 16, 2) := by decide +kernel
theorem dL_law_410 : decode cL_law 410 = .ok (.if_icmp .ne 22, 3) := by decide +kernel
theorem dL_law_413 : decode cL_law 413 = .ok (.iload 18, 2) := by decide +kernel
theorem dL_law_415 : decode cL_law 415 = .ok (.iload 16, 2) := by decide +kernel
theorem dL_law_417 : decode cL_law 417 = .ok (.if_icmp .ge 15, 3) := by decide +kernel
theorem dL_law_420 : decode cL_law 420 = .ok (.iload 19, 2) := by decide +kernel
theorem dL_law_422 : decode cL_law 422 = .ok (.ifCond .lt 12, 3) := by decide +kernel
theorem dL_law_425 : decode cL_law 425 = .ok (.iload 19, 2) := by decide +kernel
theorem dL_law_427 : decode cL_law 427 = .ok (.iload 16, 2) := by decide +kernel
theorem dL_law_429 : decode cL_law 429 = .ok (.if_icmp .gt 5, 3) := by decide +kernel
theorem dL_law_432 : decode cL_law 432 = .ok (.iconst 0, 1) := by decide +kernel
theorem dL_law_433 : decode cL_law 433 = .ok (.ireturn, 1) := by decide +kernel
theorem dL_law_434 : decode cL_law 434 = .ok (.aload_n 1, 1) := by decide +kernel
theorem dL_law_435 : decode cL_law 435 = .ok (.iload 8, 2) := by decide +kernel
theorem dL_law_437 : decode cL_law 437 = .ok (.iload 16, 2) := by decide +kernel
theorem dL_law_439 : decode cL_law 439 = .ok (.invokevirtual 112, 3) := by decide +kernel
theorem dL_law_442 : decode cL_law 442 = .ok (.iload 18, 2) := by decide +kernel
theorem dL_law_444 : decode cL_law 444 = .ok (.ifCond .ge 7, 3) := by decide +kernel
theorem dL_law_447 : decode cL_law 447 = .ok (.iconst 0, 1) := by decide +kernel
theorem dL_law_448 : decode cL_law 448 = .ok (.goto 13, 3) := by decide +kernel
theorem dL_law_451 : decode cL_law 451 = .ok (.iconst 1, 1) := by decide +kernel
theorem dL_law_452 : decode cL_law 452 = .ok (.aload_n 1, 1) := by decide +kernel
theorem dL_law_453 : decode cL_law 453 = .ok (.iload 8, 2) := by decide +kernel
theorem dL_law_455 : decode cL_law 455 = .ok (.iload 18, 2) := by decide +kernel
theorem dL_law_457 : decode cL_law 457 = .ok (.invokevirtual 112, 3) := by decide +kernel
theorem dL_law_460 : decode cL_law 460 = .ok (.iadd, 1) := by decide +kernel
theorem dL_law_461 : decode cL_law 461 = .ok (.iload 19, 2) := by decide +kernel
theorem dL_law_463 : decode cL_law 463 = .ok (.ifCond .ge 7, 3) := by decide +kernel
theorem dL_law_466 : decode cL_law 466 = .ok (.iconst 0, 1) := by decide +kernel
theorem dL_law_467 : decode cL_law 467 = .ok (.goto 13, 3) := by decide +kernel
theorem dL_law_470 : decode cL_law 470 = .ok (.iconst 1, 1) := by decide +kernel
theorem dL_law_471 : decode cL_law 471 = .ok (.aload_n 1, 1) := by decide +kernel
theorem dL_law_472 : decode cL_law 472 = .ok (.iload 8, 2) := by decide +kernel
theorem dL_law_474 : decode cL_law 474 = .ok (.iload 19, 2) := by decide +kernel
theorem dL_law_476 : decode cL_law 476 = .ok (.invokevirtual 112, 3) := by decide +kernel
theorem dL_law_479 : decode cL_law 479 = .ok (.iadd, 1) := by decide +kernel
theorem dL_law_480 : decode cL_law 480 = .ok (.iadd, 1) := by decide +kernel
theorem dL_law_481 : decode cL_law 481 = .ok (.if_icmp .eq 5, 3) := by decide +kernel
theorem dL_law_484 : decode cL_law 484 = .ok (.iconst 0, 1) := by decide +kernel
theorem dL_law_485 : decode cL_law 485 = .ok (.ireturn, 1) := by decide +kernel
theorem dL_law_486 : decode cL_law 486 = .ok (.iinc 15 1, 3) := by decide +kernel
theorem dL_law_489 : decode cL_law 489 = .ok (.goto (-357), 3) := by decide +kernel
theorem dL_law_492 : decode cL_law 492 = .ok (.iload 10, 2) := by decide +kernel
theorem dL_law_494 : decode cL_law 494 = .ok (.aload_n 1, 1) := by decide +kernel
theorem dL_law_495 : decode cL_law 495 = .ok (.iload 8, 2) := by decide +kernel
theorem dL_law_497 : decode cL_law 497 = .ok (.invokevirtual 129, 3) := by decide +kernel
theorem dL_law_500 : decode cL_law 500 = .ok (.if_icmp .ne 97, 3) := by decide +kernel
theorem dL_law_503 : decode cL_law 503 = .ok (.iload 11, 2) := by decide +kernel
theorem dL_law_505 : decode cL_law 505 = .ok (.iload 10, 2) := by decide +kernel
theorem dL_law_507 : decode cL_law 507 = .ok (.if_icmp .ne 90, 3) := by decide +kernel
theorem dL_law_510 : decode cL_law 510 = .ok (.iload 12, 2) := by decide +kernel
theorem dL_law_512 : decode cL_law 512 = .ok (.aload_n 1, 1) := by decide +kernel
theorem dL_law_513 : decode cL_law 513 = .ok (.iload 8, 2) := by decide +kernel
theorem dL_law_515 : decode cL_law 515 = .ok (.invokevirtual 132, 3) := by decide +kernel
theorem dL_law_518 : decode cL_law 518 = .ok (.if_icmp .ne 79, 3) := by decide +kernel
theorem dL_law_521 : decode cL_law 521 = .ok (.iload 14, 2) := by decide +kernel
theorem dL_law_523 : decode cL_law 523 = .ok (.iload 9, 2) := by decide +kernel
theorem dL_law_525 : decode cL_law 525 = .ok (.ifCond .ne 7, 3) := by decide +kernel
theorem dL_law_528 : decode cL_law 528 = .ok (.iconst 0, 1) := by decide +kernel
theorem dL_law_529 : decode cL_law 529 = .ok (.goto 4, 3) := by decide +kernel
theorem dL_law_532 : decode cL_law 532 = .ok (.iconst 1, 1) := by decide +kernel
theorem dL_law_533 : decode cL_law 533 = .ok (.if_icmp .ne 64, 3) := by decide +kernel
theorem dL_law_536 : decode cL_law 536 = .ok (.aload_n 1, 1) := by decide +kernel
theorem dL_law_537 : decode cL_law 537 = .ok (.iload 8, 2) := by decide +kernel
theorem dL_law_539 : decode cL_law 539 = .ok (.invokevirtual 135, 3) := by decide +kernel
theorem dL_law_542 : decode cL_law 542 = .ok (.iload 13, 2) := by decide +kernel
theorem dL_law_544 : decode cL_law 544 = .ok (.iconst 1, 1) := by decide +kernel
theorem dL_law_545 : decode cL_law 545 = .ok (.iadd, 1) := by decide +kernel
theorem dL_law_546 : decode cL_law 546 = .ok (.if_icmp .ne 51, 3) := by decide +kernel
theorem dL_law_549 : decode cL_law 549 = .ok (.aload_n 1, 1) := by decide +kernel
theorem dL_law_550 : decode cL_law 550 = .ok (.iload 8, 2) := by decide +kernel
theorem dL_law_552 : decode cL_law 552 = .ok (.invokevirtual 138, 3) := by decide +kernel
theorem dL_law_555 : decode cL_law 555 = .ok (.aload_n 1, 1) := by decide +kernel
theorem dL_law_556 : decode cL_law 556 = .ok (.iload 8, 2) := by decide +kernel
theorem dL_law_558 : decode cL_law 558 = .ok (.invokevirtual 135, 3) := by decide +kernel
theorem dL_law_561 : decode cL_law 561 = .ok (.if_icmp .gt 36, 3) := by decide +kernel
theorem dL_law_564 : decode cL_law 564 = .ok (.iconst 1, 1) := by decide +kernel
theorem dL_law_565 : decode cL_law 565 = .ok (.aload_n 1, 1) := by decide +kernel
theorem dL_law_566 : decode cL_law 566 = .ok (.iload 8, 2) := by decide +kernel
theorem dL_law_568 : decode cL_law 568 = .ok (.invokevirtual 138, 3) := by decide +kernel
theorem dL_law_571 : decode cL_law 571 = .ok (.ishl, 1) := by decide +kernel
theorem dL_law_572 : decode cL_law 572 = .ok (.iload 9, 2) := by decide +kernel
theorem dL_law_574 : decode cL_law 574 = .ok (.if_icmp .le 23, 3) := by decide +kernel
theorem dL_law_577 : decode cL_law 577 = .ok (.iload 9, 2) := by decide +kernel
theorem dL_law_579 : decode cL_law 579 = .ok (.ifCond .le 20, 3) := by decide +kernel
theorem dL_law_582 : decode cL_law 582 = .ok (.iconst 1, 1) := by decide +kernel
theorem dL_law_583 : decode cL_law 583 = .ok (.aload_n 1, 1) := by decide +kernel
theorem dL_law_584 : decode cL_law 584 = .ok (.iload 8, 2) := by decide +kernel
theorem dL_law_586 : decode cL_law 586 = .ok (.invokevirtual 138, 3) := by decide +kernel
theorem dL_law_589 : decode cL_law 589 = .ok (.iconst 1, 1) := by decide +kernel
theorem dL_law_590 : decode cL_law 590 = .ok (.isub, 1) := by decide +kernel
theorem dL_law_591 : decode cL_law 591 = .ok (.ishl, 1) := by decide +kernel
theorem dL_law_592 : decode cL_law 592 = .ok (.iload 9, 2) := by decide +kernel
theorem dL_law_594 : decode cL_law 594 = .ok (.if_icmp .le 5, 3) := by decide +kernel
theorem dL_law_597 : decode cL_law 597 = .ok (.iconst 0, 1) := by decide +kernel
theorem dL_law_598 : decode cL_law 598 = .ok (.ireturn, 1) := by decide +kernel
theorem dL_law_599 : decode cL_law 599 = .ok (.iload 9, 2) := by decide +kernel
theorem dL_law_601 : decode cL_law 601 = .ok (.ifCond .ne 6, 3) := by decide +kernel
theorem dL_law_604 : decode cL_law 604 = .ok (.goto 210, 3) := by decide +kernel
theorem dL_law_607 : decode cL_law 607 = .ok (.aload_n 1, 1) := by decide +kernel
theorem dL_law_608 : decode cL_law 608 = .ok (.iload 8, 2) := by decide +kernel
theorem dL_law_610 : decode cL_law 610 = .ok (.iload 4, 2) := by decide +kernel
theorem dL_law_612 : decode cL_law 612 = .ok (.iload 8, 2) := by decide +kernel
theorem dL_law_614 : decode cL_law 614 = .ok (.ishr, 1) := by decide +kernel
theorem dL_law_615 : decode cL_law 615 = .ok (.iload 9, 2) := by decide +kernel
theorem dL_law_617 : decode cL_law 617 = .ok (.invokestatic 9, 3) := by decide +kernel
