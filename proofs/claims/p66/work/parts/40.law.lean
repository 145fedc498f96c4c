/-! the law itself -/
abbrev claw : ByteArray := code
abbrev milaw : MI := ("SlateHandsLaw", claw, 28, 12, false)
theorem dlaw_0 : decode claw 0 = .ok (.new 8, 3) := by decide +kernel
theorem dlaw_3 : decode claw 3 = .ok (.dup, 1) := by decide +kernel
theorem dlaw_4 : decode claw 4 = .ok (.invokespecial 123, 3) := by decide +kernel
theorem dlaw_7 : decode claw 7 = .ok (.astore_n 1, 1) := by decide +kernel
theorem dlaw_8 : decode claw 8 = .ok (.bipush 8, 2) := by decide +kernel
theorem dlaw_10 : decode claw 10 = .ok (.newarray .int, 2) := by decide +kernel
theorem dlaw_12 : decode claw 12 = .ok (.astore_n 2, 1) := by decide +kernel
theorem dlaw_13 : decode claw 13 = .ok (.iconst 1, 1) := by decide +kernel
theorem dlaw_14 : decode claw 14 = .ok (.newarray .int, 2) := by decide +kernel
theorem dlaw_16 : decode claw 16 = .ok (.astore_n 3, 1) := by decide +kernel
theorem dlaw_17 : decode claw 17 = .ok (.bipush 8, 2) := by decide +kernel
theorem dlaw_19 : decode claw 19 = .ok (.newarray .int, 2) := by decide +kernel
theorem dlaw_21 : decode claw 21 = .ok (.astore 4, 2) := by decide +kernel
theorem dlaw_23 : decode claw 23 = .ok (.bipush 16, 2) := by decide +kernel
theorem dlaw_25 : decode claw 25 = .ok (.newarray .int, 2) := by decide +kernel
theorem dlaw_27 : decode claw 27 = .ok (.astore 5, 2) := by decide +kernel
theorem dlaw_29 : decode claw 29 = .ok (.bipush 10, 2) := by decide +kernel
theorem dlaw_31 : decode claw 31 = .ok (.newarray .int, 2) := by decide +kernel
theorem dlaw_33 : decode claw 33 = .ok (.astore 6, 2) := by decide +kernel
theorem dlaw_35 : decode claw 35 = .ok (.bipush 21, 2) := by decide +kernel
theorem dlaw_37 : decode claw 37 = .ok (.newarray .int, 2) := by decide +kernel
theorem dlaw_39 : decode claw 39 = .ok (.astore 7, 2) := by decide +kernel
theorem dlaw_41 : decode claw 41 = .ok (.bipush 64, 2) := by decide +kernel
theorem dlaw_43 : decode claw 43 = .ok (.newarray .int, 2) := by decide +kernel
theorem dlaw_45 : decode claw 45 = .ok (.astore 8, 2) := by decide +kernel
theorem dlaw_47 : decode claw 47 = .ok (.bipush 6, 2) := by decide +kernel
theorem dlaw_49 : decode claw 49 = .ok (.newarray .int, 2) := by decide +kernel
theorem dlaw_51 : decode claw 51 = .ok (.astore 9, 2) := by decide +kernel
theorem dlaw_53 : decode claw 53 = .ok (.aload_n 1, 1) := by decide +kernel
theorem dlaw_54 : decode claw 54 = .ok (.aload_n 0, 1) := by decide +kernel
theorem dlaw_55 : decode claw 55 = .ok (.aload_n 2, 1) := by decide +kernel
theorem dlaw_56 : decode claw 56 = .ok (.aload_n 3, 1) := by decide +kernel
theorem dlaw_57 : decode claw 57 = .ok (.aload 4, 2) := by decide +kernel
theorem dlaw_59 : decode claw 59 = .ok (.aload 5, 2) := by decide +kernel
theorem dlaw_61 : decode claw 61 = .ok (.aload 6, 2) := by decide +kernel
theorem dlaw_63 : decode claw 63 = .ok (.aload 7, 2) := by decide +kernel
theorem dlaw_65 : decode claw 65 = .ok (.aload 8, 2) := by decide +kernel
theorem dlaw_67 : decode claw 67 = .ok (.aload 9, 2) := by decide +kernel
theorem dlaw_69 : decode claw 69 = .ok (.invokestatic 124, 3) := by decide +kernel
theorem dlaw_72 : decode claw 72 = .ok (.ifCond .ne 5, 3) := by decide +kernel
theorem dlaw_75 : decode claw 75 = .ok (.iconst 0, 1) := by decide +kernel
theorem dlaw_76 : decode claw 76 = .ok (.ireturn, 1) := by decide +kernel
theorem dlaw_77 : decode claw 77 = .ok (.aload 4, 2) := by decide +kernel
theorem dlaw_79 : decode claw 79 = .ok (.iconst 0, 1) := by decide +kernel
theorem dlaw_80 : decode claw 80 = .ok (.iaload, 1) := by decide +kernel
theorem dlaw_81 : decode claw 81 = .ok (.istore 10, 2) := by decide +kernel
theorem dlaw_83 : decode claw 83 = .ok (.aload 4, 2) := by decide +kernel
theorem dlaw_85 : decode claw 85 = .ok (.iconst 4, 1) := by decide +kernel
theorem dlaw_86 : decode claw 86 = .ok (.iaload, 1) := by decide +kernel
theorem dlaw_87 : decode claw 87 = .ok (.istore 11, 2) := by decide +kernel
theorem dlaw_89 : decode claw 89 = .ok (.bipush 13, 2) := by decide +kernel
theorem dlaw_91 : decode claw 91 = .ok (.newarray .int, 2) := by decide +kernel
theorem dlaw_93 : decode claw 93 = .ok (.astore 12, 2) := by decide +kernel
theorem dlaw_95 : decode claw 95 = .ok (.bipush 13, 2) := by decide +kernel
theorem dlaw_97 : decode claw 97 = .ok (.newarray .int, 2) := by decide +kernel
theorem dlaw_99 : decode claw 99 = .ok (.astore 13, 2) := by decide +kernel
theorem dlaw_101 : decode claw 101 = .ok (.bipush 39, 2) := by decide +kernel
theorem dlaw_103 : decode claw 103 = .ok (.newarray .long, 2) := by decide +kernel
theorem dlaw_105 : decode claw 105 = .ok (.astore 14, 2) := by decide +kernel
theorem dlaw_107 : decode claw 107 = .ok (.bipush 16, 2) := by decide +kernel
theorem dlaw_109 : decode claw 109 = .ok (.newarray .int, 2) := by decide +kernel
theorem dlaw_111 : decode claw 111 = .ok (.astore 15, 2) := by decide +kernel
theorem dlaw_113 : decode claw 113 = .ok (.bipush 16, 2) := by decide +kernel
theorem dlaw_115 : decode claw 115 = .ok (.newarray .int, 2) := by decide +kernel
theorem dlaw_117 : decode claw 117 = .ok (.astore 16, 2) := by decide +kernel
theorem dlaw_119 : decode claw 119 = .ok (.iconst 0, 1) := by decide +kernel
theorem dlaw_120 : decode claw 120 = .ok (.istore 17, 2) := by decide +kernel
theorem dlaw_122 : decode claw 122 = .ok (.iconst 0, 1) := by decide +kernel
theorem dlaw_123 : decode claw 123 = .ok (.istore 18, 2) := by decide +kernel
theorem dlaw_125 : decode claw 125 = .ok (.iload 18, 2) := by decide +kernel
theorem dlaw_127 : decode claw 127 = .ok (.iconst 5, 1) := by decide +kernel
theorem dlaw_128 : decode claw 128 = .ok (.if_icmp .ge 536, 3) := by decide +kernel
theorem dlaw_131 : decode claw 131 = .ok (.aload 4, 2) := by decide +kernel
theorem dlaw_133 : decode claw 133 = .ok (.aload 5, 2) := by decide +kernel
theorem dlaw_135 : decode claw 135 = .ok (.aload 6, 2) := by decide +kernel
theorem dlaw_137 : decode claw 137 = .ok (.aload 7, 2) := by decide +kernel
theorem dlaw_139 : decode claw 139 = .ok (.aload 8, 2) := by decide +kernel
theorem dlaw_141 : decode claw 141 = .ok (.aload 9, 2) := by decide +kernel
theorem dlaw_143 : decode claw 143 = .ok (.aload 12, 2) := by decide +kernel
theorem dlaw_145 : decode claw 145 = .ok (.aload 13, 2) := by decide +kernel
theorem dlaw_147 : decode claw 147 = .ok (.aload 14, 2) := by decide +kernel
theorem dlaw_149 : decode claw 149 = .ok (.aload 15, 2) := by decide +kernel
theorem dlaw_151 : decode claw 151 = .ok (.aload 16, 2) := by decide +kernel
theorem dlaw_153 : decode claw 153 = .ok (.invokestatic 127, 3) := by decide +kernel
theorem dlaw_156 : decode claw 156 = .ok (.iconst 0, 1) := by decide +kernel
theorem dlaw_157 : decode claw 157 = .ok (.istore 19, 2) := by decide +kernel
theorem dlaw_159 : decode claw 159 = .ok (.iload 19, 2) := by decide +kernel
theorem dlaw_161 : decode claw 161 = .ok (.iload 10, 2) := by decide +kernel
theorem dlaw_163 : decode claw 163 = .ok (.if_icmp .gt 187, 3) := by decide +kernel
theorem dlaw_166 : decode claw 166 = .ok (.iconst 0, 1) := by decide +kernel
theorem dlaw_167 : decode claw 167 = .ok (.istore 20, 2) := by decide +kernel
theorem dlaw_169 : decode claw 169 = .ok (.iload 20, 2) := by decide +kernel
theorem dlaw_171 : decode claw 171 = .ok (.aload 4, 2) := by decide +kernel
theorem dlaw_173 : decode claw 173 = .ok (.iconst 3, 1) := by decide +kernel
theorem dlaw_174 : decode claw 174 = .ok (.iaload, 1) := by decide +kernel
theorem dlaw_175 : decode claw 175 = .ok (.if_icmp .ge 35, 3) := by decide +kernel
theorem dlaw_178 : decode claw 178 = .ok (.aload_n 1, 1) := by decide +kernel
theorem dlaw_179 : decode claw 179 = .ok (.iload 20, 2) := by decide +kernel
theorem dlaw_181 : decode claw 181 = .ok (.iload 19, 2) := by decide +kernel
theorem dlaw_183 : decode claw 183 = .ok (.invokevirtual 131, 3) := by decide +kernel
theorem dlaw_186 : decode claw 186 = .ok (.aload 12, 2) := by decide +kernel
theorem dlaw_188 : decode claw 188 = .ok (.iload 19, 2) := by decide +kernel
theorem dlaw_190 : decode claw 190 = .ok (.iaload, 1) := by decide +kernel
theorem dlaw_191 : decode claw 191 = .ok (.iconst 4, 1) := by decide +kernel
theorem dlaw_192 : decode claw 192 = .ok (.iload 20, 2) := by decide +kernel
theorem dlaw_194 : decode claw 194 = .ok (.imul, 1) := by decide +kernel
theorem dlaw_195 : decode claw 195 = .ok (.ishr, 1) := by decide +kernel
theorem dlaw_196 : decode claw 196 = .ok (.bipush 15, 2) := by decide +kernel
theorem dlaw_198 : decode claw 198 = .ok (.iand, 1) := by decide +kernel
theorem dlaw_199 : decode claw 199 = .ok (.if_icmp .eq 5, 3) := by decide +kernel
theorem dlaw_202 : decode claw 202 = .ok (.iconst 0, 1) := by decide +kernel
theorem dlaw_203 : decode claw 203 = .ok (.ireturn, 1) := by decide +kernel
theorem dlaw_204 : decode claw 204 = .ok (.iinc 20 1, 3) := by decide +kernel
theorem dlaw_207 : decode claw 207 = .ok (.goto (-38), 3) := by decide +kernel
theorem dlaw_210 : decode claw 210 = .ok (.iconst 0, 1) := by decide +kernel
theorem dlaw_211 : decode claw 211 = .ok (.istore 20, 2) := by decide +kernel
theorem dlaw_213 : decode claw 213 = .ok (.iload 20, 2) := by decide +kernel
theorem dlaw_215 : decode claw 215 = .ok (.iload 11, 2) := by decide +kernel
theorem dlaw_217 : decode claw 217 = .ok (.if_icmp .ge 127, 3) := by decide +kernel
theorem dlaw_220 : decode claw 220 = .ok (.aload_n 1, 1) := by decide +kernel
theorem dlaw_221 : decode claw 221 = .ok (.iload 20, 2) := by decide +kernel
theorem dlaw_223 : decode claw 223 = .ok (.iload 19, 2) := by decide +kernel
theorem dlaw_225 : decode claw 225 = .ok (.invokevirtual 134, 3) := by decide +kernel
theorem dlaw_228 : decode claw 228 = .ok (.aload 13, 2) := by decide +kernel
theorem dlaw_230 : decode claw 230 = .ok (.iload 19, 2) := by decide +kernel
theorem dlaw_232 : decode claw 232 = .ok (.iaload, 1) := by decide +kernel
theorem dlaw_233 : decode claw 233 = .ok (.iload 20, 2) := by decide +kernel
theorem dlaw_235 : decode claw 235 = .ok (.invokestatic 137, 3) := by decide +kernel
theorem dlaw_238 : decode claw 238 = .ok (.if_icmp .ne 50, 3) := by decide +kernel
theorem dlaw_241 : decode claw 241 = .ok (.aload_n 1, 1) := by decide +kernel
theorem dlaw_242 : decode claw 242 = .ok (.iload 20, 2) := by decide +kernel
theorem dlaw_244 : decode claw 244 = .ok (.iload 19, 2) := by decide +kernel
theorem dlaw_246 : decode claw 246 = .ok (.invokevirtual 138, 3) := by decide +kernel
theorem dlaw_249 : decode claw 249 = .ok (.aload 13, 2) := by decide +kernel
theorem dlaw_251 : decode claw 251 = .ok (.iload 19, 2) := by decide +kernel
theorem dlaw_253 : decode claw 253 = .ok (.iaload, 1) := by decide +kernel
theorem dlaw_254 : decode claw 254 = .ok (.iload 20, 2) := by decide +kernel
theorem dlaw_256 : decode claw 256 = .ok (.invokestatic 141, 3) := by decide +kernel
theorem dlaw_259 : decode claw 259 = .ok (.if_icmp .ne 29, 3) := by decide +kernel
theorem dlaw_262 : decode claw 262 = .ok (.aload_n 1, 1) := by decide +kernel
theorem dlaw_263 : decode claw 263 = .ok (.iload 20, 2) := by decide +kernel
theorem dlaw_265 : decode claw 265 = .ok (.iload 19, 2) := by decide +kernel
theorem dlaw_267 : decode claw 267 = .ok (.invokevirtual 142, 3) := by decide +kernel
theorem dlaw_270 : decode claw 270 = .ok (.aload 4, 2) := by decide +kernel
theorem dlaw_272 : decode claw 272 = .ok (.aload 14, 2) := by decide +kernel
theorem dlaw_274 : decode claw 274 = .ok (.iconst 3, 1) := by decide +kernel
theorem dlaw_275 : decode claw 275 = .ok (.iload 19, 2) := by decide +kernel
theorem dlaw_277 : decode claw 277 = .ok (.imul, 1) := by decide +kernel
theorem dlaw_278 : decode claw 278 = .ok (.iload 20, 2) := by decide +kernel
theorem dlaw_280 : decode claw 280 = .ok (.iadd, 1) := by decide +kernel
theorem dlaw_281 : decode claw 281 = .ok (.laload, 1) := by decide +kernel
theorem dlaw_282 : decode claw 282 = .ok (.invokestatic 145, 3) := by decide +kernel
theorem dlaw_285 : decode claw 285 = .ok (.if_icmp .eq 5, 3) := by decide +kernel
theorem dlaw_288 : decode claw 288 = .ok (.iconst 0, 1) := by decide +kernel
theorem dlaw_289 : decode claw 289 = .ok (.ireturn, 1) := by decide +kernel
theorem dlaw_290 : decode claw 290 = .ok (.iconst 0, 1) := by decide +kernel
theorem dlaw_291 : decode claw 291 = .ok (.istore 21, 2) := by decide +kernel
theorem dlaw_293 : decode claw 293 = .ok (.iload 21, 2) := by decide +kernel
theorem dlaw_295 : decode claw 295 = .ok (.aload 4, 2) := by decide +kernel
theorem dlaw_297 : decode claw 297 = .ok (.iconst 2, 1) := by decide +kernel
theorem dlaw_298 : decode claw 298 = .ok (.iaload, 1) := by decide +kernel
theorem dlaw_299 : decode claw 299 = .ok (.if_icmp .ge 39, 3) := by decide +kernel
theorem dlaw_302 : decode claw 302 = .ok (.aload_n 1, 1) := by decide +kernel
theorem dlaw_303 : decode claw 303 = .ok (.iload 21, 2) := by decide +kernel
theorem dlaw_305 : decode claw 305 = .ok (.iload 20, 2) := by decide +kernel
theorem dlaw_307 : decode claw 307 = .ok (.iload 19, 2) := by decide +kernel
theorem dlaw_309 : decode claw 309 = .ok (.invokevirtual 148, 3) := by decide +kernel
theorem dlaw_312 : decode claw 312 = .ok (.aload 14, 2) := by decide +kernel
theorem dlaw_314 : decode claw 314 = .ok (.iconst 3, 1) := by decide +kernel
theorem dlaw_315 : decode claw 315 = .ok (.iload 19, 2) := by decide +kernel
theorem dlaw_317 : decode claw 317 = .ok (.imul, 1) := by decide +kernel
theorem dlaw_318 : decode claw 318 = .ok (.iload 20, 2) := by decide +kernel
theorem dlaw_320 : decode claw 320 = .ok (.iadd, 1) := by decide +kernel
theorem dlaw_321 : decode claw 321 = .ok (.laload, 1) := by decide +kernel
theorem dlaw_322 : decode claw 322 = .ok (.iload 21, 2) := by decide +kernel
theorem dlaw_324 : decode claw 324 = .ok (.invokestatic 81, 3) := by decide +kernel
theorem dlaw_327 : decode claw 327 = .ok (.if_icmp .eq 5, 3) := by decide +kernel
theorem dlaw_330 : decode claw 330 = .ok (.iconst 0, 1) := by decide +kernel
theorem dlaw_331 : decode claw 331 = .ok (.ireturn, 1) := by decide +kernel
theorem dlaw_332 : decode claw 332 = .ok (.iinc 21 1, 3) := by decide +kernel
theorem dlaw_335 : decode claw 335 = .ok (.goto (-42), 3) := by decide +kernel
theorem dlaw_338 : decode claw 338 = .ok (.iinc 20 1, 3) := by decide +kernel
theorem dlaw_341 : decode claw 341 = .ok (.goto (-128), 3) := by decide +kernel
theorem dlaw_344 : decode claw 344 = .ok (.iinc 19 1, 3) := by decide +kernel
theorem dlaw_347 : decode claw 347 = .ok (.goto (-188), 3) := by decide +kernel
theorem dlaw_350 : decode claw 350 = .ok (.iconst 0, 1) := by decide +kernel
theorem dlaw_351 : decode claw 351 = .ok (.istore 19, 2) := by decide +kernel
theorem dlaw_353 : decode claw 353 = .ok (.iload 19, 2) := by decide +kernel
theorem dlaw_355 : decode claw 355 = .ok (.aload 4, 2) := by decide +kernel
theorem dlaw_357 : decode claw 357 = .ok (.iconst 5, 1) := by decide +kernel
theorem dlaw_358 : decode claw 358 = .ok (.iaload, 1) := by decide +kernel
theorem dlaw_359 : decode claw 359 = .ok (.if_icmp .ge 25, 3) := by decide +kernel
theorem dlaw_362 : decode claw 362 = .ok (.aload_n 1, 1) := by decide +kernel
theorem dlaw_363 : decode claw 363 = .ok (.iload 19, 2) := by decide +kernel
theorem dlaw_365 : decode claw 365 = .ok (.invokevirtual 151, 3) := by decide +kernel
theorem dlaw_368 : decode claw 368 = .ok (.aload 15, 2) := by decide +kernel
theorem dlaw_370 : decode claw 370 = .ok (.iload 19, 2) := by decide +kernel
theorem dlaw_372 : decode claw 372 = .ok (.iaload, 1) := by decide +kernel
theorem dlaw_373 : decode claw 373 = .ok (.if_icmp .eq 5, 3) := by decide +kernel
theorem dlaw_376 : decode claw 376 = .ok (.iconst 0, 1) := by decide +kernel
theorem dlaw_377 : decode claw 377 = .ok (.ireturn, 1) := by decide +kernel
theorem dlaw_378 : decode claw 378 = .ok (.iinc 19 1, 3) := by decide +kernel
theorem dlaw_381 : decode claw 381 = .ok (.goto (-28), 3) := by decide +kernel
theorem dlaw_384 : decode claw 384 = .ok (.iload 11, 2) := by decide +kernel
theorem dlaw_386 : decode claw 386 = .ok (.ifCond .eq 272, 3) := by decide +kernel
theorem dlaw_389 : decode claw 389 = .ok (.iload 18, 2) := by decide +kernel
theorem dlaw_391 : decode claw 391 = .ok (.iconst 4, 1) := by decide +kernel
theorem dlaw_392 : decode claw 392 = .ok (.if_icmp .ne 6, 3) := by decide +kernel
theorem dlaw_395 : decode claw 395 = .ok (.goto 263, 3) := by decide +kernel
theorem dlaw_398 : decode claw 398 = .ok (.aload_n 0, 1) := by decide +kernel
theorem dlaw_399 : decode claw 399 = .ok (.bipush 47, 2) := by decide +kernel
theorem dlaw_401 : decode claw 401 = .ok (.iload 18, 2) := by decide +kernel
theorem dlaw_403 : decode claw 403 = .ok (.iadd, 1) := by decide +kernel
theorem dlaw_404 : decode claw 404 = .ok (.iload 11, 2) := by decide +kernel
theorem dlaw_406 : decode claw 406 = .ok (.invokestatic 90, 3) := by decide +kernel
theorem dlaw_409 : decode claw 409 = .ok (.istore 19, 2) := by decide +kernel
theorem dlaw_411 : decode claw 411 = .ok (.aload 4, 2) := by decide +kernel
theorem dlaw_413 : decode claw 413 = .ok (.iconst 3, 1) := by decide +kernel
theorem dlaw_414 : decode claw 414 = .ok (.iaload, 1) := by decide +kernel
theorem dlaw_415 : decode claw 415 = .ok (.ifCond .eq 16, 3) := by decide +kernel
theorem dlaw_418 : decode claw 418 = .ok (.aload_n 0, 1) := by decide +kernel
theorem dlaw_419 : decode claw 419 = .ok (.bipush 51, 2) := by decide +kernel
theorem dlaw_421 : decode claw 421 = .ok (.iload 18, 2) := by decide +kernel
theorem dlaw_423 : decode claw 423 = .ok (.iadd, 1) := by decide +kernel
theorem dlaw_424 : decode claw 424 = .ok (.iconst 2, 1) := by decide +kernel
theorem dlaw_425 : decode claw 425 = .ok (.invokestatic 90, 3) := by decide +kernel
theorem dlaw_428 : decode claw 428 = .ok (.ifCond .ne 66, 3) := by decide +kernel
theorem dlaw_431 : decode claw 431 = .ok (.aload_n 0, 1) := by decide +kernel
theorem dlaw_432 : decode claw 432 = .ok (.bipush 55, 2) := by decide +kernel
theorem dlaw_434 : decode claw 434 = .ok (.iload 18, 2) := by decide +kernel
theorem dlaw_436 : decode claw 436 = .ok (.iadd, 1) := by decide +kernel
theorem dlaw_437 : decode claw 437 = .ok (.aload 7, 2) := by decide +kernel
theorem dlaw_439 : decode claw 439 = .ok (.bipush 7, 2) := by decide +kernel
theorem dlaw_441 : decode claw 441 = .ok (.iload 19, 2) := by decide +kernel
theorem dlaw_443 : decode claw 443 = .ok (.imul, 1) := by decide +kernel
theorem dlaw_444 : decode claw 444 = .ok (.iaload, 1) := by decide +kernel
theorem dlaw_445 : decode claw 445 = .ok (.invokestatic 90, 3) := by decide +kernel
theorem dlaw_448 : decode claw 448 = .ok (.istore 20, 2) := by decide +kernel
theorem dlaw_450 : decode claw 450 = .ok (.aload_n 1, 1) := by decide +kernel
theorem dlaw_451 : decode claw 451 = .ok (.iload 19, 2) := by decide +kernel
theorem dlaw_453 : decode claw 453 = .ok (.iload 20, 2) := by decide +kernel
theorem dlaw_455 : decode claw 455 = .ok (.invokevirtual 155, 3) := by decide +kernel
theorem dlaw_458 : decode claw 458 = .ok (.aload 9, 2) := by decide +kernel
theorem dlaw_460 : decode claw 460 = .ok (.iconst 3, 1) := by decide +kernel
theorem dlaw_461 : decode claw 461 = .ok (.iload 19, 2) := by decide +kernel
theorem dlaw_463 : decode claw 463 = .ok (.iadd, 1) := by decide +kernel
theorem dlaw_464 : decode claw 464 = .ok (.iaload, 1) := by decide +kernel
theorem dlaw_465 : decode claw 465 = .ok (.iload 20, 2) := by decide +kernel
theorem dlaw_467 : decode claw 467 = .ok (.ishr, 1) := by decide +kernel
theorem dlaw_468 : decode claw 468 = .ok (.iconst 1, 1) := by decide +kernel
theorem dlaw_469 : decode claw 469 = .ok (.iand, 1) := by decide +kernel
theorem dlaw_470 : decode claw 470 = .ok (.if_icmp .eq 5, 3) := by decide +kernel
theorem dlaw_473 : decode claw 473 = .ok (.iconst 0, 1) := by decide +kernel
theorem dlaw_474 : decode claw 474 = .ok (.ireturn, 1) := by decide +kernel
theorem dlaw_475 : decode claw 475 = .ok (.aload 9, 2) := by decide +kernel
theorem dlaw_477 : decode claw 477 = .ok (.iconst 3, 1) := by decide +kernel
theorem dlaw_478 : decode claw 478 = .ok (.iload 19, 2) := by decide +kernel
theorem dlaw_480 : decode claw 480 = .ok (.iadd, 1) := by decide +kernel
theorem dlaw_481 : decode claw 481 = .ok (.dup2, 1) := by decide +kernel
theorem dlaw_482 : decode claw 482 = .ok (.iaload, 1) := by decide +kernel
theorem dlaw_483 : decode claw 483 = .ok (.iconst 1, 1) := by decide +kernel
theorem dlaw_484 : decode claw 484 = .ok (.iload 20, 2) := by decide +kernel
theorem dlaw_486 : decode claw 486 = .ok (.ishl, 1) := by decide +kernel
theorem dlaw_487 : decode claw 487 = .ok (.iconst (-1), 1) := by decide +kernel
theorem dlaw_488 : decode claw 488 = .ok (.ixor, 1) := by decide +kernel
theorem dlaw_489 : decode claw 489 = .ok (.iand, 1) := by decide +kernel
theorem dlaw_490 : decode claw 490 = .ok (.iastore, 1) := by decide +kernel
theorem dlaw_491 : decode claw 491 = .ok (.goto 164, 3) := by decide +kernel
theorem dlaw_494 : decode claw 494 = .ok (.aload 4, 2) := by decide +kernel
theorem dlaw_496 : decode claw 496 = .ok (.iconst 5, 1) := by decide +kernel
theorem dlaw_497 : decode claw 497 = .ok (.iaload, 1) := by decide +kernel
theorem dlaw_498 : decode claw 498 = .ok (.istore 20, 2) := by decide +kernel
theorem dlaw_500 : decode claw 500 = .ok (.aload_n 0, 1) := by decide +kernel
theorem dlaw_501 : decode claw 501 = .ok (.bipush 55, 2) := by decide +kernel
theorem dlaw_503 : decode claw 503 = .ok (.iload 18, 2) := by decide +kernel
theorem dlaw_505 : decode claw 505 = .ok (.iadd, 1) := by decide +kernel
theorem dlaw_506 : decode claw 506 = .ok (.ldc 100, 2) := by decide +kernel
theorem dlaw_508 : decode claw 508 = .ok (.invokestatic 90, 3) := by decide +kernel
theorem dlaw_511 : decode claw 511 = .ok (.istore 21, 2) := by decide +kernel
theorem dlaw_513 : decode claw 513 = .ok (.aload 8, 2) := by decide +kernel
theorem dlaw_515 : decode claw 515 = .ok (.iconst 4, 1) := by decide +kernel
theorem dlaw_516 : decode claw 516 = .ok (.iload 20, 2) := by decide +kernel
theorem dlaw_518 : decode claw 518 = .ok (.imul, 1) := by decide +kernel
theorem dlaw_519 : decode claw 519 = .ok (.iload 21, 2) := by decide +kernel
theorem dlaw_521 : decode claw 521 = .ok (.aload 4, 2) := by decide +kernel
theorem dlaw_523 : decode claw 523 = .ok (.iconst 3, 1) := by decide +kernel
theorem dlaw_524 : decode claw 524 = .ok (.iaload, 1) := by decide +kernel
theorem dlaw_525 : decode claw 525 = .ok (.irem, 1) := by decide +kernel
theorem dlaw_526 : decode claw 526 = .ok (.iastore, 1) := by decide +kernel
theorem dlaw_527 : decode claw 527 = .ok (.aload 8, 2) := by decide +kernel
theorem dlaw_529 : decode claw 529 = .ok (.iconst 4, 1) := by decide +kernel
theorem dlaw_530 : decode claw 530 = .ok (.iload 20, 2) := by decide +kernel
theorem dlaw_532 : decode claw 532 = .ok (.imul, 1) := by decide +kernel
theorem dlaw_533 : decode claw 533 = .ok (.iconst 1, 1) := by decide +kernel
theorem dlaw_534 : decode claw 534 = .ok (.iadd, 1) := by decide +kernel
theorem dlaw_535 : decode claw 535 = .ok (.iload 19, 2) := by decide +kernel
theorem dlaw_537 : decode claw 537 = .ok (.iastore, 1) := by decide +kernel
theorem dlaw_538 : decode claw 538 = .ok (.aload 8, 2) := by decide +kernel
theorem dlaw_540 : decode claw 540 = .ok (.iconst 4, 1) := by decide +kernel
theorem dlaw_541 : decode claw 541 = .ok (.iload 20, 2) := by decide +kernel
theorem dlaw_543 : decode claw 543 = .ok (.imul, 1) := by decide +kernel
theorem dlaw_544 : decode claw 544 = .ok (.iconst 2, 1) := by decide +kernel
theorem dlaw_545 : decode claw 545 = .ok (.iadd, 1) := by decide +kernel
theorem dlaw_546 : decode claw 546 = .ok (.iload 21, 2) := by decide +kernel
theorem dlaw_548 : decode claw 548 = .ok (.iconst 4, 1) := by decide +kernel
theorem dlaw_549 : decode claw 549 = .ok (.ishr, 1) := by decide +kernel
theorem dlaw_550 : decode claw 550 = .ok (.aload 4, 2) := by decide +kernel
theorem dlaw_552 : decode claw 552 = .ok (.iconst 2, 1) := by decide +kernel
theorem dlaw_553 : decode claw 553 = .ok (.iaload, 1) := by decide +kernel
theorem dlaw_554 : decode claw 554 = .ok (.irem, 1) := by decide +kernel
theorem dlaw_555 : decode claw 555 = .ok (.iastore, 1) := by decide +kernel
theorem dlaw_556 : decode claw 556 = .ok (.aload 8, 2) := by decide +kernel
theorem dlaw_558 : decode claw 558 = .ok (.iconst 4, 1) := by decide +kernel
theorem dlaw_559 : decode claw 559 = .ok (.iload 20, 2) := by decide +kernel
theorem dlaw_561 : decode claw 561 = .ok (.imul, 1) := by decide +kernel
theorem dlaw_562 : decode claw 562 = .ok (.iconst 3, 1) := by decide +kernel
theorem dlaw_563 : decode claw 563 = .ok (.iadd, 1) := by decide +kernel
theorem dlaw_564 : decode claw 564 = .ok (.iload 21, 2) := by decide +kernel
theorem dlaw_566 : decode claw 566 = .ok (.bipush 8, 2) := by decide +kernel
theorem dlaw_568 : decode claw 568 = .ok (.ishr, 1) := by decide +kernel
theorem dlaw_569 : decode claw 569 = .ok (.iload 10, 2) := by decide +kernel
theorem dlaw_571 : decode claw 571 = .ok (.irem, 1) := by decide +kernel
theorem dlaw_572 : decode claw 572 = .ok (.iastore, 1) := by decide +kernel
theorem dlaw_573 : decode claw 573 = .ok (.aload 4, 2) := by decide +kernel
theorem dlaw_575 : decode claw 575 = .ok (.iconst 5, 1) := by decide +kernel
theorem dlaw_576 : decode claw 576 = .ok (.dup2, 1) := by decide +kernel
theorem dlaw_577 : decode claw 577 = .ok (.iaload, 1) := by decide +kernel
theorem dlaw_578 : decode claw 578 = .ok (.iconst 1, 1) := by decide +kernel
theorem dlaw_579 : decode claw 579 = .ok (.iadd, 1) := by decide +kernel
theorem dlaw_580 : decode claw 580 = .ok (.iastore, 1) := by decide +kernel
theorem dlaw_581 : decode claw 581 = .ok (.aload 4, 2) := by decide +kernel
theorem dlaw_583 : decode claw 583 = .ok (.aload 5, 2) := by decide +kernel
theorem dlaw_585 : decode claw 585 = .ok (.aload 6, 2) := by decide +kernel
theorem dlaw_587 : decode claw 587 = .ok (.aload 7, 2) := by decide +kernel
theorem dlaw_589 : decode claw 589 = .ok (.aload 8, 2) := by decide +kernel
theorem dlaw_591 : decode claw 591 = .ok (.aload 9, 2) := by decide +kernel
theorem dlaw_593 : decode claw 593 = .ok (.aload 12, 2) := by decide +kernel
theorem dlaw_595 : decode claw 595 = .ok (.aload 13, 2) := by decide +kernel
theorem dlaw_597 : decode claw 597 = .ok (.aload 14, 2) := by decide +kernel
theorem dlaw_599 : decode claw 599 = .ok (.aload 15, 2) := by decide +kernel
theorem dlaw_601 : decode claw 601 = .ok (.aload 16, 2) := by decide +kernel
theorem dlaw_603 : decode claw 603 = .ok (.invokestatic 127, 3) := by decide +kernel
theorem dlaw_606 : decode claw 606 = .ok (.aload_n 1, 1) := by decide +kernel
theorem dlaw_607 : decode claw 607 = .ok (.aload 8, 2) := by decide +kernel
theorem dlaw_609 : decode claw 609 = .ok (.iconst 4, 1) := by decide +kernel
theorem dlaw_610 : decode claw 610 = .ok (.iload 20, 2) := by decide +kernel
theorem dlaw_612 : decode claw 612 = .ok (.imul, 1) := by decide +kernel
theorem dlaw_613 : decode claw 613 = .ok (.iaload, 1) := by decide +kernel
theorem dlaw_614 : decode claw 614 = .ok (.iload 19, 2) := by decide +kernel
theorem dlaw_616 : decode claw 616 = .ok (.aload 8, 2) := by decide +kernel
theorem dlaw_618 : decode claw 618 = .ok (.iconst 4, 1) := by decide +kernel
theorem dlaw_619 : decode claw 619 = .ok (.iload 20, 2) := by decide +kernel
theorem dlaw_621 : decode claw 621 = .ok (.imul, 1) := by decide +kernel
theorem dlaw_622 : decode claw 622 = .ok (.iconst 2, 1) := by decide +kernel
theorem dlaw_623 : decode claw 623 = .ok (.iadd, 1) := by decide +kernel
theorem dlaw_624 : decode claw 624 = .ok (.iaload, 1) := by decide +kernel
theorem dlaw_625 : decode claw 625 = .ok (.aload 8, 2) := by decide +kernel
theorem dlaw_627 : decode claw 627 = .ok (.iconst 4, 1) := by decide +kernel
theorem dlaw_628 : decode claw 628 = .ok (.iload 20, 2) := by decide +kernel
theorem dlaw_630 : decode claw 630 = .ok (.imul, 1) := by decide +kernel
theorem dlaw_631 : decode claw 631 = .ok (.iconst 3, 1) := by decide +kernel
theorem dlaw_632 : decode claw 632 = .ok (.iadd, 1) := by decide +kernel
theorem dlaw_633 : decode claw 633 = .ok (.iaload, 1) := by decide +kernel
theorem dlaw_634 : decode claw 634 = .ok (.invokevirtual 157, 3) := by decide +kernel
theorem dlaw_637 : decode claw 637 = .ok (.aload 15, 2) := by decide +kernel
theorem dlaw_639 : decode claw 639 = .ok (.iload 20, 2) := by decide +kernel
theorem dlaw_641 : decode claw 641 = .ok (.iaload, 1) := by decide +kernel
theorem dlaw_642 : decode claw 642 = .ok (.ifCond .ne 7, 3) := by decide +kernel
theorem dlaw_645 : decode claw 645 = .ok (.iconst 1, 1) := by decide +kernel
theorem dlaw_646 : decode claw 646 = .ok (.goto 4, 3) := by decide +kernel
theorem dlaw_649 : decode claw 649 = .ok (.iconst 0, 1) := by decide +kernel
theorem dlaw_650 : decode claw 650 = .ok (.if_icmp .eq 5, 3) := by decide +kernel
theorem dlaw_653 : decode claw 653 = .ok (.iconst 0, 1) := by decide +kernel
theorem dlaw_654 : decode claw 654 = .ok (.ireturn, 1) := by decide +kernel
theorem dlaw_655 : decode claw 655 = .ok (.iinc 17 1, 3) := by decide +kernel
theorem dlaw_658 : decode claw 658 = .ok (.iinc 18 1, 3) := by decide +kernel
theorem dlaw_661 : decode claw 661 = .ok (.goto (-536), 3) := by decide +kernel
theorem dlaw_664 : decode claw 664 = .ok (.iconst 0, 1) := by decide +kernel
theorem dlaw_665 : decode claw 665 = .ok (.istore 18, 2) := by decide +kernel
theorem dlaw_667 : decode claw 667 = .ok (.iload 18, 2) := by decide +kernel
theorem dlaw_669 : decode claw 669 = .ok (.iload 11, 2) := by decide +kernel
theorem dlaw_671 : decode claw 671 = .ok (.if_icmp .ge 697, 3) := by decide +kernel
theorem dlaw_674 : decode claw 674 = .ok (.aload 4, 2) := by decide +kernel
theorem dlaw_676 : decode claw 676 = .ok (.iconst 1, 1) := by decide +kernel
theorem dlaw_677 : decode claw 677 = .ok (.iaload, 1) := by decide +kernel
theorem dlaw_678 : decode claw 678 = .ok (.istore 19, 2) := by decide +kernel
theorem dlaw_680 : decode claw 680 = .ok (.iconst 0, 1) := by decide +kernel
theorem dlaw_681 : decode claw 681 = .ok (.istore 20, 2) := by decide +kernel
theorem dlaw_683 : decode claw 683 = .ok (.iload 20, 2) := by decide +kernel
theorem dlaw_685 : decode claw 685 = .ok (.iconst 4, 1) := by decide +kernel
theorem dlaw_686 : decode claw 686 = .ok (.if_icmp .ge 68, 3) := by decide +kernel
theorem dlaw_689 : decode claw 689 = .ok (.aload 4, 2) := by decide +kernel
theorem dlaw_691 : decode claw 691 = .ok (.iconst 1, 1) := by decide +kernel
theorem dlaw_692 : decode claw 692 = .ok (.iload 20, 2) := by decide +kernel
theorem dlaw_694 : decode claw 694 = .ok (.iastore, 1) := by decide +kernel
theorem dlaw_695 : decode claw 695 = .ok (.aload 4, 2) := by decide +kernel
theorem dlaw_697 : decode claw 697 = .ok (.aload 5, 2) := by decide +kernel
theorem dlaw_699 : decode claw 699 = .ok (.aload 6, 2) := by decide +kernel
theorem dlaw_701 : decode claw 701 = .ok (.aload 7, 2) := by decide +kernel
theorem dlaw_703 : decode claw 703 = .ok (.aload 8, 2) := by decide +kernel
theorem dlaw_705 : decode claw 705 = .ok (.aload 9, 2) := by decide +kernel
theorem dlaw_707 : decode claw 707 = .ok (.aload 12, 2) := by decide +kernel
theorem dlaw_709 : decode claw 709 = .ok (.aload 13, 2) := by decide +kernel
theorem dlaw_711 : decode claw 711 = .ok (.aload 14, 2) := by decide +kernel
theorem dlaw_713 : decode claw 713 = .ok (.aload 15, 2) := by decide +kernel
theorem dlaw_715 : decode claw 715 = .ok (.aload 16, 2) := by decide +kernel
theorem dlaw_717 : decode claw 717 = .ok (.invokestatic 127, 3) := by decide +kernel
theorem dlaw_720 : decode claw 720 = .ok (.aload_n 1, 1) := by decide +kernel
theorem dlaw_721 : decode claw 721 = .ok (.iload 18, 2) := by decide +kernel
theorem dlaw_723 : decode claw 723 = .ok (.iload 20, 2) := by decide +kernel
theorem dlaw_725 : decode claw 725 = .ok (.invokevirtual 160, 3) := by decide +kernel
theorem dlaw_728 : decode claw 728 = .ok (.aload 4, 2) := by decide +kernel
theorem dlaw_730 : decode claw 730 = .ok (.aload 14, 2) := by decide +kernel
theorem dlaw_732 : decode claw 732 = .ok (.iconst 3, 1) := by decide +kernel
theorem dlaw_733 : decode claw 733 = .ok (.iload 10, 2) := by decide +kernel
theorem dlaw_735 : decode claw 735 = .ok (.imul, 1) := by decide +kernel
theorem dlaw_736 : decode claw 736 = .ok (.iload 18, 2) := by decide +kernel
theorem dlaw_738 : decode claw 738 = .ok (.iadd, 1) := by decide +kernel
theorem dlaw_739 : decode claw 739 = .ok (.laload, 1) := by decide +kernel
theorem dlaw_740 : decode claw 740 = .ok (.invokestatic 145, 3) := by decide +kernel
theorem dlaw_743 : decode claw 743 = .ok (.if_icmp .eq 5, 3) := by decide +kernel
theorem dlaw_746 : decode claw 746 = .ok (.iconst 0, 1) := by decide +kernel
theorem dlaw_747 : decode claw 747 = .ok (.ireturn, 1) := by decide +kernel
theorem dlaw_748 : decode claw 748 = .ok (.iinc 20 1, 3) := by decide +kernel
theorem dlaw_751 : decode claw 751 = .ok (.goto (-68), 3) := by decide +kernel
theorem dlaw_754 : decode claw 754 = .ok (.aload 4, 2) := by decide +kernel
theorem dlaw_756 : decode claw 756 = .ok (.iconst 1, 1) := by decide +kernel
theorem dlaw_757 : decode claw 757 = .ok (.iload 19, 2) := by decide +kernel
theorem dlaw_759 : decode claw 759 = .ok (.iastore, 1) := by decide +kernel
theorem dlaw_760 : decode claw 760 = .ok (.aload_n 0, 1) := by decide +kernel
theorem dlaw_761 : decode claw 761 = .ok (.bipush 59, 2) := by decide +kernel
theorem dlaw_763 : decode claw 763 = .ok (.iload 10, 2) := by decide +kernel
theorem dlaw_765 : decode claw 765 = .ok (.iconst 1, 1) := by decide +kernel
theorem dlaw_766 : decode claw 766 = .ok (.iadd, 1) := by decide +kernel
theorem dlaw_767 : decode claw 767 = .ok (.invokestatic 90, 3) := by decide +kernel
theorem dlaw_770 : decode claw 770 = .ok (.istore 20, 2) := by decide +kernel
theorem dlaw_772 : decode claw 772 = .ok (.aload 4, 2) := by decide +kernel
theorem dlaw_774 : decode claw 774 = .ok (.aload 5, 2) := by decide +kernel
theorem dlaw_776 : decode claw 776 = .ok (.aload 6, 2) := by decide +kernel
theorem dlaw_778 : decode claw 778 = .ok (.aload 7, 2) := by decide +kernel
theorem dlaw_780 : decode claw 780 = .ok (.aload 8, 2) := by decide +kernel
theorem dlaw_782 : decode claw 782 = .ok (.aload 9, 2) := by decide +kernel
theorem dlaw_784 : decode claw 784 = .ok (.aload 12, 2) := by decide +kernel
theorem dlaw_786 : decode claw 786 = .ok (.aload 13, 2) := by decide +kernel
theorem dlaw_788 : decode claw 788 = .ok (.aload 14, 2) := by decide +kernel
theorem dlaw_790 : decode claw 790 = .ok (.aload 15, 2) := by decide +kernel
theorem dlaw_792 : decode claw 792 = .ok (.aload 16, 2) := by decide +kernel
theorem dlaw_794 : decode claw 794 = .ok (.invokestatic 127, 3) := by decide +kernel
theorem dlaw_797 : decode claw 797 = .ok (.aload 13, 2) := by decide +kernel
theorem dlaw_799 : decode claw 799 = .ok (.iload 20, 2) := by decide +kernel
theorem dlaw_801 : decode claw 801 = .ok (.iaload, 1) := by decide +kernel
theorem dlaw_802 : decode claw 802 = .ok (.iload 18, 2) := by decide +kernel
theorem dlaw_804 : decode claw 804 = .ok (.invokestatic 137, 3) := by decide +kernel
theorem dlaw_807 : decode claw 807 = .ok (.istore 21, 2) := by decide +kernel
theorem dlaw_809 : decode claw 809 = .ok (.aload 9, 2) := by decide +kernel
theorem dlaw_811 : decode claw 811 = .ok (.iload 18, 2) := by decide +kernel
theorem dlaw_813 : decode claw 813 = .ok (.iaload, 1) := by decide +kernel
theorem dlaw_814 : decode claw 814 = .ok (.istore 22, 2) := by decide +kernel
theorem dlaw_816 : decode claw 816 = .ok (.iconst 0, 1) := by decide +kernel
theorem dlaw_817 : decode claw 817 = .ok (.istore 23, 2) := by decide +kernel
theorem dlaw_819 : decode claw 819 = .ok (.iconst 0, 1) := by decide +kernel
theorem dlaw_820 : decode claw 820 = .ok (.istore 24, 2) := by decide +kernel
theorem dlaw_822 : decode claw 822 = .ok (.iload 24, 2) := by decide +kernel
theorem dlaw_824 : decode claw 824 = .ok (.aload 4, 2) := by decide +kernel
theorem dlaw_826 : decode claw 826 = .ok (.iconst 2, 1) := by decide +kernel
theorem dlaw_827 : decode claw 827 = .ok (.iaload, 1) := by decide +kernel
theorem dlaw_828 : decode claw 828 = .ok (.if_icmp .ge 69, 3) := by decide +kernel
theorem dlaw_831 : decode claw 831 = .ok (.aload 9, 2) := by decide +kernel
theorem dlaw_833 : decode claw 833 = .ok (.iload 18, 2) := by decide +kernel
theorem dlaw_835 : decode claw 835 = .ok (.iload 24, 2) := by decide +kernel
theorem dlaw_837 : decode claw 837 = .ok (.iastore, 1) := by decide +kernel
theorem dlaw_838 : decode claw 838 = .ok (.aload 4, 2) := by decide +kernel
theorem dlaw_840 : decode claw 840 = .ok (.aload 5, 2) := by decide +kernel
theorem dlaw_842 : decode claw 842 = .ok (.aload 6, 2) := by decide +kernel
theorem dlaw_844 : decode claw 844 = .ok (.aload 7, 2) := by decide +kernel
theorem dlaw_846 : decode claw 846 = .ok (.aload 8, 2) := by decide +kernel
theorem dlaw_848 : decode claw 848 = .ok (.aload 9, 2) := by decide +kernel
theorem dlaw_850 : decode claw 850 = .ok (.aload 12, 2) := by decide +kernel
theorem dlaw_852 : decode claw 852 = .ok (.aload 13, 2) := by decide +kernel
theorem dlaw_854 : decode claw 854 = .ok (.aload 14, 2) := by decide +kernel
theorem dlaw_856 : decode claw 856 = .ok (.aload 15, 2) := by decide +kernel
theorem dlaw_858 : decode claw 858 = .ok (.aload 16, 2) := by decide +kernel
theorem dlaw_860 : decode claw 860 = .ok (.invokestatic 127, 3) := by decide +kernel
theorem dlaw_863 : decode claw 863 = .ok (.iload 23, 2) := by decide +kernel
theorem dlaw_865 : decode claw 865 = .ok (.aload 13, 2) := by decide +kernel
theorem dlaw_867 : decode claw 867 = .ok (.iload 20, 2) := by decide +kernel
theorem dlaw_869 : decode claw 869 = .ok (.iaload, 1) := by decide +kernel
theorem dlaw_870 : decode claw 870 = .ok (.iload 18, 2) := by decide +kernel
theorem dlaw_872 : decode claw 872 = .ok (.invokestatic 137, 3) := by decide +kernel
theorem dlaw_875 : decode claw 875 = .ok (.iload 21, 2) := by decide +kernel
theorem dlaw_877 : decode claw 877 = .ok (.if_icmp .ne 10, 3) := by decide +kernel
theorem dlaw_880 : decode claw 880 = .ok (.iconst 1, 1) := by decide +kernel
theorem dlaw_881 : decode claw 881 = .ok (.iload 24, 2) := by decide +kernel
theorem dlaw_883 : decode claw 883 = .ok (.ishl, 1) := by decide +kernel
theorem dlaw_884 : decode claw 884 = .ok (.goto 4, 3) := by decide +kernel
theorem dlaw_887 : decode claw 887 = .ok (.iconst 0, 1) := by decide +kernel
theorem dlaw_888 : decode claw 888 = .ok (.ior, 1) := by decide +kernel
theorem dlaw_889 : decode claw 889 = .ok (.istore 23, 2) := by decide +kernel
theorem dlaw_891 : decode claw 891 = .ok (.iinc 24 1, 3) := by decide +kernel
theorem dlaw_894 : decode claw 894 = .ok (.goto (-72), 3) := by decide +kernel
theorem dlaw_897 : decode claw 897 = .ok (.aload 9, 2) := by decide +kernel
theorem dlaw_899 : decode claw 899 = .ok (.iload 18, 2) := by decide +kernel
theorem dlaw_901 : decode claw 901 = .ok (.iload 22, 2) := by decide +kernel
theorem dlaw_903 : decode claw 903 = .ok (.iastore, 1) := by decide +kernel
theorem dlaw_904 : decode claw 904 = .ok (.aload_n 1, 1) := by decide +kernel
theorem dlaw_905 : decode claw 905 = .ok (.iconst 0, 1) := by decide +kernel
theorem dlaw_906 : decode claw 906 = .ok (.iconst 0, 1) := by decide +kernel
theorem dlaw_907 : decode claw 907 = .ok (.iconst 2, 1) := by decide +kernel
theorem dlaw_908 : decode claw 908 = .ok (.invokevirtual 163, 3) := by decide +kernel
theorem dlaw_911 : decode claw 911 = .ok (.ifCond .ne 39, 3) := by decide +kernel
theorem dlaw_914 : decode claw 914 = .ok (.aload_n 1, 1) := by decide +kernel
theorem dlaw_915 : decode claw 915 = .ok (.iconst 0, 1) := by decide +kernel
theorem dlaw_916 : decode claw 916 = .ok (.iconst 0, 1) := by decide +kernel
theorem dlaw_917 : decode claw 917 = .ok (.iload 20, 2) := by decide +kernel
theorem dlaw_919 : decode claw 919 = .ok (.i2l, 1) := by decide +kernel
theorem dlaw_920 : decode claw 920 = .ok (.invokevirtual 166, 3) := by decide +kernel
theorem dlaw_923 : decode claw 923 = .ok (.ifCond .ne 27, 3) := by decide +kernel
theorem dlaw_926 : decode claw 926 = .ok (.aload_n 1, 1) := by decide +kernel
theorem dlaw_927 : decode claw 927 = .ok (.iconst 0, 1) := by decide +kernel
theorem dlaw_928 : decode claw 928 = .ok (.iconst 1, 1) := by decide +kernel
theorem dlaw_929 : decode claw 929 = .ok (.iload 21, 2) := by decide +kernel
theorem dlaw_931 : decode claw 931 = .ok (.i2l, 1) := by decide +kernel
theorem dlaw_932 : decode claw 932 = .ok (.invokevirtual 166, 3) := by decide +kernel
theorem dlaw_935 : decode claw 935 = .ok (.ifCond .ne 15, 3) := by decide +kernel
theorem dlaw_938 : decode claw 938 = .ok (.aload_n 1, 1) := by decide +kernel
theorem dlaw_939 : decode claw 939 = .ok (.iconst 0, 1) := by decide +kernel
theorem dlaw_940 : decode claw 940 = .ok (.iload 18, 2) := by decide +kernel
theorem dlaw_942 : decode claw 942 = .ok (.invokevirtual 170, 3) := by decide +kernel
theorem dlaw_945 : decode claw 945 = .ok (.iload 23, 2) := by decide +kernel
theorem dlaw_947 : decode claw 947 = .ok (.if_icmp .eq 5, 3) := by decide +kernel
theorem dlaw_950 : decode claw 950 = .ok (.iconst 0, 1) := by decide +kernel
theorem dlaw_951 : decode claw 951 = .ok (.ireturn, 1) := by decide +kernel
theorem dlaw_952 : decode claw 952 = .ok (.iconst 0, 1) := by decide +kernel
theorem dlaw_953 : decode claw 953 = .ok (.istore 24, 2) := by decide +kernel
theorem dlaw_955 : decode claw 955 = .ok (.iload 24, 2) := by decide +kernel
theorem dlaw_957 : decode claw 957 = .ok (.aload 4, 2) := by decide +kernel
theorem dlaw_959 : decode claw 959 = .ok (.iconst 2, 1) := by decide +kernel
theorem dlaw_960 : decode claw 960 = .ok (.iaload, 1) := by decide +kernel
theorem dlaw_961 : decode claw 961 = .ok (.if_icmp .ge 256, 3) := by decide +kernel
theorem dlaw_964 : decode claw 964 = .ok (.aload_n 1, 1) := by decide +kernel
theorem dlaw_965 : decode claw 965 = .ok (.iload 18, 2) := by decide +kernel
theorem dlaw_967 : decode claw 967 = .ok (.iload 24, 2) := by decide +kernel
theorem dlaw_969 : decode claw 969 = .ok (.invokevirtual 173, 3) := by decide +kernel
theorem dlaw_972 : decode claw 972 = .ok (.istore 25, 2) := by decide +kernel
theorem dlaw_974 : decode claw 974 = .ok (.aload 4, 2) := by decide +kernel
theorem dlaw_976 : decode claw 976 = .ok (.iconst 3, 1) := by decide +kernel
theorem dlaw_977 : decode claw 977 = .ok (.iaload, 1) := by decide +kernel
theorem dlaw_978 : decode claw 978 = .ok (.ifCond .le 48, 3) := by decide +kernel
theorem dlaw_981 : decode claw 981 = .ok (.aload_n 1, 1) := by decide +kernel
theorem dlaw_982 : decode claw 982 = .ok (.iload 18, 2) := by decide +kernel
theorem dlaw_984 : decode claw 984 = .ok (.iload 24, 2) := by decide +kernel
theorem dlaw_986 : decode claw 986 = .ok (.invokevirtual 176, 3) := by decide +kernel
theorem dlaw_989 : decode claw 989 = .ok (.ifCond .lt 7, 3) := by decide +kernel
theorem dlaw_992 : decode claw 992 = .ok (.iconst 1, 1) := by decide +kernel
theorem dlaw_993 : decode claw 993 = .ok (.goto 4, 3) := by decide +kernel
theorem dlaw_996 : decode claw 996 = .ok (.iconst 0, 1) := by decide +kernel
theorem dlaw_997 : decode claw 997 = .ok (.aload_n 1, 1) := by decide +kernel
theorem dlaw_998 : decode claw 998 = .ok (.iconst 1, 1) := by decide +kernel
theorem dlaw_999 : decode claw 999 = .ok (.aload 4, 2) := by decide +kernel
theorem dlaw_1001 : decode claw 1001 = .ok (.iconst 3, 1) := by decide +kernel
theorem dlaw_1002 : decode claw 1002 = .ok (.iaload, 1) := by decide +kernel
theorem dlaw_1003 : decode claw 1003 = .ok (.ishl, 1) := by decide +kernel
theorem dlaw_1004 : decode claw 1004 = .ok (.iconst 1, 1) := by decide +kernel
theorem dlaw_1005 : decode claw 1005 = .ok (.isub, 1) := by decide +kernel
theorem dlaw_1006 : decode claw 1006 = .ok (.iload 18, 2) := by decide +kernel
theorem dlaw_1008 : decode claw 1008 = .ok (.iload 24, 2) := by decide +kernel
theorem dlaw_1010 : decode claw 1010 = .ok (.invokevirtual 179, 3) := by decide +kernel
theorem dlaw_1013 : decode claw 1013 = .ok (.ifCond .lt 7, 3) := by decide +kernel
theorem dlaw_1016 : decode claw 1016 = .ok (.iconst 1, 1) := by decide +kernel
theorem dlaw_1017 : decode claw 1017 = .ok (.goto 4, 3) := by decide +kernel
theorem dlaw_1020 : decode claw 1020 = .ok (.iconst 0, 1) := by decide +kernel
theorem dlaw_1021 : decode claw 1021 = .ok (.if_icmp .eq 5, 3) := by decide +kernel
theorem dlaw_1024 : decode claw 1024 = .ok (.iconst 0, 1) := by decide +kernel
theorem dlaw_1025 : decode claw 1025 = .ok (.ireturn, 1) := by decide +kernel
theorem dlaw_1026 : decode claw 1026 = .ok (.iconst 0, 1) := by decide +kernel
theorem dlaw_1027 : decode claw 1027 = .ok (.istore 26, 2) := by decide +kernel
theorem dlaw_1029 : decode claw 1029 = .ok (.iconst 0, 1) := by decide +kernel
theorem dlaw_1030 : decode claw 1030 = .ok (.istore 27, 2) := by decide +kernel
theorem dlaw_1032 : decode claw 1032 = .ok (.iload 27, 2) := by decide +kernel
theorem dlaw_1034 : decode claw 1034 = .ok (.aload 4, 2) := by decide +kernel
theorem dlaw_1036 : decode claw 1036 = .ok (.iconst 3, 1) := by decide +kernel
theorem dlaw_1037 : decode claw 1037 = .ok (.iaload, 1) := by decide +kernel
theorem dlaw_1038 : decode claw 1038 = .ok (.if_icmp .ge 120, 3) := by decide +kernel
theorem dlaw_1041 : decode claw 1041 = .ok (.iload 26, 2) := by decide +kernel
theorem dlaw_1043 : decode claw 1043 = .ok (.aload 6, 2) := by decide +kernel
theorem dlaw_1045 : decode claw 1045 = .ok (.iconst 2, 1) := by decide +kernel
theorem dlaw_1046 : decode claw 1046 = .ok (.iload 27, 2) := by decide +kernel
theorem dlaw_1048 : decode claw 1048 = .ok (.imul, 1) := by decide +kernel
theorem dlaw_1049 : decode claw 1049 = .ok (.iconst 1, 1) := by decide +kernel
theorem dlaw_1050 : decode claw 1050 = .ok (.iadd, 1) := by decide +kernel
theorem dlaw_1051 : decode claw 1051 = .ok (.iaload, 1) := by decide +kernel
theorem dlaw_1052 : decode claw 1052 = .ok (.iadd, 1) := by decide +kernel
theorem dlaw_1053 : decode claw 1053 = .ok (.istore 26, 2) := by decide +kernel
theorem dlaw_1055 : decode claw 1055 = .ok (.aload_n 1, 1) := by decide +kernel
theorem dlaw_1056 : decode claw 1056 = .ok (.iload 27, 2) := by decide +kernel
theorem dlaw_1058 : decode claw 1058 = .ok (.iload 18, 2) := by decide +kernel
theorem dlaw_1060 : decode claw 1060 = .ok (.iload 24, 2) := by decide +kernel
theorem dlaw_1062 : decode claw 1062 = .ok (.invokevirtual 182, 3) := by decide +kernel
theorem dlaw_1065 : decode claw 1065 = .ok (.ifCond .lt 7, 3) := by decide +kernel
theorem dlaw_1068 : decode claw 1068 = .ok (.iconst 1, 1) := by decide +kernel
theorem dlaw_1069 : decode claw 1069 = .ok (.goto 4, 3) := by decide +kernel
theorem dlaw_1072 : decode claw 1072 = .ok (.iconst 0, 1) := by decide +kernel
theorem dlaw_1073 : decode claw 1073 = .ok (.iload 25, 2) := by decide +kernel
theorem dlaw_1075 : decode claw 1075 = .ok (.ifCond .lt 21, 3) := by decide +kernel
theorem dlaw_1078 : decode claw 1078 = .ok (.aload 6, 2) := by decide +kernel
theorem dlaw_1080 : decode claw 1080 = .ok (.iconst 2, 1) := by decide +kernel
theorem dlaw_1081 : decode claw 1081 = .ok (.iload 27, 2) := by decide +kernel
theorem dlaw_1083 : decode claw 1083 = .ok (.imul, 1) := by decide +kernel
theorem dlaw_1084 : decode claw 1084 = .ok (.iconst 1, 1) := by decide +kernel
theorem dlaw_1085 : decode claw 1085 = .ok (.iadd, 1) := by decide +kernel
theorem dlaw_1086 : decode claw 1086 = .ok (.iaload, 1) := by decide +kernel
theorem dlaw_1087 : decode claw 1087 = .ok (.iload 25, 2) := by decide +kernel
theorem dlaw_1089 : decode claw 1089 = .ok (.if_icmp .lt 7, 3) := by decide +kernel
theorem dlaw_1092 : decode claw 1092 = .ok (.iconst 1, 1) := by decide +kernel
theorem dlaw_1093 : decode claw 1093 = .ok (.goto 4, 3) := by decide +kernel
theorem dlaw_1096 : decode claw 1096 = .ok (.iconst 0, 1) := by decide +kernel
theorem dlaw_1097 : decode claw 1097 = .ok (.if_icmp .ne 53, 3) := by decide +kernel
theorem dlaw_1100 : decode claw 1100 = .ok (.aload_n 1, 1) := by decide +kernel
theorem dlaw_1101 : decode claw 1101 = .ok (.iload 27, 2) := by decide +kernel
theorem dlaw_1103 : decode claw 1103 = .ok (.iload 18, 2) := by decide +kernel
theorem dlaw_1105 : decode claw 1105 = .ok (.iload 24, 2) := by decide +kernel
theorem dlaw_1107 : decode claw 1107 = .ok (.invokevirtual 182, 3) := by decide +kernel
theorem dlaw_1110 : decode claw 1110 = .ok (.ifCond .lt 42, 3) := by decide +kernel
theorem dlaw_1113 : decode claw 1113 = .ok (.aload_n 1, 1) := by decide +kernel
theorem dlaw_1114 : decode claw 1114 = .ok (.iload 27, 2) := by decide +kernel
theorem dlaw_1116 : decode claw 1116 = .ok (.iload 18, 2) := by decide +kernel
theorem dlaw_1118 : decode claw 1118 = .ok (.iload 24, 2) := by decide +kernel
theorem dlaw_1120 : decode claw 1120 = .ok (.invokevirtual 185, 3) := by decide +kernel
theorem dlaw_1123 : decode claw 1123 = .ok (.ifCond .lt 27, 3) := by decide +kernel
theorem dlaw_1126 : decode claw 1126 = .ok (.aload_n 1, 1) := by decide +kernel
theorem dlaw_1127 : decode claw 1127 = .ok (.iload 27, 2) := by decide +kernel
theorem dlaw_1129 : decode claw 1129 = .ok (.iload 18, 2) := by decide +kernel
theorem dlaw_1131 : decode claw 1131 = .ok (.iload 24, 2) := by decide +kernel
theorem dlaw_1133 : decode claw 1133 = .ok (.invokevirtual 182, 3) := by decide +kernel
theorem dlaw_1136 : decode claw 1136 = .ok (.aload_n 1, 1) := by decide +kernel
theorem dlaw_1137 : decode claw 1137 = .ok (.aload 9, 2) := by decide +kernel
theorem dlaw_1139 : decode claw 1139 = .ok (.iload 18, 2) := by decide +kernel
theorem dlaw_1141 : decode claw 1141 = .ok (.iaload, 1) := by decide +kernel
theorem dlaw_1142 : decode claw 1142 = .ok (.iload 24, 2) := by decide +kernel
theorem dlaw_1144 : decode claw 1144 = .ok (.invokevirtual 188, 3) := by decide +kernel
theorem dlaw_1147 : decode claw 1147 = .ok (.if_icmp .ge 5, 3) := by decide +kernel
theorem dlaw_1150 : decode claw 1150 = .ok (.iconst 0, 1) := by decide +kernel
theorem dlaw_1151 : decode claw 1151 = .ok (.ireturn, 1) := by decide +kernel
theorem dlaw_1152 : decode claw 1152 = .ok (.iinc 27 1, 3) := by decide +kernel
theorem dlaw_1155 : decode claw 1155 = .ok (.goto (-123), 3) := by decide +kernel
theorem dlaw_1158 : decode claw 1158 = .ok (.aload 4, 2) := by decide +kernel
theorem dlaw_1160 : decode claw 1160 = .ok (.iconst 3, 1) := by decide +kernel
theorem dlaw_1161 : decode claw 1161 = .ok (.iaload, 1) := by decide +kernel
theorem dlaw_1162 : decode claw 1162 = .ok (.ifCond .le 49, 3) := by decide +kernel
theorem dlaw_1165 : decode claw 1165 = .ok (.aload_n 1, 1) := by decide +kernel
theorem dlaw_1166 : decode claw 1166 = .ok (.iconst 1, 1) := by decide +kernel
theorem dlaw_1167 : decode claw 1167 = .ok (.aload 4, 2) := by decide +kernel
theorem dlaw_1169 : decode claw 1169 = .ok (.iconst 3, 1) := by decide +kernel
theorem dlaw_1170 : decode claw 1170 = .ok (.iaload, 1) := by decide +kernel
theorem dlaw_1171 : decode claw 1171 = .ok (.ishl, 1) := by decide +kernel
theorem dlaw_1172 : decode claw 1172 = .ok (.iconst 1, 1) := by decide +kernel
theorem dlaw_1173 : decode claw 1173 = .ok (.isub, 1) := by decide +kernel
theorem dlaw_1174 : decode claw 1174 = .ok (.iload 18, 2) := by decide +kernel
theorem dlaw_1176 : decode claw 1176 = .ok (.iload 24, 2) := by decide +kernel
theorem dlaw_1178 : decode claw 1178 = .ok (.invokevirtual 179, 3) := by decide +kernel
theorem dlaw_1181 : decode claw 1181 = .ok (.ifCond .lt 7, 3) := by decide +kernel
theorem dlaw_1184 : decode claw 1184 = .ok (.iconst 1, 1) := by decide +kernel
theorem dlaw_1185 : decode claw 1185 = .ok (.goto 4, 3) := by decide +kernel
theorem dlaw_1188 : decode claw 1188 = .ok (.iconst 0, 1) := by decide +kernel
theorem dlaw_1189 : decode claw 1189 = .ok (.iload 25, 2) := by decide +kernel
theorem dlaw_1191 : decode claw 1191 = .ok (.ifCond .lt 14, 3) := by decide +kernel
theorem dlaw_1194 : decode claw 1194 = .ok (.iload 26, 2) := by decide +kernel
theorem dlaw_1196 : decode claw 1196 = .ok (.iload 25, 2) := by decide +kernel
theorem dlaw_1198 : decode claw 1198 = .ok (.if_icmp .lt 7, 3) := by decide +kernel
theorem dlaw_1201 : decode claw 1201 = .ok (.iconst 1, 1) := by decide +kernel
theorem dlaw_1202 : decode claw 1202 = .ok (.goto 4, 3) := by decide +kernel
theorem dlaw_1205 : decode claw 1205 = .ok (.iconst 0, 1) := by decide +kernel
theorem dlaw_1206 : decode claw 1206 = .ok (.if_icmp .eq 5, 3) := by decide +kernel
theorem dlaw_1209 : decode claw 1209 = .ok (.iconst 0, 1) := by decide +kernel
theorem dlaw_1210 : decode claw 1210 = .ok (.ireturn, 1) := by decide +kernel
theorem dlaw_1211 : decode claw 1211 = .ok (.iinc 24 1, 3) := by decide +kernel
theorem dlaw_1214 : decode claw 1214 = .ok (.goto (-259), 3) := by decide +kernel
theorem dlaw_1217 : decode claw 1217 = .ok (.aload 4, 2) := by decide +kernel
theorem dlaw_1219 : decode claw 1219 = .ok (.iconst 2, 1) := by decide +kernel
theorem dlaw_1220 : decode claw 1220 = .ok (.iaload, 1) := by decide +kernel
theorem dlaw_1221 : decode claw 1221 = .ok (.iconst 1, 1) := by decide +kernel
theorem dlaw_1222 : decode claw 1222 = .ok (.if_icmp .le 140, 3) := by decide +kernel
theorem dlaw_1225 : decode claw 1225 = .ok (.aload_n 0, 1) := by decide +kernel
theorem dlaw_1226 : decode claw 1226 = .ok (.bipush 60, 2) := by decide +kernel
theorem dlaw_1228 : decode claw 1228 = .ok (.aload 4, 2) := by decide +kernel
theorem dlaw_1230 : decode claw 1230 = .ok (.iconst 2, 1) := by decide +kernel
theorem dlaw_1231 : decode claw 1231 = .ok (.iaload, 1) := by decide +kernel
theorem dlaw_1232 : decode claw 1232 = .ok (.invokestatic 90, 3) := by decide +kernel
theorem dlaw_1235 : decode claw 1235 = .ok (.istore 24, 2) := by decide +kernel
theorem dlaw_1237 : decode claw 1237 = .ok (.iload 24, 2) := by decide +kernel
theorem dlaw_1239 : decode claw 1239 = .ok (.iconst 1, 1) := by decide +kernel
theorem dlaw_1240 : decode claw 1240 = .ok (.iadd, 1) := by decide +kernel
theorem dlaw_1241 : decode claw 1241 = .ok (.aload 4, 2) := by decide +kernel
theorem dlaw_1243 : decode claw 1243 = .ok (.iconst 2, 1) := by decide +kernel
theorem dlaw_1244 : decode claw 1244 = .ok (.iaload, 1) := by decide +kernel
theorem dlaw_1245 : decode claw 1245 = .ok (.irem, 1) := by decide +kernel
theorem dlaw_1246 : decode claw 1246 = .ok (.istore 25, 2) := by decide +kernel
theorem dlaw_1248 : decode claw 1248 = .ok (.iconst 0, 1) := by decide +kernel
theorem dlaw_1249 : decode claw 1249 = .ok (.istore 26, 2) := by decide +kernel
theorem dlaw_1251 : decode claw 1251 = .ok (.iload 26, 2) := by decide +kernel
theorem dlaw_1253 : decode claw 1253 = .ok (.iconst 4, 1) := by decide +kernel
theorem dlaw_1254 : decode claw 1254 = .ok (.if_icmp .ge 102, 3) := by decide +kernel
theorem dlaw_1257 : decode claw 1257 = .ok (.aload 4, 2) := by decide +kernel
theorem dlaw_1259 : decode claw 1259 = .ok (.bipush 7, 2) := by decide +kernel
theorem dlaw_1261 : decode claw 1261 = .ok (.iload 26, 2) := by decide +kernel
theorem dlaw_1263 : decode claw 1263 = .ok (.iconst 2, 1) := by decide +kernel
theorem dlaw_1264 : decode claw 1264 = .ok (.irem, 1) := by decide +kernel
theorem dlaw_1265 : decode claw 1265 = .ok (.iload 24, 2) := by decide +kernel
theorem dlaw_1267 : decode claw 1267 = .ok (.ishl, 1) := by decide +kernel
theorem dlaw_1268 : decode claw 1268 = .ok (.iload 26, 2) := by decide +kernel
theorem dlaw_1270 : decode claw 1270 = .ok (.iconst 2, 1) := by decide +kernel
theorem dlaw_1271 : decode claw 1271 = .ok (.idiv, 1) := by decide +kernel
theorem dlaw_1272 : decode claw 1272 = .ok (.iload 25, 2) := by decide +kernel
theorem dlaw_1274 : decode claw 1274 = .ok (.ishl, 1) := by decide +kernel
theorem dlaw_1275 : decode claw 1275 = .ok (.ior, 1) := by decide +kernel
theorem dlaw_1276 : decode claw 1276 = .ok (.iastore, 1) := by decide +kernel
theorem dlaw_1277 : decode claw 1277 = .ok (.aload 4, 2) := by decide +kernel
theorem dlaw_1279 : decode claw 1279 = .ok (.aload 5, 2) := by decide +kernel
theorem dlaw_1281 : decode claw 1281 = .ok (.aload 6, 2) := by decide +kernel
theorem dlaw_1283 : decode claw 1283 = .ok (.aload 7, 2) := by decide +kernel
theorem dlaw_1285 : decode claw 1285 = .ok (.aload 8, 2) := by decide +kernel
theorem dlaw_1287 : decode claw 1287 = .ok (.aload 9, 2) := by decide +kernel
theorem dlaw_1289 : decode claw 1289 = .ok (.aload 12, 2) := by decide +kernel
theorem dlaw_1291 : decode claw 1291 = .ok (.aload 13, 2) := by decide +kernel
theorem dlaw_1293 : decode claw 1293 = .ok (.aload 14, 2) := by decide +kernel
theorem dlaw_1295 : decode claw 1295 = .ok (.aload 15, 2) := by decide +kernel
theorem dlaw_1297 : decode claw 1297 = .ok (.aload 16, 2) := by decide +kernel
theorem dlaw_1299 : decode claw 1299 = .ok (.invokestatic 127, 3) := by decide +kernel
theorem dlaw_1302 : decode claw 1302 = .ok (.aload_n 1, 1) := by decide +kernel
theorem dlaw_1303 : decode claw 1303 = .ok (.iload 18, 2) := by decide +kernel
theorem dlaw_1305 : decode claw 1305 = .ok (.iload 24, 2) := by decide +kernel
theorem dlaw_1307 : decode claw 1307 = .ok (.iload 25, 2) := by decide +kernel
theorem dlaw_1309 : decode claw 1309 = .ok (.iload 26, 2) := by decide +kernel
theorem dlaw_1311 : decode claw 1311 = .ok (.iconst 2, 1) := by decide +kernel
theorem dlaw_1312 : decode claw 1312 = .ok (.irem, 1) := by decide +kernel
theorem dlaw_1313 : decode claw 1313 = .ok (.iload 26, 2) := by decide +kernel
theorem dlaw_1315 : decode claw 1315 = .ok (.iconst 2, 1) := by decide +kernel
theorem dlaw_1316 : decode claw 1316 = .ok (.idiv, 1) := by decide +kernel
theorem dlaw_1317 : decode claw 1317 = .ok (.invokevirtual 191, 3) := by decide +kernel
theorem dlaw_1320 : decode claw 1320 = .ok (.aload 14, 2) := by decide +kernel
theorem dlaw_1322 : decode claw 1322 = .ok (.iconst 3, 1) := by decide +kernel
theorem dlaw_1323 : decode claw 1323 = .ok (.iload 10, 2) := by decide +kernel
theorem dlaw_1325 : decode claw 1325 = .ok (.imul, 1) := by decide +kernel
theorem dlaw_1326 : decode claw 1326 = .ok (.iload 18, 2) := by decide +kernel
theorem dlaw_1328 : decode claw 1328 = .ok (.iadd, 1) := by decide +kernel
theorem dlaw_1329 : decode claw 1329 = .ok (.laload, 1) := by decide +kernel
theorem dlaw_1330 : decode claw 1330 = .ok (.iload 24, 2) := by decide +kernel
theorem dlaw_1332 : decode claw 1332 = .ok (.invokestatic 81, 3) := by decide +kernel
theorem dlaw_1335 : decode claw 1335 = .ok (.invokestatic 194, 3) := by decide +kernel
theorem dlaw_1338 : decode claw 1338 = .ok (.iconst 2, 1) := by decide +kernel
theorem dlaw_1339 : decode claw 1339 = .ok (.iload 26, 2) := by decide +kernel
theorem dlaw_1341 : decode claw 1341 = .ok (.iconst 2, 1) := by decide +kernel
theorem dlaw_1342 : decode claw 1342 = .ok (.irem, 1) := by decide +kernel
theorem dlaw_1343 : decode claw 1343 = .ok (.imul, 1) := by decide +kernel
theorem dlaw_1344 : decode claw 1344 = .ok (.iadd, 1) := by decide +kernel
theorem dlaw_1345 : decode claw 1345 = .ok (.if_icmp .eq 5, 3) := by decide +kernel
theorem dlaw_1348 : decode claw 1348 = .ok (.iconst 0, 1) := by decide +kernel
theorem dlaw_1349 : decode claw 1349 = .ok (.ireturn, 1) := by decide +kernel
theorem dlaw_1350 : decode claw 1350 = .ok (.iinc 26 1, 3) := by decide +kernel
theorem dlaw_1353 : decode claw 1353 = .ok (.goto (-102), 3) := by decide +kernel
theorem dlaw_1356 : decode claw 1356 = .ok (.aload 4, 2) := by decide +kernel
theorem dlaw_1358 : decode claw 1358 = .ok (.bipush 7, 2) := by decide +kernel
theorem dlaw_1360 : decode claw 1360 = .ok (.iconst 0, 1) := by decide +kernel
theorem dlaw_1361 : decode claw 1361 = .ok (.iastore, 1) := by decide +kernel
theorem dlaw_1362 : decode claw 1362 = .ok (.iinc 18 1, 3) := by decide +kernel
theorem dlaw_1365 : decode claw 1365 = .ok (.goto (-698), 3) := by decide +kernel
theorem dlaw_1368 : decode claw 1368 = .ok (.aload_n 0, 1) := by decide +kernel
theorem dlaw_1369 : decode claw 1369 = .ok (.bipush 61, 2) := by decide +kernel
theorem dlaw_1371 : decode claw 1371 = .ok (.invokestatic 85, 3) := by decide +kernel
theorem dlaw_1374 : decode claw 1374 = .ok (.ldc 197, 2) := by decide +kernel
theorem dlaw_1376 : decode claw 1376 = .ok (.iand, 1) := by decide +kernel
theorem dlaw_1377 : decode claw 1377 = .ok (.i2l, 1) := by decide +kernel
theorem dlaw_1378 : decode claw 1378 = .ok (.lstore 18, 2) := by decide +kernel
theorem dlaw_1380 : decode claw 1380 = .ok (.lload 18, 2) := by decide +kernel
theorem dlaw_1382 : decode claw 1382 = .ok (.l2i, 1) := by decide +kernel
theorem dlaw_1383 : decode claw 1383 = .ok (.istore 20, 2) := by decide +kernel
theorem dlaw_1385 : decode claw 1385 = .ok (.iconst 0, 1) := by decide +kernel
theorem dlaw_1386 : decode claw 1386 = .ok (.istore 21, 2) := by decide +kernel
theorem dlaw_1388 : decode claw 1388 = .ok (.iload 21, 2) := by decide +kernel
theorem dlaw_1390 : decode claw 1390 = .ok (.iload 10, 2) := by decide +kernel
theorem dlaw_1392 : decode claw 1392 = .ok (.if_icmp .ge 55, 3) := by decide +kernel
theorem dlaw_1395 : decode claw 1395 = .ok (.ldc2_w 198, 3) := by decide +kernel
theorem dlaw_1398 : decode claw 1398 = .ok (.lload 18, 2) := by decide +kernel
theorem dlaw_1400 : decode claw 1400 = .ok (.lmul, 1) := by decide +kernel
theorem dlaw_1401 : decode claw 1401 = .ok (.ldc2_w 200, 3) := by decide +kernel
theorem dlaw_1404 : decode claw 1404 = .ok (.ladd, 1) := by decide +kernel
theorem dlaw_1405 : decode claw 1405 = .ok (.ldc2_w 202, 3) := by decide +kernel
theorem dlaw_1408 : decode claw 1408 = .ok (.lrem, 1) := by decide +kernel
theorem dlaw_1409 : decode claw 1409 = .ok (.lstore 18, 2) := by decide +kernel
theorem dlaw_1411 : decode claw 1411 = .ok (.lload 18, 2) := by decide +kernel
theorem dlaw_1413 : decode claw 1413 = .ok (.ldc2_w 204, 3) := by decide +kernel
theorem dlaw_1416 : decode claw 1416 = .ok (.ldiv, 1) := by decide +kernel
theorem dlaw_1417 : decode claw 1417 = .ok (.ldc2_w 206, 3) := by decide +kernel
theorem dlaw_1420 : decode claw 1420 = .ok (.lrem, 1) := by decide +kernel
theorem dlaw_1421 : decode claw 1421 = .ok (.aload_n 3, 1) := by decide +kernel
theorem dlaw_1422 : decode claw 1422 = .ok (.iconst 0, 1) := by decide +kernel
theorem dlaw_1423 : decode claw 1423 = .ok (.iaload, 1) := by decide +kernel
theorem dlaw_1424 : decode claw 1424 = .ok (.i2l, 1) := by decide +kernel
theorem dlaw_1425 : decode claw 1425 = .ok (.lcmp, 1) := by decide +kernel
theorem dlaw_1426 : decode claw 1426 = .ok (.ifCond .ge 15, 3) := by decide +kernel
theorem dlaw_1429 : decode claw 1429 = .ok (.aload 4, 2) := by decide +kernel
theorem dlaw_1431 : decode claw 1431 = .ok (.bipush 6, 2) := by decide +kernel
theorem dlaw_1433 : decode claw 1433 = .ok (.dup2, 1) := by decide +kernel
theorem dlaw_1434 : decode claw 1434 = .ok (.iaload, 1) := by decide +kernel
theorem dlaw_1435 : decode claw 1435 = .ok (.iconst 1, 1) := by decide +kernel
theorem dlaw_1436 : decode claw 1436 = .ok (.iload 21, 2) := by decide +kernel
theorem dlaw_1438 : decode claw 1438 = .ok (.ishl, 1) := by decide +kernel
theorem dlaw_1439 : decode claw 1439 = .ok (.ior, 1) := by decide +kernel
theorem dlaw_1440 : decode claw 1440 = .ok (.iastore, 1) := by decide +kernel
theorem dlaw_1441 : decode claw 1441 = .ok (.iinc 21 1, 3) := by decide +kernel
theorem dlaw_1444 : decode claw 1444 = .ok (.goto (-56), 3) := by decide +kernel
theorem dlaw_1447 : decode claw 1447 = .ok (.aload 4, 2) := by decide +kernel
theorem dlaw_1449 : decode claw 1449 = .ok (.aload 5, 2) := by decide +kernel
theorem dlaw_1451 : decode claw 1451 = .ok (.aload 6, 2) := by decide +kernel
theorem dlaw_1453 : decode claw 1453 = .ok (.aload 7, 2) := by decide +kernel
theorem dlaw_1455 : decode claw 1455 = .ok (.aload 8, 2) := by decide +kernel
theorem dlaw_1457 : decode claw 1457 = .ok (.aload 9, 2) := by decide +kernel
theorem dlaw_1459 : decode claw 1459 = .ok (.aload 12, 2) := by decide +kernel
theorem dlaw_1461 : decode claw 1461 = .ok (.aload 13, 2) := by decide +kernel
theorem dlaw_1463 : decode claw 1463 = .ok (.aload 14, 2) := by decide +kernel
theorem dlaw_1465 : decode claw 1465 = .ok (.aload 15, 2) := by decide +kernel
theorem dlaw_1467 : decode claw 1467 = .ok (.aload 16, 2) := by decide +kernel
theorem dlaw_1469 : decode claw 1469 = .ok (.invokestatic 127, 3) := by decide +kernel
theorem dlaw_1472 : decode claw 1472 = .ok (.iconst 0, 1) := by decide +kernel
theorem dlaw_1473 : decode claw 1473 = .ok (.istore 21, 2) := by decide +kernel
theorem dlaw_1475 : decode claw 1475 = .ok (.iconst 0, 1) := by decide +kernel
theorem dlaw_1476 : decode claw 1476 = .ok (.istore 22, 2) := by decide +kernel
theorem dlaw_1478 : decode claw 1478 = .ok (.iload 22, 2) := by decide +kernel
theorem dlaw_1480 : decode claw 1480 = .ok (.iload 11, 2) := by decide +kernel
theorem dlaw_1482 : decode claw 1482 = .ok (.if_icmp .ge 27, 3) := by decide +kernel
theorem dlaw_1485 : decode claw 1485 = .ok (.iload 21, 2) := by decide +kernel
theorem dlaw_1487 : decode claw 1487 = .ok (.aload 13, 2) := by decide +kernel
theorem dlaw_1489 : decode claw 1489 = .ok (.iload 10, 2) := by decide +kernel
theorem dlaw_1491 : decode claw 1491 = .ok (.iaload, 1) := by decide +kernel
theorem dlaw_1492 : decode claw 1492 = .ok (.iload 22, 2) := by decide +kernel
theorem dlaw_1494 : decode claw 1494 = .ok (.invokestatic 141, 3) := by decide +kernel
theorem dlaw_1497 : decode claw 1497 = .ok (.invokestatic 194, 3) := by decide +kernel
theorem dlaw_1500 : decode claw 1500 = .ok (.iadd, 1) := by decide +kernel
theorem dlaw_1501 : decode claw 1501 = .ok (.istore 21, 2) := by decide +kernel
theorem dlaw_1503 : decode claw 1503 = .ok (.iinc 22 1, 3) := by decide +kernel
theorem dlaw_1506 : decode claw 1506 = .ok (.goto (-28), 3) := by decide +kernel
theorem dlaw_1509 : decode claw 1509 = .ok (.aload_n 1, 1) := by decide +kernel
theorem dlaw_1510 : decode claw 1510 = .ok (.iload 20, 2) := by decide +kernel
theorem dlaw_1512 : decode claw 1512 = .ok (.iconst 0, 1) := by decide +kernel
theorem dlaw_1513 : decode claw 1513 = .ok (.invokevirtual 208, 3) := by decide +kernel
theorem dlaw_1516 : decode claw 1516 = .ok (.aload 4, 2) := by decide +kernel
theorem dlaw_1518 : decode claw 1518 = .ok (.bipush 6, 2) := by decide +kernel
theorem dlaw_1520 : decode claw 1520 = .ok (.iaload, 1) := by decide +kernel
theorem dlaw_1521 : decode claw 1521 = .ok (.if_icmp .ne 15, 3) := by decide +kernel
theorem dlaw_1524 : decode claw 1524 = .ok (.aload_n 1, 1) := by decide +kernel
theorem dlaw_1525 : decode claw 1525 = .ok (.iload 20, 2) := by decide +kernel
theorem dlaw_1527 : decode claw 1527 = .ok (.iconst 1, 1) := by decide +kernel
theorem dlaw_1528 : decode claw 1528 = .ok (.invokevirtual 208, 3) := by decide +kernel
theorem dlaw_1531 : decode claw 1531 = .ok (.iload 21, 2) := by decide +kernel
theorem dlaw_1533 : decode claw 1533 = .ok (.if_icmp .eq 5, 3) := by decide +kernel
theorem dlaw_1536 : decode claw 1536 = .ok (.iconst 0, 1) := by decide +kernel
theorem dlaw_1537 : decode claw 1537 = .ok (.ireturn, 1) := by decide +kernel
theorem dlaw_1538 : decode claw 1538 = .ok (.aload_n 1, 1) := by decide +kernel
theorem dlaw_1539 : decode claw 1539 = .ok (.invokevirtual 211, 3) := by decide +kernel
theorem dlaw_1542 : decode claw 1542 = .ok (.istore 22, 2) := by decide +kernel
theorem dlaw_1544 : decode claw 1544 = .ok (.aload_n 1, 1) := by decide +kernel
theorem dlaw_1545 : decode claw 1545 = .ok (.iconst 2, 1) := by decide +kernel
theorem dlaw_1546 : decode claw 1546 = .ok (.invokevirtual 214, 3) := by decide +kernel
theorem dlaw_1549 : decode claw 1549 = .ok (.ifCond .ne 44, 3) := by decide +kernel
theorem dlaw_1552 : decode claw 1552 = .ok (.aload_n 1, 1) := by decide +kernel
theorem dlaw_1553 : decode claw 1553 = .ok (.invokevirtual 217, 3) := by decide +kernel
theorem dlaw_1556 : decode claw 1556 = .ok (.iload 17, 2) := by decide +kernel
theorem dlaw_1558 : decode claw 1558 = .ok (.if_icmp .ne 35, 3) := by decide +kernel
theorem dlaw_1561 : decode claw 1561 = .ok (.aload_n 1, 1) := by decide +kernel
theorem dlaw_1562 : decode claw 1562 = .ok (.iconst 2, 1) := by decide +kernel
theorem dlaw_1563 : decode claw 1563 = .ok (.invokevirtual 220, 3) := by decide +kernel
theorem dlaw_1566 : decode claw 1566 = .ok (.ifCond .ne 27, 3) := by decide +kernel
theorem dlaw_1569 : decode claw 1569 = .ok (.aload_n 1, 1) := by decide +kernel
theorem dlaw_1570 : decode claw 1570 = .ok (.bipush 8, 2) := by decide +kernel
theorem dlaw_1572 : decode claw 1572 = .ok (.invokevirtual 223, 3) := by decide +kernel
theorem dlaw_1575 : decode claw 1575 = .ok (.iload 17, 2) := by decide +kernel
theorem dlaw_1577 : decode claw 1577 = .ok (.if_icmp .ne 16, 3) := by decide +kernel
theorem dlaw_1580 : decode claw 1580 = .ok (.aload_n 1, 1) := by decide +kernel
theorem dlaw_1581 : decode claw 1581 = .ok (.invokevirtual 211, 3) := by decide +kernel
theorem dlaw_1584 : decode claw 1584 = .ok (.iload 22, 2) := by decide +kernel
theorem dlaw_1586 : decode claw 1586 = .ok (.if_icmp .ne 7, 3) := by decide +kernel
theorem dlaw_1589 : decode claw 1589 = .ok (.iconst 1, 1) := by decide +kernel
theorem dlaw_1590 : decode claw 1590 = .ok (.goto 4, 3) := by decide +kernel
theorem dlaw_1593 : decode claw 1593 = .ok (.iconst 0, 1) := by decide +kernel
theorem dlaw_1594 : decode claw 1594 = .ok (.ireturn, 1) := by decide +kernel
noncomputable def Llaw_1 : Sm Int32 := dLoop (fun f => (sI (sI (sI (sI (sR (sR (sR (sR (sR (sI (sI (sR (sR (sR (sR (sR (sR (sR (sR (sR (sR fr0 0 (gR f 0)) 1 (gR f 1)) 2 (gR f 2)) 3 (gR f 3)) 4 (gR f 4)) 5 (gR f 5)) 6 (gR f 6)) 7 (gR f 7)) 8 (gR f 8)) 9 (gR f 9)) 10 (gI f 10)) 11 (gI f 11)) 12 (gR f 12)) 13 (gR f 13)) 14 (gR f 14)) 15 (gR f 15)) 16 (gR f 16)) 17 (gI f 17)) 18 (gI f 18)) 19 (gI f 19)) 20 (gI f 20))) (dCI r_lt (vI 20) (dAI (vR 4) (cI 3))) (dIf (dCI r_ne (dCallV 11 DX11_at (aI (aI (aR aN 0 (vR 1)) 1 (vI 20)) 2 (vI 19))) (d2 o_iand (d2 o_ishr (dAI (vR 12) (vI 19)) (d2 o_imul (cI 4) (vI 20))) (cI 15))) (dRet (cI 0)) dSkip) (dInc 20 1)
theorem sLlaw_1 {ΓL : Gm} {PB PK : List Nat} : SS (cvoI, .ireturn) milaw ΓL PB PK [(0, 2), (1, 2), (2, 2), (3, 2), (4, 2), (5, 2), (6, 2), (7, 2), (8, 2), (9, 2), (10, 0), (11, 0), (12, 2), (13, 2), (14, 2), (15, 2), (16, 2), (17, 0), (18, 0), (19, 0), (20, 0)] [(0, 2), (1, 2), (2, 2), (3, 2), (4, 2), (5, 2), (6, 2), (7, 2), (8, 2), (9, 2), (10, 0), (11, 0), (12, 2), (13, 2), (14, 2), (15, 2), (16, 2), (17, 0), (18, 0), (19, 0), (20, 0)] 169 [210] Llaw_1 := t_loop (pT := 178) (pF := 210) (pu := 204) (PB' := []) (PK' := []) (XB := [204]) (XU := [207]) (fun _ _ => rfl) rfl (c_lt_F (pF := 210) (s_iload dlaw_169 rfl) (s_dAI (s_aload dlaw_171 rfl) (s_iconst dlaw_173 rfl) dlaw_174) dlaw_175 rfl) (t_if (pT := 202) (pF := 204) (X := [204]) (XA := []) (XB := [204]) (c_ne_F (pF := 204) (s_of_xI (x_callV (ts := [(0, 2), (1, 0), (2, 0)]) ck11 rfl kX11_at mokX11_at w3_29 w3_30 rfl rfl rfl rfl (a_I (ts := [(0, 2), (1, 0)]) 2 (a_I (ts := [(0, 2)]) 1 (a_R (ts := []) 0 a_nil (s_aload_n dlaw_178 rfl rfl) rfl) (s_iload dlaw_179 rfl) rfl) (s_iload dlaw_181 rfl) rfl) dlaw_183 w3_28)) (s_iand (s_ishr (s_dAI (s_aload dlaw_186 rfl) (s_iload dlaw_188 rfl) dlaw_190) (s_imul (s_iconst dlaw_191 rfl) (s_iload dlaw_192 rfl) dlaw_194) dlaw_195) (s_bipush dlaw_196 rfl) dlaw_198) dlaw_199 rfl) (t_ret (cv := cvI) (fun _ _ => rfl) (s_iconst dlaw_202 rfl) dlaw_203) (t_skip (ld_in rfl) rfl) lda_nil (lda_cons (ld_in rfl) lda_nil)) (t_iinc dlaw_204 rfl rfl rfl rfl) (lda_cons (ld_in rfl) lda_nil) lda_nil (lda_cons (ld_goto (y := 169) dlaw_207 rfl (ld_in rfl)) lda_nil) (ld_in rfl) lda_nil
noncomputable def Llaw_2 : Sm Int32 := dLoop (fun f => (sI (sI (sI (sI (sI (sR (sR (sR (sR (sR (sI (sI (sR (sR (sR (sR (sR (sR (sR (sR (sR (sR fr0 0 (gR f 0)) 1 (gR f 1)) 2 (gR f 2)) 3 (gR f 3)) 4 (gR f 4)) 5 (gR f 5)) 6 (gR f 6)) 7 (gR f 7)) 8 (gR f 8)) 9 (gR f 9)) 10 (gI f 10)) 11 (gI f 11)) 12 (gR f 12)) 13 (gR f 13)) 14 (gR f 14)) 15 (gR f 15)) 16 (gR f 16)) 17 (gI f 17)) 18 (gI f 18)) 19 (gI f 19)) 20 (gI f 20)) 21 (gI f 21))) (dCI r_lt (vI 21) (dAI (vR 4) (cI 2))) (dIf (dCI r_ne (dCallV 11 DX11_knows (aI (aI (aI (aR aN 0 (vR 1)) 1 (vI 21)) 2 (vI 20)) 3 (vI 19))) (dCall DL_knows (aI (aL aN 0 (dAL (vR 14) (d2 o_iadd (d2 o_imul (cI 3) (vI 19)) (vI 20)))) 2 (vI 21)))) (dRet (cI 0)) dSkip) (dInc 21 1)
theorem sLlaw_2 {ΓL : Gm} {PB PK : List Nat} : SS (cvoI, .ireturn) milaw ΓL PB PK [(0, 2), (1, 2), (2, 2), (3, 2), (4, 2), (5, 2), (6, 2), (7, 2), (8, 2), (9, 2), (10, 0), (11, 0), (12, 2), (13, 2), (14, 2), (15, 2), (16, 2), (17, 0), (18, 0), (19, 0), (20, 0), (21, 0)] [(0, 2), (1, 2), (2, 2), (3, 2), (4, 2), (5, 2), (6, 2), (7, 2), (8, 2), (9, 2), (10, 0), (11, 0), (12, 2), (13, 2), (14, 2), (15, 2), (16, 2), (17, 0), (18, 0), (19, 0), (20, 0), (21, 0)] 293 [338] Llaw_2 := t_loop (pT := 302) (pF := 338) (pu := 332) (PB' := []) (PK' := []) (XB := [332]) (XU := [335]) (fun _ _ => rfl) rfl (c_lt_F (pF := 338) (s_iload dlaw_293 rfl) (s_dAI (s_aload dlaw_295 rfl) (s_iconst dlaw_297 rfl) dlaw_298) dlaw_299 rfl) (t_if (pT := 330) (pF := 332) (X := [332]) (XA := []) (XB := [332]) (c_ne_F (pF := 332) (s_of_xI (x_callV (ts := [(0, 2), (1, 0), (2, 0), (3, 0)]) ck11 rfl kX11_knows mokX11_knows w3_152 w3_153 rfl rfl rfl rfl (a_I (ts := [(0, 2), (1, 0), (2, 0)]) 3 (a_I (ts := [(0, 2), (1, 0)]) 2 (a_I (ts := [(0, 2)]) 1 (a_R (ts := []) 0 a_nil (s_aload_n dlaw_302 rfl rfl) rfl) (s_iload dlaw_303 rfl) rfl) (s_iload dlaw_305 rfl) rfl) (s_iload dlaw_307 rfl) rfl) dlaw_309 w3_151)) (s_of_xI (x_call (ts := [(0, 1), (2, 0)]) kL_knows mokL_knows w5_12 rfl rfl rfl (a_I (ts := [(0, 1)]) 2 (a_L (ts := []) 0 a_nil (s_dAL (s_aload dlaw_312 rfl) (s_iadd (s_imul (s_iconst dlaw_314 rfl) (s_iload dlaw_315 rfl) dlaw_317) (s_iload dlaw_318 rfl) dlaw_320) dlaw_321) rfl) (s_iload dlaw_322 rfl) rfl) dlaw_324 w5_11)) dlaw_327 rfl) (t_ret (cv := cvI) (fun _ _ => rfl) (s_iconst dlaw_330 rfl) dlaw_331) (t_skip (ld_in rfl) rfl) lda_nil (lda_cons (ld_in rfl) lda_nil)) (t_iinc dlaw_332 rfl rfl rfl rfl) (lda_cons (ld_in rfl) lda_nil) lda_nil (lda_cons (ld_goto (y := 293) dlaw_335 rfl (ld_in rfl)) lda_nil) (ld_in rfl) lda_nil
noncomputable def Llaw_3 : Sm Int32 := dLoop (fun f => (sI (sI (sI (sI (sR (sR (sR (sR (sR (sI (sI (sR (sR (sR (sR (sR (sR (sR (sR (sR (sR fr0 0 (gR f 0)) 1 (gR f 1)) 2 (gR f 2)) 3 (gR f 3)) 4 (gR f 4)) 5 (gR f 5)) 6 (gR f 6)) 7 (gR f 7)) 8 (gR f 8)) 9 (gR f 9)) 10 (gI f 10)) 11 (gI f 11)) 12 (gR f 12)) 13 (gR f 13)) 14 (gR f 14)) 15 (gR f 15)) 16 (gR f 16)) 17 (gI f 17)) 18 (gI f 18)) 19 (gI f 19)) 20 (gI f 20))) (dCI r_lt (vI 20) (vI 11)) (dSeq (dIf (dOr (dOr (dCI r_ne (dCallV 11 DX11_lies (aI (aI (aR aN 0 (vR 1)) 1 (vI 20)) 2 (vI 19))) (dCall DL_lies (aI (aI aN 0 (dAI (vR 13) (vI 19))) 1 (vI 20)))) (dCI r_ne (dCallV 11 DX11_left (aI (aI (aR aN 0 (vR 1)) 1 (vI 20)) 2 (vI 19))) (dCall DL_left (aI (aI aN 0 (dAI (vR 13) (vI 19))) 1 (vI 20))))) (dCI r_ne (dCallV 11 DX11_heard (aI (aI (aR aN 0 (vR 1)) 1 (vI 20)) 2 (vI 19))) (dCall DL_heard (aL (aR aN 0 (vR 4)) 1 (dAL (vR 14) (d2 o_iadd (d2 o_imul (cI 3) (vI 19)) (vI 20))))))) (dRet (cI 0)) dSkip) (dSeq (dSetI 21 (cI 0)) Llaw_2)) (dInc 20 1)
theorem sLlaw_3 {ΓL : Gm} {PB PK : List Nat} : SS (cvoI, .ireturn) milaw ΓL PB PK [(0, 2), (1, 2), (2, 2), (3, 2), (4, 2), (5, 2), (6, 2), (7, 2), (8, 2), (9, 2), (10, 0), (11, 0), (12, 2), (13, 2), (14, 2), (15, 2), (16, 2), (17, 0), (18, 0), (19, 0), (20, 0)] [(0, 2), (1, 2), (2, 2), (3, 2), (4, 2), (5, 2), (6, 2), (7, 2), (8, 2), (9, 2), (10, 0), (11, 0), (12, 2), (13, 2), (14, 2), (15, 2), (16, 2), (17, 0), (18, 0), (19, 0), (20, 0)] 213 [344] Llaw_3 := t_loop (pT := 220) (pF := 344) (pu := 338) (PB' := []) (PK' := []) (XB := [338]) (XU := [341]) (fun _ _ => rfl) rfl (c_lt_F (pF := 344) (s_iload dlaw_213 rfl) (s_iload dlaw_215 rfl) dlaw_217 rfl) (t_sq (p1 := 290) (Γ' := [(0, 2), (1, 2), (2, 2), (3, 2), (4, 2), (5, 2), (6, 2), (7, 2), (8, 2), (9, 2), (10, 0), (11, 0), (12, 2), (13, 2), (14, 2), (15, 2), (16, 2), (17, 0), (18, 0), (19, 0), (20, 0)]) (t_if (pT := 288) (pF := 290) (X := [290]) (XA := []) (XB := [290]) (c_or (p1 := 262) (pT := 288) (pF := 290) (c_or (p1 := 241) (pT := 288) (pF := 262) (c_ne_J (pT := 288) (s_of_xI (x_callV (ts := [(0, 2), (1, 0), (2, 0)]) ck11 rfl kX11_lies mokX11_lies w3_128 w3_129 rfl rfl rfl rfl (a_I (ts := [(0, 2), (1, 0)]) 2 (a_I (ts := [(0, 2)]) 1 (a_R (ts := []) 0 a_nil (s_aload_n dlaw_220 rfl rfl) rfl) (s_iload dlaw_221 rfl) rfl) (s_iload dlaw_223 rfl) rfl) dlaw_225 w3_127)) (s_of_xI (x_call (ts := [(0, 0), (1, 0)]) kL_lies mokL_lies w5_6 rfl rfl rfl (a_I (ts := [(0, 0)]) 1 (a_I (ts := []) 0 a_nil (s_dAI (s_aload dlaw_228 rfl) (s_iload dlaw_230 rfl) dlaw_232) rfl) (s_iload dlaw_233 rfl) rfl) dlaw_235 w5_5)) dlaw_238 rfl) (c_ne_J (pT := 288) (s_of_xI (x_callV (ts := [(0, 2), (1, 0), (2, 0)]) ck11 rfl kX11_left mokX11_left w3_144 w3_145 rfl rfl rfl rfl (a_I (ts := [(0, 2), (1, 0)]) 2 (a_I (ts := [(0, 2)]) 1 (a_R (ts := []) 0 a_nil (s_aload_n dlaw_241 rfl rfl) rfl) (s_iload dlaw_242 rfl) rfl) (s_iload dlaw_244 rfl) rfl) dlaw_246 w3_143)) (s_of_xI (x_call (ts := [(0, 0), (1, 0)]) kL_left mokL_left w5_9 rfl rfl rfl (a_I (ts := [(0, 0)]) 1 (a_I (ts := []) 0 a_nil (s_dAI (s_aload dlaw_249 rfl) (s_iload dlaw_251 rfl) dlaw_253) rfl) (s_iload dlaw_254 rfl) rfl) dlaw_256 w5_8)) dlaw_259 rfl)) (c_ne_F (pF := 290) (s_of_xI (x_callV (ts := [(0, 2), (1, 0), (2, 0)]) ck11 rfl kX11_heard mokX11_heard w3_161 w3_162 rfl rfl rfl rfl (a_I (ts := [(0, 2), (1, 0)]) 2 (a_I (ts := [(0, 2)]) 1 (a_R (ts := []) 0 a_nil (s_aload_n dlaw_262 rfl rfl) rfl) (s_iload dlaw_263 rfl) rfl) (s_iload dlaw_265 rfl) rfl) dlaw_267 w3_160)) (s_of_xI (x_call (ts := [(0, 2), (1, 1)]) kL_heard mokL_heard w5_16 rfl rfl rfl (a_L (ts := [(0, 2)]) 1 (a_R (ts := []) 0 a_nil (s_aload dlaw_270 rfl) rfl) (s_dAL (s_aload dlaw_272 rfl) (s_iadd (s_imul (s_iconst dlaw_274 rfl) (s_iload dlaw_275 rfl) dlaw_277) (s_iload dlaw_278 rfl) dlaw_280) dlaw_281) rfl) dlaw_282 w5_15)) dlaw_285 rfl)) (t_ret (cv := cvI) (fun _ _ => rfl) (s_iconst dlaw_288 rfl) dlaw_289) (t_skip (ld_in rfl) rfl) lda_nil (lda_cons (ld_in rfl) lda_nil)) (t_sq (p1 := 293) (Γ' := [(0, 2), (1, 2), (2, 2), (3, 2), (4, 2), (5, 2), (6, 2), (7, 2), (8, 2), (9, 2), (10, 0), (11, 0), (12, 2), (13, 2), (14, 2), (15, 2), (16, 2), (17, 0), (18, 0), (19, 0), (20, 0), (21, 0)]) (t_istore (s_iconst dlaw_290 rfl) dlaw_291 rfl rfl) (tn_to (Γ' := [(0, 2), (1, 2), (2, 2), (3, 2), (4, 2), (5, 2), (6, 2), (7, 2), (8, 2), (9, 2), (10, 0), (11, 0), (12, 2), (13, 2), (14, 2), (15, 2), (16, 2), (17, 0), (18, 0), (19, 0), (20, 0), (21, 0)]) (XA := [338]) sLlaw_2 (lda_cons (ld_in rfl) lda_nil) rfl))) (t_iinc dlaw_338 rfl rfl rfl rfl) (lda_cons (ld_in rfl) lda_nil) lda_nil (lda_cons (ld_goto (y := 213) dlaw_341 rfl (ld_in rfl)) lda_nil) (ld_in rfl) lda_nil
noncomputable def Llaw_4 : Sm Int32 := dLoop (fun f => (sI (sI (sI (sR (sR (sR (sR (sR (sI (sI (sR (sR (sR (sR (sR (sR (sR (sR (sR (sR fr0 0 (gR f 0)) 1 (gR f 1)) 2 (gR f 2)) 3 (gR f 3)) 4 (gR f 4)) 5 (gR f 5)) 6 (gR f 6)) 7 (gR f 7)) 8 (gR f 8)) 9 (gR f 9)) 10 (gI f 10)) 11 (gI f 11)) 12 (gR f 12)) 13 (gR f 13)) 14 (gR f 14)) 15 (gR f 15)) 16 (gR f 16)) 17 (gI f 17)) 18 (gI f 18)) 19 (gI f 19))) (dCI r_le (vI 19) (vI 10)) (dSeq (dSeq (dSetI 20 (cI 0)) Llaw_1) (dSeq (dSetI 20 (cI 0)) Llaw_3)) (dInc 19 1)
theorem sLlaw_4 {ΓL : Gm} {PB PK : List Nat} : SS (cvoI, .ireturn) milaw ΓL PB PK [(0, 2), (1, 2), (2, 2), (3, 2), (4, 2), (5, 2), (6, 2), (7, 2), (8, 2), (9, 2), (10, 0), (11, 0), (12, 2), (13, 2), (14, 2), (15, 2), (16, 2), (17, 0), (18, 0), (19, 0)] [(0, 2), (1, 2), (2, 2), (3, 2), (4, 2), (5, 2), (6, 2), (7, 2), (8, 2), (9, 2), (10, 0), (11, 0), (12, 2), (13, 2), (14, 2), (15, 2), (16, 2), (17, 0), (18, 0), (19, 0)] 159 [350] Llaw_4 := t_loop (pT := 166) (pF := 350) (pu := 344) (PB' := []) (PK' := []) (XB := [344]) (XU := [347]) (fun _ _ => rfl) rfl (c_le_F (pF := 350) (s_iload dlaw_159 rfl) (s_iload dlaw_161 rfl) dlaw_163 rfl) (t_sq (p1 := 210) (Γ' := [(0, 2), (1, 2), (2, 2), (3, 2), (4, 2), (5, 2), (6, 2), (7, 2), (8, 2), (9, 2), (10, 0), (11, 0), (12, 2), (13, 2), (14, 2), (15, 2), (16, 2), (17, 0), (18, 0), (19, 0)]) (t_sq (p1 := 169) (Γ' := [(0, 2), (1, 2), (2, 2), (3, 2), (4, 2), (5, 2), (6, 2), (7, 2), (8, 2), (9, 2), (10, 0), (11, 0), (12, 2), (13, 2), (14, 2), (15, 2), (16, 2), (17, 0), (18, 0), (19, 0), (20, 0)]) (t_istore (s_iconst dlaw_166 rfl) dlaw_167 rfl rfl) (tn_to (Γ' := [(0, 2), (1, 2), (2, 2), (3, 2), (4, 2), (5, 2), (6, 2), (7, 2), (8, 2), (9, 2), (10, 0), (11, 0), (12, 2), (13, 2), (14, 2), (15, 2), (16, 2), (17, 0), (18, 0), (19, 0), (20, 0)]) (XA := [210]) sLlaw_1 (lda_cons (ld_in rfl) lda_nil) rfl)) (t_sq (p1 := 213) (Γ' := [(0, 2), (1, 2), (2, 2), (3, 2), (4, 2), (5, 2), (6, 2), (7, 2), (8, 2), (9, 2), (10, 0), (11, 0), (12, 2), (13, 2), (14, 2), (15, 2), (16, 2), (17, 0), (18, 0), (19, 0), (20, 0)]) (t_istore (s_iconst dlaw_210 rfl) dlaw_211 rfl rfl) (tn_to (Γ' := [(0, 2), (1, 2), (2, 2), (3, 2), (4, 2), (5, 2), (6, 2), (7, 2), (8, 2), (9, 2), (10, 0), (11, 0), (12, 2), (13, 2), (14, 2), (15, 2), (16, 2), (17, 0), (18, 0), (19, 0), (20, 0)]) (XA := [344]) sLlaw_3 (lda_cons (ld_in rfl) lda_nil) rfl))) (t_iinc dlaw_344 rfl rfl rfl rfl) (lda_cons (ld_in rfl) lda_nil) lda_nil (lda_cons (ld_goto (y := 159) dlaw_347 rfl (ld_in rfl)) lda_nil) (ld_in rfl) lda_nil
noncomputable def Llaw_5 : Sm Int32 := dLoop (fun f => (sI (sI (sI (sR (sR (sR (sR (sR (sI (sI (sR (sR (sR (sR (sR (sR (sR (sR (sR (sR fr0 0 (gR f 0)) 1 (gR f 1)) 2 (gR f 2)) 3 (gR f 3)) 4 (gR f 4)) 5 (gR f 5)) 6 (gR f 6)) 7 (gR f 7)) 8 (gR f 8)) 9 (gR f 9)) 10 (gI f 10)) 11 (gI f 11)) 12 (gR f 12)) 13 (gR f 13)) 14 (gR f 14)) 15 (gR f 15)) 16 (gR f 16)) 17 (gI f 17)) 18 (gI f 18)) 19 (gI f 19))) (dCI r_lt (vI 19) (dAI (vR 4) (cI 5))) (dIf (dCI r_ne (dCallV 11 DX11_why (aI (aR aN 0 (vR 1)) 1 (vI 19))) (dAI (vR 15) (vI 19))) (dRet (cI 0)) dSkip) (dInc 19 1)
theorem sLlaw_5 {ΓL : Gm} {PB PK : List Nat} : SS (cvoI, .ireturn) milaw ΓL PB PK [(0, 2), (1, 2), (2, 2), (3, 2), (4, 2), (5, 2), (6, 2), (7, 2), (8, 2), (9, 2), (10, 0), (11, 0), (12, 2), (13, 2), (14, 2), (15, 2), (16, 2), (17, 0), (18, 0), (19, 0)] [(0, 2), (1, 2), (2, 2), (3, 2), (4, 2), (5, 2), (6, 2), (7, 2), (8, 2), (9, 2), (10, 0), (11, 0), (12, 2), (13, 2), (14, 2), (15, 2), (16, 2), (17, 0), (18, 0), (19, 0)] 353 [384] Llaw_5 := t_loop (pT := 362) (pF := 384) (pu := 378) (PB' := []) (PK' := []) (XB := [378]) (XU := [381]) (fun _ _ => rfl) rfl (c_lt_F (pF := 384) (s_iload dlaw_353 rfl) (s_dAI (s_aload dlaw_355 rfl) (s_iconst dlaw_357 rfl) dlaw_358) dlaw_359 rfl) (t_if (pT := 376) (pF := 378) (X := [378]) (XA := []) (XB := [378]) (c_ne_F (pF := 378) (s_of_xI (x_callV (ts := [(0, 2), (1, 0)]) ck11 rfl kX11_why mokX11_why w3_179 w3_180 rfl rfl rfl rfl (a_I (ts := [(0, 2)]) 1 (a_R (ts := []) 0 a_nil (s_aload_n dlaw_362 rfl rfl) rfl) (s_iload dlaw_363 rfl) rfl) dlaw_365 w3_178)) (s_dAI (s_aload dlaw_368 rfl) (s_iload dlaw_370 rfl) dlaw_372) dlaw_373 rfl) (t_ret (cv := cvI) (fun _ _ => rfl) (s_iconst dlaw_376 rfl) dlaw_377) (t_skip (ld_in rfl) rfl) lda_nil (lda_cons (ld_in rfl) lda_nil)) (t_iinc dlaw_378 rfl rfl rfl rfl) (lda_cons (ld_in rfl) lda_nil) lda_nil (lda_cons (ld_goto (y := 353) dlaw_381 rfl (ld_in rfl)) lda_nil) (ld_in rfl) lda_nil
noncomputable def Llaw_6 : Sm Int32 := dLoop (fun f => (sI (sI (sR (sR (sR (sR (sR (sI (sI (sR (sR (sR (sR (sR (sR (sR (sR (sR (sR fr0 0 (gR f 0)) 1 (gR f 1)) 2 (gR f 2)) 3 (gR f 3)) 4 (gR f 4)) 5 (gR f 5)) 6 (gR f 6)) 7 (gR f 7)) 8 (gR f 8)) 9 (gR f 9)) 10 (gI f 10)) 11 (gI f 11)) 12 (gR f 12)) 13 (gR f 13)) 14 (gR f 14)) 15 (gR f 15)) 16 (gR f 16)) 17 (gI f 17)) 18 (gI f 18))) (dCI r_lt (vI 18) (cI 5)) (dSeq (dDo (dCall DL_run (aR (aR (aR (aR (aR (aR (aR (aR (aR (aR (aR aN 0 (vR 4)) 1 (vR 5)) 2 (vR 6)) 3 (vR 7)) 4 (vR 8)) 5 (vR 9)) 6 (vR 12)) 7 (vR 13)) 8 (vR 14)) 9 (vR 15)) 10 (vR 16)))) (dSeq (dSeq (dSetI 19 (cI 0)) Llaw_4) (dSeq (dSeq (dSetI 19 (cI 0)) Llaw_5) (dSeq (dIf (dOr (dCZ q_eq (vI 11)) (dCI r_eq (vI 18) (cI 4))) dCnt dSkip) (dSeq (dSetI 19 (dCall DL_draw (aI (aI (aR aN 0 (vR 0)) 1 (d2 o_iadd (cI 47) (vI 18))) 2 (vI 11)))) (dSeq (dIf (dOr (dCZ q_eq (dAI (vR 4) (cI 3))) (dCZ q_eq (dCall DL_draw (aI (aI (aR aN 0 (vR 0)) 1 (d2 o_iadd (cI 51) (vI 18))) 2 (cI 2))))) (dSeq (dSetI 20 (dCall DL_draw (aI (aI (aR aN 0 (vR 0)) 1 (d2 o_iadd (cI 55) (vI 18))) 2 (dAI (vR 7) (d2 o_imul (cI 7) (vI 19)))))) (dSeq (dIf (dCI r_ne (dCallV 11 DX11_rub (aI (aI (aR aN 0 (vR 1)) 1 (vI 19)) 2 (vI 20))) (d2 o_iand (d2 o_ishr (dAI (vR 9) (d2 o_iadd (cI 3) (vI 19))) (vI 20)) (cI 1))) (dRet (cI 0)) dSkip) (dUA o_iand (vR 9) (d2 o_iadd (cI 3) (vI 19)) (d2 o_ixor (d2 o_ishl (cI 1) (vI 20)) (cI (-1)))))) (dSeq (dSetI 20 (dAI (vR 4) (cI 5))) (dSeq (dSetI 21 (dCall DL_draw (aI (aI (aR aN 0 (vR 0)) 1 (d2 o_iadd (cI 55) (vI 18))) 2 (cI 1048576)))) (dSeq (d3 (stI 13 idI) (vR 8) (d2 o_imul (cI 4) (vI 20)) (d2z o_irem (vI 21) (dAI (vR 4) (cI 3)))) (dSeq (d3 (stI 13 idI) (vR 8) (d2 o_iadd (d2 o_imul (cI 4) (vI 20)) (cI 1)) (vI 19)) (dSeq (d3 (stI 13 idI) (vR 8) (d2 o_iadd (d2 o_imul (cI 4) (vI 20)) (cI 2)) (d2z o_irem (d2 o_ishr (vI 21) (cI 4)) (dAI (vR 4) (cI 2)))) (dSeq (d3 (stI 13 idI) (vR 8) (d2 o_iadd (d2 o_imul (cI 4) (vI 20)) (cI 3)) (d2z o_irem (d2 o_ishr (vI 21) (cI 8)) (vI 10))) (dSeq (dUA o_iadd (vR 4) (cI 5) (cI 1)) (dSeq (dDo (dCall DL_run (aR (aR (aR (aR (aR (aR (aR (aR (aR (aR (aR aN 0 (vR 4)) 1 (vR 5)) 2 (vR 6)) 3 (vR 7)) 4 (vR 8)) 5 (vR 9)) 6 (vR 12)) 7 (vR 13)) 8 (vR 14)) 9 (vR 15)) 10 (vR 16)))) (dIf (dCI r_ne (dCallV 11 DX11_carry (aI (aI (aI (aI (aR aN 0 (vR 1)) 1 (dAI (vR 8) (d2 o_imul (cI 4) (vI 20)))) 2 (vI 19)) 3 (dAI (vR 8) (d2 o_iadd (d2 o_imul (cI 4) (vI 20)) (cI 2)))) 4 (dAI (vR 8) (d2 o_iadd (d2 o_imul (cI 4) (vI 20)) (cI 3))))) (dT (dCZ q_eq (dAI (vR 15) (vI 20))) (cI 1) (cI 0))) (dRet (cI 0)) dSkip)))))))))) (dInc 17 1))))))) (dInc 18 1)
theorem sLlaw_6 {ΓL : Gm} {PB PK : List Nat} : SS (cvoI, .ireturn) milaw ΓL PB PK [(0, 2), (1, 2), (2, 2), (3, 2), (4, 2), (5, 2), (6, 2), (7, 2), (8, 2), (9, 2), (10, 0), (11, 0), (12, 2), (13, 2), (14, 2), (15, 2), (16, 2), (17, 0), (18, 0)] [(0, 2), (1, 2), (2, 2), (3, 2), (4, 2), (5, 2), (6, 2), (7, 2), (8, 2), (9, 2), (10, 0), (11, 0), (12, 2), (13, 2), (14, 2), (15, 2), (16, 2), (17, 0), (18, 0)] 125 [664] Llaw_6 := t_loop (pT := 131) (pF := 664) (pu := 658) (PB' := []) (PK' := [658]) (XB := [658]) (XU := [661]) (fun _ _ => rfl) rfl (c_lt_F (pF := 664) (s_iload dlaw_125 rfl) (s_iconst dlaw_127 rfl) dlaw_128 rfl) (t_sq (p1 := 156) (Γ' := [(0, 2), (1, 2), (2, 2), (3, 2), (4, 2), (5, 2), (6, 2), (7, 2), (8, 2), (9, 2), (10, 0), (11, 0), (12, 2), (13, 2), (14, 2), (15, 2), (16, 2), (17, 0), (18, 0)]) (t_do (x_call (ts := [(0, 2), (1, 2), (2, 2), (3, 2), (4, 2), (5, 2), (6, 2), (7, 2), (8, 2), (9, 2), (10, 2)]) kL_run mokL_run w4_231 rfl rfl rfl (a_R (ts := [(0, 2), (1, 2), (2, 2), (3, 2), (4, 2), (5, 2), (6, 2), (7, 2), (8, 2), (9, 2)]) 10 (a_R (ts := [(0, 2), (1, 2), (2, 2), (3, 2), (4, 2), (5, 2), (6, 2), (7, 2), (8, 2)]) 9 (a_R (ts := [(0, 2), (1, 2), (2, 2), (3, 2), (4, 2), (5, 2), (6, 2), (7, 2)]) 8 (a_R (ts := [(0, 2), (1, 2), (2, 2), (3, 2), (4, 2), (5, 2), (6, 2)]) 7 (a_R (ts := [(0, 2), (1, 2), (2, 2), (3, 2), (4, 2), (5, 2)]) 6 (a_R (ts := [(0, 2), (1, 2), (2, 2), (3, 2), (4, 2)]) 5 (a_R (ts := [(0, 2), (1, 2), (2, 2), (3, 2)]) 4 (a_R (ts := [(0, 2), (1, 2), (2, 2)]) 3 (a_R (ts := [(0, 2), (1, 2)]) 2 (a_R (ts := [(0, 2)]) 1 (a_R (ts := []) 0 a_nil (s_aload dlaw_131 rfl) rfl) (s_aload dlaw_133 rfl) rfl) (s_aload dlaw_135 rfl) rfl) (s_aload dlaw_137 rfl) rfl) (s_aload dlaw_139 rfl) rfl) (s_aload dlaw_141 rfl) rfl) (s_aload dlaw_143 rfl) rfl) (s_aload dlaw_145 rfl) rfl) (s_aload dlaw_147 rfl) rfl) (s_aload dlaw_149 rfl) rfl) (s_aload dlaw_151 rfl) rfl) dlaw_153 w4_230) rfl) (t_sq (p1 := 350) (Γ' := [(0, 2), (1, 2), (2, 2), (3, 2), (4, 2), (5, 2), (6, 2), (7, 2), (8, 2), (9, 2), (10, 0), (11, 0), (12, 2), (13, 2), (14, 2), (15, 2), (16, 2), (17, 0), (18, 0)]) (t_sq (p1 := 159) (Γ' := [(0, 2), (1, 2), (2, 2), (3, 2), (4, 2), (5, 2), (6, 2), (7, 2), (8, 2), (9, 2), (10, 0), (11, 0), (12, 2), (13, 2), (14, 2), (15, 2), (16, 2), (17, 0), (18, 0), (19, 0)]) (t_istore (s_iconst dlaw_156 rfl) dlaw_157 rfl rfl) (tn_to (Γ' := [(0, 2), (1, 2), (2, 2), (3, 2), (4, 2), (5, 2), (6, 2), (7, 2), (8, 2), (9, 2), (10, 0), (11, 0), (12, 2), (13, 2), (14, 2), (15, 2), (16, 2), (17, 0), (18, 0), (19, 0)]) (XA := [350]) sLlaw_4 (lda_cons (ld_in rfl) lda_nil) rfl)) (t_sq (p1 := 384) (Γ' := [(0, 2), (1, 2), (2, 2), (3, 2), (4, 2), (5, 2), (6, 2), (7, 2), (8, 2), (9, 2), (10, 0), (11, 0), (12, 2), (13, 2), (14, 2), (15, 2), (16, 2), (17, 0), (18, 0)]) (t_sq (p1 := 353) (Γ' := [(0, 2), (1, 2), (2, 2), (3, 2), (4, 2), (5, 2), (6, 2), (7, 2), (8, 2), (9, 2), (10, 0), (11, 0), (12, 2), (13, 2), (14, 2), (15, 2), (16, 2), (17, 0), (18, 0), (19, 0)]) (t_istore (s_iconst dlaw_350 rfl) dlaw_351 rfl rfl) (tn_to (Γ' := [(0, 2), (1, 2), (2, 2), (3, 2), (4, 2), (5, 2), (6, 2), (7, 2), (8, 2), (9, 2), (10, 0), (11, 0), (12, 2), (13, 2), (14, 2), (15, 2), (16, 2), (17, 0), (18, 0), (19, 0)]) (XA := [384]) sLlaw_5 (lda_cons (ld_in rfl) lda_nil) rfl)) (t_sq (p1 := 398) (Γ' := [(0, 2), (1, 2), (2, 2), (3, 2), (4, 2), (5, 2), (6, 2), (7, 2), (8, 2), (9, 2), (10, 0), (11, 0), (12, 2), (13, 2), (14, 2), (15, 2), (16, 2), (17, 0), (18, 0)]) (t_if (pT := 658) (pF := 398) (X := [398]) (XA := []) (XB := [398]) (c_or (p1 := 389) (pT := 658) (pF := 398) (c_eq_ZJ (pT := 658) (s_iload dlaw_384 rfl) dlaw_386 rfl) (c_ldT (p1 := 395) (c_eq_F (pF := 398) (s_iload dlaw_389 rfl) (s_iconst dlaw_391 rfl) dlaw_392 rfl) (ld_goto (y := 658) dlaw_395 rfl (ld_in rfl)))) (t_cnt (ld_in rfl) rfl) (t_skip (ld_in rfl) rfl) lda_nil (lda_cons (ld_in rfl) lda_nil)) (t_sq (p1 := 411) (Γ' := [(0, 2), (1, 2), (2, 2), (3, 2), (4, 2), (5, 2), (6, 2), (7, 2), (8, 2), (9, 2), (10, 0), (11, 0), (12, 2), (13, 2), (14, 2), (15, 2), (16, 2), (17, 0), (18, 0), (19, 0)]) (t_istore (s_of_xI (x_call (ts := [(0, 2), (1, 0), (2, 0)]) kL_draw mokL_draw w5_22 rfl rfl rfl (a_I (ts := [(0, 2), (1, 0)]) 2 (a_I (ts := [(0, 2)]) 1 (a_R (ts := []) 0 a_nil (s_aload_n dlaw_398 rfl rfl) rfl) (s_iadd (s_bipush dlaw_399 rfl) (s_iload dlaw_401 rfl) dlaw_403) rfl) (s_iload dlaw_404 rfl) rfl) dlaw_406 w5_21)) dlaw_409 rfl rfl) (t_sq (p1 := 655) (Γ' := [(0, 2), (1, 2), (2, 2), (3, 2), (4, 2), (5, 2), (6, 2), (7, 2), (8, 2), (9, 2), (10, 0), (11, 0), (12, 2), (13, 2), (14, 2), (15, 2), (16, 2), (17, 0), (18, 0), (19, 0)]) (t_if (pT := 431) (pF := 494) (X := [655]) (XA := [491]) (XB := [655]) (c_or (p1 := 418) (pT := 431) (pF := 494) (c_eq_ZJ (pT := 431) (s_dAI (s_aload dlaw_411 rfl) (s_iconst dlaw_413 rfl) dlaw_414) dlaw_415 rfl) (c_eq_ZF (pF := 494) (s_of_xI (x_call (ts := [(0, 2), (1, 0), (2, 0)]) kL_draw mokL_draw w5_22 rfl rfl rfl (a_I (ts := [(0, 2), (1, 0)]) 2 (a_I (ts := [(0, 2)]) 1 (a_R (ts := []) 0 a_nil (s_aload_n dlaw_418 rfl rfl) rfl) (s_iadd (s_bipush dlaw_419 rfl) (s_iload dlaw_421 rfl) dlaw_423) rfl) (s_iconst dlaw_424 rfl) rfl) dlaw_425 w5_21)) dlaw_428 rfl)) (t_sq (p1 := 450) (Γ' := [(0, 2), (1, 2), (2, 2), (3, 2), (4, 2), (5, 2), (6, 2), (7, 2), (8, 2), (9, 2), (10, 0), (11, 0), (12, 2), (13, 2), (14, 2), (15, 2), (16, 2), (17, 0), (18, 0), (19, 0), (20, 0)]) (t_istore (s_of_xI (x_call (ts := [(0, 2), (1, 0), (2, 0)]) kL_draw mokL_draw w5_22 rfl rfl rfl (a_I (ts := [(0, 2), (1, 0)]) 2 (a_I (ts := [(0, 2)]) 1 (a_R (ts := []) 0 a_nil (s_aload_n dlaw_431 rfl rfl) rfl) (s_iadd (s_bipush dlaw_432 rfl) (s_iload dlaw_434 rfl) dlaw_436) rfl) (s_dAI (s_aload dlaw_437 rfl) (s_imul (s_bipush dlaw_439 rfl) (s_iload dlaw_441 rfl) dlaw_443) dlaw_444) rfl) dlaw_445 w5_21)) dlaw_448 rfl rfl) (t_sq (p1 := 475) (Γ' := [(0, 2), (1, 2), (2, 2), (3, 2), (4, 2), (5, 2), (6, 2), (7, 2), (8, 2), (9, 2), (10, 0), (11, 0), (12, 2), (13, 2), (14, 2), (15, 2), (16, 2), (17, 0), (18, 0), (19, 0), (20, 0)]) (t_if (pT := 473) (pF := 475) (X := [475]) (XA := []) (XB := [475]) (c_ne_F (pF := 475) (s_of_xI (x_callV (ts := [(0, 2), (1, 0), (2, 0)]) ck11 rfl kX11_rub mokX11_rub w4_144 w4_145 rfl rfl rfl rfl (a_I (ts := [(0, 2), (1, 0)]) 2 (a_I (ts := [(0, 2)]) 1 (a_R (ts := []) 0 a_nil (s_aload_n dlaw_450 rfl rfl) rfl) (s_iload dlaw_451 rfl) rfl) (s_iload dlaw_453 rfl) rfl) dlaw_455 w4_143)) (s_iand (s_ishr (s_dAI (s_aload dlaw_458 rfl) (s_iadd (s_iconst dlaw_460 rfl) (s_iload dlaw_461 rfl) dlaw_463) dlaw_464) (s_iload dlaw_465 rfl) dlaw_467) (s_iconst dlaw_468 rfl) dlaw_469) dlaw_470 rfl) (t_ret (cv := cvI) (fun _ _ => rfl) (s_iconst dlaw_473 rfl) dlaw_474) (t_skip (ld_in rfl) rfl) lda_nil (lda_cons (ld_in rfl) lda_nil)) (t_UA (s_aload dlaw_475 rfl) (s_iadd (s_iconst dlaw_477 rfl) (s_iload dlaw_478 rfl) dlaw_480) dlaw_481 dlaw_482 (s_ixor (s_ishl (s_iconst dlaw_483 rfl) (s_iload dlaw_484 rfl) dlaw_486) (s_iconst dlaw_487 rfl) dlaw_488) (fun _ _ _ _ => rulI fun a b K => lv_iand a b dlaw_489 K) dlaw_490 rfl))) (t_sq (p1 := 500) (Γ' := [(0, 2), (1, 2), (2, 2), (3, 2), (4, 2), (5, 2), (6, 2), (7, 2), (8, 2), (9, 2), (10, 0), (11, 0), (12, 2), (13, 2), (14, 2), (15, 2), (16, 2), (17, 0), (18, 0), (19, 0), (20, 0)]) (t_istore (s_dAI (s_aload dlaw_494 rfl) (s_iconst dlaw_496 rfl) dlaw_497) dlaw_498 rfl rfl) (t_sq (p1 := 513) (Γ' := [(0, 2), (1, 2), (2, 2), (3, 2), (4, 2), (5, 2), (6, 2), (7, 2), (8, 2), (9, 2), (10, 0), (11, 0), (12, 2), (13, 2), (14, 2), (15, 2), (16, 2), (17, 0), (18, 0), (19, 0), (20, 0), (21, 0)]) (t_istore (s_of_xI (x_call (ts := [(0, 2), (1, 0), (2, 0)]) kL_draw mokL_draw w5_22 rfl rfl rfl (a_I (ts := [(0, 2), (1, 0)]) 2 (a_I (ts := [(0, 2)]) 1 (a_R (ts := []) 0 a_nil (s_aload_n dlaw_500 rfl rfl) rfl) (s_iadd (s_bipush dlaw_501 rfl) (s_iload dlaw_503 rfl) dlaw_505) rfl) (s_ldc dlaw_506 w5_64) rfl) dlaw_508 w5_21)) dlaw_511 rfl rfl) (t_sq (p1 := 527) (Γ' := [(0, 2), (1, 2), (2, 2), (3, 2), (4, 2), (5, 2), (6, 2), (7, 2), (8, 2), (9, 2), (10, 0), (11, 0), (12, 2), (13, 2), (14, 2), (15, 2), (16, 2), (17, 0), (18, 0), (19, 0), (20, 0), (21, 0)]) (t_stI (s_aload dlaw_513 rfl) (s_imul (s_iconst dlaw_515 rfl) (s_iload dlaw_516 rfl) dlaw_518) (s_irem (s_iload dlaw_519 rfl) (s_dAI (s_aload dlaw_521 rfl) (s_iconst dlaw_523 rfl) dlaw_524) dlaw_525) dlaw_526 rfl) (t_sq (p1 := 538) (Γ' := [(0, 2), (1, 2), (2, 2), (3, 2), (4, 2), (5, 2), (6, 2), (7, 2), (8, 2), (9, 2), (10, 0), (11, 0), (12, 2), (13, 2), (14, 2), (15, 2), (16, 2), (17, 0), (18, 0), (19, 0), (20, 0), (21, 0)]) (t_stI (s_aload dlaw_527 rfl) (s_iadd (s_imul (s_iconst dlaw_529 rfl) (s_iload dlaw_530 rfl) dlaw_532) (s_iconst dlaw_533 rfl) dlaw_534) (s_iload dlaw_535 rfl) dlaw_537 rfl) (t_sq (p1 := 556) (Γ' := [(0, 2), (1, 2), (2, 2), (3, 2), (4, 2), (5, 2), (6, 2), (7, 2), (8, 2), (9, 2), (10, 0), (11, 0), (12, 2), (13, 2), (14, 2), (15, 2), (16, 2), (17, 0), (18, 0), (19, 0), (20, 0), (21, 0)]) (t_stI (s_aload dlaw_538 rfl) (s_iadd (s_imul (s_iconst dlaw_540 rfl) (s_iload dlaw_541 rfl) dlaw_543) (s_iconst dlaw_544 rfl) dlaw_545) (s_irem (s_ishr (s_iload dlaw_546 rfl) (s_iconst dlaw_548 rfl) dlaw_549) (s_dAI (s_aload dlaw_550 rfl) (s_iconst dlaw_552 rfl) dlaw_553) dlaw_554) dlaw_555 rfl) (t_sq (p1 := 573) (Γ' := [(0, 2), (1, 2), (2, 2), (3, 2), (4, 2), (5, 2), (6, 2), (7, 2), (8, 2), (9, 2), (10, 0), (11, 0), (12, 2), (13, 2), (14, 2), (15, 2), (16, 2), (17, 0), (18, 0), (19, 0), (20, 0), (21, 0)]) (t_stI (s_aload dlaw_556 rfl) (s_iadd (s_imul (s_iconst dlaw_558 rfl) (s_iload dlaw_559 rfl) dlaw_561) (s_iconst dlaw_562 rfl) dlaw_563) (s_irem (s_ishr (s_iload dlaw_564 rfl) (s_bipush dlaw_566 rfl) dlaw_568) (s_iload dlaw_569 rfl) dlaw_571) dlaw_572 rfl) (t_sq (p1 := 581) (Γ' := [(0, 2), (1, 2), (2, 2), (3, 2), (4, 2), (5, 2), (6, 2), (7, 2), (8, 2), (9, 2), (10, 0), (11, 0), (12, 2), (13, 2), (14, 2), (15, 2), (16, 2), (17, 0), (18, 0), (19, 0), (20, 0), (21, 0)]) (t_UA (s_aload dlaw_573 rfl) (s_iconst dlaw_575 rfl) dlaw_576 dlaw_577 (s_iconst dlaw_578 rfl) (fun _ _ _ _ => rulI fun a b K => lv_iadd a b dlaw_579 K) dlaw_580 rfl) (t_sq (p1 := 606) (Γ' := [(0, 2), (1, 2), (2, 2), (3, 2), (4, 2), (5, 2), (6, 2), (7, 2), (8, 2), (9, 2), (10, 0), (11, 0), (12, 2), (13, 2), (14, 2), (15, 2), (16, 2), (17, 0), (18, 0), (19, 0), (20, 0), (21, 0)]) (t_do (x_call (ts := [(0, 2), (1, 2), (2, 2), (3, 2), (4, 2), (5, 2), (6, 2), (7, 2), (8, 2), (9, 2), (10, 2)]) kL_run mokL_run w4_231 rfl rfl rfl (a_R (ts := [(0, 2), (1, 2), (2, 2), (3, 2), (4, 2), (5, 2), (6, 2), (7, 2), (8, 2), (9, 2)]) 10 (a_R (ts := [(0, 2), (1, 2), (2, 2), (3, 2), (4, 2), (5, 2), (6, 2), (7, 2), (8, 2)]) 9 (a_R (ts := [(0, 2), (1, 2), (2, 2), (3, 2), (4, 2), (5, 2), (6, 2), (7, 2)]) 8 (a_R (ts := [(0, 2), (1, 2), (2, 2), (3, 2), (4, 2), (5, 2), (6, 2)]) 7 (a_R (ts := [(0, 2), (1, 2), (2, 2), (3, 2), (4, 2), (5, 2)]) 6 (a_R (ts := [(0, 2), (1, 2), (2, 2), (3, 2), (4, 2)]) 5 (a_R (ts := [(0, 2), (1, 2), (2, 2), (3, 2)]) 4 (a_R (ts := [(0, 2), (1, 2), (2, 2)]) 3 (a_R (ts := [(0, 2), (1, 2)]) 2 (a_R (ts := [(0, 2)]) 1 (a_R (ts := []) 0 a_nil (s_aload dlaw_581 rfl) rfl) (s_aload dlaw_583 rfl) rfl) (s_aload dlaw_585 rfl) rfl) (s_aload dlaw_587 rfl) rfl) (s_aload dlaw_589 rfl) rfl) (s_aload dlaw_591 rfl) rfl) (s_aload dlaw_593 rfl) rfl) (s_aload dlaw_595 rfl) rfl) (s_aload dlaw_597 rfl) rfl) (s_aload dlaw_599 rfl) rfl) (s_aload dlaw_601 rfl) rfl) dlaw_603 w4_230) rfl) (t_if (pT := 653) (pF := 655) (X := [655]) (XA := []) (XB := [655]) (c_ne_F (pF := 655) (s_of_xI (x_callV (ts := [(0, 2), (1, 0), (2, 0), (3, 0), (4, 0)]) ck11 rfl kX11_carry mokX11_carry w4_119 w4_120 rfl rfl rfl rfl (a_I (ts := [(0, 2), (1, 0), (2, 0), (3, 0)]) 4 (a_I (ts := [(0, 2), (1, 0), (2, 0)]) 3 (a_I (ts := [(0, 2), (1, 0)]) 2 (a_I (ts := [(0, 2)]) 1 (a_R (ts := []) 0 a_nil (s_aload_n dlaw_606 rfl rfl) rfl) (s_dAI (s_aload dlaw_607 rfl) (s_imul (s_iconst dlaw_609 rfl) (s_iload dlaw_610 rfl) dlaw_612) dlaw_613) rfl) (s_iload dlaw_614 rfl) rfl) (s_dAI (s_aload dlaw_616 rfl) (s_iadd (s_imul (s_iconst dlaw_618 rfl) (s_iload dlaw_619 rfl) dlaw_621) (s_iconst dlaw_622 rfl) dlaw_623) dlaw_624) rfl) (s_dAI (s_aload dlaw_625 rfl) (s_iadd (s_imul (s_iconst dlaw_627 rfl) (s_iload dlaw_628 rfl) dlaw_630) (s_iconst dlaw_631 rfl) dlaw_632) dlaw_633) rfl) dlaw_634 w4_118)) (s_T (pT := 645) (pF := 649) (p1 := 646) (pe := 650) (c_eq_ZF (pF := 649) (s_dAI (s_aload dlaw_637 rfl) (s_iload dlaw_639 rfl) dlaw_641) dlaw_642 rfl) (s_iconst dlaw_645 rfl) (s_iconst dlaw_649 rfl) (ld_goto (y := 650) dlaw_646 rfl (ld_in rfl))) dlaw_650 rfl) (t_ret (cv := cvI) (fun _ _ => rfl) (s_iconst dlaw_653 rfl) dlaw_654) (t_skip (ld_in rfl) rfl) lda_nil (lda_cons (ld_in rfl) lda_nil)))))))))) (lda_cons (ld_goto (y := 655) dlaw_491 rfl (ld_in rfl)) lda_nil) (lda_cons (ld_in rfl) lda_nil)) (t_iinc dlaw_655 rfl rfl rfl rfl))))))) (t_iinc dlaw_658 rfl rfl rfl rfl) (lda_cons (ld_in rfl) lda_nil) (lda_cons (ld_in rfl) lda_nil) (lda_cons (ld_goto (y := 125) dlaw_661 rfl (ld_in rfl)) lda_nil) (ld_in rfl) lda_nil
noncomputable def Llaw_7 : Sm Int32 := dLoop (fun f => (sI (sI (sI (sI (sR (sR (sR (sR (sR (sI (sI (sR (sR (sR (sR (sR (sR (sR (sR (sR (sR fr0 0 (gR f 0)) 1 (gR f 1)) 2 (gR f 2)) 3 (gR f 3)) 4 (gR f 4)) 5 (gR f 5)) 6 (gR f 6)) 7 (gR f 7)) 8 (gR f 8)) 9 (gR f 9)) 10 (gI f 10)) 11 (gI f 11)) 12 (gR f 12)) 13 (gR f 13)) 14 (gR f 14)) 15 (gR f 15)) 16 (gR f 16)) 17 (gI f 17)) 18 (gI f 18)) 19 (gI f 19)) 20 (gI f 20))) (dCI r_lt (vI 20) (cI 4)) (dSeq (d3 (stI 13 idI) (vR 4) (cI 1) (vI 20)) (dSeq (dDo (dCall DL_run (aR (aR (aR (aR (aR (aR (aR (aR (aR (aR (aR aN 0 (vR 4)) 1 (vR 5)) 2 (vR 6)) 3 (vR 7)) 4 (vR 8)) 5 (vR 9)) 6 (vR 12)) 7 (vR 13)) 8 (vR 14)) 9 (vR 15)) 10 (vR 16)))) (dIf (dCI r_ne (dCallV 11 DX11_by (aI (aI (aR aN 0 (vR 1)) 1 (vI 18)) 2 (vI 20))) (dCall DL_heard (aL (aR aN 0 (vR 4)) 1 (dAL (vR 14) (d2 o_iadd (d2 o_imul (cI 3) (vI 10)) (vI 18)))))) (dRet (cI 0)) dSkip))) (dInc 20 1)
theorem sLlaw_7 {ΓL : Gm} {PB PK : List Nat} : SS (cvoI, .ireturn) milaw ΓL PB PK [(0, 2), (1, 2), (2, 2), (3, 2), (4, 2), (5, 2), (6, 2), (7, 2), (8, 2), (9, 2), (10, 0), (11, 0), (12, 2), (13, 2), (14, 2), (15, 2), (16, 2), (17, 0), (18, 0), (19, 0), (20, 0)] [(0, 2), (1, 2), (2, 2), (3, 2), (4, 2), (5, 2), (6, 2), (7, 2), (8, 2), (9, 2), (10, 0), (11, 0), (12, 2), (13, 2), (14, 2), (15, 2), (16, 2), (17, 0), (18, 0), (19, 0), (20, 0)] 683 [754] Llaw_7 := t_loop (pT := 689) (pF := 754) (pu := 748) (PB' := []) (PK' := []) (XB := [748]) (XU := [751]) (fun _ _ => rfl) rfl (c_lt_F (pF := 754) (s_iload dlaw_683 rfl) (s_iconst dlaw_685 rfl) dlaw_686 rfl) (t_sq (p1 := 695) (Γ' := [(0, 2), (1, 2), (2, 2), (3, 2), (4, 2), (5, 2), (6, 2), (7, 2), (8, 2), (9, 2), (10, 0), (11, 0), (12, 2), (13, 2), (14, 2), (15, 2), (16, 2), (17, 0), (18, 0), (19, 0), (20, 0)]) (t_stI (s_aload dlaw_689 rfl) (s_iconst dlaw_691 rfl) (s_iload dlaw_692 rfl) dlaw_694 rfl) (t_sq (p1 := 720) (Γ' := [(0, 2), (1, 2), (2, 2), (3, 2), (4, 2), (5, 2), (6, 2), (7, 2), (8, 2), (9, 2), (10, 0), (11, 0), (12, 2), (13, 2), (14, 2), (15, 2), (16, 2), (17, 0), (18, 0), (19, 0), (20, 0)]) (t_do (x_call (ts := [(0, 2), (1, 2), (2, 2), (3, 2), (4, 2), (5, 2), (6, 2), (7, 2), (8, 2), (9, 2), (10, 2)]) kL_run mokL_run w4_231 rfl rfl rfl (a_R (ts := [(0, 2), (1, 2), (2, 2), (3, 2), (4, 2), (5, 2), (6, 2), (7, 2), (8, 2), (9, 2)]) 10 (a_R (ts := [(0, 2), (1, 2), (2, 2), (3, 2), (4, 2), (5, 2), (6, 2), (7, 2), (8, 2)]) 9 (a_R (ts := [(0, 2), (1, 2), (2, 2), (3, 2), (4, 2), (5, 2), (6, 2), (7, 2)]) 8 (a_R (ts := [(0, 2), (1, 2), (2, 2), (3, 2), (4, 2), (5, 2), (6, 2)]) 7 (a_R (ts := [(0, 2), (1, 2), (2, 2), (3, 2), (4, 2), (5, 2)]) 6 (a_R (ts := [(0, 2), (1, 2), (2, 2), (3, 2), (4, 2)]) 5 (a_R (ts := [(0, 2), (1, 2), (2, 2), (3, 2)]) 4 (a_R (ts := [(0, 2), (1, 2), (2, 2)]) 3 (a_R (ts := [(0, 2), (1, 2)]) 2 (a_R (ts := [(0, 2)]) 1 (a_R (ts := []) 0 a_nil (s_aload dlaw_695 rfl) rfl) (s_aload dlaw_697 rfl) rfl) (s_aload dlaw_699 rfl) rfl) (s_aload dlaw_701 rfl) rfl) (s_aload dlaw_703 rfl) rfl) (s_aload dlaw_705 rfl) rfl) (s_aload dlaw_707 rfl) rfl) (s_aload dlaw_709 rfl) rfl) (s_aload dlaw_711 rfl) rfl) (s_aload dlaw_713 rfl) rfl) (s_aload dlaw_715 rfl) rfl) dlaw_717 w4_230) rfl) (t_if (pT := 746) (pF := 748) (X := [748]) (XA := []) (XB := [748]) (c_ne_F (pF := 748) (s_of_xI (x_callV (ts := [(0, 2), (1, 0), (2, 0)]) ck11 rfl kX11_by mokX11_by w4_40 w4_41 rfl rfl rfl rfl (a_I (ts := [(0, 2), (1, 0)]) 2 (a_I (ts := [(0, 2)]) 1 (a_R (ts := []) 0 a_nil (s_aload_n dlaw_720 rfl rfl) rfl) (s_iload dlaw_721 rfl) rfl) (s_iload dlaw_723 rfl) rfl) dlaw_725 w4_39)) (s_of_xI (x_call (ts := [(0, 2), (1, 1)]) kL_heard mokL_heard w5_16 rfl rfl rfl (a_L (ts := [(0, 2)]) 1 (a_R (ts := []) 0 a_nil (s_aload dlaw_728 rfl) rfl) (s_dAL (s_aload dlaw_730 rfl) (s_iadd (s_imul (s_iconst dlaw_732 rfl) (s_iload dlaw_733 rfl) dlaw_735) (s_iload dlaw_736 rfl) dlaw_738) dlaw_739) rfl) dlaw_740 w5_15)) dlaw_743 rfl) (t_ret (cv := cvI) (fun _ _ => rfl) (s_iconst dlaw_746 rfl) dlaw_747) (t_skip (ld_in rfl) rfl) lda_nil (lda_cons (ld_in rfl) lda_nil)))) (t_iinc dlaw_748 rfl rfl rfl rfl) (lda_cons (ld_in rfl) lda_nil) lda_nil (lda_cons (ld_goto (y := 683) dlaw_751 rfl (ld_in rfl)) lda_nil) (ld_in rfl) lda_nil
noncomputable def Llaw_8 : Sm Int32 := dLoop (fun f => (sI (sI (sI (sI (sI (sI (sI (sI (sR (sR (sR (sR (sR (sI (sI (sR (sR (sR (sR (sR (sR (sR (sR (sR (sR fr0 0 (gR f 0)) 1 (gR f 1)) 2 (gR f 2)) 3 (gR f 3)) 4 (gR f 4)) 5 (gR f 5)) 6 (gR f 6)) 7 (gR f 7)) 8 (gR f 8)) 9 (gR f 9)) 10 (gI f 10)) 11 (gI f 11)) 12 (gR f 12)) 13 (gR f 13)) 14 (gR f 14)) 15 (gR f 15)) 16 (gR f 16)) 17 (gI f 17)) 18 (gI f 18)) 19 (gI f 19)) 20 (gI f 20)) 21 (gI f 21)) 22 (gI f 22)) 23 (gI f 23)) 24 (gI f 24))) (dCI r_lt (vI 24) (dAI (vR 4) (cI 2))) (dSeq (d3 (stI 13 idI) (vR 9) (vI 18) (vI 24)) (dSeq (dDo (dCall DL_run (aR (aR (aR (aR (aR (aR (aR (aR (aR (aR (aR aN 0 (vR 4)) 1 (vR 5)) 2 (vR 6)) 3 (vR 7)) 4 (vR 8)) 5 (vR 9)) 6 (vR 12)) 7 (vR 13)) 8 (vR 14)) 9 (vR 15)) 10 (vR 16)))) (dSetI 23 (d2 o_ior (vI 23) (dT (dCI r_eq (dCall DL_lies (aI (aI aN 0 (dAI (vR 13) (vI 20))) 1 (vI 18))) (vI 21)) (d2 o_ishl (cI 1) (vI 24)) (cI 0)))))) (dInc 24 1)
theorem sLlaw_8 {ΓL : Gm} {PB PK : List Nat} : SS (cvoI, .ireturn) milaw ΓL PB PK [(0, 2), (1, 2), (2, 2), (3, 2), (4, 2), (5, 2), (6, 2), (7, 2), (8, 2), (9, 2), (10, 0), (11, 0), (12, 2), (13, 2), (14, 2), (15, 2), (16, 2), (17, 0), (18, 0), (19, 0), (20, 0), (21, 0), (22, 0), (23, 0), (24, 0)] [(0, 2), (1, 2), (2, 2), (3, 2), (4, 2), (5, 2), (6, 2), (7, 2), (8, 2), (9, 2), (10, 0), (11, 0), (12, 2), (13, 2), (14, 2), (15, 2), (16, 2), (17, 0), (18, 0), (19, 0), (20, 0), (21, 0), (22, 0), (23, 0), (24, 0)] 822 [897] Llaw_8 := t_loop (pT := 831) (pF := 897) (pu := 891) (PB' := []) (PK' := []) (XB := [891]) (XU := [894]) (fun _ _ => rfl) rfl (c_lt_F (pF := 897) (s_iload dlaw_822 rfl) (s_dAI (s_aload dlaw_824 rfl) (s_iconst dlaw_826 rfl) dlaw_827) dlaw_828 rfl) (t_sq (p1 := 838) (Γ' := [(0, 2), (1, 2), (2, 2), (3, 2), (4, 2), (5, 2), (6, 2), (7, 2), (8, 2), (9, 2), (10, 0), (11, 0), (12, 2), (13, 2), (14, 2), (15, 2), (16, 2), (17, 0), (18, 0), (19, 0), (20, 0), (21, 0), (22, 0), (23, 0), (24, 0)]) (t_stI (s_aload dlaw_831 rfl) (s_iload dlaw_833 rfl) (s_iload dlaw_835 rfl) dlaw_837 rfl) (t_sq (p1 := 863) (Γ' := [(0, 2), (1, 2), (2, 2), (3, 2), (4, 2), (5, 2), (6, 2), (7, 2), (8, 2), (9, 2), (10, 0), (11, 0), (12, 2), (13, 2), (14, 2), (15, 2), (16, 2), (17, 0), (18, 0), (19, 0), (20, 0), (21, 0), (22, 0), (23, 0), (24, 0)]) (t_do (x_call (ts := [(0, 2), (1, 2), (2, 2), (3, 2), (4, 2), (5, 2), (6, 2), (7, 2), (8, 2), (9, 2), (10, 2)]) kL_run mokL_run w4_231 rfl rfl rfl (a_R (ts := [(0, 2), (1, 2), (2, 2), (3, 2), (4, 2), (5, 2), (6, 2), (7, 2), (8, 2), (9, 2)]) 10 (a_R (ts := [(0, 2), (1, 2), (2, 2), (3, 2), (4, 2), (5, 2), (6, 2), (7, 2), (8, 2)]) 9 (a_R (ts := [(0, 2), (1, 2), (2, 2), (3, 2), (4, 2), (5, 2), (6, 2), (7, 2)]) 8 (a_R (ts := [(0, 2), (1, 2), (2, 2), (3, 2), (4, 2), (5, 2), (6, 2)]) 7 (a_R (ts := [(0, 2), (1, 2), (2, 2), (3, 2), (4, 2), (5, 2)]) 6 (a_R (ts := [(0, 2), (1, 2), (2, 2), (3, 2), (4, 2)]) 5 (a_R (ts := [(0, 2), (1, 2), (2, 2), (3, 2)]) 4 (a_R (ts := [(0, 2), (1, 2), (2, 2)]) 3 (a_R (ts := [(0, 2), (1, 2)]) 2 (a_R (ts := [(0, 2)]) 1 (a_R (ts := []) 0 a_nil (s_aload dlaw_838 rfl) rfl) (s_aload dlaw_840 rfl) rfl) (s_aload dlaw_842 rfl) rfl) (s_aload dlaw_844 rfl) rfl) (s_aload dlaw_846 rfl) rfl) (s_aload dlaw_848 rfl) rfl) (s_aload dlaw_850 rfl) rfl) (s_aload dlaw_852 rfl) rfl) (s_aload dlaw_854 rfl) rfl) (s_aload dlaw_856 rfl) rfl) (s_aload dlaw_858 rfl) rfl) dlaw_860 w4_230) rfl) (t_istore (s_ior (s_iload dlaw_863 rfl) (s_T (pT := 880) (pF := 887) (p1 := 884) (pe := 888) (c_eq_F (pF := 887) (s_of_xI (x_call (ts := [(0, 0), (1, 0)]) kL_lies mokL_lies w5_6 rfl rfl rfl (a_I (ts := [(0, 0)]) 1 (a_I (ts := []) 0 a_nil (s_dAI (s_aload dlaw_865 rfl) (s_iload dlaw_867 rfl) dlaw_869) rfl) (s_iload dlaw_870 rfl) rfl) dlaw_872 w5_5)) (s_iload dlaw_875 rfl) dlaw_877 rfl) (s_ishl (s_iconst dlaw_880 rfl) (s_iload dlaw_881 rfl) dlaw_883) (s_iconst dlaw_887 rfl) (ld_goto (y := 888) dlaw_884 rfl (ld_in rfl))) dlaw_888) dlaw_889 rfl rfl))) (t_iinc dlaw_891 rfl rfl rfl rfl) (lda_cons (ld_in rfl) lda_nil) lda_nil (lda_cons (ld_goto (y := 822) dlaw_894 rfl (ld_in rfl)) lda_nil) (ld_in rfl) lda_nil
noncomputable def Llaw_9 : Sm Int32 := dLoop (fun f => (sI (sI (sI (sI (sI (sI (sI (sI (sI (sI (sI (sR (sR (sR (sR (sR (sI (sI (sR (sR (sR (sR (sR (sR (sR (sR (sR (sR fr0 0 (gR f 0)) 1 (gR f 1)) 2 (gR f 2)) 3 (gR f 3)) 4 (gR f 4)) 5 (gR f 5)) 6 (gR f 6)) 7 (gR f 7)) 8 (gR f 8)) 9 (gR f 9)) 10 (gI f 10)) 11 (gI f 11)) 12 (gR f 12)) 13 (gR f 13)) 14 (gR f 14)) 15 (gR f 15)) 16 (gR f 16)) 17 (gI f 17)) 18 (gI f 18)) 19 (gI f 19)) 20 (gI f 20)) 21 (gI f 21)) 22 (gI f 22)) 23 (gI f 23)) 24 (gI f 24)) 25 (gI f 25)) 26 (gI f 26)) 27 (gI f 27))) (dCI r_lt (vI 27) (dAI (vR 4) (cI 3))) (dSeq (dSetI 26 (d2 o_iadd (vI 26) (dAI (vR 6) (d2 o_iadd (d2 o_imul (cI 2) (vI 27)) (cI 1))))) (dIf (dOr (dCI r_ne (dB (dCZ q_ge (dCallV 11 DX11_brings (aI (aI (aI (aR aN 0 (vR 1)) 1 (vI 27)) 2 (vI 18)) 3 (vI 24))))) (dB (dAnd (dCZ q_ge (vI 25)) (dCI r_ge (dAI (vR 6) (d2 o_iadd (d2 o_imul (cI 2) (vI 27)) (cI 1))) (vI 25))))) (dAnd (dCZ q_ge (dCallV 11 DX11_brings (aI (aI (aI (aR aN 0 (vR 1)) 1 (vI 27)) 2 (vI 18)) 3 (vI 24)))) (dOr (dCZ q_lt (dCallV 11 DX11_saves (aI (aI (aI (aR aN 0 (vR 1)) 1 (vI 27)) 2 (vI 18)) 3 (vI 24)))) (dCI r_lt (dCallV 11 DX11_brings (aI (aI (aI (aR aN 0 (vR 1)) 1 (vI 27)) 2 (vI 18)) 3 (vI 24))) (dCallV 11 DX11_far (aI (aI (aR aN 0 (vR 1)) 1 (dAI (vR 9) (vI 18))) 2 (vI 24))))))) (dRet (cI 0)) dSkip)) (dInc 27 1)
theorem sLlaw_9 {ΓL : Gm} {PB PK : List Nat} : SS (cvoI, .ireturn) milaw ΓL PB PK [(0, 2), (1, 2), (2, 2), (3, 2), (4, 2), (5, 2), (6, 2), (7, 2), (8, 2), (9, 2), (10, 0), (11, 0), (12, 2), (13, 2), (14, 2), (15, 2), (16, 2), (17, 0), (18, 0), (19, 0), (20, 0), (21, 0), (22, 0), (23, 0), (24, 0), (25, 0), (26, 0), (27, 0)] [(0, 2), (1, 2), (2, 2), (3, 2), (4, 2), (5, 2), (6, 2), (7, 2), (8, 2), (9, 2), (10, 0), (11, 0), (12, 2), (13, 2), (14, 2), (15, 2), (16, 2), (17, 0), (18, 0), (19, 0), (20, 0), (21, 0), (22, 0), (23, 0), (24, 0), (25, 0), (26, 0), (27, 0)] 1032 [1158] Llaw_9 := t_loop (pT := 1041) (pF := 1158) (pu := 1152) (PB' := []) (PK' := []) (XB := [1152]) (XU := [1155]) (fun _ _ => rfl) rfl (c_lt_F (pF := 1158) (s_iload dlaw_1032 rfl) (s_dAI (s_aload dlaw_1034 rfl) (s_iconst dlaw_1036 rfl) dlaw_1037) dlaw_1038 rfl) (t_sq (p1 := 1055) (Γ' := [(0, 2), (1, 2), (2, 2), (3, 2), (4, 2), (5, 2), (6, 2), (7, 2), (8, 2), (9, 2), (10, 0), (11, 0), (12, 2), (13, 2), (14, 2), (15, 2), (16, 2), (17, 0), (18, 0), (19, 0), (20, 0), (21, 0), (22, 0), (23, 0), (24, 0), (25, 0), (26, 0), (27, 0)]) (t_istore (s_iadd (s_iload dlaw_1041 rfl) (s_dAI (s_aload dlaw_1043 rfl) (s_iadd (s_imul (s_iconst dlaw_1045 rfl) (s_iload dlaw_1046 rfl) dlaw_1048) (s_iconst dlaw_1049 rfl) dlaw_1050) dlaw_1051) dlaw_1052) dlaw_1053 rfl rfl) (t_if (pT := 1150) (pF := 1152) (X := [1152]) (XA := []) (XB := [1152]) (c_or (p1 := 1100) (pT := 1150) (pF := 1152) (c_ne_J (pT := 1150) (s_B (pT := 1068) (pF := 1072) (pe := 1073) (c_ge_ZF (pF := 1072) (s_of_xI (x_callV (ts := [(0, 2), (1, 0), (2, 0), (3, 0)]) ck11 rfl kX11_brings mokX11_brings w3_187 w3_188 rfl rfl rfl rfl (a_I (ts := [(0, 2), (1, 0), (2, 0)]) 3 (a_I (ts := [(0, 2), (1, 0)]) 2 (a_I (ts := [(0, 2)]) 1 (a_R (ts := []) 0 a_nil (s_aload_n dlaw_1055 rfl rfl) rfl) (s_iload dlaw_1056 rfl) rfl) (s_iload dlaw_1058 rfl) rfl) (s_iload dlaw_1060 rfl) rfl) dlaw_1062 w3_186)) dlaw_1065 rfl) dlaw_1068 dlaw_1069 rfl dlaw_1072 rfl) (s_B (pT := 1092) (pF := 1096) (pe := 1097) (c_and (p1 := 1078) (pT := 1092) (pF := 1096) (c_ge_ZF (pF := 1096) (s_iload dlaw_1073 rfl) dlaw_1075 rfl) (c_ge_F (pF := 1096) (s_dAI (s_aload dlaw_1078 rfl) (s_iadd (s_imul (s_iconst dlaw_1080 rfl) (s_iload dlaw_1081 rfl) dlaw_1083) (s_iconst dlaw_1084 rfl) dlaw_1085) dlaw_1086) (s_iload dlaw_1087 rfl) dlaw_1089 rfl)) dlaw_1092 dlaw_1093 rfl dlaw_1096 rfl) dlaw_1097 rfl) (c_and (p1 := 1113) (pT := 1150) (pF := 1152) (c_ge_ZF (pF := 1152) (s_of_xI (x_callV (ts := [(0, 2), (1, 0), (2, 0), (3, 0)]) ck11 rfl kX11_brings mokX11_brings w3_187 w3_188 rfl rfl rfl rfl (a_I (ts := [(0, 2), (1, 0), (2, 0)]) 3 (a_I (ts := [(0, 2), (1, 0)]) 2 (a_I (ts := [(0, 2)]) 1 (a_R (ts := []) 0 a_nil (s_aload_n dlaw_1100 rfl rfl) rfl) (s_iload dlaw_1101 rfl) rfl) (s_iload dlaw_1103 rfl) rfl) (s_iload dlaw_1105 rfl) rfl) dlaw_1107 w3_186)) dlaw_1110 rfl) (c_or (p1 := 1126) (pT := 1150) (pF := 1152) (c_lt_ZJ (pT := 1150) (s_of_xI (x_callV (ts := [(0, 2), (1, 0), (2, 0), (3, 0)]) ck11 rfl kX11_saves mokX11_saves w3_238 w3_239 rfl rfl rfl rfl (a_I (ts := [(0, 2), (1, 0), (2, 0)]) 3 (a_I (ts := [(0, 2), (1, 0)]) 2 (a_I (ts := [(0, 2)]) 1 (a_R (ts := []) 0 a_nil (s_aload_n dlaw_1113 rfl rfl) rfl) (s_iload dlaw_1114 rfl) rfl) (s_iload dlaw_1116 rfl) rfl) (s_iload dlaw_1118 rfl) rfl) dlaw_1120 w3_237)) dlaw_1123 rfl) (c_lt_F (pF := 1152) (s_of_xI (x_callV (ts := [(0, 2), (1, 0), (2, 0), (3, 0)]) ck11 rfl kX11_brings mokX11_brings w3_187 w3_188 rfl rfl rfl rfl (a_I (ts := [(0, 2), (1, 0), (2, 0)]) 3 (a_I (ts := [(0, 2), (1, 0)]) 2 (a_I (ts := [(0, 2)]) 1 (a_R (ts := []) 0 a_nil (s_aload_n dlaw_1126 rfl rfl) rfl) (s_iload dlaw_1127 rfl) rfl) (s_iload dlaw_1129 rfl) rfl) (s_iload dlaw_1131 rfl) rfl) dlaw_1133 w3_186)) (s_of_xI (x_callV (ts := [(0, 2), (1, 0), (2, 0)]) ck11 rfl kX11_far mokX11_far w3_0 w3_1 rfl rfl rfl rfl (a_I (ts := [(0, 2), (1, 0)]) 2 (a_I (ts := [(0, 2)]) 1 (a_R (ts := []) 0 a_nil (s_aload_n dlaw_1136 rfl rfl) rfl) (s_dAI (s_aload dlaw_1137 rfl) (s_iload dlaw_1139 rfl) dlaw_1141) rfl) (s_iload dlaw_1142 rfl) rfl) dlaw_1144 w2_239)) dlaw_1147 rfl)))) (t_ret (cv := cvI) (fun _ _ => rfl) (s_iconst dlaw_1150 rfl) dlaw_1151) (t_skip (ld_in rfl) rfl) lda_nil (lda_cons (ld_in rfl) lda_nil))) (t_iinc dlaw_1152 rfl rfl rfl rfl) (lda_cons (ld_in rfl) lda_nil) lda_nil (lda_cons (ld_goto (y := 1032) dlaw_1155 rfl (ld_in rfl)) lda_nil) (ld_in rfl) lda_nil
noncomputable def Llaw_10 : Sm Int32 := dLoop (fun f => (sI (sI (sI (sI (sI (sI (sI (sI (sR (sR (sR (sR (sR (sI (sI (sR (sR (sR (sR (sR (sR (sR (sR (sR (sR fr0 0 (gR f 0)) 1 (gR f 1)) 2 (gR f 2)) 3 (gR f 3)) 4 (gR f 4)) 5 (gR f 5)) 6 (gR f 6)) 7 (gR f 7)) 8 (gR f 8)) 9 (gR f 9)) 10 (gI f 10)) 11 (gI f 11)) 12 (gR f 12)) 13 (gR f 13)) 14 (gR f 14)) 15 (gR f 15)) 16 (gR f 16)) 17 (gI f 17)) 18 (gI f 18)) 19 (gI f 19)) 20 (gI f 20)) 21 (gI f 21)) 22 (gI f 22)) 23 (gI f 23)) 24 (gI f 24))) (dCI r_lt (vI 24) (dAI (vR 4) (cI 2))) (dSeq (dSetI 25 (dCallV 11 DX11_needs (aI (aI (aR aN 0 (vR 1)) 1 (vI 18)) 2 (vI 24)))) (dSeq (dIf (dAnd (dCZ q_gt (dAI (vR 4) (cI 3))) (dCI r_ne (dB (dCZ q_ge (dCallV 11 DX11_four (aI (aI (aR aN 0 (vR 1)) 1 (vI 18)) 2 (vI 24))))) (dB (dCZ q_ge (dCallV 11 DX11_cart (aI (aI (aI (aR aN 0 (vR 1)) 1 (d2 o_isub (d2 o_ishl (cI 1) (dAI (vR 4) (cI 3))) (cI 1))) 2 (vI 18)) 3 (vI 24))))))) (dRet (cI 0)) dSkip) (dSeq (dSetI 26 (cI 0)) (dSeq (dSeq (dSetI 27 (cI 0)) Llaw_9) (dIf (dAnd (dCZ q_gt (dAI (vR 4) (cI 3))) (dCI r_ne (dB (dCZ q_ge (dCallV 11 DX11_cart (aI (aI (aI (aR aN 0 (vR 1)) 1 (d2 o_isub (d2 o_ishl (cI 1) (dAI (vR 4) (cI 3))) (cI 1))) 2 (vI 18)) 3 (vI 24))))) (dB (dAnd (dCZ q_ge (vI 25)) (dCI r_ge (vI 26) (vI 25)))))) (dRet (cI 0)) dSkip))))) (dInc 24 1)
theorem sLlaw_10 {ΓL : Gm} {PB PK : List Nat} : SS (cvoI, .ireturn) milaw ΓL PB PK [(0, 2), (1, 2), (2, 2), (3, 2), (4, 2), (5, 2), (6, 2), (7, 2), (8, 2), (9, 2), (10, 0), (11, 0), (12, 2), (13, 2), (14, 2), (15, 2), (16, 2), (17, 0), (18, 0), (19, 0), (20, 0), (21, 0), (22, 0), (23, 0), (24, 0)] [(0, 2), (1, 2), (2, 2), (3, 2), (4, 2), (5, 2), (6, 2), (7, 2), (8, 2), (9, 2), (10, 0), (11, 0), (12, 2), (13, 2), (14, 2), (15, 2), (16, 2), (17, 0), (18, 0), (19, 0), (20, 0), (21, 0), (22, 0), (23, 0), (24, 0)] 955 [1217] Llaw_10 := t_loop (pT := 964) (pF := 1217) (pu := 1211) (PB' := []) (PK' := []) (XB := [1211]) (XU := [1214]) (fun _ _ => rfl) rfl (c_lt_F (pF := 1217) (s_iload dlaw_955 rfl) (s_dAI (s_aload dlaw_957 rfl) (s_iconst dlaw_959 rfl) dlaw_960) dlaw_961 rfl) (t_sq (p1 := 974) (Γ' := [(0, 2), (1, 2), (2, 2), (3, 2), (4, 2), (5, 2), (6, 2), (7, 2), (8, 2), (9, 2), (10, 0), (11, 0), (12, 2), (13, 2), (14, 2), (15, 2), (16, 2), (17, 0), (18, 0), (19, 0), (20, 0), (21, 0), (22, 0), (23, 0), (24, 0), (25, 0)]) (t_istore (s_of_xI (x_callV (ts := [(0, 2), (1, 0), (2, 0)]) ck11 rfl kX11_needs mokX11_needs w4_2 w4_3 rfl rfl rfl rfl (a_I (ts := [(0, 2), (1, 0)]) 2 (a_I (ts := [(0, 2)]) 1 (a_R (ts := []) 0 a_nil (s_aload_n dlaw_964 rfl rfl) rfl) (s_iload dlaw_965 rfl) rfl) (s_iload dlaw_967 rfl) rfl) dlaw_969 w4_1)) dlaw_972 rfl rfl) (t_sq (p1 := 1026) (Γ' := [(0, 2), (1, 2), (2, 2), (3, 2), (4, 2), (5, 2), (6, 2), (7, 2), (8, 2), (9, 2), (10, 0), (11, 0), (12, 2), (13, 2), (14, 2), (15, 2), (16, 2), (17, 0), (18, 0), (19, 0), (20, 0), (21, 0), (22, 0), (23, 0), (24, 0), (25, 0)]) (t_if (pT := 1024) (pF := 1026) (X := [1026]) (XA := []) (XB := [1026]) (c_and (p1 := 981) (pT := 1024) (pF := 1026) (c_gt_ZF (pF := 1026) (s_dAI (s_aload dlaw_974 rfl) (s_iconst dlaw_976 rfl) dlaw_977) dlaw_978 rfl) (c_ne_F (pF := 1026) (s_B (pT := 992) (pF := 996) (pe := 997) (c_ge_ZF (pF := 996) (s_of_xI (x_callV (ts := [(0, 2), (1, 0), (2, 0)]) ck11 rfl kX11_four mokX11_four w4_34 w4_35 rfl rfl rfl rfl (a_I (ts := [(0, 2), (1, 0)]) 2 (a_I (ts := [(0, 2)]) 1 (a_R (ts := []) 0 a_nil (s_aload_n dlaw_981 rfl rfl) rfl) (s_iload dlaw_982 rfl) rfl) (s_iload dlaw_984 rfl) rfl) dlaw_986 w4_33)) dlaw_989 rfl) dlaw_992 dlaw_993 rfl dlaw_996 rfl) (s_B (pT := 1016) (pF := 1020) (pe := 1021) (c_ge_ZF (pF := 1020) (s_of_xI (x_callV (ts := [(0, 2), (1, 0), (2, 0), (3, 0)]) ck11 rfl kX11_cart mokX11_cart w4_18 w4_19 rfl rfl rfl rfl (a_I (ts := [(0, 2), (1, 0), (2, 0)]) 3 (a_I (ts := [(0, 2), (1, 0)]) 2 (a_I (ts := [(0, 2)]) 1 (a_R (ts := []) 0 a_nil (s_aload_n dlaw_997 rfl rfl) rfl) (s_isub (s_ishl (s_iconst dlaw_998 rfl) (s_dAI (s_aload dlaw_999 rfl) (s_iconst dlaw_1001 rfl) dlaw_1002) dlaw_1003) (s_iconst dlaw_1004 rfl) dlaw_1005) rfl) (s_iload dlaw_1006 rfl) rfl) (s_iload dlaw_1008 rfl) rfl) dlaw_1010 w4_17)) dlaw_1013 rfl) dlaw_1016 dlaw_1017 rfl dlaw_1020 rfl) dlaw_1021 rfl)) (t_ret (cv := cvI) (fun _ _ => rfl) (s_iconst dlaw_1024 rfl) dlaw_1025) (t_skip (ld_in rfl) rfl) lda_nil (lda_cons (ld_in rfl) lda_nil)) (t_sq (p1 := 1029) (Γ' := [(0, 2), (1, 2), (2, 2), (3, 2), (4, 2), (5, 2), (6, 2), (7, 2), (8, 2), (9, 2), (10, 0), (11, 0), (12, 2), (13, 2), (14, 2), (15, 2), (16, 2), (17, 0), (18, 0), (19, 0), (20, 0), (21, 0), (22, 0), (23, 0), (24, 0), (25, 0), (26, 0)]) (t_istore (s_iconst dlaw_1026 rfl) dlaw_1027 rfl rfl) (t_sq (p1 := 1158) (Γ' := [(0, 2), (1, 2), (2, 2), (3, 2), (4, 2), (5, 2), (6, 2), (7, 2), (8, 2), (9, 2), (10, 0), (11, 0), (12, 2), (13, 2), (14, 2), (15, 2), (16, 2), (17, 0), (18, 0), (19, 0), (20, 0), (21, 0), (22, 0), (23, 0), (24, 0), (25, 0), (26, 0)]) (t_sq (p1 := 1032) (Γ' := [(0, 2), (1, 2), (2, 2), (3, 2), (4, 2), (5, 2), (6, 2), (7, 2), (8, 2), (9, 2), (10, 0), (11, 0), (12, 2), (13, 2), (14, 2), (15, 2), (16, 2), (17, 0), (18, 0), (19, 0), (20, 0), (21, 0), (22, 0), (23, 0), (24, 0), (25, 0), (26, 0), (27, 0)]) (t_istore (s_iconst dlaw_1029 rfl) dlaw_1030 rfl rfl) (tn_to (Γ' := [(0, 2), (1, 2), (2, 2), (3, 2), (4, 2), (5, 2), (6, 2), (7, 2), (8, 2), (9, 2), (10, 0), (11, 0), (12, 2), (13, 2), (14, 2), (15, 2), (16, 2), (17, 0), (18, 0), (19, 0), (20, 0), (21, 0), (22, 0), (23, 0), (24, 0), (25, 0), (26, 0), (27, 0)]) (XA := [1158]) sLlaw_9 (lda_cons (ld_in rfl) lda_nil) rfl)) (t_if (pT := 1209) (pF := 1211) (X := [1211]) (XA := []) (XB := [1211]) (c_and (p1 := 1165) (pT := 1209) (pF := 1211) (c_gt_ZF (pF := 1211) (s_dAI (s_aload dlaw_1158 rfl) (s_iconst dlaw_1160 rfl) dlaw_1161) dlaw_1162 rfl) (c_ne_F (pF := 1211) (s_B (pT := 1184) (pF := 1188) (pe := 1189) (c_ge_ZF (pF := 1188) (s_of_xI (x_callV (ts := [(0, 2), (1, 0), (2, 0), (3, 0)]) ck11 rfl kX11_cart mokX11_cart w4_18 w4_19 rfl rfl rfl rfl (a_I (ts := [(0, 2), (1, 0), (2, 0)]) 3 (a_I (ts := [(0, 2), (1, 0)]) 2 (a_I (ts := [(0, 2)]) 1 (a_R (ts := []) 0 a_nil (s_aload_n dlaw_1165 rfl rfl) rfl) (s_isub (s_ishl (s_iconst dlaw_1166 rfl) (s_dAI (s_aload dlaw_1167 rfl) (s_iconst dlaw_1169 rfl) dlaw_1170) dlaw_1171) (s_iconst dlaw_1172 rfl) dlaw_1173) rfl) (s_iload dlaw_1174 rfl) rfl) (s_iload dlaw_1176 rfl) rfl) dlaw_1178 w4_17)) dlaw_1181 rfl) dlaw_1184 dlaw_1185 rfl dlaw_1188 rfl) (s_B (pT := 1201) (pF := 1205) (pe := 1206) (c_and (p1 := 1194) (pT := 1201) (pF := 1205) (c_ge_ZF (pF := 1205) (s_iload dlaw_1189 rfl) dlaw_1191 rfl) (c_ge_F (pF := 1205) (s_iload dlaw_1194 rfl) (s_iload dlaw_1196 rfl) dlaw_1198 rfl)) dlaw_1201 dlaw_1202 rfl dlaw_1205 rfl) dlaw_1206 rfl)) (t_ret (cv := cvI) (fun _ _ => rfl) (s_iconst dlaw_1209 rfl) dlaw_1210) (t_skip (ld_in rfl) rfl) lda_nil (lda_cons (ld_in rfl) lda_nil)))))) (t_iinc dlaw_1211 rfl rfl rfl rfl) (lda_cons (ld_in rfl) lda_nil) lda_nil (lda_cons (ld_goto (y := 955) dlaw_1214 rfl (ld_in rfl)) lda_nil) (ld_in rfl) lda_nil
noncomputable def Llaw_11 : Sm Int32 := dLoop (fun f => (sI (sI (sI (sI (sI (sI (sI (sI (sI (sI (sR (sR (sR (sR (sR (sI (sI (sR (sR (sR (sR (sR (sR (sR (sR (sR (sR fr0 0 (gR f 0)) 1 (gR f 1)) 2 (gR f 2)) 3 (gR f 3)) 4 (gR f 4)) 5 (gR f 5)) 6 (gR f 6)) 7 (gR f 7)) 8 (gR f 8)) 9 (gR f 9)) 10 (gI f 10)) 11 (gI f 11)) 12 (gR f 12)) 13 (gR f 13)) 14 (gR f 14)) 15 (gR f 15)) 16 (gR f 16)) 17 (gI f 17)) 18 (gI f 18)) 19 (gI f 19)) 20 (gI f 20)) 21 (gI f 21)) 22 (gI f 22)) 23 (gI f 23)) 24 (gI f 24)) 25 (gI f 25)) 26 (gI f 26))) (dCI r_lt (vI 26) (cI 4)) (dSeq (d3 (stI 13 idI) (vR 4) (cI 7) (d2 o_ior (d2 o_ishl (d2z o_irem (vI 26) (cI 2)) (vI 24)) (d2 o_ishl (d2z o_idiv (vI 26) (cI 2)) (vI 25)))) (dSeq (dDo (dCall DL_run (aR (aR (aR (aR (aR (aR (aR (aR (aR (aR (aR aN 0 (vR 4)) 1 (vR 5)) 2 (vR 6)) 3 (vR 7)) 4 (vR 8)) 5 (vR 9)) 6 (vR 12)) 7 (vR 13)) 8 (vR 14)) 9 (vR 15)) 10 (vR 16)))) (dIf (dCI r_ne (dCallV 11 DX11_gets (aI (aI (aI (aI (aI (aR aN 0 (vR 1)) 1 (vI 18)) 2 (vI 24)) 3 (vI 25)) 4 (d2z o_irem (vI 26) (cI 2))) 5 (d2z o_idiv (vI 26) (cI 2)))) (d2 o_iadd (dCall DL_size (aI aN 0 (dCall DL_knows (aI (aL aN 0 (dAL (vR 14) (d2 o_iadd (d2 o_imul (cI 3) (vI 10)) (vI 18)))) 2 (vI 24))))) (d2 o_imul (cI 2) (d2z o_irem (vI 26) (cI 2))))) (dRet (cI 0)) dSkip))) (dInc 26 1)
theorem sLlaw_11 {ΓL : Gm} {PB PK : List Nat} : SS (cvoI, .ireturn) milaw ΓL PB PK [(0, 2), (1, 2), (2, 2), (3, 2), (4, 2), (5, 2), (6, 2), (7, 2), (8, 2), (9, 2), (10, 0), (11, 0), (12, 2), (13, 2), (14, 2), (15, 2), (16, 2), (17, 0), (18, 0), (19, 0), (20, 0), (21, 0), (22, 0), (23, 0), (24, 0), (25, 0), (26, 0)] [(0, 2), (1, 2), (2, 2), (3, 2), (4, 2), (5, 2), (6, 2), (7, 2), (8, 2), (9, 2), (10, 0), (11, 0), (12, 2), (13, 2), (14, 2), (15, 2), (16, 2), (17, 0), (18, 0), (19, 0), (20, 0), (21, 0), (22, 0), (23, 0), (24, 0), (25, 0), (26, 0)] 1251 [1356] Llaw_11 := t_loop (pT := 1257) (pF := 1356) (pu := 1350) (PB' := []) (PK' := []) (XB := [1350]) (XU := [1353]) (fun _ _ => rfl) rfl (c_lt_F (pF := 1356) (s_iload dlaw_1251 rfl) (s_iconst dlaw_1253 rfl) dlaw_1254 rfl) (t_sq (p1 := 1277) (Γ' := [(0, 2), (1, 2), (2, 2), (3, 2), (4, 2), (5, 2), (6, 2), (7, 2), (8, 2), (9, 2), (10, 0), (11, 0), (12, 2), (13, 2), (14, 2), (15, 2), (16, 2), (17, 0), (18, 0), (19, 0), (20, 0), (21, 0), (22, 0), (23, 0), (24, 0), (25, 0), (26, 0)]) (t_stI (s_aload dlaw_1257 rfl) (s_bipush dlaw_1259 rfl) (s_ior (s_ishl (s_irem (s_iload dlaw_1261 rfl) (s_iconst dlaw_1263 rfl) dlaw_1264) (s_iload dlaw_1265 rfl) dlaw_1267) (s_ishl (s_idiv (s_iload dlaw_1268 rfl) (s_iconst dlaw_1270 rfl) dlaw_1271) (s_iload dlaw_1272 rfl) dlaw_1274) dlaw_1275) dlaw_1276 rfl) (t_sq (p1 := 1302) (Γ' := [(0, 2), (1, 2), (2, 2), (3, 2), (4, 2), (5, 2), (6, 2), (7, 2), (8, 2), (9, 2), (10, 0), (11, 0), (12, 2), (13, 2), (14, 2), (15, 2), (16, 2), (17, 0), (18, 0), (19, 0), (20, 0), (21, 0), (22, 0), (23, 0), (24, 0), (25, 0), (26, 0)]) (t_do (x_call (ts := [(0, 2), (1, 2), (2, 2), (3, 2), (4, 2), (5, 2), (6, 2), (7, 2), (8, 2), (9, 2), (10, 2)]) kL_run mokL_run w4_231 rfl rfl rfl (a_R (ts := [(0, 2), (1, 2), (2, 2), (3, 2), (4, 2), (5, 2), (6, 2), (7, 2), (8, 2), (9, 2)]) 10 (a_R (ts := [(0, 2), (1, 2), (2, 2), (3, 2), (4, 2), (5, 2), (6, 2), (7, 2), (8, 2)]) 9 (a_R (ts := [(0, 2), (1, 2), (2, 2), (3, 2), (4, 2), (5, 2), (6, 2), (7, 2)]) 8 (a_R (ts := [(0, 2), (1, 2), (2, 2), (3, 2), (4, 2), (5, 2), (6, 2)]) 7 (a_R (ts := [(0, 2), (1, 2), (2, 2), (3, 2), (4, 2), (5, 2)]) 6 (a_R (ts := [(0, 2), (1, 2), (2, 2), (3, 2), (4, 2)]) 5 (a_R (ts := [(0, 2), (1, 2), (2, 2), (3, 2)]) 4 (a_R (ts := [(0, 2), (1, 2), (2, 2)]) 3 (a_R (ts := [(0, 2), (1, 2)]) 2 (a_R (ts := [(0, 2)]) 1 (a_R (ts := []) 0 a_nil (s_aload dlaw_1277 rfl) rfl) (s_aload dlaw_1279 rfl) rfl) (s_aload dlaw_1281 rfl) rfl) (s_aload dlaw_1283 rfl) rfl) (s_aload dlaw_1285 rfl) rfl) (s_aload dlaw_1287 rfl) rfl) (s_aload dlaw_1289 rfl) rfl) (s_aload dlaw_1291 rfl) rfl) (s_aload dlaw_1293 rfl) rfl) (s_aload dlaw_1295 rfl) rfl) (s_aload dlaw_1297 rfl) rfl) dlaw_1299 w4_230) rfl) (t_if (pT := 1348) (pF := 1350) (X := [1350]) (XA := []) (XB := [1350]) (c_ne_F (pF := 1350) (s_of_xI (x_callV (ts := [(0, 2), (1, 0), (2, 0), (3, 0), (4, 0), (5, 0)]) ck11 rfl kX11_gets mokX11_gets w4_89 w4_90 rfl rfl rfl rfl (a_I (ts := [(0, 2), (1, 0), (2, 0), (3, 0), (4, 0)]) 5 (a_I (ts := [(0, 2), (1, 0), (2, 0), (3, 0)]) 4 (a_I (ts := [(0, 2), (1, 0), (2, 0)]) 3 (a_I (ts := [(0, 2), (1, 0)]) 2 (a_I (ts := [(0, 2)]) 1 (a_R (ts := []) 0 a_nil (s_aload_n dlaw_1302 rfl rfl) rfl) (s_iload dlaw_1303 rfl) rfl) (s_iload dlaw_1305 rfl) rfl) (s_iload dlaw_1307 rfl) rfl) (s_irem (s_iload dlaw_1309 rfl) (s_iconst dlaw_1311 rfl) dlaw_1312) rfl) (s_idiv (s_iload dlaw_1313 rfl) (s_iconst dlaw_1315 rfl) dlaw_1316) rfl) dlaw_1317 w4_88)) (s_iadd (s_of_xI (x_call (ts := [(0, 0)]) kL_size mokL_size w4_228 rfl rfl rfl (a_I (ts := []) 0 a_nil (s_of_xI (x_call (ts := [(0, 1), (2, 0)]) kL_knows mokL_knows w5_12 rfl rfl rfl (a_I (ts := [(0, 1)]) 2 (a_L (ts := []) 0 a_nil (s_dAL (s_aload dlaw_1320 rfl) (s_iadd (s_imul (s_iconst dlaw_1322 rfl) (s_iload dlaw_1323 rfl) dlaw_1325) (s_iload dlaw_1326 rfl) dlaw_1328) dlaw_1329) rfl) (s_iload dlaw_1330 rfl) rfl) dlaw_1332 w5_11)) rfl) dlaw_1335 w4_227)) (s_imul (s_iconst dlaw_1338 rfl) (s_irem (s_iload dlaw_1339 rfl) (s_iconst dlaw_1341 rfl) dlaw_1342) dlaw_1343) dlaw_1344) dlaw_1345 rfl) (t_ret (cv := cvI) (fun _ _ => rfl) (s_iconst dlaw_1348 rfl) dlaw_1349) (t_skip (ld_in rfl) rfl) lda_nil (lda_cons (ld_in rfl) lda_nil)))) (t_iinc dlaw_1350 rfl rfl rfl rfl) (lda_cons (ld_in rfl) lda_nil) lda_nil (lda_cons (ld_goto (y := 1251) dlaw_1353 rfl (ld_in rfl)) lda_nil) (ld_in rfl) lda_nil
noncomputable def Llaw_12 : Sm Int32 := dLoop (fun f => (sI (sI (sR (sR (sR (sR (sR (sI (sI (sR (sR (sR (sR (sR (sR (sR (sR (sR (sR fr0 0 (gR f 0)) 1 (gR f 1)) 2 (gR f 2)) 3 (gR f 3)) 4 (gR f 4)) 5 (gR f 5)) 6 (gR f 6)) 7 (gR f 7)) 8 (gR f 8)) 9 (gR f 9)) 10 (gI f 10)) 11 (gI f 11)) 12 (gR f 12)) 13 (gR f 13)) 14 (gR f 14)) 15 (gR f 15)) 16 (gR f 16)) 17 (gI f 17)) 18 (gI f 18))) (dCI r_lt (vI 18) (vI 11)) (dSeq (dSetI 19 (dAI (vR 4) (cI 1))) (dSeq (dSeq (dSetI 20 (cI 0)) Llaw_7) (dSeq (d3 (stI 13 idI) (vR 4) (cI 1) (vI 19)) (dSeq (dSetI 20 (dCall DL_draw (aI (aI (aR aN 0 (vR 0)) 1 (cI 59)) 2 (d2 o_iadd (vI 10) (cI 1))))) (dSeq (dDo (dCall DL_run (aR (aR (aR (aR (aR (aR (aR (aR (aR (aR (aR aN 0 (vR 4)) 1 (vR 5)) 2 (vR 6)) 3 (vR 7)) 4 (vR 8)) 5 (vR 9)) 6 (vR 12)) 7 (vR 13)) 8 (vR 14)) 9 (vR 15)) 10 (vR 16)))) (dSeq (dSetI 21 (dCall DL_lies (aI (aI aN 0 (dAI (vR 13) (vI 20))) 1 (vI 18)))) (dSeq (dSetI 22 (dAI (vR 9) (vI 18))) (dSeq (dSetI 23 (cI 0)) (dSeq (dSeq (dSetI 24 (cI 0)) Llaw_8) (dSeq (d3 (stI 13 idI) (vR 9) (vI 18) (vI 22)) (dSeq (dIf (dOr (dOr (dOr (dCZ q_ne (dCallV 11 DX11_row (aI (aI (aI (aR aN 0 (vR 1)) 1 (cI 0)) 2 (cI 0)) 3 (cI 2)))) (dCZ q_ne (dCallV 11 DX11_write (aL (aI (aI (aR aN 0 (vR 1)) 1 (cI 0)) 2 (cI 0)) 3 (d1 o_i2l (vI 20)))))) (dCZ q_ne (dCallV 11 DX11_write (aL (aI (aI (aR aN 0 (vR 1)) 1 (cI 0)) 2 (cI 1)) 3 (d1 o_i2l (vI 21)))))) (dCI r_ne (dCallV 11 DX11_firsts (aI (aI (aR aN 0 (vR 1)) 1 (cI 0)) 2 (vI 18))) (vI 23))) (dRet (cI 0)) dSkip) (dSeq (dSeq (dSetI 24 (cI 0)) Llaw_10) (dIf (dCI r_gt (dAI (vR 4) (cI 2)) (cI 1)) (dSeq (dSetI 24 (dCall DL_draw (aI (aI (aR aN 0 (vR 0)) 1 (cI 60)) 2 (dAI (vR 4) (cI 2))))) (dSeq (dSetI 25 (d2z o_irem (d2 o_iadd (vI 24) (cI 1)) (dAI (vR 4) (cI 2)))) (dSeq (dSeq (dSetI 26 (cI 0)) Llaw_11) (d3 (stI 13 idI) (vR 4) (cI 7) (cI 0))))) dSkip))))))))))))) (dInc 18 1)
theorem sLlaw_12 {ΓL : Gm} {PB PK : List Nat} : SS (cvoI, .ireturn) milaw ΓL PB PK [(0, 2), (1, 2), (2, 2), (3, 2), (4, 2), (5, 2), (6, 2), (7, 2), (8, 2), (9, 2), (10, 0), (11, 0), (12, 2), (13, 2), (14, 2), (15, 2), (16, 2), (17, 0), (18, 0)] [(0, 2), (1, 2), (2, 2), (3, 2), (4, 2), (5, 2), (6, 2), (7, 2), (8, 2), (9, 2), (10, 0), (11, 0), (12, 2), (13, 2), (14, 2), (15, 2), (16, 2), (17, 0), (18, 0)] 667 [1368] Llaw_12 := t_loop (pT := 674) (pF := 1368) (pu := 1362) (PB' := []) (PK' := []) (XB := [1362]) (XU := [1365]) (fun _ _ => rfl) rfl (c_lt_F (pF := 1368) (s_iload dlaw_667 rfl) (s_iload dlaw_669 rfl) dlaw_671 rfl) (t_sq (p1 := 680) (Γ' := [(0, 2), (1, 2), (2, 2), (3, 2), (4, 2), (5, 2), (6, 2), (7, 2), (8, 2), (9, 2), (10, 0), (11, 0), (12, 2), (13, 2), (14, 2), (15, 2), (16, 2), (17, 0), (18, 0), (19, 0)]) (t_istore (s_dAI (s_aload dlaw_674 rfl) (s_iconst dlaw_676 rfl) dlaw_677) dlaw_678 rfl rfl) (t_sq (p1 := 754) (Γ' := [(0, 2), (1, 2), (2, 2), (3, 2), (4, 2), (5, 2), (6, 2), (7, 2), (8, 2), (9, 2), (10, 0), (11, 0), (12, 2), (13, 2), (14, 2), (15, 2), (16, 2), (17, 0), (18, 0), (19, 0)]) (t_sq (p1 := 683) (Γ' := [(0, 2), (1, 2), (2, 2), (3, 2), (4, 2), (5, 2), (6, 2), (7, 2), (8, 2), (9, 2), (10, 0), (11, 0), (12, 2), (13, 2), (14, 2), (15, 2), (16, 2), (17, 0), (18, 0), (19, 0), (20, 0)]) (t_istore (s_iconst dlaw_680 rfl) dlaw_681 rfl rfl) (tn_to (Γ' := [(0, 2), (1, 2), (2, 2), (3, 2), (4, 2), (5, 2), (6, 2), (7, 2), (8, 2), (9, 2), (10, 0), (11, 0), (12, 2), (13, 2), (14, 2), (15, 2), (16, 2), (17, 0), (18, 0), (19, 0), (20, 0)]) (XA := [754]) sLlaw_7 (lda_cons (ld_in rfl) lda_nil) rfl)) (t_sq (p1 := 760) (Γ' := [(0, 2), (1, 2), (2, 2), (3, 2), (4, 2), (5, 2), (6, 2), (7, 2), (8, 2), (9, 2), (10, 0), (11, 0), (12, 2), (13, 2), (14, 2), (15, 2), (16, 2), (17, 0), (18, 0), (19, 0)]) (t_stI (s_aload dlaw_754 rfl) (s_iconst dlaw_756 rfl) (s_iload dlaw_757 rfl) dlaw_759 rfl) (t_sq (p1 := 772) (Γ' := [(0, 2), (1, 2), (2, 2), (3, 2), (4, 2), (5, 2), (6, 2), (7, 2), (8, 2), (9, 2), (10, 0), (11, 0), (12, 2), (13, 2), (14, 2), (15, 2), (16, 2), (17, 0), (18, 0), (19, 0), (20, 0)]) (t_istore (s_of_xI (x_call (ts := [(0, 2), (1, 0), (2, 0)]) kL_draw mokL_draw w5_22 rfl rfl rfl (a_I (ts := [(0, 2), (1, 0)]) 2 (a_I (ts := [(0, 2)]) 1 (a_R (ts := []) 0 a_nil (s_aload_n dlaw_760 rfl rfl) rfl) (s_bipush dlaw_761 rfl) rfl) (s_iadd (s_iload dlaw_763 rfl) (s_iconst dlaw_765 rfl) dlaw_766) rfl) dlaw_767 w5_21)) dlaw_770 rfl rfl) (t_sq (p1 := 797) (Γ' := [(0, 2), (1, 2), (2, 2), (3, 2), (4, 2), (5, 2), (6, 2), (7, 2), (8, 2), (9, 2), (10, 0), (11, 0), (12, 2), (13, 2), (14, 2), (15, 2), (16, 2), (17, 0), (18, 0), (19, 0), (20, 0)]) (t_do (x_call (ts := [(0, 2), (1, 2), (2, 2), (3, 2), (4, 2), (5, 2), (6, 2), (7, 2), (8, 2), (9, 2), (10, 2)]) kL_run mokL_run w4_231 rfl rfl rfl (a_R (ts := [(0, 2), (1, 2), (2, 2), (3, 2), (4, 2), (5, 2), (6, 2), (7, 2), (8, 2), (9, 2)]) 10 (a_R (ts := [(0, 2), (1, 2), (2, 2), (3, 2), (4, 2), (5, 2), (6, 2), (7, 2), (8, 2)]) 9 (a_R (ts := [(0, 2), (1, 2), (2, 2), (3, 2), (4, 2), (5, 2), (6, 2), (7, 2)]) 8 (a_R (ts := [(0, 2), (1, 2), (2, 2), (3, 2), (4, 2), (5, 2), (6, 2)]) 7 (a_R (ts := [(0, 2), (1, 2), (2, 2), (3, 2), (4, 2), (5, 2)]) 6 (a_R (ts := [(0, 2), (1, 2), (2, 2), (3, 2), (4, 2)]) 5 (a_R (ts := [(0, 2), (1, 2), (2, 2), (3, 2)]) 4 (a_R (ts := [(0, 2), (1, 2), (2, 2)]) 3 (a_R (ts := [(0, 2), (1, 2)]) 2 (a_R (ts := [(0, 2)]) 1 (a_R (ts := []) 0 a_nil (s_aload dlaw_772 rfl) rfl) (s_aload dlaw_774 rfl) rfl) (s_aload dlaw_776 rfl) rfl) (s_aload dlaw_778 rfl) rfl) (s_aload dlaw_780 rfl) rfl) (s_aload dlaw_782 rfl) rfl) (s_aload dlaw_784 rfl) rfl) (s_aload dlaw_786 rfl) rfl) (s_aload dlaw_788 rfl) rfl) (s_aload dlaw_790 rfl) rfl) (s_aload dlaw_792 rfl) rfl) dlaw_794 w4_230) rfl) (t_sq (p1 := 809) (Γ' := [(0, 2), (1, 2), (2, 2), (3, 2), (4, 2), (5, 2), (6, 2), (7, 2), (8, 2), (9, 2), (10, 0), (11, 0), (12, 2), (13, 2), (14, 2), (15, 2), (16, 2), (17, 0), (18, 0), (19, 0), (20, 0), (21, 0)]) (t_istore (s_of_xI (x_call (ts := [(0, 0), (1, 0)]) kL_lies mokL_lies w5_6 rfl rfl rfl (a_I (ts := [(0, 0)]) 1 (a_I (ts := []) 0 a_nil (s_dAI (s_aload dlaw_797 rfl) (s_iload dlaw_799 rfl) dlaw_801) rfl) (s_iload dlaw_802 rfl) rfl) dlaw_804 w5_5)) dlaw_807 rfl rfl) (t_sq (p1 := 816) (Γ' := [(0, 2), (1, 2), (2, 2), (3, 2), (4, 2), (5, 2), (6, 2), (7, 2), (8, 2), (9, 2), (10, 0), (11, 0), (12, 2), (13, 2), (14, 2), (15, 2), (16, 2), (17, 0), (18, 0), (19, 0), (20, 0), (21, 0), (22, 0)]) (t_istore (s_dAI (s_aload dlaw_809 rfl) (s_iload dlaw_811 rfl) dlaw_813) dlaw_814 rfl rfl) (t_sq (p1 := 819) (Γ' := [(0, 2), (1, 2), (2, 2), (3, 2), (4, 2), (5, 2), (6, 2), (7, 2), (8, 2), (9, 2), (10, 0), (11, 0), (12, 2), (13, 2), (14, 2), (15, 2), (16, 2), (17, 0), (18, 0), (19, 0), (20, 0), (21, 0), (22, 0), (23, 0)]) (t_istore (s_iconst dlaw_816 rfl) dlaw_817 rfl rfl) (t_sq (p1 := 897) (Γ' := [(0, 2), (1, 2), (2, 2), (3, 2), (4, 2), (5, 2), (6, 2), (7, 2), (8, 2), (9, 2), (10, 0), (11, 0), (12, 2), (13, 2), (14, 2), (15, 2), (16, 2), (17, 0), (18, 0), (19, 0), (20, 0), (21, 0), (22, 0), (23, 0)]) (t_sq (p1 := 822) (Γ' := [(0, 2), (1, 2), (2, 2), (3, 2), (4, 2), (5, 2), (6, 2), (7, 2), (8, 2), (9, 2), (10, 0), (11, 0), (12, 2), (13, 2), (14, 2), (15, 2), (16, 2), (17, 0), (18, 0), (19, 0), (20, 0), (21, 0), (22, 0), (23, 0), (24, 0)]) (t_istore (s_iconst dlaw_819 rfl) dlaw_820 rfl rfl) (tn_to (Γ' := [(0, 2), (1, 2), (2, 2), (3, 2), (4, 2), (5, 2), (6, 2), (7, 2), (8, 2), (9, 2), (10, 0), (11, 0), (12, 2), (13, 2), (14, 2), (15, 2), (16, 2), (17, 0), (18, 0), (19, 0), (20, 0), (21, 0), (22, 0), (23, 0), (24, 0)]) (XA := [897]) sLlaw_8 (lda_cons (ld_in rfl) lda_nil) rfl)) (t_sq (p1 := 904) (Γ' := [(0, 2), (1, 2), (2, 2), (3, 2), (4, 2), (5, 2), (6, 2), (7, 2), (8, 2), (9, 2), (10, 0), (11, 0), (12, 2), (13, 2), (14, 2), (15, 2), (16, 2), (17, 0), (18, 0), (19, 0), (20, 0), (21, 0), (22, 0), (23, 0)]) (t_stI (s_aload dlaw_897 rfl) (s_iload dlaw_899 rfl) (s_iload dlaw_901 rfl) dlaw_903 rfl) (t_sq (p1 := 952) (Γ' := [(0, 2), (1, 2), (2, 2), (3, 2), (4, 2), (5, 2), (6, 2), (7, 2), (8, 2), (9, 2), (10, 0), (11, 0), (12, 2), (13, 2), (14, 2), (15, 2), (16, 2), (17, 0), (18, 0), (19, 0), (20, 0), (21, 0), (22, 0), (23, 0)]) (t_if (pT := 950) (pF := 952) (X := [952]) (XA := []) (XB := [952]) (c_or (p1 := 938) (pT := 950) (pF := 952) (c_or (p1 := 926) (pT := 950) (pF := 938) (c_or (p1 := 914) (pT := 950) (pF := 926) (c_ne_ZJ (pT := 950) (s_of_xI (x_callV (ts := [(0, 2), (1, 0), (2, 0), (3, 0)]) ck11 rfl kX11_row mokX11_row w4_205 w4_206 rfl rfl rfl rfl (a_I (ts := [(0, 2), (1, 0), (2, 0)]) 3 (a_I (ts := [(0, 2), (1, 0)]) 2 (a_I (ts := [(0, 2)]) 1 (a_R (ts := []) 0 a_nil (s_aload_n dlaw_904 rfl rfl) rfl) (s_iconst dlaw_905 rfl) rfl) (s_iconst dlaw_906 rfl) rfl) (s_iconst dlaw_907 rfl) rfl) dlaw_908 w4_204)) dlaw_911 rfl) (c_ne_ZJ (pT := 950) (s_of_xI (x_callV (ts := [(0, 2), (1, 0), (2, 0), (3, 1)]) ck11 rfl kX11_write mokX11_write w4_223 w4_224 rfl rfl rfl rfl (a_L (ts := [(0, 2), (1, 0), (2, 0)]) 3 (a_I (ts := [(0, 2), (1, 0)]) 2 (a_I (ts := [(0, 2)]) 1 (a_R (ts := []) 0 a_nil (s_aload_n dlaw_914 rfl rfl) rfl) (s_iconst dlaw_915 rfl) rfl) (s_iconst dlaw_916 rfl) rfl) (s_i2l (s_iload dlaw_917 rfl) dlaw_919) rfl) dlaw_920 w4_222)) dlaw_923 rfl)) (c_ne_ZJ (pT := 950) (s_of_xI (x_callV (ts := [(0, 2), (1, 0), (2, 0), (3, 1)]) ck11 rfl kX11_write mokX11_write w4_223 w4_224 rfl rfl rfl rfl (a_L (ts := [(0, 2), (1, 0), (2, 0)]) 3 (a_I (ts := [(0, 2), (1, 0)]) 2 (a_I (ts := [(0, 2)]) 1 (a_R (ts := []) 0 a_nil (s_aload_n dlaw_926 rfl rfl) rfl) (s_iconst dlaw_927 rfl) rfl) (s_iconst dlaw_928 rfl) rfl) (s_i2l (s_iload dlaw_929 rfl) dlaw_931) rfl) dlaw_932 w4_222)) dlaw_935 rfl)) (c_ne_F (pF := 952) (s_of_xI (x_callV (ts := [(0, 2), (1, 0), (2, 0)]) ck11 rfl kX11_firsts mokX11_firsts w4_51 w4_52 rfl rfl rfl rfl (a_I (ts := [(0, 2), (1, 0)]) 2 (a_I (ts := [(0, 2)]) 1 (a_R (ts := []) 0 a_nil (s_aload_n dlaw_938 rfl rfl) rfl) (s_iconst dlaw_939 rfl) rfl) (s_iload dlaw_940 rfl) rfl) dlaw_942 w4_50)) (s_iload dlaw_945 rfl) dlaw_947 rfl)) (t_ret (cv := cvI) (fun _ _ => rfl) (s_iconst dlaw_950 rfl) dlaw_951) (t_skip (ld_in rfl) rfl) lda_nil (lda_cons (ld_in rfl) lda_nil)) (t_sq (p1 := 1217) (Γ' := [(0, 2), (1, 2), (2, 2), (3, 2), (4, 2), (5, 2), (6, 2), (7, 2), (8, 2), (9, 2), (10, 0), (11, 0), (12, 2), (13, 2), (14, 2), (15, 2), (16, 2), (17, 0), (18, 0), (19, 0), (20, 0), (21, 0), (22, 0), (23, 0)]) (t_sq (p1 := 955) (Γ' := [(0, 2), (1, 2), (2, 2), (3, 2), (4, 2), (5, 2), (6, 2), (7, 2), (8, 2), (9, 2), (10, 0), (11, 0), (12, 2), (13, 2), (14, 2), (15, 2), (16, 2), (17, 0), (18, 0), (19, 0), (20, 0), (21, 0), (22, 0), (23, 0), (24, 0)]) (t_istore (s_iconst dlaw_952 rfl) dlaw_953 rfl rfl) (tn_to (Γ' := [(0, 2), (1, 2), (2, 2), (3, 2), (4, 2), (5, 2), (6, 2), (7, 2), (8, 2), (9, 2), (10, 0), (11, 0), (12, 2), (13, 2), (14, 2), (15, 2), (16, 2), (17, 0), (18, 0), (19, 0), (20, 0), (21, 0), (22, 0), (23, 0), (24, 0)]) (XA := [1217]) sLlaw_10 (lda_cons (ld_in rfl) lda_nil) rfl)) (t_if (pT := 1225) (pF := 1362) (X := [1362]) (XA := [1362]) (XB := [1362]) (c_gt_F (pF := 1362) (s_dAI (s_aload dlaw_1217 rfl) (s_iconst dlaw_1219 rfl) dlaw_1220) (s_iconst dlaw_1221 rfl) dlaw_1222 rfl) (t_sq (p1 := 1237) (Γ' := [(0, 2), (1, 2), (2, 2), (3, 2), (4, 2), (5, 2), (6, 2), (7, 2), (8, 2), (9, 2), (10, 0), (11, 0), (12, 2), (13, 2), (14, 2), (15, 2), (16, 2), (17, 0), (18, 0), (19, 0), (20, 0), (21, 0), (22, 0), (23, 0), (24, 0)]) (t_istore (s_of_xI (x_call (ts := [(0, 2), (1, 0), (2, 0)]) kL_draw mokL_draw w5_22 rfl rfl rfl (a_I (ts := [(0, 2), (1, 0)]) 2 (a_I (ts := [(0, 2)]) 1 (a_R (ts := []) 0 a_nil (s_aload_n dlaw_1225 rfl rfl) rfl) (s_bipush dlaw_1226 rfl) rfl) (s_dAI (s_aload dlaw_1228 rfl) (s_iconst dlaw_1230 rfl) dlaw_1231) rfl) dlaw_1232 w5_21)) dlaw_1235 rfl rfl) (t_sq (p1 := 1248) (Γ' := [(0, 2), (1, 2), (2, 2), (3, 2), (4, 2), (5, 2), (6, 2), (7, 2), (8, 2), (9, 2), (10, 0), (11, 0), (12, 2), (13, 2), (14, 2), (15, 2), (16, 2), (17, 0), (18, 0), (19, 0), (20, 0), (21, 0), (22, 0), (23, 0), (24, 0), (25, 0)]) (t_istore (s_irem (s_iadd (s_iload dlaw_1237 rfl) (s_iconst dlaw_1239 rfl) dlaw_1240) (s_dAI (s_aload dlaw_1241 rfl) (s_iconst dlaw_1243 rfl) dlaw_1244) dlaw_1245) dlaw_1246 rfl rfl) (t_sq (p1 := 1356) (Γ' := [(0, 2), (1, 2), (2, 2), (3, 2), (4, 2), (5, 2), (6, 2), (7, 2), (8, 2), (9, 2), (10, 0), (11, 0), (12, 2), (13, 2), (14, 2), (15, 2), (16, 2), (17, 0), (18, 0), (19, 0), (20, 0), (21, 0), (22, 0), (23, 0), (24, 0), (25, 0)]) (t_sq (p1 := 1251) (Γ' := [(0, 2), (1, 2), (2, 2), (3, 2), (4, 2), (5, 2), (6, 2), (7, 2), (8, 2), (9, 2), (10, 0), (11, 0), (12, 2), (13, 2), (14, 2), (15, 2), (16, 2), (17, 0), (18, 0), (19, 0), (20, 0), (21, 0), (22, 0), (23, 0), (24, 0), (25, 0), (26, 0)]) (t_istore (s_iconst dlaw_1248 rfl) dlaw_1249 rfl rfl) (tn_to (Γ' := [(0, 2), (1, 2), (2, 2), (3, 2), (4, 2), (5, 2), (6, 2), (7, 2), (8, 2), (9, 2), (10, 0), (11, 0), (12, 2), (13, 2), (14, 2), (15, 2), (16, 2), (17, 0), (18, 0), (19, 0), (20, 0), (21, 0), (22, 0), (23, 0), (24, 0), (25, 0), (26, 0)]) (XA := [1356]) sLlaw_11 (lda_cons (ld_in rfl) lda_nil) rfl)) (t_stI (s_aload dlaw_1356 rfl) (s_bipush dlaw_1358 rfl) (s_iconst dlaw_1360 rfl) dlaw_1361 rfl)))) (t_skip (ld_in rfl) rfl) (lda_cons (ld_in rfl) lda_nil) (lda_cons (ld_in rfl) lda_nil)))))))))))))) (t_iinc dlaw_1362 rfl rfl rfl rfl) (lda_cons (ld_in rfl) lda_nil) lda_nil (lda_cons (ld_goto (y := 667) dlaw_1365 rfl (ld_in rfl)) lda_nil) (ld_in rfl) lda_nil
noncomputable def Llaw_13 : Sm Int32 := dLoop (fun f => (sI (sI (sL (sI (sR (sR (sR (sR (sR (sI (sI (sR (sR (sR (sR (sR (sR (sR (sR (sR (sR fr0 0 (gR f 0)) 1 (gR f 1)) 2 (gR f 2)) 3 (gR f 3)) 4 (gR f 4)) 5 (gR f 5)) 6 (gR f 6)) 7 (gR f 7)) 8 (gR f 8)) 9 (gR f 9)) 10 (gI f 10)) 11 (gI f 11)) 12 (gR f 12)) 13 (gR f 13)) 14 (gR f 14)) 15 (gR f 15)) 16 (gR f 16)) 17 (gI f 17)) 18 (gL f 18)) 20 (gI f 20)) 21 (gI f 21))) (dCI r_lt (vI 21) (vI 10)) (dSeq (dSetL 18 (d2z o_lrem (d2 o_ladd (d2 o_lmul (cL 1103515245) (vL 18)) (cL 12345)) (cL 2147483648))) (dIf (dCZ q_lt (d2 o_lcmp (d2z o_lrem (d2z o_ldiv (vL 18) (cL 65536)) (cL 10)) (d1 o_i2l (dAI (vR 3) (cI 0))))) (dUA o_ior (vR 4) (cI 6) (d2 o_ishl (cI 1) (vI 21))) dSkip)) (dInc 21 1)
theorem sLlaw_13 {ΓL : Gm} {PB PK : List Nat} : SS (cvoI, .ireturn) milaw ΓL PB PK [(0, 2), (1, 2), (2, 2), (3, 2), (4, 2), (5, 2), (6, 2), (7, 2), (8, 2), (9, 2), (10, 0), (11, 0), (12, 2), (13, 2), (14, 2), (15, 2), (16, 2), (17, 0), (18, 1), (20, 0), (21, 0)] [(0, 2), (1, 2), (2, 2), (3, 2), (4, 2), (5, 2), (6, 2), (7, 2), (8, 2), (9, 2), (10, 0), (11, 0), (12, 2), (13, 2), (14, 2), (15, 2), (16, 2), (17, 0), (18, 1), (20, 0), (21, 0)] 1388 [1447] Llaw_13 := t_loop (pT := 1395) (pF := 1447) (pu := 1441) (PB' := []) (PK' := []) (XB := [1441]) (XU := [1444]) (fun _ _ => rfl) rfl (c_lt_F (pF := 1447) (s_iload dlaw_1388 rfl) (s_iload dlaw_1390 rfl) dlaw_1392 rfl) (t_sq (p1 := 1411) (Γ' := [(0, 2), (1, 2), (2, 2), (3, 2), (4, 2), (5, 2), (6, 2), (7, 2), (8, 2), (9, 2), (10, 0), (11, 0), (12, 2), (13, 2), (14, 2), (15, 2), (16, 2), (17, 0), (18, 1), (20, 0), (21, 0)]) (t_lstore (s_lrem (s_ladd (s_lmul (s_ldc2 dlaw_1395 w6_4) (s_lload dlaw_1398 rfl) dlaw_1400) (s_ldc2 dlaw_1401 w6_5) dlaw_1404) (s_ldc2 dlaw_1405 w6_6) dlaw_1408) dlaw_1409 rfl rfl) (t_if (pT := 1429) (pF := 1441) (X := [1441]) (XA := [1441]) (XB := [1441]) (c_lt_ZF (pF := 1441) (s_lcmp (s_lrem (s_ldiv (s_lload dlaw_1411 rfl) (s_ldc2 dlaw_1413 w6_7) dlaw_1416) (s_ldc2 dlaw_1417 w6_8) dlaw_1420) (s_i2l (s_dAI (s_aload_n dlaw_1421 rfl rfl) (s_iconst dlaw_1422 rfl) dlaw_1423) dlaw_1424) dlaw_1425) dlaw_1426 rfl) (t_UA (s_aload dlaw_1429 rfl) (s_bipush dlaw_1431 rfl) dlaw_1433 dlaw_1434 (s_ishl (s_iconst dlaw_1435 rfl) (s_iload dlaw_1436 rfl) dlaw_1438) (fun _ _ _ _ => rulI fun a b K => lv_ior a b dlaw_1439 K) dlaw_1440 rfl) (t_skip (ld_in rfl) rfl) (lda_cons (ld_in rfl) lda_nil) (lda_cons (ld_in rfl) lda_nil))) (t_iinc dlaw_1441 rfl rfl rfl rfl) (lda_cons (ld_in rfl) lda_nil) lda_nil (lda_cons (ld_goto (y := 1388) dlaw_1444 rfl (ld_in rfl)) lda_nil) (ld_in rfl) lda_nil
noncomputable def Llaw_14 : Sm Int32 := dLoop (fun f => (sI (sI (sI (sL (sI (sR (sR (sR (sR (sR (sI (sI (sR (sR (sR (sR (sR (sR (sR (sR (sR (sR fr0 0 (gR f 0)) 1 (gR f 1)) 2 (gR f 2)) 3 (gR f 3)) 4 (gR f 4)) 5 (gR f 5)) 6 (gR f 6)) 7 (gR f 7)) 8 (gR f 8)) 9 (gR f 9)) 10 (gI f 10)) 11 (gI f 11)) 12 (gR f 12)) 13 (gR f 13)) 14 (gR f 14)) 15 (gR f 15)) 16 (gR f 16)) 17 (gI f 17)) 18 (gL f 18)) 20 (gI f 20)) 21 (gI f 21)) 22 (gI f 22))) (dCI r_lt (vI 22) (vI 11)) (dSetI 21 (d2 o_iadd (vI 21) (dCall DL_size (aI aN 0 (dCall DL_left (aI (aI aN 0 (dAI (vR 13) (vI 10))) 1 (vI 22))))))) (dInc 22 1)
theorem sLlaw_14 {ΓL : Gm} {PB PK : List Nat} : SS (cvoI, .ireturn) milaw ΓL PB PK [(0, 2), (1, 2), (2, 2), (3, 2), (4, 2), (5, 2), (6, 2), (7, 2), (8, 2), (9, 2), (10, 0), (11, 0), (12, 2), (13, 2), (14, 2), (15, 2), (16, 2), (17, 0), (18, 1), (20, 0), (21, 0), (22, 0)] [(0, 2), (1, 2), (2, 2), (3, 2), (4, 2), (5, 2), (6, 2), (7, 2), (8, 2), (9, 2), (10, 0), (11, 0), (12, 2), (13, 2), (14, 2), (15, 2), (16, 2), (17, 0), (18, 1), (20, 0), (21, 0), (22, 0)] 1478 [1509] Llaw_14 := t_loop (pT := 1485) (pF := 1509) (pu := 1503) (PB' := []) (PK' := []) (XB := [1503]) (XU := [1506]) (fun _ _ => rfl) rfl (c_lt_F (pF := 1509) (s_iload dlaw_1478 rfl) (s_iload dlaw_1480 rfl) dlaw_1482 rfl) (t_istore (s_iadd (s_iload dlaw_1485 rfl) (s_of_xI (x_call (ts := [(0, 0)]) kL_size mokL_size w4_228 rfl rfl rfl (a_I (ts := []) 0 a_nil (s_of_xI (x_call (ts := [(0, 0), (1, 0)]) kL_left mokL_left w5_9 rfl rfl rfl (a_I (ts := [(0, 0)]) 1 (a_I (ts := []) 0 a_nil (s_dAI (s_aload dlaw_1487 rfl) (s_iload dlaw_1489 rfl) dlaw_1491) rfl) (s_iload dlaw_1492 rfl) rfl) dlaw_1494 w5_8)) rfl) dlaw_1497 w4_227)) dlaw_1500) dlaw_1501 rfl rfl) (t_iinc dlaw_1503 rfl rfl rfl rfl) (lda_cons (ld_in rfl) lda_nil) lda_nil (lda_cons (ld_goto (y := 1478) dlaw_1506 rfl (ld_in rfl)) lda_nil) (ld_in rfl) lda_nil
noncomputable def Blaw : Sm Int32 := (dSeq (dSetR 1 (dNewC 11 DX11_init)) (dSeq (dSetR 2 (dNewA 0 (cI 8))) (dSeq (dSetR 3 (dNewA 0 (cI 1))) (dSeq (dSetR 4 (dNewA 0 (cI 8))) (dSeq (dSetR 5 (dNewA 0 (cI 16))) (dSeq (dSetR 6 (dNewA 0 (cI 10))) (dSeq (dSetR 7 (dNewA 0 (cI 21))) (dSeq (dSetR 8 (dNewA 0 (cI 64))) (dSeq (dSetR 9 (dNewA 0 (cI 6))) (dSeq (dIf (dNot (dCZ q_ne (dCall DL_port_ (aR (aR (aR (aR (aR (aR (aR (aR (aR (aR aN 0 (vR 1)) 1 (vR 0)) 2 (vR 2)) 3 (vR 3)) 4 (vR 4)) 5 (vR 5)) 6 (vR 6)) 7 (vR 7)) 8 (vR 8)) 9 (vR 9))))) (dRet (cI 0)) dSkip) (dSeq (dSetI 10 (dAI (vR 4) (cI 0))) (dSeq (dSetI 11 (dAI (vR 4) (cI 4))) (dSeq (dSetR 12 (dNewA 0 (cI 13))) (dSeq (dSetR 13 (dNewA 0 (cI 13))) (dSeq (dSetR 14 (dNewA 3 (cI 39))) (dSeq (dSetR 15 (dNewA 0 (cI 16))) (dSeq (dSetR 16 (dNewA 0 (cI 16))) (dSeq (dSetI 17 (cI 0)) (dSeq (dSeq (dSetI 18 (cI 0)) Llaw_6) (dSeq (dSeq (dSetI 18 (cI 0)) Llaw_12) (dSeq (dSetL 18 (d1 o_i2l (d2 o_iand (dCall DL_cell (aI (aR aN 0 (vR 0)) 1 (cI 61))) (cI 1073741823)))) (dSeq (dSetI 20 (d1 o_l2i (vL 18))) (dSeq (dSeq (dSetI 21 (cI 0)) Llaw_13) (dSeq (dDo (dCall DL_run (aR (aR (aR (aR (aR (aR (aR (aR (aR (aR (aR aN 0 (vR 4)) 1 (vR 5)) 2 (vR 6)) 3 (vR 7)) 4 (vR 8)) 5 (vR 9)) 6 (vR 12)) 7 (vR 13)) 8 (vR 14)) 9 (vR 15)) 10 (vR 16)))) (dSeq (dSetI 21 (cI 0)) (dSeq (dSeq (dSetI 22 (cI 0)) Llaw_14) (dSeq (dIf (dOr (dCI r_ne (dCallV 11 DX11_drawn (aI (aI (aR aN 0 (vR 1)) 1 (vI 20)) 2 (cI 0))) (dAI (vR 4) (cI 6))) (dCI r_ne (dCallV 11 DX11_drawn (aI (aI (aR aN 0 (vR 1)) 1 (vI 20)) 2 (cI 1))) (vI 21))) (dRet (cI 0)) dSkip) (dSeq (dSetI 22 (dCallV 11 DX11_dones (aR aN 0 (vR 1)))) (dRet (dB (dAnd (dAnd (dAnd (dAnd (dCZ q_eq (dCallV 11 DX11_image (aI (aR aN 0 (vR 1)) 1 (cI 2)))) (dCI r_eq (dCallV 11 DX11_anew (aR aN 0 (vR 1))) (vI 17))) (dCZ q_eq (dCallV 11 DX11_back (aI (aR aN 0 (vR 1)) 1 (cI 2))))) (dCI r_eq (dCallV 11 DX11_count (aI (aR aN 0 (vR 1)) 1 (cI 8))) (vI 17))) (dCI r_eq (dCallV 11 DX11_dones (aR aN 0 (vR 1))) (vI 22)))))))))))))))))))))))))))))))))
theorem sBlaw : SS (cvoI, .ireturn) milaw [] [] [] [(0, 2)] [(0, 2)] 0 [] Blaw := (t_sq (p1 := 8) (Γ' := [(0, 2), (1, 2)]) (t_astore_n (s_newP ck11 kX11_init mokX11_init rfl w1_24 w1_21 w1_22 w1_1 df11 rfl rfl dlaw_0 dlaw_3 dlaw_4 w1_23 rfl) dlaw_7 rfl rfl rfl) (t_sq (p1 := 13) (Γ' := [(0, 2), (1, 2), (2, 2)]) (t_astore_n (s_newI (s_bipush dlaw_8 rfl) dlaw_10 w1_123) dlaw_12 rfl rfl rfl) (t_sq (p1 := 17) (Γ' := [(0, 2), (1, 2), (2, 2), (3, 2)]) (t_astore_n (s_newI (s_iconst dlaw_13 rfl) dlaw_14 w1_123) dlaw_16 rfl rfl rfl) (t_sq (p1 := 23) (Γ' := [(0, 2), (1, 2), (2, 2), (3, 2), (4, 2)]) (t_astore (s_newI (s_bipush dlaw_17 rfl) dlaw_19 w1_123) dlaw_21 rfl rfl) (t_sq (p1 := 29) (Γ' := [(0, 2), (1, 2), (2, 2), (3, 2), (4, 2), (5, 2)]) (t_astore (s_newI (s_bipush dlaw_23 rfl) dlaw_25 w1_123) dlaw_27 rfl rfl) (t_sq (p1 := 35) (Γ' := [(0, 2), (1, 2), (2, 2), (3, 2), (4, 2), (5, 2), (6, 2)]) (t_astore (s_newI (s_bipush dlaw_29 rfl) dlaw_31 w1_123) dlaw_33 rfl rfl) (t_sq (p1 := 41) (Γ' := [(0, 2), (1, 2), (2, 2), (3, 2), (4, 2), (5, 2), (6, 2), (7, 2)]) (t_astore (s_newI (s_bipush dlaw_35 rfl) dlaw_37 w1_123) dlaw_39 rfl rfl) (t_sq (p1 := 47) (Γ' := [(0, 2), (1, 2), (2, 2), (3, 2), (4, 2), (5, 2), (6, 2), (7, 2), (8, 2)]) (t_astore (s_newI (s_bipush dlaw_41 rfl) dlaw_43 w1_123) dlaw_45 rfl rfl) (t_sq (p1 := 53) (Γ' := [(0, 2), (1, 2), (2, 2), (3, 2), (4, 2), (5, 2), (6, 2), (7, 2), (8, 2), (9, 2)]) (t_astore (s_newI (s_bipush dlaw_47 rfl) dlaw_49 w1_123) dlaw_51 rfl rfl) (t_sq (p1 := 77) (Γ' := [(0, 2), (1, 2), (2, 2), (3, 2), (4, 2), (5, 2), (6, 2), (7, 2), (8, 2), (9, 2)]) (t_if (pT := 75) (pF := 77) (X := [77]) (XA := []) (XB := [77]) (c_not (pT := 75) (pF := 77) (c_ne_ZJ (pT := 77) (s_of_xI (x_call (ts := [(0, 2), (1, 2), (2, 2), (3, 2), (4, 2), (5, 2), (6, 2), (7, 2), (8, 2), (9, 2)]) kL_port_ mokL_port_ w5_26 rfl rfl rfl (a_R (ts := [(0, 2), (1, 2), (2, 2), (3, 2), (4, 2), (5, 2), (6, 2), (7, 2), (8, 2)]) 9 (a_R (ts := [(0, 2), (1, 2), (2, 2), (3, 2), (4, 2), (5, 2), (6, 2), (7, 2)]) 8 (a_R (ts := [(0, 2), (1, 2), (2, 2), (3, 2), (4, 2), (5, 2), (6, 2)]) 7 (a_R (ts := [(0, 2), (1, 2), (2, 2), (3, 2), (4, 2), (5, 2)]) 6 (a_R (ts := [(0, 2), (1, 2), (2, 2), (3, 2), (4, 2)]) 5 (a_R (ts := [(0, 2), (1, 2), (2, 2), (3, 2)]) 4 (a_R (ts := [(0, 2), (1, 2), (2, 2)]) 3 (a_R (ts := [(0, 2), (1, 2)]) 2 (a_R (ts := [(0, 2)]) 1 (a_R (ts := []) 0 a_nil (s_aload_n dlaw_53 rfl rfl) rfl) (s_aload_n dlaw_54 rfl rfl) rfl) (s_aload_n dlaw_55 rfl rfl) rfl) (s_aload_n dlaw_56 rfl rfl) rfl) (s_aload dlaw_57 rfl) rfl) (s_aload dlaw_59 rfl) rfl) (s_aload dlaw_61 rfl) rfl) (s_aload dlaw_63 rfl) rfl) (s_aload dlaw_65 rfl) rfl) (s_aload dlaw_67 rfl) rfl) dlaw_69 w5_25)) dlaw_72 rfl)) (t_ret (cv := cvI) (fun _ _ => rfl) (s_iconst dlaw_75 rfl) dlaw_76) (t_skip (ld_in rfl) rfl) lda_nil (lda_cons (ld_in rfl) lda_nil)) (t_sq (p1 := 83) (Γ' := [(0, 2), (1, 2), (2, 2), (3, 2), (4, 2), (5, 2), (6, 2), (7, 2), (8, 2), (9, 2), (10, 0)]) (t_istore (s_dAI (s_aload dlaw_77 rfl) (s_iconst dlaw_79 rfl) dlaw_80) dlaw_81 rfl rfl) (t_sq (p1 := 89) (Γ' := [(0, 2), (1, 2), (2, 2), (3, 2), (4, 2), (5, 2), (6, 2), (7, 2), (8, 2), (9, 2), (10, 0), (11, 0)]) (t_istore (s_dAI (s_aload dlaw_83 rfl) (s_iconst dlaw_85 rfl) dlaw_86) dlaw_87 rfl rfl) (t_sq (p1 := 95) (Γ' := [(0, 2), (1, 2), (2, 2), (3, 2), (4, 2), (5, 2), (6, 2), (7, 2), (8, 2), (9, 2), (10, 0), (11, 0), (12, 2)]) (t_astore (s_newI (s_bipush dlaw_89 rfl) dlaw_91 w1_123) dlaw_93 rfl rfl) (t_sq (p1 := 101) (Γ' := [(0, 2), (1, 2), (2, 2), (3, 2), (4, 2), (5, 2), (6, 2), (7, 2), (8, 2), (9, 2), (10, 0), (11, 0), (12, 2), (13, 2)]) (t_astore (s_newI (s_bipush dlaw_95 rfl) dlaw_97 w1_123) dlaw_99 rfl rfl) (t_sq (p1 := 107) (Γ' := [(0, 2), (1, 2), (2, 2), (3, 2), (4, 2), (5, 2), (6, 2), (7, 2), (8, 2), (9, 2), (10, 0), (11, 0), (12, 2), (13, 2), (14, 2)]) (t_astore (s_newJ (s_bipush dlaw_101 rfl) dlaw_103 w1_238) dlaw_105 rfl rfl) (t_sq (p1 := 113) (Γ' := [(0, 2), (1, 2), (2, 2), (3, 2), (4, 2), (5, 2), (6, 2), (7, 2), (8, 2), (9, 2), (10, 0), (11, 0), (12, 2), (13, 2), (14, 2), (15, 2)]) (t_astore (s_newI (s_bipush dlaw_107 rfl) dlaw_109 w1_123) dlaw_111 rfl rfl) (t_sq (p1 := 119) (Γ' := [(0, 2), (1, 2), (2, 2), (3, 2), (4, 2), (5, 2), (6, 2), (7, 2), (8, 2), (9, 2), (10, 0), (11, 0), (12, 2), (13, 2), (14, 2), (15, 2), (16, 2)]) (t_astore (s_newI (s_bipush dlaw_113 rfl) dlaw_115 w1_123) dlaw_117 rfl rfl) (t_sq (p1 := 122) (Γ' := [(0, 2), (1, 2), (2, 2), (3, 2), (4, 2), (5, 2), (6, 2), (7, 2), (8, 2), (9, 2), (10, 0), (11, 0), (12, 2), (13, 2), (14, 2), (15, 2), (16, 2), (17, 0)]) (t_istore (s_iconst dlaw_119 rfl) dlaw_120 rfl rfl) (t_sq (p1 := 664) (Γ' := [(0, 2), (1, 2), (2, 2), (3, 2), (4, 2), (5, 2), (6, 2), (7, 2), (8, 2), (9, 2), (10, 0), (11, 0), (12, 2), (13, 2), (14, 2), (15, 2), (16, 2), (17, 0)]) (t_sq (p1 := 125) (Γ' := [(0, 2), (1, 2), (2, 2), (3, 2), (4, 2), (5, 2), (6, 2), (7, 2), (8, 2), (9, 2), (10, 0), (11, 0), (12, 2), (13, 2), (14, 2), (15, 2), (16, 2), (17, 0), (18, 0)]) (t_istore (s_iconst dlaw_122 rfl) dlaw_123 rfl rfl) (tn_to (Γ' := [(0, 2), (1, 2), (2, 2), (3, 2), (4, 2), (5, 2), (6, 2), (7, 2), (8, 2), (9, 2), (10, 0), (11, 0), (12, 2), (13, 2), (14, 2), (15, 2), (16, 2), (17, 0), (18, 0)]) (XA := [664]) sLlaw_6 (lda_cons (ld_in rfl) lda_nil) rfl)) (t_sq (p1 := 1368) (Γ' := [(0, 2), (1, 2), (2, 2), (3, 2), (4, 2), (5, 2), (6, 2), (7, 2), (8, 2), (9, 2), (10, 0), (11, 0), (12, 2), (13, 2), (14, 2), (15, 2), (16, 2), (17, 0)]) (t_sq (p1 := 667) (Γ' := [(0, 2), (1, 2), (2, 2), (3, 2), (4, 2), (5, 2), (6, 2), (7, 2), (8, 2), (9, 2), (10, 0), (11, 0), (12, 2), (13, 2), (14, 2), (15, 2), (16, 2), (17, 0), (18, 0)]) (t_istore (s_iconst dlaw_664 rfl) dlaw_665 rfl rfl) (tn_to (Γ' := [(0, 2), (1, 2), (2, 2), (3, 2), (4, 2), (5, 2), (6, 2), (7, 2), (8, 2), (9, 2), (10, 0), (11, 0), (12, 2), (13, 2), (14, 2), (15, 2), (16, 2), (17, 0), (18, 0)]) (XA := [1368]) sLlaw_12 (lda_cons (ld_in rfl) lda_nil) rfl)) (t_sq (p1 := 1380) (Γ' := [(0, 2), (1, 2), (2, 2), (3, 2), (4, 2), (5, 2), (6, 2), (7, 2), (8, 2), (9, 2), (10, 0), (11, 0), (12, 2), (13, 2), (14, 2), (15, 2), (16, 2), (17, 0), (18, 1)]) (t_lstore (s_i2l (s_iand (s_of_xI (x_call (ts := [(0, 2), (1, 0)]) kL_cell mokL_cell w5_19 rfl rfl rfl (a_I (ts := [(0, 2)]) 1 (a_R (ts := []) 0 a_nil (s_aload_n dlaw_1368 rfl rfl) rfl) (s_bipush dlaw_1369 rfl) rfl) dlaw_1371 w5_18)) (s_ldc dlaw_1374 w6_3) dlaw_1376) dlaw_1377) dlaw_1378 rfl rfl) (t_sq (p1 := 1385) (Γ' := [(0, 2), (1, 2), (2, 2), (3, 2), (4, 2), (5, 2), (6, 2), (7, 2), (8, 2), (9, 2), (10, 0), (11, 0), (12, 2), (13, 2), (14, 2), (15, 2), (16, 2), (17, 0), (18, 1), (20, 0)]) (t_istore (s_l2i (s_lload dlaw_1380 rfl) dlaw_1382) dlaw_1383 rfl rfl) (t_sq (p1 := 1447) (Γ' := [(0, 2), (1, 2), (2, 2), (3, 2), (4, 2), (5, 2), (6, 2), (7, 2), (8, 2), (9, 2), (10, 0), (11, 0), (12, 2), (13, 2), (14, 2), (15, 2), (16, 2), (17, 0), (18, 1), (20, 0)]) (t_sq (p1 := 1388) (Γ' := [(0, 2), (1, 2), (2, 2), (3, 2), (4, 2), (5, 2), (6, 2), (7, 2), (8, 2), (9, 2), (10, 0), (11, 0), (12, 2), (13, 2), (14, 2), (15, 2), (16, 2), (17, 0), (18, 1), (20, 0), (21, 0)]) (t_istore (s_iconst dlaw_1385 rfl) dlaw_1386 rfl rfl) (tn_to (Γ' := [(0, 2), (1, 2), (2, 2), (3, 2), (4, 2), (5, 2), (6, 2), (7, 2), (8, 2), (9, 2), (10, 0), (11, 0), (12, 2), (13, 2), (14, 2), (15, 2), (16, 2), (17, 0), (18, 1), (20, 0), (21, 0)]) (XA := [1447]) sLlaw_13 (lda_cons (ld_in rfl) lda_nil) rfl)) (t_sq (p1 := 1472) (Γ' := [(0, 2), (1, 2), (2, 2), (3, 2), (4, 2), (5, 2), (6, 2), (7, 2), (8, 2), (9, 2), (10, 0), (11, 0), (12, 2), (13, 2), (14, 2), (15, 2), (16, 2), (17, 0), (18, 1), (20, 0)]) (t_do (x_call (ts := [(0, 2), (1, 2), (2, 2), (3, 2), (4, 2), (5, 2), (6, 2), (7, 2), (8, 2), (9, 2), (10, 2)]) kL_run mokL_run w4_231 rfl rfl rfl (a_R (ts := [(0, 2), (1, 2), (2, 2), (3, 2), (4, 2), (5, 2), (6, 2), (7, 2), (8, 2), (9, 2)]) 10 (a_R (ts := [(0, 2), (1, 2), (2, 2), (3, 2), (4, 2), (5, 2), (6, 2), (7, 2), (8, 2)]) 9 (a_R (ts := [(0, 2), (1, 2), (2, 2), (3, 2), (4, 2), (5, 2), (6, 2), (7, 2)]) 8 (a_R (ts := [(0, 2), (1, 2), (2, 2), (3, 2), (4, 2), (5, 2), (6, 2)]) 7 (a_R (ts := [(0, 2), (1, 2), (2, 2), (3, 2), (4, 2), (5, 2)]) 6 (a_R (ts := [(0, 2), (1, 2), (2, 2), (3, 2), (4, 2)]) 5 (a_R (ts := [(0, 2), (1, 2), (2, 2), (3, 2)]) 4 (a_R (ts := [(0, 2), (1, 2), (2, 2)]) 3 (a_R (ts := [(0, 2), (1, 2)]) 2 (a_R (ts := [(0, 2)]) 1 (a_R (ts := []) 0 a_nil (s_aload dlaw_1447 rfl) rfl) (s_aload dlaw_1449 rfl) rfl) (s_aload dlaw_1451 rfl) rfl) (s_aload dlaw_1453 rfl) rfl) (s_aload dlaw_1455 rfl) rfl) (s_aload dlaw_1457 rfl) rfl) (s_aload dlaw_1459 rfl) rfl) (s_aload dlaw_1461 rfl) rfl) (s_aload dlaw_1463 rfl) rfl) (s_aload dlaw_1465 rfl) rfl) (s_aload dlaw_1467 rfl) rfl) dlaw_1469 w4_230) rfl) (t_sq (p1 := 1475) (Γ' := [(0, 2), (1, 2), (2, 2), (3, 2), (4, 2), (5, 2), (6, 2), (7, 2), (8, 2), (9, 2), (10, 0), (11, 0), (12, 2), (13, 2), (14, 2), (15, 2), (16, 2), (17, 0), (18, 1), (20, 0), (21, 0)]) (t_istore (s_iconst dlaw_1472 rfl) dlaw_1473 rfl rfl) (t_sq (p1 := 1509) (Γ' := [(0, 2), (1, 2), (2, 2), (3, 2), (4, 2), (5, 2), (6, 2), (7, 2), (8, 2), (9, 2), (10, 0), (11, 0), (12, 2), (13, 2), (14, 2), (15, 2), (16, 2), (17, 0), (18, 1), (20, 0), (21, 0)]) (t_sq (p1 := 1478) (Γ' := [(0, 2), (1, 2), (2, 2), (3, 2), (4, 2), (5, 2), (6, 2), (7, 2), (8, 2), (9, 2), (10, 0), (11, 0), (12, 2), (13, 2), (14, 2), (15, 2), (16, 2), (17, 0), (18, 1), (20, 0), (21, 0), (22, 0)]) (t_istore (s_iconst dlaw_1475 rfl) dlaw_1476 rfl rfl) (tn_to (Γ' := [(0, 2), (1, 2), (2, 2), (3, 2), (4, 2), (5, 2), (6, 2), (7, 2), (8, 2), (9, 2), (10, 0), (11, 0), (12, 2), (13, 2), (14, 2), (15, 2), (16, 2), (17, 0), (18, 1), (20, 0), (21, 0), (22, 0)]) (XA := [1509]) sLlaw_14 (lda_cons (ld_in rfl) lda_nil) rfl)) (t_sq (p1 := 1538) (Γ' := [(0, 2), (1, 2), (2, 2), (3, 2), (4, 2), (5, 2), (6, 2), (7, 2), (8, 2), (9, 2), (10, 0), (11, 0), (12, 2), (13, 2), (14, 2), (15, 2), (16, 2), (17, 0), (18, 1), (20, 0), (21, 0)]) (t_if (pT := 1536) (pF := 1538) (X := [1538]) (XA := []) (XB := [1538]) (c_or (p1 := 1524) (pT := 1536) (pF := 1538) (c_ne_J (pT := 1536) (s_of_xI (x_callV (ts := [(0, 2), (1, 0), (2, 0)]) ck11 rfl kX11_drawn mokX11_drawn w4_157 w4_158 rfl rfl rfl rfl (a_I (ts := [(0, 2), (1, 0)]) 2 (a_I (ts := [(0, 2)]) 1 (a_R (ts := []) 0 a_nil (s_aload_n dlaw_1509 rfl rfl) rfl) (s_iload dlaw_1510 rfl) rfl) (s_iconst dlaw_1512 rfl) rfl) dlaw_1513 w4_156)) (s_dAI (s_aload dlaw_1516 rfl) (s_bipush dlaw_1518 rfl) dlaw_1520) dlaw_1521 rfl) (c_ne_F (pF := 1538) (s_of_xI (x_callV (ts := [(0, 2), (1, 0), (2, 0)]) ck11 rfl kX11_drawn mokX11_drawn w4_157 w4_158 rfl rfl rfl rfl (a_I (ts := [(0, 2), (1, 0)]) 2 (a_I (ts := [(0, 2)]) 1 (a_R (ts := []) 0 a_nil (s_aload_n dlaw_1524 rfl rfl) rfl) (s_iload dlaw_1525 rfl) rfl) (s_iconst dlaw_1527 rfl) rfl) dlaw_1528 w4_156)) (s_iload dlaw_1531 rfl) dlaw_1533 rfl)) (t_ret (cv := cvI) (fun _ _ => rfl) (s_iconst dlaw_1536 rfl) dlaw_1537) (t_skip (ld_in rfl) rfl) lda_nil (lda_cons (ld_in rfl) lda_nil)) (t_sq (p1 := 1544) (Γ' := [(0, 2), (1, 2), (2, 2), (3, 2), (4, 2), (5, 2), (6, 2), (7, 2), (8, 2), (9, 2), (10, 0), (11, 0), (12, 2), (13, 2), (14, 2), (15, 2), (16, 2), (17, 0), (18, 1), (20, 0), (21, 0), (22, 0)]) (t_istore (s_of_xI (x_callV (ts := [(0, 2)]) ck11 rfl kX11_dones mokX11_dones w3_170 w3_171 rfl rfl rfl rfl (a_R (ts := []) 0 a_nil (s_aload_n dlaw_1538 rfl rfl) rfl) dlaw_1539 w3_169)) dlaw_1542 rfl rfl) (t_ret (cv := cvI) (fun _ _ => rfl) (s_B (pT := 1589) (pF := 1593) (pe := 1594) (c_and (p1 := 1580) (pT := 1589) (pF := 1593) (c_and (p1 := 1569) (pT := 1580) (pF := 1593) (c_and (p1 := 1561) (pT := 1569) (pF := 1593) (c_and (p1 := 1552) (pT := 1561) (pF := 1593) (c_eq_ZF (pF := 1593) (s_of_xI (x_callV (ts := [(0, 2), (1, 0)]) ck11 rfl kX11_image mokX11_image w4_187 w4_188 rfl rfl rfl rfl (a_I (ts := [(0, 2)]) 1 (a_R (ts := []) 0 a_nil (s_aload_n dlaw_1544 rfl rfl) rfl) (s_iconst dlaw_1545 rfl) rfl) dlaw_1546 w4_186)) dlaw_1549 rfl) (c_eq_F (pF := 1593) (s_of_xI (x_callV (ts := [(0, 2)]) ck11 rfl kX11_anew mokX11_anew w4_153 w4_154 rfl rfl rfl rfl (a_R (ts := []) 0 a_nil (s_aload_n dlaw_1552 rfl rfl) rfl) dlaw_1553 w4_152)) (s_iload dlaw_1556 rfl) dlaw_1558 rfl)) (c_eq_ZF (pF := 1593) (s_of_xI (x_callV (ts := [(0, 2), (1, 0)]) ck11 rfl kX11_back mokX11_back w4_201 w4_202 rfl rfl rfl rfl (a_I (ts := [(0, 2)]) 1 (a_R (ts := []) 0 a_nil (s_aload_n dlaw_1561 rfl rfl) rfl) (s_iconst dlaw_1562 rfl) rfl) dlaw_1563 w4_200)) dlaw_1566 rfl)) (c_eq_F (pF := 1593) (s_of_xI (x_callV (ts := [(0, 2), (1, 0)]) ck11 rfl kX11_count mokX11_count w4_178 w4_179 rfl rfl rfl rfl (a_I (ts := [(0, 2)]) 1 (a_R (ts := []) 0 a_nil (s_aload_n dlaw_1569 rfl rfl) rfl) (s_bipush dlaw_1570 rfl) rfl) dlaw_1572 w4_177)) (s_iload dlaw_1575 rfl) dlaw_1577 rfl)) (c_eq_F (pF := 1593) (s_of_xI (x_callV (ts := [(0, 2)]) ck11 rfl kX11_dones mokX11_dones w3_170 w3_171 rfl rfl rfl rfl (a_R (ts := []) 0 a_nil (s_aload_n dlaw_1580 rfl rfl) rfl) dlaw_1581 w3_169)) (s_iload dlaw_1584 rfl) dlaw_1586 rfl)) dlaw_1589 dlaw_1590 rfl dlaw_1593 rfl) dlaw_1594)))))))))))))))))))))))))))))
