theorem dL_run_0 : decode cL_run 0 = .ok (.iconst 0, 1) := by decide +kernel
theorem dL_run_1 : decode cL_run 1 = .ok (.istore 11, 2) := by decide +kernel
theorem dL_run_3 : decode cL_run 3 = .ok (.iconst 0, 1) := by decide +kernel
theorem dL_run_4 : decode cL_run 4 = .ok (.istore 12, 2) := by decide +kernel
theorem dL_run_6 : decode cL_run 6 = .ok (.iconst 3, 1) := by decide +kernel
theorem dL_run_7 : decode cL_run 7 = .ok (.newarray .int, 2) := by decide +kernel
theorem dL_run_9 : decode cL_run 9 = .ok (.astore 13, 2) := by decide +kernel
theorem dL_run_11 : decode cL_run 11 = .ok (.iconst 3, 1) := by decide +kernel
theorem dL_run_12 : decode cL_run 12 = .ok (.newarray .long, 2) := by decide +kernel
theorem dL_run_14 : decode cL_run 14 = .ok (.astore 14, 2) := by decide +kernel
theorem dL_run_16 : decode cL_run 16 = .ok (.iconst 0, 1) := by decide +kernel
theorem dL_run_17 : decode cL_run 17 = .ok (.istore 15, 2) := by decide +kernel
theorem dL_run_19 : decode cL_run 19 = .ok (.iload 15, 2) := by decide +kernel
theorem dL_run_21 : decode cL_run 21 = .ok (.aload_n 0, 1) := by decide +kernel
theorem dL_run_22 : decode cL_run 22 = .ok (.iconst 3, 1) := by decide +kernel
theorem dL_run_23 : decode cL_run 23 = .ok (.iaload, 1) := by decide +kernel
theorem dL_run_24 : decode cL_run 24 = .ok (.if_icmp .ge 25, 3) := by decide +kernel
theorem dL_run_27 : decode cL_run 27 = .ok (.iload 11, 2) := by decide +kernel
theorem dL_run_29 : decode cL_run 29 = .ok (.aload_n 2, 1) := by decide +kernel
theorem dL_run_30 : decode cL_run 30 = .ok (.iconst 2, 1) := by decide +kernel
theorem dL_run_31 : decode cL_run 31 = .ok (.iload 15, 2) := by decide +kernel
theorem dL_run_33 : decode cL_run 33 = .ok (.imul, 1) := by decide +kernel
theorem dL_run_34 : decode cL_run 34 = .ok (.iaload, 1) := by decide +kernel
theorem dL_run_35 : decode cL_run 35 = .ok (.iconst 4, 1) := by decide +kernel
theorem dL_run_36 : decode cL_run 36 = .ok (.iload 15, 2) := by decide +kernel
theorem dL_run_38 : decode cL_run 38 = .ok (.imul, 1) := by decide +kernel
theorem dL_run_39 : decode cL_run 39 = .ok (.ishl, 1) := by decide +kernel
theorem dL_run_40 : decode cL_run 40 = .ok (.ior, 1) := by decide +kernel
theorem dL_run_41 : decode cL_run 41 = .ok (.istore 11, 2) := by decide +kernel
theorem dL_run_43 : decode cL_run 43 = .ok (.iinc 15 1, 3) := by decide +kernel
theorem dL_run_46 : decode cL_run 46 = .ok (.goto (-27), 3) := by decide +kernel
theorem dL_run_49 : decode cL_run 49 = .ok (.iconst 0, 1) := by decide +kernel
theorem dL_run_50 : decode cL_run 50 = .ok (.istore 15, 2) := by decide +kernel
theorem dL_run_52 : decode cL_run 52 = .ok (.iload 15, 2) := by decide +kernel
theorem dL_run_54 : decode cL_run 54 = .ok (.aload_n 0, 1) := by decide +kernel
theorem dL_run_55 : decode cL_run 55 = .ok (.iconst 4, 1) := by decide +kernel
theorem dL_run_56 : decode cL_run 56 = .ok (.iaload, 1) := by decide +kernel
theorem dL_run_57 : decode cL_run 57 = .ok (.if_icmp .ge 69, 3) := by decide +kernel
theorem dL_run_60 : decode cL_run 60 = .ok (.iload 12, 2) := by decide +kernel
theorem dL_run_62 : decode cL_run 62 = .ok (.aload 5, 2) := by decide +kernel
theorem dL_run_64 : decode cL_run 64 = .ok (.iload 15, 2) := by decide +kernel
theorem dL_run_66 : decode cL_run 66 = .ok (.iaload, 1) := by decide +kernel
theorem dL_run_67 : decode cL_run 67 = .ok (.aload 5, 2) := by decide +kernel
theorem dL_run_69 : decode cL_run 69 = .ok (.iconst 3, 1) := by decide +kernel
theorem dL_run_70 : decode cL_run 70 = .ok (.iload 15, 2) := by decide +kernel
theorem dL_run_72 : decode cL_run 72 = .ok (.iadd, 1) := by decide +kernel
theorem dL_run_73 : decode cL_run 73 = .ok (.iaload, 1) := by decide +kernel
theorem dL_run_74 : decode cL_run 74 = .ok (.iconst 4, 1) := by decide +kernel
theorem dL_run_75 : decode cL_run 75 = .ok (.ishl, 1) := by decide +kernel
theorem dL_run_76 : decode cL_run 76 = .ok (.ior, 1) := by decide +kernel
theorem dL_run_77 : decode cL_run 77 = .ok (.bipush 10, 2) := by decide +kernel
theorem dL_run_79 : decode cL_run 79 = .ok (.iload 15, 2) := by decide +kernel
theorem dL_run_81 : decode cL_run 81 = .ok (.imul, 1) := by decide +kernel
theorem dL_run_82 : decode cL_run 82 = .ok (.ishl, 1) := by decide +kernel
theorem dL_run_83 : decode cL_run 83 = .ok (.ior, 1) := by decide +kernel
theorem dL_run_84 : decode cL_run 84 = .ok (.istore 12, 2) := by decide +kernel
theorem dL_run_86 : decode cL_run 86 = .ok (.aload 13, 2) := by decide +kernel
theorem dL_run_88 : decode cL_run 88 = .ok (.iload 15, 2) := by decide +kernel
theorem dL_run_90 : decode cL_run 90 = .ok (.iconst 1, 1) := by decide +kernel
theorem dL_run_91 : decode cL_run 91 = .ok (.aload 5, 2) := by decide +kernel
theorem dL_run_93 : decode cL_run 93 = .ok (.iload 15, 2) := by decide +kernel
theorem dL_run_95 : decode cL_run 95 = .ok (.iaload, 1) := by decide +kernel
theorem dL_run_96 : decode cL_run 96 = .ok (.ishl, 1) := by decide +kernel
theorem dL_run_97 : decode cL_run 97 = .ok (.iastore, 1) := by decide +kernel
theorem dL_run_98 : decode cL_run 98 = .ok (.aload 14, 2) := by decide +kernel
theorem dL_run_100 : decode cL_run 100 = .ok (.iload 15, 2) := by decide +kernel
theorem dL_run_102 : decode cL_run 102 = .ok (.aload 5, 2) := by decide +kernel
theorem dL_run_104 : decode cL_run 104 = .ok (.iconst 3, 1) := by decide +kernel
theorem dL_run_105 : decode cL_run 105 = .ok (.iload 15, 2) := by decide +kernel
theorem dL_run_107 : decode cL_run 107 = .ok (.iadd, 1) := by decide +kernel
theorem dL_run_108 : decode cL_run 108 = .ok (.iaload, 1) := by decide +kernel
theorem dL_run_109 : decode cL_run 109 = .ok (.i2l, 1) := by decide +kernel
theorem dL_run_110 : decode cL_run 110 = .ok (.bipush 6, 2) := by decide +kernel
theorem dL_run_112 : decode cL_run 112 = .ok (.aload 5, 2) := by decide +kernel
theorem dL_run_114 : decode cL_run 114 = .ok (.iload 15, 2) := by decide +kernel
theorem dL_run_116 : decode cL_run 116 = .ok (.iaload, 1) := by decide +kernel
theorem dL_run_117 : decode cL_run 117 = .ok (.imul, 1) := by decide +kernel
theorem dL_run_118 : decode cL_run 118 = .ok (.lshl, 1) := by decide +kernel
theorem dL_run_119 : decode cL_run 119 = .ok (.lastore, 1) := by decide +kernel
theorem dL_run_120 : decode cL_run 120 = .ok (.iinc 15 1, 3) := by decide +kernel
theorem dL_run_123 : decode cL_run 123 = .ok (.goto (-71), 3) := by decide +kernel
theorem dL_run_126 : decode cL_run 126 = .ok (.iconst 0, 1) := by decide +kernel
theorem dL_run_127 : decode cL_run 127 = .ok (.istore 15, 2) := by decide +kernel
theorem dL_run_129 : decode cL_run 129 = .ok (.iload 15, 2) := by decide +kernel
theorem dL_run_131 : decode cL_run 131 = .ok (.aload_n 0, 1) := by decide +kernel
theorem dL_run_132 : decode cL_run 132 = .ok (.iconst 5, 1) := by decide +kernel
theorem dL_run_133 : decode cL_run 133 = .ok (.iaload, 1) := by decide +kernel
theorem dL_run_134 : decode cL_run 134 = .ok (.if_icmp .ge 21, 3) := by decide +kernel
theorem dL_run_137 : decode cL_run 137 = .ok (.aload 9, 2) := by decide +kernel
theorem dL_run_139 : decode cL_run 139 = .ok (.iload 15, 2) := by decide +kernel
theorem dL_run_141 : decode cL_run 141 = .ok (.iconst 1, 1) := by decide +kernel
theorem dL_run_142 : decode cL_run 142 = .ok (.iastore, 1) := by decide +kernel
theorem dL_run_143 : decode cL_run 143 = .ok (.aload 10, 2) := by decide +kernel
theorem dL_run_145 : decode cL_run 145 = .ok (.iload 15, 2) := by decide +kernel
theorem dL_run_147 : decode cL_run 147 = .ok (.iconst 0, 1) := by decide +kernel
theorem dL_run_148 : decode cL_run 148 = .ok (.iastore, 1) := by decide +kernel
theorem dL_run_149 : decode cL_run 149 = .ok (.iinc 15 1, 3) := by decide +kernel
theorem dL_run_152 : decode cL_run 152 = .ok (.goto (-23), 3) := by decide +kernel
theorem dL_run_155 : decode cL_run 155 = .ok (.iconst 0, 1) := by decide +kernel
theorem dL_run_156 : decode cL_run 156 = .ok (.istore 15, 2) := by decide +kernel
theorem dL_run_158 : decode cL_run 158 = .ok (.iload 15, 2) := by decide +kernel
theorem dL_run_160 : decode cL_run 160 = .ok (.aload_n 0, 1) := by decide +kernel
theorem dL_run_161 : decode cL_run 161 = .ok (.iconst 0, 1) := by decide +kernel
theorem dL_run_162 : decode cL_run 162 = .ok (.iaload, 1) := by decide +kernel
theorem dL_run_163 : decode cL_run 163 = .ok (.if_icmp .gt 452, 3) := by decide +kernel
theorem dL_run_166 : decode cL_run 166 = .ok (.aload 6, 2) := by decide +kernel
theorem dL_run_168 : decode cL_run 168 = .ok (.iload 15, 2) := by decide +kernel
theorem dL_run_170 : decode cL_run 170 = .ok (.iload 11, 2) := by decide +kernel
theorem dL_run_172 : decode cL_run 172 = .ok (.iastore, 1) := by decide +kernel
theorem dL_run_173 : decode cL_run 173 = .ok (.aload 7, 2) := by decide +kernel
theorem dL_run_175 : decode cL_run 175 = .ok (.iload 15, 2) := by decide +kernel
theorem dL_run_177 : decode cL_run 177 = .ok (.iload 12, 2) := by decide +kernel
theorem dL_run_179 : decode cL_run 179 = .ok (.iastore, 1) := by decide +kernel
theorem dL_run_180 : decode cL_run 180 = .ok (.iconst 0, 1) := by decide +kernel
theorem dL_run_181 : decode cL_run 181 = .ok (.istore 16, 2) := by decide +kernel
theorem dL_run_183 : decode cL_run 183 = .ok (.iload 16, 2) := by decide +kernel
theorem dL_run_185 : decode cL_run 185 = .ok (.aload_n 0, 1) := by decide +kernel
theorem dL_run_186 : decode cL_run 186 = .ok (.iconst 4, 1) := by decide +kernel
theorem dL_run_187 : decode cL_run 187 = .ok (.iaload, 1) := by decide +kernel
theorem dL_run_188 : decode cL_run 188 = .ok (.if_icmp .ge 24, 3) := by decide +kernel
theorem dL_run_191 : decode cL_run 191 = .ok (.aload 8, 2) := by decide +kernel
theorem dL_run_193 : decode cL_run 193 = .ok (.iconst 3, 1) := by decide +kernel
theorem dL_run_194 : decode cL_run 194 = .ok (.iload 15, 2) := by decide +kernel
theorem dL_run_196 : decode cL_run 196 = .ok (.imul, 1) := by decide +kernel
theorem dL_run_197 : decode cL_run 197 = .ok (.iload 16, 2) := by decide +kernel
theorem dL_run_199 : decode cL_run 199 = .ok (.iadd, 1) := by decide +kernel
theorem dL_run_200 : decode cL_run 200 = .ok (.aload 14, 2) := by decide +kernel
theorem dL_run_202 : decode cL_run 202 = .ok (.iload 16, 2) := by decide +kernel
theorem dL_run_204 : decode cL_run 204 = .ok (.laload, 1) := by decide +kernel
theorem dL_run_205 : decode cL_run 205 = .ok (.lastore, 1) := by decide +kernel
theorem dL_run_206 : decode cL_run 206 = .ok (.iinc 16 1, 3) := by decide +kernel
theorem dL_run_209 : decode cL_run 209 = .ok (.goto (-26), 3) := by decide +kernel
theorem dL_run_212 : decode cL_run 212 = .ok (.iconst 0, 1) := by decide +kernel
theorem dL_run_213 : decode cL_run 213 = .ok (.istore 16, 2) := by decide +kernel
theorem dL_run_215 : decode cL_run 215 = .ok (.iconst 0, 1) := by decide +kernel
theorem dL_run_216 : decode cL_run 216 = .ok (.istore 17, 2) := by decide +kernel
theorem dL_run_218 : decode cL_run 218 = .ok (.iload 17, 2) := by decide +kernel
theorem dL_run_220 : decode cL_run 220 = .ok (.aload_n 0, 1) := by decide +kernel
theorem dL_run_221 : decode cL_run 221 = .ok (.iconst 5, 1) := by decide +kernel
theorem dL_run_222 : decode cL_run 222 = .ok (.iaload, 1) := by decide +kernel
theorem dL_run_223 : decode cL_run 223 = .ok (.if_icmp .ge 386, 3) := by decide +kernel
theorem dL_run_226 : decode cL_run 226 = .ok (.iload 15, 2) := by decide +kernel
theorem dL_run_228 : decode cL_run 228 = .ok (.aload_n 0, 1) := by decide +kernel
theorem dL_run_229 : decode cL_run 229 = .ok (.iconst 0, 1) := by decide +kernel
theorem dL_run_230 : decode cL_run 230 = .ok (.iaload, 1) := by decide +kernel
theorem dL_run_231 : decode cL_run 231 = .ok (.if_icmp .ge 378, 3) := by decide +kernel
theorem dL_run_234 : decode cL_run 234 = .ok (.aload 4, 2) := by decide +kernel
theorem dL_run_236 : decode cL_run 236 = .ok (.iconst 4, 1) := by decide +kernel
theorem dL_run_237 : decode cL_run 237 = .ok (.iload 17, 2) := by decide +kernel
theorem dL_run_239 : decode cL_run 239 = .ok (.imul, 1) := by decide +kernel
theorem dL_run_240 : decode cL_run 240 = .ok (.iconst 3, 1) := by decide +kernel
theorem dL_run_241 : decode cL_run 241 = .ok (.iadd, 1) := by decide +kernel
theorem dL_run_242 : decode cL_run 242 = .ok (.iaload, 1) := by decide +kernel
theorem dL_run_243 : decode cL_run 243 = .ok (.iload 15, 2) := by decide +kernel
theorem dL_run_245 : decode cL_run 245 = .ok (.if_icmp .eq 6, 3) := by decide +kernel
theorem dL_run_248 : decode cL_run 248 = .ok (.goto 355, 3) := by decide +kernel
theorem dL_run_251 : decode cL_run 251 = .ok (.aload 4, 2) := by decide +kernel
theorem dL_run_253 : decode cL_run 253 = .ok (.iconst 4, 1) := by decide +kernel
theorem dL_run_254 : decode cL_run 254 = .ok (.iload 17, 2) := by decide +kernel
theorem dL_run_256 : decode cL_run 256 = .ok (.imul, 1) := by decide +kernel
theorem dL_run_257 : decode cL_run 257 = .ok (.iaload, 1) := by decide +kernel
theorem dL_run_258 : decode cL_run 258 = .ok (.istore 18, 2) := by decide +kernel
theorem dL_run_260 : decode cL_run 260 = .ok (.aload 4, 2) := by decide +kernel
theorem dL_run_262 : decode cL_run 262 = .ok (.iconst 4, 1) := by decide +kernel
theorem dL_run_263 : decode cL_run 263 = .ok (.iload 17, 2) := by decide +kernel
theorem dL_run_265 : decode cL_run 265 = .ok (.imul, 1) := by decide +kernel
theorem dL_run_266 : decode cL_run 266 = .ok (.iconst 1, 1) := by decide +kernel
theorem dL_run_267 : decode cL_run 267 = .ok (.iadd, 1) := by decide +kernel
theorem dL_run_268 : decode cL_run 268 = .ok (.iaload, 1) := by decide +kernel
theorem dL_run_269 : decode cL_run 269 = .ok (.istore 19, 2) := by decide +kernel
theorem dL_run_271 : decode cL_run 271 = .ok (.aload 4, 2) := by decide +kernel
theorem dL_run_273 : decode cL_run 273 = .ok (.iconst 4, 1) := by decide +kernel
theorem dL_run_274 : decode cL_run 274 = .ok (.iload 17, 2) := by decide +kernel
theorem dL_run_276 : decode cL_run 276 = .ok (.imul, 1) := by decide +kernel
theorem dL_run_277 : decode cL_run 277 = .ok (.iconst 2, 1) := by decide +kernel
theorem dL_run_278 : decode cL_run 278 = .ok (.iadd, 1) := by decide +kernel
theorem dL_run_279 : decode cL_run 279 = .ok (.iaload, 1) := by decide +kernel
theorem dL_run_280 : decode cL_run 280 = .ok (.istore 20, 2) := by decide +kernel
theorem dL_run_282 : decode cL_run 282 = .ok (.iload 11, 2) := by decide +kernel
theorem dL_run_284 : decode cL_run 284 = .ok (.iconst 4, 1) := by decide +kernel
theorem dL_run_285 : decode cL_run 285 = .ok (.iload 18, 2) := by decide +kernel
theorem dL_run_287 : decode cL_run 287 = .ok (.imul, 1) := by decide +kernel
theorem dL_run_288 : decode cL_run 288 = .ok (.ishr, 1) := by decide +kernel
theorem dL_run_289 : decode cL_run 289 = .ok (.bipush 15, 2) := by decide +kernel
theorem dL_run_291 : decode cL_run 291 = .ok (.iand, 1) := by decide +kernel
theorem dL_run_292 : decode cL_run 292 = .ok (.istore 21, 2) := by decide +kernel
theorem dL_run_294 : decode cL_run 294 = .ok (.iload 12, 2) := by decide +kernel
theorem dL_run_296 : decode cL_run 296 = .ok (.bipush 10, 2) := by decide +kernel
theorem dL_run_298 : decode cL_run 298 = .ok (.iload 19, 2) := by decide +kernel
theorem dL_run_300 : decode cL_run 300 = .ok (.imul, 1) := by decide +kernel
theorem dL_run_301 : decode cL_run 301 = .ok (.iconst 4, 1) := by decide +kernel
theorem dL_run_302 : decode cL_run 302 = .ok (.iadd, 1) := by decide +kernel
theorem dL_run_303 : decode cL_run 303 = .ok (.ishr, 1) := by decide +kernel
theorem dL_run_304 : decode cL_run 304 = .ok (.bipush 63, 2) := by decide +kernel
theorem dL_run_306 : decode cL_run 306 = .ok (.iand, 1) := by decide +kernel
theorem dL_run_307 : decode cL_run 307 = .ok (.istore 22, 2) := by decide +kernel
theorem dL_run_309 : decode cL_run 309 = .ok (.aload 9, 2) := by decide +kernel
theorem dL_run_311 : decode cL_run 311 = .ok (.iload 17, 2) := by decide +kernel
theorem dL_run_313 : decode cL_run 313 = .ok (.iload 16, 2) := by decide +kernel
theorem dL_run_315 : decode cL_run 315 = .ok (.iload 18, 2) := by decide +kernel
theorem dL_run_317 : decode cL_run 317 = .ok (.ishr, 1) := by decide +kernel
theorem dL_run_318 : decode cL_run 318 = .ok (.iconst 1, 1) := by decide +kernel
theorem dL_run_319 : decode cL_run 319 = .ok (.iand, 1) := by decide +kernel
theorem dL_run_320 : decode cL_run 320 = .ok (.iconst 1, 1) := by decide +kernel
theorem dL_run_321 : decode cL_run 321 = .ok (.if_icmp .eq 17, 3) := by decide +kernel
theorem dL_run_324 : decode cL_run 324 = .ok (.iload 16, 2) := by decide +kernel
theorem dL_run_326 : decode cL_run 326 = .ok (.bipush 8, 2) := by decide +kernel
theorem dL_run_328 : decode cL_run 328 = .ok (.iload 19, 2) := by decide +kernel
theorem dL_run_330 : decode cL_run 330 = .ok (.iadd, 1) := by decide +kernel
theorem dL_run_331 : decode cL_run 331 = .ok (.ishr, 1) := by decide +kernel
theorem dL_run_332 : decode cL_run 332 = .ok (.iconst 1, 1) := by decide +kernel
theorem dL_run_333 : decode cL_run 333 = .ok (.iand, 1) := by decide +kernel
theorem dL_run_334 : decode cL_run 334 = .ok (.iconst 1, 1) := by decide +kernel
theorem dL_run_335 : decode cL_run 335 = .ok (.if_icmp .ne 7, 3) := by decide +kernel
theorem dL_run_338 : decode cL_run 338 = .ok (.iconst 2, 1) := by decide +kernel
theorem dL_run_339 : decode cL_run 339 = .ok (.goto 52, 3) := by decide +kernel
theorem dL_run_342 : decode cL_run 342 = .ok (.iload 12, 2) := by decide +kernel
theorem dL_run_344 : decode cL_run 344 = .ok (.bipush 10, 2) := by decide +kernel
theorem dL_run_346 : decode cL_run 346 = .ok (.iload 19, 2) := by decide +kernel
theorem dL_run_348 : decode cL_run 348 = .ok (.imul, 1) := by decide +kernel
theorem dL_run_349 : decode cL_run 349 = .ok (.ishr, 1) := by decide +kernel
theorem dL_run_350 : decode cL_run 350 = .ok (.bipush 15, 2) := by decide +kernel
theorem dL_run_352 : decode cL_run 352 = .ok (.iand, 1) := by decide +kernel
theorem dL_run_353 : decode cL_run 353 = .ok (.iload 21, 2) := by decide +kernel
theorem dL_run_355 : decode cL_run 355 = .ok (.if_icmp .eq 7, 3) := by decide +kernel
theorem dL_run_358 : decode cL_run 358 = .ok (.iconst 3, 1) := by decide +kernel
theorem dL_run_359 : decode cL_run 359 = .ok (.goto 32, 3) := by decide +kernel
theorem dL_run_362 : decode cL_run 362 = .ok (.aload_n 1, 1) := by decide +kernel
theorem dL_run_363 : decode cL_run 363 = .ok (.iload 21, 2) := by decide +kernel
theorem dL_run_365 : decode cL_run 365 = .ok (.iload 20, 2) := by decide +kernel
theorem dL_run_367 : decode cL_run 367 = .ok (.invokestatic 63, 3) := by decide +kernel
theorem dL_run_370 : decode cL_run 370 = .ok (.ifCond .eq 16, 3) := by decide +kernel
theorem dL_run_373 : decode cL_run 373 = .ok (.aload_n 0, 1) := by decide +kernel
theorem dL_run_374 : decode cL_run 374 = .ok (.bipush 7, 2) := by decide +kernel
theorem dL_run_376 : decode cL_run 376 = .ok (.iaload, 1) := by decide +kernel
theorem dL_run_377 : decode cL_run 377 = .ok (.iload 20, 2) := by decide +kernel
theorem dL_run_379 : decode cL_run 379 = .ok (.ishr, 1) := by decide +kernel
theorem dL_run_380 : decode cL_run 380 = .ok (.iconst 1, 1) := by decide +kernel
theorem dL_run_381 : decode cL_run 381 = .ok (.iand, 1) := by decide +kernel
theorem dL_run_382 : decode cL_run 382 = .ok (.iconst 1, 1) := by decide +kernel
theorem dL_run_383 : decode cL_run 383 = .ok (.if_icmp .ne 7, 3) := by decide +kernel
theorem dL_run_386 : decode cL_run 386 = .ok (.iconst 4, 1) := by decide +kernel
theorem dL_run_387 : decode cL_run 387 = .ok (.goto 4, 3) := by decide +kernel
theorem dL_run_390 : decode cL_run 390 = .ok (.iconst 0, 1) := by decide +kernel
theorem dL_run_391 : decode cL_run 391 = .ok (.iastore, 1) := by decide +kernel
theorem dL_run_392 : decode cL_run 392 = .ok (.aload 9, 2) := by decide +kernel
theorem dL_run_394 : decode cL_run 394 = .ok (.iload 17, 2) := by decide +kernel
theorem dL_run_396 : decode cL_run 396 = .ok (.iaload, 1) := by decide +kernel
theorem dL_run_397 : decode cL_run 397 = .ok (.ifCond .eq 6, 3) := by decide +kernel
theorem dL_run_400 : decode cL_run 400 = .ok (.goto 203, 3) := by decide +kernel
theorem dL_run_403 : decode cL_run 403 = .ok (.aload 10, 2) := by decide +kernel
theorem dL_run_405 : decode cL_run 405 = .ok (.iload 17, 2) := by decide +kernel
theorem dL_run_407 : decode cL_run 407 = .ok (.aload_n 3, 1) := by decide +kernel
theorem dL_run_408 : decode cL_run 408 = .ok (.iload 19, 2) := by decide +kernel
theorem dL_run_410 : decode cL_run 410 = .ok (.iload 22, 2) := by decide +kernel
theorem dL_run_412 : decode cL_run 412 = .ok (.invokestatic 67, 3) := by decide +kernel
theorem dL_run_415 : decode cL_run 415 = .ok (.iconst 0, 1) := by decide +kernel
theorem dL_run_416 : decode cL_run 416 = .ok (.aload_n 1, 1) := by decide +kernel
theorem dL_run_417 : decode cL_run 417 = .ok (.iload 20, 2) := by decide +kernel
theorem dL_run_419 : decode cL_run 419 = .ok (.iaload, 1) := by decide +kernel
theorem dL_run_420 : decode cL_run 420 = .ok (.aload_n 1, 1) := by decide +kernel
theorem dL_run_421 : decode cL_run 421 = .ok (.iload 21, 2) := by decide +kernel
theorem dL_run_423 : decode cL_run 423 = .ok (.iaload, 1) := by decide +kernel
theorem dL_run_424 : decode cL_run 424 = .ok (.isub, 1) := by decide +kernel
theorem dL_run_425 : decode cL_run 425 = .ok (.invokestatic 71, 3) := by decide +kernel
theorem dL_run_428 : decode cL_run 428 = .ok (.iadd, 1) := by decide +kernel
theorem dL_run_429 : decode cL_run 429 = .ok (.iastore, 1) := by decide +kernel
theorem dL_run_430 : decode cL_run 430 = .ok (.aload 10, 2) := by decide +kernel
theorem dL_run_432 : decode cL_run 432 = .ok (.iload 17, 2) := by decide +kernel
theorem dL_run_434 : decode cL_run 434 = .ok (.iaload, 1) := by decide +kernel
theorem dL_run_435 : decode cL_run 435 = .ok (.aload_n 2, 1) := by decide +kernel
theorem dL_run_436 : decode cL_run 436 = .ok (.iconst 2, 1) := by decide +kernel
theorem dL_run_437 : decode cL_run 437 = .ok (.iload 18, 2) := by decide +kernel
theorem dL_run_439 : decode cL_run 439 = .ok (.imul, 1) := by decide +kernel
theorem dL_run_440 : decode cL_run 440 = .ok (.iconst 1, 1) := by decide +kernel
theorem dL_run_441 : decode cL_run 441 = .ok (.iadd, 1) := by decide +kernel
theorem dL_run_442 : decode cL_run 442 = .ok (.iaload, 1) := by decide +kernel
theorem dL_run_443 : decode cL_run 443 = .ok (.if_icmp .le 12, 3) := by decide +kernel
theorem dL_run_446 : decode cL_run 446 = .ok (.aload 9, 2) := by decide +kernel
theorem dL_run_448 : decode cL_run 448 = .ok (.iload 17, 2) := by decide +kernel
theorem dL_run_450 : decode cL_run 450 = .ok (.iconst 5, 1) := by decide +kernel
theorem dL_run_451 : decode cL_run 451 = .ok (.iastore, 1) := by decide +kernel
theorem dL_run_452 : decode cL_run 452 = .ok (.goto 151, 3) := by decide +kernel
theorem dL_run_455 : decode cL_run 455 = .ok (.iload 16, 2) := by decide +kernel
theorem dL_run_457 : decode cL_run 457 = .ok (.iconst 1, 1) := by decide +kernel
theorem dL_run_458 : decode cL_run 458 = .ok (.iload 18, 2) := by decide +kernel
theorem dL_run_460 : decode cL_run 460 = .ok (.ishl, 1) := by decide +kernel
theorem dL_run_461 : decode cL_run 461 = .ok (.iconst 1, 1) := by decide +kernel
theorem dL_run_462 : decode cL_run 462 = .ok (.bipush 8, 2) := by decide +kernel
theorem dL_run_464 : decode cL_run 464 = .ok (.iload 19, 2) := by decide +kernel
theorem dL_run_466 : decode cL_run 466 = .ok (.iadd, 1) := by decide +kernel
theorem dL_run_467 : decode cL_run 467 = .ok (.ishl, 1) := by decide +kernel
theorem dL_run_468 : decode cL_run 468 = .ok (.ior, 1) := by decide +kernel
theorem dL_run_469 : decode cL_run 469 = .ok (.ior, 1) := by decide +kernel
theorem dL_run_470 : decode cL_run 470 = .ok (.istore 16, 2) := by decide +kernel
theorem dL_run_472 : decode cL_run 472 = .ok (.aload_n 0, 1) := by decide +kernel
theorem dL_run_473 : decode cL_run 473 = .ok (.bipush 6, 2) := by decide +kernel
theorem dL_run_475 : decode cL_run 475 = .ok (.iaload, 1) := by decide +kernel
theorem dL_run_476 : decode cL_run 476 = .ok (.iload 15, 2) := by decide +kernel
theorem dL_run_478 : decode cL_run 478 = .ok (.ishr, 1) := by decide +kernel
theorem dL_run_479 : decode cL_run 479 = .ok (.iconst 1, 1) := by decide +kernel
theorem dL_run_480 : decode cL_run 480 = .ok (.iand, 1) := by decide +kernel
theorem dL_run_481 : decode cL_run 481 = .ok (.iconst 1, 1) := by decide +kernel
theorem dL_run_482 : decode cL_run 482 = .ok (.if_icmp .ne 14, 3) := by decide +kernel
theorem dL_run_485 : decode cL_run 485 = .ok (.aload_n 3, 1) := by decide +kernel
theorem dL_run_486 : decode cL_run 486 = .ok (.iload 19, 2) := by decide +kernel
theorem dL_run_488 : decode cL_run 488 = .ok (.iload 22, 2) := by decide +kernel
theorem dL_run_490 : decode cL_run 490 = .ok (.iconst 1, 1) := by decide +kernel
theorem dL_run_491 : decode cL_run 491 = .ok (.invokestatic 75, 3) := by decide +kernel
theorem dL_run_494 : decode cL_run 494 = .ok (.istore 22, 2) := by decide +kernel
theorem dL_run_496 : decode cL_run 496 = .ok (.aload 14, 2) := by decide +kernel
theorem dL_run_498 : decode cL_run 498 = .ok (.iload 19, 2) := by decide +kernel
theorem dL_run_500 : decode cL_run 500 = .ok (.dup2, 1) := by decide +kernel
theorem dL_run_501 : decode cL_run 501 = .ok (.laload, 1) := by decide +kernel
theorem dL_run_502 : decode cL_run 502 = .ok (.iload 22, 2) := by decide +kernel
theorem dL_run_504 : decode cL_run 504 = .ok (.i2l, 1) := by decide +kernel
theorem dL_run_505 : decode cL_run 505 = .ok (.bipush 6, 2) := by decide +kernel
theorem dL_run_507 : decode cL_run 507 = .ok (.iload 20, 2) := by decide +kernel
theorem dL_run_509 : decode cL_run 509 = .ok (.imul, 1) := by decide +kernel
theorem dL_run_510 : decode cL_run 510 = .ok (.lshl, 1) := by decide +kernel
theorem dL_run_511 : decode cL_run 511 = .ok (.lor, 1) := by decide +kernel
theorem dL_run_512 : decode cL_run 512 = .ok (.lastore, 1) := by decide +kernel
theorem dL_run_513 : decode cL_run 513 = .ok (.aload 13, 2) := by decide +kernel
theorem dL_run_515 : decode cL_run 515 = .ok (.iload 19, 2) := by decide +kernel
theorem dL_run_517 : decode cL_run 517 = .ok (.iaload, 1) := by decide +kernel
theorem dL_run_518 : decode cL_run 518 = .ok (.iload 20, 2) := by decide +kernel
theorem dL_run_520 : decode cL_run 520 = .ok (.ishr, 1) := by decide +kernel
theorem dL_run_521 : decode cL_run 521 = .ok (.iconst 1, 1) := by decide +kernel
theorem dL_run_522 : decode cL_run 522 = .ok (.iand, 1) := by decide +kernel
theorem dL_run_523 : decode cL_run 523 = .ok (.ifCond .ne 16, 3) := by decide +kernel
theorem dL_run_526 : decode cL_run 526 = .ok (.aload_n 3, 1) := by decide +kernel
theorem dL_run_527 : decode cL_run 527 = .ok (.iload 19, 2) := by decide +kernel
theorem dL_run_529 : decode cL_run 529 = .ok (.iload 22, 2) := by decide +kernel
theorem dL_run_531 : decode cL_run 531 = .ok (.aload_n 0, 1) := by decide +kernel
theorem dL_run_532 : decode cL_run 532 = .ok (.iconst 1, 1) := by decide +kernel
theorem dL_run_533 : decode cL_run 533 = .ok (.iaload, 1) := by decide +kernel
theorem dL_run_534 : decode cL_run 534 = .ok (.invokestatic 75, 3) := by decide +kernel
theorem dL_run_537 : decode cL_run 537 = .ok (.istore 22, 2) := by decide +kernel
theorem dL_run_539 : decode cL_run 539 = .ok (.aload 13, 2) := by decide +kernel
theorem dL_run_541 : decode cL_run 541 = .ok (.iload 19, 2) := by decide +kernel
theorem dL_run_543 : decode cL_run 543 = .ok (.dup2, 1) := by decide +kernel
theorem dL_run_544 : decode cL_run 544 = .ok (.iaload, 1) := by decide +kernel
theorem dL_run_545 : decode cL_run 545 = .ok (.iconst 1, 1) := by decide +kernel
theorem dL_run_546 : decode cL_run 546 = .ok (.iload 20, 2) := by decide +kernel
theorem dL_run_548 : decode cL_run 548 = .ok (.ishl, 1) := by decide +kernel
theorem dL_run_549 : decode cL_run 549 = .ok (.ior, 1) := by decide +kernel
theorem dL_run_550 : decode cL_run 550 = .ok (.iastore, 1) := by decide +kernel
theorem dL_run_551 : decode cL_run 551 = .ok (.iload 11, 2) := by decide +kernel
theorem dL_run_553 : decode cL_run 553 = .ok (.bipush 15, 2) := by decide +kernel
theorem dL_run_555 : decode cL_run 555 = .ok (.iconst 4, 1) := by decide +kernel
theorem dL_run_556 : decode cL_run 556 = .ok (.iload 18, 2) := by decide +kernel
theorem dL_run_558 : decode cL_run 558 = .ok (.imul, 1) := by decide +kernel
theorem dL_run_559 : decode cL_run 559 = .ok (.ishl, 1) := by decide +kernel
theorem dL_run_560 : decode cL_run 560 = .ok (.iconst (-1), 1) := by decide +kernel
theorem dL_run_561 : decode cL_run 561 = .ok (.ixor, 1) := by decide +kernel
theorem dL_run_562 : decode cL_run 562 = .ok (.iand, 1) := by decide +kernel
theorem dL_run_563 : decode cL_run 563 = .ok (.iload 20, 2) := by decide +kernel
theorem dL_run_565 : decode cL_run 565 = .ok (.iconst 4, 1) := by decide +kernel
theorem dL_run_566 : decode cL_run 566 = .ok (.iload 18, 2) := by decide +kernel
theorem dL_run_568 : decode cL_run 568 = .ok (.imul, 1) := by decide +kernel
theorem dL_run_569 : decode cL_run 569 = .ok (.ishl, 1) := by decide +kernel
theorem dL_run_570 : decode cL_run 570 = .ok (.ior, 1) := by decide +kernel
theorem dL_run_571 : decode cL_run 571 = .ok (.istore 11, 2) := by decide +kernel
theorem dL_run_573 : decode cL_run 573 = .ok (.iload 12, 2) := by decide +kernel
theorem dL_run_575 : decode cL_run 575 = .ok (.sipush 1023, 3) := by decide +kernel
theorem dL_run_578 : decode cL_run 578 = .ok (.bipush 10, 2) := by decide +kernel
theorem dL_run_580 : decode cL_run 580 = .ok (.iload 19, 2) := by decide +kernel
theorem dL_run_582 : decode cL_run 582 = .ok (.imul, 1) := by decide +kernel
theorem dL_run_583 : decode cL_run 583 = .ok (.ishl, 1) := by decide +kernel
theorem dL_run_584 : decode cL_run 584 = .ok (.iconst (-1), 1) := by decide +kernel
theorem dL_run_585 : decode cL_run 585 = .ok (.ixor, 1) := by decide +kernel
theorem dL_run_586 : decode cL_run 586 = .ok (.iand, 1) := by decide +kernel
theorem dL_run_587 : decode cL_run 587 = .ok (.iload 20, 2) := by decide +kernel
theorem dL_run_589 : decode cL_run 589 = .ok (.iload 22, 2) := by decide +kernel
theorem dL_run_591 : decode cL_run 591 = .ok (.iconst 4, 1) := by decide +kernel
theorem dL_run_592 : decode cL_run 592 = .ok (.ishl, 1) := by decide +kernel
theorem dL_run_593 : decode cL_run 593 = .ok (.ior, 1) := by decide +kernel
theorem dL_run_594 : decode cL_run 594 = .ok (.bipush 10, 2) := by decide +kernel
theorem dL_run_596 : decode cL_run 596 = .ok (.iload 19, 2) := by decide +kernel
theorem dL_run_598 : decode cL_run 598 = .ok (.imul, 1) := by decide +kernel
theorem dL_run_599 : decode cL_run 599 = .ok (.ishl, 1) := by decide +kernel
theorem dL_run_600 : decode cL_run 600 = .ok (.ior, 1) := by decide +kernel
theorem dL_run_601 : decode cL_run 601 = .ok (.istore 12, 2) := by decide +kernel
theorem dL_run_603 : decode cL_run 603 = .ok (.iinc 17 1, 3) := by decide +kernel
theorem dL_run_606 : decode cL_run 606 = .ok (.goto (-388), 3) := by decide +kernel
theorem dL_run_609 : decode cL_run 609 = .ok (.iinc 15 1, 3) := by decide +kernel
theorem dL_run_612 : decode cL_run 612 = .ok (.goto (-454), 3) := by decide +kernel
theorem dL_run_615 : decode cL_run 615 = .ok (.return_, 1) := by decide +kernel
theorem mokL_run : MOK yL_run cL_run 23 none 11 := ⟨w4_232, w1_0, ⟨by decide, by decide⟩, by decide +kernel, by decide⟩
abbrev miL_run : MI := (yL_run.cls, cL_run, 23, 2, false)
noncomputable def LL_run_1 : Sm Unit := dLoop (fun f => (sI (sR (sR (sI (sI (sR (sR (sR (sR (sR (sR (sR (sR (sR (sR (sR fr0 0 (gR f 0)) 1 (gR f 1)) 2 (gR f 2)) 3 (gR f 3)) 4 (gR f 4)) 5 (gR f 5)) 6 (gR f 6)) 7 (gR f 7)) 8 (gR f 8)) 9 (gR f 9)) 10 (gR f 10)) 11 (gI f 11)) 12 (gI f 12)) 13 (gR f 13)) 14 (gR f 14)) 15 (gI f 15))) (dCI r_lt (vI 15) (dAI (vR 0) (cI 3))) (dSetI 11 (d2 o_ior (vI 11) (d2 o_ishl (dAI (vR 2) (d2 o_imul (cI 2) (vI 15))) (d2 o_imul (cI 4) (vI 15))))) (dInc 15 1)
theorem sLL_run_1 {ΓL : Gm} {PB PK : List Nat} : SS (cvoV, .return_) miL_run ΓL PB PK [(0, 2), (1, 2), (2, 2), (3, 2), (4, 2), (5, 2), (6, 2), (7, 2), (8, 2), (9, 2), (10, 2), (11, 0), (12, 0), (13, 2), (14, 2), (15, 0)] [(0, 2), (1, 2), (2, 2), (3, 2), (4, 2), (5, 2), (6, 2), (7, 2), (8, 2), (9, 2), (10, 2), (11, 0), (12, 0), (13, 2), (14, 2), (15, 0)] 19 [49] LL_run_1 := t_loop (pT := 27) (pF := 49) (pu := 43) (PB' := []) (PK' := []) (XB := [43]) (XU := [46]) (fun _ _ => rfl) rfl (c_lt_F (pF := 49) (s_iload dL_run_19 rfl) (s_dAI (s_aload_n dL_run_21 rfl rfl) (s_iconst dL_run_22 rfl) dL_run_23) dL_run_24 rfl) (t_istore (s_ior (s_iload dL_run_27 rfl) (s_ishl (s_dAI (s_aload_n dL_run_29 rfl rfl) (s_imul (s_iconst dL_run_30 rfl) (s_iload dL_run_31 rfl) dL_run_33) dL_run_34) (s_imul (s_iconst dL_run_35 rfl) (s_iload dL_run_36 rfl) dL_run_38) dL_run_39) dL_run_40) dL_run_41 rfl rfl) (t_iinc dL_run_43 rfl rfl rfl rfl) (lda_cons (ld_in rfl) lda_nil) lda_nil (lda_cons (ld_goto (y := 19) dL_run_46 rfl (ld_in rfl)) lda_nil) (ld_in rfl) lda_nil
noncomputable def LL_run_2 : Sm Unit := dLoop (fun f => (sI (sR (sR (sI (sI (sR (sR (sR (sR (sR (sR (sR (sR (sR (sR (sR fr0 0 (gR f 0)) 1 (gR f 1)) 2 (gR f 2)) 3 (gR f 3)) 4 (gR f 4)) 5 (gR f 5)) 6 (gR f 6)) 7 (gR f 7)) 8 (gR f 8)) 9 (gR f 9)) 10 (gR f 10)) 11 (gI f 11)) 12 (gI f 12)) 13 (gR f 13)) 14 (gR f 14)) 15 (gI f 15))) (dCI r_lt (vI 15) (dAI (vR 0) (cI 4))) (dSeq (dSetI 12 (d2 o_ior (vI 12) (d2 o_ishl (d2 o_ior (dAI (vR 5) (vI 15)) (d2 o_ishl (dAI (vR 5) (d2 o_iadd (cI 3) (vI 15))) (cI 4))) (d2 o_imul (cI 10) (vI 15))))) (dSeq (d3 (stI 13 idI) (vR 13) (vI 15) (d2 o_ishl (cI 1) (dAI (vR 5) (vI 15)))) (d3 stL (vR 14) (vI 15) (d2 o_lshl (d1 o_i2l (dAI (vR 5) (d2 o_iadd (cI 3) (vI 15)))) (d2 o_imul (cI 6) (dAI (vR 5) (vI 15))))))) (dInc 15 1)
theorem sLL_run_2 {ΓL : Gm} {PB PK : List Nat} : SS (cvoV, .return_) miL_run ΓL PB PK [(0, 2), (1, 2), (2, 2), (3, 2), (4, 2), (5, 2), (6, 2), (7, 2), (8, 2), (9, 2), (10, 2), (11, 0), (12, 0), (13, 2), (14, 2), (15, 0)] [(0, 2), (1, 2), (2, 2), (3, 2), (4, 2), (5, 2), (6, 2), (7, 2), (8, 2), (9, 2), (10, 2), (11, 0), (12, 0), (13, 2), (14, 2), (15, 0)] 52 [126] LL_run_2 := t_loop (pT := 60) (pF := 126) (pu := 120) (PB' := []) (PK' := []) (XB := [120]) (XU := [123]) (fun _ _ => rfl) rfl (c_lt_F (pF := 126) (s_iload dL_run_52 rfl) (s_dAI (s_aload_n dL_run_54 rfl rfl) (s_iconst dL_run_55 rfl) dL_run_56) dL_run_57 rfl) (t_sq (p1 := 86) (Γ' := [(0, 2), (1, 2), (2, 2), (3, 2), (4, 2), (5, 2), (6, 2), (7, 2), (8, 2), (9, 2), (10, 2), (11, 0), (12, 0), (13, 2), (14, 2), (15, 0)]) (t_istore (s_ior (s_iload dL_run_60 rfl) (s_ishl (s_ior (s_dAI (s_aload dL_run_62 rfl) (s_iload dL_run_64 rfl) dL_run_66) (s_ishl (s_dAI (s_aload dL_run_67 rfl) (s_iadd (s_iconst dL_run_69 rfl) (s_iload dL_run_70 rfl) dL_run_72) dL_run_73) (s_iconst dL_run_74 rfl) dL_run_75) dL_run_76) (s_imul (s_bipush dL_run_77 rfl) (s_iload dL_run_79 rfl) dL_run_81) dL_run_82) dL_run_83) dL_run_84 rfl rfl) (t_sq (p1 := 98) (Γ' := [(0, 2), (1, 2), (2, 2), (3, 2), (4, 2), (5, 2), (6, 2), (7, 2), (8, 2), (9, 2), (10, 2), (11, 0), (12, 0), (13, 2), (14, 2), (15, 0)]) (t_stI (s_aload dL_run_86 rfl) (s_iload dL_run_88 rfl) (s_ishl (s_iconst dL_run_90 rfl) (s_dAI (s_aload dL_run_91 rfl) (s_iload dL_run_93 rfl) dL_run_95) dL_run_96) dL_run_97 rfl) (t_stL (s_aload dL_run_98 rfl) (s_iload dL_run_100 rfl) (s_lshl (s_i2l (s_dAI (s_aload dL_run_102 rfl) (s_iadd (s_iconst dL_run_104 rfl) (s_iload dL_run_105 rfl) dL_run_107) dL_run_108) dL_run_109) (s_imul (s_bipush dL_run_110 rfl) (s_dAI (s_aload dL_run_112 rfl) (s_iload dL_run_114 rfl) dL_run_116) dL_run_117) dL_run_118) dL_run_119 rfl))) (t_iinc dL_run_120 rfl rfl rfl rfl) (lda_cons (ld_in rfl) lda_nil) lda_nil (lda_cons (ld_goto (y := 52) dL_run_123 rfl (ld_in rfl)) lda_nil) (ld_in rfl) lda_nil
noncomputable def LL_run_3 : Sm Unit := dLoop (fun f => (sI (sR (sR (sI (sI (sR (sR (sR (sR (sR (sR (sR (sR (sR (sR (sR fr0 0 (gR f 0)) 1 (gR f 1)) 2 (gR f 2)) 3 (gR f 3)) 4 (gR f 4)) 5 (gR f 5)) 6 (gR f 6)) 7 (gR f 7)) 8 (gR f 8)) 9 (gR f 9)) 10 (gR f 10)) 11 (gI f 11)) 12 (gI f 12)) 13 (gR f 13)) 14 (gR f 14)) 15 (gI f 15))) (dCI r_lt (vI 15) (dAI (vR 0) (cI 5))) (dSeq (d3 (stI 13 idI) (vR 9) (vI 15) (cI 1)) (d3 (stI 13 idI) (vR 10) (vI 15) (cI 0))) (dInc 15 1)
theorem sLL_run_3 {ΓL : Gm} {PB PK : List Nat} : SS (cvoV, .return_) miL_run ΓL PB PK [(0, 2), (1, 2), (2, 2), (3, 2), (4, 2), (5, 2), (6, 2), (7, 2), (8, 2), (9, 2), (10, 2), (11, 0), (12, 0), (13, 2), (14, 2), (15, 0)] [(0, 2), (1, 2), (2, 2), (3, 2), (4, 2), (5, 2), (6, 2), (7, 2), (8, 2), (9, 2), (10, 2), (11, 0), (12, 0), (13, 2), (14, 2), (15, 0)] 129 [155] LL_run_3 := t_loop (pT := 137) (pF := 155) (pu := 149) (PB' := []) (PK' := []) (XB := [149]) (XU := [152]) (fun _ _ => rfl) rfl (c_lt_F (pF := 155) (s_iload dL_run_129 rfl) (s_dAI (s_aload_n dL_run_131 rfl rfl) (s_iconst dL_run_132 rfl) dL_run_133) dL_run_134 rfl) (t_sq (p1 := 143) (Γ' := [(0, 2), (1, 2), (2, 2), (3, 2), (4, 2), (5, 2), (6, 2), (7, 2), (8, 2), (9, 2), (10, 2), (11, 0), (12, 0), (13, 2), (14, 2), (15, 0)]) (t_stI (s_aload dL_run_137 rfl) (s_iload dL_run_139 rfl) (s_iconst dL_run_141 rfl) dL_run_142 rfl) (t_stI (s_aload dL_run_143 rfl) (s_iload dL_run_145 rfl) (s_iconst dL_run_147 rfl) dL_run_148 rfl)) (t_iinc dL_run_149 rfl rfl rfl rfl) (lda_cons (ld_in rfl) lda_nil) lda_nil (lda_cons (ld_goto (y := 129) dL_run_152 rfl (ld_in rfl)) lda_nil) (ld_in rfl) lda_nil
noncomputable def LL_run_4 : Sm Unit := dLoop (fun f => (sI (sI (sR (sR (sI (sI (sR (sR (sR (sR (sR (sR (sR (sR (sR (sR (sR fr0 0 (gR f 0)) 1 (gR f 1)) 2 (gR f 2)) 3 (gR f 3)) 4 (gR f 4)) 5 (gR f 5)) 6 (gR f 6)) 7 (gR f 7)) 8 (gR f 8)) 9 (gR f 9)) 10 (gR f 10)) 11 (gI f 11)) 12 (gI f 12)) 13 (gR f 13)) 14 (gR f 14)) 15 (gI f 15)) 16 (gI f 16))) (dCI r_lt (vI 16) (dAI (vR 0) (cI 4))) (d3 stL (vR 8) (d2 o_iadd (d2 o_imul (cI 3) (vI 15)) (vI 16)) (dAL (vR 14) (vI 16))) (dInc 16 1)
theorem sLL_run_4 {ΓL : Gm} {PB PK : List Nat} : SS (cvoV, .return_) miL_run ΓL PB PK [(0, 2), (1, 2), (2, 2), (3, 2), (4, 2), (5, 2), (6, 2), (7, 2), (8, 2), (9, 2), (10, 2), (11, 0), (12, 0), (13, 2), (14, 2), (15, 0), (16, 0)] [(0, 2), (1, 2), (2, 2), (3, 2), (4, 2), (5, 2), (6, 2), (7, 2), (8, 2), (9, 2), (10, 2), (11, 0), (12, 0), (13, 2), (14, 2), (15, 0), (16, 0)] 183 [212] LL_run_4 := t_loop (pT := 191) (pF := 212) (pu := 206) (PB' := []) (PK' := []) (XB := [206]) (XU := [209]) (fun _ _ => rfl) rfl (c_lt_F (pF := 212) (s_iload dL_run_183 rfl) (s_dAI (s_aload_n dL_run_185 rfl rfl) (s_iconst dL_run_186 rfl) dL_run_187) dL_run_188 rfl) (t_stL (s_aload dL_run_191 rfl) (s_iadd (s_imul (s_iconst dL_run_193 rfl) (s_iload dL_run_194 rfl) dL_run_196) (s_iload dL_run_197 rfl) dL_run_199) (s_dAL (s_aload dL_run_200 rfl) (s_iload dL_run_202 rfl) dL_run_204) dL_run_205 rfl) (t_iinc dL_run_206 rfl rfl rfl rfl) (lda_cons (ld_in rfl) lda_nil) lda_nil (lda_cons (ld_goto (y := 183) dL_run_209 rfl (ld_in rfl)) lda_nil) (ld_in rfl) lda_nil
noncomputable def LL_run_5 : Sm Unit := dLoop (fun f => (sI (sI (sI (sR (sR (sI (sI (sR (sR (sR (sR (sR (sR (sR (sR (sR (sR (sR fr0 0 (gR f 0)) 1 (gR f 1)) 2 (gR f 2)) 3 (gR f 3)) 4 (gR f 4)) 5 (gR f 5)) 6 (gR f 6)) 7 (gR f 7)) 8 (gR f 8)) 9 (gR f 9)) 10 (gR f 10)) 11 (gI f 11)) 12 (gI f 12)) 13 (gR f 13)) 14 (gR f 14)) 15 (gI f 15)) 16 (gI f 16)) 17 (gI f 17))) (dAnd (dCI r_lt (vI 17) (dAI (vR 0) (cI 5))) (dCI r_lt (vI 15) (dAI (vR 0) (cI 0)))) (dSeq (dIf (dCI r_ne (dAI (vR 4) (d2 o_iadd (d2 o_imul (cI 4) (vI 17)) (cI 3))) (vI 15)) dCnt dSkip) (dSeq (dSetI 18 (dAI (vR 4) (d2 o_imul (cI 4) (vI 17)))) (dSeq (dSetI 19 (dAI (vR 4) (d2 o_iadd (d2 o_imul (cI 4) (vI 17)) (cI 1)))) (dSeq (dSetI 20 (dAI (vR 4) (d2 o_iadd (d2 o_imul (cI 4) (vI 17)) (cI 2)))) (dSeq (dSetI 21 (d2 o_iand (d2 o_ishr (vI 11) (d2 o_imul (cI 4) (vI 18))) (cI 15))) (dSeq (dSetI 22 (d2 o_iand (d2 o_ishr (vI 12) (d2 o_iadd (d2 o_imul (cI 10) (vI 19)) (cI 4))) (cI 63))) (dSeq (d3 (stI 13 idI) (vR 9) (vI 17) (dT (dOr (dCI r_eq (d2 o_iand (d2 o_ishr (vI 16) (vI 18)) (cI 1)) (cI 1)) (dCI r_eq (d2 o_iand (d2 o_ishr (vI 16) (d2 o_iadd (cI 8) (vI 19))) (cI 1)) (cI 1))) (cI 2) (dT (dCI r_ne (d2 o_iand (d2 o_ishr (vI 12) (d2 o_imul (cI 10) (vI 19))) (cI 15)) (vI 21)) (cI 3) (dT (dOr (dNot (dCZ q_ne (dCall DL_door (aI (aI (aR aN 0 (vR 1)) 1 (vI 21)) 2 (vI 20))))) (dCI r_eq (d2 o_iand (d2 o_ishr (dAI (vR 0) (cI 7)) (vI 20)) (cI 1)) (cI 1))) (cI 4) (cI 0))))) (dSeq (dIf (dCZ q_ne (dAI (vR 9) (vI 17))) dCnt dSkip) (dSeq (d3 (stI 13 idI) (vR 10) (vI 17) (d2 o_iadd (dCall DL_heavy (aI (aI (aR aN 0 (vR 3)) 1 (vI 19)) 2 (vI 22))) (dCall DL_most (aI (aI aN 0 (cI 0)) 1 (d2 o_isub (dAI (vR 1) (vI 20)) (dAI (vR 1) (vI 21))))))) (dSeq (dIf (dCI r_gt (dAI (vR 10) (vI 17)) (dAI (vR 2) (d2 o_iadd (d2 o_imul (cI 2) (vI 18)) (cI 1)))) (dSeq (d3 (stI 13 idI) (vR 9) (vI 17) (cI 5)) dCnt) dSkip) (dSeq (dSetI 16 (d2 o_ior (vI 16) (d2 o_ior (d2 o_ishl (cI 1) (vI 18)) (d2 o_ishl (cI 1) (d2 o_iadd (cI 8) (vI 19)))))) (dSeq (dIf (dCI r_eq (d2 o_iand (d2 o_ishr (dAI (vR 0) (cI 6)) (vI 15)) (cI 1)) (cI 1)) (dSetI 22 (dCall DL_rub (aI (aI (aI (aR aN 0 (vR 3)) 1 (vI 19)) 2 (vI 22)) 3 (cI 1)))) dSkip) (dSeq (dUL o_lor (vR 14) (vI 19) (d2 o_lshl (d1 o_i2l (vI 22)) (d2 o_imul (cI 6) (vI 20)))) (dSeq (dIf (dCZ q_eq (d2 o_iand (d2 o_ishr (dAI (vR 13) (vI 19)) (vI 20)) (cI 1))) (dSetI 22 (dCall DL_rub (aI (aI (aI (aR aN 0 (vR 3)) 1 (vI 19)) 2 (vI 22)) 3 (dAI (vR 0) (cI 1))))) dSkip) (dSeq (dUA o_ior (vR 13) (vI 19) (d2 o_ishl (cI 1) (vI 20))) (dSeq (dSetI 11 (d2 o_ior (d2 o_iand (vI 11) (d2 o_ixor (d2 o_ishl (cI 15) (d2 o_imul (cI 4) (vI 18))) (cI (-1)))) (d2 o_ishl (vI 20) (d2 o_imul (cI 4) (vI 18))))) (dSetI 12 (d2 o_ior (d2 o_iand (vI 12) (d2 o_ixor (d2 o_ishl (cI 1023) (d2 o_imul (cI 10) (vI 19))) (cI (-1)))) (d2 o_ishl (d2 o_ior (vI 20) (d2 o_ishl (vI 22) (cI 4))) (d2 o_imul (cI 10) (vI 19))))))))))))))))))))) (dInc 17 1)
theorem sLL_run_5 {ΓL : Gm} {PB PK : List Nat} : SS (cvoV, .return_) miL_run ΓL PB PK [(0, 2), (1, 2), (2, 2), (3, 2), (4, 2), (5, 2), (6, 2), (7, 2), (8, 2), (9, 2), (10, 2), (11, 0), (12, 0), (13, 2), (14, 2), (15, 0), (16, 0), (17, 0)] [(0, 2), (1, 2), (2, 2), (3, 2), (4, 2), (5, 2), (6, 2), (7, 2), (8, 2), (9, 2), (10, 2), (11, 0), (12, 0), (13, 2), (14, 2), (15, 0), (16, 0), (17, 0)] 218 [609] LL_run_5 := t_loop (pT := 234) (pF := 609) (pu := 603) (PB' := []) (PK' := [603]) (XB := [603]) (XU := [606]) (fun _ _ => rfl) rfl (c_and (p1 := 226) (pT := 234) (pF := 609) (c_lt_F (pF := 609) (s_iload dL_run_218 rfl) (s_dAI (s_aload_n dL_run_220 rfl rfl) (s_iconst dL_run_221 rfl) dL_run_222) dL_run_223 rfl) (c_lt_F (pF := 609) (s_iload dL_run_226 rfl) (s_dAI (s_aload_n dL_run_228 rfl rfl) (s_iconst dL_run_229 rfl) dL_run_230) dL_run_231 rfl)) (t_sq (p1 := 251) (Γ' := [(0, 2), (1, 2), (2, 2), (3, 2), (4, 2), (5, 2), (6, 2), (7, 2), (8, 2), (9, 2), (10, 2), (11, 0), (12, 0), (13, 2), (14, 2), (15, 0), (16, 0), (17, 0)]) (t_if (pT := 248) (pF := 251) (X := [251]) (XA := []) (XB := [251]) (c_ne_F (pF := 251) (s_dAI (s_aload dL_run_234 rfl) (s_iadd (s_imul (s_iconst dL_run_236 rfl) (s_iload dL_run_237 rfl) dL_run_239) (s_iconst dL_run_240 rfl) dL_run_241) dL_run_242) (s_iload dL_run_243 rfl) dL_run_245 rfl) (t_cnt (ld_goto (y := 603) dL_run_248 rfl (ld_in rfl)) rfl) (t_skip (ld_in rfl) rfl) lda_nil (lda_cons (ld_in rfl) lda_nil)) (t_sq (p1 := 260) (Γ' := [(0, 2), (1, 2), (2, 2), (3, 2), (4, 2), (5, 2), (6, 2), (7, 2), (8, 2), (9, 2), (10, 2), (11, 0), (12, 0), (13, 2), (14, 2), (15, 0), (16, 0), (17, 0), (18, 0)]) (t_istore (s_dAI (s_aload dL_run_251 rfl) (s_imul (s_iconst dL_run_253 rfl) (s_iload dL_run_254 rfl) dL_run_256) dL_run_257) dL_run_258 rfl rfl) (t_sq (p1 := 271) (Γ' := [(0, 2), (1, 2), (2, 2), (3, 2), (4, 2), (5, 2), (6, 2), (7, 2), (8, 2), (9, 2), (10, 2), (11, 0), (12, 0), (13, 2), (14, 2), (15, 0), (16, 0), (17, 0), (18, 0), (19, 0)]) (t_istore (s_dAI (s_aload dL_run_260 rfl) (s_iadd (s_imul (s_iconst dL_run_262 rfl) (s_iload dL_run_263 rfl) dL_run_265) (s_iconst dL_run_266 rfl) dL_run_267) dL_run_268) dL_run_269 rfl rfl) (t_sq (p1 := 282) (Γ' := [(0, 2), (1, 2), (2, 2), (3, 2), (4, 2), (5, 2), (6, 2), (7, 2), (8, 2), (9, 2), (10, 2), (11, 0), (12, 0), (13, 2), (14, 2), (15, 0), (16, 0), (17, 0), (18, 0), (19, 0), (20, 0)]) (t_istore (s_dAI (s_aload dL_run_271 rfl) (s_iadd (s_imul (s_iconst dL_run_273 rfl) (s_iload dL_run_274 rfl) dL_run_276) (s_iconst dL_run_277 rfl) dL_run_278) dL_run_279) dL_run_280 rfl rfl) (t_sq (p1 := 294) (Γ' := [(0, 2), (1, 2), (2, 2), (3, 2), (4, 2), (5, 2), (6, 2), (7, 2), (8, 2), (9, 2), (10, 2), (11, 0), (12, 0), (13, 2), (14, 2), (15, 0), (16, 0), (17, 0), (18, 0), (19, 0), (20, 0), (21, 0)]) (t_istore (s_iand (s_ishr (s_iload dL_run_282 rfl) (s_imul (s_iconst dL_run_284 rfl) (s_iload dL_run_285 rfl) dL_run_287) dL_run_288) (s_bipush dL_run_289 rfl) dL_run_291) dL_run_292 rfl rfl) (t_sq (p1 := 309) (Γ' := [(0, 2), (1, 2), (2, 2), (3, 2), (4, 2), (5, 2), (6, 2), (7, 2), (8, 2), (9, 2), (10, 2), (11, 0), (12, 0), (13, 2), (14, 2), (15, 0), (16, 0), (17, 0), (18, 0), (19, 0), (20, 0), (21, 0), (22, 0)]) (t_istore (s_iand (s_ishr (s_iload dL_run_294 rfl) (s_iadd (s_imul (s_bipush dL_run_296 rfl) (s_iload dL_run_298 rfl) dL_run_300) (s_iconst dL_run_301 rfl) dL_run_302) dL_run_303) (s_bipush dL_run_304 rfl) dL_run_306) dL_run_307 rfl rfl) (t_sq (p1 := 392) (Γ' := [(0, 2), (1, 2), (2, 2), (3, 2), (4, 2), (5, 2), (6, 2), (7, 2), (8, 2), (9, 2), (10, 2), (11, 0), (12, 0), (13, 2), (14, 2), (15, 0), (16, 0), (17, 0), (18, 0), (19, 0), (20, 0), (21, 0), (22, 0)]) (t_stI (s_aload dL_run_309 rfl) (s_iload dL_run_311 rfl) (s_T (pT := 338) (pF := 342) (p1 := 339) (pe := 391) (c_or (p1 := 324) (pT := 338) (pF := 342) (c_eq_J (pT := 338) (s_iand (s_ishr (s_iload dL_run_313 rfl) (s_iload dL_run_315 rfl) dL_run_317) (s_iconst dL_run_318 rfl) dL_run_319) (s_iconst dL_run_320 rfl) dL_run_321 rfl) (c_eq_F (pF := 342) (s_iand (s_ishr (s_iload dL_run_324 rfl) (s_iadd (s_bipush dL_run_326 rfl) (s_iload dL_run_328 rfl) dL_run_330) dL_run_331) (s_iconst dL_run_332 rfl) dL_run_333) (s_iconst dL_run_334 rfl) dL_run_335 rfl)) (s_iconst dL_run_338 rfl) (s_T (pT := 358) (pF := 362) (p1 := 359) (pe := 391) (c_ne_F (pF := 362) (s_iand (s_ishr (s_iload dL_run_342 rfl) (s_imul (s_bipush dL_run_344 rfl) (s_iload dL_run_346 rfl) dL_run_348) dL_run_349) (s_bipush dL_run_350 rfl) dL_run_352) (s_iload dL_run_353 rfl) dL_run_355 rfl) (s_iconst dL_run_358 rfl) (s_T (pT := 386) (pF := 390) (p1 := 387) (pe := 391) (c_or (p1 := 373) (pT := 386) (pF := 390) (c_not (pT := 386) (pF := 373) (c_ne_ZF (pF := 386) (s_of_xI (x_call (ts := [(0, 2), (1, 0), (2, 0)]) kL_door mokL_door w4_234 rfl rfl rfl (a_I (ts := [(0, 2), (1, 0)]) 2 (a_I (ts := [(0, 2)]) 1 (a_R (ts := []) 0 a_nil (s_aload_n dL_run_362 rfl rfl) rfl) (s_iload dL_run_363 rfl) rfl) (s_iload dL_run_365 rfl) rfl) dL_run_367 w4_233)) dL_run_370 rfl)) (c_eq_F (pF := 390) (s_iand (s_ishr (s_dAI (s_aload_n dL_run_373 rfl rfl) (s_bipush dL_run_374 rfl) dL_run_376) (s_iload dL_run_377 rfl) dL_run_379) (s_iconst dL_run_380 rfl) dL_run_381) (s_iconst dL_run_382 rfl) dL_run_383 rfl)) (s_iconst dL_run_386 rfl) (s_iconst dL_run_390 rfl) (ld_goto (y := 391) dL_run_387 rfl (ld_in rfl))) (ld_goto (y := 391) dL_run_359 rfl (ld_in rfl))) (ld_goto (y := 391) dL_run_339 rfl (ld_in rfl))) dL_run_391 rfl) (t_sq (p1 := 403) (Γ' := [(0, 2), (1, 2), (2, 2), (3, 2), (4, 2), (5, 2), (6, 2), (7, 2), (8, 2), (9, 2), (10, 2), (11, 0), (12, 0), (13, 2), (14, 2), (15, 0), (16, 0), (17, 0), (18, 0), (19, 0), (20, 0), (21, 0), (22, 0)]) (t_if (pT := 400) (pF := 403) (X := [403]) (XA := []) (XB := [403]) (c_ne_ZF (pF := 403) (s_dAI (s_aload dL_run_392 rfl) (s_iload dL_run_394 rfl) dL_run_396) dL_run_397 rfl) (t_cnt (ld_goto (y := 603) dL_run_400 rfl (ld_in rfl)) rfl) (t_skip (ld_in rfl) rfl) lda_nil (lda_cons (ld_in rfl) lda_nil)) (t_sq (p1 := 430) (Γ' := [(0, 2), (1, 2), (2, 2), (3, 2), (4, 2), (5, 2), (6, 2), (7, 2), (8, 2), (9, 2), (10, 2), (11, 0), (12, 0), (13, 2), (14, 2), (15, 0), (16, 0), (17, 0), (18, 0), (19, 0), (20, 0), (21, 0), (22, 0)]) (t_stI (s_aload dL_run_403 rfl) (s_iload dL_run_405 rfl) (s_iadd (s_of_xI (x_call (ts := [(0, 2), (1, 0), (2, 0)]) kL_heavy mokL_heavy w4_237 rfl rfl rfl (a_I (ts := [(0, 2), (1, 0)]) 2 (a_I (ts := [(0, 2)]) 1 (a_R (ts := []) 0 a_nil (s_aload_n dL_run_407 rfl rfl) rfl) (s_iload dL_run_408 rfl) rfl) (s_iload dL_run_410 rfl) rfl) dL_run_412 w4_236)) (s_of_xI (x_call (ts := [(0, 0), (1, 0)]) kL_most mokL_most w5_0 rfl rfl rfl (a_I (ts := [(0, 0)]) 1 (a_I (ts := []) 0 a_nil (s_iconst dL_run_415 rfl) rfl) (s_isub (s_dAI (s_aload_n dL_run_416 rfl rfl) (s_iload dL_run_417 rfl) dL_run_419) (s_dAI (s_aload_n dL_run_420 rfl rfl) (s_iload dL_run_421 rfl) dL_run_423) dL_run_424) rfl) dL_run_425 w4_239)) dL_run_428) dL_run_429 rfl) (t_sq (p1 := 455) (Γ' := [(0, 2), (1, 2), (2, 2), (3, 2), (4, 2), (5, 2), (6, 2), (7, 2), (8, 2), (9, 2), (10, 2), (11, 0), (12, 0), (13, 2), (14, 2), (15, 0), (16, 0), (17, 0), (18, 0), (19, 0), (20, 0), (21, 0), (22, 0)]) (t_if (pT := 446) (pF := 455) (X := [455]) (XA := []) (XB := [455]) (c_gt_F (pF := 455) (s_dAI (s_aload dL_run_430 rfl) (s_iload dL_run_432 rfl) dL_run_434) (s_dAI (s_aload_n dL_run_435 rfl rfl) (s_iadd (s_imul (s_iconst dL_run_436 rfl) (s_iload dL_run_437 rfl) dL_run_439) (s_iconst dL_run_440 rfl) dL_run_441) dL_run_442) dL_run_443 rfl) (t_seq (XA := [452]) (Γ' := [(0, 2), (1, 2), (2, 2), (3, 2), (4, 2), (5, 2), (6, 2), (7, 2), (8, 2), (9, 2), (10, 2), (11, 0), (12, 0), (13, 2), (14, 2), (15, 0), (16, 0), (17, 0), (18, 0), (19, 0), (20, 0), (21, 0), (22, 0)]) (t_stI (s_aload dL_run_446 rfl) (s_iload dL_run_448 rfl) (s_iconst dL_run_450 rfl) dL_run_451 rfl) (tn_cons (t_cnt (ld_goto (y := 603) dL_run_452 rfl (ld_in rfl)) rfl) tn_nil) (fun _ _ _ _ _ q => by cases q; exact LE.rf _)) (t_skip (ld_in rfl) rfl) lda_nil (lda_cons (ld_in rfl) lda_nil)) (t_sq (p1 := 472) (Γ' := [(0, 2), (1, 2), (2, 2), (3, 2), (4, 2), (5, 2), (6, 2), (7, 2), (8, 2), (9, 2), (10, 2), (11, 0), (12, 0), (13, 2), (14, 2), (15, 0), (16, 0), (17, 0), (18, 0), (19, 0), (20, 0), (21, 0), (22, 0)]) (t_istore (s_ior (s_iload dL_run_455 rfl) (s_ior (s_ishl (s_iconst dL_run_457 rfl) (s_iload dL_run_458 rfl) dL_run_460) (s_ishl (s_iconst dL_run_461 rfl) (s_iadd (s_bipush dL_run_462 rfl) (s_iload dL_run_464 rfl) dL_run_466) dL_run_467) dL_run_468) dL_run_469) dL_run_470 rfl rfl) (t_sq (p1 := 496) (Γ' := [(0, 2), (1, 2), (2, 2), (3, 2), (4, 2), (5, 2), (6, 2), (7, 2), (8, 2), (9, 2), (10, 2), (11, 0), (12, 0), (13, 2), (14, 2), (15, 0), (16, 0), (17, 0), (18, 0), (19, 0), (20, 0), (21, 0), (22, 0)]) (t_if (pT := 485) (pF := 496) (X := [496]) (XA := [496]) (XB := [496]) (c_eq_F (pF := 496) (s_iand (s_ishr (s_dAI (s_aload_n dL_run_472 rfl rfl) (s_bipush dL_run_473 rfl) dL_run_475) (s_iload dL_run_476 rfl) dL_run_478) (s_iconst dL_run_479 rfl) dL_run_480) (s_iconst dL_run_481 rfl) dL_run_482 rfl) (t_istore (s_of_xI (x_call (ts := [(0, 2), (1, 0), (2, 0), (3, 0)]) kL_rub mokL_rub w5_3 rfl rfl rfl (a_I (ts := [(0, 2), (1, 0), (2, 0)]) 3 (a_I (ts := [(0, 2), (1, 0)]) 2 (a_I (ts := [(0, 2)]) 1 (a_R (ts := []) 0 a_nil (s_aload_n dL_run_485 rfl rfl) rfl) (s_iload dL_run_486 rfl) rfl) (s_iload dL_run_488 rfl) rfl) (s_iconst dL_run_490 rfl) rfl) dL_run_491 w5_2)) dL_run_494 rfl rfl) (t_skip (ld_in rfl) rfl) (lda_cons (ld_in rfl) lda_nil) (lda_cons (ld_in rfl) lda_nil)) (t_sq (p1 := 513) (Γ' := [(0, 2), (1, 2), (2, 2), (3, 2), (4, 2), (5, 2), (6, 2), (7, 2), (8, 2), (9, 2), (10, 2), (11, 0), (12, 0), (13, 2), (14, 2), (15, 0), (16, 0), (17, 0), (18, 0), (19, 0), (20, 0), (21, 0), (22, 0)]) (t_UL (s_aload dL_run_496 rfl) (s_iload dL_run_498 rfl) dL_run_500 dL_run_501 (s_lshl (s_i2l (s_iload dL_run_502 rfl) dL_run_504) (s_imul (s_bipush dL_run_505 rfl) (s_iload dL_run_507 rfl) dL_run_509) dL_run_510) (fun _ _ _ _ => rulI fun a b K => lv_lor a b dL_run_511 K) dL_run_512 rfl) (t_sq (p1 := 539) (Γ' := [(0, 2), (1, 2), (2, 2), (3, 2), (4, 2), (5, 2), (6, 2), (7, 2), (8, 2), (9, 2), (10, 2), (11, 0), (12, 0), (13, 2), (14, 2), (15, 0), (16, 0), (17, 0), (18, 0), (19, 0), (20, 0), (21, 0), (22, 0)]) (t_if (pT := 526) (pF := 539) (X := [539]) (XA := [539]) (XB := [539]) (c_eq_ZF (pF := 539) (s_iand (s_ishr (s_dAI (s_aload dL_run_513 rfl) (s_iload dL_run_515 rfl) dL_run_517) (s_iload dL_run_518 rfl) dL_run_520) (s_iconst dL_run_521 rfl) dL_run_522) dL_run_523 rfl) (t_istore (s_of_xI (x_call (ts := [(0, 2), (1, 0), (2, 0), (3, 0)]) kL_rub mokL_rub w5_3 rfl rfl rfl (a_I (ts := [(0, 2), (1, 0), (2, 0)]) 3 (a_I (ts := [(0, 2), (1, 0)]) 2 (a_I (ts := [(0, 2)]) 1 (a_R (ts := []) 0 a_nil (s_aload_n dL_run_526 rfl rfl) rfl) (s_iload dL_run_527 rfl) rfl) (s_iload dL_run_529 rfl) rfl) (s_dAI (s_aload_n dL_run_531 rfl rfl) (s_iconst dL_run_532 rfl) dL_run_533) rfl) dL_run_534 w5_2)) dL_run_537 rfl rfl) (t_skip (ld_in rfl) rfl) (lda_cons (ld_in rfl) lda_nil) (lda_cons (ld_in rfl) lda_nil)) (t_sq (p1 := 551) (Γ' := [(0, 2), (1, 2), (2, 2), (3, 2), (4, 2), (5, 2), (6, 2), (7, 2), (8, 2), (9, 2), (10, 2), (11, 0), (12, 0), (13, 2), (14, 2), (15, 0), (16, 0), (17, 0), (18, 0), (19, 0), (20, 0), (21, 0), (22, 0)]) (t_UA (s_aload dL_run_539 rfl) (s_iload dL_run_541 rfl) dL_run_543 dL_run_544 (s_ishl (s_iconst dL_run_545 rfl) (s_iload dL_run_546 rfl) dL_run_548) (fun _ _ _ _ => rulI fun a b K => lv_ior a b dL_run_549 K) dL_run_550 rfl) (t_sq (p1 := 573) (Γ' := [(0, 2), (1, 2), (2, 2), (3, 2), (4, 2), (5, 2), (6, 2), (7, 2), (8, 2), (9, 2), (10, 2), (11, 0), (12, 0), (13, 2), (14, 2), (15, 0), (16, 0), (17, 0), (18, 0), (19, 0), (20, 0), (21, 0), (22, 0)]) (t_istore (s_ior (s_iand (s_iload dL_run_551 rfl) (s_ixor (s_ishl (s_bipush dL_run_553 rfl) (s_imul (s_iconst dL_run_555 rfl) (s_iload dL_run_556 rfl) dL_run_558) dL_run_559) (s_iconst dL_run_560 rfl) dL_run_561) dL_run_562) (s_ishl (s_iload dL_run_563 rfl) (s_imul (s_iconst dL_run_565 rfl) (s_iload dL_run_566 rfl) dL_run_568) dL_run_569) dL_run_570) dL_run_571 rfl rfl) (t_istore (s_ior (s_iand (s_iload dL_run_573 rfl) (s_ixor (s_ishl (s_sipush dL_run_575 rfl) (s_imul (s_bipush dL_run_578 rfl) (s_iload dL_run_580 rfl) dL_run_582) dL_run_583) (s_iconst dL_run_584 rfl) dL_run_585) dL_run_586) (s_ishl (s_ior (s_iload dL_run_587 rfl) (s_ishl (s_iload dL_run_589 rfl) (s_iconst dL_run_591 rfl) dL_run_592) dL_run_593) (s_imul (s_bipush dL_run_594 rfl) (s_iload dL_run_596 rfl) dL_run_598) dL_run_599) dL_run_600) dL_run_601 rfl rfl))))))))))))))))) (t_iinc dL_run_603 rfl rfl rfl rfl) (lda_cons (ld_in rfl) lda_nil) (lda_cons (ld_in rfl) lda_nil) (lda_cons (ld_goto (y := 218) dL_run_606 rfl (ld_in rfl)) lda_nil) (ld_in rfl) lda_nil
noncomputable def LL_run_6 : Sm Unit := dLoop (fun f => (sI (sR (sR (sI (sI (sR (sR (sR (sR (sR (sR (sR (sR (sR (sR (sR fr0 0 (gR f 0)) 1 (gR f 1)) 2 (gR f 2)) 3 (gR f 3)) 4 (gR f 4)) 5 (gR f 5)) 6 (gR f 6)) 7 (gR f 7)) 8 (gR f 8)) 9 (gR f 9)) 10 (gR f 10)) 11 (gI f 11)) 12 (gI f 12)) 13 (gR f 13)) 14 (gR f 14)) 15 (gI f 15))) (dCI r_le (vI 15) (dAI (vR 0) (cI 0))) (dSeq (d3 (stI 13 idI) (vR 6) (vI 15) (vI 11)) (dSeq (d3 (stI 13 idI) (vR 7) (vI 15) (vI 12)) (dSeq (dSeq (dSetI 16 (cI 0)) LL_run_4) (dSeq (dSetI 16 (cI 0)) (dSeq (dSetI 17 (cI 0)) LL_run_5))))) (dInc 15 1)
theorem sLL_run_6 {ΓL : Gm} {PB PK : List Nat} : SS (cvoV, .return_) miL_run ΓL PB PK [(0, 2), (1, 2), (2, 2), (3, 2), (4, 2), (5, 2), (6, 2), (7, 2), (8, 2), (9, 2), (10, 2), (11, 0), (12, 0), (13, 2), (14, 2), (15, 0)] [(0, 2), (1, 2), (2, 2), (3, 2), (4, 2), (5, 2), (6, 2), (7, 2), (8, 2), (9, 2), (10, 2), (11, 0), (12, 0), (13, 2), (14, 2), (15, 0)] 158 [615] LL_run_6 := t_loop (pT := 166) (pF := 615) (pu := 609) (PB' := []) (PK' := []) (XB := [609]) (XU := [612]) (fun _ _ => rfl) rfl (c_le_F (pF := 615) (s_iload dL_run_158 rfl) (s_dAI (s_aload_n dL_run_160 rfl rfl) (s_iconst dL_run_161 rfl) dL_run_162) dL_run_163 rfl) (t_sq (p1 := 173) (Γ' := [(0, 2), (1, 2), (2, 2), (3, 2), (4, 2), (5, 2), (6, 2), (7, 2), (8, 2), (9, 2), (10, 2), (11, 0), (12, 0), (13, 2), (14, 2), (15, 0)]) (t_stI (s_aload dL_run_166 rfl) (s_iload dL_run_168 rfl) (s_iload dL_run_170 rfl) dL_run_172 rfl) (t_sq (p1 := 180) (Γ' := [(0, 2), (1, 2), (2, 2), (3, 2), (4, 2), (5, 2), (6, 2), (7, 2), (8, 2), (9, 2), (10, 2), (11, 0), (12, 0), (13, 2), (14, 2), (15, 0)]) (t_stI (s_aload dL_run_173 rfl) (s_iload dL_run_175 rfl) (s_iload dL_run_177 rfl) dL_run_179 rfl) (t_sq (p1 := 212) (Γ' := [(0, 2), (1, 2), (2, 2), (3, 2), (4, 2), (5, 2), (6, 2), (7, 2), (8, 2), (9, 2), (10, 2), (11, 0), (12, 0), (13, 2), (14, 2), (15, 0)]) (t_sq (p1 := 183) (Γ' := [(0, 2), (1, 2), (2, 2), (3, 2), (4, 2), (5, 2), (6, 2), (7, 2), (8, 2), (9, 2), (10, 2), (11, 0), (12, 0), (13, 2), (14, 2), (15, 0), (16, 0)]) (t_istore (s_iconst dL_run_180 rfl) dL_run_181 rfl rfl) (tn_to (Γ' := [(0, 2), (1, 2), (2, 2), (3, 2), (4, 2), (5, 2), (6, 2), (7, 2), (8, 2), (9, 2), (10, 2), (11, 0), (12, 0), (13, 2), (14, 2), (15, 0), (16, 0)]) (XA := [212]) sLL_run_4 (lda_cons (ld_in rfl) lda_nil) rfl)) (t_sq (p1 := 215) (Γ' := [(0, 2), (1, 2), (2, 2), (3, 2), (4, 2), (5, 2), (6, 2), (7, 2), (8, 2), (9, 2), (10, 2), (11, 0), (12, 0), (13, 2), (14, 2), (15, 0), (16, 0)]) (t_istore (s_iconst dL_run_212 rfl) dL_run_213 rfl rfl) (t_sq (p1 := 218) (Γ' := [(0, 2), (1, 2), (2, 2), (3, 2), (4, 2), (5, 2), (6, 2), (7, 2), (8, 2), (9, 2), (10, 2), (11, 0), (12, 0), (13, 2), (14, 2), (15, 0), (16, 0), (17, 0)]) (t_istore (s_iconst dL_run_215 rfl) dL_run_216 rfl rfl) (tn_to (Γ' := [(0, 2), (1, 2), (2, 2), (3, 2), (4, 2), (5, 2), (6, 2), (7, 2), (8, 2), (9, 2), (10, 2), (11, 0), (12, 0), (13, 2), (14, 2), (15, 0), (16, 0), (17, 0)]) (XA := [609]) sLL_run_5 (lda_cons (ld_in rfl) lda_nil) rfl)))))) (t_iinc dL_run_609 rfl rfl rfl rfl) (lda_cons (ld_in rfl) lda_nil) lda_nil (lda_cons (ld_goto (y := 158) dL_run_612 rfl (ld_in rfl)) lda_nil) (ld_in rfl) lda_nil
noncomputable def BL_run : Sm Unit := (dSeq (dSetI 11 (cI 0)) (dSeq (dSetI 12 (cI 0)) (dSeq (dSetR 13 (dNewA 0 (cI 3))) (dSeq (dSetR 14 (dNewA 3 (cI 3))) (dSeq (dSeq (dSetI 15 (cI 0)) LL_run_1) (dSeq (dSeq (dSetI 15 (cI 0)) LL_run_2) (dSeq (dSeq (dSetI 15 (cI 0)) LL_run_3) (dSeq (dSeq (dSetI 15 (cI 0)) LL_run_6) dRet0))))))))
theorem sBL_run : SS (cvoV, .return_) miL_run [] [] [] [(0, 2), (1, 2), (2, 2), (3, 2), (4, 2), (5, 2), (6, 2), (7, 2), (8, 2), (9, 2), (10, 2)] [(0, 2), (1, 2), (2, 2), (3, 2), (4, 2), (5, 2), (6, 2), (7, 2), (8, 2), (9, 2), (10, 2)] 0 [] BL_run := (t_sq (p1 := 3) (Γ' := [(0, 2), (1, 2), (2, 2), (3, 2), (4, 2), (5, 2), (6, 2), (7, 2), (8, 2), (9, 2), (10, 2), (11, 0)]) (t_istore (s_iconst dL_run_0 rfl) dL_run_1 rfl rfl) (t_sq (p1 := 6) (Γ' := [(0, 2), (1, 2), (2, 2), (3, 2), (4, 2), (5, 2), (6, 2), (7, 2), (8, 2), (9, 2), (10, 2), (11, 0), (12, 0)]) (t_istore (s_iconst dL_run_3 rfl) dL_run_4 rfl rfl) (t_sq (p1 := 11) (Γ' := [(0, 2), (1, 2), (2, 2), (3, 2), (4, 2), (5, 2), (6, 2), (7, 2), (8, 2), (9, 2), (10, 2), (11, 0), (12, 0), (13, 2)]) (t_astore (s_newI (s_iconst dL_run_6 rfl) dL_run_7 w1_123) dL_run_9 rfl rfl) (t_sq (p1 := 16) (Γ' := [(0, 2), (1, 2), (2, 2), (3, 2), (4, 2), (5, 2), (6, 2), (7, 2), (8, 2), (9, 2), (10, 2), (11, 0), (12, 0), (13, 2), (14, 2)]) (t_astore (s_newJ (s_iconst dL_run_11 rfl) dL_run_12 w1_238) dL_run_14 rfl rfl) (t_sq (p1 := 49) (Γ' := [(0, 2), (1, 2), (2, 2), (3, 2), (4, 2), (5, 2), (6, 2), (7, 2), (8, 2), (9, 2), (10, 2), (11, 0), (12, 0), (13, 2), (14, 2)]) (t_sq (p1 := 19) (Γ' := [(0, 2), (1, 2), (2, 2), (3, 2), (4, 2), (5, 2), (6, 2), (7, 2), (8, 2), (9, 2), (10, 2), (11, 0), (12, 0), (13, 2), (14, 2), (15, 0)]) (t_istore (s_iconst dL_run_16 rfl) dL_run_17 rfl rfl) (tn_to (Γ' := [(0, 2), (1, 2), (2, 2), (3, 2), (4, 2), (5, 2), (6, 2), (7, 2), (8, 2), (9, 2), (10, 2), (11, 0), (12, 0), (13, 2), (14, 2), (15, 0)]) (XA := [49]) sLL_run_1 (lda_cons (ld_in rfl) lda_nil) rfl)) (t_sq (p1 := 126) (Γ' := [(0, 2), (1, 2), (2, 2), (3, 2), (4, 2), (5, 2), (6, 2), (7, 2), (8, 2), (9, 2), (10, 2), (11, 0), (12, 0), (13, 2), (14, 2)]) (t_sq (p1 := 52) (Γ' := [(0, 2), (1, 2), (2, 2), (3, 2), (4, 2), (5, 2), (6, 2), (7, 2), (8, 2), (9, 2), (10, 2), (11, 0), (12, 0), (13, 2), (14, 2), (15, 0)]) (t_istore (s_iconst dL_run_49 rfl) dL_run_50 rfl rfl) (tn_to (Γ' := [(0, 2), (1, 2), (2, 2), (3, 2), (4, 2), (5, 2), (6, 2), (7, 2), (8, 2), (9, 2), (10, 2), (11, 0), (12, 0), (13, 2), (14, 2), (15, 0)]) (XA := [126]) sLL_run_2 (lda_cons (ld_in rfl) lda_nil) rfl)) (t_sq (p1 := 155) (Γ' := [(0, 2), (1, 2), (2, 2), (3, 2), (4, 2), (5, 2), (6, 2), (7, 2), (8, 2), (9, 2), (10, 2), (11, 0), (12, 0), (13, 2), (14, 2)]) (t_sq (p1 := 129) (Γ' := [(0, 2), (1, 2), (2, 2), (3, 2), (4, 2), (5, 2), (6, 2), (7, 2), (8, 2), (9, 2), (10, 2), (11, 0), (12, 0), (13, 2), (14, 2), (15, 0)]) (t_istore (s_iconst dL_run_126 rfl) dL_run_127 rfl rfl) (tn_to (Γ' := [(0, 2), (1, 2), (2, 2), (3, 2), (4, 2), (5, 2), (6, 2), (7, 2), (8, 2), (9, 2), (10, 2), (11, 0), (12, 0), (13, 2), (14, 2), (15, 0)]) (XA := [155]) sLL_run_3 (lda_cons (ld_in rfl) lda_nil) rfl)) (t_sq (p1 := 615) (Γ' := [(0, 2), (1, 2), (2, 2), (3, 2), (4, 2), (5, 2), (6, 2), (7, 2), (8, 2), (9, 2), (10, 2), (11, 0), (12, 0), (13, 2), (14, 2)]) (t_sq (p1 := 158) (Γ' := [(0, 2), (1, 2), (2, 2), (3, 2), (4, 2), (5, 2), (6, 2), (7, 2), (8, 2), (9, 2), (10, 2), (11, 0), (12, 0), (13, 2), (14, 2), (15, 0)]) (t_istore (s_iconst dL_run_155 rfl) dL_run_156 rfl rfl) (tn_to (Γ' := [(0, 2), (1, 2), (2, 2), (3, 2), (4, 2), (5, 2), (6, 2), (7, 2), (8, 2), (9, 2), (10, 2), (11, 0), (12, 0), (13, 2), (14, 2), (15, 0)]) (XA := [615]) sLL_run_6 (lda_cons (ld_in rfl) lda_nil) rfl)) (t_ret0 (fun _ _ => rfl) dL_run_615)))))))))
noncomputable def DL_run : Fr → St → Option (Unit × St) := M1 (fun f => (sR (sR (sR (sR (sR (sR (sR (sR (sR (sR (sR fr0 0 (gR f 0)) 1 (gR f 1)) 2 (gR f 2)) 3 (gR f 3)) 4 (gR f 4)) 5 (gR f 5)) 6 (gR f 6)) 7 (gR f 7)) 8 (gR f 8)) 9 (gR f 9)) 10 (gR f 10))) BL_run
theorem kL_run : SND yL_run cL_run 23 none 2 [(0, 2), (1, 2), (2, 2), (3, 2), (4, 2), (5, 2), (6, 2), (7, 2), (8, 2), (9, 2), (10, 2)] cvoV DL_run := snd_V (nw := 11) (by decide) (fun z => by cases z) rfl rfl (fun _ _ => rfl) sBL_run
theorem dL_lies_0 : decode cL_lies 0 = .ok (.iload_n 0, 1) := by decide +kernel
theorem dL_lies_1 : decode cL_lies 1 = .ok (.bipush 10, 2) := by decide +kernel
theorem dL_lies_3 : decode cL_lies 3 = .ok (.iload_n 1, 1) := by decide +kernel
theorem dL_lies_4 : decode cL_lies 4 = .ok (.imul, 1) := by decide +kernel
theorem dL_lies_5 : decode cL_lies 5 = .ok (.ishr, 1) := by decide +kernel
theorem dL_lies_6 : decode cL_lies 6 = .ok (.bipush 15, 2) := by decide +kernel
theorem dL_lies_8 : decode cL_lies 8 = .ok (.iand, 1) := by decide +kernel
theorem dL_lies_9 : decode cL_lies 9 = .ok (.ireturn, 1) := by decide +kernel
theorem mokL_lies : MOK yL_lies cL_lies 2 (some .int) 2 := ⟨w5_7, w1_0, ⟨by decide, by decide⟩, by decide +kernel, by decide⟩
abbrev miL_lies : MI := (yL_lies.cls, cL_lies, 2, 1, false)
noncomputable def BL_lies : Sm Int32 := (dRet (d2 o_iand (d2 o_ishr (vI 0) (d2 o_imul (cI 10) (vI 1))) (cI 15)))
theorem sBL_lies : SS (cvoI, .ireturn) miL_lies [] [] [] [(0, 0), (1, 0)] [(0, 0), (1, 0)] 0 [] BL_lies := (t_ret (cv := cvI) (fun _ _ => rfl) (s_iand (s_ishr (s_iload_n dL_lies_0 rfl rfl) (s_imul (s_bipush dL_lies_1 rfl) (s_iload_n dL_lies_3 rfl rfl) dL_lies_4) dL_lies_5) (s_bipush dL_lies_6 rfl) dL_lies_8) dL_lies_9)
noncomputable def DL_lies : Fr → St → Option (Int32 × St) := M1 (fun f => (sI (sI fr0 0 (gI f 0)) 1 (gI f 1))) BL_lies
theorem kL_lies : SND yL_lies cL_lies 2 (some .int) 1 [(0, 0), (1, 0)] cvoI DL_lies := snd_I (nw := 2) (by decide) rfl rfl (fun _ _ => rfl) sBL_lies
theorem dL_left_0 : decode cL_left 0 = .ok (.iload_n 0, 1) := by decide +kernel
theorem dL_left_1 : decode cL_left 1 = .ok (.bipush 10, 2) := by decide +kernel
theorem dL_left_3 : decode cL_left 3 = .ok (.iload_n 1, 1) := by decide +kernel
theorem dL_left_4 : decode cL_left 4 = .ok (.imul, 1) := by decide +kernel
theorem dL_left_5 : decode cL_left 5 = .ok (.iconst 4, 1) := by decide +kernel
theorem dL_left_6 : decode cL_left 6 = .ok (.iadd, 1) := by decide +kernel
theorem dL_left_7 : decode cL_left 7 = .ok (.ishr, 1) := by decide +kernel
theorem dL_left_8 : decode cL_left 8 = .ok (.bipush 63, 2) := by decide +kernel
theorem dL_left_10 : decode cL_left 10 = .ok (.iand, 1) := by decide +kernel
theorem dL_left_11 : decode cL_left 11 = .ok (.ireturn, 1) := by decide +kernel
theorem mokL_left : MOK yL_left cL_left 2 (some .int) 2 := ⟨w5_10, w1_0, ⟨by decide, by decide⟩, by decide +kernel, by decide⟩
abbrev miL_left : MI := (yL_left.cls, cL_left, 2, 1, false)
noncomputable def BL_left : Sm Int32 := (dRet (d2 o_iand (d2 o_ishr (vI 0) (d2 o_iadd (d2 o_imul (cI 10) (vI 1)) (cI 4))) (cI 63)))
theorem sBL_left : SS (cvoI, .ireturn) miL_left [] [] [] [(0, 0), (1, 0)] [(0, 0), (1, 0)] 0 [] BL_left := (t_ret (cv := cvI) (fun _ _ => rfl) (s_iand (s_ishr (s_iload_n dL_left_0 rfl rfl) (s_iadd (s_imul (s_bipush dL_left_1 rfl) (s_iload_n dL_left_3 rfl rfl) dL_left_4) (s_iconst dL_left_5 rfl) dL_left_6) dL_left_7) (s_bipush dL_left_8 rfl) dL_left_10) dL_left_11)
noncomputable def DL_left : Fr → St → Option (Int32 × St) := M1 (fun f => (sI (sI fr0 0 (gI f 0)) 1 (gI f 1))) BL_left
theorem kL_left : SND yL_left cL_left 2 (some .int) 1 [(0, 0), (1, 0)] cvoI DL_left := snd_I (nw := 2) (by decide) rfl rfl (fun _ _ => rfl) sBL_left
theorem dL_knows_0 : decode cL_knows 0 = .ok (.lload_n 0, 1) := by decide +kernel
theorem dL_knows_1 : decode cL_knows 1 = .ok (.bipush 6, 2) := by decide +kernel
theorem dL_knows_3 : decode cL_knows 3 = .ok (.iload_n 2, 1) := by decide +kernel
theorem dL_knows_4 : decode cL_knows 4 = .ok (.imul, 1) := by decide +kernel
theorem dL_knows_5 : decode cL_knows 5 = .ok (.lshr, 1) := by decide +kernel
theorem dL_knows_6 : decode cL_knows 6 = .ok (.ldc2_w 79, 3) := by decide +kernel
theorem dL_knows_9 : decode cL_knows 9 = .ok (.land, 1) := by decide +kernel
theorem dL_knows_10 : decode cL_knows 10 = .ok (.l2i, 1) := by decide +kernel
theorem dL_knows_11 : decode cL_knows 11 = .ok (.ireturn, 1) := by decide +kernel
theorem mokL_knows : MOK yL_knows cL_knows 3 (some .int) 2 := ⟨w5_13, w1_0, ⟨by decide, by decide⟩, by decide +kernel, by decide⟩
abbrev miL_knows : MI := (yL_knows.cls, cL_knows, 3, 1, false)
noncomputable def BL_knows : Sm Int32 := (dRet (d1 o_l2i (d2 o_land (d2 o_lshr (vL 0) (d2 o_imul (cI 6) (vI 2))) (cL 63))))
theorem sBL_knows : SS (cvoI, .ireturn) miL_knows [] [] [] [(0, 1), (2, 0)] [(0, 1), (2, 0)] 0 [] BL_knows := (t_ret (cv := cvI) (fun _ _ => rfl) (s_l2i (s_land (s_lshr (s_lload_n dL_knows_0 rfl rfl) (s_imul (s_bipush dL_knows_1 rfl) (s_iload_n dL_knows_3 rfl rfl) dL_knows_4) dL_knows_5) (s_ldc2 dL_knows_6 w5_14) dL_knows_9) dL_knows_10) dL_knows_11)
noncomputable def DL_knows : Fr → St → Option (Int32 × St) := M1 (fun f => (sI (sL fr0 0 (gL f 0)) 2 (gI f 2))) BL_knows
theorem kL_knows : SND yL_knows cL_knows 3 (some .int) 1 [(0, 1), (2, 0)] cvoI DL_knows := snd_I (nw := 3) (by decide) rfl rfl (fun _ _ => rfl) sBL_knows
theorem dL_heard_0 : decode cL_heard 0 = .ok (.iconst 0, 1) := by decide +kernel
theorem dL_heard_1 : decode cL_heard 1 = .ok (.istore_n 3, 1) := by decide +kernel
theorem dL_heard_2 : decode cL_heard 2 = .ok (.iconst 0, 1) := by decide +kernel
theorem dL_heard_3 : decode cL_heard 3 = .ok (.istore 4, 2) := by decide +kernel
theorem dL_heard_5 : decode cL_heard 5 = .ok (.iload 4, 2) := by decide +kernel
theorem dL_heard_7 : decode cL_heard 7 = .ok (.aload_n 0, 1) := by decide +kernel
theorem dL_heard_8 : decode cL_heard 8 = .ok (.iconst 2, 1) := by decide +kernel
theorem dL_heard_9 : decode cL_heard 9 = .ok (.iaload, 1) := by decide +kernel
theorem dL_heard_10 : decode cL_heard 10 = .ok (.if_icmp .ge 29, 3) := by decide +kernel
theorem dL_heard_13 : decode cL_heard 13 = .ok (.iload_n 3, 1) := by decide +kernel
theorem dL_heard_14 : decode cL_heard 14 = .ok (.lload_n 1, 1) := by decide +kernel
theorem dL_heard_15 : decode cL_heard 15 = .ok (.iload 4, 2) := by decide +kernel
theorem dL_heard_17 : decode cL_heard 17 = .ok (.invokestatic 81, 3) := by decide +kernel
theorem dL_heard_20 : decode cL_heard 20 = .ok (.ifCond .eq 10, 3) := by decide +kernel
theorem dL_heard_23 : decode cL_heard 23 = .ok (.iconst 1, 1) := by decide +kernel
theorem dL_heard_24 : decode cL_heard 24 = .ok (.iload 4, 2) := by decide +kernel
theorem dL_heard_26 : decode cL_heard 26 = .ok (.ishl, 1) := by decide +kernel
theorem dL_heard_27 : decode cL_heard 27 = .ok (.goto 4, 3) := by decide +kernel
theorem dL_heard_30 : decode cL_heard 30 = .ok (.iconst 0, 1) := by decide +kernel
theorem dL_heard_31 : decode cL_heard 31 = .ok (.ior, 1) := by decide +kernel
theorem dL_heard_32 : decode cL_heard 32 = .ok (.istore_n 3, 1) := by decide +kernel
theorem dL_heard_33 : decode cL_heard 33 = .ok (.iinc 4 1, 3) := by decide +kernel
theorem dL_heard_36 : decode cL_heard 36 = .ok (.goto (-31), 3) := by decide +kernel
theorem dL_heard_39 : decode cL_heard 39 = .ok (.iload_n 3, 1) := by decide +kernel
theorem dL_heard_40 : decode cL_heard 40 = .ok (.ireturn, 1) := by decide +kernel
theorem mokL_heard : MOK yL_heard cL_heard 5 (some .int) 2 := ⟨w5_17, w1_0, ⟨by decide, by decide⟩, by decide +kernel, by decide⟩
abbrev miL_heard : MI := (yL_heard.cls, cL_heard, 5, 2, false)
noncomputable def LL_heard_1 : Sm Int32 := dLoop (fun f => (sI (sI (sL (sR fr0 0 (gR f 0)) 1 (gL f 1)) 3 (gI f 3)) 4 (gI f 4))) (dCI r_lt (vI 4) (dAI (vR 0) (cI 2))) (dSetI 3 (d2 o_ior (vI 3) (dT (dCZ q_ne (dCall DL_knows (aI (aL aN 0 (vL 1)) 2 (vI 4)))) (d2 o_ishl (cI 1) (vI 4)) (cI 0)))) (dInc 4 1)
theorem sLL_heard_1 {ΓL : Gm} {PB PK : List Nat} : SS (cvoI, .ireturn) miL_heard ΓL PB PK [(0, 2), (1, 1), (3, 0), (4, 0)] [(0, 2), (1, 1), (3, 0), (4, 0)] 5 [39] LL_heard_1 := t_loop (pT := 13) (pF := 39) (pu := 33) (PB' := []) (PK' := []) (XB := [33]) (XU := [36]) (fun _ _ => rfl) rfl (c_lt_F (pF := 39) (s_iload dL_heard_5 rfl) (s_dAI (s_aload_n dL_heard_7 rfl rfl) (s_iconst dL_heard_8 rfl) dL_heard_9) dL_heard_10 rfl) (t_istore_n (s_ior (s_iload_n dL_heard_13 rfl rfl) (s_T (pT := 23) (pF := 30) (p1 := 27) (pe := 31) (c_ne_ZF (pF := 30) (s_of_xI (x_call (ts := [(0, 1), (2, 0)]) kL_knows mokL_knows w5_12 rfl rfl rfl (a_I (ts := [(0, 1)]) 2 (a_L (ts := []) 0 a_nil (s_lload_n dL_heard_14 rfl rfl) rfl) (s_iload dL_heard_15 rfl) rfl) dL_heard_17 w5_11)) dL_heard_20 rfl) (s_ishl (s_iconst dL_heard_23 rfl) (s_iload dL_heard_24 rfl) dL_heard_26) (s_iconst dL_heard_30 rfl) (ld_goto (y := 31) dL_heard_27 rfl (ld_in rfl))) dL_heard_31) dL_heard_32 rfl rfl rfl) (t_iinc dL_heard_33 rfl rfl rfl rfl) (lda_cons (ld_in rfl) lda_nil) lda_nil (lda_cons (ld_goto (y := 5) dL_heard_36 rfl (ld_in rfl)) lda_nil) (ld_in rfl) lda_nil
noncomputable def BL_heard : Sm Int32 := (dSeq (dSetI 3 (cI 0)) (dSeq (dSeq (dSetI 4 (cI 0)) LL_heard_1) (dRet (vI 3))))
theorem sBL_heard : SS (cvoI, .ireturn) miL_heard [] [] [] [(0, 2), (1, 1)] [(0, 2), (1, 1)] 0 [] BL_heard := (t_sq (p1 := 2) (Γ' := [(0, 2), (1, 1), (3, 0)]) (t_istore_n (s_iconst dL_heard_0 rfl) dL_heard_1 rfl rfl rfl) (t_sq (p1 := 39) (Γ' := [(0, 2), (1, 1), (3, 0)]) (t_sq (p1 := 5) (Γ' := [(0, 2), (1, 1), (3, 0), (4, 0)]) (t_istore (s_iconst dL_heard_2 rfl) dL_heard_3 rfl rfl) (tn_to (Γ' := [(0, 2), (1, 1), (3, 0), (4, 0)]) (XA := [39]) sLL_heard_1 (lda_cons (ld_in rfl) lda_nil) rfl)) (t_ret (cv := cvI) (fun _ _ => rfl) (s_iload_n dL_heard_39 rfl rfl) dL_heard_40)))
noncomputable def DL_heard : Fr → St → Option (Int32 × St) := M1 (fun f => (sL (sR fr0 0 (gR f 0)) 1 (gL f 1))) BL_heard
theorem kL_heard : SND yL_heard cL_heard 5 (some .int) 2 [(0, 2), (1, 1)] cvoI DL_heard := snd_I (nw := 3) (by decide) rfl rfl (fun _ _ => rfl) sBL_heard
