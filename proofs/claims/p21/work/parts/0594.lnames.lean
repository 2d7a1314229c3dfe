/-! the law: its printed names, 0594 -/
theorem dL_alters_0 : decode cL_alters 0 = .ok (.iload 5, 2) := by decide +kernel
theorem dL_alters_2 : decode cL_alters 2 = .ok (.aload_n 1, 1) := by decide +kernel
theorem dL_alters_3 : decode cL_alters 3 = .ok (.iconst 0, 1) := by decide +kernel
theorem dL_alters_4 : decode cL_alters 4 = .ok (.iaload, 1) := by decide +kernel
theorem dL_alters_5 : decode cL_alters 5 = .ok (.invokestatic 104, 3) := by decide +kernel
theorem dL_alters_8 : decode cL_alters 8 = .ok (.istore 7, 2) := by decide +kernel
theorem dL_alters_10 : decode cL_alters 10 = .ok (.iload 4, 2) := by decide +kernel
theorem dL_alters_12 : decode cL_alters 12 = .ok (.ifCond .ne 122, 3) := by decide +kernel
theorem dL_alters_15 : decode cL_alters 15 = .ok (.aload_n 0, 1) := by decide +kernel
theorem dL_alters_16 : decode cL_alters 16 = .ok (.iload 7, 2) := by decide +kernel
theorem dL_alters_18 : decode cL_alters 18 = .ok (.invokestatic 119, 3) := by decide +kernel
theorem dL_alters_21 : decode cL_alters 21 = .ok (.istore 8, 2) := by decide +kernel
theorem dL_alters_23 : decode cL_alters 23 = .ok (.aload_n 2, 1) := by decide +kernel
theorem dL_alters_24 : decode cL_alters 24 = .ok (.iload 7, 2) := by decide +kernel
theorem dL_alters_26 : decode cL_alters 26 = .ok (.iaload, 1) := by decide +kernel
theorem dL_alters_27 : decode cL_alters 27 = .ok (.bipush 9, 2) := by decide +kernel
theorem dL_alters_29 : decode cL_alters 29 = .ok (.if_icmp .ne 16, 3) := by decide +kernel
theorem dL_alters_32 : decode cL_alters 32 = .ok (.iload 8, 2) := by decide +kernel
theorem dL_alters_34 : decode cL_alters 34 = .ok (.ldc 18, 2) := by decide +kernel
theorem dL_alters_36 : decode cL_alters 36 = .ok (.if_icmp .ne 7, 3) := by decide +kernel
theorem dL_alters_39 : decode cL_alters 39 = .ok (.iconst 1, 1) := by decide +kernel
theorem dL_alters_40 : decode cL_alters 40 = .ok (.goto 4, 3) := by decide +kernel
theorem dL_alters_43 : decode cL_alters 43 = .ok (.iconst 0, 1) := by decide +kernel
theorem dL_alters_44 : decode cL_alters 44 = .ok (.ireturn, 1) := by decide +kernel
theorem dL_alters_45 : decode cL_alters 45 = .ok (.aload_n 2, 1) := by decide +kernel
theorem dL_alters_46 : decode cL_alters 46 = .ok (.iload 7, 2) := by decide +kernel
theorem dL_alters_48 : decode cL_alters 48 = .ok (.iaload, 1) := by decide +kernel
theorem dL_alters_49 : decode cL_alters 49 = .ok (.istore 9, 2) := by decide +kernel
theorem dL_alters_51 : decode cL_alters 51 = .ok (.aload_n 2, 1) := by decide +kernel
theorem dL_alters_52 : decode cL_alters 52 = .ok (.iload 7, 2) := by decide +kernel
theorem dL_alters_54 : decode cL_alters 54 = .ok (.bipush 9, 2) := by decide +kernel
theorem dL_alters_56 : decode cL_alters 56 = .ok (.iastore, 1) := by decide +kernel
theorem dL_alters_57 : decode cL_alters 57 = .ok (.iconst 0, 1) := by decide +kernel
theorem dL_alters_58 : decode cL_alters 58 = .ok (.istore 10, 2) := by decide +kernel
theorem dL_alters_60 : decode cL_alters 60 = .ok (.iconst 0, 1) := by decide +kernel
theorem dL_alters_61 : decode cL_alters 61 = .ok (.istore 11, 2) := by decide +kernel
theorem dL_alters_63 : decode cL_alters 63 = .ok (.iload 11, 2) := by decide +kernel
theorem dL_alters_65 : decode cL_alters 65 = .ok (.aload_n 1, 1) := by decide +kernel
theorem dL_alters_66 : decode cL_alters 66 = .ok (.iconst 1, 1) := by decide +kernel
theorem dL_alters_67 : decode cL_alters 67 = .ok (.iaload, 1) := by decide +kernel
theorem dL_alters_68 : decode cL_alters 68 = .ok (.if_icmp .ge 28, 3) := by decide +kernel
theorem dL_alters_71 : decode cL_alters 71 = .ok (.iload 10, 2) := by decide +kernel
theorem dL_alters_73 : decode cL_alters 73 = .ok (.aload_n 3, 1) := by decide +kernel
theorem dL_alters_74 : decode cL_alters 74 = .ok (.iload 11, 2) := by decide +kernel
theorem dL_alters_76 : decode cL_alters 76 = .ok (.iaload, 1) := by decide +kernel
theorem dL_alters_77 : decode cL_alters 77 = .ok (.iload 9, 2) := by decide +kernel
theorem dL_alters_79 : decode cL_alters 79 = .ok (.if_icmp .ne 7, 3) := by decide +kernel
theorem dL_alters_82 : decode cL_alters 82 = .ok (.iconst 1, 1) := by decide +kernel
theorem dL_alters_83 : decode cL_alters 83 = .ok (.goto 4, 3) := by decide +kernel
theorem dL_alters_86 : decode cL_alters 86 = .ok (.iconst 0, 1) := by decide +kernel
theorem dL_alters_87 : decode cL_alters 87 = .ok (.iadd, 1) := by decide +kernel
theorem dL_alters_88 : decode cL_alters 88 = .ok (.istore 10, 2) := by decide +kernel
theorem dL_alters_90 : decode cL_alters 90 = .ok (.iinc 11 1, 3) := by decide +kernel
theorem dL_alters_93 : decode cL_alters 93 = .ok (.goto (-30), 3) := by decide +kernel
theorem dL_alters_96 : decode cL_alters 96 = .ok (.iload 8, 2) := by decide +kernel
theorem dL_alters_98 : decode cL_alters 98 = .ok (.iload 10, 2) := by decide +kernel
theorem dL_alters_100 : decode cL_alters 100 = .ok (.if_icmp .ne 32, 3) := by decide +kernel
theorem dL_alters_103 : decode cL_alters 103 = .ok (.aload_n 0, 1) := by decide +kernel
theorem dL_alters_104 : decode cL_alters 104 = .ok (.aload_n 1, 1) := by decide +kernel
theorem dL_alters_105 : decode cL_alters 105 = .ok (.aload_n 3, 1) := by decide +kernel
theorem dL_alters_106 : decode cL_alters 106 = .ok (.iload 9, 2) := by decide +kernel
theorem dL_alters_108 : decode cL_alters 108 = .ok (.iload 10, 2) := by decide +kernel
theorem dL_alters_110 : decode cL_alters 110 = .ok (.invokestatic 110, 3) := by decide +kernel
theorem dL_alters_113 : decode cL_alters 113 = .ok (.ifCond .eq 19, 3) := by decide +kernel
theorem dL_alters_116 : decode cL_alters 116 = .ok (.aload_n 0, 1) := by decide +kernel
theorem dL_alters_117 : decode cL_alters 117 = .ok (.iload 7, 2) := by decide +kernel
theorem dL_alters_119 : decode cL_alters 119 = .ok (.bipush 8, 2) := by decide +kernel
theorem dL_alters_121 : decode cL_alters 121 = .ok (.invokestatic 94, 3) := by decide +kernel
theorem dL_alters_124 : decode cL_alters 124 = .ok (.iconst 1, 1) := by decide +kernel
theorem dL_alters_125 : decode cL_alters 125 = .ok (.if_icmp .ne 7, 3) := by decide +kernel
theorem dL_alters_128 : decode cL_alters 128 = .ok (.iconst 1, 1) := by decide +kernel
theorem dL_alters_129 : decode cL_alters 129 = .ok (.goto 4, 3) := by decide +kernel
theorem dL_alters_132 : decode cL_alters 132 = .ok (.iconst 0, 1) := by decide +kernel
theorem dL_alters_133 : decode cL_alters 133 = .ok (.ireturn, 1) := by decide +kernel
theorem dL_alters_134 : decode cL_alters 134 = .ok (.iload 4, 2) := by decide +kernel
theorem dL_alters_136 : decode cL_alters 136 = .ok (.iconst 1, 1) := by decide +kernel
theorem dL_alters_137 : decode cL_alters 137 = .ok (.if_icmp .ne 163, 3) := by decide +kernel
theorem dL_alters_140 : decode cL_alters 140 = .ok (.iconst 1, 1) := by decide +kernel
theorem dL_alters_141 : decode cL_alters 141 = .ok (.iload 6, 2) := by decide +kernel
theorem dL_alters_143 : decode cL_alters 143 = .ok (.bipush 30, 2) := by decide +kernel
theorem dL_alters_145 : decode cL_alters 145 = .ok (.invokestatic 104, 3) := by decide +kernel
theorem dL_alters_148 : decode cL_alters 148 = .ok (.iadd, 1) := by decide +kernel
theorem dL_alters_149 : decode cL_alters 149 = .ok (.istore 8, 2) := by decide +kernel
theorem dL_alters_151 : decode cL_alters 151 = .ok (.iconst 1, 1) := by decide +kernel
theorem dL_alters_152 : decode cL_alters 152 = .ok (.iload 6, 2) := by decide +kernel
theorem dL_alters_154 : decode cL_alters 154 = .ok (.iconst 5, 1) := by decide +kernel
theorem dL_alters_155 : decode cL_alters 155 = .ok (.ishr, 1) := by decide +kernel
theorem dL_alters_156 : decode cL_alters 156 = .ok (.bipush 30, 2) := by decide +kernel
theorem dL_alters_158 : decode cL_alters 158 = .ok (.invokestatic 104, 3) := by decide +kernel
theorem dL_alters_161 : decode cL_alters 161 = .ok (.iadd, 1) := by decide +kernel
theorem dL_alters_162 : decode cL_alters 162 = .ok (.istore 9, 2) := by decide +kernel
theorem dL_alters_164 : decode cL_alters 164 = .ok (.aload_n 0, 1) := by decide +kernel
theorem dL_alters_165 : decode cL_alters 165 = .ok (.iload 7, 2) := by decide +kernel
theorem dL_alters_167 : decode cL_alters 167 = .ok (.iload 8, 2) := by decide +kernel
theorem dL_alters_169 : decode cL_alters 169 = .ok (.iload 9, 2) := by decide +kernel
theorem dL_alters_171 : decode cL_alters 171 = .ok (.invokestatic 121, 3) := by decide +kernel
theorem dL_alters_174 : decode cL_alters 174 = .ok (.istore 10, 2) := by decide +kernel
theorem dL_alters_176 : decode cL_alters 176 = .ok (.aload_n 2, 1) := by decide +kernel
theorem dL_alters_177 : decode cL_alters 177 = .ok (.iload 7, 2) := by decide +kernel
theorem dL_alters_179 : decode cL_alters 179 = .ok (.iaload, 1) := by decide +kernel
theorem dL_alters_180 : decode cL_alters 180 = .ok (.bipush 9, 2) := by decide +kernel
theorem dL_alters_182 : decode cL_alters 182 = .ok (.if_icmp .ne 16, 3) := by decide +kernel
theorem dL_alters_185 : decode cL_alters 185 = .ok (.iload 10, 2) := by decide +kernel
theorem dL_alters_187 : decode cL_alters 187 = .ok (.ldc 18, 2) := by decide +kernel
theorem dL_alters_189 : decode cL_alters 189 = .ok (.if_icmp .ne 7, 3) := by decide +kernel
theorem dL_alters_192 : decode cL_alters 192 = .ok (.iconst 1, 1) := by decide +kernel
theorem dL_alters_193 : decode cL_alters 193 = .ok (.goto 4, 3) := by decide +kernel
theorem dL_alters_196 : decode cL_alters 196 = .ok (.iconst 0, 1) := by decide +kernel
theorem dL_alters_197 : decode cL_alters 197 = .ok (.ireturn, 1) := by decide +kernel
theorem dL_alters_198 : decode cL_alters 198 = .ok (.aload_n 0, 1) := by decide +kernel
theorem dL_alters_199 : decode cL_alters 199 = .ok (.iload 7, 2) := by decide +kernel
theorem dL_alters_201 : decode cL_alters 201 = .ok (.iconst 1, 1) := by decide +kernel
theorem dL_alters_202 : decode cL_alters 202 = .ok (.invokestatic 94, 3) := by decide +kernel
theorem dL_alters_205 : decode cL_alters 205 = .ok (.iload 8, 2) := by decide +kernel
theorem dL_alters_207 : decode cL_alters 207 = .ok (.iadd, 1) := by decide +kernel
theorem dL_alters_208 : decode cL_alters 208 = .ok (.bipush 60, 2) := by decide +kernel
theorem dL_alters_210 : decode cL_alters 210 = .ok (.if_icmp .gt 22, 3) := by decide +kernel
theorem dL_alters_213 : decode cL_alters 213 = .ok (.aload_n 0, 1) := by decide +kernel
theorem dL_alters_214 : decode cL_alters 214 = .ok (.iload 7, 2) := by decide +kernel
theorem dL_alters_216 : decode cL_alters 216 = .ok (.iconst 2, 1) := by decide +kernel
theorem dL_alters_217 : decode cL_alters 217 = .ok (.invokestatic 94, 3) := by decide +kernel
theorem dL_alters_220 : decode cL_alters 220 = .ok (.iload 9, 2) := by decide +kernel
theorem dL_alters_222 : decode cL_alters 222 = .ok (.iadd, 1) := by decide +kernel
theorem dL_alters_223 : decode cL_alters 223 = .ok (.bipush 80, 2) := by decide +kernel
theorem dL_alters_225 : decode cL_alters 225 = .ok (.if_icmp .gt 7, 3) := by decide +kernel
theorem dL_alters_228 : decode cL_alters 228 = .ok (.iconst 1, 1) := by decide +kernel
theorem dL_alters_229 : decode cL_alters 229 = .ok (.goto 4, 3) := by decide +kernel
theorem dL_alters_232 : decode cL_alters 232 = .ok (.iconst 0, 1) := by decide +kernel
theorem dL_alters_233 : decode cL_alters 233 = .ok (.istore 11, 2) := by decide +kernel
theorem dL_alters_235 : decode cL_alters 235 = .ok (.iload 11, 2) := by decide +kernel
theorem dL_alters_237 : decode cL_alters 237 = .ok (.ifCond .eq 50, 3) := by decide +kernel
theorem dL_alters_240 : decode cL_alters 240 = .ok (.aload_n 0, 1) := by decide +kernel
theorem dL_alters_241 : decode cL_alters 241 = .ok (.aload_n 1, 1) := by decide +kernel
theorem dL_alters_242 : decode cL_alters 242 = .ok (.aload_n 3, 1) := by decide +kernel
theorem dL_alters_243 : decode cL_alters 243 = .ok (.aload_n 2, 1) := by decide +kernel
theorem dL_alters_244 : decode cL_alters 244 = .ok (.iload 7, 2) := by decide +kernel
theorem dL_alters_246 : decode cL_alters 246 = .ok (.iaload, 1) := by decide +kernel
theorem dL_alters_247 : decode cL_alters 247 = .ok (.iload 10, 2) := by decide +kernel
theorem dL_alters_249 : decode cL_alters 249 = .ok (.invokestatic 110, 3) := by decide +kernel
theorem dL_alters_252 : decode cL_alters 252 = .ok (.ifCond .eq 31, 3) := by decide +kernel
theorem dL_alters_255 : decode cL_alters 255 = .ok (.aload_n 0, 1) := by decide +kernel
theorem dL_alters_256 : decode cL_alters 256 = .ok (.iload 7, 2) := by decide +kernel
theorem dL_alters_258 : decode cL_alters 258 = .ok (.iconst 3, 1) := by decide +kernel
theorem dL_alters_259 : decode cL_alters 259 = .ok (.invokestatic 94, 3) := by decide +kernel
theorem dL_alters_262 : decode cL_alters 262 = .ok (.iload 8, 2) := by decide +kernel
theorem dL_alters_264 : decode cL_alters 264 = .ok (.if_icmp .ne 19, 3) := by decide +kernel
theorem dL_alters_267 : decode cL_alters 267 = .ok (.aload_n 0, 1) := by decide +kernel
theorem dL_alters_268 : decode cL_alters 268 = .ok (.iload 7, 2) := by decide +kernel
theorem dL_alters_270 : decode cL_alters 270 = .ok (.iconst 4, 1) := by decide +kernel
theorem dL_alters_271 : decode cL_alters 271 = .ok (.invokestatic 94, 3) := by decide +kernel
theorem dL_alters_274 : decode cL_alters 274 = .ok (.iload 9, 2) := by decide +kernel
theorem dL_alters_276 : decode cL_alters 276 = .ok (.if_icmp .ne 7, 3) := by decide +kernel
theorem dL_alters_279 : decode cL_alters 279 = .ok (.iconst 1, 1) := by decide +kernel
theorem dL_alters_280 : decode cL_alters 280 = .ok (.goto 19, 3) := by decide +kernel
theorem dL_alters_283 : decode cL_alters 283 = .ok (.iconst 0, 1) := by decide +kernel
theorem dL_alters_284 : decode cL_alters 284 = .ok (.goto 15, 3) := by decide +kernel
theorem dL_alters_287 : decode cL_alters 287 = .ok (.iload 10, 2) := by decide +kernel
theorem dL_alters_289 : decode cL_alters 289 = .ok (.ldc 21, 2) := by decide +kernel
theorem dL_alters_291 : decode cL_alters 291 = .ok (.if_icmp .ne 7, 3) := by decide +kernel
theorem dL_alters_294 : decode cL_alters 294 = .ok (.iconst 1, 1) := by decide +kernel
theorem dL_alters_295 : decode cL_alters 295 = .ok (.goto 4, 3) := by decide +kernel
theorem dL_alters_298 : decode cL_alters 298 = .ok (.iconst 0, 1) := by decide +kernel
theorem dL_alters_299 : decode cL_alters 299 = .ok (.ireturn, 1) := by decide +kernel
theorem dL_alters_300 : decode cL_alters 300 = .ok (.iload 4, 2) := by decide +kernel
theorem dL_alters_302 : decode cL_alters 302 = .ok (.iconst 2, 1) := by decide +kernel
theorem dL_alters_303 : decode cL_alters 303 = .ok (.if_icmp .ne 113, 3) := by decide +kernel
theorem dL_alters_306 : decode cL_alters 306 = .ok (.aload_n 2, 1) := by decide +kernel
theorem dL_alters_307 : decode cL_alters 307 = .ok (.iload 7, 2) := by decide +kernel
theorem dL_alters_309 : decode cL_alters 309 = .ok (.iaload, 1) := by decide +kernel
theorem dL_alters_310 : decode cL_alters 310 = .ok (.bipush 9, 2) := by decide +kernel
theorem dL_alters_312 : decode cL_alters 312 = .ok (.if_icmp .ne 7, 3) := by decide +kernel
theorem dL_alters_315 : decode cL_alters 315 = .ok (.iconst (-1), 1) := by decide +kernel
theorem dL_alters_316 : decode cL_alters 316 = .ok (.goto 11, 3) := by decide +kernel
theorem dL_alters_319 : decode cL_alters 319 = .ok (.aload_n 0, 1) := by decide +kernel
theorem dL_alters_320 : decode cL_alters 320 = .ok (.iload 7, 2) := by decide +kernel
theorem dL_alters_322 : decode cL_alters 322 = .ok (.bipush 6, 2) := by decide +kernel
theorem dL_alters_324 : decode cL_alters 324 = .ok (.invokestatic 94, 3) := by decide +kernel
theorem dL_alters_327 : decode cL_alters 327 = .ok (.istore 8, 2) := by decide +kernel
theorem dL_alters_329 : decode cL_alters 329 = .ok (.aload_n 0, 1) := by decide +kernel
theorem dL_alters_330 : decode cL_alters 330 = .ok (.iload 7, 2) := by decide +kernel
theorem dL_alters_332 : decode cL_alters 332 = .ok (.invokestatic 123, 3) := by decide +kernel
theorem dL_alters_335 : decode cL_alters 335 = .ok (.istore 9, 2) := by decide +kernel
theorem dL_alters_337 : decode cL_alters 337 = .ok (.iload 8, 2) := by decide +kernel
theorem dL_alters_339 : decode cL_alters 339 = .ok (.ifCond .ge 32, 3) := by decide +kernel
theorem dL_alters_342 : decode cL_alters 342 = .ok (.iload 9, 2) := by decide +kernel
theorem dL_alters_344 : decode cL_alters 344 = .ok (.aload_n 2, 1) := by decide +kernel
theorem dL_alters_345 : decode cL_alters 345 = .ok (.iload 7, 2) := by decide +kernel
theorem dL_alters_347 : decode cL_alters 347 = .ok (.iaload, 1) := by decide +kernel
theorem dL_alters_348 : decode cL_alters 348 = .ok (.bipush 9, 2) := by decide +kernel
theorem dL_alters_350 : decode cL_alters 350 = .ok (.if_icmp .ne 8, 3) := by decide +kernel
theorem dL_alters_353 : decode cL_alters 353 = .ok (.ldc 18, 2) := by decide +kernel
theorem dL_alters_355 : decode cL_alters 355 = .ok (.goto 5, 3) := by decide +kernel
theorem dL_alters_358 : decode cL_alters 358 = .ok (.ldc 24, 2) := by decide +kernel
theorem dL_alters_360 : decode cL_alters 360 = .ok (.if_icmp .ne 7, 3) := by decide +kernel
theorem dL_alters_363 : decode cL_alters 363 = .ok (.iconst 1, 1) := by decide +kernel
theorem dL_alters_364 : decode cL_alters 364 = .ok (.goto 51, 3) := by decide +kernel
theorem dL_alters_367 : decode cL_alters 367 = .ok (.iconst 0, 1) := by decide +kernel
theorem dL_alters_368 : decode cL_alters 368 = .ok (.goto 47, 3) := by decide +kernel
theorem dL_alters_371 : decode cL_alters 371 = .ok (.aload_n 0, 1) := by decide +kernel
theorem dL_alters_372 : decode cL_alters 372 = .ok (.aload_n 1, 1) := by decide +kernel
theorem dL_alters_373 : decode cL_alters 373 = .ok (.aload_n 3, 1) := by decide +kernel
theorem dL_alters_374 : decode cL_alters 374 = .ok (.aload_n 2, 1) := by decide +kernel
theorem dL_alters_375 : decode cL_alters 375 = .ok (.iload 7, 2) := by decide +kernel
theorem dL_alters_377 : decode cL_alters 377 = .ok (.iaload, 1) := by decide +kernel
theorem dL_alters_378 : decode cL_alters 378 = .ok (.iload 9, 2) := by decide +kernel
theorem dL_alters_380 : decode cL_alters 380 = .ok (.invokestatic 110, 3) := by decide +kernel
theorem dL_alters_383 : decode cL_alters 383 = .ok (.ifCond .eq 31, 3) := by decide +kernel
theorem dL_alters_386 : decode cL_alters 386 = .ok (.aload_n 0, 1) := by decide +kernel
theorem dL_alters_387 : decode cL_alters 387 = .ok (.iload 7, 2) := by decide +kernel
theorem dL_alters_389 : decode cL_alters 389 = .ok (.bipush 6, 2) := by decide +kernel
theorem dL_alters_391 : decode cL_alters 391 = .ok (.invokestatic 94, 3) := by decide +kernel
theorem dL_alters_394 : decode cL_alters 394 = .ok (.iconst (-1), 1) := by decide +kernel
theorem dL_alters_395 : decode cL_alters 395 = .ok (.if_icmp .ne 19, 3) := by decide +kernel
theorem dL_alters_398 : decode cL_alters 398 = .ok (.aload_n 0, 1) := by decide +kernel
theorem dL_alters_399 : decode cL_alters 399 = .ok (.iload 8, 2) := by decide +kernel
theorem dL_alters_401 : decode cL_alters 401 = .ok (.bipush 7, 2) := by decide +kernel
theorem dL_alters_403 : decode cL_alters 403 = .ok (.invokestatic 94, 3) := by decide +kernel
theorem dL_alters_406 : decode cL_alters 406 = .ok (.iconst (-1), 1) := by decide +kernel
theorem dL_alters_407 : decode cL_alters 407 = .ok (.if_icmp .ne 7, 3) := by decide +kernel
theorem dL_alters_410 : decode cL_alters 410 = .ok (.iconst 1, 1) := by decide +kernel
theorem dL_alters_411 : decode cL_alters 411 = .ok (.goto 4, 3) := by decide +kernel
theorem dL_alters_414 : decode cL_alters 414 = .ok (.iconst 0, 1) := by decide +kernel
theorem dL_alters_415 : decode cL_alters 415 = .ok (.ireturn, 1) := by decide +kernel
theorem dL_alters_416 : decode cL_alters 416 = .ok (.iload 6, 2) := by decide +kernel
theorem dL_alters_418 : decode cL_alters 418 = .ok (.aload_n 1, 1) := by decide +kernel
theorem dL_alters_419 : decode cL_alters 419 = .ok (.iconst 0, 1) := by decide +kernel
theorem dL_alters_420 : decode cL_alters 420 = .ok (.iaload, 1) := by decide +kernel
theorem dL_alters_421 : decode cL_alters 421 = .ok (.invokestatic 104, 3) := by decide +kernel
theorem dL_alters_424 : decode cL_alters 424 = .ok (.istore 8, 2) := by decide +kernel
theorem dL_alters_426 : decode cL_alters 426 = .ok (.aload_n 0, 1) := by decide +kernel
theorem dL_alters_427 : decode cL_alters 427 = .ok (.iload 7, 2) := by decide +kernel
theorem dL_alters_429 : decode cL_alters 429 = .ok (.iload 8, 2) := by decide +kernel
theorem dL_alters_431 : decode cL_alters 431 = .ok (.invokestatic 125, 3) := by decide +kernel
theorem dL_alters_434 : decode cL_alters 434 = .ok (.istore 9, 2) := by decide +kernel
theorem dL_alters_436 : decode cL_alters 436 = .ok (.aload_n 2, 1) := by decide +kernel
theorem dL_alters_437 : decode cL_alters 437 = .ok (.iload 7, 2) := by decide +kernel
theorem dL_alters_439 : decode cL_alters 439 = .ok (.iaload, 1) := by decide +kernel
theorem dL_alters_440 : decode cL_alters 440 = .ok (.bipush 9, 2) := by decide +kernel
theorem dL_alters_442 : decode cL_alters 442 = .ok (.if_icmp .eq 12, 3) := by decide +kernel
theorem dL_alters_445 : decode cL_alters 445 = .ok (.aload_n 2, 1) := by decide +kernel
theorem dL_alters_446 : decode cL_alters 446 = .ok (.iload 8, 2) := by decide +kernel
theorem dL_alters_448 : decode cL_alters 448 = .ok (.iaload, 1) := by decide +kernel
theorem dL_alters_449 : decode cL_alters 449 = .ok (.bipush 9, 2) := by decide +kernel
theorem dL_alters_451 : decode cL_alters 451 = .ok (.if_icmp .ne 16, 3) := by decide +kernel
theorem dL_alters_454 : decode cL_alters 454 = .ok (.iload 9, 2) := by decide +kernel
theorem dL_alters_456 : decode cL_alters 456 = .ok (.ldc 18, 2) := by decide +kernel
theorem dL_alters_458 : decode cL_alters 458 = .ok (.if_icmp .ne 7, 3) := by decide +kernel
theorem dL_alters_461 : decode cL_alters 461 = .ok (.iconst 1, 1) := by decide +kernel
theorem dL_alters_462 : decode cL_alters 462 = .ok (.goto 4, 3) := by decide +kernel
theorem dL_alters_465 : decode cL_alters 465 = .ok (.iconst 0, 1) := by decide +kernel
theorem dL_alters_466 : decode cL_alters 466 = .ok (.ireturn, 1) := by decide +kernel
theorem dL_alters_467 : decode cL_alters 467 = .ok (.aload_n 2, 1) := by decide +kernel
theorem dL_alters_468 : decode cL_alters 468 = .ok (.iload 7, 2) := by decide +kernel
theorem dL_alters_470 : decode cL_alters 470 = .ok (.iaload, 1) := by decide +kernel
theorem dL_alters_471 : decode cL_alters 471 = .ok (.aload_n 2, 1) := by decide +kernel
theorem dL_alters_472 : decode cL_alters 472 = .ok (.iload 8, 2) := by decide +kernel
theorem dL_alters_474 : decode cL_alters 474 = .ok (.iaload, 1) := by decide +kernel
theorem dL_alters_475 : decode cL_alters 475 = .ok (.if_icmp .ne 10, 3) := by decide +kernel
theorem dL_alters_478 : decode cL_alters 478 = .ok (.iload 7, 2) := by decide +kernel
theorem dL_alters_480 : decode cL_alters 480 = .ok (.iload 8, 2) := by decide +kernel
theorem dL_alters_482 : decode cL_alters 482 = .ok (.if_icmp .ne 16, 3) := by decide +kernel
theorem dL_alters_485 : decode cL_alters 485 = .ok (.iload 9, 2) := by decide +kernel
theorem dL_alters_487 : decode cL_alters 487 = .ok (.ldc 21, 2) := by decide +kernel
theorem dL_alters_489 : decode cL_alters 489 = .ok (.if_icmp .ne 7, 3) := by decide +kernel
theorem dL_alters_492 : decode cL_alters 492 = .ok (.iconst 1, 1) := by decide +kernel
theorem dL_alters_493 : decode cL_alters 493 = .ok (.goto 4, 3) := by decide +kernel
theorem dL_alters_496 : decode cL_alters 496 = .ok (.iconst 0, 1) := by decide +kernel
theorem dL_alters_497 : decode cL_alters 497 = .ok (.ireturn, 1) := by decide +kernel
theorem dL_alters_498 : decode cL_alters 498 = .ok (.iload 9, 2) := by decide +kernel
theorem dL_alters_500 : decode cL_alters 500 = .ok (.ldc 24, 2) := by decide +kernel
theorem dL_alters_502 : decode cL_alters 502 = .ok (.if_icmp .eq 70, 3) := by decide +kernel
theorem dL_alters_505 : decode cL_alters 505 = .ok (.aload_n 0, 1) := by decide +kernel
theorem dL_alters_506 : decode cL_alters 506 = .ok (.aload_n 1, 1) := by decide +kernel
theorem dL_alters_507 : decode cL_alters 507 = .ok (.aload_n 3, 1) := by decide +kernel
theorem dL_alters_508 : decode cL_alters 508 = .ok (.aload_n 2, 1) := by decide +kernel
theorem dL_alters_509 : decode cL_alters 509 = .ok (.iload 7, 2) := by decide +kernel
theorem dL_alters_511 : decode cL_alters 511 = .ok (.iaload, 1) := by decide +kernel
theorem dL_alters_512 : decode cL_alters 512 = .ok (.iload 9, 2) := by decide +kernel
theorem dL_alters_514 : decode cL_alters 514 = .ok (.invokestatic 110, 3) := by decide +kernel
theorem dL_alters_517 : decode cL_alters 517 = .ok (.ifCond .eq 59, 3) := by decide +kernel
theorem dL_alters_520 : decode cL_alters 520 = .ok (.aload_n 0, 1) := by decide +kernel
theorem dL_alters_521 : decode cL_alters 521 = .ok (.iload 7, 2) := by decide +kernel
theorem dL_alters_523 : decode cL_alters 523 = .ok (.bipush 7, 2) := by decide +kernel
theorem dL_alters_525 : decode cL_alters 525 = .ok (.invokestatic 94, 3) := by decide +kernel
theorem dL_alters_528 : decode cL_alters 528 = .ok (.iload 8, 2) := by decide +kernel
theorem dL_alters_530 : decode cL_alters 530 = .ok (.if_icmp .ne 46, 3) := by decide +kernel
theorem dL_alters_533 : decode cL_alters 533 = .ok (.aload_n 0, 1) := by decide +kernel
theorem dL_alters_534 : decode cL_alters 534 = .ok (.iload 8, 2) := by decide +kernel
theorem dL_alters_536 : decode cL_alters 536 = .ok (.bipush 6, 2) := by decide +kernel
theorem dL_alters_538 : decode cL_alters 538 = .ok (.invokestatic 94, 3) := by decide +kernel
theorem dL_alters_541 : decode cL_alters 541 = .ok (.iload 7, 2) := by decide +kernel
theorem dL_alters_543 : decode cL_alters 543 = .ok (.if_icmp .ne 33, 3) := by decide +kernel
theorem dL_alters_546 : decode cL_alters 546 = .ok (.aload_n 0, 1) := by decide +kernel
theorem dL_alters_547 : decode cL_alters 547 = .ok (.iload 7, 2) := by decide +kernel
theorem dL_alters_549 : decode cL_alters 549 = .ok (.iload 8, 2) := by decide +kernel
theorem dL_alters_551 : decode cL_alters 551 = .ok (.invokestatic 125, 3) := by decide +kernel
theorem dL_alters_554 : decode cL_alters 554 = .ok (.ldc 24, 2) := by decide +kernel
theorem dL_alters_556 : decode cL_alters 556 = .ok (.if_icmp .ne 20, 3) := by decide +kernel
theorem dL_alters_559 : decode cL_alters 559 = .ok (.aload_n 0, 1) := by decide +kernel
theorem dL_alters_560 : decode cL_alters 560 = .ok (.iload 8, 2) := by decide +kernel
theorem dL_alters_562 : decode cL_alters 562 = .ok (.iload 7, 2) := by decide +kernel
theorem dL_alters_564 : decode cL_alters 564 = .ok (.invokestatic 125, 3) := by decide +kernel
theorem dL_alters_567 : decode cL_alters 567 = .ok (.ldc 24, 2) := by decide +kernel
theorem dL_alters_569 : decode cL_alters 569 = .ok (.if_icmp .ne 7, 3) := by decide +kernel
theorem dL_alters_572 : decode cL_alters 572 = .ok (.iconst 1, 1) := by decide +kernel
theorem dL_alters_573 : decode cL_alters 573 = .ok (.goto 4, 3) := by decide +kernel
theorem dL_alters_576 : decode cL_alters 576 = .ok (.iconst 0, 1) := by decide +kernel
theorem dL_alters_577 : decode cL_alters 577 = .ok (.ireturn, 1) := by decide +kernel
theorem dL_law_0 : decode cL_law 0 = .ok (.new 11, 3) := by decide +kernel
theorem dL_law_3 : decode cL_law 3 = .ok (.dup, 1) := by decide +kernel
theorem dL_law_4 : decode cL_law 4 = .ok (.invokespecial 156, 3) := by decide +kernel
theorem dL_law_7 : decode cL_law 7 = .ok (.astore_n 1, 1) := by decide +kernel
theorem dL_law_8 : decode cL_law 8 = .ok (.iconst 3, 1) := by decide +kernel
theorem dL_law_9 : decode cL_law 9 = .ok (.newarray .int, 2) := by decide +kernel
theorem dL_law_11 : decode cL_law 11 = .ok (.astore_n 2, 1) := by decide +kernel
theorem dL_law_12 : decode cL_law 12 = .ok (.bipush 25, 2) := by decide +kernel
theorem dL_law_14 : decode cL_law 14 = .ok (.newarray .int, 2) := by decide +kernel
theorem dL_law_16 : decode cL_law 16 = .ok (.astore_n 3, 1) := by decide +kernel
theorem dL_law_17 : decode cL_law 17 = .ok (.bipush 21, 2) := by decide +kernel
theorem dL_law_19 : decode cL_law 19 = .ok (.newarray .int, 2) := by decide +kernel
theorem dL_law_21 : decode cL_law 21 = .ok (.astore 4, 2) := by decide +kernel
theorem dL_law_23 : decode cL_law 23 = .ok (.bipush 21, 2) := by decide +kernel
theorem dL_law_25 : decode cL_law 25 = .ok (.newarray .int, 2) := by decide +kernel
theorem dL_law_27 : decode cL_law 27 = .ok (.astore 5, 2) := by decide +kernel
theorem dL_law_29 : decode cL_law 29 = .ok (.aload_n 1, 1) := by decide +kernel
theorem dL_law_30 : decode cL_law 30 = .ok (.iconst 0, 1) := by decide +kernel
theorem dL_law_31 : decode cL_law 31 = .ok (.invokestatic 80, 3) := by decide +kernel
theorem dL_law_34 : decode cL_law 34 = .ok (.ifCond .ne 7, 3) := by decide +kernel
theorem dL_law_37 : decode cL_law 37 = .ok (.iconst 1, 1) := by decide +kernel
theorem dL_law_38 : decode cL_law 38 = .ok (.goto 4, 3) := by decide +kernel
theorem dL_law_41 : decode cL_law 41 = .ok (.iconst 0, 1) := by decide +kernel
theorem dL_law_42 : decode cL_law 42 = .ok (.istore 6, 2) := by decide +kernel
theorem dL_law_44 : decode cL_law 44 = .ok (.iconst 0, 1) := by decide +kernel
theorem dL_law_45 : decode cL_law 45 = .ok (.istore 7, 2) := by decide +kernel
theorem dL_law_47 : decode cL_law 47 = .ok (.iload 7, 2) := by decide +kernel
theorem dL_law_49 : decode cL_law 49 = .ok (.bipush 50, 2) := by decide +kernel
theorem dL_law_51 : decode cL_law 51 = .ok (.if_icmp .ge 44, 3) := by decide +kernel
theorem dL_law_54 : decode cL_law 54 = .ok (.iload 6, 2) := by decide +kernel
theorem dL_law_56 : decode cL_law 56 = .ok (.ifCond .eq 39, 3) := by decide +kernel
theorem dL_law_59 : decode cL_law 59 = .ok (.aload_n 1, 1) := by decide +kernel
theorem dL_law_60 : decode cL_law 60 = .ok (.aload_n 2, 1) := by decide +kernel
theorem dL_law_61 : decode cL_law 61 = .ok (.aload_n 3, 1) := by decide +kernel
theorem dL_law_62 : decode cL_law 62 = .ok (.aload 4, 2) := by decide +kernel
theorem dL_law_64 : decode cL_law 64 = .ok (.aload 5, 2) := by decide +kernel
theorem dL_law_66 : decode cL_law 66 = .ok (.aload_n 0, 1) := by decide +kernel
theorem dL_law_67 : decode cL_law 67 = .ok (.iconst 2, 1) := by decide +kernel
theorem dL_law_68 : decode cL_law 68 = .ok (.iload 7, 2) := by decide +kernel
theorem dL_law_70 : decode cL_law 70 = .ok (.imul, 1) := by decide +kernel
theorem dL_law_71 : decode cL_law 71 = .ok (.invokestatic 157, 3) := by decide +kernel
theorem dL_law_74 : decode cL_law 74 = .ok (.aload_n 0, 1) := by decide +kernel
theorem dL_law_75 : decode cL_law 75 = .ok (.iconst 2, 1) := by decide +kernel
theorem dL_law_76 : decode cL_law 76 = .ok (.iload 7, 2) := by decide +kernel
theorem dL_law_78 : decode cL_law 78 = .ok (.imul, 1) := by decide +kernel
theorem dL_law_79 : decode cL_law 79 = .ok (.iconst 1, 1) := by decide +kernel
theorem dL_law_80 : decode cL_law 80 = .ok (.iadd, 1) := by decide +kernel
theorem dL_law_81 : decode cL_law 81 = .ok (.invokestatic 157, 3) := by decide +kernel
theorem dL_law_84 : decode cL_law 84 = .ok (.invokestatic 161, 3) := by decide +kernel
theorem dL_law_87 : decode cL_law 87 = .ok (.istore 6, 2) := by decide +kernel
theorem dL_law_89 : decode cL_law 89 = .ok (.iinc 7 1, 3) := by decide +kernel
theorem dL_law_92 : decode cL_law 92 = .ok (.goto (-45), 3) := by decide +kernel
theorem dL_law_95 : decode cL_law 95 = .ok (.iload 6, 2) := by decide +kernel
theorem dL_law_97 : decode cL_law 97 = .ok (.ifCond .eq 38, 3) := by decide +kernel
theorem dL_law_100 : decode cL_law 100 = .ok (.aload_n 1, 1) := by decide +kernel
theorem dL_law_101 : decode cL_law 101 = .ok (.aload_n 2, 1) := by decide +kernel
theorem dL_law_102 : decode cL_law 102 = .ok (.aload_n 3, 1) := by decide +kernel
theorem dL_law_103 : decode cL_law 103 = .ok (.iconst 2, 1) := by decide +kernel
theorem dL_law_104 : decode cL_law 104 = .ok (.invokestatic 144, 3) := by decide +kernel
theorem dL_law_107 : decode cL_law 107 = .ok (.ifCond .eq 28, 3) := by decide +kernel
theorem dL_law_110 : decode cL_law 110 = .ok (.aload_n 1, 1) := by decide +kernel
theorem dL_law_111 : decode cL_law 111 = .ok (.aload_n 2, 1) := by decide +kernel
theorem dL_law_112 : decode cL_law 112 = .ok (.aload 4, 2) := by decide +kernel
theorem dL_law_114 : decode cL_law 114 = .ok (.aload 5, 2) := by decide +kernel
theorem dL_law_116 : decode cL_law 116 = .ok (.invokestatic 148, 3) := by decide +kernel
theorem dL_law_119 : decode cL_law 119 = .ok (.ifCond .eq 16, 3) := by decide +kernel
theorem dL_law_122 : decode cL_law 122 = .ok (.aload_n 1, 1) := by decide +kernel
theorem dL_law_123 : decode cL_law 123 = .ok (.aload_n 2, 1) := by decide +kernel
theorem dL_law_124 : decode cL_law 124 = .ok (.aload_n 3, 1) := by decide +kernel
theorem dL_law_125 : decode cL_law 125 = .ok (.invokestatic 152, 3) := by decide +kernel
theorem dL_law_128 : decode cL_law 128 = .ok (.ifCond .eq 7, 3) := by decide +kernel
theorem dL_law_131 : decode cL_law 131 = .ok (.iconst 1, 1) := by decide +kernel
theorem dL_law_132 : decode cL_law 132 = .ok (.goto 4, 3) := by decide +kernel
theorem dL_law_135 : decode cL_law 135 = .ok (.iconst 0, 1) := by decide +kernel
theorem dL_law_136 : decode cL_law 136 = .ok (.ireturn, 1) := by decide +kernel
