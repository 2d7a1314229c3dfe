/-! the law: its printed names, 0592 -/
theorem dL_isPage_0 : decode cL_isPage 0 = .ok (.iconst 0, 1) := by decide +kernel
theorem dL_isPage_1 : decode cL_isPage 1 = .ok (.istore 4, 2) := by decide +kernel
theorem dL_isPage_3 : decode cL_isPage 3 = .ok (.iconst 0, 1) := by decide +kernel
theorem dL_isPage_4 : decode cL_isPage 4 = .ok (.istore 5, 2) := by decide +kernel
theorem dL_isPage_6 : decode cL_isPage 6 = .ok (.iload 5, 2) := by decide +kernel
theorem dL_isPage_8 : decode cL_isPage 8 = .ok (.aload_n 1, 1) := by decide +kernel
theorem dL_isPage_9 : decode cL_isPage 9 = .ok (.iconst 0, 1) := by decide +kernel
theorem dL_isPage_10 : decode cL_isPage 10 = .ok (.iaload, 1) := by decide +kernel
theorem dL_isPage_11 : decode cL_isPage 11 = .ok (.if_icmp .ge 27, 3) := by decide +kernel
theorem dL_isPage_14 : decode cL_isPage 14 = .ok (.iload 4, 2) := by decide +kernel
theorem dL_isPage_16 : decode cL_isPage 16 = .ok (.aload_n 2, 1) := by decide +kernel
theorem dL_isPage_17 : decode cL_isPage 17 = .ok (.iload 5, 2) := by decide +kernel
theorem dL_isPage_19 : decode cL_isPage 19 = .ok (.iaload, 1) := by decide +kernel
theorem dL_isPage_20 : decode cL_isPage 20 = .ok (.iload_n 3, 1) := by decide +kernel
theorem dL_isPage_21 : decode cL_isPage 21 = .ok (.if_icmp .ne 7, 3) := by decide +kernel
theorem dL_isPage_24 : decode cL_isPage 24 = .ok (.iconst 1, 1) := by decide +kernel
theorem dL_isPage_25 : decode cL_isPage 25 = .ok (.goto 4, 3) := by decide +kernel
theorem dL_isPage_28 : decode cL_isPage 28 = .ok (.iconst 0, 1) := by decide +kernel
theorem dL_isPage_29 : decode cL_isPage 29 = .ok (.iadd, 1) := by decide +kernel
theorem dL_isPage_30 : decode cL_isPage 30 = .ok (.istore 4, 2) := by decide +kernel
theorem dL_isPage_32 : decode cL_isPage 32 = .ok (.iinc 5 1, 3) := by decide +kernel
theorem dL_isPage_35 : decode cL_isPage 35 = .ok (.goto (-29), 3) := by decide +kernel
theorem dL_isPage_38 : decode cL_isPage 38 = .ok (.aload_n 0, 1) := by decide +kernel
theorem dL_isPage_39 : decode cL_isPage 39 = .ok (.iload_n 3, 1) := by decide +kernel
theorem dL_isPage_40 : decode cL_isPage 40 = .ok (.invokestatic 80, 3) := by decide +kernel
theorem dL_isPage_43 : decode cL_isPage 43 = .ok (.iload 4, 2) := by decide +kernel
theorem dL_isPage_45 : decode cL_isPage 45 = .ok (.if_icmp .ne 29, 3) := by decide +kernel
theorem dL_isPage_48 : decode cL_isPage 48 = .ok (.aload_n 0, 1) := by decide +kernel
theorem dL_isPage_49 : decode cL_isPage 49 = .ok (.iload_n 3, 1) := by decide +kernel
theorem dL_isPage_50 : decode cL_isPage 50 = .ok (.iload 4, 2) := by decide +kernel
theorem dL_isPage_52 : decode cL_isPage 52 = .ok (.invokestatic 85, 3) := by decide +kernel
theorem dL_isPage_55 : decode cL_isPage 55 = .ok (.iconst (-1), 1) := by decide +kernel
theorem dL_isPage_56 : decode cL_isPage 56 = .ok (.if_icmp .ne 18, 3) := by decide +kernel
theorem dL_isPage_59 : decode cL_isPage 59 = .ok (.aload_n 0, 1) := by decide +kernel
theorem dL_isPage_60 : decode cL_isPage 60 = .ok (.iload_n 3, 1) := by decide +kernel
theorem dL_isPage_61 : decode cL_isPage 61 = .ok (.iload 4, 2) := by decide +kernel
theorem dL_isPage_63 : decode cL_isPage 63 = .ok (.invokestatic 88, 3) := by decide +kernel
theorem dL_isPage_66 : decode cL_isPage 66 = .ok (.iconst (-1), 1) := by decide +kernel
theorem dL_isPage_67 : decode cL_isPage 67 = .ok (.if_icmp .ne 7, 3) := by decide +kernel
theorem dL_isPage_70 : decode cL_isPage 70 = .ok (.iconst 1, 1) := by decide +kernel
theorem dL_isPage_71 : decode cL_isPage 71 = .ok (.goto 4, 3) := by decide +kernel
theorem dL_isPage_74 : decode cL_isPage 74 = .ok (.iconst 0, 1) := by decide +kernel
theorem dL_isPage_75 : decode cL_isPage 75 = .ok (.istore 5, 2) := by decide +kernel
theorem dL_isPage_77 : decode cL_isPage 77 = .ok (.iconst 0, 1) := by decide +kernel
theorem dL_isPage_78 : decode cL_isPage 78 = .ok (.istore 6, 2) := by decide +kernel
theorem dL_isPage_80 : decode cL_isPage 80 = .ok (.iconst 0, 1) := by decide +kernel
theorem dL_isPage_81 : decode cL_isPage 81 = .ok (.istore 7, 2) := by decide +kernel
theorem dL_isPage_83 : decode cL_isPage 83 = .ok (.iconst (-1), 1) := by decide +kernel
theorem dL_isPage_84 : decode cL_isPage 84 = .ok (.istore 8, 2) := by decide +kernel
theorem dL_isPage_86 : decode cL_isPage 86 = .ok (.iconst 0, 1) := by decide +kernel
theorem dL_isPage_87 : decode cL_isPage 87 = .ok (.istore 9, 2) := by decide +kernel
theorem dL_isPage_89 : decode cL_isPage 89 = .ok (.iload 9, 2) := by decide +kernel
theorem dL_isPage_91 : decode cL_isPage 91 = .ok (.iload 4, 2) := by decide +kernel
theorem dL_isPage_93 : decode cL_isPage 93 = .ok (.if_icmp .ge 276, 3) := by decide +kernel
theorem dL_isPage_96 : decode cL_isPage 96 = .ok (.iload 5, 2) := by decide +kernel
theorem dL_isPage_98 : decode cL_isPage 98 = .ok (.ifCond .eq 271, 3) := by decide +kernel
theorem dL_isPage_101 : decode cL_isPage 101 = .ok (.aload_n 0, 1) := by decide +kernel
theorem dL_isPage_102 : decode cL_isPage 102 = .ok (.iload_n 3, 1) := by decide +kernel
theorem dL_isPage_103 : decode cL_isPage 103 = .ok (.iload 9, 2) := by decide +kernel
theorem dL_isPage_105 : decode cL_isPage 105 = .ok (.invokestatic 85, 3) := by decide +kernel
theorem dL_isPage_108 : decode cL_isPage 108 = .ok (.istore 10, 2) := by decide +kernel
theorem dL_isPage_110 : decode cL_isPage 110 = .ok (.iload 10, 2) := by decide +kernel
theorem dL_isPage_112 : decode cL_isPage 112 = .ok (.ifCond .ge 7, 3) := by decide +kernel
theorem dL_isPage_115 : decode cL_isPage 115 = .ok (.iconst 0, 1) := by decide +kernel
theorem dL_isPage_116 : decode cL_isPage 116 = .ok (.goto 9, 3) := by decide +kernel
theorem dL_isPage_119 : decode cL_isPage 119 = .ok (.aload_n 0, 1) := by decide +kernel
theorem dL_isPage_120 : decode cL_isPage 120 = .ok (.iload 10, 2) := by decide +kernel
theorem dL_isPage_122 : decode cL_isPage 122 = .ok (.invokestatic 90, 3) := by decide +kernel
theorem dL_isPage_125 : decode cL_isPage 125 = .ok (.istore 11, 2) := by decide +kernel
theorem dL_isPage_127 : decode cL_isPage 127 = .ok (.iload 7, 2) := by decide +kernel
theorem dL_isPage_129 : decode cL_isPage 129 = .ok (.iload 11, 2) := by decide +kernel
theorem dL_isPage_131 : decode cL_isPage 131 = .ok (.ifCond .le 7, 3) := by decide +kernel
theorem dL_isPage_134 : decode cL_isPage 134 = .ok (.iconst 1, 1) := by decide +kernel
theorem dL_isPage_135 : decode cL_isPage 135 = .ok (.goto 4, 3) := by decide +kernel
theorem dL_isPage_138 : decode cL_isPage 138 = .ok (.iconst 0, 1) := by decide +kernel
theorem dL_isPage_139 : decode cL_isPage 139 = .ok (.iadd, 1) := by decide +kernel
theorem dL_isPage_140 : decode cL_isPage 140 = .ok (.istore 7, 2) := by decide +kernel
theorem dL_isPage_142 : decode cL_isPage 142 = .ok (.iload 10, 2) := by decide +kernel
theorem dL_isPage_144 : decode cL_isPage 144 = .ok (.ifCond .lt 194, 3) := by decide +kernel
theorem dL_isPage_147 : decode cL_isPage 147 = .ok (.aload_n 2, 1) := by decide +kernel
theorem dL_isPage_148 : decode cL_isPage 148 = .ok (.iload 10, 2) := by decide +kernel
theorem dL_isPage_150 : decode cL_isPage 150 = .ok (.iaload, 1) := by decide +kernel
theorem dL_isPage_151 : decode cL_isPage 151 = .ok (.iload_n 3, 1) := by decide +kernel
theorem dL_isPage_152 : decode cL_isPage 152 = .ok (.if_icmp .ne 186, 3) := by decide +kernel
theorem dL_isPage_155 : decode cL_isPage 155 = .ok (.iload 6, 2) := by decide +kernel
theorem dL_isPage_157 : decode cL_isPage 157 = .ok (.iload 10, 2) := by decide +kernel
theorem dL_isPage_159 : decode cL_isPage 159 = .ok (.ishr, 1) := by decide +kernel
theorem dL_isPage_160 : decode cL_isPage 160 = .ok (.iconst 1, 1) := by decide +kernel
theorem dL_isPage_161 : decode cL_isPage 161 = .ok (.iand, 1) := by decide +kernel
theorem dL_isPage_162 : decode cL_isPage 162 = .ok (.ifCond .ne 176, 3) := by decide +kernel
theorem dL_isPage_165 : decode cL_isPage 165 = .ok (.iload 9, 2) := by decide +kernel
theorem dL_isPage_167 : decode cL_isPage 167 = .ok (.iconst 3, 1) := by decide +kernel
theorem dL_isPage_168 : decode cL_isPage 168 = .ok (.irem, 1) := by decide +kernel
theorem dL_isPage_169 : decode cL_isPage 169 = .ok (.ifCond .gt 15, 3) := by decide +kernel
theorem dL_isPage_172 : decode cL_isPage 172 = .ok (.aload_n 0, 1) := by decide +kernel
theorem dL_isPage_173 : decode cL_isPage 173 = .ok (.iload_n 3, 1) := by decide +kernel
theorem dL_isPage_174 : decode cL_isPage 174 = .ok (.iload 9, 2) := by decide +kernel
theorem dL_isPage_176 : decode cL_isPage 176 = .ok (.invokestatic 88, 3) := by decide +kernel
theorem dL_isPage_179 : decode cL_isPage 179 = .ok (.iload 10, 2) := by decide +kernel
theorem dL_isPage_181 : decode cL_isPage 181 = .ok (.if_icmp .ne 157, 3) := by decide +kernel
theorem dL_isPage_184 : decode cL_isPage 184 = .ok (.iload 9, 2) := by decide +kernel
theorem dL_isPage_186 : decode cL_isPage 186 = .ok (.iconst 4, 1) := by decide +kernel
theorem dL_isPage_187 : decode cL_isPage 187 = .ok (.irem, 1) := by decide +kernel
theorem dL_isPage_188 : decode cL_isPage 188 = .ok (.ifCond .gt 14, 3) := by decide +kernel
theorem dL_isPage_191 : decode cL_isPage 191 = .ok (.aload_n 0, 1) := by decide +kernel
theorem dL_isPage_192 : decode cL_isPage 192 = .ok (.iload 10, 2) := by decide +kernel
theorem dL_isPage_194 : decode cL_isPage 194 = .ok (.invokestatic 92, 3) := by decide +kernel
theorem dL_isPage_197 : decode cL_isPage 197 = .ok (.iload 9, 2) := by decide +kernel
theorem dL_isPage_199 : decode cL_isPage 199 = .ok (.if_icmp .ne 139, 3) := by decide +kernel
theorem dL_isPage_202 : decode cL_isPage 202 = .ok (.iload 11, 2) := by decide +kernel
theorem dL_isPage_204 : decode cL_isPage 204 = .ok (.ifCond .lt 134, 3) := by decide +kernel
theorem dL_isPage_207 : decode cL_isPage 207 = .ok (.iload 11, 2) := by decide +kernel
theorem dL_isPage_209 : decode cL_isPage 209 = .ok (.bipush 32, 2) := by decide +kernel
theorem dL_isPage_211 : decode cL_isPage 211 = .ok (.if_icmp .ge 127, 3) := by decide +kernel
theorem dL_isPage_214 : decode cL_isPage 214 = .ok (.aload_n 0, 1) := by decide +kernel
theorem dL_isPage_215 : decode cL_isPage 215 = .ok (.iload 10, 2) := by decide +kernel
theorem dL_isPage_217 : decode cL_isPage 217 = .ok (.iconst 5, 1) := by decide +kernel
theorem dL_isPage_218 : decode cL_isPage 218 = .ok (.invokestatic 94, 3) := by decide +kernel
theorem dL_isPage_221 : decode cL_isPage 221 = .ok (.iconst 3, 1) := by decide +kernel
theorem dL_isPage_222 : decode cL_isPage 222 = .ok (.if_icmp .gt 10, 3) := by decide +kernel
theorem dL_isPage_225 : decode cL_isPage 225 = .ok (.iload 11, 2) := by decide +kernel
theorem dL_isPage_227 : decode cL_isPage 227 = .ok (.iconst 1, 1) := by decide +kernel
theorem dL_isPage_228 : decode cL_isPage 228 = .ok (.iand, 1) := by decide +kernel
theorem dL_isPage_229 : decode cL_isPage 229 = .ok (.ifCond .ne 109, 3) := by decide +kernel
theorem dL_isPage_232 : decode cL_isPage 232 = .ok (.aload_n 0, 1) := by decide +kernel
theorem dL_isPage_233 : decode cL_isPage 233 = .ok (.iload 10, 2) := by decide +kernel
theorem dL_isPage_235 : decode cL_isPage 235 = .ok (.iconst 5, 1) := by decide +kernel
theorem dL_isPage_236 : decode cL_isPage 236 = .ok (.invokestatic 94, 3) := by decide +kernel
theorem dL_isPage_239 : decode cL_isPage 239 = .ok (.iconst 1, 1) := by decide +kernel
theorem dL_isPage_240 : decode cL_isPage 240 = .ok (.if_icmp .eq 10, 3) := by decide +kernel
theorem dL_isPage_243 : decode cL_isPage 243 = .ok (.iload 11, 2) := by decide +kernel
theorem dL_isPage_245 : decode cL_isPage 245 = .ok (.iconst 2, 1) := by decide +kernel
theorem dL_isPage_246 : decode cL_isPage 246 = .ok (.iand, 1) := by decide +kernel
theorem dL_isPage_247 : decode cL_isPage 247 = .ok (.ifCond .ne 91, 3) := by decide +kernel
theorem dL_isPage_250 : decode cL_isPage 250 = .ok (.aload_n 0, 1) := by decide +kernel
theorem dL_isPage_251 : decode cL_isPage 251 = .ok (.iload 10, 2) := by decide +kernel
theorem dL_isPage_253 : decode cL_isPage 253 = .ok (.iconst 5, 1) := by decide +kernel
theorem dL_isPage_254 : decode cL_isPage 254 = .ok (.invokestatic 94, 3) := by decide +kernel
theorem dL_isPage_257 : decode cL_isPage 257 = .ok (.iconst 3, 1) := by decide +kernel
theorem dL_isPage_258 : decode cL_isPage 258 = .ok (.if_icmp .eq 10, 3) := by decide +kernel
theorem dL_isPage_261 : decode cL_isPage 261 = .ok (.iload 11, 2) := by decide +kernel
theorem dL_isPage_263 : decode cL_isPage 263 = .ok (.iconst 4, 1) := by decide +kernel
theorem dL_isPage_264 : decode cL_isPage 264 = .ok (.iand, 1) := by decide +kernel
theorem dL_isPage_265 : decode cL_isPage 265 = .ok (.ifCond .ne 73, 3) := by decide +kernel
theorem dL_isPage_268 : decode cL_isPage 268 = .ok (.iload 9, 2) := by decide +kernel
theorem dL_isPage_270 : decode cL_isPage 270 = .ok (.ifCond .gt 11, 3) := by decide +kernel
theorem dL_isPage_273 : decode cL_isPage 273 = .ok (.iload 11, 2) := by decide +kernel
theorem dL_isPage_275 : decode cL_isPage 275 = .ok (.bipush 16, 2) := by decide +kernel
theorem dL_isPage_277 : decode cL_isPage 277 = .ok (.iand, 1) := by decide +kernel
theorem dL_isPage_278 : decode cL_isPage 278 = .ok (.ifCond .ne 60, 3) := by decide +kernel
theorem dL_isPage_281 : decode cL_isPage 281 = .ok (.aload_n 0, 1) := by decide +kernel
theorem dL_isPage_282 : decode cL_isPage 282 = .ok (.iload 10, 2) := by decide +kernel
theorem dL_isPage_284 : decode cL_isPage 284 = .ok (.bipush 6, 2) := by decide +kernel
theorem dL_isPage_286 : decode cL_isPage 286 = .ok (.invokestatic 94, 3) := by decide +kernel
theorem dL_isPage_289 : decode cL_isPage 289 = .ok (.ifCond .lt 16, 3) := by decide +kernel
theorem dL_isPage_292 : decode cL_isPage 292 = .ok (.aload_n 0, 1) := by decide +kernel
theorem dL_isPage_293 : decode cL_isPage 293 = .ok (.iload 10, 2) := by decide +kernel
theorem dL_isPage_295 : decode cL_isPage 295 = .ok (.bipush 6, 2) := by decide +kernel
theorem dL_isPage_297 : decode cL_isPage 297 = .ok (.invokestatic 94, 3) := by decide +kernel
theorem dL_isPage_300 : decode cL_isPage 300 = .ok (.iload 8, 2) := by decide +kernel
theorem dL_isPage_302 : decode cL_isPage 302 = .ok (.if_icmp .ne 36, 3) := by decide +kernel
theorem dL_isPage_305 : decode cL_isPage 305 = .ok (.iload 9, 2) := by decide +kernel
theorem dL_isPage_307 : decode cL_isPage 307 = .ok (.ifCond .eq 27, 3) := by decide +kernel
theorem dL_isPage_310 : decode cL_isPage 310 = .ok (.aload_n 0, 1) := by decide +kernel
theorem dL_isPage_311 : decode cL_isPage 311 = .ok (.iload 8, 2) := by decide +kernel
theorem dL_isPage_313 : decode cL_isPage 313 = .ok (.bipush 7, 2) := by decide +kernel
theorem dL_isPage_315 : decode cL_isPage 315 = .ok (.invokestatic 94, 3) := by decide +kernel
theorem dL_isPage_318 : decode cL_isPage 318 = .ok (.ifCond .lt 16, 3) := by decide +kernel
theorem dL_isPage_321 : decode cL_isPage 321 = .ok (.aload_n 0, 1) := by decide +kernel
theorem dL_isPage_322 : decode cL_isPage 322 = .ok (.iload 8, 2) := by decide +kernel
theorem dL_isPage_324 : decode cL_isPage 324 = .ok (.bipush 7, 2) := by decide +kernel
theorem dL_isPage_326 : decode cL_isPage 326 = .ok (.invokestatic 94, 3) := by decide +kernel
theorem dL_isPage_329 : decode cL_isPage 329 = .ok (.iload 10, 2) := by decide +kernel
theorem dL_isPage_331 : decode cL_isPage 331 = .ok (.if_icmp .ne 7, 3) := by decide +kernel
theorem dL_isPage_334 : decode cL_isPage 334 = .ok (.iconst 1, 1) := by decide +kernel
theorem dL_isPage_335 : decode cL_isPage 335 = .ok (.goto 4, 3) := by decide +kernel
theorem dL_isPage_338 : decode cL_isPage 338 = .ok (.iconst 0, 1) := by decide +kernel
theorem dL_isPage_339 : decode cL_isPage 339 = .ok (.istore 5, 2) := by decide +kernel
theorem dL_isPage_341 : decode cL_isPage 341 = .ok (.iload 6, 2) := by decide +kernel
theorem dL_isPage_343 : decode cL_isPage 343 = .ok (.iload 5, 2) := by decide +kernel
theorem dL_isPage_345 : decode cL_isPage 345 = .ok (.ifCond .eq 10, 3) := by decide +kernel
theorem dL_isPage_348 : decode cL_isPage 348 = .ok (.iconst 1, 1) := by decide +kernel
theorem dL_isPage_349 : decode cL_isPage 349 = .ok (.iload 10, 2) := by decide +kernel
theorem dL_isPage_351 : decode cL_isPage 351 = .ok (.ishl, 1) := by decide +kernel
theorem dL_isPage_352 : decode cL_isPage 352 = .ok (.goto 4, 3) := by decide +kernel
theorem dL_isPage_355 : decode cL_isPage 355 = .ok (.iconst 0, 1) := by decide +kernel
theorem dL_isPage_356 : decode cL_isPage 356 = .ok (.ior, 1) := by decide +kernel
theorem dL_isPage_357 : decode cL_isPage 357 = .ok (.istore 6, 2) := by decide +kernel
theorem dL_isPage_359 : decode cL_isPage 359 = .ok (.iload 10, 2) := by decide +kernel
theorem dL_isPage_361 : decode cL_isPage 361 = .ok (.istore 8, 2) := by decide +kernel
theorem dL_isPage_363 : decode cL_isPage 363 = .ok (.iinc 9 1, 3) := by decide +kernel
theorem dL_isPage_366 : decode cL_isPage 366 = .ok (.goto (-277), 3) := by decide +kernel
theorem dL_isPage_369 : decode cL_isPage 369 = .ok (.iload 5, 2) := by decide +kernel
theorem dL_isPage_371 : decode cL_isPage 371 = .ok (.ifCond .eq 42, 3) := by decide +kernel
theorem dL_isPage_374 : decode cL_isPage 374 = .ok (.aload_n 0, 1) := by decide +kernel
theorem dL_isPage_375 : decode cL_isPage 375 = .ok (.iload_n 3, 1) := by decide +kernel
theorem dL_isPage_376 : decode cL_isPage 376 = .ok (.invokestatic 96, 3) := by decide +kernel
theorem dL_isPage_379 : decode cL_isPage 379 = .ok (.iload 7, 2) := by decide +kernel
theorem dL_isPage_381 : decode cL_isPage 381 = .ok (.if_icmp .ne 32, 3) := by decide +kernel
theorem dL_isPage_384 : decode cL_isPage 384 = .ok (.iload 4, 2) := by decide +kernel
theorem dL_isPage_386 : decode cL_isPage 386 = .ok (.iconst 2, 1) := by decide +kernel
theorem dL_isPage_387 : decode cL_isPage 387 = .ok (.if_icmp .ge 14, 3) := by decide +kernel
theorem dL_isPage_390 : decode cL_isPage 390 = .ok (.aload_n 0, 1) := by decide +kernel
theorem dL_isPage_391 : decode cL_isPage 391 = .ok (.iload_n 3, 1) := by decide +kernel
theorem dL_isPage_392 : decode cL_isPage 392 = .ok (.invokestatic 98, 3) := by decide +kernel
theorem dL_isPage_395 : decode cL_isPage 395 = .ok (.ifCond .ne 18, 3) := by decide +kernel
theorem dL_isPage_398 : decode cL_isPage 398 = .ok (.goto 11, 3) := by decide +kernel
theorem dL_isPage_401 : decode cL_isPage 401 = .ok (.aload_n 0, 1) := by decide +kernel
theorem dL_isPage_402 : decode cL_isPage 402 = .ok (.iload_n 3, 1) := by decide +kernel
theorem dL_isPage_403 : decode cL_isPage 403 = .ok (.invokestatic 98, 3) := by decide +kernel
theorem dL_isPage_406 : decode cL_isPage 406 = .ok (.ifCond .lt 7, 3) := by decide +kernel
theorem dL_isPage_409 : decode cL_isPage 409 = .ok (.iconst 1, 1) := by decide +kernel
theorem dL_isPage_410 : decode cL_isPage 410 = .ok (.goto 4, 3) := by decide +kernel
theorem dL_isPage_413 : decode cL_isPage 413 = .ok (.iconst 0, 1) := by decide +kernel
theorem dL_isPage_414 : decode cL_isPage 414 = .ok (.ireturn, 1) := by decide +kernel
theorem dL_areBoxes_0 : decode cL_areBoxes 0 = .ok (.aload_n 0, 1) := by decide +kernel
theorem dL_areBoxes_1 : decode cL_areBoxes 1 = .ok (.aload_n 1, 1) := by decide +kernel
theorem dL_areBoxes_2 : decode cL_areBoxes 2 = .ok (.iconst 0, 1) := by decide +kernel
theorem dL_areBoxes_3 : decode cL_areBoxes 3 = .ok (.iaload, 1) := by decide +kernel
theorem dL_areBoxes_4 : decode cL_areBoxes 4 = .ok (.iconst 0, 1) := by decide +kernel
theorem dL_areBoxes_5 : decode cL_areBoxes 5 = .ok (.invokestatic 94, 3) := by decide +kernel
theorem dL_areBoxes_8 : decode cL_areBoxes 8 = .ok (.ldc 18, 2) := by decide +kernel
theorem dL_areBoxes_10 : decode cL_areBoxes 10 = .ok (.if_icmp .ne 29, 3) := by decide +kernel
theorem dL_areBoxes_13 : decode cL_areBoxes 13 = .ok (.aload_n 0, 1) := by decide +kernel
theorem dL_areBoxes_14 : decode cL_areBoxes 14 = .ok (.aload_n 1, 1) := by decide +kernel
theorem dL_areBoxes_15 : decode cL_areBoxes 15 = .ok (.iconst 0, 1) := by decide +kernel
theorem dL_areBoxes_16 : decode cL_areBoxes 16 = .ok (.iaload, 1) := by decide +kernel
theorem dL_areBoxes_17 : decode cL_areBoxes 17 = .ok (.invokestatic 90, 3) := by decide +kernel
theorem dL_areBoxes_20 : decode cL_areBoxes 20 = .ok (.ldc 18, 2) := by decide +kernel
theorem dL_areBoxes_22 : decode cL_areBoxes 22 = .ok (.if_icmp .ne 17, 3) := by decide +kernel
theorem dL_areBoxes_25 : decode cL_areBoxes 25 = .ok (.aload_n 0, 1) := by decide +kernel
theorem dL_areBoxes_26 : decode cL_areBoxes 26 = .ok (.iconst (-1), 1) := by decide +kernel
theorem dL_areBoxes_27 : decode cL_areBoxes 27 = .ok (.invokestatic 92, 3) := by decide +kernel
theorem dL_areBoxes_30 : decode cL_areBoxes 30 = .ok (.ldc 18, 2) := by decide +kernel
theorem dL_areBoxes_32 : decode cL_areBoxes 32 = .ok (.if_icmp .ne 7, 3) := by decide +kernel
theorem dL_areBoxes_35 : decode cL_areBoxes 35 = .ok (.iconst 1, 1) := by decide +kernel
theorem dL_areBoxes_36 : decode cL_areBoxes 36 = .ok (.goto 4, 3) := by decide +kernel
theorem dL_areBoxes_39 : decode cL_areBoxes 39 = .ok (.iconst 0, 1) := by decide +kernel
theorem dL_areBoxes_40 : decode cL_areBoxes 40 = .ok (.istore_n 3, 1) := by decide +kernel
theorem dL_areBoxes_41 : decode cL_areBoxes 41 = .ok (.iconst 0, 1) := by decide +kernel
theorem dL_areBoxes_42 : decode cL_areBoxes 42 = .ok (.istore 4, 2) := by decide +kernel
theorem dL_areBoxes_44 : decode cL_areBoxes 44 = .ok (.iload 4, 2) := by decide +kernel
theorem dL_areBoxes_46 : decode cL_areBoxes 46 = .ok (.aload_n 1, 1) := by decide +kernel
theorem dL_areBoxes_47 : decode cL_areBoxes 47 = .ok (.iconst 0, 1) := by decide +kernel
theorem dL_areBoxes_48 : decode cL_areBoxes 48 = .ok (.iaload, 1) := by decide +kernel
theorem dL_areBoxes_49 : decode cL_areBoxes 49 = .ok (.if_icmp .ge 224, 3) := by decide +kernel
theorem dL_areBoxes_52 : decode cL_areBoxes 52 = .ok (.iload_n 3, 1) := by decide +kernel
theorem dL_areBoxes_53 : decode cL_areBoxes 53 = .ok (.ifCond .eq 220, 3) := by decide +kernel
theorem dL_areBoxes_56 : decode cL_areBoxes 56 = .ok (.aload_n 0, 1) := by decide +kernel
theorem dL_areBoxes_57 : decode cL_areBoxes 57 = .ok (.iload 4, 2) := by decide +kernel
theorem dL_areBoxes_59 : decode cL_areBoxes 59 = .ok (.bipush 7, 2) := by decide +kernel
theorem dL_areBoxes_61 : decode cL_areBoxes 61 = .ok (.invokestatic 94, 3) := by decide +kernel
theorem dL_areBoxes_64 : decode cL_areBoxes 64 = .ok (.istore 5, 2) := by decide +kernel
theorem dL_areBoxes_66 : decode cL_areBoxes 66 = .ok (.aload_n 0, 1) := by decide +kernel
theorem dL_areBoxes_67 : decode cL_areBoxes 67 = .ok (.iload 4, 2) := by decide +kernel
theorem dL_areBoxes_69 : decode cL_areBoxes 69 = .ok (.bipush 6, 2) := by decide +kernel
theorem dL_areBoxes_71 : decode cL_areBoxes 71 = .ok (.invokestatic 94, 3) := by decide +kernel
theorem dL_areBoxes_74 : decode cL_areBoxes 74 = .ok (.istore 6, 2) := by decide +kernel
theorem dL_areBoxes_76 : decode cL_areBoxes 76 = .ok (.aload_n 0, 1) := by decide +kernel
theorem dL_areBoxes_77 : decode cL_areBoxes 77 = .ok (.iload 4, 2) := by decide +kernel
theorem dL_areBoxes_79 : decode cL_areBoxes 79 = .ok (.bipush 8, 2) := by decide +kernel
theorem dL_areBoxes_81 : decode cL_areBoxes 81 = .ok (.invokestatic 94, 3) := by decide +kernel
theorem dL_areBoxes_84 : decode cL_areBoxes 84 = .ok (.iconst 1, 1) := by decide +kernel
theorem dL_areBoxes_85 : decode cL_areBoxes 85 = .ok (.if_icmp .ne 7, 3) := by decide +kernel
theorem dL_areBoxes_88 : decode cL_areBoxes 88 = .ok (.iconst 1, 1) := by decide +kernel
theorem dL_areBoxes_89 : decode cL_areBoxes 89 = .ok (.goto 4, 3) := by decide +kernel
theorem dL_areBoxes_92 : decode cL_areBoxes 92 = .ok (.iconst 0, 1) := by decide +kernel
theorem dL_areBoxes_93 : decode cL_areBoxes 93 = .ok (.aload_n 2, 1) := by decide +kernel
theorem dL_areBoxes_94 : decode cL_areBoxes 94 = .ok (.iload 4, 2) := by decide +kernel
theorem dL_areBoxes_96 : decode cL_areBoxes 96 = .ok (.iaload, 1) := by decide +kernel
theorem dL_areBoxes_97 : decode cL_areBoxes 97 = .ok (.bipush 9, 2) := by decide +kernel
theorem dL_areBoxes_99 : decode cL_areBoxes 99 = .ok (.if_icmp .ne 7, 3) := by decide +kernel
theorem dL_areBoxes_102 : decode cL_areBoxes 102 = .ok (.iconst 1, 1) := by decide +kernel
theorem dL_areBoxes_103 : decode cL_areBoxes 103 = .ok (.goto 4, 3) := by decide +kernel
theorem dL_areBoxes_106 : decode cL_areBoxes 106 = .ok (.iconst 0, 1) := by decide +kernel
theorem dL_areBoxes_107 : decode cL_areBoxes 107 = .ok (.if_icmp .ne 158, 3) := by decide +kernel
theorem dL_areBoxes_110 : decode cL_areBoxes 110 = .ok (.aload_n 2, 1) := by decide +kernel
theorem dL_areBoxes_111 : decode cL_areBoxes 111 = .ok (.iload 4, 2) := by decide +kernel
theorem dL_areBoxes_113 : decode cL_areBoxes 113 = .ok (.iaload, 1) := by decide +kernel
theorem dL_areBoxes_114 : decode cL_areBoxes 114 = .ok (.bipush 9, 2) := by decide +kernel
theorem dL_areBoxes_116 : decode cL_areBoxes 116 = .ok (.if_icmp .eq 17, 3) := by decide +kernel
theorem dL_areBoxes_119 : decode cL_areBoxes 119 = .ok (.aload_n 0, 1) := by decide +kernel
theorem dL_areBoxes_120 : decode cL_areBoxes 120 = .ok (.iload 4, 2) := by decide +kernel
theorem dL_areBoxes_122 : decode cL_areBoxes 122 = .ok (.iconst 0, 1) := by decide +kernel
theorem dL_areBoxes_123 : decode cL_areBoxes 123 = .ok (.invokestatic 94, 3) := by decide +kernel
theorem dL_areBoxes_126 : decode cL_areBoxes 126 = .ok (.aload_n 2, 1) := by decide +kernel
theorem dL_areBoxes_127 : decode cL_areBoxes 127 = .ok (.iload 4, 2) := by decide +kernel
theorem dL_areBoxes_129 : decode cL_areBoxes 129 = .ok (.iaload, 1) := by decide +kernel
theorem dL_areBoxes_130 : decode cL_areBoxes 130 = .ok (.if_icmp .ne 135, 3) := by decide +kernel
theorem dL_areBoxes_133 : decode cL_areBoxes 133 = .ok (.aload_n 0, 1) := by decide +kernel
theorem dL_areBoxes_134 : decode cL_areBoxes 134 = .ok (.iload 4, 2) := by decide +kernel
theorem dL_areBoxes_136 : decode cL_areBoxes 136 = .ok (.iconst 1, 1) := by decide +kernel
theorem dL_areBoxes_137 : decode cL_areBoxes 137 = .ok (.invokestatic 94, 3) := by decide +kernel
theorem dL_areBoxes_140 : decode cL_areBoxes 140 = .ok (.ifCond .lt 125, 3) := by decide +kernel
theorem dL_areBoxes_143 : decode cL_areBoxes 143 = .ok (.aload_n 0, 1) := by decide +kernel
theorem dL_areBoxes_144 : decode cL_areBoxes 144 = .ok (.iload 4, 2) := by decide +kernel
theorem dL_areBoxes_146 : decode cL_areBoxes 146 = .ok (.iconst 1, 1) := by decide +kernel
theorem dL_areBoxes_147 : decode cL_areBoxes 147 = .ok (.invokestatic 94, 3) := by decide +kernel
theorem dL_areBoxes_150 : decode cL_areBoxes 150 = .ok (.aload_n 0, 1) := by decide +kernel
theorem dL_areBoxes_151 : decode cL_areBoxes 151 = .ok (.iload 4, 2) := by decide +kernel
theorem dL_areBoxes_153 : decode cL_areBoxes 153 = .ok (.iconst 3, 1) := by decide +kernel
theorem dL_areBoxes_154 : decode cL_areBoxes 154 = .ok (.invokestatic 94, 3) := by decide +kernel
theorem dL_areBoxes_157 : decode cL_areBoxes 157 = .ok (.iadd, 1) := by decide +kernel
theorem dL_areBoxes_158 : decode cL_areBoxes 158 = .ok (.bipush 60, 2) := by decide +kernel
theorem dL_areBoxes_160 : decode cL_areBoxes 160 = .ok (.if_icmp .gt 105, 3) := by decide +kernel
theorem dL_areBoxes_163 : decode cL_areBoxes 163 = .ok (.aload_n 0, 1) := by decide +kernel
theorem dL_areBoxes_164 : decode cL_areBoxes 164 = .ok (.iload 4, 2) := by decide +kernel
theorem dL_areBoxes_166 : decode cL_areBoxes 166 = .ok (.iconst 2, 1) := by decide +kernel
theorem dL_areBoxes_167 : decode cL_areBoxes 167 = .ok (.invokestatic 94, 3) := by decide +kernel
theorem dL_areBoxes_170 : decode cL_areBoxes 170 = .ok (.ifCond .lt 95, 3) := by decide +kernel
theorem dL_areBoxes_173 : decode cL_areBoxes 173 = .ok (.aload_n 0, 1) := by decide +kernel
theorem dL_areBoxes_174 : decode cL_areBoxes 174 = .ok (.iload 4, 2) := by decide +kernel
theorem dL_areBoxes_176 : decode cL_areBoxes 176 = .ok (.iconst 2, 1) := by decide +kernel
theorem dL_areBoxes_177 : decode cL_areBoxes 177 = .ok (.invokestatic 94, 3) := by decide +kernel
theorem dL_areBoxes_180 : decode cL_areBoxes 180 = .ok (.aload_n 0, 1) := by decide +kernel
theorem dL_areBoxes_181 : decode cL_areBoxes 181 = .ok (.iload 4, 2) := by decide +kernel
theorem dL_areBoxes_183 : decode cL_areBoxes 183 = .ok (.iconst 4, 1) := by decide +kernel
theorem dL_areBoxes_184 : decode cL_areBoxes 184 = .ok (.invokestatic 94, 3) := by decide +kernel
theorem dL_areBoxes_187 : decode cL_areBoxes 187 = .ok (.iadd, 1) := by decide +kernel
theorem dL_areBoxes_188 : decode cL_areBoxes 188 = .ok (.bipush 80, 2) := by decide +kernel
theorem dL_areBoxes_190 : decode cL_areBoxes 190 = .ok (.if_icmp .gt 75, 3) := by decide +kernel
theorem dL_areBoxes_193 : decode cL_areBoxes 193 = .ok (.iload 5, 2) := by decide +kernel
theorem dL_areBoxes_195 : decode cL_areBoxes 195 = .ok (.ifCond .lt 39, 3) := by decide +kernel
theorem dL_areBoxes_198 : decode cL_areBoxes 198 = .ok (.aload_n 2, 1) := by decide +kernel
theorem dL_areBoxes_199 : decode cL_areBoxes 199 = .ok (.iload 4, 2) := by decide +kernel
theorem dL_areBoxes_201 : decode cL_areBoxes 201 = .ok (.iaload, 1) := by decide +kernel
theorem dL_areBoxes_202 : decode cL_areBoxes 202 = .ok (.bipush 9, 2) := by decide +kernel
theorem dL_areBoxes_204 : decode cL_areBoxes 204 = .ok (.if_icmp .ge 61, 3) := by decide +kernel
theorem dL_areBoxes_207 : decode cL_areBoxes 207 = .ok (.aload_n 0, 1) := by decide +kernel
theorem dL_areBoxes_208 : decode cL_areBoxes 208 = .ok (.iload 5, 2) := by decide +kernel
theorem dL_areBoxes_210 : decode cL_areBoxes 210 = .ok (.bipush 6, 2) := by decide +kernel
theorem dL_areBoxes_212 : decode cL_areBoxes 212 = .ok (.invokestatic 94, 3) := by decide +kernel
theorem dL_areBoxes_215 : decode cL_areBoxes 215 = .ok (.iload 4, 2) := by decide +kernel
theorem dL_areBoxes_217 : decode cL_areBoxes 217 = .ok (.if_icmp .ne 48, 3) := by decide +kernel
theorem dL_areBoxes_220 : decode cL_areBoxes 220 = .ok (.aload_n 0, 1) := by decide +kernel
theorem dL_areBoxes_221 : decode cL_areBoxes 221 = .ok (.iload 5, 2) := by decide +kernel
theorem dL_areBoxes_223 : decode cL_areBoxes 223 = .ok (.iconst 0, 1) := by decide +kernel
theorem dL_areBoxes_224 : decode cL_areBoxes 224 = .ok (.invokestatic 94, 3) := by decide +kernel
theorem dL_areBoxes_227 : decode cL_areBoxes 227 = .ok (.aload_n 2, 1) := by decide +kernel
theorem dL_areBoxes_228 : decode cL_areBoxes 228 = .ok (.iload 4, 2) := by decide +kernel
theorem dL_areBoxes_230 : decode cL_areBoxes 230 = .ok (.iaload, 1) := by decide +kernel
theorem dL_areBoxes_231 : decode cL_areBoxes 231 = .ok (.if_icmp .ne 34, 3) := by decide +kernel
theorem dL_areBoxes_234 : decode cL_areBoxes 234 = .ok (.iload 6, 2) := by decide +kernel
theorem dL_areBoxes_236 : decode cL_areBoxes 236 = .ok (.ifCond .lt 25, 3) := by decide +kernel
theorem dL_areBoxes_239 : decode cL_areBoxes 239 = .ok (.aload_n 2, 1) := by decide +kernel
theorem dL_areBoxes_240 : decode cL_areBoxes 240 = .ok (.iload 4, 2) := by decide +kernel
theorem dL_areBoxes_242 : decode cL_areBoxes 242 = .ok (.iaload, 1) := by decide +kernel
theorem dL_areBoxes_243 : decode cL_areBoxes 243 = .ok (.bipush 9, 2) := by decide +kernel
theorem dL_areBoxes_245 : decode cL_areBoxes 245 = .ok (.if_icmp .ge 20, 3) := by decide +kernel
theorem dL_areBoxes_248 : decode cL_areBoxes 248 = .ok (.aload_n 0, 1) := by decide +kernel
theorem dL_areBoxes_249 : decode cL_areBoxes 249 = .ok (.iload 6, 2) := by decide +kernel
theorem dL_areBoxes_251 : decode cL_areBoxes 251 = .ok (.bipush 7, 2) := by decide +kernel
theorem dL_areBoxes_253 : decode cL_areBoxes 253 = .ok (.invokestatic 94, 3) := by decide +kernel
theorem dL_areBoxes_256 : decode cL_areBoxes 256 = .ok (.iload 4, 2) := by decide +kernel
theorem dL_areBoxes_258 : decode cL_areBoxes 258 = .ok (.if_icmp .ne 7, 3) := by decide +kernel
theorem dL_areBoxes_261 : decode cL_areBoxes 261 = .ok (.iconst 1, 1) := by decide +kernel
theorem dL_areBoxes_262 : decode cL_areBoxes 262 = .ok (.goto 4, 3) := by decide +kernel
theorem dL_areBoxes_265 : decode cL_areBoxes 265 = .ok (.iconst 0, 1) := by decide +kernel
theorem dL_areBoxes_266 : decode cL_areBoxes 266 = .ok (.istore_n 3, 1) := by decide +kernel
theorem dL_areBoxes_267 : decode cL_areBoxes 267 = .ok (.iinc 4 1, 3) := by decide +kernel
theorem dL_areBoxes_270 : decode cL_areBoxes 270 = .ok (.goto (-226), 3) := by decide +kernel
theorem dL_areBoxes_273 : decode cL_areBoxes 273 = .ok (.iload_n 3, 1) := by decide +kernel
theorem dL_areBoxes_274 : decode cL_areBoxes 274 = .ok (.ireturn, 1) := by decide +kernel
theorem dL_areApprovals_0 : decode cL_areApprovals 0 = .ok (.aload_n 0, 1) := by decide +kernel
theorem dL_areApprovals_1 : decode cL_areApprovals 1 = .ok (.aload_n 1, 1) := by decide +kernel
theorem dL_areApprovals_2 : decode cL_areApprovals 2 = .ok (.iconst 1, 1) := by decide +kernel
theorem dL_areApprovals_3 : decode cL_areApprovals 3 = .ok (.iaload, 1) := by decide +kernel
theorem dL_areApprovals_4 : decode cL_areApprovals 4 = .ok (.invokestatic 100, 3) := by decide +kernel
theorem dL_areApprovals_7 : decode cL_areApprovals 7 = .ok (.ldc 18, 2) := by decide +kernel
theorem dL_areApprovals_9 : decode cL_areApprovals 9 = .ok (.if_icmp .ne 7, 3) := by decide +kernel
theorem dL_areApprovals_12 : decode cL_areApprovals 12 = .ok (.iconst 1, 1) := by decide +kernel
theorem dL_areApprovals_13 : decode cL_areApprovals 13 = .ok (.goto 4, 3) := by decide +kernel
theorem dL_areApprovals_16 : decode cL_areApprovals 16 = .ok (.iconst 0, 1) := by decide +kernel
theorem dL_areApprovals_17 : decode cL_areApprovals 17 = .ok (.istore 4, 2) := by decide +kernel
theorem dL_areApprovals_19 : decode cL_areApprovals 19 = .ok (.iconst 0, 1) := by decide +kernel
theorem dL_areApprovals_20 : decode cL_areApprovals 20 = .ok (.istore 5, 2) := by decide +kernel
theorem dL_areApprovals_22 : decode cL_areApprovals 22 = .ok (.iload 5, 2) := by decide +kernel
theorem dL_areApprovals_24 : decode cL_areApprovals 24 = .ok (.iconst 5, 1) := by decide +kernel
theorem dL_areApprovals_25 : decode cL_areApprovals 25 = .ok (.if_icmp .ge 76, 3) := by decide +kernel
theorem dL_areApprovals_28 : decode cL_areApprovals 28 = .ok (.iload 4, 2) := by decide +kernel
theorem dL_areApprovals_30 : decode cL_areApprovals 30 = .ok (.ifCond .eq 71, 3) := by decide +kernel
theorem dL_areApprovals_33 : decode cL_areApprovals 33 = .ok (.iconst 0, 1) := by decide +kernel
theorem dL_areApprovals_34 : decode cL_areApprovals 34 = .ok (.istore 6, 2) := by decide +kernel
theorem dL_areApprovals_36 : decode cL_areApprovals 36 = .ok (.iconst 0, 1) := by decide +kernel
theorem dL_areApprovals_37 : decode cL_areApprovals 37 = .ok (.istore 7, 2) := by decide +kernel
theorem dL_areApprovals_39 : decode cL_areApprovals 39 = .ok (.iload 7, 2) := by decide +kernel
theorem dL_areApprovals_41 : decode cL_areApprovals 41 = .ok (.aload_n 1, 1) := by decide +kernel
theorem dL_areApprovals_42 : decode cL_areApprovals 42 = .ok (.iconst 1, 1) := by decide +kernel
theorem dL_areApprovals_43 : decode cL_areApprovals 43 = .ok (.iaload, 1) := by decide +kernel
theorem dL_areApprovals_44 : decode cL_areApprovals 44 = .ok (.if_icmp .ge 33, 3) := by decide +kernel
theorem dL_areApprovals_47 : decode cL_areApprovals 47 = .ok (.iload 6, 2) := by decide +kernel
theorem dL_areApprovals_49 : decode cL_areApprovals 49 = .ok (.aload_n 2, 1) := by decide +kernel
theorem dL_areApprovals_50 : decode cL_areApprovals 50 = .ok (.iload 7, 2) := by decide +kernel
theorem dL_areApprovals_52 : decode cL_areApprovals 52 = .ok (.iaload, 1) := by decide +kernel
theorem dL_areApprovals_53 : decode cL_areApprovals 53 = .ok (.iload 5, 2) := by decide +kernel
theorem dL_areApprovals_55 : decode cL_areApprovals 55 = .ok (.if_icmp .ne 12, 3) := by decide +kernel
theorem dL_areApprovals_58 : decode cL_areApprovals 58 = .ok (.iconst 1, 1) := by decide +kernel
theorem dL_areApprovals_59 : decode cL_areApprovals 59 = .ok (.aload_n 3, 1) := by decide +kernel
theorem dL_areApprovals_60 : decode cL_areApprovals 60 = .ok (.iload 7, 2) := by decide +kernel
theorem dL_areApprovals_62 : decode cL_areApprovals 62 = .ok (.iaload, 1) := by decide +kernel
theorem dL_areApprovals_63 : decode cL_areApprovals 63 = .ok (.ishl, 1) := by decide +kernel
theorem dL_areApprovals_64 : decode cL_areApprovals 64 = .ok (.goto 4, 3) := by decide +kernel
theorem dL_areApprovals_67 : decode cL_areApprovals 67 = .ok (.iconst 0, 1) := by decide +kernel
theorem dL_areApprovals_68 : decode cL_areApprovals 68 = .ok (.ior, 1) := by decide +kernel
theorem dL_areApprovals_69 : decode cL_areApprovals 69 = .ok (.istore 6, 2) := by decide +kernel
theorem dL_areApprovals_71 : decode cL_areApprovals 71 = .ok (.iinc 7 1, 3) := by decide +kernel
theorem dL_areApprovals_74 : decode cL_areApprovals 74 = .ok (.goto (-35), 3) := by decide +kernel
theorem dL_areApprovals_77 : decode cL_areApprovals 77 = .ok (.aload_n 0, 1) := by decide +kernel
theorem dL_areApprovals_78 : decode cL_areApprovals 78 = .ok (.iload 5, 2) := by decide +kernel
theorem dL_areApprovals_80 : decode cL_areApprovals 80 = .ok (.invokestatic 102, 3) := by decide +kernel
theorem dL_areApprovals_83 : decode cL_areApprovals 83 = .ok (.iload 6, 2) := by decide +kernel
theorem dL_areApprovals_85 : decode cL_areApprovals 85 = .ok (.if_icmp .ne 7, 3) := by decide +kernel
theorem dL_areApprovals_88 : decode cL_areApprovals 88 = .ok (.iconst 1, 1) := by decide +kernel
theorem dL_areApprovals_89 : decode cL_areApprovals 89 = .ok (.goto 4, 3) := by decide +kernel
theorem dL_areApprovals_92 : decode cL_areApprovals 92 = .ok (.iconst 0, 1) := by decide +kernel
theorem dL_areApprovals_93 : decode cL_areApprovals 93 = .ok (.istore 4, 2) := by decide +kernel
theorem dL_areApprovals_95 : decode cL_areApprovals 95 = .ok (.iinc 5 1, 3) := by decide +kernel
theorem dL_areApprovals_98 : decode cL_areApprovals 98 = .ok (.goto (-76), 3) := by decide +kernel
theorem dL_areApprovals_101 : decode cL_areApprovals 101 = .ok (.iconst 0, 1) := by decide +kernel
theorem dL_areApprovals_102 : decode cL_areApprovals 102 = .ok (.istore 5, 2) := by decide +kernel
theorem dL_areApprovals_104 : decode cL_areApprovals 104 = .ok (.iload 5, 2) := by decide +kernel
theorem dL_areApprovals_106 : decode cL_areApprovals 106 = .ok (.aload_n 1, 1) := by decide +kernel
theorem dL_areApprovals_107 : decode cL_areApprovals 107 = .ok (.iconst 1, 1) := by decide +kernel
theorem dL_areApprovals_108 : decode cL_areApprovals 108 = .ok (.iaload, 1) := by decide +kernel
theorem dL_areApprovals_109 : decode cL_areApprovals 109 = .ok (.if_icmp .ge 44, 3) := by decide +kernel
theorem dL_areApprovals_112 : decode cL_areApprovals 112 = .ok (.iload 4, 2) := by decide +kernel
theorem dL_areApprovals_114 : decode cL_areApprovals 114 = .ok (.ifCond .eq 39, 3) := by decide +kernel
theorem dL_areApprovals_117 : decode cL_areApprovals 117 = .ok (.aload_n 0, 1) := by decide +kernel
theorem dL_areApprovals_118 : decode cL_areApprovals 118 = .ok (.iload 5, 2) := by decide +kernel
theorem dL_areApprovals_120 : decode cL_areApprovals 120 = .ok (.invokestatic 100, 3) := by decide +kernel
theorem dL_areApprovals_123 : decode cL_areApprovals 123 = .ok (.aload_n 2, 1) := by decide +kernel
theorem dL_areApprovals_124 : decode cL_areApprovals 124 = .ok (.iload 5, 2) := by decide +kernel
theorem dL_areApprovals_126 : decode cL_areApprovals 126 = .ok (.iaload, 1) := by decide +kernel
theorem dL_areApprovals_127 : decode cL_areApprovals 127 = .ok (.bipush 9, 2) := by decide +kernel
theorem dL_areApprovals_129 : decode cL_areApprovals 129 = .ok (.if_icmp .ge 7, 3) := by decide +kernel
theorem dL_areApprovals_132 : decode cL_areApprovals 132 = .ok (.iconst 1, 1) := by decide +kernel
theorem dL_areApprovals_133 : decode cL_areApprovals 133 = .ok (.goto 4, 3) := by decide +kernel
theorem dL_areApprovals_136 : decode cL_areApprovals 136 = .ok (.iconst 0, 1) := by decide +kernel
theorem dL_areApprovals_137 : decode cL_areApprovals 137 = .ok (.if_icmp .ne 7, 3) := by decide +kernel
theorem dL_areApprovals_140 : decode cL_areApprovals 140 = .ok (.iconst 1, 1) := by decide +kernel
theorem dL_areApprovals_141 : decode cL_areApprovals 141 = .ok (.goto 4, 3) := by decide +kernel
theorem dL_areApprovals_144 : decode cL_areApprovals 144 = .ok (.iconst 0, 1) := by decide +kernel
theorem dL_areApprovals_145 : decode cL_areApprovals 145 = .ok (.istore 4, 2) := by decide +kernel
theorem dL_areApprovals_147 : decode cL_areApprovals 147 = .ok (.iinc 5 1, 3) := by decide +kernel
theorem dL_areApprovals_150 : decode cL_areApprovals 150 = .ok (.goto (-46), 3) := by decide +kernel
theorem dL_areApprovals_153 : decode cL_areApprovals 153 = .ok (.iload 4, 2) := by decide +kernel
theorem dL_areApprovals_155 : decode cL_areApprovals 155 = .ok (.ireturn, 1) := by decide +kernel
