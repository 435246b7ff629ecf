theorem dL_isDrawn_0 : decode cL_isDrawn 0 = .ok (.iconst 0, 1) := by decide +kernel
theorem dL_isDrawn_1 : decode cL_isDrawn 1 = .ok (.istore_n 1, 1) := by decide +kernel
theorem dL_isDrawn_2 : decode cL_isDrawn 2 = .ok (.iconst 0, 1) := by decide +kernel
theorem dL_isDrawn_3 : decode cL_isDrawn 3 = .ok (.istore_n 2, 1) := by decide +kernel
theorem dL_isDrawn_4 : decode cL_isDrawn 4 = .ok (.iload_n 2, 1) := by decide +kernel
theorem dL_isDrawn_5 : decode cL_isDrawn 5 = .ok (.aload_n 0, 1) := by decide +kernel
theorem dL_isDrawn_6 : decode cL_isDrawn 6 = .ok (.invokevirtual 148, 3) := by decide +kernel
theorem dL_isDrawn_9 : decode cL_isDrawn 9 = .ok (.if_icmp .ge 79, 3) := by decide +kernel
theorem dL_isDrawn_12 : decode cL_isDrawn 12 = .ok (.iconst 0, 1) := by decide +kernel
theorem dL_isDrawn_13 : decode cL_isDrawn 13 = .ok (.istore_n 3, 1) := by decide +kernel
theorem dL_isDrawn_14 : decode cL_isDrawn 14 = .ok (.iload_n 3, 1) := by decide +kernel
theorem dL_isDrawn_15 : decode cL_isDrawn 15 = .ok (.aload_n 0, 1) := by decide +kernel
theorem dL_isDrawn_16 : decode cL_isDrawn 16 = .ok (.iload_n 2, 1) := by decide +kernel
theorem dL_isDrawn_17 : decode cL_isDrawn 17 = .ok (.invokevirtual 151, 3) := by decide +kernel
theorem dL_isDrawn_20 : decode cL_isDrawn 20 = .ok (.if_icmp .ge 62, 3) := by decide +kernel
theorem dL_isDrawn_23 : decode cL_isDrawn 23 = .ok (.aload_n 0, 1) := by decide +kernel
theorem dL_isDrawn_24 : decode cL_isDrawn 24 = .ok (.iload_n 2, 1) := by decide +kernel
theorem dL_isDrawn_25 : decode cL_isDrawn 25 = .ok (.iload_n 3, 1) := by decide +kernel
theorem dL_isDrawn_26 : decode cL_isDrawn 26 = .ok (.invokevirtual 154, 3) := by decide +kernel
theorem dL_isDrawn_29 : decode cL_isDrawn 29 = .ok (.istore 4, 2) := by decide +kernel
theorem dL_isDrawn_31 : decode cL_isDrawn 31 = .ok (.iload 4, 2) := by decide +kernel
theorem dL_isDrawn_33 : decode cL_isDrawn 33 = .ok (.ifCond .lt 26, 3) := by decide +kernel
theorem dL_isDrawn_36 : decode cL_isDrawn 36 = .ok (.aload_n 0, 1) := by decide +kernel
theorem dL_isDrawn_37 : decode cL_isDrawn 37 = .ok (.iload 4, 2) := by decide +kernel
theorem dL_isDrawn_39 : decode cL_isDrawn 39 = .ok (.invokevirtual 111, 3) := by decide +kernel
theorem dL_isDrawn_42 : decode cL_isDrawn 42 = .ok (.iload_n 2, 1) := by decide +kernel
theorem dL_isDrawn_43 : decode cL_isDrawn 43 = .ok (.if_icmp .ne 28, 3) := by decide +kernel
theorem dL_isDrawn_46 : decode cL_isDrawn 46 = .ok (.aload_n 0, 1) := by decide +kernel
theorem dL_isDrawn_47 : decode cL_isDrawn 47 = .ok (.iload 4, 2) := by decide +kernel
theorem dL_isDrawn_49 : decode cL_isDrawn 49 = .ok (.invokevirtual 117, 3) := by decide +kernel
theorem dL_isDrawn_52 : decode cL_isDrawn 52 = .ok (.iload_n 3, 1) := by decide +kernel
theorem dL_isDrawn_53 : decode cL_isDrawn 53 = .ok (.if_icmp .eq 20, 3) := by decide +kernel
theorem dL_isDrawn_59 : decode cL_isDrawn 59 = .ok (.aload_n 0, 1) := by decide +kernel
theorem dL_isDrawn_60 : decode cL_isDrawn 60 = .ok (.iconst (-1), 1) := by decide +kernel
theorem dL_isDrawn_61 : decode cL_isDrawn 61 = .ok (.iload 4, 2) := by decide +kernel
theorem dL_isDrawn_63 : decode cL_isDrawn 63 = .ok (.isub, 1) := by decide +kernel
theorem dL_isDrawn_64 : decode cL_isDrawn 64 = .ok (.invokevirtual 157, 3) := by decide +kernel
theorem dL_isDrawn_67 : decode cL_isDrawn 67 = .ok (.iconst 1, 1) := by decide +kernel
theorem dL_isDrawn_68 : decode cL_isDrawn 68 = .ok (.if_icmp .ge 5, 3) := by decide +kernel
theorem dL_isDrawn_73 : decode cL_isDrawn 73 = .ok (.iinc 1 1, 3) := by decide +kernel
theorem dL_isDrawn_76 : decode cL_isDrawn 76 = .ok (.iinc 3 1, 3) := by decide +kernel
theorem dL_isDrawn_79 : decode cL_isDrawn 79 = .ok (.goto (-65), 3) := by decide +kernel
theorem dL_isDrawn_82 : decode cL_isDrawn 82 = .ok (.iinc 2 1, 3) := by decide +kernel
theorem dL_isDrawn_85 : decode cL_isDrawn 85 = .ok (.goto (-81), 3) := by decide +kernel
theorem dL_isDrawn_88 : decode cL_isDrawn 88 = .ok (.iconst 0, 1) := by decide +kernel
theorem dL_isDrawn_89 : decode cL_isDrawn 89 = .ok (.istore_n 2, 1) := by decide +kernel
theorem dL_isDrawn_90 : decode cL_isDrawn 90 = .ok (.iconst 0, 1) := by decide +kernel
theorem dL_isDrawn_91 : decode cL_isDrawn 91 = .ok (.istore_n 3, 1) := by decide +kernel
theorem dL_isDrawn_92 : decode cL_isDrawn 92 = .ok (.iconst 0, 1) := by decide +kernel
theorem dL_isDrawn_93 : decode cL_isDrawn 93 = .ok (.istore 4, 2) := by decide +kernel
theorem dL_isDrawn_95 : decode cL_isDrawn 95 = .ok (.iload 4, 2) := by decide +kernel
theorem dL_isDrawn_97 : decode cL_isDrawn 97 = .ok (.aload_n 0, 1) := by decide +kernel
theorem dL_isDrawn_98 : decode cL_isDrawn 98 = .ok (.invokevirtual 82, 3) := by decide +kernel
theorem dL_isDrawn_101 : decode cL_isDrawn 101 = .ok (.if_icmp .ge 26, 3) := by decide +kernel
theorem dL_isDrawn_104 : decode cL_isDrawn 104 = .ok (.iload_n 1, 1) := by decide +kernel
theorem dL_isDrawn_105 : decode cL_isDrawn 105 = .ok (.aload_n 0, 1) := by decide +kernel
theorem dL_isDrawn_106 : decode cL_isDrawn 106 = .ok (.iload 4, 2) := by decide +kernel
theorem dL_isDrawn_108 : decode cL_isDrawn 108 = .ok (.invokevirtual 94, 3) := by decide +kernel
theorem dL_isDrawn_111 : decode cL_isDrawn 111 = .ok (.ifCond .eq 7, 3) := by decide +kernel
theorem dL_isDrawn_114 : decode cL_isDrawn 114 = .ok (.iconst 1, 1) := by decide +kernel
theorem dL_isDrawn_115 : decode cL_isDrawn 115 = .ok (.goto 4, 3) := by decide +kernel
theorem dL_isDrawn_118 : decode cL_isDrawn 118 = .ok (.iconst 0, 1) := by decide +kernel
theorem dL_isDrawn_119 : decode cL_isDrawn 119 = .ok (.isub, 1) := by decide +kernel
theorem dL_isDrawn_120 : decode cL_isDrawn 120 = .ok (.istore_n 1, 1) := by decide +kernel
theorem dL_isDrawn_121 : decode cL_isDrawn 121 = .ok (.iinc 4 1, 3) := by decide +kernel
theorem dL_isDrawn_124 : decode cL_isDrawn 124 = .ok (.goto (-29), 3) := by decide +kernel
theorem dL_isDrawn_127 : decode cL_isDrawn 127 = .ok (.iconst 0, 1) := by decide +kernel
theorem dL_isDrawn_128 : decode cL_isDrawn 128 = .ok (.istore 4, 2) := by decide +kernel
theorem dL_isDrawn_130 : decode cL_isDrawn 130 = .ok (.iload 4, 2) := by decide +kernel
theorem dL_isDrawn_132 : decode cL_isDrawn 132 = .ok (.aload_n 0, 1) := by decide +kernel
theorem dL_isDrawn_133 : decode cL_isDrawn 133 = .ok (.invokevirtual 123, 3) := by decide +kernel
theorem dL_isDrawn_136 : decode cL_isDrawn 136 = .ok (.if_icmp .ge 244, 3) := by decide +kernel
theorem dL_isDrawn_139 : decode cL_isDrawn 139 = .ok (.aload_n 0, 1) := by decide +kernel
theorem dL_isDrawn_140 : decode cL_isDrawn 140 = .ok (.iload 4, 2) := by decide +kernel
theorem dL_isDrawn_142 : decode cL_isDrawn 142 = .ok (.invokevirtual 126, 3) := by decide +kernel
theorem dL_isDrawn_145 : decode cL_isDrawn 145 = .ok (.istore 5, 2) := by decide +kernel
theorem dL_isDrawn_147 : decode cL_isDrawn 147 = .ok (.aload_n 0, 1) := by decide +kernel
theorem dL_isDrawn_148 : decode cL_isDrawn 148 = .ok (.iload 4, 2) := by decide +kernel
theorem dL_isDrawn_150 : decode cL_isDrawn 150 = .ok (.invokevirtual 129, 3) := by decide +kernel
theorem dL_isDrawn_153 : decode cL_isDrawn 153 = .ok (.istore 6, 2) := by decide +kernel
theorem dL_isDrawn_155 : decode cL_isDrawn 155 = .ok (.aload_n 0, 1) := by decide +kernel
theorem dL_isDrawn_156 : decode cL_isDrawn 156 = .ok (.iload 5, 2) := by decide +kernel
theorem dL_isDrawn_158 : decode cL_isDrawn 158 = .ok (.invokevirtual 94, 3) := by decide +kernel
theorem dL_isDrawn_161 : decode cL_isDrawn 161 = .ok (.ifCond .eq 19, 3) := by decide +kernel
theorem dL_isDrawn_164 : decode cL_isDrawn 164 = .ok (.iload 6, 2) := by decide +kernel
theorem dL_isDrawn_166 : decode cL_isDrawn 166 = .ok (.ifCond .lt 14, 3) := by decide +kernel
theorem dL_isDrawn_169 : decode cL_isDrawn 169 = .ok (.iload 6, 2) := by decide +kernel
theorem dL_isDrawn_171 : decode cL_isDrawn 171 = .ok (.iload 5, 2) := by decide +kernel
theorem dL_isDrawn_173 : decode cL_isDrawn 173 = .ok (.if_icmp .eq 7, 3) := by decide +kernel
theorem dL_isDrawn_176 : decode cL_isDrawn 176 = .ok (.iconst 1, 1) := by decide +kernel
theorem dL_isDrawn_177 : decode cL_isDrawn 177 = .ok (.goto 4, 3) := by decide +kernel
theorem dL_isDrawn_180 : decode cL_isDrawn 180 = .ok (.iconst 0, 1) := by decide +kernel
theorem dL_isDrawn_181 : decode cL_isDrawn 181 = .ok (.istore 7, 2) := by decide +kernel
theorem dL_isDrawn_183 : decode cL_isDrawn 183 = .ok (.iload 7, 2) := by decide +kernel
theorem dL_isDrawn_185 : decode cL_isDrawn 185 = .ok (.aload_n 0, 1) := by decide +kernel
theorem dL_isDrawn_186 : decode cL_isDrawn 186 = .ok (.iload 4, 2) := by decide +kernel
theorem dL_isDrawn_188 : decode cL_isDrawn 188 = .ok (.invokevirtual 157, 3) := by decide +kernel
theorem dL_isDrawn_191 : decode cL_isDrawn 191 = .ok (.ifCond .lt 7, 3) := by decide +kernel
theorem dL_isDrawn_194 : decode cL_isDrawn 194 = .ok (.iconst 1, 1) := by decide +kernel
theorem dL_isDrawn_195 : decode cL_isDrawn 195 = .ok (.goto 4, 3) := by decide +kernel
theorem dL_isDrawn_198 : decode cL_isDrawn 198 = .ok (.iconst 0, 1) := by decide +kernel
theorem dL_isDrawn_199 : decode cL_isDrawn 199 = .ok (.if_icmp .ne 17, 3) := by decide +kernel
theorem dL_isDrawn_202 : decode cL_isDrawn 202 = .ok (.iload 7, 2) := by decide +kernel
theorem dL_isDrawn_204 : decode cL_isDrawn 204 = .ok (.ifCond .ne 14, 3) := by decide +kernel
theorem dL_isDrawn_207 : decode cL_isDrawn 207 = .ok (.aload_n 0, 1) := by decide +kernel
theorem dL_isDrawn_208 : decode cL_isDrawn 208 = .ok (.iload 4, 2) := by decide +kernel
theorem dL_isDrawn_210 : decode cL_isDrawn 210 = .ok (.invokevirtual 160, 3) := by decide +kernel
theorem dL_isDrawn_213 : decode cL_isDrawn 213 = .ok (.ifCond .eq 5, 3) := by decide +kernel
theorem dL_isDrawn_218 : decode cL_isDrawn 218 = .ok (.iload 7, 2) := by decide +kernel
theorem dL_isDrawn_220 : decode cL_isDrawn 220 = .ok (.ifCond .ne 6, 3) := by decide +kernel
theorem dL_isDrawn_223 : decode cL_isDrawn 223 = .ok (.goto 151, 3) := by decide +kernel
theorem dL_isDrawn_226 : decode cL_isDrawn 226 = .ok (.aload_n 0, 1) := by decide +kernel
theorem dL_isDrawn_227 : decode cL_isDrawn 227 = .ok (.aload_n 0, 1) := by decide +kernel
theorem dL_isDrawn_228 : decode cL_isDrawn 228 = .ok (.iload 4, 2) := by decide +kernel
theorem dL_isDrawn_230 : decode cL_isDrawn 230 = .ok (.invokevirtual 160, 3) := by decide +kernel
theorem dL_isDrawn_233 : decode cL_isDrawn 233 = .ok (.ifCond .eq 8, 3) := by decide +kernel
theorem dL_isDrawn_236 : decode cL_isDrawn 236 = .ok (.iload 6, 2) := by decide +kernel
theorem dL_isDrawn_238 : decode cL_isDrawn 238 = .ok (.goto 5, 3) := by decide +kernel
theorem dL_isDrawn_241 : decode cL_isDrawn 241 = .ok (.iload 5, 2) := by decide +kernel
theorem dL_isDrawn_243 : decode cL_isDrawn 243 = .ok (.invokevirtual 111, 3) := by decide +kernel
theorem dL_isDrawn_246 : decode cL_isDrawn 246 = .ok (.istore 8, 2) := by decide +kernel
theorem dL_isDrawn_248 : decode cL_isDrawn 248 = .ok (.aload_n 0, 1) := by decide +kernel
theorem dL_isDrawn_249 : decode cL_isDrawn 249 = .ok (.aload_n 0, 1) := by decide +kernel
theorem dL_isDrawn_250 : decode cL_isDrawn 250 = .ok (.iload 4, 2) := by decide +kernel
theorem dL_isDrawn_252 : decode cL_isDrawn 252 = .ok (.invokevirtual 160, 3) := by decide +kernel
theorem dL_isDrawn_255 : decode cL_isDrawn 255 = .ok (.ifCond .eq 8, 3) := by decide +kernel
theorem dL_isDrawn_258 : decode cL_isDrawn 258 = .ok (.iload 5, 2) := by decide +kernel
theorem dL_isDrawn_260 : decode cL_isDrawn 260 = .ok (.goto 5, 3) := by decide +kernel
theorem dL_isDrawn_263 : decode cL_isDrawn 263 = .ok (.iload 6, 2) := by decide +kernel
theorem dL_isDrawn_265 : decode cL_isDrawn 265 = .ok (.invokevirtual 111, 3) := by decide +kernel
theorem dL_isDrawn_268 : decode cL_isDrawn 268 = .ok (.istore 9, 2) := by decide +kernel
theorem dL_isDrawn_270 : decode cL_isDrawn 270 = .ok (.aload_n 0, 1) := by decide +kernel
theorem dL_isDrawn_271 : decode cL_isDrawn 271 = .ok (.iload 4, 2) := by decide +kernel
theorem dL_isDrawn_273 : decode cL_isDrawn 273 = .ok (.invokevirtual 157, 3) := by decide +kernel
theorem dL_isDrawn_276 : decode cL_isDrawn 276 = .ok (.iload 9, 2) := by decide +kernel
theorem dL_isDrawn_278 : decode cL_isDrawn 278 = .ok (.iload 8, 2) := by decide +kernel
theorem dL_isDrawn_280 : decode cL_isDrawn 280 = .ok (.isub, 1) := by decide +kernel
theorem dL_isDrawn_281 : decode cL_isDrawn 281 = .ok (.iconst 1, 1) := by decide +kernel
theorem dL_isDrawn_282 : decode cL_isDrawn 282 = .ok (.isub, 1) := by decide +kernel
theorem dL_isDrawn_283 : decode cL_isDrawn 283 = .ok (.if_icmp .ne 21, 3) := by decide +kernel
theorem dL_isDrawn_286 : decode cL_isDrawn 286 = .ok (.aload_n 0, 1) := by decide +kernel
theorem dL_isDrawn_287 : decode cL_isDrawn 287 = .ok (.iload 4, 2) := by decide +kernel
theorem dL_isDrawn_289 : decode cL_isDrawn 289 = .ok (.invokevirtual 132, 3) := by decide +kernel
theorem dL_isDrawn_292 : decode cL_isDrawn 292 = .ok (.ifCond .eq 14, 3) := by decide +kernel
theorem dL_isDrawn_295 : decode cL_isDrawn 295 = .ok (.aload_n 0, 1) := by decide +kernel
theorem dL_isDrawn_296 : decode cL_isDrawn 296 = .ok (.iload 4, 2) := by decide +kernel
theorem dL_isDrawn_298 : decode cL_isDrawn 298 = .ok (.invokevirtual 160, 3) := by decide +kernel
theorem dL_isDrawn_301 : decode cL_isDrawn 301 = .ok (.ifCond .ne 5, 3) := by decide +kernel
theorem dL_isDrawn_306 : decode cL_isDrawn 306 = .ok (.iconst 0, 1) := by decide +kernel
theorem dL_isDrawn_307 : decode cL_isDrawn 307 = .ok (.istore 10, 2) := by decide +kernel
theorem dL_isDrawn_309 : decode cL_isDrawn 309 = .ok (.iload 10, 2) := by decide +kernel
theorem dL_isDrawn_311 : decode cL_isDrawn 311 = .ok (.aload_n 0, 1) := by decide +kernel
theorem dL_isDrawn_312 : decode cL_isDrawn 312 = .ok (.iload 4, 2) := by decide +kernel
theorem dL_isDrawn_314 : decode cL_isDrawn 314 = .ok (.invokevirtual 157, 3) := by decide +kernel
theorem dL_isDrawn_317 : decode cL_isDrawn 317 = .ok (.if_icmp .ge 37, 3) := by decide +kernel
theorem dL_isDrawn_320 : decode cL_isDrawn 320 = .ok (.aload_n 0, 1) := by decide +kernel
theorem dL_isDrawn_321 : decode cL_isDrawn 321 = .ok (.iload 8, 2) := by decide +kernel
theorem dL_isDrawn_323 : decode cL_isDrawn 323 = .ok (.iconst 1, 1) := by decide +kernel
theorem dL_isDrawn_324 : decode cL_isDrawn 324 = .ok (.iadd, 1) := by decide +kernel
theorem dL_isDrawn_325 : decode cL_isDrawn 325 = .ok (.iload 10, 2) := by decide +kernel
theorem dL_isDrawn_327 : decode cL_isDrawn 327 = .ok (.iadd, 1) := by decide +kernel
theorem dL_isDrawn_328 : decode cL_isDrawn 328 = .ok (.aload_n 0, 1) := by decide +kernel
theorem dL_isDrawn_329 : decode cL_isDrawn 329 = .ok (.iload 4, 2) := by decide +kernel
theorem dL_isDrawn_331 : decode cL_isDrawn 331 = .ok (.iload 10, 2) := by decide +kernel
theorem dL_isDrawn_333 : decode cL_isDrawn 333 = .ok (.invokevirtual 163, 3) := by decide +kernel
theorem dL_isDrawn_336 : decode cL_isDrawn 336 = .ok (.invokevirtual 154, 3) := by decide +kernel
theorem dL_isDrawn_339 : decode cL_isDrawn 339 = .ok (.iconst (-1), 1) := by decide +kernel
theorem dL_isDrawn_340 : decode cL_isDrawn 340 = .ok (.iload 4, 2) := by decide +kernel
theorem dL_isDrawn_342 : decode cL_isDrawn 342 = .ok (.isub, 1) := by decide +kernel
theorem dL_isDrawn_343 : decode cL_isDrawn 343 = .ok (.if_icmp .eq 5, 3) := by decide +kernel
theorem dL_isDrawn_348 : decode cL_isDrawn 348 = .ok (.iinc 10 1, 3) := by decide +kernel
theorem dL_isDrawn_351 : decode cL_isDrawn 351 = .ok (.goto (-42), 3) := by decide +kernel
theorem dL_isDrawn_354 : decode cL_isDrawn 354 = .ok (.iload_n 1, 1) := by decide +kernel
theorem dL_isDrawn_355 : decode cL_isDrawn 355 = .ok (.aload_n 0, 1) := by decide +kernel
theorem dL_isDrawn_356 : decode cL_isDrawn 356 = .ok (.iload 4, 2) := by decide +kernel
theorem dL_isDrawn_358 : decode cL_isDrawn 358 = .ok (.invokevirtual 157, 3) := by decide +kernel
theorem dL_isDrawn_361 : decode cL_isDrawn 361 = .ok (.isub, 1) := by decide +kernel
theorem dL_isDrawn_362 : decode cL_isDrawn 362 = .ok (.istore_n 1, 1) := by decide +kernel
theorem dL_isDrawn_363 : decode cL_isDrawn 363 = .ok (.iload_n 2, 1) := by decide +kernel
theorem dL_isDrawn_364 : decode cL_isDrawn 364 = .ok (.iload 9, 2) := by decide +kernel
theorem dL_isDrawn_366 : decode cL_isDrawn 366 = .ok (.iload 8, 2) := by decide +kernel
theorem dL_isDrawn_368 : decode cL_isDrawn 368 = .ok (.isub, 1) := by decide +kernel
theorem dL_isDrawn_369 : decode cL_isDrawn 369 = .ok (.iadd, 1) := by decide +kernel
theorem dL_isDrawn_370 : decode cL_isDrawn 370 = .ok (.istore_n 2, 1) := by decide +kernel
theorem dL_isDrawn_371 : decode cL_isDrawn 371 = .ok (.iinc 3 1, 3) := by decide +kernel
theorem dL_isDrawn_374 : decode cL_isDrawn 374 = .ok (.iinc 4 1, 3) := by decide +kernel
theorem dL_isDrawn_377 : decode cL_isDrawn 377 = .ok (.goto (-247), 3) := by decide +kernel
theorem dL_isDrawn_380 : decode cL_isDrawn 380 = .ok (.iload_n 1, 1) := by decide +kernel
theorem dL_isDrawn_381 : decode cL_isDrawn 381 = .ok (.ifCond .ne 35, 3) := by decide +kernel
theorem dL_isDrawn_384 : decode cL_isDrawn 384 = .ok (.aload_n 0, 1) := by decide +kernel
theorem dL_isDrawn_385 : decode cL_isDrawn 385 = .ok (.invokevirtual 72, 3) := by decide +kernel
theorem dL_isDrawn_388 : decode cL_isDrawn 388 = .ok (.ifCond .lt 28, 3) := by decide +kernel
theorem dL_isDrawn_391 : decode cL_isDrawn 391 = .ok (.aload_n 0, 1) := by decide +kernel
theorem dL_isDrawn_392 : decode cL_isDrawn 392 = .ok (.invokevirtual 166, 3) := by decide +kernel
theorem dL_isDrawn_395 : decode cL_isDrawn 395 = .ok (.iload_n 3, 1) := by decide +kernel
theorem dL_isDrawn_396 : decode cL_isDrawn 396 = .ok (.ifCond .ne 7, 3) := by decide +kernel
theorem dL_isDrawn_399 : decode cL_isDrawn 399 = .ok (.dconst 0, 1) := by decide +kernel
theorem dL_isDrawn_400 : decode cL_isDrawn 400 = .ok (.goto 8, 3) := by decide +kernel
theorem dL_isDrawn_403 : decode cL_isDrawn 403 = .ok (.iload_n 2, 1) := by decide +kernel
theorem dL_isDrawn_404 : decode cL_isDrawn 404 = .ok (.i2d, 1) := by decide +kernel
theorem dL_isDrawn_405 : decode cL_isDrawn 405 = .ok (.iload_n 3, 1) := by decide +kernel
theorem dL_isDrawn_406 : decode cL_isDrawn 406 = .ok (.i2d, 1) := by decide +kernel
theorem dL_isDrawn_407 : decode cL_isDrawn 407 = .ok (.ddiv, 1) := by decide +kernel
theorem dL_isDrawn_408 : decode cL_isDrawn 408 = .ok (.dcmp .l, 1) := by decide +kernel
theorem dL_isDrawn_409 : decode cL_isDrawn 409 = .ok (.ifCond .ne 7, 3) := by decide +kernel
theorem dL_isDrawn_412 : decode cL_isDrawn 412 = .ok (.iconst 1, 1) := by decide +kernel
theorem dL_isDrawn_413 : decode cL_isDrawn 413 = .ok (.goto 4, 3) := by decide +kernel
theorem dL_isDrawn_417 : decode cL_isDrawn 417 = .ok (.ireturn, 1) := by decide +kernel
theorem mw_670 : Cond.code yX7_layers cX7_layers 1 (some Jvm.ClassFile.FieldType.int) ∈ GW := gw_mem (inT5 _ (List.mem_of_getElem? (i := 5) rfl)) rfl
theorem mw_671 : Cond.methodLink RL 148 yX7_layers ∈ GW := gw_mem (inT5 _ (List.mem_of_getElem? (i := 2) rfl)) rfl
theorem mw_672 : Cond.instanceMethod yX7_layers ∈ GW := gw_mem (inT5 _ (List.mem_of_getElem? (i := 3) rfl)) rfl
theorem mw_673 : Cond.selects RX7 yX7_layers yX7_layers ∈ GW := gw_mem (inT5 _ (List.mem_of_getElem? (i := 4) rfl)) rfl
theorem mw_674 : Cond.code yX7_meanLength cX7_meanLength 1 (some Jvm.ClassFile.FieldType.double) ∈ GW := gw_mem (inT5 _ (List.mem_of_getElem? (i := 39) rfl)) rfl
theorem mw_675 : Cond.methodLink RL 166 yX7_meanLength ∈ GW := gw_mem (inT5 _ (List.mem_of_getElem? (i := 36) rfl)) rfl
theorem mw_676 : Cond.instanceMethod yX7_meanLength ∈ GW := gw_mem (inT5 _ (List.mem_of_getElem? (i := 37) rfl)) rfl
theorem mw_677 : Cond.selects RX7 yX7_meanLength yX7_meanLength ∈ GW := gw_mem (inT5 _ (List.mem_of_getElem? (i := 38) rfl)) rfl
theorem mw_678 : Cond.code yX7_bends cX7_bends 2 (some Jvm.ClassFile.FieldType.int) ∈ GW := gw_mem (inT5 _ (List.mem_of_getElem? (i := 22) rfl)) rfl
theorem mw_679 : Cond.methodLink RL 157 yX7_bends ∈ GW := gw_mem (inT5 _ (List.mem_of_getElem? (i := 19) rfl)) rfl
theorem mw_680 : Cond.instanceMethod yX7_bends ∈ GW := gw_mem (inT5 _ (List.mem_of_getElem? (i := 20) rfl)) rfl
theorem mw_681 : Cond.selects RX7 yX7_bends yX7_bends ∈ GW := gw_mem (inT5 _ (List.mem_of_getElem? (i := 21) rfl)) rfl
theorem mw_682 : Cond.code yX7_isTurned cX7_isTurned 2 (some Jvm.ClassFile.FieldType.boolean) ∈ GW := gw_mem (inT5 _ (List.mem_of_getElem? (i := 26) rfl)) rfl
theorem mw_683 : Cond.methodLink RL 160 yX7_isTurned ∈ GW := gw_mem (inT5 _ (List.mem_of_getElem? (i := 23) rfl)) rfl
theorem mw_684 : Cond.instanceMethod yX7_isTurned ∈ GW := gw_mem (inT5 _ (List.mem_of_getElem? (i := 24) rfl)) rfl
theorem mw_685 : Cond.selects RX7 yX7_isTurned yX7_isTurned ∈ GW := gw_mem (inT5 _ (List.mem_of_getElem? (i := 25) rfl)) rfl
theorem mw_686 : Cond.code yX7_bendAt cX7_bendAt 3 (some Jvm.ClassFile.FieldType.int) ∈ GW := gw_mem (inT5 _ (List.mem_of_getElem? (i := 30) rfl)) rfl
theorem mw_687 : Cond.methodLink RL 163 yX7_bendAt ∈ GW := gw_mem (inT5 _ (List.mem_of_getElem? (i := 27) rfl)) rfl
theorem mw_688 : Cond.instanceMethod yX7_bendAt ∈ GW := gw_mem (inT5 _ (List.mem_of_getElem? (i := 28) rfl)) rfl
theorem mw_689 : Cond.selects RX7 yX7_bendAt yX7_bendAt ∈ GW := gw_mem (inT5 _ (List.mem_of_getElem? (i := 29) rfl)) rfl
theorem mw_690 : Cond.code yX7_pointAt cX7_pointAt 3 (some Jvm.ClassFile.FieldType.int) ∈ GW := gw_mem (inT5 _ (List.mem_of_getElem? (i := 18) rfl)) rfl
theorem mw_691 : Cond.methodLink RL 154 yX7_pointAt ∈ GW := gw_mem (inT5 _ (List.mem_of_getElem? (i := 15) rfl)) rfl
theorem mw_692 : Cond.instanceMethod yX7_pointAt ∈ GW := gw_mem (inT5 _ (List.mem_of_getElem? (i := 16) rfl)) rfl
theorem mw_693 : Cond.selects RX7 yX7_pointAt yX7_pointAt ∈ GW := gw_mem (inT5 _ (List.mem_of_getElem? (i := 17) rfl)) rfl
theorem mw_694 : Cond.code yX7_points cX7_points 2 (some Jvm.ClassFile.FieldType.int) ∈ GW := gw_mem (inT5 _ (List.mem_of_getElem? (i := 9) rfl)) rfl
theorem mw_695 : Cond.methodLink RL 151 yX7_points ∈ GW := gw_mem (inT5 _ (List.mem_of_getElem? (i := 6) rfl)) rfl
theorem mw_696 : Cond.instanceMethod yX7_points ∈ GW := gw_mem (inT5 _ (List.mem_of_getElem? (i := 7) rfl)) rfl
theorem mw_697 : Cond.selects RX7 yX7_points yX7_points ∈ GW := gw_mem (inT5 _ (List.mem_of_getElem? (i := 8) rfl)) rfl
theorem pdv_X7_layers : yX7_layers.cls = RX7 ∧ yX7_layers.cls ≠ "java/lang/invoke/MethodHandle" ∧ yX7_layers.cls ≠ "java/lang/invoke/VarHandle" ∧ (parseMethodDescriptor yX7_layers.desc).map (fun d => d.parameters.length) = some 0 := by decide +kernel
theorem pdv_X7_meanLength : yX7_meanLength.cls = RX7 ∧ yX7_meanLength.cls ≠ "java/lang/invoke/MethodHandle" ∧ yX7_meanLength.cls ≠ "java/lang/invoke/VarHandle" ∧ (parseMethodDescriptor yX7_meanLength.desc).map (fun d => d.parameters.length) = some 0 := by decide +kernel
theorem pdv_X7_bends : yX7_bends.cls = RX7 ∧ yX7_bends.cls ≠ "java/lang/invoke/MethodHandle" ∧ yX7_bends.cls ≠ "java/lang/invoke/VarHandle" ∧ (parseMethodDescriptor yX7_bends.desc).map (fun d => d.parameters.length) = some 1 := by decide +kernel
theorem pdv_X7_isTurned : yX7_isTurned.cls = RX7 ∧ yX7_isTurned.cls ≠ "java/lang/invoke/MethodHandle" ∧ yX7_isTurned.cls ≠ "java/lang/invoke/VarHandle" ∧ (parseMethodDescriptor yX7_isTurned.desc).map (fun d => d.parameters.length) = some 1 := by decide +kernel
theorem pdv_X7_bendAt : yX7_bendAt.cls = RX7 ∧ yX7_bendAt.cls ≠ "java/lang/invoke/MethodHandle" ∧ yX7_bendAt.cls ≠ "java/lang/invoke/VarHandle" ∧ (parseMethodDescriptor yX7_bendAt.desc).map (fun d => d.parameters.length) = some 2 := by decide +kernel
theorem pdv_X7_pointAt : yX7_pointAt.cls = RX7 ∧ yX7_pointAt.cls ≠ "java/lang/invoke/MethodHandle" ∧ yX7_pointAt.cls ≠ "java/lang/invoke/VarHandle" ∧ (parseMethodDescriptor yX7_pointAt.desc).map (fun d => d.parameters.length) = some 2 := by decide +kernel
theorem pdv_X7_points : yX7_points.cls = RX7 ∧ yX7_points.cls ≠ "java/lang/invoke/MethodHandle" ∧ yX7_points.cls ≠ "java/lang/invoke/VarHandle" ∧ (parseMethodDescriptor yX7_points.desc).map (fun d => d.parameters.length) = some 1 := by decide +kernel
theorem dc_eq {x y : UInt64} (e : x = y) (h : vf_n64 y) (op : CmpOp) : Op.cmpValue (FP.dcmp x y) op = 0 := by
  subst e
  rw [dcmp_self h]; cases op <;> rfl
set_option maxHeartbeats 4000000 in
set_option maxRecDepth 100000 in
theorem c_isDrawn (l : Launch) (D : va_G) (cI cJ : ClassId) (ad : Nat → Nat) (co fl ra li re wa pi : Ob) (n cN E : Nat) (hm fs fr eg fe : Nat → Nat) (sd cc L : Nat) (ca ht ly : Nat → Nat) (hZ : AFX n cN E hm fs fr eg fe sd cc L ca ht ly co fl ra li re wa pi) (hI : INV n co fl ra li re wa pi) : CT l D (TY cI cJ) yL_isDrawn (.code yL_isDrawn cL_isDrawn 11 (some Jvm.ClassFile.FieldType.boolean)) 8 0 0 (XW ad cI cJ co fl ra li re wa pi) [.ref (ad 0)] (QI D (TY cI cJ) (fun r u => r = 1 ∧ u = (XW ad cI cJ co fl ra li re wa (countCross wa pi).1))) := by
  refine ent (by decide) (Nat.le_of_ble_eq_true rfl) ?_
  intro p e s m below meth c ls A hx hb hr hg hown hml hlocks hnm hP hK hD hS hA hN hl
  have hl : lv_has ls 11 [(0, .ref (ad 0))] := hl
  refine lv_iconst (v := 0) hx hb dL_isDrawn_0 (by decide) ?_
  refine lv_istore_n (lv' := [(1, .int 0), (0, .ref (ad 0))]) hx hb dL_isDrawn_1 rfl hl (by decide) rfl (fun ls hl => ?_)
  refine lv_iconst (v := 0) hx hb dL_isDrawn_2 (by decide) ?_
  refine lv_istore_n (lv' := [(2, .int 0), (1, .int 0), (0, .ref (ad 0))]) hx hb dL_isDrawn_3 rfl hl (by decide) rfl (fun ls hl => ?_)
  refine w_loop (σ := Int32) (fun (i_1 : Nat) (p_1 : Int32) (H : Heap) (locs : List Loc) (ls : Array Slot) => p_1 = (lp (ptO E cc wa ly ca) i_1 0) ∧ va_P D vwCl (XW ad cI cJ co fl ra li re wa pi) H ∧ va_D A (XW ad cI cJ co fl ra li re wa pi) ∧ va_S A s.heap H locs ∧ lv_has ls 11 [(0, .ref (ad 0)), (1, .int p_1), (2, .int (nI i_1))]) (L) (fun p_1 H locs ls hI => ?_) (fun i_1 p_1 H locs ls hi_1 hI ih_1 => ?_) 0 0 (Nat.zero_le _) ⟨(lp_0 _ _), hP, hD, hS, (by rw [nI_0]; exact lv_sub hl [2, 1, 0] rfl)⟩
  · obtain ⟨h_1, hP, hD, hS, hl⟩ := hI
    have h_1 := h_1.symm
    subst h_1
    have hP : va_P D vwCl (XW ad cI cJ co fl ra li re wa pi) H := hP
    have hD : va_D A (XW ad cI cJ co fl ra li re wa pi) := hD
    have hl : lv_has ls 11 [(0, .ref (ad 0)), (1, .int ((lp (ptO E cc wa ly ca) (L) 0))), (2, .int (nI L))] := hl
    refine lv_iload_n hx hb dL_isDrawn_4 rfl (lv_at hl 2 rfl) ?_
    refine lv_aload_n hx hb dL_isDrawn_5 rfl (lv_at hl 0 rfl) ?_
    refine kI (rV (q0 := 0) (ci := 7) hx hb hml hown hg hN hK hP hD (a_layers l D cI cJ ad co fl ra li re wa pi hZ.zp) mw_670 mw_671 mw_672 mw_673 mw_77 pdv_X7_layers ⟨Nat.le_of_ble_eq_true rfl, Nat.le_of_ble_eq_true rfl⟩ rfl xo0 rfl hl.1 rfl (Nat.le_of_ble_eq_true rfl) dL_isDrawn_6 ⟨Nat.le_of_ble_eq_true rfl, Nat.le_of_ble_eq_true rfl⟩) hD hS hA (fun r_2 u_2 H locs hp hP hD hS => ?_)
    obtain ⟨er, eu⟩ := hp
    obtain rfl := er.symm
    obtain rfl := eu.symm
    refine lv_icmp_ge (tgt := 88) hx hb dL_isDrawn_9 (by decide) (fun _ => ?_) (fun c_9 => absurd (tst_out hZ.lc) c_9)
    refine lv_iconst (v := 0) hx hb dL_isDrawn_88 (by decide) ?_
    refine lv_istore_n (lv' := [(2, .int 0), (0, .ref (ad 0)), (1, .int ((lp (ptO E cc wa ly ca) (L) 0)))]) hx hb dL_isDrawn_89 rfl hl (by decide) rfl (fun ls hl => ?_)
    refine lv_iconst (v := 0) hx hb dL_isDrawn_90 (by decide) ?_
    refine lv_istore_n (lv' := [(3, .int 0), (2, .int 0), (0, .ref (ad 0)), (1, .int ((lp (ptO E cc wa ly ca) (L) 0)))]) hx hb dL_isDrawn_91 rfl hl (by decide) rfl (fun ls hl => ?_)
    refine lv_iconst (v := 0) hx hb dL_isDrawn_92 (by decide) ?_
    refine lv_istore (lv' := [(4, .int 0), (3, .int 0), (2, .int 0), (0, .ref (ad 0)), (1, .int ((lp (ptO E cc wa ly ca) (L) 0)))]) hx hb dL_isDrawn_93 hl (by decide) rfl (fun ls hl => ?_)
    refine w_loop (σ := Int32) (fun (i_3 : Nat) (p_3 : Int32) (H : Heap) (locs : List Loc) (ls : Array Slot) => p_3 = (lp (ptR fl) i_3 ((lp (ptO E cc wa ly ca) (L) 0))) ∧ va_P D vwCl (XW ad cI cJ co fl ra li re wa pi) H ∧ va_D A (XW ad cI cJ co fl ra li re wa pi) ∧ va_S A s.heap H locs ∧ lv_has ls 11 [(0, .ref (ad 0)), (1, .int p_3), (2, .int 0), (3, .int 0), (4, .int (nI i_3))]) (cN) (fun p_3 H locs ls hI => ?_) (fun i_3 p_3 H locs ls hi_3 hI ih_3 => ?_) 0 ((lp (ptO E cc wa ly ca) (L) 0)) (Nat.zero_le _) ⟨(lp_0 _ _), hP, hD, hS, (by rw [nI_0]; exact lv_sub hl [3, 4, 2, 1, 0] rfl)⟩
    · obtain ⟨h_3, hP, hD, hS, hl⟩ := hI
      have h_3 := h_3.symm
      subst h_3
      have hP : va_P D vwCl (XW ad cI cJ co fl ra li re wa pi) H := hP
      have hD : va_D A (XW ad cI cJ co fl ra li re wa pi) := hD
      have hl : lv_has ls 11 [(0, .ref (ad 0)), (1, .int ((lp (ptR fl) (cN) ((lp (ptO E cc wa ly ca) (L) 0))))), (2, .int 0), (3, .int 0), (4, .int (nI cN))] := hl
      refine lv_iload hx hb dL_isDrawn_95 (lv_at hl 4 rfl) ?_
      refine lv_aload_n hx hb dL_isDrawn_97 rfl (lv_at hl 0 rfl) ?_
      refine kI (rV (q0 := 0) (ci := 7) hx hb hml hown hg hN hK hP hD (a_blocks l D cI cJ ad co fl ra li re wa pi hZ.zf) mw_585 mw_586 mw_587 mw_588 mw_77 pdv_X7_blocks ⟨Nat.le_of_ble_eq_true rfl, Nat.le_of_ble_eq_true rfl⟩ rfl xo0 rfl hl.1 rfl (Nat.le_of_ble_eq_true rfl) dL_isDrawn_98 ⟨Nat.le_of_ble_eq_true rfl, Nat.le_of_ble_eq_true rfl⟩) hD hS hA (fun r_4 u_4 H locs hp hP hD hS => ?_)
      obtain ⟨er, eu⟩ := hp
      obtain rfl := er.symm
      obtain rfl := eu.symm
      refine lv_icmp_ge (tgt := 127) hx hb dL_isDrawn_101 (by decide) (fun _ => ?_) (fun c_101 => absurd (tst_out hZ.F.bc) c_101)
      refine lv_iconst (v := 0) hx hb dL_isDrawn_127 (by decide) ?_
      refine lv_istore (lv' := [(4, .int 0), (0, .ref (ad 0)), (1, .int ((lp (ptR fl) (cN) ((lp (ptO E cc wa ly ca) (L) 0))))), (2, .int 0), (3, .int 0)]) hx hb dL_isDrawn_128 hl (by decide) rfl (fun ls hl => ?_)
      refine w_loop (σ := Int32 × Int32 × Int32) (fun (i_5 : Nat) (p_5 : Int32 × Int32 × Int32) (H : Heap) (locs : List Loc) (ls : Array Slot) => p_5 = (lp (drF wa pi) i_5 (((lp (ptR fl) (cN) ((lp (ptO E cc wa ly ca) (L) 0)))), 0, 0)) ∧ va_P D vwCl (XW ad cI cJ co fl ra li re wa pi) H ∧ va_D A (XW ad cI cJ co fl ra li re wa pi) ∧ va_S A s.heap H locs ∧ lv_has ls 11 [(0, .ref (ad 0)), (1, .int p_5.1), (2, .int p_5.2.1), (3, .int p_5.2.2), (4, .int (nI i_5))]) (E) (fun p_5 H locs ls hI => ?_) (fun i_5 p_5 H locs ls hi_5 hI ih_5 => ?_) 0 (((lp (ptR fl) (cN) ((lp (ptO E cc wa ly ca) (L) 0)))), 0, 0) (Nat.zero_le _) ⟨(lp_0 _ _), hP, hD, hS, (by rw [nI_0]; exact lv_sub hl [1, 2, 3, 4, 0] rfl)⟩
      · obtain ⟨h_5, hP, hD, hS, hl⟩ := hI
        have h_5 := h_5.symm
        subst h_5
        have hP : va_P D vwCl (XW ad cI cJ co fl ra li re wa pi) H := hP
        have hD : va_D A (XW ad cI cJ co fl ra li re wa pi) := hD
        have hl : lv_has ls 11 [(0, .ref (ad 0)), (1, .int ((lp (drF wa pi) (E) (((lp (ptR fl) (cN) ((lp (ptO E cc wa ly ca) (L) 0)))), 0, 0)).1)), (2, .int ((lp (drF wa pi) (E) (((lp (ptR fl) (cN) ((lp (ptO E cc wa ly ca) (L) 0)))), 0, 0)).2.1)), (3, .int ((lp (drF wa pi) (E) (((lp (ptR fl) (cN) ((lp (ptO E cc wa ly ca) (L) 0)))), 0, 0)).2.2)), (4, .int (nI E))] := hl
        refine lv_iload hx hb dL_isDrawn_130 (lv_at hl 4 rfl) ?_
        refine lv_aload_n hx hb dL_isDrawn_132 rfl (lv_at hl 0 rfl) ?_
        refine kI (rV (q0 := 0) (ci := 7) hx hb hml hown hg hN hK hP hD (a_edges l D cI cJ ad co fl ra li re wa pi hZ.zf) mw_589 mw_590 mw_591 mw_592 mw_77 pdv_X7_edges ⟨Nat.le_of_ble_eq_true rfl, Nat.le_of_ble_eq_true rfl⟩ rfl xo0 rfl hl.1 rfl (Nat.le_of_ble_eq_true rfl) dL_isDrawn_133 ⟨Nat.le_of_ble_eq_true rfl, Nat.le_of_ble_eq_true rfl⟩) hD hS hA (fun r_6 u_6 H locs hp hP hD hS => ?_)
        obtain ⟨er, eu⟩ := hp
        obtain rfl := er.symm
        obtain rfl := eu.symm
        refine lv_icmp_ge (tgt := 380) hx hb dL_isDrawn_136 (by decide) (fun _ => ?_) (fun c_136 => absurd (tst_out hZ.F.ec) c_136)
        obtain ⟨hI2, hr2, m2, hm2, em2⟩ := hI.cross hZ.zp
        have zp2 : ¬ gi (countCross wa pi).1 3 = 0 := by rw [hr2.gi 3]; exact hZ.zp
        have hms := ms_rel (wa := wa) hr2
        have hsum := drF_n hZ
        have hnan2 : 0 < (msAll wa (countCross wa pi).1).1 → vf_n64 (FP.ddiv (FP.i2d (msAll wa (countCross wa pi).1).2) (FP.i2d (msAll wa (countCross wa pi).1).1)) := by
          intro z
          rw [hms] at z ⊢
          exact ms_nan hZ (fun e => by rw [e] at z; exact absurd z (by decide))
        have hme : meanD wa (countCross wa pi).1 = meanD wa pi := by unfold meanD; rw [hms]
        refine lv_iload_n hx hb dL_isDrawn_380 rfl (lv_at hl 1 rfl) ?_
        refine lv_if_ne (tgt := 416) hx hb dL_isDrawn_381 (by decide) (fun c_381 => absurd (congrArg (fun z : Int32 × Int32 × Int32 => z.1) hsum) c_381) (fun _ => ?_)
        refine lv_aload_n hx hb dL_isDrawn_384 rfl (lv_at hl 0 rfl) ?_
        refine kI (rV (q0 := 0) (ci := 7) hx hb hml hown hg hN hK hP hD (a_crossings l D cI cJ ad co fl ra li re wa pi hZ.zp) mw_581 mw_582 mw_583 mw_584 mw_77 pdv_X7_crossings ⟨Nat.le_of_ble_eq_true rfl, Nat.le_of_ble_eq_true rfl⟩ rfl xo0 rfl hl.1 rfl (Nat.le_of_ble_eq_true rfl) dL_isDrawn_385 ⟨Nat.le_of_ble_eq_true rfl, Nat.le_of_ble_eq_true rfl⟩) hD hS hA (fun r_7 u_7 H locs hp hP hD hS => ?_)
        obtain ⟨er, eu⟩ := hp
        obtain rfl := er.symm
        obtain rfl := eu.symm
        have hP : va_P D vwCl (XW ad cI cJ co fl ra li re wa (countCross wa pi).1) H := hP
        have hD : va_D A (XW ad cI cJ co fl ra li re wa (countCross wa pi).1) := hD
        refine lv_if_lt (tgt := 416) hx hb dL_isDrawn_388 (by decide) (fun c_388 => absurd c_388 (by rw [em2]; exact nI_pos (by omega))) (fun _ => ?_)
        refine lv_aload_n hx hb dL_isDrawn_391 rfl (lv_at hl 0 rfl) ?_
        refine kD (rV (q0 := 0) (ci := 7) hx hb hml hown hg hN hK hP hD (a_meanLength l D cI cJ ad co fl ra li re wa (countCross wa pi).1 zp2 hnan2) mw_674 mw_675 mw_676 mw_677 mw_77 pdv_X7_meanLength ⟨Nat.le_of_ble_eq_true rfl, Nat.le_of_ble_eq_true rfl⟩ rfl xo0 rfl hl.1 rfl (Nat.le_of_ble_eq_true rfl) dL_isDrawn_392 ⟨Nat.le_of_ble_eq_true rfl, Nat.le_of_ble_eq_true rfl⟩) hD hS hA (fun r_8 u_8 H locs hp hP hD hS => ?_)
        obtain ⟨er, eu⟩ := hp
        obtain rfl := er.symm
        obtain rfl := eu.symm
        refine lv_iload_n hx hb dL_isDrawn_395 rfl (lv_at hl 3 rfl) ?_
        refine lv_if_ne (tgt := 403) hx hb dL_isDrawn_396 (by decide) (fun c_396 => ?_) (fun c_396 => ?_)
        · refine lv_iload_n hx hb dL_isDrawn_403 rfl (lv_at hl 2 rfl) ?_
          refine lv_i2d hx hb dL_isDrawn_404 ?_
          refine lv_iload_n hx hb dL_isDrawn_405 rfl (lv_at hl 3 rfl) ?_
          refine lv_i2d hx hb dL_isDrawn_406 ?_
          refine lv_ddiv hx hb dL_isDrawn_407 (by rw [(congrArg (fun z : Int32 × Int32 × Int32 => z.2.1) hsum), (congrArg (fun z : Int32 × Int32 × Int32 => z.2.2) hsum)]; exact ms_nan hZ (fun e => c_396 (((congrArg (fun z : Int32 × Int32 × Int32 => z.2.2) hsum)).trans e))) ?_
          refine lv_dcmp hx hb dL_isDrawn_408 ?_
          refine lv_if_ne (tgt := 416) hx hb dL_isDrawn_409 (by decide) (fun c_409 => absurd (dc_eq (hme.trans ((mean_1 hZ (fun e => c_396 (((congrArg (fun z : Int32 × Int32 × Int32 => z.2.2) hsum)).trans e))).trans (by rw [(congrArg (fun z : Int32 × Int32 × Int32 => z.2.1) hsum), (congrArg (fun z : Int32 × Int32 × Int32 => z.2.2) hsum)]))) (by rw [(congrArg (fun z : Int32 × Int32 × Int32 => z.2.1) hsum), (congrArg (fun z : Int32 × Int32 × Int32 => z.2.2) hsum)]; exact ms_nan hZ (fun e => c_396 (((congrArg (fun z : Int32 × Int32 × Int32 => z.2.2) hsum)).trans e))) _) c_409) (fun _ => ?_)
          refine lv_iconst (v := 1) hx hb dL_isDrawn_412 (by decide) ?_
          refine lv_goto (tgt := 417) hx hb dL_isDrawn_413 (by decide) ?_
          exact W.zret (v := 1) hx hb hr rfl (fun t ht hW => ⟨⟨1, (XW ad cI cJ co fl ra li re wa (countCross wa pi).1), rfl, ⟨rfl, rfl⟩, ⟨by rw [ht]; exact hP, va_K.moved hW.alike hK, hD⟩⟩, hS.F ht⟩) hS.2.2 dL_isDrawn_417
        · refine lv_dconst0 hx hb dL_isDrawn_399 ?_
          refine lv_goto (tgt := 408) hx hb dL_isDrawn_400 (by decide) ?_
          refine lv_dcmp hx hb dL_isDrawn_408 ?_
          refine lv_if_ne (tgt := 416) hx hb dL_isDrawn_409 (by decide) (fun c_409 => absurd (dc_eq (hme.trans (mean_0 (((congrArg (fun z : Int32 × Int32 × Int32 => z.2.2) hsum)).symm.trans c_396))) n64_0 _) c_409) (fun _ => ?_)
          refine lv_iconst (v := 1) hx hb dL_isDrawn_412 (by decide) ?_
          refine lv_goto (tgt := 417) hx hb dL_isDrawn_413 (by decide) ?_
          exact W.zret (v := 1) hx hb hr rfl (fun t ht hW => ⟨⟨1, (XW ad cI cJ co fl ra li re wa (countCross wa pi).1), rfl, ⟨rfl, rfl⟩, ⟨by rw [ht]; exact hP, va_K.moved hW.alike hK, hD⟩⟩, hS.F ht⟩) hS.2.2 dL_isDrawn_417
      · obtain ⟨h_5, hP, hD, hS, hl⟩ := hI
        have hP : va_P D vwCl (XW ad cI cJ co fl ra li re wa pi) H := hP
        have hD : va_D A (XW ad cI cJ co fl ra li re wa pi) := hD
        have hl : lv_has ls 11 [(0, .ref (ad 0)), (1, .int p_5.1), (2, .int p_5.2.1), (3, .int p_5.2.2), (4, .int (nI i_5))] := hl
        refine lv_iload hx hb dL_isDrawn_130 (lv_at hl 4 rfl) ?_
        refine lv_aload_n hx hb dL_isDrawn_132 rfl (lv_at hl 0 rfl) ?_
        refine kI (rV (q0 := 0) (ci := 7) hx hb hml hown hg hN hK hP hD (a_edges l D cI cJ ad co fl ra li re wa pi hZ.zf) mw_589 mw_590 mw_591 mw_592 mw_77 pdv_X7_edges ⟨Nat.le_of_ble_eq_true rfl, Nat.le_of_ble_eq_true rfl⟩ rfl xo0 rfl hl.1 rfl (Nat.le_of_ble_eq_true rfl) dL_isDrawn_133 ⟨Nat.le_of_ble_eq_true rfl, Nat.le_of_ble_eq_true rfl⟩) hD hS hA (fun r_9 u_9 H locs hp hP hD hS => ?_)
        obtain ⟨er, eu⟩ := hp
        obtain rfl := er.symm
        obtain rfl := eu.symm
        refine lv_icmp_ge (tgt := 380) hx hb dL_isDrawn_136 (by decide) (fun c_136 => absurd c_136 (tst_in hZ.F.ec hi_5 (by have := hZ.F.e57; omega))) (fun _ => ?_)
        rcases d_case hZ hi_5 with ⟨⟨q0, hbn, nt⟩, q1 | ⟨q1, q2⟩ | ⟨q1, q2, q3⟩⟩ | ⟨⟨q0, q1, q2, q3, hbn⟩, ⟨nt, hup, hlo⟩ | ⟨nt, hup, hlo, hgb⟩⟩
        · have q00 := q0
          refine lv_aload_n hx hb dL_isDrawn_139 rfl (lv_at hl 0 rfl) ?_
          refine lv_iload hx hb dL_isDrawn_140 (lv_at hl 4 rfl) ?_
          refine kI (rV (q0 := 0) (ci := 7) hx hb hml hown hg hN hK hP hD (a_edgeFrom l D cI cJ ad co fl ra li re wa pi (nI i_5) hZ.zf (e_lt hZ hi_5).1 (e_lt hZ hi_5).2) mw_613 mw_614 mw_615 mw_616 mw_77 pdv_X7_edgeFrom ⟨Nat.le_of_ble_eq_true rfl, Nat.le_of_ble_eq_true rfl⟩ rfl xo0 rfl hl.1 rfl (Nat.le_of_ble_eq_true rfl) dL_isDrawn_142 ⟨Nat.le_of_ble_eq_true rfl, Nat.le_of_ble_eq_true rfl⟩) hD hS hA (fun r_10 u_10 H locs hp hP hD hS => ?_)
          obtain ⟨er, eu⟩ := hp
          obtain rfl := er.symm
          obtain rfl := eu.symm
          refine lv_istore (lv' := [(5, .int (rd (gA fl 3) 80 (nI i_5))), (0, .ref (ad 0)), (1, .int p_5.1), (2, .int p_5.2.1), (3, .int p_5.2.2), (4, .int (nI i_5))]) hx hb dL_isDrawn_145 hl (by decide) rfl (fun ls hl => ?_)
          refine lv_aload_n hx hb dL_isDrawn_147 rfl (lv_at hl 1 rfl) ?_
          refine lv_iload hx hb dL_isDrawn_148 (lv_at hl 5 rfl) ?_
          refine kI (rV (q0 := 0) (ci := 7) hx hb hml hown hg hN hK hP hD (a_edgeTo l D cI cJ ad co fl ra li re wa pi (nI i_5) hZ.zf (e_lt hZ hi_5).1 (e_lt hZ hi_5).2) mw_617 mw_618 mw_619 mw_620 mw_77 pdv_X7_edgeTo ⟨Nat.le_of_ble_eq_true rfl, Nat.le_of_ble_eq_true rfl⟩ rfl xo0 rfl hl.1 rfl (Nat.le_of_ble_eq_true rfl) dL_isDrawn_150 ⟨Nat.le_of_ble_eq_true rfl, Nat.le_of_ble_eq_true rfl⟩) hD hS hA (fun r_11 u_11 H locs hp hP hD hS => ?_)
          obtain ⟨er, eu⟩ := hp
          obtain rfl := er.symm
          obtain rfl := eu.symm
          refine lv_istore (lv' := [(6, .int (rd (gA fl 4) 80 (nI i_5))), (5, .int (rd (gA fl 3) 80 (nI i_5))), (0, .ref (ad 0)), (1, .int p_5.1), (2, .int p_5.2.1), (3, .int p_5.2.2), (4, .int (nI i_5))]) hx hb dL_isDrawn_153 hl (by decide) rfl (fun ls hl => ?_)
          refine lv_aload_n hx hb dL_isDrawn_155 rfl (lv_at hl 2 rfl) ?_
          refine lv_iload hx hb dL_isDrawn_156 (lv_at hl 1 rfl) ?_
          refine kI (rV (q0 := 0) (ci := 7) hx hb hml hown hg hN hK hP hD (a_isReached l D cI cJ ad co fl ra li re wa pi (rd (gA fl 3) 80 (nI i_5)) hZ.zf (e_from hZ hi_5).1 (e_from hZ hi_5).2) mw_621 mw_622 mw_623 mw_624 mw_77 pdv_X7_isReached ⟨Nat.le_of_ble_eq_true rfl, Nat.le_of_ble_eq_true rfl⟩ rfl xo0 rfl hl.1 rfl (Nat.le_of_ble_eq_true rfl) dL_isDrawn_158 ⟨Nat.le_of_ble_eq_true rfl, Nat.le_of_ble_eq_true rfl⟩) hD hS hA (fun r_12 u_12 H locs hp hP hD hS => ?_)
          obtain ⟨er, eu⟩ := hp
          obtain rfl := er.symm
          obtain rfl := eu.symm
          refine lv_if_eq (tgt := 180) hx hb dL_isDrawn_161 (by decide) (fun _ => ?_) (fun c_161 => absurd (b2i_f q1) c_161)
          refine lv_iconst (v := 0) hx hb dL_isDrawn_180 (by decide) ?_
          refine lv_istore (lv' := [(7, .int 0), (6, .int (rd (gA fl 4) 80 (nI i_5))), (5, .int (rd (gA fl 3) 80 (nI i_5))), (0, .ref (ad 0)), (1, .int p_5.1), (2, .int p_5.2.1), (3, .int p_5.2.2), (4, .int (nI i_5))]) hx hb dL_isDrawn_181 hl (by decide) rfl (fun ls hl => ?_)
          refine lv_iload hx hb dL_isDrawn_183 (lv_at hl 0 rfl) ?_
          refine lv_aload_n hx hb dL_isDrawn_185 rfl (lv_at hl 3 rfl) ?_
          refine lv_iload hx hb dL_isDrawn_186 (lv_at hl 7 rfl) ?_
          refine kI (rV (q0 := 0) (ci := 7) hx hb hml hown hg hN hK hP hD (a_bends l D cI cJ ad co fl ra li re wa pi (nI i_5) hZ.zf hZ.zp (e_lt hZ hi_5).1 (e_lt hZ hi_5).2) mw_678 mw_679 mw_680 mw_681 mw_77 pdv_X7_bends ⟨Nat.le_of_ble_eq_true rfl, Nat.le_of_ble_eq_true rfl⟩ rfl xo0 rfl hl.1 rfl (Nat.le_of_ble_eq_true rfl) dL_isDrawn_188 ⟨Nat.le_of_ble_eq_true rfl, Nat.le_of_ble_eq_true rfl⟩) hD hS hA (fun r_13 u_13 H locs hp hP hD hS => ?_)
          obtain ⟨er, eu⟩ := hp
          obtain rfl := er.symm
          obtain rfl := eu.symm
          refine lv_if_lt (tgt := 198) hx hb dL_isDrawn_191 (by decide) (fun _ => ?_) (fun c_191 => absurd hbn c_191)
          refine lv_iconst (v := 0) hx hb dL_isDrawn_198 (by decide) ?_
          refine lv_icmp_ne (tgt := 216) hx hb dL_isDrawn_199 (by decide) (fun c_199 => absurd (by decide) c_199) (fun _ => ?_)
          refine lv_iload hx hb dL_isDrawn_202 (lv_at hl 0 rfl) ?_
          refine lv_if_ne (tgt := 218) hx hb dL_isDrawn_204 (by decide) (fun c_204 => absurd (by decide) c_204) (fun _ => ?_)
          refine lv_aload_n hx hb dL_isDrawn_207 rfl (lv_at hl 3 rfl) ?_
          refine lv_iload hx hb dL_isDrawn_208 (lv_at hl 7 rfl) ?_
          refine kI (rV (q0 := 0) (ci := 7) hx hb hml hown hg hN hK hP hD (a_isTurned l D cI cJ ad co fl ra li re wa pi (nI i_5) hZ.zf hZ.zp (e_lt hZ hi_5).1 (e_lt hZ hi_5).2) mw_682 mw_683 mw_684 mw_685 mw_77 pdv_X7_isTurned ⟨Nat.le_of_ble_eq_true rfl, Nat.le_of_ble_eq_true rfl⟩ rfl xo0 rfl hl.1 rfl (Nat.le_of_ble_eq_true rfl) dL_isDrawn_210 ⟨Nat.le_of_ble_eq_true rfl, Nat.le_of_ble_eq_true rfl⟩) hD hS hA (fun r_14 u_14 H locs hp hP hD hS => ?_)
          obtain ⟨er, eu⟩ := hp
          obtain rfl := er.symm
          obtain rfl := eu.symm
          refine lv_if_eq (tgt := 218) hx hb dL_isDrawn_213 (by decide) (fun _ => ?_) (fun c_213 => absurd (b2i_f nt) c_213)
          refine lv_iload hx hb dL_isDrawn_218 (lv_at hl 0 rfl) ?_
          refine lv_if_ne (tgt := 226) hx hb dL_isDrawn_220 (by decide) (fun c_220 => absurd (by decide) c_220) (fun _ => ?_)
          refine lv_goto (tgt := 374) hx hb dL_isDrawn_223 (by decide) ?_
          refine lv_iinc (v := (nI (i_5 + 1))) (lv' := [(4, .int (nI (i_5 + 1))), (7, .int 0), (6, .int (rd (gA fl 4) 80 (nI i_5))), (5, .int (rd (gA fl 3) 80 (nI i_5))), (0, .ref (ad 0)), (1, .int p_5.1), (2, .int p_5.2.1), (3, .int p_5.2.2)]) hx hb dL_isDrawn_374 hl (k := 7) rfl (nI_1 i_5) (by decide) rfl (fun ls hl => ?_)
          refine lv_goto (tgt := 130) hx hb dL_isDrawn_377 (by decide) ?_
          exact ih_5 (p_5.1, p_5.2.1, p_5.2.2) H locs ls ⟨((show (p_5.1, p_5.2.1, p_5.2.2) = (drF wa pi) i_5 p_5 from (by simp only [drF, botE, topE, bf_of q0, gi_sl, gi_sA, gi_sB, gi_si_s, gi_si_n, gl_si, gl_sA, gl_sB, gl_sl_s, gl_sl_n, gA_si, gA_sl, gA_sB, gA_sA_s, gA_sA_n, gB_si, gB_sl, gB_sA, gB_sB_s, gB_sB_n, Nat.reduceBEq, if_true, if_false, eq_self, Bool.false_eq_true, Bool.true_eq_false, not_true_eq_false, not_false_eq_true, decide_true, decide_false, cond_true, cond_false, Bool.true_and, Bool.false_and, Bool.and_true, Bool.and_false, Bool.true_or, Bool.false_or, Bool.or_true, Bool.or_false, b2i_tt, b2i_ff, pr_eta]; done)).trans (lp_go h_5)), hP, hD, hS, lv_sub hl [4, 5, 6, 7, 0] rfl⟩
        · have q00 := q0
          refine lv_aload_n hx hb dL_isDrawn_139 rfl (lv_at hl 0 rfl) ?_
          refine lv_iload hx hb dL_isDrawn_140 (lv_at hl 4 rfl) ?_
          refine kI (rV (q0 := 0) (ci := 7) hx hb hml hown hg hN hK hP hD (a_edgeFrom l D cI cJ ad co fl ra li re wa pi (nI i_5) hZ.zf (e_lt hZ hi_5).1 (e_lt hZ hi_5).2) mw_613 mw_614 mw_615 mw_616 mw_77 pdv_X7_edgeFrom ⟨Nat.le_of_ble_eq_true rfl, Nat.le_of_ble_eq_true rfl⟩ rfl xo0 rfl hl.1 rfl (Nat.le_of_ble_eq_true rfl) dL_isDrawn_142 ⟨Nat.le_of_ble_eq_true rfl, Nat.le_of_ble_eq_true rfl⟩) hD hS hA (fun r_15 u_15 H locs hp hP hD hS => ?_)
          obtain ⟨er, eu⟩ := hp
          obtain rfl := er.symm
          obtain rfl := eu.symm
          refine lv_istore (lv' := [(5, .int (rd (gA fl 3) 80 (nI i_5))), (0, .ref (ad 0)), (1, .int p_5.1), (2, .int p_5.2.1), (3, .int p_5.2.2), (4, .int (nI i_5))]) hx hb dL_isDrawn_145 hl (by decide) rfl (fun ls hl => ?_)
          refine lv_aload_n hx hb dL_isDrawn_147 rfl (lv_at hl 1 rfl) ?_
          refine lv_iload hx hb dL_isDrawn_148 (lv_at hl 5 rfl) ?_
          refine kI (rV (q0 := 0) (ci := 7) hx hb hml hown hg hN hK hP hD (a_edgeTo l D cI cJ ad co fl ra li re wa pi (nI i_5) hZ.zf (e_lt hZ hi_5).1 (e_lt hZ hi_5).2) mw_617 mw_618 mw_619 mw_620 mw_77 pdv_X7_edgeTo ⟨Nat.le_of_ble_eq_true rfl, Nat.le_of_ble_eq_true rfl⟩ rfl xo0 rfl hl.1 rfl (Nat.le_of_ble_eq_true rfl) dL_isDrawn_150 ⟨Nat.le_of_ble_eq_true rfl, Nat.le_of_ble_eq_true rfl⟩) hD hS hA (fun r_16 u_16 H locs hp hP hD hS => ?_)
          obtain ⟨er, eu⟩ := hp
          obtain rfl := er.symm
          obtain rfl := eu.symm
          refine lv_istore (lv' := [(6, .int (rd (gA fl 4) 80 (nI i_5))), (5, .int (rd (gA fl 3) 80 (nI i_5))), (0, .ref (ad 0)), (1, .int p_5.1), (2, .int p_5.2.1), (3, .int p_5.2.2), (4, .int (nI i_5))]) hx hb dL_isDrawn_153 hl (by decide) rfl (fun ls hl => ?_)
          refine lv_aload_n hx hb dL_isDrawn_155 rfl (lv_at hl 2 rfl) ?_
          refine lv_iload hx hb dL_isDrawn_156 (lv_at hl 1 rfl) ?_
          refine kI (rV (q0 := 0) (ci := 7) hx hb hml hown hg hN hK hP hD (a_isReached l D cI cJ ad co fl ra li re wa pi (rd (gA fl 3) 80 (nI i_5)) hZ.zf (e_from hZ hi_5).1 (e_from hZ hi_5).2) mw_621 mw_622 mw_623 mw_624 mw_77 pdv_X7_isReached ⟨Nat.le_of_ble_eq_true rfl, Nat.le_of_ble_eq_true rfl⟩ rfl xo0 rfl hl.1 rfl (Nat.le_of_ble_eq_true rfl) dL_isDrawn_158 ⟨Nat.le_of_ble_eq_true rfl, Nat.le_of_ble_eq_true rfl⟩) hD hS hA (fun r_17 u_17 H locs hp hP hD hS => ?_)
          obtain ⟨er, eu⟩ := hp
          obtain rfl := er.symm
          obtain rfl := eu.symm
          refine lv_if_eq (tgt := 180) hx hb dL_isDrawn_161 (by decide) (fun c_161 => absurd c_161 (b2i_t q1)) (fun _ => ?_)
          refine lv_iload hx hb dL_isDrawn_164 (lv_at hl 0 rfl) ?_
          refine lv_if_lt (tgt := 180) hx hb dL_isDrawn_166 (by decide) (fun _ => ?_) (fun c_166 => absurd q2 c_166)
          refine lv_iconst (v := 0) hx hb dL_isDrawn_180 (by decide) ?_
          refine lv_istore (lv' := [(7, .int 0), (6, .int (rd (gA fl 4) 80 (nI i_5))), (5, .int (rd (gA fl 3) 80 (nI i_5))), (0, .ref (ad 0)), (1, .int p_5.1), (2, .int p_5.2.1), (3, .int p_5.2.2), (4, .int (nI i_5))]) hx hb dL_isDrawn_181 hl (by decide) rfl (fun ls hl => ?_)
          refine lv_iload hx hb dL_isDrawn_183 (lv_at hl 0 rfl) ?_
          refine lv_aload_n hx hb dL_isDrawn_185 rfl (lv_at hl 3 rfl) ?_
          refine lv_iload hx hb dL_isDrawn_186 (lv_at hl 7 rfl) ?_
          refine kI (rV (q0 := 0) (ci := 7) hx hb hml hown hg hN hK hP hD (a_bends l D cI cJ ad co fl ra li re wa pi (nI i_5) hZ.zf hZ.zp (e_lt hZ hi_5).1 (e_lt hZ hi_5).2) mw_678 mw_679 mw_680 mw_681 mw_77 pdv_X7_bends ⟨Nat.le_of_ble_eq_true rfl, Nat.le_of_ble_eq_true rfl⟩ rfl xo0 rfl hl.1 rfl (Nat.le_of_ble_eq_true rfl) dL_isDrawn_188 ⟨Nat.le_of_ble_eq_true rfl, Nat.le_of_ble_eq_true rfl⟩) hD hS hA (fun r_18 u_18 H locs hp hP hD hS => ?_)
          obtain ⟨er, eu⟩ := hp
          obtain rfl := er.symm
          obtain rfl := eu.symm
          refine lv_if_lt (tgt := 198) hx hb dL_isDrawn_191 (by decide) (fun _ => ?_) (fun c_191 => absurd hbn c_191)
          refine lv_iconst (v := 0) hx hb dL_isDrawn_198 (by decide) ?_
          refine lv_icmp_ne (tgt := 216) hx hb dL_isDrawn_199 (by decide) (fun c_199 => absurd (by decide) c_199) (fun _ => ?_)
          refine lv_iload hx hb dL_isDrawn_202 (lv_at hl 0 rfl) ?_
          refine lv_if_ne (tgt := 218) hx hb dL_isDrawn_204 (by decide) (fun c_204 => absurd (by decide) c_204) (fun _ => ?_)
          refine lv_aload_n hx hb dL_isDrawn_207 rfl (lv_at hl 3 rfl) ?_
          refine lv_iload hx hb dL_isDrawn_208 (lv_at hl 7 rfl) ?_
          refine kI (rV (q0 := 0) (ci := 7) hx hb hml hown hg hN hK hP hD (a_isTurned l D cI cJ ad co fl ra li re wa pi (nI i_5) hZ.zf hZ.zp (e_lt hZ hi_5).1 (e_lt hZ hi_5).2) mw_682 mw_683 mw_684 mw_685 mw_77 pdv_X7_isTurned ⟨Nat.le_of_ble_eq_true rfl, Nat.le_of_ble_eq_true rfl⟩ rfl xo0 rfl hl.1 rfl (Nat.le_of_ble_eq_true rfl) dL_isDrawn_210 ⟨Nat.le_of_ble_eq_true rfl, Nat.le_of_ble_eq_true rfl⟩) hD hS hA (fun r_19 u_19 H locs hp hP hD hS => ?_)
          obtain ⟨er, eu⟩ := hp
          obtain rfl := er.symm
          obtain rfl := eu.symm
          refine lv_if_eq (tgt := 218) hx hb dL_isDrawn_213 (by decide) (fun _ => ?_) (fun c_213 => absurd (b2i_f nt) c_213)
          refine lv_iload hx hb dL_isDrawn_218 (lv_at hl 0 rfl) ?_
          refine lv_if_ne (tgt := 226) hx hb dL_isDrawn_220 (by decide) (fun c_220 => absurd (by decide) c_220) (fun _ => ?_)
          refine lv_goto (tgt := 374) hx hb dL_isDrawn_223 (by decide) ?_
          refine lv_iinc (v := (nI (i_5 + 1))) (lv' := [(4, .int (nI (i_5 + 1))), (7, .int 0), (6, .int (rd (gA fl 4) 80 (nI i_5))), (5, .int (rd (gA fl 3) 80 (nI i_5))), (0, .ref (ad 0)), (1, .int p_5.1), (2, .int p_5.2.1), (3, .int p_5.2.2)]) hx hb dL_isDrawn_374 hl (k := 7) rfl (nI_1 i_5) (by decide) rfl (fun ls hl => ?_)
          refine lv_goto (tgt := 130) hx hb dL_isDrawn_377 (by decide) ?_
          exact ih_5 (p_5.1, p_5.2.1, p_5.2.2) H locs ls ⟨((show (p_5.1, p_5.2.1, p_5.2.2) = (drF wa pi) i_5 p_5 from (by simp only [drF, botE, topE, bf_of q0, gi_sl, gi_sA, gi_sB, gi_si_s, gi_si_n, gl_si, gl_sA, gl_sB, gl_sl_s, gl_sl_n, gA_si, gA_sl, gA_sB, gA_sA_s, gA_sA_n, gB_si, gB_sl, gB_sA, gB_sB_s, gB_sB_n, Nat.reduceBEq, if_true, if_false, eq_self, Bool.false_eq_true, Bool.true_eq_false, not_true_eq_false, not_false_eq_true, decide_true, decide_false, cond_true, cond_false, Bool.true_and, Bool.false_and, Bool.and_true, Bool.and_false, Bool.true_or, Bool.false_or, Bool.or_true, Bool.or_false, b2i_tt, b2i_ff, pr_eta]; done)).trans (lp_go h_5)), hP, hD, hS, lv_sub hl [4, 5, 6, 7, 0] rfl⟩
        · have q00 := q0
          refine lv_aload_n hx hb dL_isDrawn_139 rfl (lv_at hl 0 rfl) ?_
          refine lv_iload hx hb dL_isDrawn_140 (lv_at hl 4 rfl) ?_
          refine kI (rV (q0 := 0) (ci := 7) hx hb hml hown hg hN hK hP hD (a_edgeFrom l D cI cJ ad co fl ra li re wa pi (nI i_5) hZ.zf (e_lt hZ hi_5).1 (e_lt hZ hi_5).2) mw_613 mw_614 mw_615 mw_616 mw_77 pdv_X7_edgeFrom ⟨Nat.le_of_ble_eq_true rfl, Nat.le_of_ble_eq_true rfl⟩ rfl xo0 rfl hl.1 rfl (Nat.le_of_ble_eq_true rfl) dL_isDrawn_142 ⟨Nat.le_of_ble_eq_true rfl, Nat.le_of_ble_eq_true rfl⟩) hD hS hA (fun r_20 u_20 H locs hp hP hD hS => ?_)
          obtain ⟨er, eu⟩ := hp
          obtain rfl := er.symm
          obtain rfl := eu.symm
          refine lv_istore (lv' := [(5, .int (rd (gA fl 3) 80 (nI i_5))), (0, .ref (ad 0)), (1, .int p_5.1), (2, .int p_5.2.1), (3, .int p_5.2.2), (4, .int (nI i_5))]) hx hb dL_isDrawn_145 hl (by decide) rfl (fun ls hl => ?_)
          refine lv_aload_n hx hb dL_isDrawn_147 rfl (lv_at hl 1 rfl) ?_
          refine lv_iload hx hb dL_isDrawn_148 (lv_at hl 5 rfl) ?_
          refine kI (rV (q0 := 0) (ci := 7) hx hb hml hown hg hN hK hP hD (a_edgeTo l D cI cJ ad co fl ra li re wa pi (nI i_5) hZ.zf (e_lt hZ hi_5).1 (e_lt hZ hi_5).2) mw_617 mw_618 mw_619 mw_620 mw_77 pdv_X7_edgeTo ⟨Nat.le_of_ble_eq_true rfl, Nat.le_of_ble_eq_true rfl⟩ rfl xo0 rfl hl.1 rfl (Nat.le_of_ble_eq_true rfl) dL_isDrawn_150 ⟨Nat.le_of_ble_eq_true rfl, Nat.le_of_ble_eq_true rfl⟩) hD hS hA (fun r_21 u_21 H locs hp hP hD hS => ?_)
          obtain ⟨er, eu⟩ := hp
          obtain rfl := er.symm
          obtain rfl := eu.symm
          refine lv_istore (lv' := [(6, .int (rd (gA fl 4) 80 (nI i_5))), (5, .int (rd (gA fl 3) 80 (nI i_5))), (0, .ref (ad 0)), (1, .int p_5.1), (2, .int p_5.2.1), (3, .int p_5.2.2), (4, .int (nI i_5))]) hx hb dL_isDrawn_153 hl (by decide) rfl (fun ls hl => ?_)
          refine lv_aload_n hx hb dL_isDrawn_155 rfl (lv_at hl 2 rfl) ?_
          refine lv_iload hx hb dL_isDrawn_156 (lv_at hl 1 rfl) ?_
          refine kI (rV (q0 := 0) (ci := 7) hx hb hml hown hg hN hK hP hD (a_isReached l D cI cJ ad co fl ra li re wa pi (rd (gA fl 3) 80 (nI i_5)) hZ.zf (e_from hZ hi_5).1 (e_from hZ hi_5).2) mw_621 mw_622 mw_623 mw_624 mw_77 pdv_X7_isReached ⟨Nat.le_of_ble_eq_true rfl, Nat.le_of_ble_eq_true rfl⟩ rfl xo0 rfl hl.1 rfl (Nat.le_of_ble_eq_true rfl) dL_isDrawn_158 ⟨Nat.le_of_ble_eq_true rfl, Nat.le_of_ble_eq_true rfl⟩) hD hS hA (fun r_22 u_22 H locs hp hP hD hS => ?_)
          obtain ⟨er, eu⟩ := hp
          obtain rfl := er.symm
          obtain rfl := eu.symm
          refine lv_if_eq (tgt := 180) hx hb dL_isDrawn_161 (by decide) (fun c_161 => absurd c_161 (b2i_t q1)) (fun _ => ?_)
          refine lv_iload hx hb dL_isDrawn_164 (lv_at hl 0 rfl) ?_
          refine lv_if_lt (tgt := 180) hx hb dL_isDrawn_166 (by decide) (fun c_166 => absurd c_166 q2) (fun _ => ?_)
          refine lv_iload hx hb dL_isDrawn_169 (lv_at hl 0 rfl) ?_
          refine lv_iload hx hb dL_isDrawn_171 (lv_at hl 1 rfl) ?_
          refine lv_icmp_eq (tgt := 180) hx hb dL_isDrawn_173 (by decide) (fun _ => ?_) (fun c_173 => absurd q3 c_173)
          refine lv_iconst (v := 0) hx hb dL_isDrawn_180 (by decide) ?_
          refine lv_istore (lv' := [(7, .int 0), (6, .int (rd (gA fl 4) 80 (nI i_5))), (5, .int (rd (gA fl 3) 80 (nI i_5))), (0, .ref (ad 0)), (1, .int p_5.1), (2, .int p_5.2.1), (3, .int p_5.2.2), (4, .int (nI i_5))]) hx hb dL_isDrawn_181 hl (by decide) rfl (fun ls hl => ?_)
          refine lv_iload hx hb dL_isDrawn_183 (lv_at hl 0 rfl) ?_
          refine lv_aload_n hx hb dL_isDrawn_185 rfl (lv_at hl 3 rfl) ?_
          refine lv_iload hx hb dL_isDrawn_186 (lv_at hl 7 rfl) ?_
          refine kI (rV (q0 := 0) (ci := 7) hx hb hml hown hg hN hK hP hD (a_bends l D cI cJ ad co fl ra li re wa pi (nI i_5) hZ.zf hZ.zp (e_lt hZ hi_5).1 (e_lt hZ hi_5).2) mw_678 mw_679 mw_680 mw_681 mw_77 pdv_X7_bends ⟨Nat.le_of_ble_eq_true rfl, Nat.le_of_ble_eq_true rfl⟩ rfl xo0 rfl hl.1 rfl (Nat.le_of_ble_eq_true rfl) dL_isDrawn_188 ⟨Nat.le_of_ble_eq_true rfl, Nat.le_of_ble_eq_true rfl⟩) hD hS hA (fun r_23 u_23 H locs hp hP hD hS => ?_)
          obtain ⟨er, eu⟩ := hp
          obtain rfl := er.symm
          obtain rfl := eu.symm
          refine lv_if_lt (tgt := 198) hx hb dL_isDrawn_191 (by decide) (fun _ => ?_) (fun c_191 => absurd hbn c_191)
          refine lv_iconst (v := 0) hx hb dL_isDrawn_198 (by decide) ?_
          refine lv_icmp_ne (tgt := 216) hx hb dL_isDrawn_199 (by decide) (fun c_199 => absurd (by decide) c_199) (fun _ => ?_)
          refine lv_iload hx hb dL_isDrawn_202 (lv_at hl 0 rfl) ?_
          refine lv_if_ne (tgt := 218) hx hb dL_isDrawn_204 (by decide) (fun c_204 => absurd (by decide) c_204) (fun _ => ?_)
          refine lv_aload_n hx hb dL_isDrawn_207 rfl (lv_at hl 3 rfl) ?_
          refine lv_iload hx hb dL_isDrawn_208 (lv_at hl 7 rfl) ?_
          refine kI (rV (q0 := 0) (ci := 7) hx hb hml hown hg hN hK hP hD (a_isTurned l D cI cJ ad co fl ra li re wa pi (nI i_5) hZ.zf hZ.zp (e_lt hZ hi_5).1 (e_lt hZ hi_5).2) mw_682 mw_683 mw_684 mw_685 mw_77 pdv_X7_isTurned ⟨Nat.le_of_ble_eq_true rfl, Nat.le_of_ble_eq_true rfl⟩ rfl xo0 rfl hl.1 rfl (Nat.le_of_ble_eq_true rfl) dL_isDrawn_210 ⟨Nat.le_of_ble_eq_true rfl, Nat.le_of_ble_eq_true rfl⟩) hD hS hA (fun r_24 u_24 H locs hp hP hD hS => ?_)
          obtain ⟨er, eu⟩ := hp
          obtain rfl := er.symm
          obtain rfl := eu.symm
          refine lv_if_eq (tgt := 218) hx hb dL_isDrawn_213 (by decide) (fun _ => ?_) (fun c_213 => absurd (b2i_f nt) c_213)
          refine lv_iload hx hb dL_isDrawn_218 (lv_at hl 0 rfl) ?_
          refine lv_if_ne (tgt := 226) hx hb dL_isDrawn_220 (by decide) (fun c_220 => absurd (by decide) c_220) (fun _ => ?_)
          refine lv_goto (tgt := 374) hx hb dL_isDrawn_223 (by decide) ?_
          refine lv_iinc (v := (nI (i_5 + 1))) (lv' := [(4, .int (nI (i_5 + 1))), (7, .int 0), (6, .int (rd (gA fl 4) 80 (nI i_5))), (5, .int (rd (gA fl 3) 80 (nI i_5))), (0, .ref (ad 0)), (1, .int p_5.1), (2, .int p_5.2.1), (3, .int p_5.2.2)]) hx hb dL_isDrawn_374 hl (k := 7) rfl (nI_1 i_5) (by decide) rfl (fun ls hl => ?_)
          refine lv_goto (tgt := 130) hx hb dL_isDrawn_377 (by decide) ?_
          exact ih_5 (p_5.1, p_5.2.1, p_5.2.2) H locs ls ⟨((show (p_5.1, p_5.2.1, p_5.2.2) = (drF wa pi) i_5 p_5 from (by simp only [drF, botE, topE, bf_of q0, gi_sl, gi_sA, gi_sB, gi_si_s, gi_si_n, gl_si, gl_sA, gl_sB, gl_sl_s, gl_sl_n, gA_si, gA_sl, gA_sB, gA_sA_s, gA_sA_n, gB_si, gB_sl, gB_sA, gB_sB_s, gB_sB_n, Nat.reduceBEq, if_true, if_false, eq_self, Bool.false_eq_true, Bool.true_eq_false, not_true_eq_false, not_false_eq_true, decide_true, decide_false, cond_true, cond_false, Bool.true_and, Bool.false_and, Bool.and_true, Bool.and_false, Bool.true_or, Bool.false_or, Bool.or_true, Bool.or_false, b2i_tt, b2i_ff, pr_eta]; done)).trans (lp_go h_5)), hP, hD, hS, lv_sub hl [4, 5, 6, 7, 0] rfl⟩
        · have q00 := q0
          refine lv_aload_n hx hb dL_isDrawn_139 rfl (lv_at hl 0 rfl) ?_
          refine lv_iload hx hb dL_isDrawn_140 (lv_at hl 4 rfl) ?_
          refine kI (rV (q0 := 0) (ci := 7) hx hb hml hown hg hN hK hP hD (a_edgeFrom l D cI cJ ad co fl ra li re wa pi (nI i_5) hZ.zf (e_lt hZ hi_5).1 (e_lt hZ hi_5).2) mw_613 mw_614 mw_615 mw_616 mw_77 pdv_X7_edgeFrom ⟨Nat.le_of_ble_eq_true rfl, Nat.le_of_ble_eq_true rfl⟩ rfl xo0 rfl hl.1 rfl (Nat.le_of_ble_eq_true rfl) dL_isDrawn_142 ⟨Nat.le_of_ble_eq_true rfl, Nat.le_of_ble_eq_true rfl⟩) hD hS hA (fun r_25 u_25 H locs hp hP hD hS => ?_)
          obtain ⟨er, eu⟩ := hp
          obtain rfl := er.symm
          obtain rfl := eu.symm
          refine lv_istore (lv' := [(5, .int (rd (gA fl 3) 80 (nI i_5))), (0, .ref (ad 0)), (1, .int p_5.1), (2, .int p_5.2.1), (3, .int p_5.2.2), (4, .int (nI i_5))]) hx hb dL_isDrawn_145 hl (by decide) rfl (fun ls hl => ?_)
          refine lv_aload_n hx hb dL_isDrawn_147 rfl (lv_at hl 1 rfl) ?_
          refine lv_iload hx hb dL_isDrawn_148 (lv_at hl 5 rfl) ?_
          refine kI (rV (q0 := 0) (ci := 7) hx hb hml hown hg hN hK hP hD (a_edgeTo l D cI cJ ad co fl ra li re wa pi (nI i_5) hZ.zf (e_lt hZ hi_5).1 (e_lt hZ hi_5).2) mw_617 mw_618 mw_619 mw_620 mw_77 pdv_X7_edgeTo ⟨Nat.le_of_ble_eq_true rfl, Nat.le_of_ble_eq_true rfl⟩ rfl xo0 rfl hl.1 rfl (Nat.le_of_ble_eq_true rfl) dL_isDrawn_150 ⟨Nat.le_of_ble_eq_true rfl, Nat.le_of_ble_eq_true rfl⟩) hD hS hA (fun r_26 u_26 H locs hp hP hD hS => ?_)
          obtain ⟨er, eu⟩ := hp
          obtain rfl := er.symm
          obtain rfl := eu.symm
          refine lv_istore (lv' := [(6, .int (rd (gA fl 4) 80 (nI i_5))), (5, .int (rd (gA fl 3) 80 (nI i_5))), (0, .ref (ad 0)), (1, .int p_5.1), (2, .int p_5.2.1), (3, .int p_5.2.2), (4, .int (nI i_5))]) hx hb dL_isDrawn_153 hl (by decide) rfl (fun ls hl => ?_)
          refine lv_aload_n hx hb dL_isDrawn_155 rfl (lv_at hl 2 rfl) ?_
          refine lv_iload hx hb dL_isDrawn_156 (lv_at hl 1 rfl) ?_
          refine kI (rV (q0 := 0) (ci := 7) hx hb hml hown hg hN hK hP hD (a_isReached l D cI cJ ad co fl ra li re wa pi (rd (gA fl 3) 80 (nI i_5)) hZ.zf (e_from hZ hi_5).1 (e_from hZ hi_5).2) mw_621 mw_622 mw_623 mw_624 mw_77 pdv_X7_isReached ⟨Nat.le_of_ble_eq_true rfl, Nat.le_of_ble_eq_true rfl⟩ rfl xo0 rfl hl.1 rfl (Nat.le_of_ble_eq_true rfl) dL_isDrawn_158 ⟨Nat.le_of_ble_eq_true rfl, Nat.le_of_ble_eq_true rfl⟩) hD hS hA (fun r_27 u_27 H locs hp hP hD hS => ?_)
          obtain ⟨er, eu⟩ := hp
          obtain rfl := er.symm
          obtain rfl := eu.symm
          refine lv_if_eq (tgt := 180) hx hb dL_isDrawn_161 (by decide) (fun c_161 => absurd c_161 (b2i_t q1)) (fun _ => ?_)
          refine lv_iload hx hb dL_isDrawn_164 (lv_at hl 0 rfl) ?_
          refine lv_if_lt (tgt := 180) hx hb dL_isDrawn_166 (by decide) (fun c_166 => absurd c_166 q2) (fun _ => ?_)
          refine lv_iload hx hb dL_isDrawn_169 (lv_at hl 0 rfl) ?_
          refine lv_iload hx hb dL_isDrawn_171 (lv_at hl 1 rfl) ?_
          refine lv_icmp_eq (tgt := 180) hx hb dL_isDrawn_173 (by decide) (fun c_173 => absurd c_173 q3) (fun _ => ?_)
          refine lv_iconst (v := 1) hx hb dL_isDrawn_176 (by decide) ?_
          refine lv_goto (tgt := 181) hx hb dL_isDrawn_177 (by decide) ?_
          refine lv_istore (lv' := [(7, .int 1), (6, .int (rd (gA fl 4) 80 (nI i_5))), (5, .int (rd (gA fl 3) 80 (nI i_5))), (0, .ref (ad 0)), (1, .int p_5.1), (2, .int p_5.2.1), (3, .int p_5.2.2), (4, .int (nI i_5))]) hx hb dL_isDrawn_181 hl (by decide) rfl (fun ls hl => ?_)
          refine lv_iload hx hb dL_isDrawn_183 (lv_at hl 0 rfl) ?_
          refine lv_aload_n hx hb dL_isDrawn_185 rfl (lv_at hl 3 rfl) ?_
          refine lv_iload hx hb dL_isDrawn_186 (lv_at hl 7 rfl) ?_
          refine kI (rV (q0 := 0) (ci := 7) hx hb hml hown hg hN hK hP hD (a_bends l D cI cJ ad co fl ra li re wa pi (nI i_5) hZ.zf hZ.zp (e_lt hZ hi_5).1 (e_lt hZ hi_5).2) mw_678 mw_679 mw_680 mw_681 mw_77 pdv_X7_bends ⟨Nat.le_of_ble_eq_true rfl, Nat.le_of_ble_eq_true rfl⟩ rfl xo0 rfl hl.1 rfl (Nat.le_of_ble_eq_true rfl) dL_isDrawn_188 ⟨Nat.le_of_ble_eq_true rfl, Nat.le_of_ble_eq_true rfl⟩) hD hS hA (fun r_28 u_28 H locs hp hP hD hS => ?_)
          obtain ⟨er, eu⟩ := hp
          obtain rfl := er.symm
          obtain rfl := eu.symm
          refine lv_if_lt (tgt := 198) hx hb dL_isDrawn_191 (by decide) (fun c_191 => absurd c_191 hbn) (fun _ => ?_)
          refine lv_iconst (v := 1) hx hb dL_isDrawn_194 (by decide) ?_
          refine lv_goto (tgt := 199) hx hb dL_isDrawn_195 (by decide) ?_
          refine lv_icmp_ne (tgt := 216) hx hb dL_isDrawn_199 (by decide) (fun c_199 => absurd (by decide) c_199) (fun _ => ?_)
          refine lv_iload hx hb dL_isDrawn_202 (lv_at hl 0 rfl) ?_
          refine lv_if_ne (tgt := 218) hx hb dL_isDrawn_204 (by decide) (fun _ => ?_) (fun c_204 => absurd c_204 (by decide))
          refine lv_iload hx hb dL_isDrawn_218 (lv_at hl 0 rfl) ?_
          refine lv_if_ne (tgt := 226) hx hb dL_isDrawn_220 (by decide) (fun _ => ?_) (fun c_220 => absurd c_220 (by decide))
          refine lv_aload_n hx hb dL_isDrawn_226 rfl (lv_at hl 3 rfl) ?_
          refine lv_aload_n hx hb dL_isDrawn_227 rfl (lv_at hl 3 rfl) ?_
          refine lv_iload hx hb dL_isDrawn_228 (lv_at hl 7 rfl) ?_
          refine kI (rV (q0 := 0) (ci := 7) hx hb hml hown hg hN hK hP hD (a_isTurned l D cI cJ ad co fl ra li re wa pi (nI i_5) hZ.zf hZ.zp (e_lt hZ hi_5).1 (e_lt hZ hi_5).2) mw_682 mw_683 mw_684 mw_685 mw_77 pdv_X7_isTurned ⟨Nat.le_of_ble_eq_true rfl, Nat.le_of_ble_eq_true rfl⟩ rfl xo0 rfl hl.1 rfl (Nat.le_of_ble_eq_true rfl) dL_isDrawn_230 ⟨Nat.le_of_ble_eq_true rfl, Nat.le_of_ble_eq_true rfl⟩) hD hS hA (fun r_29 u_29 H locs hp hP hD hS => ?_)
          obtain ⟨er, eu⟩ := hp
          obtain rfl := er.symm
          obtain rfl := eu.symm
          refine lv_if_eq (tgt := 241) hx hb dL_isDrawn_233 (by decide) (fun c_233 => absurd c_233 (b2i_t nt)) (fun _ => ?_)
          refine lv_iload hx hb dL_isDrawn_236 (lv_at hl 1 rfl) ?_
          refine lv_goto (tgt := 243) hx hb dL_isDrawn_238 (by decide) ?_
          refine kI (rV (q0 := 0) (ci := 7) hx hb hml hown hg hN hK hP hD (a_layerOf l D cI cJ ad co fl ra li re wa pi (rd (gA fl 4) 80 (nI i_5)) hZ.zf hZ.zp q2 (e_to hZ hi_5)) mw_649 mw_650 mw_651 mw_652 mw_77 pdv_X7_layerOf ⟨Nat.le_of_ble_eq_true rfl, Nat.le_of_ble_eq_true rfl⟩ rfl xo0 rfl hl.1 rfl (Nat.le_of_ble_eq_true rfl) dL_isDrawn_243 ⟨Nat.le_of_ble_eq_true rfl, Nat.le_of_ble_eq_true rfl⟩) hD hS hA (fun r_30 u_30 H locs hp hP hD hS => ?_)
          obtain ⟨er, eu⟩ := hp
          obtain rfl := er.symm
          obtain rfl := eu.symm
          refine lv_istore (lv' := [(8, .int (rd (gA pi 0) 40 (rd (gA fl 4) 80 (nI i_5)))), (7, .int 1), (6, .int (rd (gA fl 4) 80 (nI i_5))), (5, .int (rd (gA fl 3) 80 (nI i_5))), (0, .ref (ad 0)), (1, .int p_5.1), (2, .int p_5.2.1), (3, .int p_5.2.2), (4, .int (nI i_5))]) hx hb dL_isDrawn_246 hl (by decide) rfl (fun ls hl => ?_)
          refine lv_aload_n hx hb dL_isDrawn_248 rfl (lv_at hl 4 rfl) ?_
          refine lv_aload_n hx hb dL_isDrawn_249 rfl (lv_at hl 4 rfl) ?_
          refine lv_iload hx hb dL_isDrawn_250 (lv_at hl 8 rfl) ?_
          refine kI (rV (q0 := 0) (ci := 7) hx hb hml hown hg hN hK hP hD (a_isTurned l D cI cJ ad co fl ra li re wa pi (nI i_5) hZ.zf hZ.zp (e_lt hZ hi_5).1 (e_lt hZ hi_5).2) mw_682 mw_683 mw_684 mw_685 mw_77 pdv_X7_isTurned ⟨Nat.le_of_ble_eq_true rfl, Nat.le_of_ble_eq_true rfl⟩ rfl xo0 rfl hl.1 rfl (Nat.le_of_ble_eq_true rfl) dL_isDrawn_252 ⟨Nat.le_of_ble_eq_true rfl, Nat.le_of_ble_eq_true rfl⟩) hD hS hA (fun r_31 u_31 H locs hp hP hD hS => ?_)
          obtain ⟨er, eu⟩ := hp
          obtain rfl := er.symm
          obtain rfl := eu.symm
          refine lv_if_eq (tgt := 263) hx hb dL_isDrawn_255 (by decide) (fun c_255 => absurd c_255 (b2i_t nt)) (fun _ => ?_)
          refine lv_iload hx hb dL_isDrawn_258 (lv_at hl 3 rfl) ?_
          refine lv_goto (tgt := 265) hx hb dL_isDrawn_260 (by decide) ?_
          refine kI (rV (q0 := 0) (ci := 7) hx hb hml hown hg hN hK hP hD (a_layerOf l D cI cJ ad co fl ra li re wa pi (rd (gA fl 3) 80 (nI i_5)) hZ.zf hZ.zp (e_from hZ hi_5).1 (e_from hZ hi_5).2) mw_649 mw_650 mw_651 mw_652 mw_77 pdv_X7_layerOf ⟨Nat.le_of_ble_eq_true rfl, Nat.le_of_ble_eq_true rfl⟩ rfl xo0 rfl hl.1 rfl (Nat.le_of_ble_eq_true rfl) dL_isDrawn_265 ⟨Nat.le_of_ble_eq_true rfl, Nat.le_of_ble_eq_true rfl⟩) hD hS hA (fun r_32 u_32 H locs hp hP hD hS => ?_)
          obtain ⟨er, eu⟩ := hp
          obtain rfl := er.symm
          obtain rfl := eu.symm
          refine lv_istore (lv' := [(9, .int (rd (gA pi 0) 40 (rd (gA fl 3) 80 (nI i_5)))), (8, .int (rd (gA pi 0) 40 (rd (gA fl 4) 80 (nI i_5)))), (7, .int 1), (6, .int (rd (gA fl 4) 80 (nI i_5))), (5, .int (rd (gA fl 3) 80 (nI i_5))), (0, .ref (ad 0)), (1, .int p_5.1), (2, .int p_5.2.1), (3, .int p_5.2.2), (4, .int (nI i_5))]) hx hb dL_isDrawn_268 hl (by decide) rfl (fun ls hl => ?_)
          refine lv_aload_n hx hb dL_isDrawn_270 rfl (lv_at hl 5 rfl) ?_
          refine lv_iload hx hb dL_isDrawn_271 (lv_at hl 9 rfl) ?_
          refine kI (rV (q0 := 0) (ci := 7) hx hb hml hown hg hN hK hP hD (a_bends l D cI cJ ad co fl ra li re wa pi (nI i_5) hZ.zf hZ.zp (e_lt hZ hi_5).1 (e_lt hZ hi_5).2) mw_678 mw_679 mw_680 mw_681 mw_77 pdv_X7_bends ⟨Nat.le_of_ble_eq_true rfl, Nat.le_of_ble_eq_true rfl⟩ rfl xo0 rfl hl.1 rfl (Nat.le_of_ble_eq_true rfl) dL_isDrawn_273 ⟨Nat.le_of_ble_eq_true rfl, Nat.le_of_ble_eq_true rfl⟩) hD hS hA (fun r_33 u_33 H locs hp hP hD hS => ?_)
          obtain ⟨er, eu⟩ := hp
          obtain rfl := er.symm
          obtain rfl := eu.symm
          refine lv_iload hx hb dL_isDrawn_276 (lv_at hl 0 rfl) ?_
          refine lv_iload hx hb dL_isDrawn_278 (lv_at hl 1 rfl) ?_
          refine lv_isub hx hb dL_isDrawn_280 ?_
          refine lv_iconst (v := 1) hx hb dL_isDrawn_281 (by decide) ?_
          refine lv_isub hx hb dL_isDrawn_282 ?_
          refine lv_icmp_ne (tgt := 304) hx hb dL_isDrawn_283 (by decide) (fun c_283 => absurd (d_be q0 hup hlo) c_283) (fun _ => ?_)
          refine lv_aload_n hx hb dL_isDrawn_286 rfl (lv_at hl 5 rfl) ?_
          refine lv_iload hx hb dL_isDrawn_287 (lv_at hl 9 rfl) ?_
          refine kI (rV (q0 := 0) (ci := 7) hx hb hml hown hg hN hK hP hD (a_isBack l D cI cJ ad co fl ra li re wa pi (nI i_5) hZ.zf hZ.zr (e_lt hZ hi_5).1 (e_lt hZ hi_5).2) mw_625 mw_626 mw_627 mw_628 mw_77 pdv_X7_isBack ⟨Nat.le_of_ble_eq_true rfl, Nat.le_of_ble_eq_true rfl⟩ rfl xo0 rfl hl.1 rfl (Nat.le_of_ble_eq_true rfl) dL_isDrawn_289 ⟨Nat.le_of_ble_eq_true rfl, Nat.le_of_ble_eq_true rfl⟩) hD hS hA (fun r_34 u_34 H locs hp hP hD hS => ?_)
          obtain ⟨er, eu⟩ := hp
          obtain rfl := er.symm
          obtain rfl := eu.symm
          refine lv_if_eq (tgt := 306) hx hb dL_isDrawn_292 (by decide) (fun c_292 => ?_) (fun c_292 => ?_)
          · have c_292 : ¬ (goesBack ra fl (nI i_5)) = true := b2i_0 c_292
            refine lv_iconst (v := 0) hx hb dL_isDrawn_306 (by decide) ?_
            refine lv_istore (lv' := [(10, .int 0), (9, .int (rd (gA pi 0) 40 (rd (gA fl 3) 80 (nI i_5)))), (8, .int (rd (gA pi 0) 40 (rd (gA fl 4) 80 (nI i_5)))), (7, .int 1), (6, .int (rd (gA fl 4) 80 (nI i_5))), (5, .int (rd (gA fl 3) 80 (nI i_5))), (0, .ref (ad 0)), (1, .int p_5.1), (2, .int p_5.2.1), (3, .int p_5.2.2), (4, .int (nI i_5))]) hx hb dL_isDrawn_307 hl (by decide) rfl (fun ls hl => ?_)
            refine w_loop (σ := Unit) (fun (i_35 : Nat) (p_35 : Unit) (H : Heap) (locs : List Loc) (ls : Array Slot) => p_35 = () ∧ va_P D vwCl (XW ad cI cJ co fl ra li re wa pi) H ∧ va_D A (XW ad cI cJ co fl ra li re wa pi) ∧ va_S A s.heap H locs ∧ lv_has ls 11 [(0, .ref (ad 0)), (1, .int p_5.1), (2, .int p_5.2.1), (3, .int p_5.2.2), (4, .int (nI i_5)), (5, .int (rd (gA fl 3) 80 (nI i_5))), (6, .int (rd (gA fl 4) 80 (nI i_5))), (7, .int 1), (8, .int (rd (gA pi 0) 40 (rd (gA fl 4) 80 (nI i_5)))), (9, .int (rd (gA pi 0) 40 (rd (gA fl 3) 80 (nI i_5)))), (10, .int (nI i_35))]) (bd wa ly i_5) (fun p_35 H locs ls hI => ?_) (fun i_35 p_35 H locs ls hi_35 hI ih_35 => ?_) 0 () (Nat.zero_le _) ⟨rfl, hP, hD, hS, (by rw [nI_0]; exact lv_sub hl [6, 7, 8, 9, 10, 5, 4, 3, 2, 1, 0] rfl)⟩
            · obtain ⟨h_35, hP, hD, hS, hl⟩ := hI
              have h_35 := h_35.symm
              subst h_35
              have hP : va_P D vwCl (XW ad cI cJ co fl ra li re wa pi) H := hP
              have hD : va_D A (XW ad cI cJ co fl ra li re wa pi) := hD
              have hl : lv_has ls 11 [(0, .ref (ad 0)), (1, .int p_5.1), (2, .int p_5.2.1), (3, .int p_5.2.2), (4, .int (nI i_5)), (5, .int (rd (gA fl 3) 80 (nI i_5))), (6, .int (rd (gA fl 4) 80 (nI i_5))), (7, .int 1), (8, .int (rd (gA pi 0) 40 (rd (gA fl 4) 80 (nI i_5)))), (9, .int (rd (gA pi 0) 40 (rd (gA fl 3) 80 (nI i_5)))), (10, .int (nI ((bd wa ly i_5))))] := hl
              refine lv_iload hx hb dL_isDrawn_309 (lv_at hl 10 rfl) ?_
              refine lv_aload_n hx hb dL_isDrawn_311 rfl (lv_at hl 0 rfl) ?_
              refine lv_iload hx hb dL_isDrawn_312 (lv_at hl 4 rfl) ?_
              refine kI (rV (q0 := 0) (ci := 7) hx hb hml hown hg hN hK hP hD (a_bends l D cI cJ ad co fl ra li re wa pi (nI i_5) hZ.zf hZ.zp (e_lt hZ hi_5).1 (e_lt hZ hi_5).2) mw_678 mw_679 mw_680 mw_681 mw_77 pdv_X7_bends ⟨Nat.le_of_ble_eq_true rfl, Nat.le_of_ble_eq_true rfl⟩ rfl xo0 rfl hl.1 rfl (Nat.le_of_ble_eq_true rfl) dL_isDrawn_314 ⟨Nat.le_of_ble_eq_true rfl, Nat.le_of_ble_eq_true rfl⟩) hD hS hA (fun r_36 u_36 H locs hp hP hD hS => ?_)
              obtain ⟨er, eu⟩ := hp
              obtain rfl := er.symm
              obtain rfl := eu.symm
              refine lv_icmp_ge (tgt := 354) hx hb dL_isDrawn_317 (by decide) (fun _ => ?_) (fun c_317 => absurd (tst_out (d_bn hZ hi_5 q0).1) c_317)
              refine lv_iload_n hx hb dL_isDrawn_354 rfl (lv_at hl 1 rfl) ?_
              refine lv_aload_n hx hb dL_isDrawn_355 rfl (lv_at hl 0 rfl) ?_
              refine lv_iload hx hb dL_isDrawn_356 (lv_at hl 4 rfl) ?_
              refine kI (rV (q0 := 0) (ci := 7) hx hb hml hown hg hN hK hP hD (a_bends l D cI cJ ad co fl ra li re wa pi (nI i_5) hZ.zf hZ.zp (e_lt hZ hi_5).1 (e_lt hZ hi_5).2) mw_678 mw_679 mw_680 mw_681 mw_77 pdv_X7_bends ⟨Nat.le_of_ble_eq_true rfl, Nat.le_of_ble_eq_true rfl⟩ rfl xo0 rfl hl.1 rfl (Nat.le_of_ble_eq_true rfl) dL_isDrawn_358 ⟨Nat.le_of_ble_eq_true rfl, Nat.le_of_ble_eq_true rfl⟩) hD hS hA (fun r_37 u_37 H locs hp hP hD hS => ?_)
              obtain ⟨er, eu⟩ := hp
              obtain rfl := er.symm
              obtain rfl := eu.symm
              refine lv_isub hx hb dL_isDrawn_361 ?_
              refine lv_istore_n (lv' := [(1, .int (p_5.1 - (bendCount wa pi (nI i_5)))), (0, .ref (ad 0)), (2, .int p_5.2.1), (3, .int p_5.2.2), (4, .int (nI i_5)), (5, .int (rd (gA fl 3) 80 (nI i_5))), (6, .int (rd (gA fl 4) 80 (nI i_5))), (7, .int 1), (8, .int (rd (gA pi 0) 40 (rd (gA fl 4) 80 (nI i_5)))), (9, .int (rd (gA pi 0) 40 (rd (gA fl 3) 80 (nI i_5)))), (10, .int (nI ((bd wa ly i_5))))]) hx hb dL_isDrawn_362 rfl hl (by decide) rfl (fun ls hl => ?_)
              refine lv_iload_n hx hb dL_isDrawn_363 rfl (lv_at hl 2 rfl) ?_
              refine lv_iload hx hb dL_isDrawn_364 (lv_at hl 9 rfl) ?_
              refine lv_iload hx hb dL_isDrawn_366 (lv_at hl 8 rfl) ?_
              refine lv_isub hx hb dL_isDrawn_368 ?_
              refine lv_iadd hx hb dL_isDrawn_369 ?_
              refine lv_istore_n (lv' := [(2, .int (p_5.2.1 + ((rd (gA pi 0) 40 (rd (gA fl 3) 80 (nI i_5))) - (rd (gA pi 0) 40 (rd (gA fl 4) 80 (nI i_5)))))), (1, .int (p_5.1 - (bendCount wa pi (nI i_5)))), (0, .ref (ad 0)), (3, .int p_5.2.2), (4, .int (nI i_5)), (5, .int (rd (gA fl 3) 80 (nI i_5))), (6, .int (rd (gA fl 4) 80 (nI i_5))), (7, .int 1), (8, .int (rd (gA pi 0) 40 (rd (gA fl 4) 80 (nI i_5)))), (9, .int (rd (gA pi 0) 40 (rd (gA fl 3) 80 (nI i_5)))), (10, .int (nI ((bd wa ly i_5))))]) hx hb dL_isDrawn_370 rfl hl (by decide) rfl (fun ls hl => ?_)
              refine lv_iinc (v := (p_5.2.2 + 1)) (lv' := [(3, .int (p_5.2.2 + 1)), (2, .int (p_5.2.1 + ((rd (gA pi 0) 40 (rd (gA fl 3) 80 (nI i_5))) - (rd (gA pi 0) 40 (rd (gA fl 4) 80 (nI i_5)))))), (1, .int (p_5.1 - (bendCount wa pi (nI i_5)))), (0, .ref (ad 0)), (4, .int (nI i_5)), (5, .int (rd (gA fl 3) 80 (nI i_5))), (6, .int (rd (gA fl 4) 80 (nI i_5))), (7, .int 1), (8, .int (rd (gA pi 0) 40 (rd (gA fl 4) 80 (nI i_5)))), (9, .int (rd (gA pi 0) 40 (rd (gA fl 3) 80 (nI i_5)))), (10, .int (nI ((bd wa ly i_5))))]) hx hb dL_isDrawn_371 hl (k := 3) rfl rfl (by decide) rfl (fun ls hl => ?_)
              refine lv_iinc (v := (nI (i_5 + 1))) (lv' := [(4, .int (nI (i_5 + 1))), (3, .int (p_5.2.2 + 1)), (2, .int (p_5.2.1 + ((rd (gA pi 0) 40 (rd (gA fl 3) 80 (nI i_5))) - (rd (gA pi 0) 40 (rd (gA fl 4) 80 (nI i_5)))))), (1, .int (p_5.1 - (bendCount wa pi (nI i_5)))), (0, .ref (ad 0)), (5, .int (rd (gA fl 3) 80 (nI i_5))), (6, .int (rd (gA fl 4) 80 (nI i_5))), (7, .int 1), (8, .int (rd (gA pi 0) 40 (rd (gA fl 4) 80 (nI i_5)))), (9, .int (rd (gA pi 0) 40 (rd (gA fl 3) 80 (nI i_5)))), (10, .int (nI ((bd wa ly i_5))))]) hx hb dL_isDrawn_374 hl (k := 4) rfl (nI_1 i_5) (by decide) rfl (fun ls hl => ?_)
              refine lv_goto (tgt := 130) hx hb dL_isDrawn_377 (by decide) ?_
              exact ih_5 ((p_5.1 - (bendCount wa pi (nI i_5))), (p_5.2.1 + ((rd (gA pi 0) 40 (rd (gA fl 3) 80 (nI i_5))) - (rd (gA pi 0) 40 (rd (gA fl 4) 80 (nI i_5))))), (p_5.2.2 + 1)) H locs ls ⟨((show ((p_5.1 - (bendCount wa pi (nI i_5))), (p_5.2.1 + ((rd (gA pi 0) 40 (rd (gA fl 3) 80 (nI i_5))) - (rd (gA pi 0) 40 (rd (gA fl 4) 80 (nI i_5))))), (p_5.2.2 + 1)) = (drF wa pi) i_5 p_5 from (by simp only [drF, botE, topE, q0, hup, hlo, bf_of c_292, gi_sl, gi_sA, gi_sB, gi_si_s, gi_si_n, gl_si, gl_sA, gl_sB, gl_sl_s, gl_sl_n, gA_si, gA_sl, gA_sB, gA_sA_s, gA_sA_n, gB_si, gB_sl, gB_sA, gB_sB_s, gB_sB_n, Nat.reduceBEq, if_true, if_false, eq_self, Bool.false_eq_true, Bool.true_eq_false, not_true_eq_false, not_false_eq_true, decide_true, decide_false, cond_true, cond_false, Bool.true_and, Bool.false_and, Bool.and_true, Bool.and_false, Bool.true_or, Bool.false_or, Bool.or_true, Bool.or_false, b2i_tt, b2i_ff, pr_eta]; done)).trans (lp_go h_5)), hP, hD, hS, lv_sub hl [4, 3, 2, 1, 0] rfl⟩
            · obtain ⟨h_35, hP, hD, hS, hl⟩ := hI
              have hP : va_P D vwCl (XW ad cI cJ co fl ra li re wa pi) H := hP
              have hD : va_D A (XW ad cI cJ co fl ra li re wa pi) := hD
              have hl : lv_has ls 11 [(0, .ref (ad 0)), (1, .int p_5.1), (2, .int p_5.2.1), (3, .int p_5.2.2), (4, .int (nI i_5)), (5, .int (rd (gA fl 3) 80 (nI i_5))), (6, .int (rd (gA fl 4) 80 (nI i_5))), (7, .int 1), (8, .int (rd (gA pi 0) 40 (rd (gA fl 4) 80 (nI i_5)))), (9, .int (rd (gA pi 0) 40 (rd (gA fl 3) 80 (nI i_5)))), (10, .int (nI i_35))] := hl
              refine lv_iload hx hb dL_isDrawn_309 (lv_at hl 10 rfl) ?_
              refine lv_aload_n hx hb dL_isDrawn_311 rfl (lv_at hl 0 rfl) ?_
              refine lv_iload hx hb dL_isDrawn_312 (lv_at hl 4 rfl) ?_
              refine kI (rV (q0 := 0) (ci := 7) hx hb hml hown hg hN hK hP hD (a_bends l D cI cJ ad co fl ra li re wa pi (nI i_5) hZ.zf hZ.zp (e_lt hZ hi_5).1 (e_lt hZ hi_5).2) mw_678 mw_679 mw_680 mw_681 mw_77 pdv_X7_bends ⟨Nat.le_of_ble_eq_true rfl, Nat.le_of_ble_eq_true rfl⟩ rfl xo0 rfl hl.1 rfl (Nat.le_of_ble_eq_true rfl) dL_isDrawn_314 ⟨Nat.le_of_ble_eq_true rfl, Nat.le_of_ble_eq_true rfl⟩) hD hS hA (fun r_38 u_38 H locs hp hP hD hS => ?_)
              obtain ⟨er, eu⟩ := hp
              obtain rfl := er.symm
              obtain rfl := eu.symm
              refine lv_icmp_ge (tgt := 354) hx hb dL_isDrawn_317 (by decide) (fun c_317 => absurd c_317 (tst_in (d_bn hZ hi_5 q0).1 hi_35 (by have := (d_bn hZ hi_5 q0).2; omega))) (fun _ => ?_)
              refine lv_aload_n hx hb dL_isDrawn_320 rfl (lv_at hl 0 rfl) ?_
              refine lv_iload hx hb dL_isDrawn_321 (lv_at hl 8 rfl) ?_
              refine lv_iconst (v := 1) hx hb dL_isDrawn_323 (by decide) ?_
              refine lv_iadd hx hb dL_isDrawn_324 ?_
              refine lv_iload hx hb dL_isDrawn_325 (lv_at hl 10 rfl) ?_
              refine lv_iadd hx hb dL_isDrawn_327 ?_
              refine lv_aload_n hx hb dL_isDrawn_328 rfl (lv_at hl 0 rfl) ?_
              refine lv_iload hx hb dL_isDrawn_329 (lv_at hl 4 rfl) ?_
              refine lv_iload hx hb dL_isDrawn_331 (lv_at hl 10 rfl) ?_
              refine kI (rV (q0 := 0) (ci := 7) hx hb hml hown hg hN hK hP hD (a_bendAt l D cI cJ ad co fl ra li re wa pi (nI i_5) (nI i_35) hZ.zf hZ.zp (e_lt hZ hi_5).1 (e_lt hZ hi_5).2 (nI_pos (by have := (d_bn hZ hi_5 q0).2; omega)) (by rw [(d_bn hZ hi_5 q0).1]; exact nI_lt2 hi_35 (by have := (d_bn hZ hi_5 q0).2; omega))) mw_686 mw_687 mw_688 mw_689 mw_77 pdv_X7_bendAt ⟨Nat.le_of_ble_eq_true rfl, Nat.le_of_ble_eq_true rfl⟩ rfl xo0 rfl hl.1 rfl (Nat.le_of_ble_eq_true rfl) dL_isDrawn_333 ⟨Nat.le_of_ble_eq_true rfl, Nat.le_of_ble_eq_true rfl⟩) hD hS hA (fun r_39 u_39 H locs hp hP hD hS => ?_)
              obtain ⟨er, eu⟩ := hp
              obtain rfl := er.symm
              obtain rfl := eu.symm
              refine kI (rV (q0 := 0) (ci := 7) hx hb hml hown hg hN hK hP hD (a_pointAt l D cI cJ ad co fl ra li re wa pi (((rd (gA pi 0) 40 (rd (gA fl 4) 80 (nI i_5))) + 1) + (nI i_35)) (placeBend pi (nI i_5) (nI i_35)) hZ.zp (d_pt hZ hi_5 hi_35 q0 hup).1.1 (d_pt hZ hi_5 hi_35 q0 hup).1.2 (d_pt hZ hi_5 hi_35 q0 hup).2.1.1 (d_pt hZ hi_5 hi_35 q0 hup).2.1.2) mw_690 mw_691 mw_692 mw_693 mw_77 pdv_X7_pointAt ⟨Nat.le_of_ble_eq_true rfl, Nat.le_of_ble_eq_true rfl⟩ rfl xo0 rfl hl.1 rfl (Nat.le_of_ble_eq_true rfl) dL_isDrawn_336 ⟨Nat.le_of_ble_eq_true rfl, Nat.le_of_ble_eq_true rfl⟩) hD hS hA (fun r_40 u_40 H locs hp hP hD hS => ?_)
              obtain ⟨er, eu⟩ := hp
              obtain rfl := er.symm
              obtain rfl := eu.symm
              refine lv_iconst (v := (-1)) hx hb dL_isDrawn_339 (by decide) ?_
              refine lv_iload hx hb dL_isDrawn_340 (lv_at hl 4 rfl) ?_
              refine lv_isub hx hb dL_isDrawn_342 ?_
              refine lv_icmp_eq (tgt := 348) hx hb dL_isDrawn_343 (by decide) (fun _ => ?_) (fun c_343 => absurd (d_pt hZ hi_5 hi_35 q0 hup).2.2 c_343)
              refine lv_iinc (v := (nI (i_35 + 1))) (lv' := [(10, .int (nI (i_35 + 1))), (0, .ref (ad 0)), (1, .int p_5.1), (2, .int p_5.2.1), (3, .int p_5.2.2), (4, .int (nI i_5)), (5, .int (rd (gA fl 3) 80 (nI i_5))), (6, .int (rd (gA fl 4) 80 (nI i_5))), (7, .int 1), (8, .int (rd (gA pi 0) 40 (rd (gA fl 4) 80 (nI i_5)))), (9, .int (rd (gA pi 0) 40 (rd (gA fl 3) 80 (nI i_5))))]) hx hb dL_isDrawn_348 hl (k := 10) rfl (nI_1 i_35) (by decide) rfl (fun ls hl => ?_)
              refine lv_goto (tgt := 309) hx hb dL_isDrawn_351 (by decide) ?_
              exact ih_35 () H locs ls ⟨rfl, hP, hD, hS, lv_sub hl [1, 2, 3, 4, 5, 6, 7, 8, 9, 10, 0] rfl⟩
          · have c_292 : (goesBack ra fl (nI i_5)) = true := b2i_1 c_292
            refine lv_aload_n hx hb dL_isDrawn_295 rfl (lv_at hl 5 rfl) ?_
            refine lv_iload hx hb dL_isDrawn_296 (lv_at hl 9 rfl) ?_
            refine kI (rV (q0 := 0) (ci := 7) hx hb hml hown hg hN hK hP hD (a_isTurned l D cI cJ ad co fl ra li re wa pi (nI i_5) hZ.zf hZ.zp (e_lt hZ hi_5).1 (e_lt hZ hi_5).2) mw_682 mw_683 mw_684 mw_685 mw_77 pdv_X7_isTurned ⟨Nat.le_of_ble_eq_true rfl, Nat.le_of_ble_eq_true rfl⟩ rfl xo0 rfl hl.1 rfl (Nat.le_of_ble_eq_true rfl) dL_isDrawn_298 ⟨Nat.le_of_ble_eq_true rfl, Nat.le_of_ble_eq_true rfl⟩) hD hS hA (fun r_41 u_41 H locs hp hP hD hS => ?_)
            obtain ⟨er, eu⟩ := hp
            obtain rfl := er.symm
            obtain rfl := eu.symm
            refine lv_if_ne (tgt := 306) hx hb dL_isDrawn_301 (by decide) (fun _ => ?_) (fun c_301 => absurd c_301 (b2i_t nt))
            refine lv_iconst (v := 0) hx hb dL_isDrawn_306 (by decide) ?_
            refine lv_istore (lv' := [(10, .int 0), (9, .int (rd (gA pi 0) 40 (rd (gA fl 3) 80 (nI i_5)))), (8, .int (rd (gA pi 0) 40 (rd (gA fl 4) 80 (nI i_5)))), (7, .int 1), (6, .int (rd (gA fl 4) 80 (nI i_5))), (5, .int (rd (gA fl 3) 80 (nI i_5))), (0, .ref (ad 0)), (1, .int p_5.1), (2, .int p_5.2.1), (3, .int p_5.2.2), (4, .int (nI i_5))]) hx hb dL_isDrawn_307 hl (by decide) rfl (fun ls hl => ?_)
            refine w_loop (σ := Unit) (fun (i_42 : Nat) (p_42 : Unit) (H : Heap) (locs : List Loc) (ls : Array Slot) => p_42 = () ∧ va_P D vwCl (XW ad cI cJ co fl ra li re wa pi) H ∧ va_D A (XW ad cI cJ co fl ra li re wa pi) ∧ va_S A s.heap H locs ∧ lv_has ls 11 [(0, .ref (ad 0)), (1, .int p_5.1), (2, .int p_5.2.1), (3, .int p_5.2.2), (4, .int (nI i_5)), (5, .int (rd (gA fl 3) 80 (nI i_5))), (6, .int (rd (gA fl 4) 80 (nI i_5))), (7, .int 1), (8, .int (rd (gA pi 0) 40 (rd (gA fl 4) 80 (nI i_5)))), (9, .int (rd (gA pi 0) 40 (rd (gA fl 3) 80 (nI i_5)))), (10, .int (nI i_42))]) (bd wa ly i_5) (fun p_42 H locs ls hI => ?_) (fun i_42 p_42 H locs ls hi_42 hI ih_42 => ?_) 0 () (Nat.zero_le _) ⟨rfl, hP, hD, hS, (by rw [nI_0]; exact lv_sub hl [6, 7, 8, 9, 10, 5, 4, 3, 2, 1, 0] rfl)⟩
            · obtain ⟨h_42, hP, hD, hS, hl⟩ := hI
              have h_42 := h_42.symm
              subst h_42
              have hP : va_P D vwCl (XW ad cI cJ co fl ra li re wa pi) H := hP
              have hD : va_D A (XW ad cI cJ co fl ra li re wa pi) := hD
              have hl : lv_has ls 11 [(0, .ref (ad 0)), (1, .int p_5.1), (2, .int p_5.2.1), (3, .int p_5.2.2), (4, .int (nI i_5)), (5, .int (rd (gA fl 3) 80 (nI i_5))), (6, .int (rd (gA fl 4) 80 (nI i_5))), (7, .int 1), (8, .int (rd (gA pi 0) 40 (rd (gA fl 4) 80 (nI i_5)))), (9, .int (rd (gA pi 0) 40 (rd (gA fl 3) 80 (nI i_5)))), (10, .int (nI ((bd wa ly i_5))))] := hl
              refine lv_iload hx hb dL_isDrawn_309 (lv_at hl 10 rfl) ?_
              refine lv_aload_n hx hb dL_isDrawn_311 rfl (lv_at hl 0 rfl) ?_
              refine lv_iload hx hb dL_isDrawn_312 (lv_at hl 4 rfl) ?_
              refine kI (rV (q0 := 0) (ci := 7) hx hb hml hown hg hN hK hP hD (a_bends l D cI cJ ad co fl ra li re wa pi (nI i_5) hZ.zf hZ.zp (e_lt hZ hi_5).1 (e_lt hZ hi_5).2) mw_678 mw_679 mw_680 mw_681 mw_77 pdv_X7_bends ⟨Nat.le_of_ble_eq_true rfl, Nat.le_of_ble_eq_true rfl⟩ rfl xo0 rfl hl.1 rfl (Nat.le_of_ble_eq_true rfl) dL_isDrawn_314 ⟨Nat.le_of_ble_eq_true rfl, Nat.le_of_ble_eq_true rfl⟩) hD hS hA (fun r_43 u_43 H locs hp hP hD hS => ?_)
              obtain ⟨er, eu⟩ := hp
              obtain rfl := er.symm
              obtain rfl := eu.symm
              refine lv_icmp_ge (tgt := 354) hx hb dL_isDrawn_317 (by decide) (fun _ => ?_) (fun c_317 => absurd (tst_out (d_bn hZ hi_5 q0).1) c_317)
              refine lv_iload_n hx hb dL_isDrawn_354 rfl (lv_at hl 1 rfl) ?_
              refine lv_aload_n hx hb dL_isDrawn_355 rfl (lv_at hl 0 rfl) ?_
              refine lv_iload hx hb dL_isDrawn_356 (lv_at hl 4 rfl) ?_
              refine kI (rV (q0 := 0) (ci := 7) hx hb hml hown hg hN hK hP hD (a_bends l D cI cJ ad co fl ra li re wa pi (nI i_5) hZ.zf hZ.zp (e_lt hZ hi_5).1 (e_lt hZ hi_5).2) mw_678 mw_679 mw_680 mw_681 mw_77 pdv_X7_bends ⟨Nat.le_of_ble_eq_true rfl, Nat.le_of_ble_eq_true rfl⟩ rfl xo0 rfl hl.1 rfl (Nat.le_of_ble_eq_true rfl) dL_isDrawn_358 ⟨Nat.le_of_ble_eq_true rfl, Nat.le_of_ble_eq_true rfl⟩) hD hS hA (fun r_44 u_44 H locs hp hP hD hS => ?_)
              obtain ⟨er, eu⟩ := hp
              obtain rfl := er.symm
              obtain rfl := eu.symm
              refine lv_isub hx hb dL_isDrawn_361 ?_
              refine lv_istore_n (lv' := [(1, .int (p_5.1 - (bendCount wa pi (nI i_5)))), (0, .ref (ad 0)), (2, .int p_5.2.1), (3, .int p_5.2.2), (4, .int (nI i_5)), (5, .int (rd (gA fl 3) 80 (nI i_5))), (6, .int (rd (gA fl 4) 80 (nI i_5))), (7, .int 1), (8, .int (rd (gA pi 0) 40 (rd (gA fl 4) 80 (nI i_5)))), (9, .int (rd (gA pi 0) 40 (rd (gA fl 3) 80 (nI i_5)))), (10, .int (nI ((bd wa ly i_5))))]) hx hb dL_isDrawn_362 rfl hl (by decide) rfl (fun ls hl => ?_)
              refine lv_iload_n hx hb dL_isDrawn_363 rfl (lv_at hl 2 rfl) ?_
              refine lv_iload hx hb dL_isDrawn_364 (lv_at hl 9 rfl) ?_
              refine lv_iload hx hb dL_isDrawn_366 (lv_at hl 8 rfl) ?_
              refine lv_isub hx hb dL_isDrawn_368 ?_
              refine lv_iadd hx hb dL_isDrawn_369 ?_
              refine lv_istore_n (lv' := [(2, .int (p_5.2.1 + ((rd (gA pi 0) 40 (rd (gA fl 3) 80 (nI i_5))) - (rd (gA pi 0) 40 (rd (gA fl 4) 80 (nI i_5)))))), (1, .int (p_5.1 - (bendCount wa pi (nI i_5)))), (0, .ref (ad 0)), (3, .int p_5.2.2), (4, .int (nI i_5)), (5, .int (rd (gA fl 3) 80 (nI i_5))), (6, .int (rd (gA fl 4) 80 (nI i_5))), (7, .int 1), (8, .int (rd (gA pi 0) 40 (rd (gA fl 4) 80 (nI i_5)))), (9, .int (rd (gA pi 0) 40 (rd (gA fl 3) 80 (nI i_5)))), (10, .int (nI ((bd wa ly i_5))))]) hx hb dL_isDrawn_370 rfl hl (by decide) rfl (fun ls hl => ?_)
              refine lv_iinc (v := (p_5.2.2 + 1)) (lv' := [(3, .int (p_5.2.2 + 1)), (2, .int (p_5.2.1 + ((rd (gA pi 0) 40 (rd (gA fl 3) 80 (nI i_5))) - (rd (gA pi 0) 40 (rd (gA fl 4) 80 (nI i_5)))))), (1, .int (p_5.1 - (bendCount wa pi (nI i_5)))), (0, .ref (ad 0)), (4, .int (nI i_5)), (5, .int (rd (gA fl 3) 80 (nI i_5))), (6, .int (rd (gA fl 4) 80 (nI i_5))), (7, .int 1), (8, .int (rd (gA pi 0) 40 (rd (gA fl 4) 80 (nI i_5)))), (9, .int (rd (gA pi 0) 40 (rd (gA fl 3) 80 (nI i_5)))), (10, .int (nI ((bd wa ly i_5))))]) hx hb dL_isDrawn_371 hl (k := 3) rfl rfl (by decide) rfl (fun ls hl => ?_)
              refine lv_iinc (v := (nI (i_5 + 1))) (lv' := [(4, .int (nI (i_5 + 1))), (3, .int (p_5.2.2 + 1)), (2, .int (p_5.2.1 + ((rd (gA pi 0) 40 (rd (gA fl 3) 80 (nI i_5))) - (rd (gA pi 0) 40 (rd (gA fl 4) 80 (nI i_5)))))), (1, .int (p_5.1 - (bendCount wa pi (nI i_5)))), (0, .ref (ad 0)), (5, .int (rd (gA fl 3) 80 (nI i_5))), (6, .int (rd (gA fl 4) 80 (nI i_5))), (7, .int 1), (8, .int (rd (gA pi 0) 40 (rd (gA fl 4) 80 (nI i_5)))), (9, .int (rd (gA pi 0) 40 (rd (gA fl 3) 80 (nI i_5)))), (10, .int (nI ((bd wa ly i_5))))]) hx hb dL_isDrawn_374 hl (k := 4) rfl (nI_1 i_5) (by decide) rfl (fun ls hl => ?_)
              refine lv_goto (tgt := 130) hx hb dL_isDrawn_377 (by decide) ?_
              exact ih_5 ((p_5.1 - (bendCount wa pi (nI i_5))), (p_5.2.1 + ((rd (gA pi 0) 40 (rd (gA fl 3) 80 (nI i_5))) - (rd (gA pi 0) 40 (rd (gA fl 4) 80 (nI i_5))))), (p_5.2.2 + 1)) H locs ls ⟨((show ((p_5.1 - (bendCount wa pi (nI i_5))), (p_5.2.1 + ((rd (gA pi 0) 40 (rd (gA fl 3) 80 (nI i_5))) - (rd (gA pi 0) 40 (rd (gA fl 4) 80 (nI i_5))))), (p_5.2.2 + 1)) = (drF wa pi) i_5 p_5 from (by simp only [drF, botE, topE, q0, hup, hlo, c_292, gi_sl, gi_sA, gi_sB, gi_si_s, gi_si_n, gl_si, gl_sA, gl_sB, gl_sl_s, gl_sl_n, gA_si, gA_sl, gA_sB, gA_sA_s, gA_sA_n, gB_si, gB_sl, gB_sA, gB_sB_s, gB_sB_n, Nat.reduceBEq, if_true, if_false, eq_self, Bool.false_eq_true, Bool.true_eq_false, not_true_eq_false, not_false_eq_true, decide_true, decide_false, cond_true, cond_false, Bool.true_and, Bool.false_and, Bool.and_true, Bool.and_false, Bool.true_or, Bool.false_or, Bool.or_true, Bool.or_false, b2i_tt, b2i_ff, pr_eta]; done)).trans (lp_go h_5)), hP, hD, hS, lv_sub hl [4, 3, 2, 1, 0] rfl⟩
            · obtain ⟨h_42, hP, hD, hS, hl⟩ := hI
              have hP : va_P D vwCl (XW ad cI cJ co fl ra li re wa pi) H := hP
              have hD : va_D A (XW ad cI cJ co fl ra li re wa pi) := hD
              have hl : lv_has ls 11 [(0, .ref (ad 0)), (1, .int p_5.1), (2, .int p_5.2.1), (3, .int p_5.2.2), (4, .int (nI i_5)), (5, .int (rd (gA fl 3) 80 (nI i_5))), (6, .int (rd (gA fl 4) 80 (nI i_5))), (7, .int 1), (8, .int (rd (gA pi 0) 40 (rd (gA fl 4) 80 (nI i_5)))), (9, .int (rd (gA pi 0) 40 (rd (gA fl 3) 80 (nI i_5)))), (10, .int (nI i_42))] := hl
              refine lv_iload hx hb dL_isDrawn_309 (lv_at hl 10 rfl) ?_
              refine lv_aload_n hx hb dL_isDrawn_311 rfl (lv_at hl 0 rfl) ?_
              refine lv_iload hx hb dL_isDrawn_312 (lv_at hl 4 rfl) ?_
              refine kI (rV (q0 := 0) (ci := 7) hx hb hml hown hg hN hK hP hD (a_bends l D cI cJ ad co fl ra li re wa pi (nI i_5) hZ.zf hZ.zp (e_lt hZ hi_5).1 (e_lt hZ hi_5).2) mw_678 mw_679 mw_680 mw_681 mw_77 pdv_X7_bends ⟨Nat.le_of_ble_eq_true rfl, Nat.le_of_ble_eq_true rfl⟩ rfl xo0 rfl hl.1 rfl (Nat.le_of_ble_eq_true rfl) dL_isDrawn_314 ⟨Nat.le_of_ble_eq_true rfl, Nat.le_of_ble_eq_true rfl⟩) hD hS hA (fun r_45 u_45 H locs hp hP hD hS => ?_)
              obtain ⟨er, eu⟩ := hp
              obtain rfl := er.symm
              obtain rfl := eu.symm
              refine lv_icmp_ge (tgt := 354) hx hb dL_isDrawn_317 (by decide) (fun c_317 => absurd c_317 (tst_in (d_bn hZ hi_5 q0).1 hi_42 (by have := (d_bn hZ hi_5 q0).2; omega))) (fun _ => ?_)
              refine lv_aload_n hx hb dL_isDrawn_320 rfl (lv_at hl 0 rfl) ?_
              refine lv_iload hx hb dL_isDrawn_321 (lv_at hl 8 rfl) ?_
              refine lv_iconst (v := 1) hx hb dL_isDrawn_323 (by decide) ?_
              refine lv_iadd hx hb dL_isDrawn_324 ?_
              refine lv_iload hx hb dL_isDrawn_325 (lv_at hl 10 rfl) ?_
              refine lv_iadd hx hb dL_isDrawn_327 ?_
              refine lv_aload_n hx hb dL_isDrawn_328 rfl (lv_at hl 0 rfl) ?_
              refine lv_iload hx hb dL_isDrawn_329 (lv_at hl 4 rfl) ?_
              refine lv_iload hx hb dL_isDrawn_331 (lv_at hl 10 rfl) ?_
              refine kI (rV (q0 := 0) (ci := 7) hx hb hml hown hg hN hK hP hD (a_bendAt l D cI cJ ad co fl ra li re wa pi (nI i_5) (nI i_42) hZ.zf hZ.zp (e_lt hZ hi_5).1 (e_lt hZ hi_5).2 (nI_pos (by have := (d_bn hZ hi_5 q0).2; omega)) (by rw [(d_bn hZ hi_5 q0).1]; exact nI_lt2 hi_42 (by have := (d_bn hZ hi_5 q0).2; omega))) mw_686 mw_687 mw_688 mw_689 mw_77 pdv_X7_bendAt ⟨Nat.le_of_ble_eq_true rfl, Nat.le_of_ble_eq_true rfl⟩ rfl xo0 rfl hl.1 rfl (Nat.le_of_ble_eq_true rfl) dL_isDrawn_333 ⟨Nat.le_of_ble_eq_true rfl, Nat.le_of_ble_eq_true rfl⟩) hD hS hA (fun r_46 u_46 H locs hp hP hD hS => ?_)
              obtain ⟨er, eu⟩ := hp
              obtain rfl := er.symm
              obtain rfl := eu.symm
              refine kI (rV (q0 := 0) (ci := 7) hx hb hml hown hg hN hK hP hD (a_pointAt l D cI cJ ad co fl ra li re wa pi (((rd (gA pi 0) 40 (rd (gA fl 4) 80 (nI i_5))) + 1) + (nI i_42)) (placeBend pi (nI i_5) (nI i_42)) hZ.zp (d_pt hZ hi_5 hi_42 q0 hup).1.1 (d_pt hZ hi_5 hi_42 q0 hup).1.2 (d_pt hZ hi_5 hi_42 q0 hup).2.1.1 (d_pt hZ hi_5 hi_42 q0 hup).2.1.2) mw_690 mw_691 mw_692 mw_693 mw_77 pdv_X7_pointAt ⟨Nat.le_of_ble_eq_true rfl, Nat.le_of_ble_eq_true rfl⟩ rfl xo0 rfl hl.1 rfl (Nat.le_of_ble_eq_true rfl) dL_isDrawn_336 ⟨Nat.le_of_ble_eq_true rfl, Nat.le_of_ble_eq_true rfl⟩) hD hS hA (fun r_47 u_47 H locs hp hP hD hS => ?_)
              obtain ⟨er, eu⟩ := hp
              obtain rfl := er.symm
              obtain rfl := eu.symm
              refine lv_iconst (v := (-1)) hx hb dL_isDrawn_339 (by decide) ?_
              refine lv_iload hx hb dL_isDrawn_340 (lv_at hl 4 rfl) ?_
              refine lv_isub hx hb dL_isDrawn_342 ?_
              refine lv_icmp_eq (tgt := 348) hx hb dL_isDrawn_343 (by decide) (fun _ => ?_) (fun c_343 => absurd (d_pt hZ hi_5 hi_42 q0 hup).2.2 c_343)
              refine lv_iinc (v := (nI (i_42 + 1))) (lv' := [(10, .int (nI (i_42 + 1))), (0, .ref (ad 0)), (1, .int p_5.1), (2, .int p_5.2.1), (3, .int p_5.2.2), (4, .int (nI i_5)), (5, .int (rd (gA fl 3) 80 (nI i_5))), (6, .int (rd (gA fl 4) 80 (nI i_5))), (7, .int 1), (8, .int (rd (gA pi 0) 40 (rd (gA fl 4) 80 (nI i_5)))), (9, .int (rd (gA pi 0) 40 (rd (gA fl 3) 80 (nI i_5))))]) hx hb dL_isDrawn_348 hl (k := 10) rfl (nI_1 i_42) (by decide) rfl (fun ls hl => ?_)
              refine lv_goto (tgt := 309) hx hb dL_isDrawn_351 (by decide) ?_
              exact ih_42 () H locs ls ⟨rfl, hP, hD, hS, lv_sub hl [1, 2, 3, 4, 5, 6, 7, 8, 9, 10, 0] rfl⟩
        · have q00 := q0
          refine lv_aload_n hx hb dL_isDrawn_139 rfl (lv_at hl 0 rfl) ?_
          refine lv_iload hx hb dL_isDrawn_140 (lv_at hl 4 rfl) ?_
          refine kI (rV (q0 := 0) (ci := 7) hx hb hml hown hg hN hK hP hD (a_edgeFrom l D cI cJ ad co fl ra li re wa pi (nI i_5) hZ.zf (e_lt hZ hi_5).1 (e_lt hZ hi_5).2) mw_613 mw_614 mw_615 mw_616 mw_77 pdv_X7_edgeFrom ⟨Nat.le_of_ble_eq_true rfl, Nat.le_of_ble_eq_true rfl⟩ rfl xo0 rfl hl.1 rfl (Nat.le_of_ble_eq_true rfl) dL_isDrawn_142 ⟨Nat.le_of_ble_eq_true rfl, Nat.le_of_ble_eq_true rfl⟩) hD hS hA (fun r_48 u_48 H locs hp hP hD hS => ?_)
          obtain ⟨er, eu⟩ := hp
          obtain rfl := er.symm
          obtain rfl := eu.symm
          refine lv_istore (lv' := [(5, .int (rd (gA fl 3) 80 (nI i_5))), (0, .ref (ad 0)), (1, .int p_5.1), (2, .int p_5.2.1), (3, .int p_5.2.2), (4, .int (nI i_5))]) hx hb dL_isDrawn_145 hl (by decide) rfl (fun ls hl => ?_)
          refine lv_aload_n hx hb dL_isDrawn_147 rfl (lv_at hl 1 rfl) ?_
          refine lv_iload hx hb dL_isDrawn_148 (lv_at hl 5 rfl) ?_
          refine kI (rV (q0 := 0) (ci := 7) hx hb hml hown hg hN hK hP hD (a_edgeTo l D cI cJ ad co fl ra li re wa pi (nI i_5) hZ.zf (e_lt hZ hi_5).1 (e_lt hZ hi_5).2) mw_617 mw_618 mw_619 mw_620 mw_77 pdv_X7_edgeTo ⟨Nat.le_of_ble_eq_true rfl, Nat.le_of_ble_eq_true rfl⟩ rfl xo0 rfl hl.1 rfl (Nat.le_of_ble_eq_true rfl) dL_isDrawn_150 ⟨Nat.le_of_ble_eq_true rfl, Nat.le_of_ble_eq_true rfl⟩) hD hS hA (fun r_49 u_49 H locs hp hP hD hS => ?_)
          obtain ⟨er, eu⟩ := hp
          obtain rfl := er.symm
          obtain rfl := eu.symm
          refine lv_istore (lv' := [(6, .int (rd (gA fl 4) 80 (nI i_5))), (5, .int (rd (gA fl 3) 80 (nI i_5))), (0, .ref (ad 0)), (1, .int p_5.1), (2, .int p_5.2.1), (3, .int p_5.2.2), (4, .int (nI i_5))]) hx hb dL_isDrawn_153 hl (by decide) rfl (fun ls hl => ?_)
          refine lv_aload_n hx hb dL_isDrawn_155 rfl (lv_at hl 2 rfl) ?_
          refine lv_iload hx hb dL_isDrawn_156 (lv_at hl 1 rfl) ?_
          refine kI (rV (q0 := 0) (ci := 7) hx hb hml hown hg hN hK hP hD (a_isReached l D cI cJ ad co fl ra li re wa pi (rd (gA fl 3) 80 (nI i_5)) hZ.zf (e_from hZ hi_5).1 (e_from hZ hi_5).2) mw_621 mw_622 mw_623 mw_624 mw_77 pdv_X7_isReached ⟨Nat.le_of_ble_eq_true rfl, Nat.le_of_ble_eq_true rfl⟩ rfl xo0 rfl hl.1 rfl (Nat.le_of_ble_eq_true rfl) dL_isDrawn_158 ⟨Nat.le_of_ble_eq_true rfl, Nat.le_of_ble_eq_true rfl⟩) hD hS hA (fun r_50 u_50 H locs hp hP hD hS => ?_)
          obtain ⟨er, eu⟩ := hp
          obtain rfl := er.symm
          obtain rfl := eu.symm
          refine lv_if_eq (tgt := 180) hx hb dL_isDrawn_161 (by decide) (fun c_161 => absurd c_161 (b2i_t q1)) (fun _ => ?_)
          refine lv_iload hx hb dL_isDrawn_164 (lv_at hl 0 rfl) ?_
          refine lv_if_lt (tgt := 180) hx hb dL_isDrawn_166 (by decide) (fun c_166 => absurd c_166 q2) (fun _ => ?_)
          refine lv_iload hx hb dL_isDrawn_169 (lv_at hl 0 rfl) ?_
          refine lv_iload hx hb dL_isDrawn_171 (lv_at hl 1 rfl) ?_
          refine lv_icmp_eq (tgt := 180) hx hb dL_isDrawn_173 (by decide) (fun c_173 => absurd c_173 q3) (fun _ => ?_)
          refine lv_iconst (v := 1) hx hb dL_isDrawn_176 (by decide) ?_
          refine lv_goto (tgt := 181) hx hb dL_isDrawn_177 (by decide) ?_
          refine lv_istore (lv' := [(7, .int 1), (6, .int (rd (gA fl 4) 80 (nI i_5))), (5, .int (rd (gA fl 3) 80 (nI i_5))), (0, .ref (ad 0)), (1, .int p_5.1), (2, .int p_5.2.1), (3, .int p_5.2.2), (4, .int (nI i_5))]) hx hb dL_isDrawn_181 hl (by decide) rfl (fun ls hl => ?_)
          refine lv_iload hx hb dL_isDrawn_183 (lv_at hl 0 rfl) ?_
          refine lv_aload_n hx hb dL_isDrawn_185 rfl (lv_at hl 3 rfl) ?_
          refine lv_iload hx hb dL_isDrawn_186 (lv_at hl 7 rfl) ?_
          refine kI (rV (q0 := 0) (ci := 7) hx hb hml hown hg hN hK hP hD (a_bends l D cI cJ ad co fl ra li re wa pi (nI i_5) hZ.zf hZ.zp (e_lt hZ hi_5).1 (e_lt hZ hi_5).2) mw_678 mw_679 mw_680 mw_681 mw_77 pdv_X7_bends ⟨Nat.le_of_ble_eq_true rfl, Nat.le_of_ble_eq_true rfl⟩ rfl xo0 rfl hl.1 rfl (Nat.le_of_ble_eq_true rfl) dL_isDrawn_188 ⟨Nat.le_of_ble_eq_true rfl, Nat.le_of_ble_eq_true rfl⟩) hD hS hA (fun r_51 u_51 H locs hp hP hD hS => ?_)
          obtain ⟨er, eu⟩ := hp
          obtain rfl := er.symm
          obtain rfl := eu.symm
          refine lv_if_lt (tgt := 198) hx hb dL_isDrawn_191 (by decide) (fun c_191 => absurd c_191 hbn) (fun _ => ?_)
          refine lv_iconst (v := 1) hx hb dL_isDrawn_194 (by decide) ?_
          refine lv_goto (tgt := 199) hx hb dL_isDrawn_195 (by decide) ?_
          refine lv_icmp_ne (tgt := 216) hx hb dL_isDrawn_199 (by decide) (fun c_199 => absurd (by decide) c_199) (fun _ => ?_)
          refine lv_iload hx hb dL_isDrawn_202 (lv_at hl 0 rfl) ?_
          refine lv_if_ne (tgt := 218) hx hb dL_isDrawn_204 (by decide) (fun _ => ?_) (fun c_204 => absurd c_204 (by decide))
          refine lv_iload hx hb dL_isDrawn_218 (lv_at hl 0 rfl) ?_
          refine lv_if_ne (tgt := 226) hx hb dL_isDrawn_220 (by decide) (fun _ => ?_) (fun c_220 => absurd c_220 (by decide))
          refine lv_aload_n hx hb dL_isDrawn_226 rfl (lv_at hl 3 rfl) ?_
          refine lv_aload_n hx hb dL_isDrawn_227 rfl (lv_at hl 3 rfl) ?_
          refine lv_iload hx hb dL_isDrawn_228 (lv_at hl 7 rfl) ?_
          refine kI (rV (q0 := 0) (ci := 7) hx hb hml hown hg hN hK hP hD (a_isTurned l D cI cJ ad co fl ra li re wa pi (nI i_5) hZ.zf hZ.zp (e_lt hZ hi_5).1 (e_lt hZ hi_5).2) mw_682 mw_683 mw_684 mw_685 mw_77 pdv_X7_isTurned ⟨Nat.le_of_ble_eq_true rfl, Nat.le_of_ble_eq_true rfl⟩ rfl xo0 rfl hl.1 rfl (Nat.le_of_ble_eq_true rfl) dL_isDrawn_230 ⟨Nat.le_of_ble_eq_true rfl, Nat.le_of_ble_eq_true rfl⟩) hD hS hA (fun r_52 u_52 H locs hp hP hD hS => ?_)
          obtain ⟨er, eu⟩ := hp
          obtain rfl := er.symm
          obtain rfl := eu.symm
          refine lv_if_eq (tgt := 241) hx hb dL_isDrawn_233 (by decide) (fun _ => ?_) (fun c_233 => absurd (b2i_f nt) c_233)
          refine lv_iload hx hb dL_isDrawn_241 (lv_at hl 2 rfl) ?_
          refine kI (rV (q0 := 0) (ci := 7) hx hb hml hown hg hN hK hP hD (a_layerOf l D cI cJ ad co fl ra li re wa pi (rd (gA fl 3) 80 (nI i_5)) hZ.zf hZ.zp (e_from hZ hi_5).1 (e_from hZ hi_5).2) mw_649 mw_650 mw_651 mw_652 mw_77 pdv_X7_layerOf ⟨Nat.le_of_ble_eq_true rfl, Nat.le_of_ble_eq_true rfl⟩ rfl xo0 rfl hl.1 rfl (Nat.le_of_ble_eq_true rfl) dL_isDrawn_243 ⟨Nat.le_of_ble_eq_true rfl, Nat.le_of_ble_eq_true rfl⟩) hD hS hA (fun r_53 u_53 H locs hp hP hD hS => ?_)
          obtain ⟨er, eu⟩ := hp
          obtain rfl := er.symm
          obtain rfl := eu.symm
          refine lv_istore (lv' := [(8, .int (rd (gA pi 0) 40 (rd (gA fl 3) 80 (nI i_5)))), (7, .int 1), (6, .int (rd (gA fl 4) 80 (nI i_5))), (5, .int (rd (gA fl 3) 80 (nI i_5))), (0, .ref (ad 0)), (1, .int p_5.1), (2, .int p_5.2.1), (3, .int p_5.2.2), (4, .int (nI i_5))]) hx hb dL_isDrawn_246 hl (by decide) rfl (fun ls hl => ?_)
          refine lv_aload_n hx hb dL_isDrawn_248 rfl (lv_at hl 4 rfl) ?_
          refine lv_aload_n hx hb dL_isDrawn_249 rfl (lv_at hl 4 rfl) ?_
          refine lv_iload hx hb dL_isDrawn_250 (lv_at hl 8 rfl) ?_
          refine kI (rV (q0 := 0) (ci := 7) hx hb hml hown hg hN hK hP hD (a_isTurned l D cI cJ ad co fl ra li re wa pi (nI i_5) hZ.zf hZ.zp (e_lt hZ hi_5).1 (e_lt hZ hi_5).2) mw_682 mw_683 mw_684 mw_685 mw_77 pdv_X7_isTurned ⟨Nat.le_of_ble_eq_true rfl, Nat.le_of_ble_eq_true rfl⟩ rfl xo0 rfl hl.1 rfl (Nat.le_of_ble_eq_true rfl) dL_isDrawn_252 ⟨Nat.le_of_ble_eq_true rfl, Nat.le_of_ble_eq_true rfl⟩) hD hS hA (fun r_54 u_54 H locs hp hP hD hS => ?_)
          obtain ⟨er, eu⟩ := hp
          obtain rfl := er.symm
          obtain rfl := eu.symm
          refine lv_if_eq (tgt := 263) hx hb dL_isDrawn_255 (by decide) (fun _ => ?_) (fun c_255 => absurd (b2i_f nt) c_255)
          refine lv_iload hx hb dL_isDrawn_263 (lv_at hl 2 rfl) ?_
          refine kI (rV (q0 := 0) (ci := 7) hx hb hml hown hg hN hK hP hD (a_layerOf l D cI cJ ad co fl ra li re wa pi (rd (gA fl 4) 80 (nI i_5)) hZ.zf hZ.zp q2 (e_to hZ hi_5)) mw_649 mw_650 mw_651 mw_652 mw_77 pdv_X7_layerOf ⟨Nat.le_of_ble_eq_true rfl, Nat.le_of_ble_eq_true rfl⟩ rfl xo0 rfl hl.1 rfl (Nat.le_of_ble_eq_true rfl) dL_isDrawn_265 ⟨Nat.le_of_ble_eq_true rfl, Nat.le_of_ble_eq_true rfl⟩) hD hS hA (fun r_55 u_55 H locs hp hP hD hS => ?_)
          obtain ⟨er, eu⟩ := hp
          obtain rfl := er.symm
          obtain rfl := eu.symm
          refine lv_istore (lv' := [(9, .int (rd (gA pi 0) 40 (rd (gA fl 4) 80 (nI i_5)))), (8, .int (rd (gA pi 0) 40 (rd (gA fl 3) 80 (nI i_5)))), (7, .int 1), (6, .int (rd (gA fl 4) 80 (nI i_5))), (5, .int (rd (gA fl 3) 80 (nI i_5))), (0, .ref (ad 0)), (1, .int p_5.1), (2, .int p_5.2.1), (3, .int p_5.2.2), (4, .int (nI i_5))]) hx hb dL_isDrawn_268 hl (by decide) rfl (fun ls hl => ?_)
          refine lv_aload_n hx hb dL_isDrawn_270 rfl (lv_at hl 5 rfl) ?_
          refine lv_iload hx hb dL_isDrawn_271 (lv_at hl 9 rfl) ?_
          refine kI (rV (q0 := 0) (ci := 7) hx hb hml hown hg hN hK hP hD (a_bends l D cI cJ ad co fl ra li re wa pi (nI i_5) hZ.zf hZ.zp (e_lt hZ hi_5).1 (e_lt hZ hi_5).2) mw_678 mw_679 mw_680 mw_681 mw_77 pdv_X7_bends ⟨Nat.le_of_ble_eq_true rfl, Nat.le_of_ble_eq_true rfl⟩ rfl xo0 rfl hl.1 rfl (Nat.le_of_ble_eq_true rfl) dL_isDrawn_273 ⟨Nat.le_of_ble_eq_true rfl, Nat.le_of_ble_eq_true rfl⟩) hD hS hA (fun r_56 u_56 H locs hp hP hD hS => ?_)
          obtain ⟨er, eu⟩ := hp
          obtain rfl := er.symm
          obtain rfl := eu.symm
          refine lv_iload hx hb dL_isDrawn_276 (lv_at hl 0 rfl) ?_
          refine lv_iload hx hb dL_isDrawn_278 (lv_at hl 1 rfl) ?_
          refine lv_isub hx hb dL_isDrawn_280 ?_
          refine lv_iconst (v := 1) hx hb dL_isDrawn_281 (by decide) ?_
          refine lv_isub hx hb dL_isDrawn_282 ?_
          refine lv_icmp_ne (tgt := 304) hx hb dL_isDrawn_283 (by decide) (fun c_283 => absurd (d_be q0 hup hlo) c_283) (fun _ => ?_)
          refine lv_aload_n hx hb dL_isDrawn_286 rfl (lv_at hl 5 rfl) ?_
          refine lv_iload hx hb dL_isDrawn_287 (lv_at hl 9 rfl) ?_
          refine kI (rV (q0 := 0) (ci := 7) hx hb hml hown hg hN hK hP hD (a_isBack l D cI cJ ad co fl ra li re wa pi (nI i_5) hZ.zf hZ.zr (e_lt hZ hi_5).1 (e_lt hZ hi_5).2) mw_625 mw_626 mw_627 mw_628 mw_77 pdv_X7_isBack ⟨Nat.le_of_ble_eq_true rfl, Nat.le_of_ble_eq_true rfl⟩ rfl xo0 rfl hl.1 rfl (Nat.le_of_ble_eq_true rfl) dL_isDrawn_289 ⟨Nat.le_of_ble_eq_true rfl, Nat.le_of_ble_eq_true rfl⟩) hD hS hA (fun r_57 u_57 H locs hp hP hD hS => ?_)
          obtain ⟨er, eu⟩ := hp
          obtain rfl := er.symm
          obtain rfl := eu.symm
          refine lv_if_eq (tgt := 306) hx hb dL_isDrawn_292 (by decide) (fun _ => ?_) (fun c_292 => absurd (b2i_f hgb) c_292)
          refine lv_iconst (v := 0) hx hb dL_isDrawn_306 (by decide) ?_
          refine lv_istore (lv' := [(10, .int 0), (9, .int (rd (gA pi 0) 40 (rd (gA fl 4) 80 (nI i_5)))), (8, .int (rd (gA pi 0) 40 (rd (gA fl 3) 80 (nI i_5)))), (7, .int 1), (6, .int (rd (gA fl 4) 80 (nI i_5))), (5, .int (rd (gA fl 3) 80 (nI i_5))), (0, .ref (ad 0)), (1, .int p_5.1), (2, .int p_5.2.1), (3, .int p_5.2.2), (4, .int (nI i_5))]) hx hb dL_isDrawn_307 hl (by decide) rfl (fun ls hl => ?_)
          refine w_loop (σ := Unit) (fun (i_58 : Nat) (p_58 : Unit) (H : Heap) (locs : List Loc) (ls : Array Slot) => p_58 = () ∧ va_P D vwCl (XW ad cI cJ co fl ra li re wa pi) H ∧ va_D A (XW ad cI cJ co fl ra li re wa pi) ∧ va_S A s.heap H locs ∧ lv_has ls 11 [(0, .ref (ad 0)), (1, .int p_5.1), (2, .int p_5.2.1), (3, .int p_5.2.2), (4, .int (nI i_5)), (5, .int (rd (gA fl 3) 80 (nI i_5))), (6, .int (rd (gA fl 4) 80 (nI i_5))), (7, .int 1), (8, .int (rd (gA pi 0) 40 (rd (gA fl 3) 80 (nI i_5)))), (9, .int (rd (gA pi 0) 40 (rd (gA fl 4) 80 (nI i_5)))), (10, .int (nI i_58))]) (bd wa ly i_5) (fun p_58 H locs ls hI => ?_) (fun i_58 p_58 H locs ls hi_58 hI ih_58 => ?_) 0 () (Nat.zero_le _) ⟨rfl, hP, hD, hS, (by rw [nI_0]; exact lv_sub hl [6, 7, 8, 9, 10, 5, 4, 3, 2, 1, 0] rfl)⟩
          · obtain ⟨h_58, hP, hD, hS, hl⟩ := hI
            have h_58 := h_58.symm
            subst h_58
            have hP : va_P D vwCl (XW ad cI cJ co fl ra li re wa pi) H := hP
            have hD : va_D A (XW ad cI cJ co fl ra li re wa pi) := hD
            have hl : lv_has ls 11 [(0, .ref (ad 0)), (1, .int p_5.1), (2, .int p_5.2.1), (3, .int p_5.2.2), (4, .int (nI i_5)), (5, .int (rd (gA fl 3) 80 (nI i_5))), (6, .int (rd (gA fl 4) 80 (nI i_5))), (7, .int 1), (8, .int (rd (gA pi 0) 40 (rd (gA fl 3) 80 (nI i_5)))), (9, .int (rd (gA pi 0) 40 (rd (gA fl 4) 80 (nI i_5)))), (10, .int (nI ((bd wa ly i_5))))] := hl
            refine lv_iload hx hb dL_isDrawn_309 (lv_at hl 10 rfl) ?_
            refine lv_aload_n hx hb dL_isDrawn_311 rfl (lv_at hl 0 rfl) ?_
            refine lv_iload hx hb dL_isDrawn_312 (lv_at hl 4 rfl) ?_
            refine kI (rV (q0 := 0) (ci := 7) hx hb hml hown hg hN hK hP hD (a_bends l D cI cJ ad co fl ra li re wa pi (nI i_5) hZ.zf hZ.zp (e_lt hZ hi_5).1 (e_lt hZ hi_5).2) mw_678 mw_679 mw_680 mw_681 mw_77 pdv_X7_bends ⟨Nat.le_of_ble_eq_true rfl, Nat.le_of_ble_eq_true rfl⟩ rfl xo0 rfl hl.1 rfl (Nat.le_of_ble_eq_true rfl) dL_isDrawn_314 ⟨Nat.le_of_ble_eq_true rfl, Nat.le_of_ble_eq_true rfl⟩) hD hS hA (fun r_59 u_59 H locs hp hP hD hS => ?_)
            obtain ⟨er, eu⟩ := hp
            obtain rfl := er.symm
            obtain rfl := eu.symm
            refine lv_icmp_ge (tgt := 354) hx hb dL_isDrawn_317 (by decide) (fun _ => ?_) (fun c_317 => absurd (tst_out (d_bn hZ hi_5 q0).1) c_317)
            refine lv_iload_n hx hb dL_isDrawn_354 rfl (lv_at hl 1 rfl) ?_
            refine lv_aload_n hx hb dL_isDrawn_355 rfl (lv_at hl 0 rfl) ?_
            refine lv_iload hx hb dL_isDrawn_356 (lv_at hl 4 rfl) ?_
            refine kI (rV (q0 := 0) (ci := 7) hx hb hml hown hg hN hK hP hD (a_bends l D cI cJ ad co fl ra li re wa pi (nI i_5) hZ.zf hZ.zp (e_lt hZ hi_5).1 (e_lt hZ hi_5).2) mw_678 mw_679 mw_680 mw_681 mw_77 pdv_X7_bends ⟨Nat.le_of_ble_eq_true rfl, Nat.le_of_ble_eq_true rfl⟩ rfl xo0 rfl hl.1 rfl (Nat.le_of_ble_eq_true rfl) dL_isDrawn_358 ⟨Nat.le_of_ble_eq_true rfl, Nat.le_of_ble_eq_true rfl⟩) hD hS hA (fun r_60 u_60 H locs hp hP hD hS => ?_)
            obtain ⟨er, eu⟩ := hp
            obtain rfl := er.symm
            obtain rfl := eu.symm
            refine lv_isub hx hb dL_isDrawn_361 ?_
            refine lv_istore_n (lv' := [(1, .int (p_5.1 - (bendCount wa pi (nI i_5)))), (0, .ref (ad 0)), (2, .int p_5.2.1), (3, .int p_5.2.2), (4, .int (nI i_5)), (5, .int (rd (gA fl 3) 80 (nI i_5))), (6, .int (rd (gA fl 4) 80 (nI i_5))), (7, .int 1), (8, .int (rd (gA pi 0) 40 (rd (gA fl 3) 80 (nI i_5)))), (9, .int (rd (gA pi 0) 40 (rd (gA fl 4) 80 (nI i_5)))), (10, .int (nI ((bd wa ly i_5))))]) hx hb dL_isDrawn_362 rfl hl (by decide) rfl (fun ls hl => ?_)
            refine lv_iload_n hx hb dL_isDrawn_363 rfl (lv_at hl 2 rfl) ?_
            refine lv_iload hx hb dL_isDrawn_364 (lv_at hl 9 rfl) ?_
            refine lv_iload hx hb dL_isDrawn_366 (lv_at hl 8 rfl) ?_
            refine lv_isub hx hb dL_isDrawn_368 ?_
            refine lv_iadd hx hb dL_isDrawn_369 ?_
            refine lv_istore_n (lv' := [(2, .int (p_5.2.1 + ((rd (gA pi 0) 40 (rd (gA fl 4) 80 (nI i_5))) - (rd (gA pi 0) 40 (rd (gA fl 3) 80 (nI i_5)))))), (1, .int (p_5.1 - (bendCount wa pi (nI i_5)))), (0, .ref (ad 0)), (3, .int p_5.2.2), (4, .int (nI i_5)), (5, .int (rd (gA fl 3) 80 (nI i_5))), (6, .int (rd (gA fl 4) 80 (nI i_5))), (7, .int 1), (8, .int (rd (gA pi 0) 40 (rd (gA fl 3) 80 (nI i_5)))), (9, .int (rd (gA pi 0) 40 (rd (gA fl 4) 80 (nI i_5)))), (10, .int (nI ((bd wa ly i_5))))]) hx hb dL_isDrawn_370 rfl hl (by decide) rfl (fun ls hl => ?_)
            refine lv_iinc (v := (p_5.2.2 + 1)) (lv' := [(3, .int (p_5.2.2 + 1)), (2, .int (p_5.2.1 + ((rd (gA pi 0) 40 (rd (gA fl 4) 80 (nI i_5))) - (rd (gA pi 0) 40 (rd (gA fl 3) 80 (nI i_5)))))), (1, .int (p_5.1 - (bendCount wa pi (nI i_5)))), (0, .ref (ad 0)), (4, .int (nI i_5)), (5, .int (rd (gA fl 3) 80 (nI i_5))), (6, .int (rd (gA fl 4) 80 (nI i_5))), (7, .int 1), (8, .int (rd (gA pi 0) 40 (rd (gA fl 3) 80 (nI i_5)))), (9, .int (rd (gA pi 0) 40 (rd (gA fl 4) 80 (nI i_5)))), (10, .int (nI ((bd wa ly i_5))))]) hx hb dL_isDrawn_371 hl (k := 3) rfl rfl (by decide) rfl (fun ls hl => ?_)
            refine lv_iinc (v := (nI (i_5 + 1))) (lv' := [(4, .int (nI (i_5 + 1))), (3, .int (p_5.2.2 + 1)), (2, .int (p_5.2.1 + ((rd (gA pi 0) 40 (rd (gA fl 4) 80 (nI i_5))) - (rd (gA pi 0) 40 (rd (gA fl 3) 80 (nI i_5)))))), (1, .int (p_5.1 - (bendCount wa pi (nI i_5)))), (0, .ref (ad 0)), (5, .int (rd (gA fl 3) 80 (nI i_5))), (6, .int (rd (gA fl 4) 80 (nI i_5))), (7, .int 1), (8, .int (rd (gA pi 0) 40 (rd (gA fl 3) 80 (nI i_5)))), (9, .int (rd (gA pi 0) 40 (rd (gA fl 4) 80 (nI i_5)))), (10, .int (nI ((bd wa ly i_5))))]) hx hb dL_isDrawn_374 hl (k := 4) rfl (nI_1 i_5) (by decide) rfl (fun ls hl => ?_)
            refine lv_goto (tgt := 130) hx hb dL_isDrawn_377 (by decide) ?_
            exact ih_5 ((p_5.1 - (bendCount wa pi (nI i_5))), (p_5.2.1 + ((rd (gA pi 0) 40 (rd (gA fl 4) 80 (nI i_5))) - (rd (gA pi 0) 40 (rd (gA fl 3) 80 (nI i_5))))), (p_5.2.2 + 1)) H locs ls ⟨((show ((p_5.1 - (bendCount wa pi (nI i_5))), (p_5.2.1 + ((rd (gA pi 0) 40 (rd (gA fl 4) 80 (nI i_5))) - (rd (gA pi 0) 40 (rd (gA fl 3) 80 (nI i_5))))), (p_5.2.2 + 1)) = (drF wa pi) i_5 p_5 from (by simp only [drF, botE, topE, q0, hup, hlo, gi_sl, gi_sA, gi_sB, gi_si_s, gi_si_n, gl_si, gl_sA, gl_sB, gl_sl_s, gl_sl_n, gA_si, gA_sl, gA_sB, gA_sA_s, gA_sA_n, gB_si, gB_sl, gB_sA, gB_sB_s, gB_sB_n, Nat.reduceBEq, if_true, if_false, eq_self, Bool.false_eq_true, Bool.true_eq_false, not_true_eq_false, not_false_eq_true, decide_true, decide_false, cond_true, cond_false, Bool.true_and, Bool.false_and, Bool.and_true, Bool.and_false, Bool.true_or, Bool.false_or, Bool.or_true, Bool.or_false, b2i_tt, b2i_ff, pr_eta]; done)).trans (lp_go h_5)), hP, hD, hS, lv_sub hl [4, 3, 2, 1, 0] rfl⟩
          · obtain ⟨h_58, hP, hD, hS, hl⟩ := hI
            have hP : va_P D vwCl (XW ad cI cJ co fl ra li re wa pi) H := hP
            have hD : va_D A (XW ad cI cJ co fl ra li re wa pi) := hD
            have hl : lv_has ls 11 [(0, .ref (ad 0)), (1, .int p_5.1), (2, .int p_5.2.1), (3, .int p_5.2.2), (4, .int (nI i_5)), (5, .int (rd (gA fl 3) 80 (nI i_5))), (6, .int (rd (gA fl 4) 80 (nI i_5))), (7, .int 1), (8, .int (rd (gA pi 0) 40 (rd (gA fl 3) 80 (nI i_5)))), (9, .int (rd (gA pi 0) 40 (rd (gA fl 4) 80 (nI i_5)))), (10, .int (nI i_58))] := hl
            refine lv_iload hx hb dL_isDrawn_309 (lv_at hl 10 rfl) ?_
            refine lv_aload_n hx hb dL_isDrawn_311 rfl (lv_at hl 0 rfl) ?_
            refine lv_iload hx hb dL_isDrawn_312 (lv_at hl 4 rfl) ?_
            refine kI (rV (q0 := 0) (ci := 7) hx hb hml hown hg hN hK hP hD (a_bends l D cI cJ ad co fl ra li re wa pi (nI i_5) hZ.zf hZ.zp (e_lt hZ hi_5).1 (e_lt hZ hi_5).2) mw_678 mw_679 mw_680 mw_681 mw_77 pdv_X7_bends ⟨Nat.le_of_ble_eq_true rfl, Nat.le_of_ble_eq_true rfl⟩ rfl xo0 rfl hl.1 rfl (Nat.le_of_ble_eq_true rfl) dL_isDrawn_314 ⟨Nat.le_of_ble_eq_true rfl, Nat.le_of_ble_eq_true rfl⟩) hD hS hA (fun r_61 u_61 H locs hp hP hD hS => ?_)
            obtain ⟨er, eu⟩ := hp
            obtain rfl := er.symm
            obtain rfl := eu.symm
            refine lv_icmp_ge (tgt := 354) hx hb dL_isDrawn_317 (by decide) (fun c_317 => absurd c_317 (tst_in (d_bn hZ hi_5 q0).1 hi_58 (by have := (d_bn hZ hi_5 q0).2; omega))) (fun _ => ?_)
            refine lv_aload_n hx hb dL_isDrawn_320 rfl (lv_at hl 0 rfl) ?_
            refine lv_iload hx hb dL_isDrawn_321 (lv_at hl 8 rfl) ?_
            refine lv_iconst (v := 1) hx hb dL_isDrawn_323 (by decide) ?_
            refine lv_iadd hx hb dL_isDrawn_324 ?_
            refine lv_iload hx hb dL_isDrawn_325 (lv_at hl 10 rfl) ?_
            refine lv_iadd hx hb dL_isDrawn_327 ?_
            refine lv_aload_n hx hb dL_isDrawn_328 rfl (lv_at hl 0 rfl) ?_
            refine lv_iload hx hb dL_isDrawn_329 (lv_at hl 4 rfl) ?_
            refine lv_iload hx hb dL_isDrawn_331 (lv_at hl 10 rfl) ?_
            refine kI (rV (q0 := 0) (ci := 7) hx hb hml hown hg hN hK hP hD (a_bendAt l D cI cJ ad co fl ra li re wa pi (nI i_5) (nI i_58) hZ.zf hZ.zp (e_lt hZ hi_5).1 (e_lt hZ hi_5).2 (nI_pos (by have := (d_bn hZ hi_5 q0).2; omega)) (by rw [(d_bn hZ hi_5 q0).1]; exact nI_lt2 hi_58 (by have := (d_bn hZ hi_5 q0).2; omega))) mw_686 mw_687 mw_688 mw_689 mw_77 pdv_X7_bendAt ⟨Nat.le_of_ble_eq_true rfl, Nat.le_of_ble_eq_true rfl⟩ rfl xo0 rfl hl.1 rfl (Nat.le_of_ble_eq_true rfl) dL_isDrawn_333 ⟨Nat.le_of_ble_eq_true rfl, Nat.le_of_ble_eq_true rfl⟩) hD hS hA (fun r_62 u_62 H locs hp hP hD hS => ?_)
            obtain ⟨er, eu⟩ := hp
            obtain rfl := er.symm
            obtain rfl := eu.symm
            refine kI (rV (q0 := 0) (ci := 7) hx hb hml hown hg hN hK hP hD (a_pointAt l D cI cJ ad co fl ra li re wa pi (((rd (gA pi 0) 40 (rd (gA fl 3) 80 (nI i_5))) + 1) + (nI i_58)) (placeBend pi (nI i_5) (nI i_58)) hZ.zp (d_pt hZ hi_5 hi_58 q0 hup).1.1 (d_pt hZ hi_5 hi_58 q0 hup).1.2 (d_pt hZ hi_5 hi_58 q0 hup).2.1.1 (d_pt hZ hi_5 hi_58 q0 hup).2.1.2) mw_690 mw_691 mw_692 mw_693 mw_77 pdv_X7_pointAt ⟨Nat.le_of_ble_eq_true rfl, Nat.le_of_ble_eq_true rfl⟩ rfl xo0 rfl hl.1 rfl (Nat.le_of_ble_eq_true rfl) dL_isDrawn_336 ⟨Nat.le_of_ble_eq_true rfl, Nat.le_of_ble_eq_true rfl⟩) hD hS hA (fun r_63 u_63 H locs hp hP hD hS => ?_)
            obtain ⟨er, eu⟩ := hp
            obtain rfl := er.symm
            obtain rfl := eu.symm
            refine lv_iconst (v := (-1)) hx hb dL_isDrawn_339 (by decide) ?_
            refine lv_iload hx hb dL_isDrawn_340 (lv_at hl 4 rfl) ?_
            refine lv_isub hx hb dL_isDrawn_342 ?_
            refine lv_icmp_eq (tgt := 348) hx hb dL_isDrawn_343 (by decide) (fun _ => ?_) (fun c_343 => absurd (d_pt hZ hi_5 hi_58 q0 hup).2.2 c_343)
            refine lv_iinc (v := (nI (i_58 + 1))) (lv' := [(10, .int (nI (i_58 + 1))), (0, .ref (ad 0)), (1, .int p_5.1), (2, .int p_5.2.1), (3, .int p_5.2.2), (4, .int (nI i_5)), (5, .int (rd (gA fl 3) 80 (nI i_5))), (6, .int (rd (gA fl 4) 80 (nI i_5))), (7, .int 1), (8, .int (rd (gA pi 0) 40 (rd (gA fl 3) 80 (nI i_5)))), (9, .int (rd (gA pi 0) 40 (rd (gA fl 4) 80 (nI i_5))))]) hx hb dL_isDrawn_348 hl (k := 10) rfl (nI_1 i_58) (by decide) rfl (fun ls hl => ?_)
            refine lv_goto (tgt := 309) hx hb dL_isDrawn_351 (by decide) ?_
            exact ih_58 () H locs ls ⟨rfl, hP, hD, hS, lv_sub hl [1, 2, 3, 4, 5, 6, 7, 8, 9, 10, 0] rfl⟩
    · obtain ⟨h_3, hP, hD, hS, hl⟩ := hI
      have hP : va_P D vwCl (XW ad cI cJ co fl ra li re wa pi) H := hP
      have hD : va_D A (XW ad cI cJ co fl ra li re wa pi) := hD
      have hl : lv_has ls 11 [(0, .ref (ad 0)), (1, .int p_3), (2, .int 0), (3, .int 0), (4, .int (nI i_3))] := hl
      refine lv_iload hx hb dL_isDrawn_95 (lv_at hl 4 rfl) ?_
      refine lv_aload_n hx hb dL_isDrawn_97 rfl (lv_at hl 0 rfl) ?_
      refine kI (rV (q0 := 0) (ci := 7) hx hb hml hown hg hN hK hP hD (a_blocks l D cI cJ ad co fl ra li re wa pi hZ.zf) mw_585 mw_586 mw_587 mw_588 mw_77 pdv_X7_blocks ⟨Nat.le_of_ble_eq_true rfl, Nat.le_of_ble_eq_true rfl⟩ rfl xo0 rfl hl.1 rfl (Nat.le_of_ble_eq_true rfl) dL_isDrawn_98 ⟨Nat.le_of_ble_eq_true rfl, Nat.le_of_ble_eq_true rfl⟩) hD hS hA (fun r_64 u_64 H locs hp hP hD hS => ?_)
      obtain ⟨er, eu⟩ := hp
      obtain rfl := er.symm
      obtain rfl := eu.symm
      refine lv_icmp_ge (tgt := 127) hx hb dL_isDrawn_101 (by decide) (fun c_101 => absurd c_101 (tst_in hZ.F.bc hi_3 (by have := hZ.F.c19; omega))) (fun _ => ?_)
      refine lv_iload_n hx hb dL_isDrawn_104 rfl (lv_at hl 1 rfl) ?_
      refine lv_aload_n hx hb dL_isDrawn_105 rfl (lv_at hl 0 rfl) ?_
      refine lv_iload hx hb dL_isDrawn_106 (lv_at hl 4 rfl) ?_
      refine kI (rV (q0 := 0) (ci := 7) hx hb hml hown hg hN hK hP hD (a_isReached l D cI cJ ad co fl ra li re wa pi (nI i_3) hZ.zf (l2_lt hZ hi_3).1 (l2_lt hZ hi_3).2) mw_621 mw_622 mw_623 mw_624 mw_77 pdv_X7_isReached ⟨Nat.le_of_ble_eq_true rfl, Nat.le_of_ble_eq_true rfl⟩ rfl xo0 rfl hl.1 rfl (Nat.le_of_ble_eq_true rfl) dL_isDrawn_108 ⟨Nat.le_of_ble_eq_true rfl, Nat.le_of_ble_eq_true rfl⟩) hD hS hA (fun r_65 u_65 H locs hp hP hD hS => ?_)
      obtain ⟨er, eu⟩ := hp
      obtain rfl := er.symm
      obtain rfl := eu.symm
      refine lv_if_eq (tgt := 118) hx hb dL_isDrawn_111 (by decide) (fun c_111 => ?_) (fun c_111 => ?_)
      · have c_111 : ¬ (hs (gl fl 0) (nI i_3)) = true := b2i_0 c_111
        refine lv_iconst (v := 0) hx hb dL_isDrawn_118 (by decide) ?_
        refine lv_isub hx hb dL_isDrawn_119 ?_
        refine lv_istore_n (lv' := [(1, .int (p_3 - 0)), (0, .ref (ad 0)), (2, .int 0), (3, .int 0), (4, .int (nI i_3))]) hx hb dL_isDrawn_120 rfl hl (by decide) rfl (fun ls hl => ?_)
        refine lv_iinc (v := (nI (i_3 + 1))) (lv' := [(4, .int (nI (i_3 + 1))), (1, .int (p_3 - 0)), (0, .ref (ad 0)), (2, .int 0), (3, .int 0)]) hx hb dL_isDrawn_121 hl (k := 4) rfl (nI_1 i_3) (by decide) rfl (fun ls hl => ?_)
        refine lv_goto (tgt := 95) hx hb dL_isDrawn_124 (by decide) ?_
        exact ih_3 (p_3 - 0) H locs ls ⟨((show (p_3 - 0) = (ptR fl) i_3 p_3 from (by simp only [ptR, Int32.sub_zero, bf_of c_111, gi_sl, gi_sA, gi_sB, gi_si_s, gi_si_n, gl_si, gl_sA, gl_sB, gl_sl_s, gl_sl_n, gA_si, gA_sl, gA_sB, gA_sA_s, gA_sA_n, gB_si, gB_sl, gB_sA, gB_sB_s, gB_sB_n, Nat.reduceBEq, if_true, if_false, eq_self, Bool.false_eq_true, Bool.true_eq_false, not_true_eq_false, not_false_eq_true, decide_true, decide_false, cond_true, cond_false, Bool.true_and, Bool.false_and, Bool.and_true, Bool.and_false, Bool.true_or, Bool.false_or, Bool.or_true, Bool.or_false, b2i_tt, b2i_ff, pr_eta]; done)).trans (lp_go h_3)), hP, hD, hS, lv_sub hl [2, 1, 3, 4, 0] rfl⟩
      · have c_111 : (hs (gl fl 0) (nI i_3)) = true := b2i_1 c_111
        refine lv_iconst (v := 1) hx hb dL_isDrawn_114 (by decide) ?_
        refine lv_goto (tgt := 119) hx hb dL_isDrawn_115 (by decide) ?_
        refine lv_isub hx hb dL_isDrawn_119 ?_
        refine lv_istore_n (lv' := [(1, .int (p_3 - 1)), (0, .ref (ad 0)), (2, .int 0), (3, .int 0), (4, .int (nI i_3))]) hx hb dL_isDrawn_120 rfl hl (by decide) rfl (fun ls hl => ?_)
        refine lv_iinc (v := (nI (i_3 + 1))) (lv' := [(4, .int (nI (i_3 + 1))), (1, .int (p_3 - 1)), (0, .ref (ad 0)), (2, .int 0), (3, .int 0)]) hx hb dL_isDrawn_121 hl (k := 4) rfl (nI_1 i_3) (by decide) rfl (fun ls hl => ?_)
        refine lv_goto (tgt := 95) hx hb dL_isDrawn_124 (by decide) ?_
        exact ih_3 (p_3 - 1) H locs ls ⟨((show (p_3 - 1) = (ptR fl) i_3 p_3 from (by simp only [ptR, Int32.sub_zero, c_111, gi_sl, gi_sA, gi_sB, gi_si_s, gi_si_n, gl_si, gl_sA, gl_sB, gl_sl_s, gl_sl_n, gA_si, gA_sl, gA_sB, gA_sA_s, gA_sA_n, gB_si, gB_sl, gB_sA, gB_sB_s, gB_sB_n, Nat.reduceBEq, if_true, if_false, eq_self, Bool.false_eq_true, Bool.true_eq_false, not_true_eq_false, not_false_eq_true, decide_true, decide_false, cond_true, cond_false, Bool.true_and, Bool.false_and, Bool.and_true, Bool.and_false, Bool.true_or, Bool.false_or, Bool.or_true, Bool.or_false, b2i_tt, b2i_ff, pr_eta]; done)).trans (lp_go h_3)), hP, hD, hS, lv_sub hl [2, 1, 3, 4, 0] rfl⟩
  · obtain ⟨h_1, hP, hD, hS, hl⟩ := hI
    have hP : va_P D vwCl (XW ad cI cJ co fl ra li re wa pi) H := hP
    have hD : va_D A (XW ad cI cJ co fl ra li re wa pi) := hD
    have hl : lv_has ls 11 [(0, .ref (ad 0)), (1, .int p_1), (2, .int (nI i_1))] := hl
    refine lv_iload_n hx hb dL_isDrawn_4 rfl (lv_at hl 2 rfl) ?_
    refine lv_aload_n hx hb dL_isDrawn_5 rfl (lv_at hl 0 rfl) ?_
    refine kI (rV (q0 := 0) (ci := 7) hx hb hml hown hg hN hK hP hD (a_layers l D cI cJ ad co fl ra li re wa pi hZ.zp) mw_670 mw_671 mw_672 mw_673 mw_77 pdv_X7_layers ⟨Nat.le_of_ble_eq_true rfl, Nat.le_of_ble_eq_true rfl⟩ rfl xo0 rfl hl.1 rfl (Nat.le_of_ble_eq_true rfl) dL_isDrawn_6 ⟨Nat.le_of_ble_eq_true rfl, Nat.le_of_ble_eq_true rfl⟩) hD hS hA (fun r_66 u_66 H locs hp hP hD hS => ?_)
    obtain ⟨er, eu⟩ := hp
    obtain rfl := er.symm
    obtain rfl := eu.symm
    refine lv_icmp_ge (tgt := 88) hx hb dL_isDrawn_9 (by decide) (fun c_9 => absurd c_9 (tst_in hZ.lc hi_1 (by have := hZ.L9; omega))) (fun _ => ?_)
    refine lv_iconst (v := 0) hx hb dL_isDrawn_12 (by decide) ?_
    refine lv_istore_n (lv' := [(3, .int 0), (0, .ref (ad 0)), (1, .int p_1), (2, .int (nI i_1))]) hx hb dL_isDrawn_13 rfl hl (by decide) rfl (fun ls hl => ?_)
    refine w_loop (σ := Int32) (fun (i_67 : Nat) (p_67 : Int32) (H : Heap) (locs : List Loc) (ls : Array Slot) => p_67 = (lp ptI i_67 p_1) ∧ va_P D vwCl (XW ad cI cJ co fl ra li re wa pi) H ∧ va_D A (XW ad cI cJ co fl ra li re wa pi) ∧ va_S A s.heap H locs ∧ lv_has ls 11 [(0, .ref (ad 0)), (1, .int p_67), (2, .int (nI i_1)), (3, .int (nI i_67))]) (zL E cc wa ly ca i_1) (fun p_67 H locs ls hI => ?_) (fun i_67 p_67 H locs ls hi_67 hI ih_67 => ?_) 0 p_1 (Nat.zero_le _) ⟨(lp_0 _ _), hP, hD, hS, (by rw [nI_0]; exact lv_sub hl [1, 2, 3, 0] rfl)⟩
    · obtain ⟨h_67, hP, hD, hS, hl⟩ := hI
      have h_67 := h_67.symm
      subst h_67
      have hP : va_P D vwCl (XW ad cI cJ co fl ra li re wa pi) H := hP
      have hD : va_D A (XW ad cI cJ co fl ra li re wa pi) := hD
      have hl : lv_has ls 11 [(0, .ref (ad 0)), (1, .int ((lp ptI (zL E cc wa ly ca i_1) p_1))), (2, .int (nI i_1)), (3, .int (nI ((zL E cc wa ly ca i_1))))] := hl
      refine lv_iload_n hx hb dL_isDrawn_14 rfl (lv_at hl 3 rfl) ?_
      refine lv_aload_n hx hb dL_isDrawn_15 rfl (lv_at hl 0 rfl) ?_
      refine lv_iload_n hx hb dL_isDrawn_16 rfl (lv_at hl 2 rfl) ?_
      refine kI (rV (q0 := 0) (ci := 7) hx hb hml hown hg hN hK hP hD (a_points l D cI cJ ad co fl ra li re wa pi (nI i_1) hZ.zp (y_l hZ hi_1).1 (y_l hZ hi_1).2) mw_694 mw_695 mw_696 mw_697 mw_77 pdv_X7_points ⟨Nat.le_of_ble_eq_true rfl, Nat.le_of_ble_eq_true rfl⟩ rfl xo0 rfl hl.1 rfl (Nat.le_of_ble_eq_true rfl) dL_isDrawn_17 ⟨Nat.le_of_ble_eq_true rfl, Nat.le_of_ble_eq_true rfl⟩) hD hS hA (fun r_68 u_68 H locs hp hP hD hS => ?_)
      obtain ⟨er, eu⟩ := hp
      obtain rfl := er.symm
      obtain rfl := eu.symm
      refine lv_icmp_ge (tgt := 82) hx hb dL_isDrawn_20 (by decide) (fun _ => ?_) (fun c_20 => absurd (tst_out (y_z hZ hi_1).1) c_20)
      refine lv_iinc (v := (nI (i_1 + 1))) (lv' := [(2, .int (nI (i_1 + 1))), (0, .ref (ad 0)), (1, .int ((lp ptI (zL E cc wa ly ca i_1) p_1))), (3, .int (nI ((zL E cc wa ly ca i_1))))]) hx hb dL_isDrawn_82 hl (k := 2) rfl (nI_1 i_1) (by decide) rfl (fun ls hl => ?_)
      refine lv_goto (tgt := 4) hx hb dL_isDrawn_85 (by decide) ?_
      exact ih_1 ((lp ptI (zL E cc wa ly ca i_1) p_1)) H locs ls ⟨((show ((lp ptI (zL E cc wa ly ca i_1) p_1)) = (ptO E cc wa ly ca) i_1 p_1 from (by first | with_reducible rfl | (simp only [ptO, gi_sl, gi_sA, gi_sB, gi_si_s, gi_si_n, gl_si, gl_sA, gl_sB, gl_sl_s, gl_sl_n, gA_si, gA_sl, gA_sB, gA_sA_s, gA_sA_n, gB_si, gB_sl, gB_sA, gB_sB_s, gB_sB_n, Nat.reduceBEq, if_true, if_false, eq_self, Bool.false_eq_true, Bool.true_eq_false, not_true_eq_false, not_false_eq_true, decide_true, decide_false, cond_true, cond_false, Bool.true_and, Bool.false_and, Bool.and_true, Bool.and_false, Bool.true_or, Bool.false_or, Bool.or_true, Bool.or_false, b2i_tt, b2i_ff, pr_eta]; done))).trans (lp_go h_1)), hP, hD, hS, lv_sub hl [1, 2, 0] rfl⟩
    · obtain ⟨h_67, hP, hD, hS, hl⟩ := hI
      have hP : va_P D vwCl (XW ad cI cJ co fl ra li re wa pi) H := hP
      have hD : va_D A (XW ad cI cJ co fl ra li re wa pi) := hD
      have hl : lv_has ls 11 [(0, .ref (ad 0)), (1, .int p_67), (2, .int (nI i_1)), (3, .int (nI i_67))] := hl
      refine lv_iload_n hx hb dL_isDrawn_14 rfl (lv_at hl 3 rfl) ?_
      refine lv_aload_n hx hb dL_isDrawn_15 rfl (lv_at hl 0 rfl) ?_
      refine lv_iload_n hx hb dL_isDrawn_16 rfl (lv_at hl 2 rfl) ?_
      refine kI (rV (q0 := 0) (ci := 7) hx hb hml hown hg hN hK hP hD (a_points l D cI cJ ad co fl ra li re wa pi (nI i_1) hZ.zp (y_l hZ hi_1).1 (y_l hZ hi_1).2) mw_694 mw_695 mw_696 mw_697 mw_77 pdv_X7_points ⟨Nat.le_of_ble_eq_true rfl, Nat.le_of_ble_eq_true rfl⟩ rfl xo0 rfl hl.1 rfl (Nat.le_of_ble_eq_true rfl) dL_isDrawn_17 ⟨Nat.le_of_ble_eq_true rfl, Nat.le_of_ble_eq_true rfl⟩) hD hS hA (fun r_69 u_69 H locs hp hP hD hS => ?_)
      obtain ⟨er, eu⟩ := hp
      obtain rfl := er.symm
      obtain rfl := eu.symm
      refine lv_icmp_ge (tgt := 82) hx hb dL_isDrawn_20 (by decide) (fun c_20 => absurd c_20 (tst_in (y_z hZ hi_1).1 hi_67 (by have := (y_z hZ hi_1).2.1; omega))) (fun _ => ?_)
      refine lv_aload_n hx hb dL_isDrawn_23 rfl (lv_at hl 0 rfl) ?_
      refine lv_iload_n hx hb dL_isDrawn_24 rfl (lv_at hl 2 rfl) ?_
      refine lv_iload_n hx hb dL_isDrawn_25 rfl (lv_at hl 3 rfl) ?_
      refine kI (rV (q0 := 0) (ci := 7) hx hb hml hown hg hN hK hP hD (a_pointAt l D cI cJ ad co fl ra li re wa pi (nI i_1) (nI i_67) hZ.zp (y_l hZ hi_1).1 (y_l hZ hi_1).2 (y_k hZ hi_1 hi_67).1 (y_k hZ hi_1 hi_67).2) mw_690 mw_691 mw_692 mw_693 mw_77 pdv_X7_pointAt ⟨Nat.le_of_ble_eq_true rfl, Nat.le_of_ble_eq_true rfl⟩ rfl xo0 rfl hl.1 rfl (Nat.le_of_ble_eq_true rfl) dL_isDrawn_26 ⟨Nat.le_of_ble_eq_true rfl, Nat.le_of_ble_eq_true rfl⟩) hD hS hA (fun r_70 u_70 H locs hp hP hD hS => ?_)
      obtain ⟨er, eu⟩ := hp
      obtain rfl := er.symm
      obtain rfl := eu.symm
      refine lv_istore (lv' := [(4, .int (shownAt pi (nI i_1) (nI i_67))), (0, .ref (ad 0)), (1, .int p_67), (2, .int (nI i_1)), (3, .int (nI i_67))]) hx hb dL_isDrawn_29 hl (by decide) rfl (fun ls hl => ?_)
      refine lv_iload hx hb dL_isDrawn_31 (lv_at hl 0 rfl) ?_
      refine lv_if_lt (tgt := 59) hx hb dL_isDrawn_33 (by decide) (fun c_33 => ?_) (fun c_33 => ?_)
      · refine lv_aload_n hx hb dL_isDrawn_59 rfl (lv_at hl 1 rfl) ?_
        refine lv_iconst (v := (-1)) hx hb dL_isDrawn_60 (by decide) ?_
        refine lv_iload hx hb dL_isDrawn_61 (lv_at hl 0 rfl) ?_
        refine lv_isub hx hb dL_isDrawn_63 ?_
        refine kI (rV (q0 := 0) (ci := 7) hx hb hml hown hg hN hK hP hD (a_bends l D cI cJ ad co fl ra li re wa pi ((-1 : Int32) - (shownAt pi (nI i_1) (nI i_67))) hZ.zf hZ.zp (y_e hZ hi_1 hi_67 c_33).1 (y_e hZ hi_1 hi_67 c_33).2.1) mw_678 mw_679 mw_680 mw_681 mw_77 pdv_X7_bends ⟨Nat.le_of_ble_eq_true rfl, Nat.le_of_ble_eq_true rfl⟩ rfl xo0 rfl hl.1 rfl (Nat.le_of_ble_eq_true rfl) dL_isDrawn_64 ⟨Nat.le_of_ble_eq_true rfl, Nat.le_of_ble_eq_true rfl⟩) hD hS hA (fun r_71 u_71 H locs hp hP hD hS => ?_)
        obtain ⟨er, eu⟩ := hp
        obtain rfl := er.symm
        obtain rfl := eu.symm
        refine lv_iconst (v := 1) hx hb dL_isDrawn_67 (by decide) ?_
        refine lv_icmp_ge (tgt := 73) hx hb dL_isDrawn_68 (by decide) (fun _ => ?_) (fun c_68 => absurd (y_e hZ hi_1 hi_67 c_33).2.2 c_68)
        refine lv_iinc (v := (p_67 + 1)) (lv' := [(1, .int (p_67 + 1)), (4, .int (shownAt pi (nI i_1) (nI i_67))), (0, .ref (ad 0)), (2, .int (nI i_1)), (3, .int (nI i_67))]) hx hb dL_isDrawn_73 hl (k := 2) rfl rfl (by decide) rfl (fun ls hl => ?_)
        refine lv_iinc (v := (nI (i_67 + 1))) (lv' := [(3, .int (nI (i_67 + 1))), (1, .int (p_67 + 1)), (4, .int (shownAt pi (nI i_1) (nI i_67))), (0, .ref (ad 0)), (2, .int (nI i_1))]) hx hb dL_isDrawn_76 hl (k := 4) rfl (nI_1 i_67) (by decide) rfl (fun ls hl => ?_)
        refine lv_goto (tgt := 14) hx hb dL_isDrawn_79 (by decide) ?_
        exact ih_67 (p_67 + 1) H locs ls ⟨((show (p_67 + 1) = ptI i_67 p_67 from (by simp only [ptI, eq_true c_33, gi_sl, gi_sA, gi_sB, gi_si_s, gi_si_n, gl_si, gl_sA, gl_sB, gl_sl_s, gl_sl_n, gA_si, gA_sl, gA_sB, gA_sA_s, gA_sA_n, gB_si, gB_sl, gB_sA, gB_sB_s, gB_sB_n, Nat.reduceBEq, if_true, if_false, eq_self, Bool.false_eq_true, Bool.true_eq_false, not_true_eq_false, not_false_eq_true, decide_true, decide_false, cond_true, cond_false, Bool.true_and, Bool.false_and, Bool.and_true, Bool.and_false, Bool.true_or, Bool.false_or, Bool.or_true, Bool.or_false, b2i_tt, b2i_ff, pr_eta]; done)).trans (lp_go h_67)), hP, hD, hS, lv_sub hl [3, 1, 4, 0] rfl⟩
      · refine lv_aload_n hx hb dL_isDrawn_36 rfl (lv_at hl 1 rfl) ?_
        refine lv_iload hx hb dL_isDrawn_37 (lv_at hl 0 rfl) ?_
        refine kI (rV (q0 := 0) (ci := 7) hx hb hml hown hg hN hK hP hD (a_layerOf l D cI cJ ad co fl ra li re wa pi (shownAt pi (nI i_1) (nI i_67)) hZ.zf hZ.zp c_33 (y_b hZ hi_1 hi_67 c_33).1) mw_649 mw_650 mw_651 mw_652 mw_77 pdv_X7_layerOf ⟨Nat.le_of_ble_eq_true rfl, Nat.le_of_ble_eq_true rfl⟩ rfl xo0 rfl hl.1 rfl (Nat.le_of_ble_eq_true rfl) dL_isDrawn_39 ⟨Nat.le_of_ble_eq_true rfl, Nat.le_of_ble_eq_true rfl⟩) hD hS hA (fun r_72 u_72 H locs hp hP hD hS => ?_)
        obtain ⟨er, eu⟩ := hp
        obtain rfl := er.symm
        obtain rfl := eu.symm
        refine lv_iload_n hx hb dL_isDrawn_42 rfl (lv_at hl 3 rfl) ?_
        refine lv_icmp_ne (tgt := 71) hx hb dL_isDrawn_43 (by decide) (fun c_43 => absurd (y_b hZ hi_1 hi_67 c_33).2.1 c_43) (fun _ => ?_)
        refine lv_aload_n hx hb dL_isDrawn_46 rfl (lv_at hl 1 rfl) ?_
        refine lv_iload hx hb dL_isDrawn_47 (lv_at hl 0 rfl) ?_
        refine kI (rV (q0 := 0) (ci := 7) hx hb hml hown hg hN hK hP hD (a_placeOf l D cI cJ ad co fl ra li re wa pi (shownAt pi (nI i_1) (nI i_67)) hZ.zf hZ.zp c_33 (y_b hZ hi_1 hi_67 c_33).1) mw_657 mw_658 mw_659 mw_660 mw_77 pdv_X7_placeOf ⟨Nat.le_of_ble_eq_true rfl, Nat.le_of_ble_eq_true rfl⟩ rfl xo0 rfl hl.1 rfl (Nat.le_of_ble_eq_true rfl) dL_isDrawn_49 ⟨Nat.le_of_ble_eq_true rfl, Nat.le_of_ble_eq_true rfl⟩) hD hS hA (fun r_73 u_73 H locs hp hP hD hS => ?_)
        obtain ⟨er, eu⟩ := hp
        obtain rfl := er.symm
        obtain rfl := eu.symm
        refine lv_iload_n hx hb dL_isDrawn_52 rfl (lv_at hl 4 rfl) ?_
        refine lv_icmp_eq (tgt := 73) hx hb dL_isDrawn_53 (by decide) (fun _ => ?_) (fun c_53 => absurd (y_b hZ hi_1 hi_67 c_33).2.2 c_53)
        refine lv_iinc (v := (p_67 + 1)) (lv' := [(1, .int (p_67 + 1)), (4, .int (shownAt pi (nI i_1) (nI i_67))), (0, .ref (ad 0)), (2, .int (nI i_1)), (3, .int (nI i_67))]) hx hb dL_isDrawn_73 hl (k := 2) rfl rfl (by decide) rfl (fun ls hl => ?_)
        refine lv_iinc (v := (nI (i_67 + 1))) (lv' := [(3, .int (nI (i_67 + 1))), (1, .int (p_67 + 1)), (4, .int (shownAt pi (nI i_1) (nI i_67))), (0, .ref (ad 0)), (2, .int (nI i_1))]) hx hb dL_isDrawn_76 hl (k := 4) rfl (nI_1 i_67) (by decide) rfl (fun ls hl => ?_)
        refine lv_goto (tgt := 14) hx hb dL_isDrawn_79 (by decide) ?_
        exact ih_67 (p_67 + 1) H locs ls ⟨((show (p_67 + 1) = ptI i_67 p_67 from (by simp only [ptI, eq_false c_33, gi_sl, gi_sA, gi_sB, gi_si_s, gi_si_n, gl_si, gl_sA, gl_sB, gl_sl_s, gl_sl_n, gA_si, gA_sl, gA_sB, gA_sA_s, gA_sA_n, gB_si, gB_sl, gB_sA, gB_sB_s, gB_sB_n, Nat.reduceBEq, if_true, if_false, eq_self, Bool.false_eq_true, Bool.true_eq_false, not_true_eq_false, not_false_eq_true, decide_true, decide_false, cond_true, cond_false, Bool.true_and, Bool.false_and, Bool.and_true, Bool.and_false, Bool.true_or, Bool.false_or, Bool.or_true, Bool.or_false, b2i_tt, b2i_ff, pr_eta]; done)).trans (lp_go h_67)), hP, hD, hS, lv_sub hl [3, 1, 4, 0] rfl⟩
