theorem dL_areBlocksRight_0 : decode cL_areBlocksRight 0 = .ok (.iconst 0, 1) := by decide +kernel
theorem dL_areBlocksRight_1 : decode cL_areBlocksRight 1 = .ok (.istore_n 1, 1) := by decide +kernel
theorem dL_areBlocksRight_2 : decode cL_areBlocksRight 2 = .ok (.iconst 0, 1) := by decide +kernel
theorem dL_areBlocksRight_3 : decode cL_areBlocksRight 3 = .ok (.istore_n 2, 1) := by decide +kernel
theorem dL_areBlocksRight_4 : decode cL_areBlocksRight 4 = .ok (.iconst 0, 1) := by decide +kernel
theorem dL_areBlocksRight_5 : decode cL_areBlocksRight 5 = .ok (.istore_n 3, 1) := by decide +kernel
theorem dL_areBlocksRight_6 : decode cL_areBlocksRight 6 = .ok (.iconst 0, 1) := by decide +kernel
theorem dL_areBlocksRight_7 : decode cL_areBlocksRight 7 = .ok (.istore 4, 2) := by decide +kernel
theorem dL_areBlocksRight_9 : decode cL_areBlocksRight 9 = .ok (.iload 4, 2) := by decide +kernel
theorem dL_areBlocksRight_11 : decode cL_areBlocksRight 11 = .ok (.aload_n 0, 1) := by decide +kernel
theorem dL_areBlocksRight_12 : decode cL_areBlocksRight 12 = .ok (.invokevirtual 33, 3) := by decide +kernel
theorem dL_areBlocksRight_15 : decode cL_areBlocksRight 15 = .ok (.if_icmp .ge 71, 3) := by decide +kernel
theorem dL_areBlocksRight_18 : decode cL_areBlocksRight 18 = .ok (.aload_n 0, 1) := by decide +kernel
theorem dL_areBlocksRight_19 : decode cL_areBlocksRight 19 = .ok (.iload 4, 2) := by decide +kernel
theorem dL_areBlocksRight_21 : decode cL_areBlocksRight 21 = .ok (.invokevirtual 79, 3) := by decide +kernel
theorem dL_areBlocksRight_24 : decode cL_areBlocksRight 24 = .ok (.iload 4, 2) := by decide +kernel
theorem dL_areBlocksRight_26 : decode cL_areBlocksRight 26 = .ok (.ifCond .ne 7, 3) := by decide +kernel
theorem dL_areBlocksRight_29 : decode cL_areBlocksRight 29 = .ok (.iconst 0, 1) := by decide +kernel
theorem dL_areBlocksRight_30 : decode cL_areBlocksRight 30 = .ok (.goto 45, 3) := by decide +kernel
theorem dL_areBlocksRight_33 : decode cL_areBlocksRight 33 = .ok (.aload_n 0, 1) := by decide +kernel
theorem dL_areBlocksRight_34 : decode cL_areBlocksRight 34 = .ok (.iload 4, 2) := by decide +kernel
theorem dL_areBlocksRight_36 : decode cL_areBlocksRight 36 = .ok (.iconst 1, 1) := by decide +kernel
theorem dL_areBlocksRight_37 : decode cL_areBlocksRight 37 = .ok (.isub, 1) := by decide +kernel
theorem dL_areBlocksRight_38 : decode cL_areBlocksRight 38 = .ok (.invokevirtual 79, 3) := by decide +kernel
theorem dL_areBlocksRight_41 : decode cL_areBlocksRight 41 = .ok (.aload_n 0, 1) := by decide +kernel
theorem dL_areBlocksRight_42 : decode cL_areBlocksRight 42 = .ok (.aload_n 0, 1) := by decide +kernel
theorem dL_areBlocksRight_43 : decode cL_areBlocksRight 43 = .ok (.invokevirtual 82, 3) := by decide +kernel
theorem dL_areBlocksRight_46 : decode cL_areBlocksRight 46 = .ok (.iconst 1, 1) := by decide +kernel
theorem dL_areBlocksRight_47 : decode cL_areBlocksRight 47 = .ok (.isub, 1) := by decide +kernel
theorem dL_areBlocksRight_48 : decode cL_areBlocksRight 48 = .ok (.aload_n 0, 1) := by decide +kernel
theorem dL_areBlocksRight_49 : decode cL_areBlocksRight 49 = .ok (.iload 4, 2) := by decide +kernel
theorem dL_areBlocksRight_51 : decode cL_areBlocksRight 51 = .ok (.iconst 1, 1) := by decide +kernel
theorem dL_areBlocksRight_52 : decode cL_areBlocksRight 52 = .ok (.isub, 1) := by decide +kernel
theorem dL_areBlocksRight_53 : decode cL_areBlocksRight 53 = .ok (.invokevirtual 79, 3) := by decide +kernel
theorem dL_areBlocksRight_56 : decode cL_areBlocksRight 56 = .ok (.iconst 1, 1) := by decide +kernel
theorem dL_areBlocksRight_57 : decode cL_areBlocksRight 57 = .ok (.iadd, 1) := by decide +kernel
theorem dL_areBlocksRight_58 : decode cL_areBlocksRight 58 = .ok (.invokestatic 85, 3) := by decide +kernel
theorem dL_areBlocksRight_61 : decode cL_areBlocksRight 61 = .ok (.invokevirtual 88, 3) := by decide +kernel
theorem dL_areBlocksRight_64 : decode cL_areBlocksRight 64 = .ok (.iload 4, 2) := by decide +kernel
theorem dL_areBlocksRight_66 : decode cL_areBlocksRight 66 = .ok (.if_icmp .ne 7, 3) := by decide +kernel
theorem dL_areBlocksRight_69 : decode cL_areBlocksRight 69 = .ok (.iconst 1, 1) := by decide +kernel
theorem dL_areBlocksRight_70 : decode cL_areBlocksRight 70 = .ok (.goto 4, 3) := by decide +kernel
theorem dL_areBlocksRight_73 : decode cL_areBlocksRight 73 = .ok (.iconst 0, 1) := by decide +kernel
theorem dL_areBlocksRight_74 : decode cL_areBlocksRight 74 = .ok (.iadd, 1) := by decide +kernel
theorem dL_areBlocksRight_75 : decode cL_areBlocksRight 75 = .ok (.if_icmp .eq 5, 3) := by decide +kernel
theorem dL_areBlocksRight_80 : decode cL_areBlocksRight 80 = .ok (.iinc 4 1, 3) := by decide +kernel
theorem dL_areBlocksRight_83 : decode cL_areBlocksRight 83 = .ok (.goto (-74), 3) := by decide +kernel
theorem dL_areBlocksRight_86 : decode cL_areBlocksRight 86 = .ok (.iconst 0, 1) := by decide +kernel
theorem dL_areBlocksRight_87 : decode cL_areBlocksRight 87 = .ok (.istore 4, 2) := by decide +kernel
theorem dL_areBlocksRight_89 : decode cL_areBlocksRight 89 = .ok (.iload 4, 2) := by decide +kernel
theorem dL_areBlocksRight_91 : decode cL_areBlocksRight 91 = .ok (.aload_n 0, 1) := by decide +kernel
theorem dL_areBlocksRight_92 : decode cL_areBlocksRight 92 = .ok (.invokevirtual 82, 3) := by decide +kernel
theorem dL_areBlocksRight_95 : decode cL_areBlocksRight 95 = .ok (.if_icmp .ge 279, 3) := by decide +kernel
theorem dL_areBlocksRight_98 : decode cL_areBlocksRight 98 = .ok (.aload_n 0, 1) := by decide +kernel
theorem dL_areBlocksRight_99 : decode cL_areBlocksRight 99 = .ok (.iload 4, 2) := by decide +kernel
theorem dL_areBlocksRight_101 : decode cL_areBlocksRight 101 = .ok (.invokevirtual 91, 3) := by decide +kernel
theorem dL_areBlocksRight_104 : decode cL_areBlocksRight 104 = .ok (.istore 5, 2) := by decide +kernel
theorem dL_areBlocksRight_106 : decode cL_areBlocksRight 106 = .ok (.iload_n 1, 1) := by decide +kernel
theorem dL_areBlocksRight_107 : decode cL_areBlocksRight 107 = .ok (.aload_n 0, 1) := by decide +kernel
theorem dL_areBlocksRight_108 : decode cL_areBlocksRight 108 = .ok (.iload 4, 2) := by decide +kernel
theorem dL_areBlocksRight_110 : decode cL_areBlocksRight 110 = .ok (.invokevirtual 94, 3) := by decide +kernel
theorem dL_areBlocksRight_113 : decode cL_areBlocksRight 113 = .ok (.ifCond .eq 7, 3) := by decide +kernel
theorem dL_areBlocksRight_116 : decode cL_areBlocksRight 116 = .ok (.iconst 1, 1) := by decide +kernel
theorem dL_areBlocksRight_117 : decode cL_areBlocksRight 117 = .ok (.goto 4, 3) := by decide +kernel
theorem dL_areBlocksRight_120 : decode cL_areBlocksRight 120 = .ok (.iconst 0, 1) := by decide +kernel
theorem dL_areBlocksRight_121 : decode cL_areBlocksRight 121 = .ok (.iadd, 1) := by decide +kernel
theorem dL_areBlocksRight_122 : decode cL_areBlocksRight 122 = .ok (.istore_n 1, 1) := by decide +kernel
theorem dL_areBlocksRight_123 : decode cL_areBlocksRight 123 = .ok (.iload_n 2, 1) := by decide +kernel
theorem dL_areBlocksRight_124 : decode cL_areBlocksRight 124 = .ok (.aload_n 0, 1) := by decide +kernel
theorem dL_areBlocksRight_125 : decode cL_areBlocksRight 125 = .ok (.iload 4, 2) := by decide +kernel
theorem dL_areBlocksRight_127 : decode cL_areBlocksRight 127 = .ok (.invokevirtual 98, 3) := by decide +kernel
theorem dL_areBlocksRight_130 : decode cL_areBlocksRight 130 = .ok (.ifCond .le 7, 3) := by decide +kernel
theorem dL_areBlocksRight_133 : decode cL_areBlocksRight 133 = .ok (.iconst 1, 1) := by decide +kernel
theorem dL_areBlocksRight_134 : decode cL_areBlocksRight 134 = .ok (.goto 4, 3) := by decide +kernel
theorem dL_areBlocksRight_137 : decode cL_areBlocksRight 137 = .ok (.iconst 0, 1) := by decide +kernel
theorem dL_areBlocksRight_138 : decode cL_areBlocksRight 138 = .ok (.iadd, 1) := by decide +kernel
theorem dL_areBlocksRight_139 : decode cL_areBlocksRight 139 = .ok (.istore_n 2, 1) := by decide +kernel
theorem dL_areBlocksRight_140 : decode cL_areBlocksRight 140 = .ok (.iload_n 3, 1) := by decide +kernel
theorem dL_areBlocksRight_141 : decode cL_areBlocksRight 141 = .ok (.aload_n 0, 1) := by decide +kernel
theorem dL_areBlocksRight_142 : decode cL_areBlocksRight 142 = .ok (.iload 4, 2) := by decide +kernel
theorem dL_areBlocksRight_144 : decode cL_areBlocksRight 144 = .ok (.invokevirtual 101, 3) := by decide +kernel
theorem dL_areBlocksRight_147 : decode cL_areBlocksRight 147 = .ok (.iload 4, 2) := by decide +kernel
theorem dL_areBlocksRight_149 : decode cL_areBlocksRight 149 = .ok (.if_icmp .ne 7, 3) := by decide +kernel
theorem dL_areBlocksRight_152 : decode cL_areBlocksRight 152 = .ok (.iconst 1, 1) := by decide +kernel
theorem dL_areBlocksRight_153 : decode cL_areBlocksRight 153 = .ok (.goto 4, 3) := by decide +kernel
theorem dL_areBlocksRight_156 : decode cL_areBlocksRight 156 = .ok (.iconst 0, 1) := by decide +kernel
theorem dL_areBlocksRight_157 : decode cL_areBlocksRight 157 = .ok (.iadd, 1) := by decide +kernel
theorem dL_areBlocksRight_158 : decode cL_areBlocksRight 158 = .ok (.istore_n 3, 1) := by decide +kernel
theorem dL_areBlocksRight_159 : decode cL_areBlocksRight 159 = .ok (.iload 5, 2) := by decide +kernel
theorem dL_areBlocksRight_161 : decode cL_areBlocksRight 161 = .ok (.ifCond .ge 7, 3) := by decide +kernel
theorem dL_areBlocksRight_164 : decode cL_areBlocksRight 164 = .ok (.iconst 1, 1) := by decide +kernel
theorem dL_areBlocksRight_165 : decode cL_areBlocksRight 165 = .ok (.goto 4, 3) := by decide +kernel
theorem dL_areBlocksRight_168 : decode cL_areBlocksRight 168 = .ok (.iconst 0, 1) := by decide +kernel
theorem dL_areBlocksRight_169 : decode cL_areBlocksRight 169 = .ok (.iload 4, 2) := by decide +kernel
theorem dL_areBlocksRight_171 : decode cL_areBlocksRight 171 = .ok (.ifCond .eq 12, 3) := by decide +kernel
theorem dL_areBlocksRight_174 : decode cL_areBlocksRight 174 = .ok (.aload_n 0, 1) := by decide +kernel
theorem dL_areBlocksRight_175 : decode cL_areBlocksRight 175 = .ok (.iload 4, 2) := by decide +kernel
theorem dL_areBlocksRight_177 : decode cL_areBlocksRight 177 = .ok (.invokevirtual 94, 3) := by decide +kernel
theorem dL_areBlocksRight_180 : decode cL_areBlocksRight 180 = .ok (.ifCond .ne 7, 3) := by decide +kernel
theorem dL_areBlocksRight_183 : decode cL_areBlocksRight 183 = .ok (.iconst 1, 1) := by decide +kernel
theorem dL_areBlocksRight_184 : decode cL_areBlocksRight 184 = .ok (.goto 4, 3) := by decide +kernel
theorem dL_areBlocksRight_187 : decode cL_areBlocksRight 187 = .ok (.iconst 0, 1) := by decide +kernel
theorem dL_areBlocksRight_188 : decode cL_areBlocksRight 188 = .ok (.if_icmp .ne 47, 3) := by decide +kernel
theorem dL_areBlocksRight_191 : decode cL_areBlocksRight 191 = .ok (.iload 5, 2) := by decide +kernel
theorem dL_areBlocksRight_193 : decode cL_areBlocksRight 193 = .ok (.ifCond .lt 25, 3) := by decide +kernel
theorem dL_areBlocksRight_196 : decode cL_areBlocksRight 196 = .ok (.aload_n 0, 1) := by decide +kernel
theorem dL_areBlocksRight_197 : decode cL_areBlocksRight 197 = .ok (.iload 5, 2) := by decide +kernel
theorem dL_areBlocksRight_199 : decode cL_areBlocksRight 199 = .ok (.iload 4, 2) := by decide +kernel
theorem dL_areBlocksRight_201 : decode cL_areBlocksRight 201 = .ok (.invokevirtual 104, 3) := by decide +kernel
theorem dL_areBlocksRight_204 : decode cL_areBlocksRight 204 = .ok (.ifCond .eq 31, 3) := by decide +kernel
theorem dL_areBlocksRight_207 : decode cL_areBlocksRight 207 = .ok (.aload_n 0, 1) := by decide +kernel
theorem dL_areBlocksRight_208 : decode cL_areBlocksRight 208 = .ok (.iload 4, 2) := by decide +kernel
theorem dL_areBlocksRight_210 : decode cL_areBlocksRight 210 = .ok (.iload 5, 2) := by decide +kernel
theorem dL_areBlocksRight_212 : decode cL_areBlocksRight 212 = .ok (.invokevirtual 104, 3) := by decide +kernel
theorem dL_areBlocksRight_215 : decode cL_areBlocksRight 215 = .ok (.ifCond .ne 20, 3) := by decide +kernel
theorem dL_areBlocksRight_218 : decode cL_areBlocksRight 218 = .ok (.aload_n 0, 1) := by decide +kernel
theorem dL_areBlocksRight_219 : decode cL_areBlocksRight 219 = .ok (.iload 4, 2) := by decide +kernel
theorem dL_areBlocksRight_221 : decode cL_areBlocksRight 221 = .ok (.iload 4, 2) := by decide +kernel
theorem dL_areBlocksRight_223 : decode cL_areBlocksRight 223 = .ok (.invokevirtual 104, 3) := by decide +kernel
theorem dL_areBlocksRight_226 : decode cL_areBlocksRight 226 = .ok (.aload_n 0, 1) := by decide +kernel
theorem dL_areBlocksRight_227 : decode cL_areBlocksRight 227 = .ok (.iload 4, 2) := by decide +kernel
theorem dL_areBlocksRight_229 : decode cL_areBlocksRight 229 = .ok (.invokevirtual 94, 3) := by decide +kernel
theorem dL_areBlocksRight_232 : decode cL_areBlocksRight 232 = .ok (.if_icmp .eq 5, 3) := by decide +kernel
theorem dL_areBlocksRight_237 : decode cL_areBlocksRight 237 = .ok (.aload_n 0, 1) := by decide +kernel
theorem dL_areBlocksRight_238 : decode cL_areBlocksRight 238 = .ok (.iload 4, 2) := by decide +kernel
theorem dL_areBlocksRight_240 : decode cL_areBlocksRight 240 = .ok (.invokevirtual 94, 3) := by decide +kernel
theorem dL_areBlocksRight_243 : decode cL_areBlocksRight 243 = .ok (.ifCond .ne 53, 3) := by decide +kernel
theorem dL_areBlocksRight_246 : decode cL_areBlocksRight 246 = .ok (.aload_n 0, 1) := by decide +kernel
theorem dL_areBlocksRight_247 : decode cL_areBlocksRight 247 = .ok (.iload 4, 2) := by decide +kernel
theorem dL_areBlocksRight_249 : decode cL_areBlocksRight 249 = .ok (.invokevirtual 108, 3) := by decide +kernel
theorem dL_areBlocksRight_252 : decode cL_areBlocksRight 252 = .ok (.ifCond .ne 42, 3) := by decide +kernel
theorem dL_areBlocksRight_255 : decode cL_areBlocksRight 255 = .ok (.aload_n 0, 1) := by decide +kernel
theorem dL_areBlocksRight_256 : decode cL_areBlocksRight 256 = .ok (.iload 4, 2) := by decide +kernel
theorem dL_areBlocksRight_258 : decode cL_areBlocksRight 258 = .ok (.invokevirtual 101, 3) := by decide +kernel
theorem dL_areBlocksRight_261 : decode cL_areBlocksRight 261 = .ok (.iconst (-1), 1) := by decide +kernel
theorem dL_areBlocksRight_262 : decode cL_areBlocksRight 262 = .ok (.if_icmp .ne 32, 3) := by decide +kernel
theorem dL_areBlocksRight_265 : decode cL_areBlocksRight 265 = .ok (.aload_n 0, 1) := by decide +kernel
theorem dL_areBlocksRight_266 : decode cL_areBlocksRight 266 = .ok (.iload 4, 2) := by decide +kernel
theorem dL_areBlocksRight_268 : decode cL_areBlocksRight 268 = .ok (.invokevirtual 111, 3) := by decide +kernel
theorem dL_areBlocksRight_271 : decode cL_areBlocksRight 271 = .ok (.iconst (-1), 1) := by decide +kernel
theorem dL_areBlocksRight_272 : decode cL_areBlocksRight 272 = .ok (.if_icmp .ne 22, 3) := by decide +kernel
theorem dL_areBlocksRight_275 : decode cL_areBlocksRight 275 = .ok (.aload_n 0, 1) := by decide +kernel
theorem dL_areBlocksRight_276 : decode cL_areBlocksRight 276 = .ok (.iload 4, 2) := by decide +kernel
theorem dL_areBlocksRight_278 : decode cL_areBlocksRight 278 = .ok (.invokevirtual 114, 3) := by decide +kernel
theorem dL_areBlocksRight_281 : decode cL_areBlocksRight 281 = .ok (.ifCond .ne 13, 3) := by decide +kernel
theorem dL_areBlocksRight_284 : decode cL_areBlocksRight 284 = .ok (.aload_n 0, 1) := by decide +kernel
theorem dL_areBlocksRight_285 : decode cL_areBlocksRight 285 = .ok (.iload 4, 2) := by decide +kernel
theorem dL_areBlocksRight_287 : decode cL_areBlocksRight 287 = .ok (.invokevirtual 117, 3) := by decide +kernel
theorem dL_areBlocksRight_290 : decode cL_areBlocksRight 290 = .ok (.iconst (-1), 1) := by decide +kernel
theorem dL_areBlocksRight_291 : decode cL_areBlocksRight 291 = .ok (.if_icmp .eq 5, 3) := by decide +kernel
theorem dL_areBlocksRight_296 : decode cL_areBlocksRight 296 = .ok (.aload_n 0, 1) := by decide +kernel
theorem dL_areBlocksRight_297 : decode cL_areBlocksRight 297 = .ok (.iload 4, 2) := by decide +kernel
theorem dL_areBlocksRight_299 : decode cL_areBlocksRight 299 = .ok (.invokevirtual 94, 3) := by decide +kernel
theorem dL_areBlocksRight_302 : decode cL_areBlocksRight 302 = .ok (.ifCond .eq 66, 3) := by decide +kernel
theorem dL_areBlocksRight_305 : decode cL_areBlocksRight 305 = .ok (.aload_n 0, 1) := by decide +kernel
theorem dL_areBlocksRight_306 : decode cL_areBlocksRight 306 = .ok (.iload 4, 2) := by decide +kernel
theorem dL_areBlocksRight_308 : decode cL_areBlocksRight 308 = .ok (.invokevirtual 101, 3) := by decide +kernel
theorem dL_areBlocksRight_311 : decode cL_areBlocksRight 311 = .ok (.iload 4, 2) := by decide +kernel
theorem dL_areBlocksRight_313 : decode cL_areBlocksRight 313 = .ok (.if_icmp .gt 53, 3) := by decide +kernel
theorem dL_areBlocksRight_316 : decode cL_areBlocksRight 316 = .ok (.aload_n 0, 1) := by decide +kernel
theorem dL_areBlocksRight_317 : decode cL_areBlocksRight 317 = .ok (.aload_n 0, 1) := by decide +kernel
theorem dL_areBlocksRight_318 : decode cL_areBlocksRight 318 = .ok (.iload 4, 2) := by decide +kernel
theorem dL_areBlocksRight_320 : decode cL_areBlocksRight 320 = .ok (.invokevirtual 101, 3) := by decide +kernel
theorem dL_areBlocksRight_323 : decode cL_areBlocksRight 323 = .ok (.invokevirtual 101, 3) := by decide +kernel
theorem dL_areBlocksRight_326 : decode cL_areBlocksRight 326 = .ok (.aload_n 0, 1) := by decide +kernel
theorem dL_areBlocksRight_327 : decode cL_areBlocksRight 327 = .ok (.iload 4, 2) := by decide +kernel
theorem dL_areBlocksRight_329 : decode cL_areBlocksRight 329 = .ok (.invokevirtual 101, 3) := by decide +kernel
theorem dL_areBlocksRight_332 : decode cL_areBlocksRight 332 = .ok (.if_icmp .ne 34, 3) := by decide +kernel
theorem dL_areBlocksRight_335 : decode cL_areBlocksRight 335 = .ok (.aload_n 0, 1) := by decide +kernel
theorem dL_areBlocksRight_336 : decode cL_areBlocksRight 336 = .ok (.iload 4, 2) := by decide +kernel
theorem dL_areBlocksRight_338 : decode cL_areBlocksRight 338 = .ok (.invokevirtual 114, 3) := by decide +kernel
theorem dL_areBlocksRight_341 : decode cL_areBlocksRight 341 = .ok (.aload_n 0, 1) := by decide +kernel
theorem dL_areBlocksRight_342 : decode cL_areBlocksRight 342 = .ok (.invokevirtual 120, 3) := by decide +kernel
theorem dL_areBlocksRight_345 : decode cL_areBlocksRight 345 = .ok (.if_icmp .gt 21, 3) := by decide +kernel
theorem dL_areBlocksRight_348 : decode cL_areBlocksRight 348 = .ok (.aload_n 0, 1) := by decide +kernel
theorem dL_areBlocksRight_349 : decode cL_areBlocksRight 349 = .ok (.iload 4, 2) := by decide +kernel
theorem dL_areBlocksRight_351 : decode cL_areBlocksRight 351 = .ok (.invokevirtual 98, 3) := by decide +kernel
theorem dL_areBlocksRight_354 : decode cL_areBlocksRight 354 = .ok (.ifCond .le 14, 3) := by decide +kernel
theorem dL_areBlocksRight_357 : decode cL_areBlocksRight 357 = .ok (.aload_n 0, 1) := by decide +kernel
theorem dL_areBlocksRight_358 : decode cL_areBlocksRight 358 = .ok (.iload 4, 2) := by decide +kernel
theorem dL_areBlocksRight_360 : decode cL_areBlocksRight 360 = .ok (.invokevirtual 114, 3) := by decide +kernel
theorem dL_areBlocksRight_363 : decode cL_areBlocksRight 363 = .ok (.ifCond .ne 5, 3) := by decide +kernel
theorem dL_areBlocksRight_368 : decode cL_areBlocksRight 368 = .ok (.iinc 4 1, 3) := by decide +kernel
theorem dL_areBlocksRight_371 : decode cL_areBlocksRight 371 = .ok (.goto (-282), 3) := by decide +kernel
theorem dL_areBlocksRight_374 : decode cL_areBlocksRight 374 = .ok (.iconst 0, 1) := by decide +kernel
theorem dL_areBlocksRight_375 : decode cL_areBlocksRight 375 = .ok (.istore 4, 2) := by decide +kernel
theorem dL_areBlocksRight_377 : decode cL_areBlocksRight 377 = .ok (.iconst 0, 1) := by decide +kernel
theorem dL_areBlocksRight_378 : decode cL_areBlocksRight 378 = .ok (.istore 5, 2) := by decide +kernel
theorem dL_areBlocksRight_380 : decode cL_areBlocksRight 380 = .ok (.iload 5, 2) := by decide +kernel
theorem dL_areBlocksRight_382 : decode cL_areBlocksRight 382 = .ok (.aload_n 0, 1) := by decide +kernel
theorem dL_areBlocksRight_383 : decode cL_areBlocksRight 383 = .ok (.invokevirtual 123, 3) := by decide +kernel
theorem dL_areBlocksRight_386 : decode cL_areBlocksRight 386 = .ok (.if_icmp .ge 153, 3) := by decide +kernel
theorem dL_areBlocksRight_389 : decode cL_areBlocksRight 389 = .ok (.aload_n 0, 1) := by decide +kernel
theorem dL_areBlocksRight_390 : decode cL_areBlocksRight 390 = .ok (.iload 5, 2) := by decide +kernel
theorem dL_areBlocksRight_392 : decode cL_areBlocksRight 392 = .ok (.invokevirtual 126, 3) := by decide +kernel
theorem dL_areBlocksRight_395 : decode cL_areBlocksRight 395 = .ok (.istore 6, 2) := by decide +kernel
theorem dL_areBlocksRight_397 : decode cL_areBlocksRight 397 = .ok (.aload_n 0, 1) := by decide +kernel
theorem dL_areBlocksRight_398 : decode cL_areBlocksRight 398 = .ok (.iload 5, 2) := by decide +kernel
theorem dL_areBlocksRight_400 : decode cL_areBlocksRight 400 = .ok (.invokevirtual 129, 3) := by decide +kernel
theorem dL_areBlocksRight_403 : decode cL_areBlocksRight 403 = .ok (.istore 7, 2) := by decide +kernel
theorem dL_areBlocksRight_405 : decode cL_areBlocksRight 405 = .ok (.iload 5, 2) := by decide +kernel
theorem dL_areBlocksRight_407 : decode cL_areBlocksRight 407 = .ok (.ifCond .le 42, 3) := by decide +kernel
theorem dL_areBlocksRight_410 : decode cL_areBlocksRight 410 = .ok (.iload 6, 2) := by decide +kernel
theorem dL_areBlocksRight_412 : decode cL_areBlocksRight 412 = .ok (.aload_n 0, 1) := by decide +kernel
theorem dL_areBlocksRight_413 : decode cL_areBlocksRight 413 = .ok (.iload 5, 2) := by decide +kernel
theorem dL_areBlocksRight_415 : decode cL_areBlocksRight 415 = .ok (.iconst 1, 1) := by decide +kernel
theorem dL_areBlocksRight_416 : decode cL_areBlocksRight 416 = .ok (.isub, 1) := by decide +kernel
theorem dL_areBlocksRight_417 : decode cL_areBlocksRight 417 = .ok (.invokevirtual 126, 3) := by decide +kernel
theorem dL_areBlocksRight_420 : decode cL_areBlocksRight 420 = .ok (.if_icmp .lt 38, 3) := by decide +kernel
theorem dL_areBlocksRight_423 : decode cL_areBlocksRight 423 = .ok (.iload 6, 2) := by decide +kernel
theorem dL_areBlocksRight_425 : decode cL_areBlocksRight 425 = .ok (.aload_n 0, 1) := by decide +kernel
theorem dL_areBlocksRight_426 : decode cL_areBlocksRight 426 = .ok (.iload 5, 2) := by decide +kernel
theorem dL_areBlocksRight_428 : decode cL_areBlocksRight 428 = .ok (.iconst 1, 1) := by decide +kernel
theorem dL_areBlocksRight_429 : decode cL_areBlocksRight 429 = .ok (.isub, 1) := by decide +kernel
theorem dL_areBlocksRight_430 : decode cL_areBlocksRight 430 = .ok (.invokevirtual 126, 3) := by decide +kernel
theorem dL_areBlocksRight_433 : decode cL_areBlocksRight 433 = .ok (.if_icmp .ne 16, 3) := by decide +kernel
theorem dL_areBlocksRight_436 : decode cL_areBlocksRight 436 = .ok (.iload 7, 2) := by decide +kernel
theorem dL_areBlocksRight_438 : decode cL_areBlocksRight 438 = .ok (.aload_n 0, 1) := by decide +kernel
theorem dL_areBlocksRight_439 : decode cL_areBlocksRight 439 = .ok (.iload 5, 2) := by decide +kernel
theorem dL_areBlocksRight_441 : decode cL_areBlocksRight 441 = .ok (.iconst 1, 1) := by decide +kernel
theorem dL_areBlocksRight_442 : decode cL_areBlocksRight 442 = .ok (.isub, 1) := by decide +kernel
theorem dL_areBlocksRight_443 : decode cL_areBlocksRight 443 = .ok (.invokevirtual 129, 3) := by decide +kernel
theorem dL_areBlocksRight_446 : decode cL_areBlocksRight 446 = .ok (.if_icmp .eq 12, 3) := by decide +kernel
theorem dL_areBlocksRight_449 : decode cL_areBlocksRight 449 = .ok (.iload 7, 2) := by decide +kernel
theorem dL_areBlocksRight_451 : decode cL_areBlocksRight 451 = .ok (.aload_n 0, 1) := by decide +kernel
theorem dL_areBlocksRight_452 : decode cL_areBlocksRight 452 = .ok (.invokevirtual 82, 3) := by decide +kernel
theorem dL_areBlocksRight_455 : decode cL_areBlocksRight 455 = .ok (.if_icmp .lt 5, 3) := by decide +kernel
theorem dL_areBlocksRight_460 : decode cL_areBlocksRight 460 = .ok (.iload 4, 2) := by decide +kernel
theorem dL_areBlocksRight_462 : decode cL_areBlocksRight 462 = .ok (.aload_n 0, 1) := by decide +kernel
theorem dL_areBlocksRight_463 : decode cL_areBlocksRight 463 = .ok (.iload 6, 2) := by decide +kernel
theorem dL_areBlocksRight_465 : decode cL_areBlocksRight 465 = .ok (.invokevirtual 94, 3) := by decide +kernel
theorem dL_areBlocksRight_468 : decode cL_areBlocksRight 468 = .ok (.ifCond .eq 7, 3) := by decide +kernel
theorem dL_areBlocksRight_471 : decode cL_areBlocksRight 471 = .ok (.iconst 1, 1) := by decide +kernel
theorem dL_areBlocksRight_472 : decode cL_areBlocksRight 472 = .ok (.goto 4, 3) := by decide +kernel
theorem dL_areBlocksRight_475 : decode cL_areBlocksRight 475 = .ok (.iconst 0, 1) := by decide +kernel
theorem dL_areBlocksRight_476 : decode cL_areBlocksRight 476 = .ok (.iadd, 1) := by decide +kernel
theorem dL_areBlocksRight_477 : decode cL_areBlocksRight 477 = .ok (.istore 4, 2) := by decide +kernel
theorem dL_areBlocksRight_479 : decode cL_areBlocksRight 479 = .ok (.iload 7, 2) := by decide +kernel
theorem dL_areBlocksRight_481 : decode cL_areBlocksRight 481 = .ok (.ifCond .lt 21, 3) := by decide +kernel
theorem dL_areBlocksRight_484 : decode cL_areBlocksRight 484 = .ok (.aload_n 0, 1) := by decide +kernel
theorem dL_areBlocksRight_485 : decode cL_areBlocksRight 485 = .ok (.iload 6, 2) := by decide +kernel
theorem dL_areBlocksRight_487 : decode cL_areBlocksRight 487 = .ok (.invokevirtual 94, 3) := by decide +kernel
theorem dL_areBlocksRight_490 : decode cL_areBlocksRight 490 = .ok (.ifCond .eq 12, 3) := by decide +kernel
theorem dL_areBlocksRight_493 : decode cL_areBlocksRight 493 = .ok (.aload_n 0, 1) := by decide +kernel
theorem dL_areBlocksRight_494 : decode cL_areBlocksRight 494 = .ok (.iload 7, 2) := by decide +kernel
theorem dL_areBlocksRight_496 : decode cL_areBlocksRight 496 = .ok (.invokevirtual 94, 3) := by decide +kernel
theorem dL_areBlocksRight_499 : decode cL_areBlocksRight 499 = .ok (.ifCond .eq 32, 3) := by decide +kernel
theorem dL_areBlocksRight_502 : decode cL_areBlocksRight 502 = .ok (.aload_n 0, 1) := by decide +kernel
theorem dL_areBlocksRight_503 : decode cL_areBlocksRight 503 = .ok (.iload 5, 2) := by decide +kernel
theorem dL_areBlocksRight_505 : decode cL_areBlocksRight 505 = .ok (.invokevirtual 132, 3) := by decide +kernel
theorem dL_areBlocksRight_508 : decode cL_areBlocksRight 508 = .ok (.ifCond .eq 25, 3) := by decide +kernel
theorem dL_areBlocksRight_511 : decode cL_areBlocksRight 511 = .ok (.aload_n 0, 1) := by decide +kernel
theorem dL_areBlocksRight_512 : decode cL_areBlocksRight 512 = .ok (.iload 7, 2) := by decide +kernel
theorem dL_areBlocksRight_514 : decode cL_areBlocksRight 514 = .ok (.iload 6, 2) := by decide +kernel
theorem dL_areBlocksRight_516 : decode cL_areBlocksRight 516 = .ok (.invokevirtual 104, 3) := by decide +kernel
theorem dL_areBlocksRight_519 : decode cL_areBlocksRight 519 = .ok (.ifCond .eq 12, 3) := by decide +kernel
theorem dL_areBlocksRight_522 : decode cL_areBlocksRight 522 = .ok (.aload_n 0, 1) := by decide +kernel
theorem dL_areBlocksRight_523 : decode cL_areBlocksRight 523 = .ok (.iload 7, 2) := by decide +kernel
theorem dL_areBlocksRight_525 : decode cL_areBlocksRight 525 = .ok (.invokevirtual 98, 3) := by decide +kernel
theorem dL_areBlocksRight_528 : decode cL_areBlocksRight 528 = .ok (.ifCond .ne 5, 3) := by decide +kernel
theorem dL_areBlocksRight_533 : decode cL_areBlocksRight 533 = .ok (.iinc 5 1, 3) := by decide +kernel
theorem dL_areBlocksRight_536 : decode cL_areBlocksRight 536 = .ok (.goto (-156), 3) := by decide +kernel
theorem dL_areBlocksRight_539 : decode cL_areBlocksRight 539 = .ok (.aload_n 0, 1) := by decide +kernel
theorem dL_areBlocksRight_540 : decode cL_areBlocksRight 540 = .ok (.invokevirtual 120, 3) := by decide +kernel
theorem dL_areBlocksRight_543 : decode cL_areBlocksRight 543 = .ok (.iload_n 2, 1) := by decide +kernel
theorem dL_areBlocksRight_544 : decode cL_areBlocksRight 544 = .ok (.if_icmp .ne 40, 3) := by decide +kernel
theorem dL_areBlocksRight_547 : decode cL_areBlocksRight 547 = .ok (.aload_n 0, 1) := by decide +kernel
theorem dL_areBlocksRight_548 : decode cL_areBlocksRight 548 = .ok (.invokevirtual 135, 3) := by decide +kernel
theorem dL_areBlocksRight_551 : decode cL_areBlocksRight 551 = .ok (.iload_n 3, 1) := by decide +kernel
theorem dL_areBlocksRight_552 : decode cL_areBlocksRight 552 = .ok (.if_icmp .ne 32, 3) := by decide +kernel
theorem dL_areBlocksRight_555 : decode cL_areBlocksRight 555 = .ok (.aload_n 0, 1) := by decide +kernel
theorem dL_areBlocksRight_556 : decode cL_areBlocksRight 556 = .ok (.invokevirtual 138, 3) := by decide +kernel
theorem dL_areBlocksRight_559 : decode cL_areBlocksRight 559 = .ok (.iload_n 3, 1) := by decide +kernel
theorem dL_areBlocksRight_560 : decode cL_areBlocksRight 560 = .ok (.iconst 1, 1) := by decide +kernel
theorem dL_areBlocksRight_561 : decode cL_areBlocksRight 561 = .ok (.if_icmp .ne 7, 3) := by decide +kernel
theorem dL_areBlocksRight_564 : decode cL_areBlocksRight 564 = .ok (.iconst 1, 1) := by decide +kernel
theorem dL_areBlocksRight_565 : decode cL_areBlocksRight 565 = .ok (.goto 4, 3) := by decide +kernel
theorem dL_areBlocksRight_568 : decode cL_areBlocksRight 568 = .ok (.iconst 0, 1) := by decide +kernel
theorem dL_areBlocksRight_569 : decode cL_areBlocksRight 569 = .ok (.if_icmp .ne 15, 3) := by decide +kernel
theorem dL_areBlocksRight_572 : decode cL_areBlocksRight 572 = .ok (.aload_n 0, 1) := by decide +kernel
theorem dL_areBlocksRight_573 : decode cL_areBlocksRight 573 = .ok (.invokevirtual 142, 3) := by decide +kernel
theorem dL_areBlocksRight_576 : decode cL_areBlocksRight 576 = .ok (.ifCond .ne 10, 3) := by decide +kernel
theorem dL_areBlocksRight_579 : decode cL_areBlocksRight 579 = .ok (.iload_n 3, 1) := by decide +kernel
theorem dL_areBlocksRight_580 : decode cL_areBlocksRight 580 = .ok (.iload_n 1, 1) := by decide +kernel
theorem dL_areBlocksRight_581 : decode cL_areBlocksRight 581 = .ok (.if_icmp .ge 5, 3) := by decide +kernel
theorem dL_areBlocksRight_586 : decode cL_areBlocksRight 586 = .ok (.aload_n 0, 1) := by decide +kernel
theorem dL_areBlocksRight_587 : decode cL_areBlocksRight 587 = .ok (.invokevirtual 33, 3) := by decide +kernel
theorem dL_areBlocksRight_590 : decode cL_areBlocksRight 590 = .ok (.ifCond .ne 18, 3) := by decide +kernel
theorem dL_areBlocksRight_593 : decode cL_areBlocksRight 593 = .ok (.aload_n 0, 1) := by decide +kernel
theorem dL_areBlocksRight_594 : decode cL_areBlocksRight 594 = .ok (.invokevirtual 145, 3) := by decide +kernel
theorem dL_areBlocksRight_597 : decode cL_areBlocksRight 597 = .ok (.ifCond .ne 7, 3) := by decide +kernel
theorem dL_areBlocksRight_600 : decode cL_areBlocksRight 600 = .ok (.iconst 1, 1) := by decide +kernel
theorem dL_areBlocksRight_601 : decode cL_areBlocksRight 601 = .ok (.goto 25, 3) := by decide +kernel
theorem dL_areBlocksRight_608 : decode cL_areBlocksRight 608 = .ok (.aload_n 0, 1) := by decide +kernel
theorem dL_areBlocksRight_609 : decode cL_areBlocksRight 609 = .ok (.invokevirtual 145, 3) := by decide +kernel
theorem dL_areBlocksRight_612 : decode cL_areBlocksRight 612 = .ok (.iload 4, 2) := by decide +kernel
theorem dL_areBlocksRight_614 : decode cL_areBlocksRight 614 = .ok (.iload_n 1, 1) := by decide +kernel
theorem dL_areBlocksRight_615 : decode cL_areBlocksRight 615 = .ok (.isub, 1) := by decide +kernel
theorem dL_areBlocksRight_616 : decode cL_areBlocksRight 616 = .ok (.iconst 1, 1) := by decide +kernel
theorem dL_areBlocksRight_617 : decode cL_areBlocksRight 617 = .ok (.iadd, 1) := by decide +kernel
theorem dL_areBlocksRight_618 : decode cL_areBlocksRight 618 = .ok (.if_icmp .ne 7, 3) := by decide +kernel
theorem dL_areBlocksRight_621 : decode cL_areBlocksRight 621 = .ok (.iconst 1, 1) := by decide +kernel
theorem dL_areBlocksRight_622 : decode cL_areBlocksRight 622 = .ok (.goto 4, 3) := by decide +kernel
theorem dL_areBlocksRight_626 : decode cL_areBlocksRight 626 = .ok (.ireturn, 1) := by decide +kernel
theorem mw_585 : Cond.code yX7_blocks cX7_blocks 1 (some Jvm.ClassFile.FieldType.int) ∈ GW := gw_mem (inT4 _ (List.mem_of_getElem? (i := 150) rfl)) rfl
theorem mw_586 : Cond.methodLink RL 82 yX7_blocks ∈ GW := gw_mem (inT4 _ (List.mem_of_getElem? (i := 147) rfl)) rfl
theorem mw_587 : Cond.instanceMethod yX7_blocks ∈ GW := gw_mem (inT4 _ (List.mem_of_getElem? (i := 148) rfl)) rfl
theorem mw_588 : Cond.selects RX7 yX7_blocks yX7_blocks ∈ GW := gw_mem (inT4 _ (List.mem_of_getElem? (i := 149) rfl)) rfl
theorem mw_589 : Cond.code yX7_edges cX7_edges 1 (some Jvm.ClassFile.FieldType.int) ∈ GW := gw_mem (inT4 _ (List.mem_of_getElem? (i := 205) rfl)) rfl
theorem mw_590 : Cond.methodLink RL 123 yX7_edges ∈ GW := gw_mem (inT4 _ (List.mem_of_getElem? (i := 202) rfl)) rfl
theorem mw_591 : Cond.instanceMethod yX7_edges ∈ GW := gw_mem (inT4 _ (List.mem_of_getElem? (i := 203) rfl)) rfl
theorem mw_592 : Cond.selects RX7 yX7_edges yX7_edges ∈ GW := gw_mem (inT4 _ (List.mem_of_getElem? (i := 204) rfl)) rfl
theorem mw_593 : Cond.code yX7_loops cX7_loops 1 (some Jvm.ClassFile.FieldType.int) ∈ GW := gw_mem (inT4 _ (List.mem_of_getElem? (i := 201) rfl)) rfl
theorem mw_594 : Cond.methodLink RL 120 yX7_loops ∈ GW := gw_mem (inT4 _ (List.mem_of_getElem? (i := 198) rfl)) rfl
theorem mw_595 : Cond.instanceMethod yX7_loops ∈ GW := gw_mem (inT4 _ (List.mem_of_getElem? (i := 199) rfl)) rfl
theorem mw_596 : Cond.selects RX7 yX7_loops yX7_loops ∈ GW := gw_mem (inT4 _ (List.mem_of_getElem? (i := 200) rfl)) rfl
theorem mw_597 : Cond.code yX7_left cX7_left 1 (some Jvm.ClassFile.FieldType.int) ∈ GW := gw_mem (inT4 _ (List.mem_of_getElem? (i := 226) rfl)) rfl
theorem mw_598 : Cond.methodLink RL 135 yX7_left ∈ GW := gw_mem (inT4 _ (List.mem_of_getElem? (i := 223) rfl)) rfl
theorem mw_599 : Cond.instanceMethod yX7_left ∈ GW := gw_mem (inT4 _ (List.mem_of_getElem? (i := 224) rfl)) rfl
theorem mw_600 : Cond.selects RX7 yX7_left yX7_left ∈ GW := gw_mem (inT4 _ (List.mem_of_getElem? (i := 225) rfl)) rfl
theorem mw_601 : Cond.code yX7_isNeat cX7_isNeat 1 (some Jvm.ClassFile.FieldType.boolean) ∈ GW := gw_mem (inT4 _ (List.mem_of_getElem? (i := 230) rfl)) rfl
theorem mw_602 : Cond.methodLink RL 138 yX7_isNeat ∈ GW := gw_mem (inT4 _ (List.mem_of_getElem? (i := 227) rfl)) rfl
theorem mw_603 : Cond.instanceMethod yX7_isNeat ∈ GW := gw_mem (inT4 _ (List.mem_of_getElem? (i := 228) rfl)) rfl
theorem mw_604 : Cond.selects RX7 yX7_isNeat yX7_isNeat ∈ GW := gw_mem (inT4 _ (List.mem_of_getElem? (i := 229) rfl)) rfl
theorem mw_605 : Cond.code yX7_steps cX7_steps 1 (some Jvm.ClassFile.FieldType.int) ∈ GW := gw_mem (inT4 _ (List.mem_of_getElem? (i := 234) rfl)) rfl
theorem mw_606 : Cond.methodLink RL 142 yX7_steps ∈ GW := gw_mem (inT4 _ (List.mem_of_getElem? (i := 231) rfl)) rfl
theorem mw_607 : Cond.instanceMethod yX7_steps ∈ GW := gw_mem (inT4 _ (List.mem_of_getElem? (i := 232) rfl)) rfl
theorem mw_608 : Cond.selects RX7 yX7_steps yX7_steps ∈ GW := gw_mem (inT4 _ (List.mem_of_getElem? (i := 233) rfl)) rfl
theorem mw_609 : Cond.code yX7_windings cX7_windings 1 (some Jvm.ClassFile.FieldType.int) ∈ GW := gw_mem (inT4 _ (List.mem_of_getElem? (i := 238) rfl)) rfl
theorem mw_610 : Cond.methodLink RL 145 yX7_windings ∈ GW := gw_mem (inT4 _ (List.mem_of_getElem? (i := 235) rfl)) rfl
theorem mw_611 : Cond.instanceMethod yX7_windings ∈ GW := gw_mem (inT4 _ (List.mem_of_getElem? (i := 236) rfl)) rfl
theorem mw_612 : Cond.selects RX7 yX7_windings yX7_windings ∈ GW := gw_mem (inT4 _ (List.mem_of_getElem? (i := 237) rfl)) rfl
theorem mw_613 : Cond.code yX7_edgeFrom cX7_edgeFrom 2 (some Jvm.ClassFile.FieldType.int) ∈ GW := gw_mem (inT4 _ (List.mem_of_getElem? (i := 209) rfl)) rfl
theorem mw_614 : Cond.methodLink RL 126 yX7_edgeFrom ∈ GW := gw_mem (inT4 _ (List.mem_of_getElem? (i := 206) rfl)) rfl
theorem mw_615 : Cond.instanceMethod yX7_edgeFrom ∈ GW := gw_mem (inT4 _ (List.mem_of_getElem? (i := 207) rfl)) rfl
theorem mw_616 : Cond.selects RX7 yX7_edgeFrom yX7_edgeFrom ∈ GW := gw_mem (inT4 _ (List.mem_of_getElem? (i := 208) rfl)) rfl
theorem mw_617 : Cond.code yX7_edgeTo cX7_edgeTo 2 (some Jvm.ClassFile.FieldType.int) ∈ GW := gw_mem (inT4 _ (List.mem_of_getElem? (i := 218) rfl)) rfl
theorem mw_618 : Cond.methodLink RL 129 yX7_edgeTo ∈ GW := gw_mem (inT4 _ (List.mem_of_getElem? (i := 215) rfl)) rfl
theorem mw_619 : Cond.instanceMethod yX7_edgeTo ∈ GW := gw_mem (inT4 _ (List.mem_of_getElem? (i := 216) rfl)) rfl
theorem mw_620 : Cond.selects RX7 yX7_edgeTo yX7_edgeTo ∈ GW := gw_mem (inT4 _ (List.mem_of_getElem? (i := 217) rfl)) rfl
theorem mw_621 : Cond.code yX7_isReached cX7_isReached 2 (some Jvm.ClassFile.FieldType.boolean) ∈ GW := gw_mem (inT4 _ (List.mem_of_getElem? (i := 168) rfl)) rfl
theorem mw_622 : Cond.methodLink RL 94 yX7_isReached ∈ GW := gw_mem (inT4 _ (List.mem_of_getElem? (i := 165) rfl)) rfl
theorem mw_623 : Cond.instanceMethod yX7_isReached ∈ GW := gw_mem (inT4 _ (List.mem_of_getElem? (i := 166) rfl)) rfl
theorem mw_624 : Cond.selects RX7 yX7_isReached yX7_isReached ∈ GW := gw_mem (inT4 _ (List.mem_of_getElem? (i := 167) rfl)) rfl
theorem mw_625 : Cond.code yX7_isBack cX7_isBack 2 (some Jvm.ClassFile.FieldType.boolean) ∈ GW := gw_mem (inT4 _ (List.mem_of_getElem? (i := 222) rfl)) rfl
theorem mw_626 : Cond.methodLink RL 132 yX7_isBack ∈ GW := gw_mem (inT4 _ (List.mem_of_getElem? (i := 219) rfl)) rfl
theorem mw_627 : Cond.instanceMethod yX7_isBack ∈ GW := gw_mem (inT4 _ (List.mem_of_getElem? (i := 220) rfl)) rfl
theorem mw_628 : Cond.selects RX7 yX7_isBack yX7_isBack ∈ GW := gw_mem (inT4 _ (List.mem_of_getElem? (i := 221) rfl)) rfl
theorem mw_629 : Cond.code yX7_dominates cX7_dominates 3 (some Jvm.ClassFile.FieldType.boolean) ∈ GW := gw_mem (inT4 _ (List.mem_of_getElem? (i := 180) rfl)) rfl
theorem mw_630 : Cond.methodLink RL 104 yX7_dominates ∈ GW := gw_mem (inT4 _ (List.mem_of_getElem? (i := 177) rfl)) rfl
theorem mw_631 : Cond.instanceMethod yX7_dominates ∈ GW := gw_mem (inT4 _ (List.mem_of_getElem? (i := 178) rfl)) rfl
theorem mw_632 : Cond.selects RX7 yX7_dominates yX7_dominates ∈ GW := gw_mem (inT4 _ (List.mem_of_getElem? (i := 179) rfl)) rfl
theorem mw_633 : Cond.code yX7_loopSize cX7_loopSize 2 (some Jvm.ClassFile.FieldType.int) ∈ GW := gw_mem (inT4 _ (List.mem_of_getElem? (i := 172) rfl)) rfl
theorem mw_634 : Cond.methodLink RL 98 yX7_loopSize ∈ GW := gw_mem (inT4 _ (List.mem_of_getElem? (i := 169) rfl)) rfl
theorem mw_635 : Cond.instanceMethod yX7_loopSize ∈ GW := gw_mem (inT4 _ (List.mem_of_getElem? (i := 170) rfl)) rfl
theorem mw_636 : Cond.selects RX7 yX7_loopSize yX7_loopSize ∈ GW := gw_mem (inT4 _ (List.mem_of_getElem? (i := 171) rfl)) rfl
theorem mw_637 : Cond.code yX7_parentOf cX7_parentOf 2 (some Jvm.ClassFile.FieldType.int) ∈ GW := gw_mem (inT4 _ (List.mem_of_getElem? (i := 164) rfl)) rfl
theorem mw_638 : Cond.methodLink RL 91 yX7_parentOf ∈ GW := gw_mem (inT4 _ (List.mem_of_getElem? (i := 161) rfl)) rfl
theorem mw_639 : Cond.instanceMethod yX7_parentOf ∈ GW := gw_mem (inT4 _ (List.mem_of_getElem? (i := 162) rfl)) rfl
theorem mw_640 : Cond.selects RX7 yX7_parentOf yX7_parentOf ∈ GW := gw_mem (inT4 _ (List.mem_of_getElem? (i := 163) rfl)) rfl
theorem mw_641 : Cond.code yX7_endsIn cX7_endsIn 2 (some Jvm.ClassFile.FieldType.int) ∈ GW := gw_mem (inT4 _ (List.mem_of_getElem? (i := 176) rfl)) rfl
theorem mw_642 : Cond.methodLink RL 101 yX7_endsIn ∈ GW := gw_mem (inT4 _ (List.mem_of_getElem? (i := 173) rfl)) rfl
theorem mw_643 : Cond.instanceMethod yX7_endsIn ∈ GW := gw_mem (inT4 _ (List.mem_of_getElem? (i := 174) rfl)) rfl
theorem mw_644 : Cond.selects RX7 yX7_endsIn yX7_endsIn ∈ GW := gw_mem (inT4 _ (List.mem_of_getElem? (i := 175) rfl)) rfl
theorem mw_645 : Cond.code yX7_liveIn cX7_liveIn 2 (some Jvm.ClassFile.FieldType.int) ∈ GW := gw_mem (inT4 _ (List.mem_of_getElem? (i := 185) rfl)) rfl
theorem mw_646 : Cond.methodLink RL 108 yX7_liveIn ∈ GW := gw_mem (inT4 _ (List.mem_of_getElem? (i := 182) rfl)) rfl
theorem mw_647 : Cond.instanceMethod yX7_liveIn ∈ GW := gw_mem (inT4 _ (List.mem_of_getElem? (i := 183) rfl)) rfl
theorem mw_648 : Cond.selects RX7 yX7_liveIn yX7_liveIn ∈ GW := gw_mem (inT4 _ (List.mem_of_getElem? (i := 184) rfl)) rfl
theorem mw_649 : Cond.code yX7_layerOf cX7_layerOf 2 (some Jvm.ClassFile.FieldType.int) ∈ GW := gw_mem (inT4 _ (List.mem_of_getElem? (i := 189) rfl)) rfl
theorem mw_650 : Cond.methodLink RL 111 yX7_layerOf ∈ GW := gw_mem (inT4 _ (List.mem_of_getElem? (i := 186) rfl)) rfl
theorem mw_651 : Cond.instanceMethod yX7_layerOf ∈ GW := gw_mem (inT4 _ (List.mem_of_getElem? (i := 187) rfl)) rfl
theorem mw_652 : Cond.selects RX7 yX7_layerOf yX7_layerOf ∈ GW := gw_mem (inT4 _ (List.mem_of_getElem? (i := 188) rfl)) rfl
theorem mw_653 : Cond.code yX7_depthOf cX7_depthOf 2 (some Jvm.ClassFile.FieldType.int) ∈ GW := gw_mem (inT4 _ (List.mem_of_getElem? (i := 193) rfl)) rfl
theorem mw_654 : Cond.methodLink RL 114 yX7_depthOf ∈ GW := gw_mem (inT4 _ (List.mem_of_getElem? (i := 190) rfl)) rfl
theorem mw_655 : Cond.instanceMethod yX7_depthOf ∈ GW := gw_mem (inT4 _ (List.mem_of_getElem? (i := 191) rfl)) rfl
theorem mw_656 : Cond.selects RX7 yX7_depthOf yX7_depthOf ∈ GW := gw_mem (inT4 _ (List.mem_of_getElem? (i := 192) rfl)) rfl
theorem mw_657 : Cond.code yX7_placeOf cX7_placeOf 2 (some Jvm.ClassFile.FieldType.int) ∈ GW := gw_mem (inT4 _ (List.mem_of_getElem? (i := 197) rfl)) rfl
theorem mw_658 : Cond.methodLink RL 117 yX7_placeOf ∈ GW := gw_mem (inT4 _ (List.mem_of_getElem? (i := 194) rfl)) rfl
theorem mw_659 : Cond.instanceMethod yX7_placeOf ∈ GW := gw_mem (inT4 _ (List.mem_of_getElem? (i := 195) rfl)) rfl
theorem mw_660 : Cond.selects RX7 yX7_placeOf yX7_placeOf ∈ GW := gw_mem (inT4 _ (List.mem_of_getElem? (i := 196) rfl)) rfl
theorem mw_661 : Cond.code yX7_blockOf cX7_blockOf 2 (some Jvm.ClassFile.FieldType.int) ∈ GW := gw_mem (inT4 _ (List.mem_of_getElem? (i := 146) rfl)) rfl
theorem mw_662 : Cond.methodLink RL 79 yX7_blockOf ∈ GW := gw_mem (inT4 _ (List.mem_of_getElem? (i := 143) rfl)) rfl
theorem mw_663 : Cond.instanceMethod yX7_blockOf ∈ GW := gw_mem (inT4 _ (List.mem_of_getElem? (i := 144) rfl)) rfl
theorem mw_664 : Cond.selects RX7 yX7_blockOf yX7_blockOf ∈ GW := gw_mem (inT4 _ (List.mem_of_getElem? (i := 145) rfl)) rfl
theorem mw_665 : Cond.methodLink RL 85 Lib.Math.min.name ∈ GW := gw_mem (inT4 _ (List.mem_of_getElem? (i := 151) rfl)) rfl
theorem mw_666 : Cond.code yX7_firstOf cX7_firstOf 2 (some Jvm.ClassFile.FieldType.int) ∈ GW := gw_mem (inT4 _ (List.mem_of_getElem? (i := 155) rfl)) rfl
theorem mw_667 : Cond.methodLink RL 88 yX7_firstOf ∈ GW := gw_mem (inT4 _ (List.mem_of_getElem? (i := 152) rfl)) rfl
theorem mw_668 : Cond.instanceMethod yX7_firstOf ∈ GW := gw_mem (inT4 _ (List.mem_of_getElem? (i := 153) rfl)) rfl
theorem mw_669 : Cond.selects RX7 yX7_firstOf yX7_firstOf ∈ GW := gw_mem (inT4 _ (List.mem_of_getElem? (i := 154) rfl)) rfl
theorem pdv_X7_blocks : yX7_blocks.cls = RX7 ∧ yX7_blocks.cls ≠ "java/lang/invoke/MethodHandle" ∧ yX7_blocks.cls ≠ "java/lang/invoke/VarHandle" ∧ (parseMethodDescriptor yX7_blocks.desc).map (fun d => d.parameters.length) = some 0 := by decide +kernel
theorem pdv_X7_edges : yX7_edges.cls = RX7 ∧ yX7_edges.cls ≠ "java/lang/invoke/MethodHandle" ∧ yX7_edges.cls ≠ "java/lang/invoke/VarHandle" ∧ (parseMethodDescriptor yX7_edges.desc).map (fun d => d.parameters.length) = some 0 := by decide +kernel
theorem pdv_X7_loops : yX7_loops.cls = RX7 ∧ yX7_loops.cls ≠ "java/lang/invoke/MethodHandle" ∧ yX7_loops.cls ≠ "java/lang/invoke/VarHandle" ∧ (parseMethodDescriptor yX7_loops.desc).map (fun d => d.parameters.length) = some 0 := by decide +kernel
theorem pdv_X7_left : yX7_left.cls = RX7 ∧ yX7_left.cls ≠ "java/lang/invoke/MethodHandle" ∧ yX7_left.cls ≠ "java/lang/invoke/VarHandle" ∧ (parseMethodDescriptor yX7_left.desc).map (fun d => d.parameters.length) = some 0 := by decide +kernel
theorem pdv_X7_isNeat : yX7_isNeat.cls = RX7 ∧ yX7_isNeat.cls ≠ "java/lang/invoke/MethodHandle" ∧ yX7_isNeat.cls ≠ "java/lang/invoke/VarHandle" ∧ (parseMethodDescriptor yX7_isNeat.desc).map (fun d => d.parameters.length) = some 0 := by decide +kernel
theorem pdv_X7_steps : yX7_steps.cls = RX7 ∧ yX7_steps.cls ≠ "java/lang/invoke/MethodHandle" ∧ yX7_steps.cls ≠ "java/lang/invoke/VarHandle" ∧ (parseMethodDescriptor yX7_steps.desc).map (fun d => d.parameters.length) = some 0 := by decide +kernel
theorem pdv_X7_windings : yX7_windings.cls = RX7 ∧ yX7_windings.cls ≠ "java/lang/invoke/MethodHandle" ∧ yX7_windings.cls ≠ "java/lang/invoke/VarHandle" ∧ (parseMethodDescriptor yX7_windings.desc).map (fun d => d.parameters.length) = some 0 := by decide +kernel
theorem pdv_X7_edgeFrom : yX7_edgeFrom.cls = RX7 ∧ yX7_edgeFrom.cls ≠ "java/lang/invoke/MethodHandle" ∧ yX7_edgeFrom.cls ≠ "java/lang/invoke/VarHandle" ∧ (parseMethodDescriptor yX7_edgeFrom.desc).map (fun d => d.parameters.length) = some 1 := by decide +kernel
theorem pdv_X7_edgeTo : yX7_edgeTo.cls = RX7 ∧ yX7_edgeTo.cls ≠ "java/lang/invoke/MethodHandle" ∧ yX7_edgeTo.cls ≠ "java/lang/invoke/VarHandle" ∧ (parseMethodDescriptor yX7_edgeTo.desc).map (fun d => d.parameters.length) = some 1 := by decide +kernel
theorem pdv_X7_isReached : yX7_isReached.cls = RX7 ∧ yX7_isReached.cls ≠ "java/lang/invoke/MethodHandle" ∧ yX7_isReached.cls ≠ "java/lang/invoke/VarHandle" ∧ (parseMethodDescriptor yX7_isReached.desc).map (fun d => d.parameters.length) = some 1 := by decide +kernel
theorem pdv_X7_isBack : yX7_isBack.cls = RX7 ∧ yX7_isBack.cls ≠ "java/lang/invoke/MethodHandle" ∧ yX7_isBack.cls ≠ "java/lang/invoke/VarHandle" ∧ (parseMethodDescriptor yX7_isBack.desc).map (fun d => d.parameters.length) = some 1 := by decide +kernel
theorem pdv_X7_dominates : yX7_dominates.cls = RX7 ∧ yX7_dominates.cls ≠ "java/lang/invoke/MethodHandle" ∧ yX7_dominates.cls ≠ "java/lang/invoke/VarHandle" ∧ (parseMethodDescriptor yX7_dominates.desc).map (fun d => d.parameters.length) = some 2 := by decide +kernel
theorem pdv_X7_loopSize : yX7_loopSize.cls = RX7 ∧ yX7_loopSize.cls ≠ "java/lang/invoke/MethodHandle" ∧ yX7_loopSize.cls ≠ "java/lang/invoke/VarHandle" ∧ (parseMethodDescriptor yX7_loopSize.desc).map (fun d => d.parameters.length) = some 1 := by decide +kernel
theorem pdv_X7_parentOf : yX7_parentOf.cls = RX7 ∧ yX7_parentOf.cls ≠ "java/lang/invoke/MethodHandle" ∧ yX7_parentOf.cls ≠ "java/lang/invoke/VarHandle" ∧ (parseMethodDescriptor yX7_parentOf.desc).map (fun d => d.parameters.length) = some 1 := by decide +kernel
theorem pdv_X7_endsIn : yX7_endsIn.cls = RX7 ∧ yX7_endsIn.cls ≠ "java/lang/invoke/MethodHandle" ∧ yX7_endsIn.cls ≠ "java/lang/invoke/VarHandle" ∧ (parseMethodDescriptor yX7_endsIn.desc).map (fun d => d.parameters.length) = some 1 := by decide +kernel
theorem pdv_X7_liveIn : yX7_liveIn.cls = RX7 ∧ yX7_liveIn.cls ≠ "java/lang/invoke/MethodHandle" ∧ yX7_liveIn.cls ≠ "java/lang/invoke/VarHandle" ∧ (parseMethodDescriptor yX7_liveIn.desc).map (fun d => d.parameters.length) = some 1 := by decide +kernel
theorem pdv_X7_layerOf : yX7_layerOf.cls = RX7 ∧ yX7_layerOf.cls ≠ "java/lang/invoke/MethodHandle" ∧ yX7_layerOf.cls ≠ "java/lang/invoke/VarHandle" ∧ (parseMethodDescriptor yX7_layerOf.desc).map (fun d => d.parameters.length) = some 1 := by decide +kernel
theorem pdv_X7_depthOf : yX7_depthOf.cls = RX7 ∧ yX7_depthOf.cls ≠ "java/lang/invoke/MethodHandle" ∧ yX7_depthOf.cls ≠ "java/lang/invoke/VarHandle" ∧ (parseMethodDescriptor yX7_depthOf.desc).map (fun d => d.parameters.length) = some 1 := by decide +kernel
theorem pdv_X7_placeOf : yX7_placeOf.cls = RX7 ∧ yX7_placeOf.cls ≠ "java/lang/invoke/MethodHandle" ∧ yX7_placeOf.cls ≠ "java/lang/invoke/VarHandle" ∧ (parseMethodDescriptor yX7_placeOf.desc).map (fun d => d.parameters.length) = some 1 := by decide +kernel
theorem pdv_X7_blockOf : yX7_blockOf.cls = RX7 ∧ yX7_blockOf.cls ≠ "java/lang/invoke/MethodHandle" ∧ yX7_blockOf.cls ≠ "java/lang/invoke/VarHandle" ∧ (parseMethodDescriptor yX7_blockOf.desc).map (fun d => d.parameters.length) = some 1 := by decide +kernel
theorem pdv_X7_firstOf : yX7_firstOf.cls = RX7 ∧ yX7_firstOf.cls ≠ "java/lang/invoke/MethodHandle" ∧ yX7_firstOf.cls ≠ "java/lang/invoke/VarHandle" ∧ (parseMethodDescriptor yX7_firstOf.desc).map (fun d => d.parameters.length) = some 1 := by decide +kernel
theorem b2t2 {x y : Bool} (h1 : x = true) (h2 : y = true) : b2i x = b2i y := by rw [h1, h2]
theorem b2f2 {x y : Bool} (h1 : ¬ x = true) (h2 : ¬ y = true) : b2i x = b2i y := by
  cases x
  · cases y
    · rfl
    · exact absurd rfl h2
  · exact absurd rfl h1
set_option maxHeartbeats 4000000 in
set_option maxRecDepth 100000 in
theorem c_areBlocksRight (l : Launch) (D : va_G) (cI cJ : ClassId) (ad : Nat → Nat) (co fl ra li re wa pi : Ob) (n cN E : Nat) (hm fs fr eg fe : Nat → Nat) (sd cc L : Nat) (ca ht ly : Nat → Nat) (hZ : AFX n cN E hm fs fr eg fe sd cc L ca ht ly co fl ra li re wa pi) : CT l D (TY cI cJ) yL_areBlocksRight (.code yL_areBlocksRight cL_areBlocksRight 8 (some Jvm.ClassFile.FieldType.boolean)) 8 0 0 (XW ad cI cJ co fl ra li re wa pi) [.ref (ad 0)] (QI D (TY cI cJ) (fun r u => r = 1 ∧ u = (XW ad cI cJ co fl ra li re wa pi))) := by
  refine ent (by decide) (Nat.le_of_ble_eq_true rfl) ?_
  intro p e s m below meth c ls A hx hb hr hg hown hml hlocks hnm hP hK hD hS hA hN hl
  have hl : lv_has ls 8 [(0, .ref (ad 0))] := hl
  refine lv_iconst (v := 0) hx hb dL_areBlocksRight_0 (by decide) ?_
  refine lv_istore_n (lv' := [(1, .int 0), (0, .ref (ad 0))]) hx hb dL_areBlocksRight_1 rfl hl (by decide) rfl (fun ls hl => ?_)
  refine lv_iconst (v := 0) hx hb dL_areBlocksRight_2 (by decide) ?_
  refine lv_istore_n (lv' := [(2, .int 0), (1, .int 0), (0, .ref (ad 0))]) hx hb dL_areBlocksRight_3 rfl hl (by decide) rfl (fun ls hl => ?_)
  refine lv_iconst (v := 0) hx hb dL_areBlocksRight_4 (by decide) ?_
  refine lv_istore_n (lv' := [(3, .int 0), (2, .int 0), (1, .int 0), (0, .ref (ad 0))]) hx hb dL_areBlocksRight_5 rfl hl (by decide) rfl (fun ls hl => ?_)
  refine lv_iconst (v := 0) hx hb dL_areBlocksRight_6 (by decide) ?_
  refine lv_istore (lv' := [(4, .int 0), (3, .int 0), (2, .int 0), (1, .int 0), (0, .ref (ad 0))]) hx hb dL_areBlocksRight_7 hl (by decide) rfl (fun ls hl => ?_)
  refine w_loop (σ := Unit) (fun (i_1 : Nat) (p_1 : Unit) (H : Heap) (locs : List Loc) (ls : Array Slot) => p_1 = () ∧ va_P D vwCl (XW ad cI cJ co fl ra li re wa pi) H ∧ va_D A (XW ad cI cJ co fl ra li re wa pi) ∧ va_S A s.heap H locs ∧ lv_has ls 8 [(0, .ref (ad 0)), (1, .int 0), (2, .int 0), (3, .int 0), (4, .int (nI i_1))]) (n) (fun p_1 H locs ls hI => ?_) (fun i_1 p_1 H locs ls hi_1 hI ih_1 => ?_) 0 () (Nat.zero_le _) ⟨rfl, hP, hD, hS, (by rw [nI_0]; exact lv_sub hl [4, 3, 2, 1, 0] rfl)⟩
  · obtain ⟨h_1, hP, hD, hS, hl⟩ := hI
    have h_1 := h_1.symm
    subst h_1
    have hP : va_P D vwCl (XW ad cI cJ co fl ra li re wa pi) H := hP
    have hD : va_D A (XW ad cI cJ co fl ra li re wa pi) := hD
    have hl : lv_has ls 8 [(0, .ref (ad 0)), (1, .int 0), (2, .int 0), (3, .int 0), (4, .int (nI n))] := hl
    refine lv_iload hx hb dL_areBlocksRight_9 (lv_at hl 4 rfl) ?_
    refine lv_aload_n hx hb dL_areBlocksRight_11 rfl (lv_at hl 0 rfl) ?_
    refine kI (rV (q0 := 0) (ci := 7) hx hb hml hown hg hN hK hP hD (c_instructions l D cI cJ ad co fl ra li re wa pi) mw_538 mw_539 mw_540 mw_541 mw_77 pdv_X7_instructions ⟨Nat.le_of_ble_eq_true rfl, Nat.le_of_ble_eq_true rfl⟩ rfl xo0 rfl hl.1 rfl (Nat.le_of_ble_eq_true rfl) dL_areBlocksRight_12 ⟨Nat.le_of_ble_eq_true rfl, Nat.le_of_ble_eq_true rfl⟩) hD hS hA (fun r_2 u_2 H locs hp hP hD hS => ?_)
    obtain ⟨er, eu⟩ := hp
    obtain rfl := er.symm
    obtain rfl := eu.symm
    refine lv_icmp_ge (tgt := 86) hx hb dL_areBlocksRight_15 (by decide) (fun _ => ?_) (fun c_15 => absurd (tst_out hZ.c0) c_15)
    refine lv_iconst (v := 0) hx hb dL_areBlocksRight_86 (by decide) ?_
    refine lv_istore (lv' := [(4, .int 0), (0, .ref (ad 0)), (1, .int 0), (2, .int 0), (3, .int 0)]) hx hb dL_areBlocksRight_87 hl (by decide) rfl (fun ls hl => ?_)
    refine w_loop (σ := Int32 × Int32 × Int32) (fun (i_3 : Nat) (p_3 : Int32 × Int32 × Int32) (H : Heap) (locs : List Loc) (ls : Array Slot) => p_3 = (lp (abS fl ra re) i_3 (0, 0, 0)) ∧ va_P D vwCl (XW ad cI cJ co fl ra li re wa pi) H ∧ va_D A (XW ad cI cJ co fl ra li re wa pi) ∧ va_S A s.heap H locs ∧ lv_has ls 8 [(0, .ref (ad 0)), (1, .int p_3.1), (2, .int p_3.2.1), (3, .int p_3.2.2), (4, .int (nI i_3))]) (cN) (fun p_3 H locs ls hI => ?_) (fun i_3 p_3 H locs ls hi_3 hI ih_3 => ?_) 0 (0, 0, 0) (Nat.zero_le _) ⟨(lp_0 _ _), hP, hD, hS, (by rw [nI_0]; exact lv_sub hl [1, 2, 3, 4, 0] rfl)⟩
    · obtain ⟨h_3, hP, hD, hS, hl⟩ := hI
      have h_3 := h_3.symm
      subst h_3
      have hP : va_P D vwCl (XW ad cI cJ co fl ra li re wa pi) H := hP
      have hD : va_D A (XW ad cI cJ co fl ra li re wa pi) := hD
      have hl : lv_has ls 8 [(0, .ref (ad 0)), (1, .int ((lp (abS fl ra re) (cN) (0, 0, 0)).1)), (2, .int ((lp (abS fl ra re) (cN) (0, 0, 0)).2.1)), (3, .int ((lp (abS fl ra re) (cN) (0, 0, 0)).2.2)), (4, .int (nI cN))] := hl
      refine lv_iload hx hb dL_areBlocksRight_89 (lv_at hl 4 rfl) ?_
      refine lv_aload_n hx hb dL_areBlocksRight_91 rfl (lv_at hl 0 rfl) ?_
      refine kI (rV (q0 := 0) (ci := 7) hx hb hml hown hg hN hK hP hD (a_blocks l D cI cJ ad co fl ra li re wa pi hZ.zf) mw_585 mw_586 mw_587 mw_588 mw_77 pdv_X7_blocks ⟨Nat.le_of_ble_eq_true rfl, Nat.le_of_ble_eq_true rfl⟩ rfl xo0 rfl hl.1 rfl (Nat.le_of_ble_eq_true rfl) dL_areBlocksRight_92 ⟨Nat.le_of_ble_eq_true rfl, Nat.le_of_ble_eq_true rfl⟩) hD hS hA (fun r_4 u_4 H locs hp hP hD hS => ?_)
      obtain ⟨er, eu⟩ := hp
      obtain rfl := er.symm
      obtain rfl := eu.symm
      refine lv_icmp_ge (tgt := 374) hx hb dL_areBlocksRight_95 (by decide) (fun _ => ?_) (fun c_95 => absurd (tst_out hZ.F.bc) c_95)
      refine lv_iconst (v := 0) hx hb dL_areBlocksRight_374 (by decide) ?_
      refine lv_istore (lv' := [(4, .int 0), (0, .ref (ad 0)), (1, .int ((lp (abS fl ra re) (cN) (0, 0, 0)).1)), (2, .int ((lp (abS fl ra re) (cN) (0, 0, 0)).2.1)), (3, .int ((lp (abS fl ra re) (cN) (0, 0, 0)).2.2))]) hx hb dL_areBlocksRight_375 hl (by decide) rfl (fun ls hl => ?_)
      refine lv_iconst (v := 0) hx hb dL_areBlocksRight_377 (by decide) ?_
      refine lv_istore (lv' := [(5, .int 0), (4, .int 0), (0, .ref (ad 0)), (1, .int ((lp (abS fl ra re) (cN) (0, 0, 0)).1)), (2, .int ((lp (abS fl ra re) (cN) (0, 0, 0)).2.1)), (3, .int ((lp (abS fl ra re) (cN) (0, 0, 0)).2.2))]) hx hb dL_areBlocksRight_378 hl (by decide) rfl (fun ls hl => ?_)
      refine w_loop (σ := Int32) (fun (i_5 : Nat) (p_5 : Int32) (H : Heap) (locs : List Loc) (ls : Array Slot) => p_5 = (lp (windStep fl) i_5 0) ∧ va_P D vwCl (XW ad cI cJ co fl ra li re wa pi) H ∧ va_D A (XW ad cI cJ co fl ra li re wa pi) ∧ va_S A s.heap H locs ∧ lv_has ls 8 [(0, .ref (ad 0)), (1, .int ((lp (abS fl ra re) (cN) (0, 0, 0)).1)), (2, .int ((lp (abS fl ra re) (cN) (0, 0, 0)).2.1)), (3, .int ((lp (abS fl ra re) (cN) (0, 0, 0)).2.2)), (4, .int p_5), (5, .int (nI i_5))]) (E) (fun p_5 H locs ls hI => ?_) (fun i_5 p_5 H locs ls hi_5 hI ih_5 => ?_) 0 0 (Nat.zero_le _) ⟨(lp_0 _ _), hP, hD, hS, (by rw [nI_0]; exact lv_sub hl [2, 3, 4, 5, 1, 0] rfl)⟩
      · obtain ⟨h_5, hP, hD, hS, hl⟩ := hI
        have h_5 := h_5.symm
        subst h_5
        have hP : va_P D vwCl (XW ad cI cJ co fl ra li re wa pi) H := hP
        have hD : va_D A (XW ad cI cJ co fl ra li re wa pi) := hD
        have hl : lv_has ls 8 [(0, .ref (ad 0)), (1, .int ((lp (abS fl ra re) (cN) (0, 0, 0)).1)), (2, .int ((lp (abS fl ra re) (cN) (0, 0, 0)).2.1)), (3, .int ((lp (abS fl ra re) (cN) (0, 0, 0)).2.2)), (4, .int ((lp (windStep fl) (E) 0))), (5, .int (nI E))] := hl
        refine lv_iload hx hb dL_areBlocksRight_380 (lv_at hl 5 rfl) ?_
        refine lv_aload_n hx hb dL_areBlocksRight_382 rfl (lv_at hl 0 rfl) ?_
        refine kI (rV (q0 := 0) (ci := 7) hx hb hml hown hg hN hK hP hD (a_edges l D cI cJ ad co fl ra li re wa pi hZ.zf) mw_589 mw_590 mw_591 mw_592 mw_77 pdv_X7_edges ⟨Nat.le_of_ble_eq_true rfl, Nat.le_of_ble_eq_true rfl⟩ rfl xo0 rfl hl.1 rfl (Nat.le_of_ble_eq_true rfl) dL_areBlocksRight_383 ⟨Nat.le_of_ble_eq_true rfl, Nat.le_of_ble_eq_true rfl⟩) hD hS hA (fun r_6 u_6 H locs hp hP hD hS => ?_)
        obtain ⟨er, eu⟩ := hp
        obtain rfl := er.symm
        obtain rfl := eu.symm
        refine lv_icmp_ge (tgt := 539) hx hb dL_areBlocksRight_386 (by decide) (fun _ => ?_) (fun c_386 => absurd (tst_out hZ.F.ec) c_386)
        refine lv_aload_n hx hb dL_areBlocksRight_539 rfl (lv_at hl 0 rfl) ?_
        refine kI (rV (q0 := 0) (ci := 7) hx hb hml hown hg hN hK hP hD (a_loops l D cI cJ ad co fl ra li re wa pi hZ.zr) mw_593 mw_594 mw_595 mw_596 mw_77 pdv_X7_loops ⟨Nat.le_of_ble_eq_true rfl, Nat.le_of_ble_eq_true rfl⟩ rfl xo0 rfl hl.1 rfl (Nat.le_of_ble_eq_true rfl) dL_areBlocksRight_540 ⟨Nat.le_of_ble_eq_true rfl, Nat.le_of_ble_eq_true rfl⟩) hD hS hA (fun r_7 u_7 H locs hp hP hD hS => ?_)
        obtain ⟨er, eu⟩ := hp
        obtain rfl := er.symm
        obtain rfl := eu.symm
        refine lv_iload_n hx hb dL_areBlocksRight_543 rfl (lv_at hl 2 rfl) ?_
        refine lv_icmp_ne (tgt := 584) hx hb dL_areBlocksRight_544 (by decide) (fun c_544 => absurd (congrArg (fun z : Int32 × Int32 × Int32 => z.2.1) (l2_sum hZ)).symm c_544) (fun _ => ?_)
        refine lv_aload_n hx hb dL_areBlocksRight_547 rfl (lv_at hl 0 rfl) ?_
        refine kI (rV (q0 := 0) (ci := 7) hx hb hml hown hg hN hK hP hD (a_left l D cI cJ ad co fl ra li re wa pi hZ.zd) mw_597 mw_598 mw_599 mw_600 mw_77 pdv_X7_left ⟨Nat.le_of_ble_eq_true rfl, Nat.le_of_ble_eq_true rfl⟩ rfl xo0 rfl hl.1 rfl (Nat.le_of_ble_eq_true rfl) dL_areBlocksRight_548 ⟨Nat.le_of_ble_eq_true rfl, Nat.le_of_ble_eq_true rfl⟩) hD hS hA (fun r_8 u_8 H locs hp hP hD hS => ?_)
        obtain ⟨er, eu⟩ := hp
        obtain rfl := er.symm
        obtain rfl := eu.symm
        refine lv_iload_n hx hb dL_areBlocksRight_551 rfl (lv_at hl 3 rfl) ?_
        refine lv_icmp_ne (tgt := 584) hx hb dL_areBlocksRight_552 (by decide) (fun c_552 => absurd (congrArg (fun z : Int32 × Int32 × Int32 => z.2.2) (l2_sum hZ)).symm c_552) (fun _ => ?_)
        refine lv_aload_n hx hb dL_areBlocksRight_555 rfl (lv_at hl 0 rfl) ?_
        refine kI (rV (q0 := 0) (ci := 7) hx hb hml hown hg hN hK hP hD (a_isNeat l D cI cJ ad co fl ra li re wa pi hZ.zd) mw_601 mw_602 mw_603 mw_604 mw_77 pdv_X7_isNeat ⟨Nat.le_of_ble_eq_true rfl, Nat.le_of_ble_eq_true rfl⟩ rfl xo0 rfl hl.1 rfl (Nat.le_of_ble_eq_true rfl) dL_areBlocksRight_556 ⟨Nat.le_of_ble_eq_true rfl, Nat.le_of_ble_eq_true rfl⟩) hD hS hA (fun r_9 u_9 H locs hp hP hD hS => ?_)
        obtain ⟨er, eu⟩ := hp
        obtain rfl := er.symm
        obtain rfl := eu.symm
        refine lv_iload_n hx hb dL_areBlocksRight_559 rfl (lv_at hl 3 rfl) ?_
        refine lv_iconst (v := 1) hx hb dL_areBlocksRight_560 (by decide) ?_
        refine lv_icmp_ne (tgt := 568) hx hb dL_areBlocksRight_561 (by decide) (fun c_561 => ?_) (fun c_561 => ?_)
        · refine lv_iconst (v := 0) hx hb dL_areBlocksRight_568 (by decide) ?_
          refine lv_icmp_ne (tgt := 584) hx hb dL_areBlocksRight_569 (by decide) (fun c_569 => absurd (neat_f (congrArg (fun z : Int32 × Int32 × Int32 => z.2.2) (l2_sum hZ)) c_561) c_569) (fun _ => ?_)
          refine lv_aload_n hx hb dL_areBlocksRight_572 rfl (lv_at hl 0 rfl) ?_
          refine kI (rV (q0 := 0) (ci := 7) hx hb hml hown hg hN hK hP hD (a_steps l D cI cJ ad co fl ra li re wa pi hZ.zd) mw_605 mw_606 mw_607 mw_608 mw_77 pdv_X7_steps ⟨Nat.le_of_ble_eq_true rfl, Nat.le_of_ble_eq_true rfl⟩ rfl xo0 rfl hl.1 rfl (Nat.le_of_ble_eq_true rfl) dL_areBlocksRight_573 ⟨Nat.le_of_ble_eq_true rfl, Nat.le_of_ble_eq_true rfl⟩) hD hS hA (fun r_10 u_10 H locs hp hP hD hS => ?_)
          obtain ⟨er, eu⟩ := hp
          obtain rfl := er.symm
          obtain rfl := eu.symm
          refine lv_if_ne (tgt := 586) hx hb dL_areBlocksRight_576 (by decide) (fun c_576 => ?_) (fun c_576 => ?_)
          · refine lv_aload_n hx hb dL_areBlocksRight_586 rfl (lv_at hl 0 rfl) ?_
            refine kI (rV (q0 := 0) (ci := 7) hx hb hml hown hg hN hK hP hD (c_instructions l D cI cJ ad co fl ra li re wa pi) mw_538 mw_539 mw_540 mw_541 mw_77 pdv_X7_instructions ⟨Nat.le_of_ble_eq_true rfl, Nat.le_of_ble_eq_true rfl⟩ rfl xo0 rfl hl.1 rfl (Nat.le_of_ble_eq_true rfl) dL_areBlocksRight_587 ⟨Nat.le_of_ble_eq_true rfl, Nat.le_of_ble_eq_true rfl⟩) hD hS hA (fun r_11 u_11 H locs hp hP hD hS => ?_)
            obtain ⟨er, eu⟩ := hp
            obtain rfl := er.symm
            obtain rfl := eu.symm
            refine lv_if_ne (tgt := 608) hx hb dL_areBlocksRight_590 (by decide) (fun c_590 => ?_) (fun c_590 => ?_)
            · refine lv_aload_n hx hb dL_areBlocksRight_608 rfl (lv_at hl 0 rfl) ?_
              refine kI (rV (q0 := 0) (ci := 7) hx hb hml hown hg hN hK hP hD (a_windings l D cI cJ ad co fl ra li re wa pi hZ.zf) mw_609 mw_610 mw_611 mw_612 mw_77 pdv_X7_windings ⟨Nat.le_of_ble_eq_true rfl, Nat.le_of_ble_eq_true rfl⟩ rfl xo0 rfl hl.1 rfl (Nat.le_of_ble_eq_true rfl) dL_areBlocksRight_609 ⟨Nat.le_of_ble_eq_true rfl, Nat.le_of_ble_eq_true rfl⟩) hD hS hA (fun r_12 u_12 H locs hp hP hD hS => ?_)
              obtain ⟨er, eu⟩ := hp
              obtain rfl := er.symm
              obtain rfl := eu.symm
              refine lv_iload hx hb dL_areBlocksRight_612 (lv_at hl 4 rfl) ?_
              refine lv_iload_n hx hb dL_areBlocksRight_614 rfl (lv_at hl 1 rfl) ?_
              refine lv_isub hx hb dL_areBlocksRight_615 ?_
              refine lv_iconst (v := 1) hx hb dL_areBlocksRight_616 (by decide) ?_
              refine lv_iadd hx hb dL_areBlocksRight_617 ?_
              refine lv_icmp_ne (tgt := 625) hx hb dL_areBlocksRight_618 (by decide) (fun c_618 => absurd (l2_w1 hZ c_590) c_618) (fun _ => ?_)
              refine lv_iconst (v := 1) hx hb dL_areBlocksRight_621 (by decide) ?_
              refine lv_goto (tgt := 626) hx hb dL_areBlocksRight_622 (by decide) ?_
              exact W.zret (v := 1) hx hb hr rfl (fun t ht hW => ⟨⟨1, (XW ad cI cJ co fl ra li re wa pi), rfl, ⟨rfl, rfl⟩, ⟨by rw [ht]; exact hP, va_K.moved hW.alike hK, hD⟩⟩, hS.F ht⟩) hS.2.2 dL_areBlocksRight_626
            · refine lv_aload_n hx hb dL_areBlocksRight_593 rfl (lv_at hl 0 rfl) ?_
              refine kI (rV (q0 := 0) (ci := 7) hx hb hml hown hg hN hK hP hD (a_windings l D cI cJ ad co fl ra li re wa pi hZ.zf) mw_609 mw_610 mw_611 mw_612 mw_77 pdv_X7_windings ⟨Nat.le_of_ble_eq_true rfl, Nat.le_of_ble_eq_true rfl⟩ rfl xo0 rfl hl.1 rfl (Nat.le_of_ble_eq_true rfl) dL_areBlocksRight_594 ⟨Nat.le_of_ble_eq_true rfl, Nat.le_of_ble_eq_true rfl⟩) hD hS hA (fun r_13 u_13 H locs hp hP hD hS => ?_)
              obtain ⟨er, eu⟩ := hp
              obtain rfl := er.symm
              obtain rfl := eu.symm
              refine lv_if_ne (tgt := 604) hx hb dL_areBlocksRight_597 (by decide) (fun c_597 => absurd (l2_w0 hZ c_590) c_597) (fun _ => ?_)
              refine lv_iconst (v := 1) hx hb dL_areBlocksRight_600 (by decide) ?_
              refine lv_goto (tgt := 626) hx hb dL_areBlocksRight_601 (by decide) ?_
              exact W.zret (v := 1) hx hb hr rfl (fun t ht hW => ⟨⟨1, (XW ad cI cJ co fl ra li re wa pi), rfl, ⟨rfl, rfl⟩, ⟨by rw [ht]; exact hP, va_K.moved hW.alike hK, hD⟩⟩, hS.F ht⟩) hS.2.2 dL_areBlocksRight_626
          · refine lv_iload_n hx hb dL_areBlocksRight_579 rfl (lv_at hl 3 rfl) ?_
            refine lv_iload_n hx hb dL_areBlocksRight_580 rfl (lv_at hl 1 rfl) ?_
            refine lv_icmp_ge (tgt := 586) hx hb dL_areBlocksRight_581 (by decide) (fun _ => ?_) (fun c_581 => absurd (l2_steps hZ c_576) c_581)
            refine lv_aload_n hx hb dL_areBlocksRight_586 rfl (lv_at hl 0 rfl) ?_
            refine kI (rV (q0 := 0) (ci := 7) hx hb hml hown hg hN hK hP hD (c_instructions l D cI cJ ad co fl ra li re wa pi) mw_538 mw_539 mw_540 mw_541 mw_77 pdv_X7_instructions ⟨Nat.le_of_ble_eq_true rfl, Nat.le_of_ble_eq_true rfl⟩ rfl xo0 rfl hl.1 rfl (Nat.le_of_ble_eq_true rfl) dL_areBlocksRight_587 ⟨Nat.le_of_ble_eq_true rfl, Nat.le_of_ble_eq_true rfl⟩) hD hS hA (fun r_14 u_14 H locs hp hP hD hS => ?_)
            obtain ⟨er, eu⟩ := hp
            obtain rfl := er.symm
            obtain rfl := eu.symm
            refine lv_if_ne (tgt := 608) hx hb dL_areBlocksRight_590 (by decide) (fun c_590 => ?_) (fun c_590 => ?_)
            · refine lv_aload_n hx hb dL_areBlocksRight_608 rfl (lv_at hl 0 rfl) ?_
              refine kI (rV (q0 := 0) (ci := 7) hx hb hml hown hg hN hK hP hD (a_windings l D cI cJ ad co fl ra li re wa pi hZ.zf) mw_609 mw_610 mw_611 mw_612 mw_77 pdv_X7_windings ⟨Nat.le_of_ble_eq_true rfl, Nat.le_of_ble_eq_true rfl⟩ rfl xo0 rfl hl.1 rfl (Nat.le_of_ble_eq_true rfl) dL_areBlocksRight_609 ⟨Nat.le_of_ble_eq_true rfl, Nat.le_of_ble_eq_true rfl⟩) hD hS hA (fun r_15 u_15 H locs hp hP hD hS => ?_)
              obtain ⟨er, eu⟩ := hp
              obtain rfl := er.symm
              obtain rfl := eu.symm
              refine lv_iload hx hb dL_areBlocksRight_612 (lv_at hl 4 rfl) ?_
              refine lv_iload_n hx hb dL_areBlocksRight_614 rfl (lv_at hl 1 rfl) ?_
              refine lv_isub hx hb dL_areBlocksRight_615 ?_
              refine lv_iconst (v := 1) hx hb dL_areBlocksRight_616 (by decide) ?_
              refine lv_iadd hx hb dL_areBlocksRight_617 ?_
              refine lv_icmp_ne (tgt := 625) hx hb dL_areBlocksRight_618 (by decide) (fun c_618 => absurd (l2_w1 hZ c_590) c_618) (fun _ => ?_)
              refine lv_iconst (v := 1) hx hb dL_areBlocksRight_621 (by decide) ?_
              refine lv_goto (tgt := 626) hx hb dL_areBlocksRight_622 (by decide) ?_
              exact W.zret (v := 1) hx hb hr rfl (fun t ht hW => ⟨⟨1, (XW ad cI cJ co fl ra li re wa pi), rfl, ⟨rfl, rfl⟩, ⟨by rw [ht]; exact hP, va_K.moved hW.alike hK, hD⟩⟩, hS.F ht⟩) hS.2.2 dL_areBlocksRight_626
            · refine lv_aload_n hx hb dL_areBlocksRight_593 rfl (lv_at hl 0 rfl) ?_
              refine kI (rV (q0 := 0) (ci := 7) hx hb hml hown hg hN hK hP hD (a_windings l D cI cJ ad co fl ra li re wa pi hZ.zf) mw_609 mw_610 mw_611 mw_612 mw_77 pdv_X7_windings ⟨Nat.le_of_ble_eq_true rfl, Nat.le_of_ble_eq_true rfl⟩ rfl xo0 rfl hl.1 rfl (Nat.le_of_ble_eq_true rfl) dL_areBlocksRight_594 ⟨Nat.le_of_ble_eq_true rfl, Nat.le_of_ble_eq_true rfl⟩) hD hS hA (fun r_16 u_16 H locs hp hP hD hS => ?_)
              obtain ⟨er, eu⟩ := hp
              obtain rfl := er.symm
              obtain rfl := eu.symm
              refine lv_if_ne (tgt := 604) hx hb dL_areBlocksRight_597 (by decide) (fun c_597 => absurd (l2_w0 hZ c_590) c_597) (fun _ => ?_)
              refine lv_iconst (v := 1) hx hb dL_areBlocksRight_600 (by decide) ?_
              refine lv_goto (tgt := 626) hx hb dL_areBlocksRight_601 (by decide) ?_
              exact W.zret (v := 1) hx hb hr rfl (fun t ht hW => ⟨⟨1, (XW ad cI cJ co fl ra li re wa pi), rfl, ⟨rfl, rfl⟩, ⟨by rw [ht]; exact hP, va_K.moved hW.alike hK, hD⟩⟩, hS.F ht⟩) hS.2.2 dL_areBlocksRight_626
        · refine lv_iconst (v := 1) hx hb dL_areBlocksRight_564 (by decide) ?_
          refine lv_goto (tgt := 569) hx hb dL_areBlocksRight_565 (by decide) ?_
          refine lv_icmp_ne (tgt := 584) hx hb dL_areBlocksRight_569 (by decide) (fun c_569 => absurd (neat_t (congrArg (fun z : Int32 × Int32 × Int32 => z.2.2) (l2_sum hZ)) c_561) c_569) (fun _ => ?_)
          refine lv_aload_n hx hb dL_areBlocksRight_572 rfl (lv_at hl 0 rfl) ?_
          refine kI (rV (q0 := 0) (ci := 7) hx hb hml hown hg hN hK hP hD (a_steps l D cI cJ ad co fl ra li re wa pi hZ.zd) mw_605 mw_606 mw_607 mw_608 mw_77 pdv_X7_steps ⟨Nat.le_of_ble_eq_true rfl, Nat.le_of_ble_eq_true rfl⟩ rfl xo0 rfl hl.1 rfl (Nat.le_of_ble_eq_true rfl) dL_areBlocksRight_573 ⟨Nat.le_of_ble_eq_true rfl, Nat.le_of_ble_eq_true rfl⟩) hD hS hA (fun r_17 u_17 H locs hp hP hD hS => ?_)
          obtain ⟨er, eu⟩ := hp
          obtain rfl := er.symm
          obtain rfl := eu.symm
          refine lv_if_ne (tgt := 586) hx hb dL_areBlocksRight_576 (by decide) (fun c_576 => ?_) (fun c_576 => ?_)
          · refine lv_aload_n hx hb dL_areBlocksRight_586 rfl (lv_at hl 0 rfl) ?_
            refine kI (rV (q0 := 0) (ci := 7) hx hb hml hown hg hN hK hP hD (c_instructions l D cI cJ ad co fl ra li re wa pi) mw_538 mw_539 mw_540 mw_541 mw_77 pdv_X7_instructions ⟨Nat.le_of_ble_eq_true rfl, Nat.le_of_ble_eq_true rfl⟩ rfl xo0 rfl hl.1 rfl (Nat.le_of_ble_eq_true rfl) dL_areBlocksRight_587 ⟨Nat.le_of_ble_eq_true rfl, Nat.le_of_ble_eq_true rfl⟩) hD hS hA (fun r_18 u_18 H locs hp hP hD hS => ?_)
            obtain ⟨er, eu⟩ := hp
            obtain rfl := er.symm
            obtain rfl := eu.symm
            refine lv_if_ne (tgt := 608) hx hb dL_areBlocksRight_590 (by decide) (fun c_590 => ?_) (fun c_590 => ?_)
            · refine lv_aload_n hx hb dL_areBlocksRight_608 rfl (lv_at hl 0 rfl) ?_
              refine kI (rV (q0 := 0) (ci := 7) hx hb hml hown hg hN hK hP hD (a_windings l D cI cJ ad co fl ra li re wa pi hZ.zf) mw_609 mw_610 mw_611 mw_612 mw_77 pdv_X7_windings ⟨Nat.le_of_ble_eq_true rfl, Nat.le_of_ble_eq_true rfl⟩ rfl xo0 rfl hl.1 rfl (Nat.le_of_ble_eq_true rfl) dL_areBlocksRight_609 ⟨Nat.le_of_ble_eq_true rfl, Nat.le_of_ble_eq_true rfl⟩) hD hS hA (fun r_19 u_19 H locs hp hP hD hS => ?_)
              obtain ⟨er, eu⟩ := hp
              obtain rfl := er.symm
              obtain rfl := eu.symm
              refine lv_iload hx hb dL_areBlocksRight_612 (lv_at hl 4 rfl) ?_
              refine lv_iload_n hx hb dL_areBlocksRight_614 rfl (lv_at hl 1 rfl) ?_
              refine lv_isub hx hb dL_areBlocksRight_615 ?_
              refine lv_iconst (v := 1) hx hb dL_areBlocksRight_616 (by decide) ?_
              refine lv_iadd hx hb dL_areBlocksRight_617 ?_
              refine lv_icmp_ne (tgt := 625) hx hb dL_areBlocksRight_618 (by decide) (fun c_618 => absurd (l2_w1 hZ c_590) c_618) (fun _ => ?_)
              refine lv_iconst (v := 1) hx hb dL_areBlocksRight_621 (by decide) ?_
              refine lv_goto (tgt := 626) hx hb dL_areBlocksRight_622 (by decide) ?_
              exact W.zret (v := 1) hx hb hr rfl (fun t ht hW => ⟨⟨1, (XW ad cI cJ co fl ra li re wa pi), rfl, ⟨rfl, rfl⟩, ⟨by rw [ht]; exact hP, va_K.moved hW.alike hK, hD⟩⟩, hS.F ht⟩) hS.2.2 dL_areBlocksRight_626
            · refine lv_aload_n hx hb dL_areBlocksRight_593 rfl (lv_at hl 0 rfl) ?_
              refine kI (rV (q0 := 0) (ci := 7) hx hb hml hown hg hN hK hP hD (a_windings l D cI cJ ad co fl ra li re wa pi hZ.zf) mw_609 mw_610 mw_611 mw_612 mw_77 pdv_X7_windings ⟨Nat.le_of_ble_eq_true rfl, Nat.le_of_ble_eq_true rfl⟩ rfl xo0 rfl hl.1 rfl (Nat.le_of_ble_eq_true rfl) dL_areBlocksRight_594 ⟨Nat.le_of_ble_eq_true rfl, Nat.le_of_ble_eq_true rfl⟩) hD hS hA (fun r_20 u_20 H locs hp hP hD hS => ?_)
              obtain ⟨er, eu⟩ := hp
              obtain rfl := er.symm
              obtain rfl := eu.symm
              refine lv_if_ne (tgt := 604) hx hb dL_areBlocksRight_597 (by decide) (fun c_597 => absurd (l2_w0 hZ c_590) c_597) (fun _ => ?_)
              refine lv_iconst (v := 1) hx hb dL_areBlocksRight_600 (by decide) ?_
              refine lv_goto (tgt := 626) hx hb dL_areBlocksRight_601 (by decide) ?_
              exact W.zret (v := 1) hx hb hr rfl (fun t ht hW => ⟨⟨1, (XW ad cI cJ co fl ra li re wa pi), rfl, ⟨rfl, rfl⟩, ⟨by rw [ht]; exact hP, va_K.moved hW.alike hK, hD⟩⟩, hS.F ht⟩) hS.2.2 dL_areBlocksRight_626
          · refine lv_iload_n hx hb dL_areBlocksRight_579 rfl (lv_at hl 3 rfl) ?_
            refine lv_iload_n hx hb dL_areBlocksRight_580 rfl (lv_at hl 1 rfl) ?_
            refine lv_icmp_ge (tgt := 586) hx hb dL_areBlocksRight_581 (by decide) (fun _ => ?_) (fun c_581 => absurd (l2_steps hZ c_576) c_581)
            refine lv_aload_n hx hb dL_areBlocksRight_586 rfl (lv_at hl 0 rfl) ?_
            refine kI (rV (q0 := 0) (ci := 7) hx hb hml hown hg hN hK hP hD (c_instructions l D cI cJ ad co fl ra li re wa pi) mw_538 mw_539 mw_540 mw_541 mw_77 pdv_X7_instructions ⟨Nat.le_of_ble_eq_true rfl, Nat.le_of_ble_eq_true rfl⟩ rfl xo0 rfl hl.1 rfl (Nat.le_of_ble_eq_true rfl) dL_areBlocksRight_587 ⟨Nat.le_of_ble_eq_true rfl, Nat.le_of_ble_eq_true rfl⟩) hD hS hA (fun r_21 u_21 H locs hp hP hD hS => ?_)
            obtain ⟨er, eu⟩ := hp
            obtain rfl := er.symm
            obtain rfl := eu.symm
            refine lv_if_ne (tgt := 608) hx hb dL_areBlocksRight_590 (by decide) (fun c_590 => ?_) (fun c_590 => ?_)
            · refine lv_aload_n hx hb dL_areBlocksRight_608 rfl (lv_at hl 0 rfl) ?_
              refine kI (rV (q0 := 0) (ci := 7) hx hb hml hown hg hN hK hP hD (a_windings l D cI cJ ad co fl ra li re wa pi hZ.zf) mw_609 mw_610 mw_611 mw_612 mw_77 pdv_X7_windings ⟨Nat.le_of_ble_eq_true rfl, Nat.le_of_ble_eq_true rfl⟩ rfl xo0 rfl hl.1 rfl (Nat.le_of_ble_eq_true rfl) dL_areBlocksRight_609 ⟨Nat.le_of_ble_eq_true rfl, Nat.le_of_ble_eq_true rfl⟩) hD hS hA (fun r_22 u_22 H locs hp hP hD hS => ?_)
              obtain ⟨er, eu⟩ := hp
              obtain rfl := er.symm
              obtain rfl := eu.symm
              refine lv_iload hx hb dL_areBlocksRight_612 (lv_at hl 4 rfl) ?_
              refine lv_iload_n hx hb dL_areBlocksRight_614 rfl (lv_at hl 1 rfl) ?_
              refine lv_isub hx hb dL_areBlocksRight_615 ?_
              refine lv_iconst (v := 1) hx hb dL_areBlocksRight_616 (by decide) ?_
              refine lv_iadd hx hb dL_areBlocksRight_617 ?_
              refine lv_icmp_ne (tgt := 625) hx hb dL_areBlocksRight_618 (by decide) (fun c_618 => absurd (l2_w1 hZ c_590) c_618) (fun _ => ?_)
              refine lv_iconst (v := 1) hx hb dL_areBlocksRight_621 (by decide) ?_
              refine lv_goto (tgt := 626) hx hb dL_areBlocksRight_622 (by decide) ?_
              exact W.zret (v := 1) hx hb hr rfl (fun t ht hW => ⟨⟨1, (XW ad cI cJ co fl ra li re wa pi), rfl, ⟨rfl, rfl⟩, ⟨by rw [ht]; exact hP, va_K.moved hW.alike hK, hD⟩⟩, hS.F ht⟩) hS.2.2 dL_areBlocksRight_626
            · refine lv_aload_n hx hb dL_areBlocksRight_593 rfl (lv_at hl 0 rfl) ?_
              refine kI (rV (q0 := 0) (ci := 7) hx hb hml hown hg hN hK hP hD (a_windings l D cI cJ ad co fl ra li re wa pi hZ.zf) mw_609 mw_610 mw_611 mw_612 mw_77 pdv_X7_windings ⟨Nat.le_of_ble_eq_true rfl, Nat.le_of_ble_eq_true rfl⟩ rfl xo0 rfl hl.1 rfl (Nat.le_of_ble_eq_true rfl) dL_areBlocksRight_594 ⟨Nat.le_of_ble_eq_true rfl, Nat.le_of_ble_eq_true rfl⟩) hD hS hA (fun r_23 u_23 H locs hp hP hD hS => ?_)
              obtain ⟨er, eu⟩ := hp
              obtain rfl := er.symm
              obtain rfl := eu.symm
              refine lv_if_ne (tgt := 604) hx hb dL_areBlocksRight_597 (by decide) (fun c_597 => absurd (l2_w0 hZ c_590) c_597) (fun _ => ?_)
              refine lv_iconst (v := 1) hx hb dL_areBlocksRight_600 (by decide) ?_
              refine lv_goto (tgt := 626) hx hb dL_areBlocksRight_601 (by decide) ?_
              exact W.zret (v := 1) hx hb hr rfl (fun t ht hW => ⟨⟨1, (XW ad cI cJ co fl ra li re wa pi), rfl, ⟨rfl, rfl⟩, ⟨by rw [ht]; exact hP, va_K.moved hW.alike hK, hD⟩⟩, hS.F ht⟩) hS.2.2 dL_areBlocksRight_626
      · obtain ⟨h_5, hP, hD, hS, hl⟩ := hI
        have hP : va_P D vwCl (XW ad cI cJ co fl ra li re wa pi) H := hP
        have hD : va_D A (XW ad cI cJ co fl ra li re wa pi) := hD
        have hl : lv_has ls 8 [(0, .ref (ad 0)), (1, .int ((lp (abS fl ra re) (cN) (0, 0, 0)).1)), (2, .int ((lp (abS fl ra re) (cN) (0, 0, 0)).2.1)), (3, .int ((lp (abS fl ra re) (cN) (0, 0, 0)).2.2)), (4, .int p_5), (5, .int (nI i_5))] := hl
        refine lv_iload hx hb dL_areBlocksRight_380 (lv_at hl 5 rfl) ?_
        refine lv_aload_n hx hb dL_areBlocksRight_382 rfl (lv_at hl 0 rfl) ?_
        refine kI (rV (q0 := 0) (ci := 7) hx hb hml hown hg hN hK hP hD (a_edges l D cI cJ ad co fl ra li re wa pi hZ.zf) mw_589 mw_590 mw_591 mw_592 mw_77 pdv_X7_edges ⟨Nat.le_of_ble_eq_true rfl, Nat.le_of_ble_eq_true rfl⟩ rfl xo0 rfl hl.1 rfl (Nat.le_of_ble_eq_true rfl) dL_areBlocksRight_383 ⟨Nat.le_of_ble_eq_true rfl, Nat.le_of_ble_eq_true rfl⟩) hD hS hA (fun r_24 u_24 H locs hp hP hD hS => ?_)
        obtain ⟨er, eu⟩ := hp
        obtain rfl := er.symm
        obtain rfl := eu.symm
        refine lv_icmp_ge (tgt := 539) hx hb dL_areBlocksRight_386 (by decide) (fun c_386 => absurd c_386 (tst_in hZ.F.ec hi_5 (by have := hZ.F.e57; omega))) (fun _ => ?_)
        refine lv_aload_n hx hb dL_areBlocksRight_389 rfl (lv_at hl 0 rfl) ?_
        refine lv_iload hx hb dL_areBlocksRight_390 (lv_at hl 5 rfl) ?_
        refine kI (rV (q0 := 0) (ci := 7) hx hb hml hown hg hN hK hP hD (a_edgeFrom l D cI cJ ad co fl ra li re wa pi (nI i_5) hZ.zf (e_lt hZ hi_5).1 (e_lt hZ hi_5).2) mw_613 mw_614 mw_615 mw_616 mw_77 pdv_X7_edgeFrom ⟨Nat.le_of_ble_eq_true rfl, Nat.le_of_ble_eq_true rfl⟩ rfl xo0 rfl hl.1 rfl (Nat.le_of_ble_eq_true rfl) dL_areBlocksRight_392 ⟨Nat.le_of_ble_eq_true rfl, Nat.le_of_ble_eq_true rfl⟩) hD hS hA (fun r_25 u_25 H locs hp hP hD hS => ?_)
        obtain ⟨er, eu⟩ := hp
        obtain rfl := er.symm
        obtain rfl := eu.symm
        refine lv_istore (lv' := [(6, .int (rd (gA fl 3) 80 (nI i_5))), (0, .ref (ad 0)), (1, .int ((lp (abS fl ra re) (cN) (0, 0, 0)).1)), (2, .int ((lp (abS fl ra re) (cN) (0, 0, 0)).2.1)), (3, .int ((lp (abS fl ra re) (cN) (0, 0, 0)).2.2)), (4, .int p_5), (5, .int (nI i_5))]) hx hb dL_areBlocksRight_395 hl (by decide) rfl (fun ls hl => ?_)
        refine lv_aload_n hx hb dL_areBlocksRight_397 rfl (lv_at hl 1 rfl) ?_
        refine lv_iload hx hb dL_areBlocksRight_398 (lv_at hl 6 rfl) ?_
        refine kI (rV (q0 := 0) (ci := 7) hx hb hml hown hg hN hK hP hD (a_edgeTo l D cI cJ ad co fl ra li re wa pi (nI i_5) hZ.zf (e_lt hZ hi_5).1 (e_lt hZ hi_5).2) mw_617 mw_618 mw_619 mw_620 mw_77 pdv_X7_edgeTo ⟨Nat.le_of_ble_eq_true rfl, Nat.le_of_ble_eq_true rfl⟩ rfl xo0 rfl hl.1 rfl (Nat.le_of_ble_eq_true rfl) dL_areBlocksRight_400 ⟨Nat.le_of_ble_eq_true rfl, Nat.le_of_ble_eq_true rfl⟩) hD hS hA (fun r_26 u_26 H locs hp hP hD hS => ?_)
        obtain ⟨er, eu⟩ := hp
        obtain rfl := er.symm
        obtain rfl := eu.symm
        refine lv_istore (lv' := [(7, .int (rd (gA fl 4) 80 (nI i_5))), (6, .int (rd (gA fl 3) 80 (nI i_5))), (0, .ref (ad 0)), (1, .int ((lp (abS fl ra re) (cN) (0, 0, 0)).1)), (2, .int ((lp (abS fl ra re) (cN) (0, 0, 0)).2.1)), (3, .int ((lp (abS fl ra re) (cN) (0, 0, 0)).2.2)), (4, .int p_5), (5, .int (nI i_5))]) hx hb dL_areBlocksRight_403 hl (by decide) rfl (fun ls hl => ?_)
        refine lv_iload hx hb dL_areBlocksRight_405 (lv_at hl 7 rfl) ?_
        refine lv_if_le (tgt := 449) hx hb dL_areBlocksRight_407 (by decide) (fun c_407 => ?_) (fun c_407 => ?_)
        · have c_407 : ¬ 0 < (nI i_5) := i_ge c_407
          refine lv_iload hx hb dL_areBlocksRight_449 (lv_at hl 0 rfl) ?_
          refine lv_aload_n hx hb dL_areBlocksRight_451 rfl (lv_at hl 2 rfl) ?_
          refine kI (rV (q0 := 0) (ci := 7) hx hb hml hown hg hN hK hP hD (a_blocks l D cI cJ ad co fl ra li re wa pi hZ.zf) mw_585 mw_586 mw_587 mw_588 mw_77 pdv_X7_blocks ⟨Nat.le_of_ble_eq_true rfl, Nat.le_of_ble_eq_true rfl⟩ rfl xo0 rfl hl.1 rfl (Nat.le_of_ble_eq_true rfl) dL_areBlocksRight_452 ⟨Nat.le_of_ble_eq_true rfl, Nat.le_of_ble_eq_true rfl⟩) hD hS hA (fun r_27 u_27 H locs hp hP hD hS => ?_)
          obtain ⟨er, eu⟩ := hp
          obtain rfl := er.symm
          obtain rfl := eu.symm
          refine lv_icmp_lt (tgt := 460) hx hb dL_areBlocksRight_455 (by decide) (fun _ => ?_) (fun c_455 => absurd (e_to hZ hi_5) c_455)
          refine lv_iload hx hb dL_areBlocksRight_460 (lv_at hl 6 rfl) ?_
          refine lv_aload_n hx hb dL_areBlocksRight_462 rfl (lv_at hl 2 rfl) ?_
          refine lv_iload hx hb dL_areBlocksRight_463 (lv_at hl 1 rfl) ?_
          refine kI (rV (q0 := 0) (ci := 7) hx hb hml hown hg hN hK hP hD (a_isReached l D cI cJ ad co fl ra li re wa pi (rd (gA fl 3) 80 (nI i_5)) hZ.zf (e_from hZ hi_5).1 (e_from hZ hi_5).2) mw_621 mw_622 mw_623 mw_624 mw_77 pdv_X7_isReached ⟨Nat.le_of_ble_eq_true rfl, Nat.le_of_ble_eq_true rfl⟩ rfl xo0 rfl hl.1 rfl (Nat.le_of_ble_eq_true rfl) dL_areBlocksRight_465 ⟨Nat.le_of_ble_eq_true rfl, Nat.le_of_ble_eq_true rfl⟩) hD hS hA (fun r_28 u_28 H locs hp hP hD hS => ?_)
          obtain ⟨er, eu⟩ := hp
          obtain rfl := er.symm
          obtain rfl := eu.symm
          refine lv_if_eq (tgt := 475) hx hb dL_areBlocksRight_468 (by decide) (fun c_468 => ?_) (fun c_468 => ?_)
          · have c_468 : ¬ (hs (gl fl 0) (rd (gA fl 3) 80 (nI i_5))) = true := b2i_0 c_468
            refine lv_iconst (v := 0) hx hb dL_areBlocksRight_475 (by decide) ?_
            refine lv_iadd hx hb dL_areBlocksRight_476 ?_
            refine lv_istore (lv' := [(4, .int (p_5 + 0)), (7, .int (rd (gA fl 4) 80 (nI i_5))), (6, .int (rd (gA fl 3) 80 (nI i_5))), (0, .ref (ad 0)), (1, .int ((lp (abS fl ra re) (cN) (0, 0, 0)).1)), (2, .int ((lp (abS fl ra re) (cN) (0, 0, 0)).2.1)), (3, .int ((lp (abS fl ra re) (cN) (0, 0, 0)).2.2)), (5, .int (nI i_5))]) hx hb dL_areBlocksRight_477 hl (by decide) rfl (fun ls hl => ?_)
            refine lv_iload hx hb dL_areBlocksRight_479 (lv_at hl 1 rfl) ?_
            refine lv_if_lt (tgt := 502) hx hb dL_areBlocksRight_481 (by decide) (fun c_481 => ?_) (fun c_481 => ?_)
            · refine lv_aload_n hx hb dL_areBlocksRight_502 rfl (lv_at hl 3 rfl) ?_
              refine lv_iload hx hb dL_areBlocksRight_503 (lv_at hl 7 rfl) ?_
              refine kI (rV (q0 := 0) (ci := 7) hx hb hml hown hg hN hK hP hD (a_isBack l D cI cJ ad co fl ra li re wa pi (nI i_5) hZ.zf hZ.zr (e_lt hZ hi_5).1 (e_lt hZ hi_5).2) mw_625 mw_626 mw_627 mw_628 mw_77 pdv_X7_isBack ⟨Nat.le_of_ble_eq_true rfl, Nat.le_of_ble_eq_true rfl⟩ rfl xo0 rfl hl.1 rfl (Nat.le_of_ble_eq_true rfl) dL_areBlocksRight_505 ⟨Nat.le_of_ble_eq_true rfl, Nat.le_of_ble_eq_true rfl⟩) hD hS hA (fun r_29 u_29 H locs hp hP hD hS => ?_)
              obtain ⟨er, eu⟩ := hp
              obtain rfl := er.symm
              obtain rfl := eu.symm
              refine lv_if_eq (tgt := 533) hx hb dL_areBlocksRight_508 (by decide) (fun _ => ?_) (fun c_508 => absurd (b2i_f (e_bk hZ c_481)) c_508)
              refine lv_iinc (v := (nI (i_5 + 1))) (lv' := [(5, .int (nI (i_5 + 1))), (4, .int (p_5 + 0)), (7, .int (rd (gA fl 4) 80 (nI i_5))), (6, .int (rd (gA fl 3) 80 (nI i_5))), (0, .ref (ad 0)), (1, .int ((lp (abS fl ra re) (cN) (0, 0, 0)).1)), (2, .int ((lp (abS fl ra re) (cN) (0, 0, 0)).2.1)), (3, .int ((lp (abS fl ra re) (cN) (0, 0, 0)).2.2))]) hx hb dL_areBlocksRight_533 hl (k := 7) rfl (nI_1 i_5) (by decide) rfl (fun ls hl => ?_)
              refine lv_goto (tgt := 380) hx hb dL_areBlocksRight_536 (by decide) ?_
              exact ih_5 (p_5 + 0) H locs ls ⟨((show (p_5 + 0) = (windStep fl) i_5 p_5 from (by simp only [windStep, Int32.add_zero, eq_false c_407, bf_of c_468, eq_true c_481, gi_sl, gi_sA, gi_sB, gi_si_s, gi_si_n, gl_si, gl_sA, gl_sB, gl_sl_s, gl_sl_n, gA_si, gA_sl, gA_sB, gA_sA_s, gA_sA_n, gB_si, gB_sl, gB_sA, gB_sB_s, gB_sB_n, Nat.reduceBEq, if_true, if_false, eq_self, Bool.false_eq_true, Bool.true_eq_false, not_true_eq_false, not_false_eq_true, decide_true, decide_false, cond_true, cond_false, Bool.true_and, Bool.false_and, Bool.and_true, Bool.and_false, Bool.true_or, Bool.false_or, Bool.or_true, Bool.or_false, b2i_tt, b2i_ff, pr_eta]; done)).trans (lp_go h_5)), hP, hD, hS, lv_sub hl [4, 5, 6, 7, 1, 0] rfl⟩
            · refine lv_aload_n hx hb dL_areBlocksRight_484 rfl (lv_at hl 3 rfl) ?_
              refine lv_iload hx hb dL_areBlocksRight_485 (lv_at hl 2 rfl) ?_
              refine kI (rV (q0 := 0) (ci := 7) hx hb hml hown hg hN hK hP hD (a_isReached l D cI cJ ad co fl ra li re wa pi (rd (gA fl 3) 80 (nI i_5)) hZ.zf (e_from hZ hi_5).1 (e_from hZ hi_5).2) mw_621 mw_622 mw_623 mw_624 mw_77 pdv_X7_isReached ⟨Nat.le_of_ble_eq_true rfl, Nat.le_of_ble_eq_true rfl⟩ rfl xo0 rfl hl.1 rfl (Nat.le_of_ble_eq_true rfl) dL_areBlocksRight_487 ⟨Nat.le_of_ble_eq_true rfl, Nat.le_of_ble_eq_true rfl⟩) hD hS hA (fun r_30 u_30 H locs hp hP hD hS => ?_)
              obtain ⟨er, eu⟩ := hp
              obtain rfl := er.symm
              obtain rfl := eu.symm
              refine lv_if_eq (tgt := 502) hx hb dL_areBlocksRight_490 (by decide) (fun _ => ?_) (fun c_490 => absurd (b2i_f c_468) c_490)
              refine lv_aload_n hx hb dL_areBlocksRight_502 rfl (lv_at hl 3 rfl) ?_
              refine lv_iload hx hb dL_areBlocksRight_503 (lv_at hl 7 rfl) ?_
              refine kI (rV (q0 := 0) (ci := 7) hx hb hml hown hg hN hK hP hD (a_isBack l D cI cJ ad co fl ra li re wa pi (nI i_5) hZ.zf hZ.zr (e_lt hZ hi_5).1 (e_lt hZ hi_5).2) mw_625 mw_626 mw_627 mw_628 mw_77 pdv_X7_isBack ⟨Nat.le_of_ble_eq_true rfl, Nat.le_of_ble_eq_true rfl⟩ rfl xo0 rfl hl.1 rfl (Nat.le_of_ble_eq_true rfl) dL_areBlocksRight_505 ⟨Nat.le_of_ble_eq_true rfl, Nat.le_of_ble_eq_true rfl⟩) hD hS hA (fun r_31 u_31 H locs hp hP hD hS => ?_)
              obtain ⟨er, eu⟩ := hp
              obtain rfl := er.symm
              obtain rfl := eu.symm
              refine lv_if_eq (tgt := 533) hx hb dL_areBlocksRight_508 (by decide) (fun c_508 => ?_) (fun c_508 => ?_)
              · have c_508 : ¬ (goesBack ra fl (nI i_5)) = true := b2i_0 c_508
                refine lv_iinc (v := (nI (i_5 + 1))) (lv' := [(5, .int (nI (i_5 + 1))), (4, .int (p_5 + 0)), (7, .int (rd (gA fl 4) 80 (nI i_5))), (6, .int (rd (gA fl 3) 80 (nI i_5))), (0, .ref (ad 0)), (1, .int ((lp (abS fl ra re) (cN) (0, 0, 0)).1)), (2, .int ((lp (abS fl ra re) (cN) (0, 0, 0)).2.1)), (3, .int ((lp (abS fl ra re) (cN) (0, 0, 0)).2.2))]) hx hb dL_areBlocksRight_533 hl (k := 7) rfl (nI_1 i_5) (by decide) rfl (fun ls hl => ?_)
                refine lv_goto (tgt := 380) hx hb dL_areBlocksRight_536 (by decide) ?_
                exact ih_5 (p_5 + 0) H locs ls ⟨((show (p_5 + 0) = (windStep fl) i_5 p_5 from (by simp only [windStep, Int32.add_zero, eq_false c_407, bf_of c_468, eq_false c_481, bf_of c_508, gi_sl, gi_sA, gi_sB, gi_si_s, gi_si_n, gl_si, gl_sA, gl_sB, gl_sl_s, gl_sl_n, gA_si, gA_sl, gA_sB, gA_sA_s, gA_sA_n, gB_si, gB_sl, gB_sA, gB_sB_s, gB_sB_n, Nat.reduceBEq, if_true, if_false, eq_self, Bool.false_eq_true, Bool.true_eq_false, not_true_eq_false, not_false_eq_true, decide_true, decide_false, cond_true, cond_false, Bool.true_and, Bool.false_and, Bool.and_true, Bool.and_false, Bool.true_or, Bool.false_or, Bool.or_true, Bool.or_false, b2i_tt, b2i_ff, pr_eta]; done)).trans (lp_go h_5)), hP, hD, hS, lv_sub hl [4, 5, 6, 7, 1, 0] rfl⟩
              · have c_508 : (goesBack ra fl (nI i_5)) = true := b2i_1 c_508
                refine lv_aload_n hx hb dL_areBlocksRight_511 rfl (lv_at hl 3 rfl) ?_
                refine lv_iload hx hb dL_areBlocksRight_512 (lv_at hl 1 rfl) ?_
                refine lv_iload hx hb dL_areBlocksRight_514 (lv_at hl 2 rfl) ?_
                refine kI (rV (q0 := 0) (ci := 7) hx hb hml hown hg hN hK hP hD (a_dominates l D cI cJ ad co fl ra li re wa pi (rd (gA fl 4) 80 (nI i_5)) (rd (gA fl 3) 80 (nI i_5)) hZ.zf hZ.zr c_481 (e_to hZ hi_5) (e_from hZ hi_5).1 (e_from hZ hi_5).2) mw_629 mw_630 mw_631 mw_632 mw_77 pdv_X7_dominates ⟨Nat.le_of_ble_eq_true rfl, Nat.le_of_ble_eq_true rfl⟩ rfl xo0 rfl hl.1 rfl (Nat.le_of_ble_eq_true rfl) dL_areBlocksRight_516 ⟨Nat.le_of_ble_eq_true rfl, Nat.le_of_ble_eq_true rfl⟩) hD hS hA (fun r_32 u_32 H locs hp hP hD hS => ?_)
                obtain ⟨er, eu⟩ := hp
                obtain rfl := er.symm
                obtain rfl := eu.symm
                refine lv_if_eq (tgt := 531) hx hb dL_areBlocksRight_519 (by decide) (fun c_519 => absurd c_519 (b2i_t (e_dm hZ c_481 c_508))) (fun _ => ?_)
                refine lv_aload_n hx hb dL_areBlocksRight_522 rfl (lv_at hl 3 rfl) ?_
                refine lv_iload hx hb dL_areBlocksRight_523 (lv_at hl 1 rfl) ?_
                refine kI (rV (q0 := 0) (ci := 7) hx hb hml hown hg hN hK hP hD (a_loopSize l D cI cJ ad co fl ra li re wa pi (rd (gA fl 4) 80 (nI i_5)) hZ.zf hZ.zr c_481 (e_to hZ hi_5)) mw_633 mw_634 mw_635 mw_636 mw_77 pdv_X7_loopSize ⟨Nat.le_of_ble_eq_true rfl, Nat.le_of_ble_eq_true rfl⟩ rfl xo0 rfl hl.1 rfl (Nat.le_of_ble_eq_true rfl) dL_areBlocksRight_525 ⟨Nat.le_of_ble_eq_true rfl, Nat.le_of_ble_eq_true rfl⟩) hD hS hA (fun r_33 u_33 H locs hp hP hD hS => ?_)
                obtain ⟨er, eu⟩ := hp
                obtain rfl := er.symm
                obtain rfl := eu.symm
                refine lv_if_ne (tgt := 533) hx hb dL_areBlocksRight_528 (by decide) (fun _ => ?_) (fun c_528 => absurd c_528 (e_lp hZ hi_5 c_481 c_508))
                refine lv_iinc (v := (nI (i_5 + 1))) (lv' := [(5, .int (nI (i_5 + 1))), (4, .int (p_5 + 0)), (7, .int (rd (gA fl 4) 80 (nI i_5))), (6, .int (rd (gA fl 3) 80 (nI i_5))), (0, .ref (ad 0)), (1, .int ((lp (abS fl ra re) (cN) (0, 0, 0)).1)), (2, .int ((lp (abS fl ra re) (cN) (0, 0, 0)).2.1)), (3, .int ((lp (abS fl ra re) (cN) (0, 0, 0)).2.2))]) hx hb dL_areBlocksRight_533 hl (k := 7) rfl (nI_1 i_5) (by decide) rfl (fun ls hl => ?_)
                refine lv_goto (tgt := 380) hx hb dL_areBlocksRight_536 (by decide) ?_
                exact ih_5 (p_5 + 0) H locs ls ⟨((show (p_5 + 0) = (windStep fl) i_5 p_5 from (by simp only [windStep, Int32.add_zero, eq_false c_407, bf_of c_468, eq_false c_481, c_508, gi_sl, gi_sA, gi_sB, gi_si_s, gi_si_n, gl_si, gl_sA, gl_sB, gl_sl_s, gl_sl_n, gA_si, gA_sl, gA_sB, gA_sA_s, gA_sA_n, gB_si, gB_sl, gB_sA, gB_sB_s, gB_sB_n, Nat.reduceBEq, if_true, if_false, eq_self, Bool.false_eq_true, Bool.true_eq_false, not_true_eq_false, not_false_eq_true, decide_true, decide_false, cond_true, cond_false, Bool.true_and, Bool.false_and, Bool.and_true, Bool.and_false, Bool.true_or, Bool.false_or, Bool.or_true, Bool.or_false, b2i_tt, b2i_ff, pr_eta]; done)).trans (lp_go h_5)), hP, hD, hS, lv_sub hl [4, 5, 6, 7, 1, 0] rfl⟩
          · have c_468 : (hs (gl fl 0) (rd (gA fl 3) 80 (nI i_5))) = true := b2i_1 c_468
            refine lv_iconst (v := 1) hx hb dL_areBlocksRight_471 (by decide) ?_
            refine lv_goto (tgt := 476) hx hb dL_areBlocksRight_472 (by decide) ?_
            refine lv_iadd hx hb dL_areBlocksRight_476 ?_
            refine lv_istore (lv' := [(4, .int (p_5 + 1)), (7, .int (rd (gA fl 4) 80 (nI i_5))), (6, .int (rd (gA fl 3) 80 (nI i_5))), (0, .ref (ad 0)), (1, .int ((lp (abS fl ra re) (cN) (0, 0, 0)).1)), (2, .int ((lp (abS fl ra re) (cN) (0, 0, 0)).2.1)), (3, .int ((lp (abS fl ra re) (cN) (0, 0, 0)).2.2)), (5, .int (nI i_5))]) hx hb dL_areBlocksRight_477 hl (by decide) rfl (fun ls hl => ?_)
            refine lv_iload hx hb dL_areBlocksRight_479 (lv_at hl 1 rfl) ?_
            refine lv_if_lt (tgt := 502) hx hb dL_areBlocksRight_481 (by decide) (fun c_481 => ?_) (fun c_481 => ?_)
            · refine lv_aload_n hx hb dL_areBlocksRight_502 rfl (lv_at hl 3 rfl) ?_
              refine lv_iload hx hb dL_areBlocksRight_503 (lv_at hl 7 rfl) ?_
              refine kI (rV (q0 := 0) (ci := 7) hx hb hml hown hg hN hK hP hD (a_isBack l D cI cJ ad co fl ra li re wa pi (nI i_5) hZ.zf hZ.zr (e_lt hZ hi_5).1 (e_lt hZ hi_5).2) mw_625 mw_626 mw_627 mw_628 mw_77 pdv_X7_isBack ⟨Nat.le_of_ble_eq_true rfl, Nat.le_of_ble_eq_true rfl⟩ rfl xo0 rfl hl.1 rfl (Nat.le_of_ble_eq_true rfl) dL_areBlocksRight_505 ⟨Nat.le_of_ble_eq_true rfl, Nat.le_of_ble_eq_true rfl⟩) hD hS hA (fun r_34 u_34 H locs hp hP hD hS => ?_)
              obtain ⟨er, eu⟩ := hp
              obtain rfl := er.symm
              obtain rfl := eu.symm
              refine lv_if_eq (tgt := 533) hx hb dL_areBlocksRight_508 (by decide) (fun _ => ?_) (fun c_508 => absurd (b2i_f (e_bk hZ c_481)) c_508)
              refine lv_iinc (v := (nI (i_5 + 1))) (lv' := [(5, .int (nI (i_5 + 1))), (4, .int (p_5 + 1)), (7, .int (rd (gA fl 4) 80 (nI i_5))), (6, .int (rd (gA fl 3) 80 (nI i_5))), (0, .ref (ad 0)), (1, .int ((lp (abS fl ra re) (cN) (0, 0, 0)).1)), (2, .int ((lp (abS fl ra re) (cN) (0, 0, 0)).2.1)), (3, .int ((lp (abS fl ra re) (cN) (0, 0, 0)).2.2))]) hx hb dL_areBlocksRight_533 hl (k := 7) rfl (nI_1 i_5) (by decide) rfl (fun ls hl => ?_)
              refine lv_goto (tgt := 380) hx hb dL_areBlocksRight_536 (by decide) ?_
              exact ih_5 (p_5 + 1) H locs ls ⟨((show (p_5 + 1) = (windStep fl) i_5 p_5 from (by simp only [windStep, Int32.add_zero, eq_false c_407, c_468, eq_true c_481, gi_sl, gi_sA, gi_sB, gi_si_s, gi_si_n, gl_si, gl_sA, gl_sB, gl_sl_s, gl_sl_n, gA_si, gA_sl, gA_sB, gA_sA_s, gA_sA_n, gB_si, gB_sl, gB_sA, gB_sB_s, gB_sB_n, Nat.reduceBEq, if_true, if_false, eq_self, Bool.false_eq_true, Bool.true_eq_false, not_true_eq_false, not_false_eq_true, decide_true, decide_false, cond_true, cond_false, Bool.true_and, Bool.false_and, Bool.and_true, Bool.and_false, Bool.true_or, Bool.false_or, Bool.or_true, Bool.or_false, b2i_tt, b2i_ff, pr_eta]; done)).trans (lp_go h_5)), hP, hD, hS, lv_sub hl [4, 5, 6, 7, 1, 0] rfl⟩
            · refine lv_aload_n hx hb dL_areBlocksRight_484 rfl (lv_at hl 3 rfl) ?_
              refine lv_iload hx hb dL_areBlocksRight_485 (lv_at hl 2 rfl) ?_
              refine kI (rV (q0 := 0) (ci := 7) hx hb hml hown hg hN hK hP hD (a_isReached l D cI cJ ad co fl ra li re wa pi (rd (gA fl 3) 80 (nI i_5)) hZ.zf (e_from hZ hi_5).1 (e_from hZ hi_5).2) mw_621 mw_622 mw_623 mw_624 mw_77 pdv_X7_isReached ⟨Nat.le_of_ble_eq_true rfl, Nat.le_of_ble_eq_true rfl⟩ rfl xo0 rfl hl.1 rfl (Nat.le_of_ble_eq_true rfl) dL_areBlocksRight_487 ⟨Nat.le_of_ble_eq_true rfl, Nat.le_of_ble_eq_true rfl⟩) hD hS hA (fun r_35 u_35 H locs hp hP hD hS => ?_)
              obtain ⟨er, eu⟩ := hp
              obtain rfl := er.symm
              obtain rfl := eu.symm
              refine lv_if_eq (tgt := 502) hx hb dL_areBlocksRight_490 (by decide) (fun c_490 => absurd c_490 (b2i_t c_468)) (fun _ => ?_)
              refine lv_aload_n hx hb dL_areBlocksRight_493 rfl (lv_at hl 3 rfl) ?_
              refine lv_iload hx hb dL_areBlocksRight_494 (lv_at hl 1 rfl) ?_
              refine kI (rV (q0 := 0) (ci := 7) hx hb hml hown hg hN hK hP hD (a_isReached l D cI cJ ad co fl ra li re wa pi (rd (gA fl 4) 80 (nI i_5)) hZ.zf c_481 (e_to hZ hi_5)) mw_621 mw_622 mw_623 mw_624 mw_77 pdv_X7_isReached ⟨Nat.le_of_ble_eq_true rfl, Nat.le_of_ble_eq_true rfl⟩ rfl xo0 rfl hl.1 rfl (Nat.le_of_ble_eq_true rfl) dL_areBlocksRight_496 ⟨Nat.le_of_ble_eq_true rfl, Nat.le_of_ble_eq_true rfl⟩) hD hS hA (fun r_36 u_36 H locs hp hP hD hS => ?_)
              obtain ⟨er, eu⟩ := hp
              obtain rfl := er.symm
              obtain rfl := eu.symm
              refine lv_if_eq (tgt := 531) hx hb dL_areBlocksRight_499 (by decide) (fun c_499 => absurd c_499 (b2i_t (e_rt hZ hi_5 c_481 c_468))) (fun _ => ?_)
              refine lv_aload_n hx hb dL_areBlocksRight_502 rfl (lv_at hl 3 rfl) ?_
              refine lv_iload hx hb dL_areBlocksRight_503 (lv_at hl 7 rfl) ?_
              refine kI (rV (q0 := 0) (ci := 7) hx hb hml hown hg hN hK hP hD (a_isBack l D cI cJ ad co fl ra li re wa pi (nI i_5) hZ.zf hZ.zr (e_lt hZ hi_5).1 (e_lt hZ hi_5).2) mw_625 mw_626 mw_627 mw_628 mw_77 pdv_X7_isBack ⟨Nat.le_of_ble_eq_true rfl, Nat.le_of_ble_eq_true rfl⟩ rfl xo0 rfl hl.1 rfl (Nat.le_of_ble_eq_true rfl) dL_areBlocksRight_505 ⟨Nat.le_of_ble_eq_true rfl, Nat.le_of_ble_eq_true rfl⟩) hD hS hA (fun r_37 u_37 H locs hp hP hD hS => ?_)
              obtain ⟨er, eu⟩ := hp
              obtain rfl := er.symm
              obtain rfl := eu.symm
              refine lv_if_eq (tgt := 533) hx hb dL_areBlocksRight_508 (by decide) (fun c_508 => ?_) (fun c_508 => ?_)
              · have c_508 : ¬ (goesBack ra fl (nI i_5)) = true := b2i_0 c_508
                refine lv_iinc (v := (nI (i_5 + 1))) (lv' := [(5, .int (nI (i_5 + 1))), (4, .int (p_5 + 1)), (7, .int (rd (gA fl 4) 80 (nI i_5))), (6, .int (rd (gA fl 3) 80 (nI i_5))), (0, .ref (ad 0)), (1, .int ((lp (abS fl ra re) (cN) (0, 0, 0)).1)), (2, .int ((lp (abS fl ra re) (cN) (0, 0, 0)).2.1)), (3, .int ((lp (abS fl ra re) (cN) (0, 0, 0)).2.2))]) hx hb dL_areBlocksRight_533 hl (k := 7) rfl (nI_1 i_5) (by decide) rfl (fun ls hl => ?_)
                refine lv_goto (tgt := 380) hx hb dL_areBlocksRight_536 (by decide) ?_
                exact ih_5 (p_5 + 1) H locs ls ⟨((show (p_5 + 1) = (windStep fl) i_5 p_5 from (by simp only [windStep, Int32.add_zero, eq_false c_407, c_468, eq_false c_481, bf_of c_508, gi_sl, gi_sA, gi_sB, gi_si_s, gi_si_n, gl_si, gl_sA, gl_sB, gl_sl_s, gl_sl_n, gA_si, gA_sl, gA_sB, gA_sA_s, gA_sA_n, gB_si, gB_sl, gB_sA, gB_sB_s, gB_sB_n, Nat.reduceBEq, if_true, if_false, eq_self, Bool.false_eq_true, Bool.true_eq_false, not_true_eq_false, not_false_eq_true, decide_true, decide_false, cond_true, cond_false, Bool.true_and, Bool.false_and, Bool.and_true, Bool.and_false, Bool.true_or, Bool.false_or, Bool.or_true, Bool.or_false, b2i_tt, b2i_ff, pr_eta]; done)).trans (lp_go h_5)), hP, hD, hS, lv_sub hl [4, 5, 6, 7, 1, 0] rfl⟩
              · have c_508 : (goesBack ra fl (nI i_5)) = true := b2i_1 c_508
                refine lv_aload_n hx hb dL_areBlocksRight_511 rfl (lv_at hl 3 rfl) ?_
                refine lv_iload hx hb dL_areBlocksRight_512 (lv_at hl 1 rfl) ?_
                refine lv_iload hx hb dL_areBlocksRight_514 (lv_at hl 2 rfl) ?_
                refine kI (rV (q0 := 0) (ci := 7) hx hb hml hown hg hN hK hP hD (a_dominates l D cI cJ ad co fl ra li re wa pi (rd (gA fl 4) 80 (nI i_5)) (rd (gA fl 3) 80 (nI i_5)) hZ.zf hZ.zr c_481 (e_to hZ hi_5) (e_from hZ hi_5).1 (e_from hZ hi_5).2) mw_629 mw_630 mw_631 mw_632 mw_77 pdv_X7_dominates ⟨Nat.le_of_ble_eq_true rfl, Nat.le_of_ble_eq_true rfl⟩ rfl xo0 rfl hl.1 rfl (Nat.le_of_ble_eq_true rfl) dL_areBlocksRight_516 ⟨Nat.le_of_ble_eq_true rfl, Nat.le_of_ble_eq_true rfl⟩) hD hS hA (fun r_38 u_38 H locs hp hP hD hS => ?_)
                obtain ⟨er, eu⟩ := hp
                obtain rfl := er.symm
                obtain rfl := eu.symm
                refine lv_if_eq (tgt := 531) hx hb dL_areBlocksRight_519 (by decide) (fun c_519 => absurd c_519 (b2i_t (e_dm hZ c_481 c_508))) (fun _ => ?_)
                refine lv_aload_n hx hb dL_areBlocksRight_522 rfl (lv_at hl 3 rfl) ?_
                refine lv_iload hx hb dL_areBlocksRight_523 (lv_at hl 1 rfl) ?_
                refine kI (rV (q0 := 0) (ci := 7) hx hb hml hown hg hN hK hP hD (a_loopSize l D cI cJ ad co fl ra li re wa pi (rd (gA fl 4) 80 (nI i_5)) hZ.zf hZ.zr c_481 (e_to hZ hi_5)) mw_633 mw_634 mw_635 mw_636 mw_77 pdv_X7_loopSize ⟨Nat.le_of_ble_eq_true rfl, Nat.le_of_ble_eq_true rfl⟩ rfl xo0 rfl hl.1 rfl (Nat.le_of_ble_eq_true rfl) dL_areBlocksRight_525 ⟨Nat.le_of_ble_eq_true rfl, Nat.le_of_ble_eq_true rfl⟩) hD hS hA (fun r_39 u_39 H locs hp hP hD hS => ?_)
                obtain ⟨er, eu⟩ := hp
                obtain rfl := er.symm
                obtain rfl := eu.symm
                refine lv_if_ne (tgt := 533) hx hb dL_areBlocksRight_528 (by decide) (fun _ => ?_) (fun c_528 => absurd c_528 (e_lp hZ hi_5 c_481 c_508))
                refine lv_iinc (v := (nI (i_5 + 1))) (lv' := [(5, .int (nI (i_5 + 1))), (4, .int (p_5 + 1)), (7, .int (rd (gA fl 4) 80 (nI i_5))), (6, .int (rd (gA fl 3) 80 (nI i_5))), (0, .ref (ad 0)), (1, .int ((lp (abS fl ra re) (cN) (0, 0, 0)).1)), (2, .int ((lp (abS fl ra re) (cN) (0, 0, 0)).2.1)), (3, .int ((lp (abS fl ra re) (cN) (0, 0, 0)).2.2))]) hx hb dL_areBlocksRight_533 hl (k := 7) rfl (nI_1 i_5) (by decide) rfl (fun ls hl => ?_)
                refine lv_goto (tgt := 380) hx hb dL_areBlocksRight_536 (by decide) ?_
                exact ih_5 (p_5 + 1) H locs ls ⟨((show (p_5 + 1) = (windStep fl) i_5 p_5 from (by simp only [windStep, Int32.add_zero, eq_false c_407, c_468, eq_false c_481, c_508, gi_sl, gi_sA, gi_sB, gi_si_s, gi_si_n, gl_si, gl_sA, gl_sB, gl_sl_s, gl_sl_n, gA_si, gA_sl, gA_sB, gA_sA_s, gA_sA_n, gB_si, gB_sl, gB_sA, gB_sB_s, gB_sB_n, Nat.reduceBEq, if_true, if_false, eq_self, Bool.false_eq_true, Bool.true_eq_false, not_true_eq_false, not_false_eq_true, decide_true, decide_false, cond_true, cond_false, Bool.true_and, Bool.false_and, Bool.and_true, Bool.and_false, Bool.true_or, Bool.false_or, Bool.or_true, Bool.or_false, b2i_tt, b2i_ff, pr_eta]; done)).trans (lp_go h_5)), hP, hD, hS, lv_sub hl [4, 5, 6, 7, 1, 0] rfl⟩
        · have c_407 : 0 < (nI i_5) := i_nge c_407
          refine lv_iload hx hb dL_areBlocksRight_410 (lv_at hl 1 rfl) ?_
          refine lv_aload_n hx hb dL_areBlocksRight_412 rfl (lv_at hl 2 rfl) ?_
          refine lv_iload hx hb dL_areBlocksRight_413 (lv_at hl 7 rfl) ?_
          refine lv_iconst (v := 1) hx hb dL_areBlocksRight_415 (by decide) ?_
          refine lv_isub hx hb dL_areBlocksRight_416 ?_
          refine kI (rV (q0 := 0) (ci := 7) hx hb hml hown hg hN hK hP hD (a_edgeFrom l D cI cJ ad co fl ra li re wa pi ((nI i_5) - 1) hZ.zf (e_m hZ hi_5 c_407).1 (e_m hZ hi_5 c_407).2) mw_613 mw_614 mw_615 mw_616 mw_77 pdv_X7_edgeFrom ⟨Nat.le_of_ble_eq_true rfl, Nat.le_of_ble_eq_true rfl⟩ rfl xo0 rfl hl.1 rfl (Nat.le_of_ble_eq_true rfl) dL_areBlocksRight_417 ⟨Nat.le_of_ble_eq_true rfl, Nat.le_of_ble_eq_true rfl⟩) hD hS hA (fun r_40 u_40 H locs hp hP hD hS => ?_)
          obtain ⟨er, eu⟩ := hp
          obtain rfl := er.symm
          obtain rfl := eu.symm
          refine lv_icmp_lt (tgt := 458) hx hb dL_areBlocksRight_420 (by decide) (fun c_420 => absurd c_420 (e_ord hZ hi_5 c_407)) (fun _ => ?_)
          refine lv_iload hx hb dL_areBlocksRight_423 (lv_at hl 1 rfl) ?_
          refine lv_aload_n hx hb dL_areBlocksRight_425 rfl (lv_at hl 2 rfl) ?_
          refine lv_iload hx hb dL_areBlocksRight_426 (lv_at hl 7 rfl) ?_
          refine lv_iconst (v := 1) hx hb dL_areBlocksRight_428 (by decide) ?_
          refine lv_isub hx hb dL_areBlocksRight_429 ?_
          refine kI (rV (q0 := 0) (ci := 7) hx hb hml hown hg hN hK hP hD (a_edgeFrom l D cI cJ ad co fl ra li re wa pi ((nI i_5) - 1) hZ.zf (e_m hZ hi_5 c_407).1 (e_m hZ hi_5 c_407).2) mw_613 mw_614 mw_615 mw_616 mw_77 pdv_X7_edgeFrom ⟨Nat.le_of_ble_eq_true rfl, Nat.le_of_ble_eq_true rfl⟩ rfl xo0 rfl hl.1 rfl (Nat.le_of_ble_eq_true rfl) dL_areBlocksRight_430 ⟨Nat.le_of_ble_eq_true rfl, Nat.le_of_ble_eq_true rfl⟩) hD hS hA (fun r_41 u_41 H locs hp hP hD hS => ?_)
          obtain ⟨er, eu⟩ := hp
          obtain rfl := er.symm
          obtain rfl := eu.symm
          refine lv_icmp_ne (tgt := 449) hx hb dL_areBlocksRight_433 (by decide) (fun c_433 => ?_) (fun c_433 => ?_)
          · refine lv_iload hx hb dL_areBlocksRight_449 (lv_at hl 0 rfl) ?_
            refine lv_aload_n hx hb dL_areBlocksRight_451 rfl (lv_at hl 2 rfl) ?_
            refine kI (rV (q0 := 0) (ci := 7) hx hb hml hown hg hN hK hP hD (a_blocks l D cI cJ ad co fl ra li re wa pi hZ.zf) mw_585 mw_586 mw_587 mw_588 mw_77 pdv_X7_blocks ⟨Nat.le_of_ble_eq_true rfl, Nat.le_of_ble_eq_true rfl⟩ rfl xo0 rfl hl.1 rfl (Nat.le_of_ble_eq_true rfl) dL_areBlocksRight_452 ⟨Nat.le_of_ble_eq_true rfl, Nat.le_of_ble_eq_true rfl⟩) hD hS hA (fun r_42 u_42 H locs hp hP hD hS => ?_)
            obtain ⟨er, eu⟩ := hp
            obtain rfl := er.symm
            obtain rfl := eu.symm
            refine lv_icmp_lt (tgt := 460) hx hb dL_areBlocksRight_455 (by decide) (fun _ => ?_) (fun c_455 => absurd (e_to hZ hi_5) c_455)
            refine lv_iload hx hb dL_areBlocksRight_460 (lv_at hl 6 rfl) ?_
            refine lv_aload_n hx hb dL_areBlocksRight_462 rfl (lv_at hl 2 rfl) ?_
            refine lv_iload hx hb dL_areBlocksRight_463 (lv_at hl 1 rfl) ?_
            refine kI (rV (q0 := 0) (ci := 7) hx hb hml hown hg hN hK hP hD (a_isReached l D cI cJ ad co fl ra li re wa pi (rd (gA fl 3) 80 (nI i_5)) hZ.zf (e_from hZ hi_5).1 (e_from hZ hi_5).2) mw_621 mw_622 mw_623 mw_624 mw_77 pdv_X7_isReached ⟨Nat.le_of_ble_eq_true rfl, Nat.le_of_ble_eq_true rfl⟩ rfl xo0 rfl hl.1 rfl (Nat.le_of_ble_eq_true rfl) dL_areBlocksRight_465 ⟨Nat.le_of_ble_eq_true rfl, Nat.le_of_ble_eq_true rfl⟩) hD hS hA (fun r_43 u_43 H locs hp hP hD hS => ?_)
            obtain ⟨er, eu⟩ := hp
            obtain rfl := er.symm
            obtain rfl := eu.symm
            refine lv_if_eq (tgt := 475) hx hb dL_areBlocksRight_468 (by decide) (fun c_468 => ?_) (fun c_468 => ?_)
            · have c_468 : ¬ (hs (gl fl 0) (rd (gA fl 3) 80 (nI i_5))) = true := b2i_0 c_468
              refine lv_iconst (v := 0) hx hb dL_areBlocksRight_475 (by decide) ?_
              refine lv_iadd hx hb dL_areBlocksRight_476 ?_
              refine lv_istore (lv' := [(4, .int (p_5 + 0)), (7, .int (rd (gA fl 4) 80 (nI i_5))), (6, .int (rd (gA fl 3) 80 (nI i_5))), (0, .ref (ad 0)), (1, .int ((lp (abS fl ra re) (cN) (0, 0, 0)).1)), (2, .int ((lp (abS fl ra re) (cN) (0, 0, 0)).2.1)), (3, .int ((lp (abS fl ra re) (cN) (0, 0, 0)).2.2)), (5, .int (nI i_5))]) hx hb dL_areBlocksRight_477 hl (by decide) rfl (fun ls hl => ?_)
              refine lv_iload hx hb dL_areBlocksRight_479 (lv_at hl 1 rfl) ?_
              refine lv_if_lt (tgt := 502) hx hb dL_areBlocksRight_481 (by decide) (fun c_481 => ?_) (fun c_481 => ?_)
              · refine lv_aload_n hx hb dL_areBlocksRight_502 rfl (lv_at hl 3 rfl) ?_
                refine lv_iload hx hb dL_areBlocksRight_503 (lv_at hl 7 rfl) ?_
                refine kI (rV (q0 := 0) (ci := 7) hx hb hml hown hg hN hK hP hD (a_isBack l D cI cJ ad co fl ra li re wa pi (nI i_5) hZ.zf hZ.zr (e_lt hZ hi_5).1 (e_lt hZ hi_5).2) mw_625 mw_626 mw_627 mw_628 mw_77 pdv_X7_isBack ⟨Nat.le_of_ble_eq_true rfl, Nat.le_of_ble_eq_true rfl⟩ rfl xo0 rfl hl.1 rfl (Nat.le_of_ble_eq_true rfl) dL_areBlocksRight_505 ⟨Nat.le_of_ble_eq_true rfl, Nat.le_of_ble_eq_true rfl⟩) hD hS hA (fun r_44 u_44 H locs hp hP hD hS => ?_)
                obtain ⟨er, eu⟩ := hp
                obtain rfl := er.symm
                obtain rfl := eu.symm
                refine lv_if_eq (tgt := 533) hx hb dL_areBlocksRight_508 (by decide) (fun _ => ?_) (fun c_508 => absurd (b2i_f (e_bk hZ c_481)) c_508)
                refine lv_iinc (v := (nI (i_5 + 1))) (lv' := [(5, .int (nI (i_5 + 1))), (4, .int (p_5 + 0)), (7, .int (rd (gA fl 4) 80 (nI i_5))), (6, .int (rd (gA fl 3) 80 (nI i_5))), (0, .ref (ad 0)), (1, .int ((lp (abS fl ra re) (cN) (0, 0, 0)).1)), (2, .int ((lp (abS fl ra re) (cN) (0, 0, 0)).2.1)), (3, .int ((lp (abS fl ra re) (cN) (0, 0, 0)).2.2))]) hx hb dL_areBlocksRight_533 hl (k := 7) rfl (nI_1 i_5) (by decide) rfl (fun ls hl => ?_)
                refine lv_goto (tgt := 380) hx hb dL_areBlocksRight_536 (by decide) ?_
                exact ih_5 (p_5 + 0) H locs ls ⟨((show (p_5 + 0) = (windStep fl) i_5 p_5 from (by simp only [windStep, Int32.add_zero, eq_true c_407, eq_false c_433, bf_of c_468, eq_true c_481, gi_sl, gi_sA, gi_sB, gi_si_s, gi_si_n, gl_si, gl_sA, gl_sB, gl_sl_s, gl_sl_n, gA_si, gA_sl, gA_sB, gA_sA_s, gA_sA_n, gB_si, gB_sl, gB_sA, gB_sB_s, gB_sB_n, Nat.reduceBEq, if_true, if_false, eq_self, Bool.false_eq_true, Bool.true_eq_false, not_true_eq_false, not_false_eq_true, decide_true, decide_false, cond_true, cond_false, Bool.true_and, Bool.false_and, Bool.and_true, Bool.and_false, Bool.true_or, Bool.false_or, Bool.or_true, Bool.or_false, b2i_tt, b2i_ff, pr_eta]; done)).trans (lp_go h_5)), hP, hD, hS, lv_sub hl [4, 5, 6, 7, 1, 0] rfl⟩
              · refine lv_aload_n hx hb dL_areBlocksRight_484 rfl (lv_at hl 3 rfl) ?_
                refine lv_iload hx hb dL_areBlocksRight_485 (lv_at hl 2 rfl) ?_
                refine kI (rV (q0 := 0) (ci := 7) hx hb hml hown hg hN hK hP hD (a_isReached l D cI cJ ad co fl ra li re wa pi (rd (gA fl 3) 80 (nI i_5)) hZ.zf (e_from hZ hi_5).1 (e_from hZ hi_5).2) mw_621 mw_622 mw_623 mw_624 mw_77 pdv_X7_isReached ⟨Nat.le_of_ble_eq_true rfl, Nat.le_of_ble_eq_true rfl⟩ rfl xo0 rfl hl.1 rfl (Nat.le_of_ble_eq_true rfl) dL_areBlocksRight_487 ⟨Nat.le_of_ble_eq_true rfl, Nat.le_of_ble_eq_true rfl⟩) hD hS hA (fun r_45 u_45 H locs hp hP hD hS => ?_)
                obtain ⟨er, eu⟩ := hp
                obtain rfl := er.symm
                obtain rfl := eu.symm
                refine lv_if_eq (tgt := 502) hx hb dL_areBlocksRight_490 (by decide) (fun _ => ?_) (fun c_490 => absurd (b2i_f c_468) c_490)
                refine lv_aload_n hx hb dL_areBlocksRight_502 rfl (lv_at hl 3 rfl) ?_
                refine lv_iload hx hb dL_areBlocksRight_503 (lv_at hl 7 rfl) ?_
                refine kI (rV (q0 := 0) (ci := 7) hx hb hml hown hg hN hK hP hD (a_isBack l D cI cJ ad co fl ra li re wa pi (nI i_5) hZ.zf hZ.zr (e_lt hZ hi_5).1 (e_lt hZ hi_5).2) mw_625 mw_626 mw_627 mw_628 mw_77 pdv_X7_isBack ⟨Nat.le_of_ble_eq_true rfl, Nat.le_of_ble_eq_true rfl⟩ rfl xo0 rfl hl.1 rfl (Nat.le_of_ble_eq_true rfl) dL_areBlocksRight_505 ⟨Nat.le_of_ble_eq_true rfl, Nat.le_of_ble_eq_true rfl⟩) hD hS hA (fun r_46 u_46 H locs hp hP hD hS => ?_)
                obtain ⟨er, eu⟩ := hp
                obtain rfl := er.symm
                obtain rfl := eu.symm
                refine lv_if_eq (tgt := 533) hx hb dL_areBlocksRight_508 (by decide) (fun c_508 => ?_) (fun c_508 => ?_)
                · have c_508 : ¬ (goesBack ra fl (nI i_5)) = true := b2i_0 c_508
                  refine lv_iinc (v := (nI (i_5 + 1))) (lv' := [(5, .int (nI (i_5 + 1))), (4, .int (p_5 + 0)), (7, .int (rd (gA fl 4) 80 (nI i_5))), (6, .int (rd (gA fl 3) 80 (nI i_5))), (0, .ref (ad 0)), (1, .int ((lp (abS fl ra re) (cN) (0, 0, 0)).1)), (2, .int ((lp (abS fl ra re) (cN) (0, 0, 0)).2.1)), (3, .int ((lp (abS fl ra re) (cN) (0, 0, 0)).2.2))]) hx hb dL_areBlocksRight_533 hl (k := 7) rfl (nI_1 i_5) (by decide) rfl (fun ls hl => ?_)
                  refine lv_goto (tgt := 380) hx hb dL_areBlocksRight_536 (by decide) ?_
                  exact ih_5 (p_5 + 0) H locs ls ⟨((show (p_5 + 0) = (windStep fl) i_5 p_5 from (by simp only [windStep, Int32.add_zero, eq_true c_407, eq_false c_433, bf_of c_468, eq_false c_481, bf_of c_508, gi_sl, gi_sA, gi_sB, gi_si_s, gi_si_n, gl_si, gl_sA, gl_sB, gl_sl_s, gl_sl_n, gA_si, gA_sl, gA_sB, gA_sA_s, gA_sA_n, gB_si, gB_sl, gB_sA, gB_sB_s, gB_sB_n, Nat.reduceBEq, if_true, if_false, eq_self, Bool.false_eq_true, Bool.true_eq_false, not_true_eq_false, not_false_eq_true, decide_true, decide_false, cond_true, cond_false, Bool.true_and, Bool.false_and, Bool.and_true, Bool.and_false, Bool.true_or, Bool.false_or, Bool.or_true, Bool.or_false, b2i_tt, b2i_ff, pr_eta]; done)).trans (lp_go h_5)), hP, hD, hS, lv_sub hl [4, 5, 6, 7, 1, 0] rfl⟩
                · have c_508 : (goesBack ra fl (nI i_5)) = true := b2i_1 c_508
                  refine lv_aload_n hx hb dL_areBlocksRight_511 rfl (lv_at hl 3 rfl) ?_
                  refine lv_iload hx hb dL_areBlocksRight_512 (lv_at hl 1 rfl) ?_
                  refine lv_iload hx hb dL_areBlocksRight_514 (lv_at hl 2 rfl) ?_
                  refine kI (rV (q0 := 0) (ci := 7) hx hb hml hown hg hN hK hP hD (a_dominates l D cI cJ ad co fl ra li re wa pi (rd (gA fl 4) 80 (nI i_5)) (rd (gA fl 3) 80 (nI i_5)) hZ.zf hZ.zr c_481 (e_to hZ hi_5) (e_from hZ hi_5).1 (e_from hZ hi_5).2) mw_629 mw_630 mw_631 mw_632 mw_77 pdv_X7_dominates ⟨Nat.le_of_ble_eq_true rfl, Nat.le_of_ble_eq_true rfl⟩ rfl xo0 rfl hl.1 rfl (Nat.le_of_ble_eq_true rfl) dL_areBlocksRight_516 ⟨Nat.le_of_ble_eq_true rfl, Nat.le_of_ble_eq_true rfl⟩) hD hS hA (fun r_47 u_47 H locs hp hP hD hS => ?_)
                  obtain ⟨er, eu⟩ := hp
                  obtain rfl := er.symm
                  obtain rfl := eu.symm
                  refine lv_if_eq (tgt := 531) hx hb dL_areBlocksRight_519 (by decide) (fun c_519 => absurd c_519 (b2i_t (e_dm hZ c_481 c_508))) (fun _ => ?_)
                  refine lv_aload_n hx hb dL_areBlocksRight_522 rfl (lv_at hl 3 rfl) ?_
                  refine lv_iload hx hb dL_areBlocksRight_523 (lv_at hl 1 rfl) ?_
                  refine kI (rV (q0 := 0) (ci := 7) hx hb hml hown hg hN hK hP hD (a_loopSize l D cI cJ ad co fl ra li re wa pi (rd (gA fl 4) 80 (nI i_5)) hZ.zf hZ.zr c_481 (e_to hZ hi_5)) mw_633 mw_634 mw_635 mw_636 mw_77 pdv_X7_loopSize ⟨Nat.le_of_ble_eq_true rfl, Nat.le_of_ble_eq_true rfl⟩ rfl xo0 rfl hl.1 rfl (Nat.le_of_ble_eq_true rfl) dL_areBlocksRight_525 ⟨Nat.le_of_ble_eq_true rfl, Nat.le_of_ble_eq_true rfl⟩) hD hS hA (fun r_48 u_48 H locs hp hP hD hS => ?_)
                  obtain ⟨er, eu⟩ := hp
                  obtain rfl := er.symm
                  obtain rfl := eu.symm
                  refine lv_if_ne (tgt := 533) hx hb dL_areBlocksRight_528 (by decide) (fun _ => ?_) (fun c_528 => absurd c_528 (e_lp hZ hi_5 c_481 c_508))
                  refine lv_iinc (v := (nI (i_5 + 1))) (lv' := [(5, .int (nI (i_5 + 1))), (4, .int (p_5 + 0)), (7, .int (rd (gA fl 4) 80 (nI i_5))), (6, .int (rd (gA fl 3) 80 (nI i_5))), (0, .ref (ad 0)), (1, .int ((lp (abS fl ra re) (cN) (0, 0, 0)).1)), (2, .int ((lp (abS fl ra re) (cN) (0, 0, 0)).2.1)), (3, .int ((lp (abS fl ra re) (cN) (0, 0, 0)).2.2))]) hx hb dL_areBlocksRight_533 hl (k := 7) rfl (nI_1 i_5) (by decide) rfl (fun ls hl => ?_)
                  refine lv_goto (tgt := 380) hx hb dL_areBlocksRight_536 (by decide) ?_
                  exact ih_5 (p_5 + 0) H locs ls ⟨((show (p_5 + 0) = (windStep fl) i_5 p_5 from (by simp only [windStep, Int32.add_zero, eq_true c_407, eq_false c_433, bf_of c_468, eq_false c_481, c_508, gi_sl, gi_sA, gi_sB, gi_si_s, gi_si_n, gl_si, gl_sA, gl_sB, gl_sl_s, gl_sl_n, gA_si, gA_sl, gA_sB, gA_sA_s, gA_sA_n, gB_si, gB_sl, gB_sA, gB_sB_s, gB_sB_n, Nat.reduceBEq, if_true, if_false, eq_self, Bool.false_eq_true, Bool.true_eq_false, not_true_eq_false, not_false_eq_true, decide_true, decide_false, cond_true, cond_false, Bool.true_and, Bool.false_and, Bool.and_true, Bool.and_false, Bool.true_or, Bool.false_or, Bool.or_true, Bool.or_false, b2i_tt, b2i_ff, pr_eta]; done)).trans (lp_go h_5)), hP, hD, hS, lv_sub hl [4, 5, 6, 7, 1, 0] rfl⟩
            · have c_468 : (hs (gl fl 0) (rd (gA fl 3) 80 (nI i_5))) = true := b2i_1 c_468
              refine lv_iconst (v := 1) hx hb dL_areBlocksRight_471 (by decide) ?_
              refine lv_goto (tgt := 476) hx hb dL_areBlocksRight_472 (by decide) ?_
              refine lv_iadd hx hb dL_areBlocksRight_476 ?_
              refine lv_istore (lv' := [(4, .int (p_5 + 1)), (7, .int (rd (gA fl 4) 80 (nI i_5))), (6, .int (rd (gA fl 3) 80 (nI i_5))), (0, .ref (ad 0)), (1, .int ((lp (abS fl ra re) (cN) (0, 0, 0)).1)), (2, .int ((lp (abS fl ra re) (cN) (0, 0, 0)).2.1)), (3, .int ((lp (abS fl ra re) (cN) (0, 0, 0)).2.2)), (5, .int (nI i_5))]) hx hb dL_areBlocksRight_477 hl (by decide) rfl (fun ls hl => ?_)
              refine lv_iload hx hb dL_areBlocksRight_479 (lv_at hl 1 rfl) ?_
              refine lv_if_lt (tgt := 502) hx hb dL_areBlocksRight_481 (by decide) (fun c_481 => ?_) (fun c_481 => ?_)
              · refine lv_aload_n hx hb dL_areBlocksRight_502 rfl (lv_at hl 3 rfl) ?_
                refine lv_iload hx hb dL_areBlocksRight_503 (lv_at hl 7 rfl) ?_
                refine kI (rV (q0 := 0) (ci := 7) hx hb hml hown hg hN hK hP hD (a_isBack l D cI cJ ad co fl ra li re wa pi (nI i_5) hZ.zf hZ.zr (e_lt hZ hi_5).1 (e_lt hZ hi_5).2) mw_625 mw_626 mw_627 mw_628 mw_77 pdv_X7_isBack ⟨Nat.le_of_ble_eq_true rfl, Nat.le_of_ble_eq_true rfl⟩ rfl xo0 rfl hl.1 rfl (Nat.le_of_ble_eq_true rfl) dL_areBlocksRight_505 ⟨Nat.le_of_ble_eq_true rfl, Nat.le_of_ble_eq_true rfl⟩) hD hS hA (fun r_49 u_49 H locs hp hP hD hS => ?_)
                obtain ⟨er, eu⟩ := hp
                obtain rfl := er.symm
                obtain rfl := eu.symm
                refine lv_if_eq (tgt := 533) hx hb dL_areBlocksRight_508 (by decide) (fun _ => ?_) (fun c_508 => absurd (b2i_f (e_bk hZ c_481)) c_508)
                refine lv_iinc (v := (nI (i_5 + 1))) (lv' := [(5, .int (nI (i_5 + 1))), (4, .int (p_5 + 1)), (7, .int (rd (gA fl 4) 80 (nI i_5))), (6, .int (rd (gA fl 3) 80 (nI i_5))), (0, .ref (ad 0)), (1, .int ((lp (abS fl ra re) (cN) (0, 0, 0)).1)), (2, .int ((lp (abS fl ra re) (cN) (0, 0, 0)).2.1)), (3, .int ((lp (abS fl ra re) (cN) (0, 0, 0)).2.2))]) hx hb dL_areBlocksRight_533 hl (k := 7) rfl (nI_1 i_5) (by decide) rfl (fun ls hl => ?_)
                refine lv_goto (tgt := 380) hx hb dL_areBlocksRight_536 (by decide) ?_
                exact ih_5 (p_5 + 1) H locs ls ⟨((show (p_5 + 1) = (windStep fl) i_5 p_5 from (by simp only [windStep, Int32.add_zero, eq_true c_407, eq_false c_433, c_468, eq_true c_481, gi_sl, gi_sA, gi_sB, gi_si_s, gi_si_n, gl_si, gl_sA, gl_sB, gl_sl_s, gl_sl_n, gA_si, gA_sl, gA_sB, gA_sA_s, gA_sA_n, gB_si, gB_sl, gB_sA, gB_sB_s, gB_sB_n, Nat.reduceBEq, if_true, if_false, eq_self, Bool.false_eq_true, Bool.true_eq_false, not_true_eq_false, not_false_eq_true, decide_true, decide_false, cond_true, cond_false, Bool.true_and, Bool.false_and, Bool.and_true, Bool.and_false, Bool.true_or, Bool.false_or, Bool.or_true, Bool.or_false, b2i_tt, b2i_ff, pr_eta]; done)).trans (lp_go h_5)), hP, hD, hS, lv_sub hl [4, 5, 6, 7, 1, 0] rfl⟩
              · refine lv_aload_n hx hb dL_areBlocksRight_484 rfl (lv_at hl 3 rfl) ?_
                refine lv_iload hx hb dL_areBlocksRight_485 (lv_at hl 2 rfl) ?_
                refine kI (rV (q0 := 0) (ci := 7) hx hb hml hown hg hN hK hP hD (a_isReached l D cI cJ ad co fl ra li re wa pi (rd (gA fl 3) 80 (nI i_5)) hZ.zf (e_from hZ hi_5).1 (e_from hZ hi_5).2) mw_621 mw_622 mw_623 mw_624 mw_77 pdv_X7_isReached ⟨Nat.le_of_ble_eq_true rfl, Nat.le_of_ble_eq_true rfl⟩ rfl xo0 rfl hl.1 rfl (Nat.le_of_ble_eq_true rfl) dL_areBlocksRight_487 ⟨Nat.le_of_ble_eq_true rfl, Nat.le_of_ble_eq_true rfl⟩) hD hS hA (fun r_50 u_50 H locs hp hP hD hS => ?_)
                obtain ⟨er, eu⟩ := hp
                obtain rfl := er.symm
                obtain rfl := eu.symm
                refine lv_if_eq (tgt := 502) hx hb dL_areBlocksRight_490 (by decide) (fun c_490 => absurd c_490 (b2i_t c_468)) (fun _ => ?_)
                refine lv_aload_n hx hb dL_areBlocksRight_493 rfl (lv_at hl 3 rfl) ?_
                refine lv_iload hx hb dL_areBlocksRight_494 (lv_at hl 1 rfl) ?_
                refine kI (rV (q0 := 0) (ci := 7) hx hb hml hown hg hN hK hP hD (a_isReached l D cI cJ ad co fl ra li re wa pi (rd (gA fl 4) 80 (nI i_5)) hZ.zf c_481 (e_to hZ hi_5)) mw_621 mw_622 mw_623 mw_624 mw_77 pdv_X7_isReached ⟨Nat.le_of_ble_eq_true rfl, Nat.le_of_ble_eq_true rfl⟩ rfl xo0 rfl hl.1 rfl (Nat.le_of_ble_eq_true rfl) dL_areBlocksRight_496 ⟨Nat.le_of_ble_eq_true rfl, Nat.le_of_ble_eq_true rfl⟩) hD hS hA (fun r_51 u_51 H locs hp hP hD hS => ?_)
                obtain ⟨er, eu⟩ := hp
                obtain rfl := er.symm
                obtain rfl := eu.symm
                refine lv_if_eq (tgt := 531) hx hb dL_areBlocksRight_499 (by decide) (fun c_499 => absurd c_499 (b2i_t (e_rt hZ hi_5 c_481 c_468))) (fun _ => ?_)
                refine lv_aload_n hx hb dL_areBlocksRight_502 rfl (lv_at hl 3 rfl) ?_
                refine lv_iload hx hb dL_areBlocksRight_503 (lv_at hl 7 rfl) ?_
                refine kI (rV (q0 := 0) (ci := 7) hx hb hml hown hg hN hK hP hD (a_isBack l D cI cJ ad co fl ra li re wa pi (nI i_5) hZ.zf hZ.zr (e_lt hZ hi_5).1 (e_lt hZ hi_5).2) mw_625 mw_626 mw_627 mw_628 mw_77 pdv_X7_isBack ⟨Nat.le_of_ble_eq_true rfl, Nat.le_of_ble_eq_true rfl⟩ rfl xo0 rfl hl.1 rfl (Nat.le_of_ble_eq_true rfl) dL_areBlocksRight_505 ⟨Nat.le_of_ble_eq_true rfl, Nat.le_of_ble_eq_true rfl⟩) hD hS hA (fun r_52 u_52 H locs hp hP hD hS => ?_)
                obtain ⟨er, eu⟩ := hp
                obtain rfl := er.symm
                obtain rfl := eu.symm
                refine lv_if_eq (tgt := 533) hx hb dL_areBlocksRight_508 (by decide) (fun c_508 => ?_) (fun c_508 => ?_)
                · have c_508 : ¬ (goesBack ra fl (nI i_5)) = true := b2i_0 c_508
                  refine lv_iinc (v := (nI (i_5 + 1))) (lv' := [(5, .int (nI (i_5 + 1))), (4, .int (p_5 + 1)), (7, .int (rd (gA fl 4) 80 (nI i_5))), (6, .int (rd (gA fl 3) 80 (nI i_5))), (0, .ref (ad 0)), (1, .int ((lp (abS fl ra re) (cN) (0, 0, 0)).1)), (2, .int ((lp (abS fl ra re) (cN) (0, 0, 0)).2.1)), (3, .int ((lp (abS fl ra re) (cN) (0, 0, 0)).2.2))]) hx hb dL_areBlocksRight_533 hl (k := 7) rfl (nI_1 i_5) (by decide) rfl (fun ls hl => ?_)
                  refine lv_goto (tgt := 380) hx hb dL_areBlocksRight_536 (by decide) ?_
                  exact ih_5 (p_5 + 1) H locs ls ⟨((show (p_5 + 1) = (windStep fl) i_5 p_5 from (by simp only [windStep, Int32.add_zero, eq_true c_407, eq_false c_433, c_468, eq_false c_481, bf_of c_508, gi_sl, gi_sA, gi_sB, gi_si_s, gi_si_n, gl_si, gl_sA, gl_sB, gl_sl_s, gl_sl_n, gA_si, gA_sl, gA_sB, gA_sA_s, gA_sA_n, gB_si, gB_sl, gB_sA, gB_sB_s, gB_sB_n, Nat.reduceBEq, if_true, if_false, eq_self, Bool.false_eq_true, Bool.true_eq_false, not_true_eq_false, not_false_eq_true, decide_true, decide_false, cond_true, cond_false, Bool.true_and, Bool.false_and, Bool.and_true, Bool.and_false, Bool.true_or, Bool.false_or, Bool.or_true, Bool.or_false, b2i_tt, b2i_ff, pr_eta]; done)).trans (lp_go h_5)), hP, hD, hS, lv_sub hl [4, 5, 6, 7, 1, 0] rfl⟩
                · have c_508 : (goesBack ra fl (nI i_5)) = true := b2i_1 c_508
                  refine lv_aload_n hx hb dL_areBlocksRight_511 rfl (lv_at hl 3 rfl) ?_
                  refine lv_iload hx hb dL_areBlocksRight_512 (lv_at hl 1 rfl) ?_
                  refine lv_iload hx hb dL_areBlocksRight_514 (lv_at hl 2 rfl) ?_
                  refine kI (rV (q0 := 0) (ci := 7) hx hb hml hown hg hN hK hP hD (a_dominates l D cI cJ ad co fl ra li re wa pi (rd (gA fl 4) 80 (nI i_5)) (rd (gA fl 3) 80 (nI i_5)) hZ.zf hZ.zr c_481 (e_to hZ hi_5) (e_from hZ hi_5).1 (e_from hZ hi_5).2) mw_629 mw_630 mw_631 mw_632 mw_77 pdv_X7_dominates ⟨Nat.le_of_ble_eq_true rfl, Nat.le_of_ble_eq_true rfl⟩ rfl xo0 rfl hl.1 rfl (Nat.le_of_ble_eq_true rfl) dL_areBlocksRight_516 ⟨Nat.le_of_ble_eq_true rfl, Nat.le_of_ble_eq_true rfl⟩) hD hS hA (fun r_53 u_53 H locs hp hP hD hS => ?_)
                  obtain ⟨er, eu⟩ := hp
                  obtain rfl := er.symm
                  obtain rfl := eu.symm
                  refine lv_if_eq (tgt := 531) hx hb dL_areBlocksRight_519 (by decide) (fun c_519 => absurd c_519 (b2i_t (e_dm hZ c_481 c_508))) (fun _ => ?_)
                  refine lv_aload_n hx hb dL_areBlocksRight_522 rfl (lv_at hl 3 rfl) ?_
                  refine lv_iload hx hb dL_areBlocksRight_523 (lv_at hl 1 rfl) ?_
                  refine kI (rV (q0 := 0) (ci := 7) hx hb hml hown hg hN hK hP hD (a_loopSize l D cI cJ ad co fl ra li re wa pi (rd (gA fl 4) 80 (nI i_5)) hZ.zf hZ.zr c_481 (e_to hZ hi_5)) mw_633 mw_634 mw_635 mw_636 mw_77 pdv_X7_loopSize ⟨Nat.le_of_ble_eq_true rfl, Nat.le_of_ble_eq_true rfl⟩ rfl xo0 rfl hl.1 rfl (Nat.le_of_ble_eq_true rfl) dL_areBlocksRight_525 ⟨Nat.le_of_ble_eq_true rfl, Nat.le_of_ble_eq_true rfl⟩) hD hS hA (fun r_54 u_54 H locs hp hP hD hS => ?_)
                  obtain ⟨er, eu⟩ := hp
                  obtain rfl := er.symm
                  obtain rfl := eu.symm
                  refine lv_if_ne (tgt := 533) hx hb dL_areBlocksRight_528 (by decide) (fun _ => ?_) (fun c_528 => absurd c_528 (e_lp hZ hi_5 c_481 c_508))
                  refine lv_iinc (v := (nI (i_5 + 1))) (lv' := [(5, .int (nI (i_5 + 1))), (4, .int (p_5 + 1)), (7, .int (rd (gA fl 4) 80 (nI i_5))), (6, .int (rd (gA fl 3) 80 (nI i_5))), (0, .ref (ad 0)), (1, .int ((lp (abS fl ra re) (cN) (0, 0, 0)).1)), (2, .int ((lp (abS fl ra re) (cN) (0, 0, 0)).2.1)), (3, .int ((lp (abS fl ra re) (cN) (0, 0, 0)).2.2))]) hx hb dL_areBlocksRight_533 hl (k := 7) rfl (nI_1 i_5) (by decide) rfl (fun ls hl => ?_)
                  refine lv_goto (tgt := 380) hx hb dL_areBlocksRight_536 (by decide) ?_
                  exact ih_5 (p_5 + 1) H locs ls ⟨((show (p_5 + 1) = (windStep fl) i_5 p_5 from (by simp only [windStep, Int32.add_zero, eq_true c_407, eq_false c_433, c_468, eq_false c_481, c_508, gi_sl, gi_sA, gi_sB, gi_si_s, gi_si_n, gl_si, gl_sA, gl_sB, gl_sl_s, gl_sl_n, gA_si, gA_sl, gA_sB, gA_sA_s, gA_sA_n, gB_si, gB_sl, gB_sA, gB_sB_s, gB_sB_n, Nat.reduceBEq, if_true, if_false, eq_self, Bool.false_eq_true, Bool.true_eq_false, not_true_eq_false, not_false_eq_true, decide_true, decide_false, cond_true, cond_false, Bool.true_and, Bool.false_and, Bool.and_true, Bool.and_false, Bool.true_or, Bool.false_or, Bool.or_true, Bool.or_false, b2i_tt, b2i_ff, pr_eta]; done)).trans (lp_go h_5)), hP, hD, hS, lv_sub hl [4, 5, 6, 7, 1, 0] rfl⟩
          · refine lv_iload hx hb dL_areBlocksRight_436 (lv_at hl 0 rfl) ?_
            refine lv_aload_n hx hb dL_areBlocksRight_438 rfl (lv_at hl 2 rfl) ?_
            refine lv_iload hx hb dL_areBlocksRight_439 (lv_at hl 7 rfl) ?_
            refine lv_iconst (v := 1) hx hb dL_areBlocksRight_441 (by decide) ?_
            refine lv_isub hx hb dL_areBlocksRight_442 ?_
            refine kI (rV (q0 := 0) (ci := 7) hx hb hml hown hg hN hK hP hD (a_edgeTo l D cI cJ ad co fl ra li re wa pi ((nI i_5) - 1) hZ.zf (e_m hZ hi_5 c_407).1 (e_m hZ hi_5 c_407).2) mw_617 mw_618 mw_619 mw_620 mw_77 pdv_X7_edgeTo ⟨Nat.le_of_ble_eq_true rfl, Nat.le_of_ble_eq_true rfl⟩ rfl xo0 rfl hl.1 rfl (Nat.le_of_ble_eq_true rfl) dL_areBlocksRight_443 ⟨Nat.le_of_ble_eq_true rfl, Nat.le_of_ble_eq_true rfl⟩) hD hS hA (fun r_55 u_55 H locs hp hP hD hS => ?_)
            obtain ⟨er, eu⟩ := hp
            obtain rfl := er.symm
            obtain rfl := eu.symm
            refine lv_icmp_eq (tgt := 458) hx hb dL_areBlocksRight_446 (by decide) (fun c_446 => absurd c_446 (e_dif hZ hi_5 c_407 c_433)) (fun _ => ?_)
            refine lv_iload hx hb dL_areBlocksRight_449 (lv_at hl 0 rfl) ?_
            refine lv_aload_n hx hb dL_areBlocksRight_451 rfl (lv_at hl 2 rfl) ?_
            refine kI (rV (q0 := 0) (ci := 7) hx hb hml hown hg hN hK hP hD (a_blocks l D cI cJ ad co fl ra li re wa pi hZ.zf) mw_585 mw_586 mw_587 mw_588 mw_77 pdv_X7_blocks ⟨Nat.le_of_ble_eq_true rfl, Nat.le_of_ble_eq_true rfl⟩ rfl xo0 rfl hl.1 rfl (Nat.le_of_ble_eq_true rfl) dL_areBlocksRight_452 ⟨Nat.le_of_ble_eq_true rfl, Nat.le_of_ble_eq_true rfl⟩) hD hS hA (fun r_56 u_56 H locs hp hP hD hS => ?_)
            obtain ⟨er, eu⟩ := hp
            obtain rfl := er.symm
            obtain rfl := eu.symm
            refine lv_icmp_lt (tgt := 460) hx hb dL_areBlocksRight_455 (by decide) (fun _ => ?_) (fun c_455 => absurd (e_to hZ hi_5) c_455)
            refine lv_iload hx hb dL_areBlocksRight_460 (lv_at hl 6 rfl) ?_
            refine lv_aload_n hx hb dL_areBlocksRight_462 rfl (lv_at hl 2 rfl) ?_
            refine lv_iload hx hb dL_areBlocksRight_463 (lv_at hl 1 rfl) ?_
            refine kI (rV (q0 := 0) (ci := 7) hx hb hml hown hg hN hK hP hD (a_isReached l D cI cJ ad co fl ra li re wa pi (rd (gA fl 3) 80 (nI i_5)) hZ.zf (e_from hZ hi_5).1 (e_from hZ hi_5).2) mw_621 mw_622 mw_623 mw_624 mw_77 pdv_X7_isReached ⟨Nat.le_of_ble_eq_true rfl, Nat.le_of_ble_eq_true rfl⟩ rfl xo0 rfl hl.1 rfl (Nat.le_of_ble_eq_true rfl) dL_areBlocksRight_465 ⟨Nat.le_of_ble_eq_true rfl, Nat.le_of_ble_eq_true rfl⟩) hD hS hA (fun r_57 u_57 H locs hp hP hD hS => ?_)
            obtain ⟨er, eu⟩ := hp
            obtain rfl := er.symm
            obtain rfl := eu.symm
            refine lv_if_eq (tgt := 475) hx hb dL_areBlocksRight_468 (by decide) (fun c_468 => ?_) (fun c_468 => ?_)
            · have c_468 : ¬ (hs (gl fl 0) (rd (gA fl 3) 80 (nI i_5))) = true := b2i_0 c_468
              refine lv_iconst (v := 0) hx hb dL_areBlocksRight_475 (by decide) ?_
              refine lv_iadd hx hb dL_areBlocksRight_476 ?_
              refine lv_istore (lv' := [(4, .int (p_5 + 0)), (7, .int (rd (gA fl 4) 80 (nI i_5))), (6, .int (rd (gA fl 3) 80 (nI i_5))), (0, .ref (ad 0)), (1, .int ((lp (abS fl ra re) (cN) (0, 0, 0)).1)), (2, .int ((lp (abS fl ra re) (cN) (0, 0, 0)).2.1)), (3, .int ((lp (abS fl ra re) (cN) (0, 0, 0)).2.2)), (5, .int (nI i_5))]) hx hb dL_areBlocksRight_477 hl (by decide) rfl (fun ls hl => ?_)
              refine lv_iload hx hb dL_areBlocksRight_479 (lv_at hl 1 rfl) ?_
              refine lv_if_lt (tgt := 502) hx hb dL_areBlocksRight_481 (by decide) (fun c_481 => ?_) (fun c_481 => ?_)
              · refine lv_aload_n hx hb dL_areBlocksRight_502 rfl (lv_at hl 3 rfl) ?_
                refine lv_iload hx hb dL_areBlocksRight_503 (lv_at hl 7 rfl) ?_
                refine kI (rV (q0 := 0) (ci := 7) hx hb hml hown hg hN hK hP hD (a_isBack l D cI cJ ad co fl ra li re wa pi (nI i_5) hZ.zf hZ.zr (e_lt hZ hi_5).1 (e_lt hZ hi_5).2) mw_625 mw_626 mw_627 mw_628 mw_77 pdv_X7_isBack ⟨Nat.le_of_ble_eq_true rfl, Nat.le_of_ble_eq_true rfl⟩ rfl xo0 rfl hl.1 rfl (Nat.le_of_ble_eq_true rfl) dL_areBlocksRight_505 ⟨Nat.le_of_ble_eq_true rfl, Nat.le_of_ble_eq_true rfl⟩) hD hS hA (fun r_58 u_58 H locs hp hP hD hS => ?_)
                obtain ⟨er, eu⟩ := hp
                obtain rfl := er.symm
                obtain rfl := eu.symm
                refine lv_if_eq (tgt := 533) hx hb dL_areBlocksRight_508 (by decide) (fun _ => ?_) (fun c_508 => absurd (b2i_f (e_bk hZ c_481)) c_508)
                refine lv_iinc (v := (nI (i_5 + 1))) (lv' := [(5, .int (nI (i_5 + 1))), (4, .int (p_5 + 0)), (7, .int (rd (gA fl 4) 80 (nI i_5))), (6, .int (rd (gA fl 3) 80 (nI i_5))), (0, .ref (ad 0)), (1, .int ((lp (abS fl ra re) (cN) (0, 0, 0)).1)), (2, .int ((lp (abS fl ra re) (cN) (0, 0, 0)).2.1)), (3, .int ((lp (abS fl ra re) (cN) (0, 0, 0)).2.2))]) hx hb dL_areBlocksRight_533 hl (k := 7) rfl (nI_1 i_5) (by decide) rfl (fun ls hl => ?_)
                refine lv_goto (tgt := 380) hx hb dL_areBlocksRight_536 (by decide) ?_
                exact ih_5 (p_5 + 0) H locs ls ⟨((show (p_5 + 0) = (windStep fl) i_5 p_5 from (by simp only [windStep, Int32.add_zero, eq_true c_407, eq_true c_433, bf_of c_468, eq_true c_481, gi_sl, gi_sA, gi_sB, gi_si_s, gi_si_n, gl_si, gl_sA, gl_sB, gl_sl_s, gl_sl_n, gA_si, gA_sl, gA_sB, gA_sA_s, gA_sA_n, gB_si, gB_sl, gB_sA, gB_sB_s, gB_sB_n, Nat.reduceBEq, if_true, if_false, eq_self, Bool.false_eq_true, Bool.true_eq_false, not_true_eq_false, not_false_eq_true, decide_true, decide_false, cond_true, cond_false, Bool.true_and, Bool.false_and, Bool.and_true, Bool.and_false, Bool.true_or, Bool.false_or, Bool.or_true, Bool.or_false, b2i_tt, b2i_ff, pr_eta]; done)).trans (lp_go h_5)), hP, hD, hS, lv_sub hl [4, 5, 6, 7, 1, 0] rfl⟩
              · refine lv_aload_n hx hb dL_areBlocksRight_484 rfl (lv_at hl 3 rfl) ?_
                refine lv_iload hx hb dL_areBlocksRight_485 (lv_at hl 2 rfl) ?_
                refine kI (rV (q0 := 0) (ci := 7) hx hb hml hown hg hN hK hP hD (a_isReached l D cI cJ ad co fl ra li re wa pi (rd (gA fl 3) 80 (nI i_5)) hZ.zf (e_from hZ hi_5).1 (e_from hZ hi_5).2) mw_621 mw_622 mw_623 mw_624 mw_77 pdv_X7_isReached ⟨Nat.le_of_ble_eq_true rfl, Nat.le_of_ble_eq_true rfl⟩ rfl xo0 rfl hl.1 rfl (Nat.le_of_ble_eq_true rfl) dL_areBlocksRight_487 ⟨Nat.le_of_ble_eq_true rfl, Nat.le_of_ble_eq_true rfl⟩) hD hS hA (fun r_59 u_59 H locs hp hP hD hS => ?_)
                obtain ⟨er, eu⟩ := hp
                obtain rfl := er.symm
                obtain rfl := eu.symm
                refine lv_if_eq (tgt := 502) hx hb dL_areBlocksRight_490 (by decide) (fun _ => ?_) (fun c_490 => absurd (b2i_f c_468) c_490)
                refine lv_aload_n hx hb dL_areBlocksRight_502 rfl (lv_at hl 3 rfl) ?_
                refine lv_iload hx hb dL_areBlocksRight_503 (lv_at hl 7 rfl) ?_
                refine kI (rV (q0 := 0) (ci := 7) hx hb hml hown hg hN hK hP hD (a_isBack l D cI cJ ad co fl ra li re wa pi (nI i_5) hZ.zf hZ.zr (e_lt hZ hi_5).1 (e_lt hZ hi_5).2) mw_625 mw_626 mw_627 mw_628 mw_77 pdv_X7_isBack ⟨Nat.le_of_ble_eq_true rfl, Nat.le_of_ble_eq_true rfl⟩ rfl xo0 rfl hl.1 rfl (Nat.le_of_ble_eq_true rfl) dL_areBlocksRight_505 ⟨Nat.le_of_ble_eq_true rfl, Nat.le_of_ble_eq_true rfl⟩) hD hS hA (fun r_60 u_60 H locs hp hP hD hS => ?_)
                obtain ⟨er, eu⟩ := hp
                obtain rfl := er.symm
                obtain rfl := eu.symm
                refine lv_if_eq (tgt := 533) hx hb dL_areBlocksRight_508 (by decide) (fun c_508 => ?_) (fun c_508 => ?_)
                · have c_508 : ¬ (goesBack ra fl (nI i_5)) = true := b2i_0 c_508
                  refine lv_iinc (v := (nI (i_5 + 1))) (lv' := [(5, .int (nI (i_5 + 1))), (4, .int (p_5 + 0)), (7, .int (rd (gA fl 4) 80 (nI i_5))), (6, .int (rd (gA fl 3) 80 (nI i_5))), (0, .ref (ad 0)), (1, .int ((lp (abS fl ra re) (cN) (0, 0, 0)).1)), (2, .int ((lp (abS fl ra re) (cN) (0, 0, 0)).2.1)), (3, .int ((lp (abS fl ra re) (cN) (0, 0, 0)).2.2))]) hx hb dL_areBlocksRight_533 hl (k := 7) rfl (nI_1 i_5) (by decide) rfl (fun ls hl => ?_)
                  refine lv_goto (tgt := 380) hx hb dL_areBlocksRight_536 (by decide) ?_
                  exact ih_5 (p_5 + 0) H locs ls ⟨((show (p_5 + 0) = (windStep fl) i_5 p_5 from (by simp only [windStep, Int32.add_zero, eq_true c_407, eq_true c_433, bf_of c_468, eq_false c_481, bf_of c_508, gi_sl, gi_sA, gi_sB, gi_si_s, gi_si_n, gl_si, gl_sA, gl_sB, gl_sl_s, gl_sl_n, gA_si, gA_sl, gA_sB, gA_sA_s, gA_sA_n, gB_si, gB_sl, gB_sA, gB_sB_s, gB_sB_n, Nat.reduceBEq, if_true, if_false, eq_self, Bool.false_eq_true, Bool.true_eq_false, not_true_eq_false, not_false_eq_true, decide_true, decide_false, cond_true, cond_false, Bool.true_and, Bool.false_and, Bool.and_true, Bool.and_false, Bool.true_or, Bool.false_or, Bool.or_true, Bool.or_false, b2i_tt, b2i_ff, pr_eta]; done)).trans (lp_go h_5)), hP, hD, hS, lv_sub hl [4, 5, 6, 7, 1, 0] rfl⟩
                · have c_508 : (goesBack ra fl (nI i_5)) = true := b2i_1 c_508
                  refine lv_aload_n hx hb dL_areBlocksRight_511 rfl (lv_at hl 3 rfl) ?_
                  refine lv_iload hx hb dL_areBlocksRight_512 (lv_at hl 1 rfl) ?_
                  refine lv_iload hx hb dL_areBlocksRight_514 (lv_at hl 2 rfl) ?_
                  refine kI (rV (q0 := 0) (ci := 7) hx hb hml hown hg hN hK hP hD (a_dominates l D cI cJ ad co fl ra li re wa pi (rd (gA fl 4) 80 (nI i_5)) (rd (gA fl 3) 80 (nI i_5)) hZ.zf hZ.zr c_481 (e_to hZ hi_5) (e_from hZ hi_5).1 (e_from hZ hi_5).2) mw_629 mw_630 mw_631 mw_632 mw_77 pdv_X7_dominates ⟨Nat.le_of_ble_eq_true rfl, Nat.le_of_ble_eq_true rfl⟩ rfl xo0 rfl hl.1 rfl (Nat.le_of_ble_eq_true rfl) dL_areBlocksRight_516 ⟨Nat.le_of_ble_eq_true rfl, Nat.le_of_ble_eq_true rfl⟩) hD hS hA (fun r_61 u_61 H locs hp hP hD hS => ?_)
                  obtain ⟨er, eu⟩ := hp
                  obtain rfl := er.symm
                  obtain rfl := eu.symm
                  refine lv_if_eq (tgt := 531) hx hb dL_areBlocksRight_519 (by decide) (fun c_519 => absurd c_519 (b2i_t (e_dm hZ c_481 c_508))) (fun _ => ?_)
                  refine lv_aload_n hx hb dL_areBlocksRight_522 rfl (lv_at hl 3 rfl) ?_
                  refine lv_iload hx hb dL_areBlocksRight_523 (lv_at hl 1 rfl) ?_
                  refine kI (rV (q0 := 0) (ci := 7) hx hb hml hown hg hN hK hP hD (a_loopSize l D cI cJ ad co fl ra li re wa pi (rd (gA fl 4) 80 (nI i_5)) hZ.zf hZ.zr c_481 (e_to hZ hi_5)) mw_633 mw_634 mw_635 mw_636 mw_77 pdv_X7_loopSize ⟨Nat.le_of_ble_eq_true rfl, Nat.le_of_ble_eq_true rfl⟩ rfl xo0 rfl hl.1 rfl (Nat.le_of_ble_eq_true rfl) dL_areBlocksRight_525 ⟨Nat.le_of_ble_eq_true rfl, Nat.le_of_ble_eq_true rfl⟩) hD hS hA (fun r_62 u_62 H locs hp hP hD hS => ?_)
                  obtain ⟨er, eu⟩ := hp
                  obtain rfl := er.symm
                  obtain rfl := eu.symm
                  refine lv_if_ne (tgt := 533) hx hb dL_areBlocksRight_528 (by decide) (fun _ => ?_) (fun c_528 => absurd c_528 (e_lp hZ hi_5 c_481 c_508))
                  refine lv_iinc (v := (nI (i_5 + 1))) (lv' := [(5, .int (nI (i_5 + 1))), (4, .int (p_5 + 0)), (7, .int (rd (gA fl 4) 80 (nI i_5))), (6, .int (rd (gA fl 3) 80 (nI i_5))), (0, .ref (ad 0)), (1, .int ((lp (abS fl ra re) (cN) (0, 0, 0)).1)), (2, .int ((lp (abS fl ra re) (cN) (0, 0, 0)).2.1)), (3, .int ((lp (abS fl ra re) (cN) (0, 0, 0)).2.2))]) hx hb dL_areBlocksRight_533 hl (k := 7) rfl (nI_1 i_5) (by decide) rfl (fun ls hl => ?_)
                  refine lv_goto (tgt := 380) hx hb dL_areBlocksRight_536 (by decide) ?_
                  exact ih_5 (p_5 + 0) H locs ls ⟨((show (p_5 + 0) = (windStep fl) i_5 p_5 from (by simp only [windStep, Int32.add_zero, eq_true c_407, eq_true c_433, bf_of c_468, eq_false c_481, c_508, gi_sl, gi_sA, gi_sB, gi_si_s, gi_si_n, gl_si, gl_sA, gl_sB, gl_sl_s, gl_sl_n, gA_si, gA_sl, gA_sB, gA_sA_s, gA_sA_n, gB_si, gB_sl, gB_sA, gB_sB_s, gB_sB_n, Nat.reduceBEq, if_true, if_false, eq_self, Bool.false_eq_true, Bool.true_eq_false, not_true_eq_false, not_false_eq_true, decide_true, decide_false, cond_true, cond_false, Bool.true_and, Bool.false_and, Bool.and_true, Bool.and_false, Bool.true_or, Bool.false_or, Bool.or_true, Bool.or_false, b2i_tt, b2i_ff, pr_eta]; done)).trans (lp_go h_5)), hP, hD, hS, lv_sub hl [4, 5, 6, 7, 1, 0] rfl⟩
            · have c_468 : (hs (gl fl 0) (rd (gA fl 3) 80 (nI i_5))) = true := b2i_1 c_468
              refine lv_iconst (v := 1) hx hb dL_areBlocksRight_471 (by decide) ?_
              refine lv_goto (tgt := 476) hx hb dL_areBlocksRight_472 (by decide) ?_
              refine lv_iadd hx hb dL_areBlocksRight_476 ?_
              refine lv_istore (lv' := [(4, .int (p_5 + 1)), (7, .int (rd (gA fl 4) 80 (nI i_5))), (6, .int (rd (gA fl 3) 80 (nI i_5))), (0, .ref (ad 0)), (1, .int ((lp (abS fl ra re) (cN) (0, 0, 0)).1)), (2, .int ((lp (abS fl ra re) (cN) (0, 0, 0)).2.1)), (3, .int ((lp (abS fl ra re) (cN) (0, 0, 0)).2.2)), (5, .int (nI i_5))]) hx hb dL_areBlocksRight_477 hl (by decide) rfl (fun ls hl => ?_)
              refine lv_iload hx hb dL_areBlocksRight_479 (lv_at hl 1 rfl) ?_
              refine lv_if_lt (tgt := 502) hx hb dL_areBlocksRight_481 (by decide) (fun c_481 => ?_) (fun c_481 => ?_)
              · refine lv_aload_n hx hb dL_areBlocksRight_502 rfl (lv_at hl 3 rfl) ?_
                refine lv_iload hx hb dL_areBlocksRight_503 (lv_at hl 7 rfl) ?_
                refine kI (rV (q0 := 0) (ci := 7) hx hb hml hown hg hN hK hP hD (a_isBack l D cI cJ ad co fl ra li re wa pi (nI i_5) hZ.zf hZ.zr (e_lt hZ hi_5).1 (e_lt hZ hi_5).2) mw_625 mw_626 mw_627 mw_628 mw_77 pdv_X7_isBack ⟨Nat.le_of_ble_eq_true rfl, Nat.le_of_ble_eq_true rfl⟩ rfl xo0 rfl hl.1 rfl (Nat.le_of_ble_eq_true rfl) dL_areBlocksRight_505 ⟨Nat.le_of_ble_eq_true rfl, Nat.le_of_ble_eq_true rfl⟩) hD hS hA (fun r_63 u_63 H locs hp hP hD hS => ?_)
                obtain ⟨er, eu⟩ := hp
                obtain rfl := er.symm
                obtain rfl := eu.symm
                refine lv_if_eq (tgt := 533) hx hb dL_areBlocksRight_508 (by decide) (fun _ => ?_) (fun c_508 => absurd (b2i_f (e_bk hZ c_481)) c_508)
                refine lv_iinc (v := (nI (i_5 + 1))) (lv' := [(5, .int (nI (i_5 + 1))), (4, .int (p_5 + 1)), (7, .int (rd (gA fl 4) 80 (nI i_5))), (6, .int (rd (gA fl 3) 80 (nI i_5))), (0, .ref (ad 0)), (1, .int ((lp (abS fl ra re) (cN) (0, 0, 0)).1)), (2, .int ((lp (abS fl ra re) (cN) (0, 0, 0)).2.1)), (3, .int ((lp (abS fl ra re) (cN) (0, 0, 0)).2.2))]) hx hb dL_areBlocksRight_533 hl (k := 7) rfl (nI_1 i_5) (by decide) rfl (fun ls hl => ?_)
                refine lv_goto (tgt := 380) hx hb dL_areBlocksRight_536 (by decide) ?_
                exact ih_5 (p_5 + 1) H locs ls ⟨((show (p_5 + 1) = (windStep fl) i_5 p_5 from (by simp only [windStep, Int32.add_zero, eq_true c_407, eq_true c_433, c_468, eq_true c_481, gi_sl, gi_sA, gi_sB, gi_si_s, gi_si_n, gl_si, gl_sA, gl_sB, gl_sl_s, gl_sl_n, gA_si, gA_sl, gA_sB, gA_sA_s, gA_sA_n, gB_si, gB_sl, gB_sA, gB_sB_s, gB_sB_n, Nat.reduceBEq, if_true, if_false, eq_self, Bool.false_eq_true, Bool.true_eq_false, not_true_eq_false, not_false_eq_true, decide_true, decide_false, cond_true, cond_false, Bool.true_and, Bool.false_and, Bool.and_true, Bool.and_false, Bool.true_or, Bool.false_or, Bool.or_true, Bool.or_false, b2i_tt, b2i_ff, pr_eta]; done)).trans (lp_go h_5)), hP, hD, hS, lv_sub hl [4, 5, 6, 7, 1, 0] rfl⟩
              · refine lv_aload_n hx hb dL_areBlocksRight_484 rfl (lv_at hl 3 rfl) ?_
                refine lv_iload hx hb dL_areBlocksRight_485 (lv_at hl 2 rfl) ?_
                refine kI (rV (q0 := 0) (ci := 7) hx hb hml hown hg hN hK hP hD (a_isReached l D cI cJ ad co fl ra li re wa pi (rd (gA fl 3) 80 (nI i_5)) hZ.zf (e_from hZ hi_5).1 (e_from hZ hi_5).2) mw_621 mw_622 mw_623 mw_624 mw_77 pdv_X7_isReached ⟨Nat.le_of_ble_eq_true rfl, Nat.le_of_ble_eq_true rfl⟩ rfl xo0 rfl hl.1 rfl (Nat.le_of_ble_eq_true rfl) dL_areBlocksRight_487 ⟨Nat.le_of_ble_eq_true rfl, Nat.le_of_ble_eq_true rfl⟩) hD hS hA (fun r_64 u_64 H locs hp hP hD hS => ?_)
                obtain ⟨er, eu⟩ := hp
                obtain rfl := er.symm
                obtain rfl := eu.symm
                refine lv_if_eq (tgt := 502) hx hb dL_areBlocksRight_490 (by decide) (fun c_490 => absurd c_490 (b2i_t c_468)) (fun _ => ?_)
                refine lv_aload_n hx hb dL_areBlocksRight_493 rfl (lv_at hl 3 rfl) ?_
                refine lv_iload hx hb dL_areBlocksRight_494 (lv_at hl 1 rfl) ?_
                refine kI (rV (q0 := 0) (ci := 7) hx hb hml hown hg hN hK hP hD (a_isReached l D cI cJ ad co fl ra li re wa pi (rd (gA fl 4) 80 (nI i_5)) hZ.zf c_481 (e_to hZ hi_5)) mw_621 mw_622 mw_623 mw_624 mw_77 pdv_X7_isReached ⟨Nat.le_of_ble_eq_true rfl, Nat.le_of_ble_eq_true rfl⟩ rfl xo0 rfl hl.1 rfl (Nat.le_of_ble_eq_true rfl) dL_areBlocksRight_496 ⟨Nat.le_of_ble_eq_true rfl, Nat.le_of_ble_eq_true rfl⟩) hD hS hA (fun r_65 u_65 H locs hp hP hD hS => ?_)
                obtain ⟨er, eu⟩ := hp
                obtain rfl := er.symm
                obtain rfl := eu.symm
                refine lv_if_eq (tgt := 531) hx hb dL_areBlocksRight_499 (by decide) (fun c_499 => absurd c_499 (b2i_t (e_rt hZ hi_5 c_481 c_468))) (fun _ => ?_)
                refine lv_aload_n hx hb dL_areBlocksRight_502 rfl (lv_at hl 3 rfl) ?_
                refine lv_iload hx hb dL_areBlocksRight_503 (lv_at hl 7 rfl) ?_
                refine kI (rV (q0 := 0) (ci := 7) hx hb hml hown hg hN hK hP hD (a_isBack l D cI cJ ad co fl ra li re wa pi (nI i_5) hZ.zf hZ.zr (e_lt hZ hi_5).1 (e_lt hZ hi_5).2) mw_625 mw_626 mw_627 mw_628 mw_77 pdv_X7_isBack ⟨Nat.le_of_ble_eq_true rfl, Nat.le_of_ble_eq_true rfl⟩ rfl xo0 rfl hl.1 rfl (Nat.le_of_ble_eq_true rfl) dL_areBlocksRight_505 ⟨Nat.le_of_ble_eq_true rfl, Nat.le_of_ble_eq_true rfl⟩) hD hS hA (fun r_66 u_66 H locs hp hP hD hS => ?_)
                obtain ⟨er, eu⟩ := hp
                obtain rfl := er.symm
                obtain rfl := eu.symm
                refine lv_if_eq (tgt := 533) hx hb dL_areBlocksRight_508 (by decide) (fun c_508 => ?_) (fun c_508 => ?_)
                · have c_508 : ¬ (goesBack ra fl (nI i_5)) = true := b2i_0 c_508
                  refine lv_iinc (v := (nI (i_5 + 1))) (lv' := [(5, .int (nI (i_5 + 1))), (4, .int (p_5 + 1)), (7, .int (rd (gA fl 4) 80 (nI i_5))), (6, .int (rd (gA fl 3) 80 (nI i_5))), (0, .ref (ad 0)), (1, .int ((lp (abS fl ra re) (cN) (0, 0, 0)).1)), (2, .int ((lp (abS fl ra re) (cN) (0, 0, 0)).2.1)), (3, .int ((lp (abS fl ra re) (cN) (0, 0, 0)).2.2))]) hx hb dL_areBlocksRight_533 hl (k := 7) rfl (nI_1 i_5) (by decide) rfl (fun ls hl => ?_)
                  refine lv_goto (tgt := 380) hx hb dL_areBlocksRight_536 (by decide) ?_
                  exact ih_5 (p_5 + 1) H locs ls ⟨((show (p_5 + 1) = (windStep fl) i_5 p_5 from (by simp only [windStep, Int32.add_zero, eq_true c_407, eq_true c_433, c_468, eq_false c_481, bf_of c_508, gi_sl, gi_sA, gi_sB, gi_si_s, gi_si_n, gl_si, gl_sA, gl_sB, gl_sl_s, gl_sl_n, gA_si, gA_sl, gA_sB, gA_sA_s, gA_sA_n, gB_si, gB_sl, gB_sA, gB_sB_s, gB_sB_n, Nat.reduceBEq, if_true, if_false, eq_self, Bool.false_eq_true, Bool.true_eq_false, not_true_eq_false, not_false_eq_true, decide_true, decide_false, cond_true, cond_false, Bool.true_and, Bool.false_and, Bool.and_true, Bool.and_false, Bool.true_or, Bool.false_or, Bool.or_true, Bool.or_false, b2i_tt, b2i_ff, pr_eta]; done)).trans (lp_go h_5)), hP, hD, hS, lv_sub hl [4, 5, 6, 7, 1, 0] rfl⟩
                · have c_508 : (goesBack ra fl (nI i_5)) = true := b2i_1 c_508
                  refine lv_aload_n hx hb dL_areBlocksRight_511 rfl (lv_at hl 3 rfl) ?_
                  refine lv_iload hx hb dL_areBlocksRight_512 (lv_at hl 1 rfl) ?_
                  refine lv_iload hx hb dL_areBlocksRight_514 (lv_at hl 2 rfl) ?_
                  refine kI (rV (q0 := 0) (ci := 7) hx hb hml hown hg hN hK hP hD (a_dominates l D cI cJ ad co fl ra li re wa pi (rd (gA fl 4) 80 (nI i_5)) (rd (gA fl 3) 80 (nI i_5)) hZ.zf hZ.zr c_481 (e_to hZ hi_5) (e_from hZ hi_5).1 (e_from hZ hi_5).2) mw_629 mw_630 mw_631 mw_632 mw_77 pdv_X7_dominates ⟨Nat.le_of_ble_eq_true rfl, Nat.le_of_ble_eq_true rfl⟩ rfl xo0 rfl hl.1 rfl (Nat.le_of_ble_eq_true rfl) dL_areBlocksRight_516 ⟨Nat.le_of_ble_eq_true rfl, Nat.le_of_ble_eq_true rfl⟩) hD hS hA (fun r_67 u_67 H locs hp hP hD hS => ?_)
                  obtain ⟨er, eu⟩ := hp
                  obtain rfl := er.symm
                  obtain rfl := eu.symm
                  refine lv_if_eq (tgt := 531) hx hb dL_areBlocksRight_519 (by decide) (fun c_519 => absurd c_519 (b2i_t (e_dm hZ c_481 c_508))) (fun _ => ?_)
                  refine lv_aload_n hx hb dL_areBlocksRight_522 rfl (lv_at hl 3 rfl) ?_
                  refine lv_iload hx hb dL_areBlocksRight_523 (lv_at hl 1 rfl) ?_
                  refine kI (rV (q0 := 0) (ci := 7) hx hb hml hown hg hN hK hP hD (a_loopSize l D cI cJ ad co fl ra li re wa pi (rd (gA fl 4) 80 (nI i_5)) hZ.zf hZ.zr c_481 (e_to hZ hi_5)) mw_633 mw_634 mw_635 mw_636 mw_77 pdv_X7_loopSize ⟨Nat.le_of_ble_eq_true rfl, Nat.le_of_ble_eq_true rfl⟩ rfl xo0 rfl hl.1 rfl (Nat.le_of_ble_eq_true rfl) dL_areBlocksRight_525 ⟨Nat.le_of_ble_eq_true rfl, Nat.le_of_ble_eq_true rfl⟩) hD hS hA (fun r_68 u_68 H locs hp hP hD hS => ?_)
                  obtain ⟨er, eu⟩ := hp
                  obtain rfl := er.symm
                  obtain rfl := eu.symm
                  refine lv_if_ne (tgt := 533) hx hb dL_areBlocksRight_528 (by decide) (fun _ => ?_) (fun c_528 => absurd c_528 (e_lp hZ hi_5 c_481 c_508))
                  refine lv_iinc (v := (nI (i_5 + 1))) (lv' := [(5, .int (nI (i_5 + 1))), (4, .int (p_5 + 1)), (7, .int (rd (gA fl 4) 80 (nI i_5))), (6, .int (rd (gA fl 3) 80 (nI i_5))), (0, .ref (ad 0)), (1, .int ((lp (abS fl ra re) (cN) (0, 0, 0)).1)), (2, .int ((lp (abS fl ra re) (cN) (0, 0, 0)).2.1)), (3, .int ((lp (abS fl ra re) (cN) (0, 0, 0)).2.2))]) hx hb dL_areBlocksRight_533 hl (k := 7) rfl (nI_1 i_5) (by decide) rfl (fun ls hl => ?_)
                  refine lv_goto (tgt := 380) hx hb dL_areBlocksRight_536 (by decide) ?_
                  exact ih_5 (p_5 + 1) H locs ls ⟨((show (p_5 + 1) = (windStep fl) i_5 p_5 from (by simp only [windStep, Int32.add_zero, eq_true c_407, eq_true c_433, c_468, eq_false c_481, c_508, gi_sl, gi_sA, gi_sB, gi_si_s, gi_si_n, gl_si, gl_sA, gl_sB, gl_sl_s, gl_sl_n, gA_si, gA_sl, gA_sB, gA_sA_s, gA_sA_n, gB_si, gB_sl, gB_sA, gB_sB_s, gB_sB_n, Nat.reduceBEq, if_true, if_false, eq_self, Bool.false_eq_true, Bool.true_eq_false, not_true_eq_false, not_false_eq_true, decide_true, decide_false, cond_true, cond_false, Bool.true_and, Bool.false_and, Bool.and_true, Bool.and_false, Bool.true_or, Bool.false_or, Bool.or_true, Bool.or_false, b2i_tt, b2i_ff, pr_eta]; done)).trans (lp_go h_5)), hP, hD, hS, lv_sub hl [4, 5, 6, 7, 1, 0] rfl⟩
    · obtain ⟨h_3, hP, hD, hS, hl⟩ := hI
      have hP : va_P D vwCl (XW ad cI cJ co fl ra li re wa pi) H := hP
      have hD : va_D A (XW ad cI cJ co fl ra li re wa pi) := hD
      have hl : lv_has ls 8 [(0, .ref (ad 0)), (1, .int p_3.1), (2, .int p_3.2.1), (3, .int p_3.2.2), (4, .int (nI i_3))] := hl
      refine lv_iload hx hb dL_areBlocksRight_89 (lv_at hl 4 rfl) ?_
      refine lv_aload_n hx hb dL_areBlocksRight_91 rfl (lv_at hl 0 rfl) ?_
      refine kI (rV (q0 := 0) (ci := 7) hx hb hml hown hg hN hK hP hD (a_blocks l D cI cJ ad co fl ra li re wa pi hZ.zf) mw_585 mw_586 mw_587 mw_588 mw_77 pdv_X7_blocks ⟨Nat.le_of_ble_eq_true rfl, Nat.le_of_ble_eq_true rfl⟩ rfl xo0 rfl hl.1 rfl (Nat.le_of_ble_eq_true rfl) dL_areBlocksRight_92 ⟨Nat.le_of_ble_eq_true rfl, Nat.le_of_ble_eq_true rfl⟩) hD hS hA (fun r_69 u_69 H locs hp hP hD hS => ?_)
      obtain ⟨er, eu⟩ := hp
      obtain rfl := er.symm
      obtain rfl := eu.symm
      refine lv_icmp_ge (tgt := 374) hx hb dL_areBlocksRight_95 (by decide) (fun c_95 => absurd c_95 (tst_in hZ.F.bc hi_3 (by have := hZ.F.c19; omega))) (fun _ => ?_)
      rcases l2_case hZ hi_3 with ⟨hr, hz, hp, hdd, hdp, hpl, hy, hlv, hh⟩ | ⟨⟨hr, hdd, he0, he1, he2, he3, hdl, hdz⟩, ⟨hz, hp⟩ | ⟨hz, hp0, hp1, hd1, hd2⟩⟩
      · have hr0 := hr
        refine lv_aload_n hx hb dL_areBlocksRight_98 rfl (lv_at hl 0 rfl) ?_
        refine lv_iload hx hb dL_areBlocksRight_99 (lv_at hl 4 rfl) ?_
        refine kI (rV (q0 := 0) (ci := 7) hx hb hml hown hg hN hK hP hD (a_parentOf l D cI cJ ad co fl ra li re wa pi (nI i_3) hZ.zf hZ.zr (l2_lt hZ hi_3).1 (l2_lt hZ hi_3).2) mw_637 mw_638 mw_639 mw_640 mw_77 pdv_X7_parentOf ⟨Nat.le_of_ble_eq_true rfl, Nat.le_of_ble_eq_true rfl⟩ rfl xo0 rfl hl.1 rfl (Nat.le_of_ble_eq_true rfl) dL_areBlocksRight_101 ⟨Nat.le_of_ble_eq_true rfl, Nat.le_of_ble_eq_true rfl⟩) hD hS hA (fun r_70 u_70 H locs hp hP hD hS => ?_)
        obtain ⟨er, eu⟩ := hp
        obtain rfl := er.symm
        obtain rfl := eu.symm
        refine lv_istore (lv' := [(5, .int (nearest ra (nI i_3))), (0, .ref (ad 0)), (1, .int p_3.1), (2, .int p_3.2.1), (3, .int p_3.2.2), (4, .int (nI i_3))]) hx hb dL_areBlocksRight_104 hl (by decide) rfl (fun ls hl => ?_)
        refine lv_iload_n hx hb dL_areBlocksRight_106 rfl (lv_at hl 2 rfl) ?_
        refine lv_aload_n hx hb dL_areBlocksRight_107 rfl (lv_at hl 1 rfl) ?_
        refine lv_iload hx hb dL_areBlocksRight_108 (lv_at hl 5 rfl) ?_
        refine kI (rV (q0 := 0) (ci := 7) hx hb hml hown hg hN hK hP hD (a_isReached l D cI cJ ad co fl ra li re wa pi (nI i_3) hZ.zf (l2_lt hZ hi_3).1 (l2_lt hZ hi_3).2) mw_621 mw_622 mw_623 mw_624 mw_77 pdv_X7_isReached ⟨Nat.le_of_ble_eq_true rfl, Nat.le_of_ble_eq_true rfl⟩ rfl xo0 rfl hl.1 rfl (Nat.le_of_ble_eq_true rfl) dL_areBlocksRight_110 ⟨Nat.le_of_ble_eq_true rfl, Nat.le_of_ble_eq_true rfl⟩) hD hS hA (fun r_71 u_71 H locs hp hP hD hS => ?_)
        obtain ⟨er, eu⟩ := hp
        obtain rfl := er.symm
        obtain rfl := eu.symm
        refine lv_if_eq (tgt := 120) hx hb dL_areBlocksRight_113 (by decide) (fun _ => ?_) (fun c_113 => absurd (b2i_f hr) c_113)
        refine lv_iconst (v := 0) hx hb dL_areBlocksRight_120 (by decide) ?_
        refine lv_iadd hx hb dL_areBlocksRight_121 ?_
        refine lv_istore_n (lv' := [(1, .int (p_3.1 + 0)), (5, .int (nearest ra (nI i_3))), (0, .ref (ad 0)), (2, .int p_3.2.1), (3, .int p_3.2.2), (4, .int (nI i_3))]) hx hb dL_areBlocksRight_122 rfl hl (by decide) rfl (fun ls hl => ?_)
        refine lv_iload_n hx hb dL_areBlocksRight_123 rfl (lv_at hl 3 rfl) ?_
        refine lv_aload_n hx hb dL_areBlocksRight_124 rfl (lv_at hl 2 rfl) ?_
        refine lv_iload hx hb dL_areBlocksRight_125 (lv_at hl 5 rfl) ?_
        refine kI (rV (q0 := 0) (ci := 7) hx hb hml hown hg hN hK hP hD (a_loopSize l D cI cJ ad co fl ra li re wa pi (nI i_3) hZ.zf hZ.zr (l2_lt hZ hi_3).1 (l2_lt hZ hi_3).2) mw_633 mw_634 mw_635 mw_636 mw_77 pdv_X7_loopSize ⟨Nat.le_of_ble_eq_true rfl, Nat.le_of_ble_eq_true rfl⟩ rfl xo0 rfl hl.1 rfl (Nat.le_of_ble_eq_true rfl) dL_areBlocksRight_127 ⟨Nat.le_of_ble_eq_true rfl, Nat.le_of_ble_eq_true rfl⟩) hD hS hA (fun r_72 u_72 H locs hp hP hD hS => ?_)
        obtain ⟨er, eu⟩ := hp
        obtain rfl := er.symm
        obtain rfl := eu.symm
        refine lv_if_le (tgt := 137) hx hb dL_areBlocksRight_130 (by decide) (fun c_130 => ?_) (fun c_130 => ?_)
        · have c_130 : ¬ 0 < (bc (rdL (gB ra 1) 40 (nI i_3))) := i_ge c_130
          refine lv_iconst (v := 0) hx hb dL_areBlocksRight_137 (by decide) ?_
          refine lv_iadd hx hb dL_areBlocksRight_138 ?_
          refine lv_istore_n (lv' := [(2, .int (p_3.2.1 + 0)), (1, .int (p_3.1 + 0)), (5, .int (nearest ra (nI i_3))), (0, .ref (ad 0)), (3, .int p_3.2.2), (4, .int (nI i_3))]) hx hb dL_areBlocksRight_139 rfl hl (by decide) rfl (fun ls hl => ?_)
          refine lv_iload_n hx hb dL_areBlocksRight_140 rfl (lv_at hl 4 rfl) ?_
          refine lv_aload_n hx hb dL_areBlocksRight_141 rfl (lv_at hl 3 rfl) ?_
          refine lv_iload hx hb dL_areBlocksRight_142 (lv_at hl 5 rfl) ?_
          refine kI (rV (q0 := 0) (ci := 7) hx hb hml hown hg hN hK hP hD (a_endsIn l D cI cJ ad co fl ra li re wa pi (nI i_3) hZ.zf hZ.zd (l2_lt hZ hi_3).1 (l2_lt hZ hi_3).2) mw_641 mw_642 mw_643 mw_644 mw_77 pdv_X7_endsIn ⟨Nat.le_of_ble_eq_true rfl, Nat.le_of_ble_eq_true rfl⟩ rfl xo0 rfl hl.1 rfl (Nat.le_of_ble_eq_true rfl) dL_areBlocksRight_144 ⟨Nat.le_of_ble_eq_true rfl, Nat.le_of_ble_eq_true rfl⟩) hD hS hA (fun r_73 u_73 H locs hp hP hD hS => ?_)
          obtain ⟨er, eu⟩ := hp
          obtain rfl := er.symm
          obtain rfl := eu.symm
          refine lv_iload hx hb dL_areBlocksRight_147 (lv_at hl 5 rfl) ?_
          refine lv_icmp_ne (tgt := 156) hx hb dL_areBlocksRight_149 (by decide) (fun c_149 => ?_) (fun c_149 => ?_)
          · refine lv_iconst (v := 0) hx hb dL_areBlocksRight_156 (by decide) ?_
            refine lv_iadd hx hb dL_areBlocksRight_157 ?_
            refine lv_istore_n (lv' := [(3, .int (p_3.2.2 + 0)), (2, .int (p_3.2.1 + 0)), (1, .int (p_3.1 + 0)), (5, .int (nearest ra (nI i_3))), (0, .ref (ad 0)), (4, .int (nI i_3))]) hx hb dL_areBlocksRight_158 rfl hl (by decide) rfl (fun ls hl => ?_)
            refine lv_iload hx hb dL_areBlocksRight_159 (lv_at hl 3 rfl) ?_
            refine lv_if_ge (tgt := 168) hx hb dL_areBlocksRight_161 (by decide) (fun c_161 => absurd c_161 (i_lt_nle hp)) (fun _ => ?_)
            refine lv_iconst (v := 1) hx hb dL_areBlocksRight_164 (by decide) ?_
            refine lv_goto (tgt := 169) hx hb dL_areBlocksRight_165 (by decide) ?_
            refine lv_iload hx hb dL_areBlocksRight_169 (lv_at hl 5 rfl) ?_
            refine lv_if_eq (tgt := 183) hx hb dL_areBlocksRight_171 (by decide) (fun c_171 => absurd c_171 hz) (fun _ => ?_)
            refine lv_aload_n hx hb dL_areBlocksRight_174 rfl (lv_at hl 4 rfl) ?_
            refine lv_iload hx hb dL_areBlocksRight_175 (lv_at hl 5 rfl) ?_
            refine kI (rV (q0 := 0) (ci := 7) hx hb hml hown hg hN hK hP hD (a_isReached l D cI cJ ad co fl ra li re wa pi (nI i_3) hZ.zf (l2_lt hZ hi_3).1 (l2_lt hZ hi_3).2) mw_621 mw_622 mw_623 mw_624 mw_77 pdv_X7_isReached ⟨Nat.le_of_ble_eq_true rfl, Nat.le_of_ble_eq_true rfl⟩ rfl xo0 rfl hl.1 rfl (Nat.le_of_ble_eq_true rfl) dL_areBlocksRight_177 ⟨Nat.le_of_ble_eq_true rfl, Nat.le_of_ble_eq_true rfl⟩) hD hS hA (fun r_74 u_74 H locs hp hP hD hS => ?_)
            obtain ⟨er, eu⟩ := hp
            obtain rfl := er.symm
            obtain rfl := eu.symm
            refine lv_if_ne (tgt := 187) hx hb dL_areBlocksRight_180 (by decide) (fun c_180 => absurd (b2i_f hr) c_180) (fun _ => ?_)
            refine lv_iconst (v := 1) hx hb dL_areBlocksRight_183 (by decide) ?_
            refine lv_goto (tgt := 188) hx hb dL_areBlocksRight_184 (by decide) ?_
            refine lv_icmp_ne (tgt := 235) hx hb dL_areBlocksRight_188 (by decide) (fun c_188 => absurd (by decide) c_188) (fun _ => ?_)
            refine lv_iload hx hb dL_areBlocksRight_191 (lv_at hl 3 rfl) ?_
            refine lv_if_lt (tgt := 218) hx hb dL_areBlocksRight_193 (by decide) (fun _ => ?_) (fun c_193 => absurd hp c_193)
            refine lv_aload_n hx hb dL_areBlocksRight_218 rfl (lv_at hl 4 rfl) ?_
            refine lv_iload hx hb dL_areBlocksRight_219 (lv_at hl 5 rfl) ?_
            refine lv_iload hx hb dL_areBlocksRight_221 (lv_at hl 5 rfl) ?_
            refine kI (rV (q0 := 0) (ci := 7) hx hb hml hown hg hN hK hP hD (a_dominates l D cI cJ ad co fl ra li re wa pi (nI i_3) (nI i_3) hZ.zf hZ.zr (l2_lt hZ hi_3).1 (l2_lt hZ hi_3).2 (l2_lt hZ hi_3).1 (l2_lt hZ hi_3).2) mw_629 mw_630 mw_631 mw_632 mw_77 pdv_X7_dominates ⟨Nat.le_of_ble_eq_true rfl, Nat.le_of_ble_eq_true rfl⟩ rfl xo0 rfl hl.1 rfl (Nat.le_of_ble_eq_true rfl) dL_areBlocksRight_223 ⟨Nat.le_of_ble_eq_true rfl, Nat.le_of_ble_eq_true rfl⟩) hD hS hA (fun r_75 u_75 H locs hp hP hD hS => ?_)
            obtain ⟨er, eu⟩ := hp
            obtain rfl := er.symm
            obtain rfl := eu.symm
            refine lv_aload_n hx hb dL_areBlocksRight_226 rfl (lv_at hl 4 rfl) ?_
            refine lv_iload hx hb dL_areBlocksRight_227 (lv_at hl 5 rfl) ?_
            refine kI (rV (q0 := 0) (ci := 7) hx hb hml hown hg hN hK hP hD (a_isReached l D cI cJ ad co fl ra li re wa pi (nI i_3) hZ.zf (l2_lt hZ hi_3).1 (l2_lt hZ hi_3).2) mw_621 mw_622 mw_623 mw_624 mw_77 pdv_X7_isReached ⟨Nat.le_of_ble_eq_true rfl, Nat.le_of_ble_eq_true rfl⟩ rfl xo0 rfl hl.1 rfl (Nat.le_of_ble_eq_true rfl) dL_areBlocksRight_229 ⟨Nat.le_of_ble_eq_true rfl, Nat.le_of_ble_eq_true rfl⟩) hD hS hA (fun r_76 u_76 H locs hp hP hD hS => ?_)
            obtain ⟨er, eu⟩ := hp
            obtain rfl := er.symm
            obtain rfl := eu.symm
            refine lv_icmp_eq (tgt := 237) hx hb dL_areBlocksRight_232 (by decide) (fun _ => ?_) (fun c_232 => absurd (b2f2 hdd hr) c_232)
            refine lv_aload_n hx hb dL_areBlocksRight_237 rfl (lv_at hl 4 rfl) ?_
            refine lv_iload hx hb dL_areBlocksRight_238 (lv_at hl 5 rfl) ?_
            refine kI (rV (q0 := 0) (ci := 7) hx hb hml hown hg hN hK hP hD (a_isReached l D cI cJ ad co fl ra li re wa pi (nI i_3) hZ.zf (l2_lt hZ hi_3).1 (l2_lt hZ hi_3).2) mw_621 mw_622 mw_623 mw_624 mw_77 pdv_X7_isReached ⟨Nat.le_of_ble_eq_true rfl, Nat.le_of_ble_eq_true rfl⟩ rfl xo0 rfl hl.1 rfl (Nat.le_of_ble_eq_true rfl) dL_areBlocksRight_240 ⟨Nat.le_of_ble_eq_true rfl, Nat.le_of_ble_eq_true rfl⟩) hD hS hA (fun r_77 u_77 H locs hp hP hD hS => ?_)
            obtain ⟨er, eu⟩ := hp
            obtain rfl := er.symm
            obtain rfl := eu.symm
            refine lv_if_ne (tgt := 296) hx hb dL_areBlocksRight_243 (by decide) (fun c_243 => absurd (b2i_f hr) c_243) (fun _ => ?_)
            refine lv_aload_n hx hb dL_areBlocksRight_246 rfl (lv_at hl 4 rfl) ?_
            refine lv_iload hx hb dL_areBlocksRight_247 (lv_at hl 5 rfl) ?_
            refine kI (rV (q0 := 0) (ci := 7) hx hb hml hown hg hN hK hP hD (a_liveIn l D cI cJ ad co fl ra li re wa pi (nI i_3) hZ.zf hZ.zl (l2_lt hZ hi_3).1 (l2_lt hZ hi_3).2) mw_645 mw_646 mw_647 mw_648 mw_77 pdv_X7_liveIn ⟨Nat.le_of_ble_eq_true rfl, Nat.le_of_ble_eq_true rfl⟩ rfl xo0 rfl hl.1 rfl (Nat.le_of_ble_eq_true rfl) dL_areBlocksRight_249 ⟨Nat.le_of_ble_eq_true rfl, Nat.le_of_ble_eq_true rfl⟩) hD hS hA (fun r_78 u_78 H locs hp hP hD hS => ?_)
            obtain ⟨er, eu⟩ := hp
            obtain rfl := er.symm
            obtain rfl := eu.symm
            refine lv_if_ne (tgt := 294) hx hb dL_areBlocksRight_252 (by decide) (fun c_252 => absurd hlv c_252) (fun _ => ?_)
            refine lv_aload_n hx hb dL_areBlocksRight_255 rfl (lv_at hl 4 rfl) ?_
            refine lv_iload hx hb dL_areBlocksRight_256 (lv_at hl 5 rfl) ?_
            refine kI (rV (q0 := 0) (ci := 7) hx hb hml hown hg hN hK hP hD (a_endsIn l D cI cJ ad co fl ra li re wa pi (nI i_3) hZ.zf hZ.zd (l2_lt hZ hi_3).1 (l2_lt hZ hi_3).2) mw_641 mw_642 mw_643 mw_644 mw_77 pdv_X7_endsIn ⟨Nat.le_of_ble_eq_true rfl, Nat.le_of_ble_eq_true rfl⟩ rfl xo0 rfl hl.1 rfl (Nat.le_of_ble_eq_true rfl) dL_areBlocksRight_258 ⟨Nat.le_of_ble_eq_true rfl, Nat.le_of_ble_eq_true rfl⟩) hD hS hA (fun r_79 u_79 H locs hp hP hD hS => ?_)
            obtain ⟨er, eu⟩ := hp
            obtain rfl := er.symm
            obtain rfl := eu.symm
            refine lv_iconst (v := (-1)) hx hb dL_areBlocksRight_261 (by decide) ?_
            refine lv_icmp_ne (tgt := 294) hx hb dL_areBlocksRight_262 (by decide) (fun c_262 => absurd hh c_262) (fun _ => ?_)
            refine lv_aload_n hx hb dL_areBlocksRight_265 rfl (lv_at hl 4 rfl) ?_
            refine lv_iload hx hb dL_areBlocksRight_266 (lv_at hl 5 rfl) ?_
            refine kI (rV (q0 := 0) (ci := 7) hx hb hml hown hg hN hK hP hD (a_layerOf l D cI cJ ad co fl ra li re wa pi (nI i_3) hZ.zf hZ.zp (l2_lt hZ hi_3).1 (l2_lt hZ hi_3).2) mw_649 mw_650 mw_651 mw_652 mw_77 pdv_X7_layerOf ⟨Nat.le_of_ble_eq_true rfl, Nat.le_of_ble_eq_true rfl⟩ rfl xo0 rfl hl.1 rfl (Nat.le_of_ble_eq_true rfl) dL_areBlocksRight_268 ⟨Nat.le_of_ble_eq_true rfl, Nat.le_of_ble_eq_true rfl⟩) hD hS hA (fun r_80 u_80 H locs hp hP hD hS => ?_)
            obtain ⟨er, eu⟩ := hp
            obtain rfl := er.symm
            obtain rfl := eu.symm
            refine lv_iconst (v := (-1)) hx hb dL_areBlocksRight_271 (by decide) ?_
            refine lv_icmp_ne (tgt := 294) hx hb dL_areBlocksRight_272 (by decide) (fun c_272 => absurd hy c_272) (fun _ => ?_)
            refine lv_aload_n hx hb dL_areBlocksRight_275 rfl (lv_at hl 4 rfl) ?_
            refine lv_iload hx hb dL_areBlocksRight_276 (lv_at hl 5 rfl) ?_
            refine kI (rV (q0 := 0) (ci := 7) hx hb hml hown hg hN hK hP hD (a_depthOf l D cI cJ ad co fl ra li re wa pi (nI i_3) hZ.zf hZ.zr (l2_lt hZ hi_3).1 (l2_lt hZ hi_3).2) mw_653 mw_654 mw_655 mw_656 mw_77 pdv_X7_depthOf ⟨Nat.le_of_ble_eq_true rfl, Nat.le_of_ble_eq_true rfl⟩ rfl xo0 rfl hl.1 rfl (Nat.le_of_ble_eq_true rfl) dL_areBlocksRight_278 ⟨Nat.le_of_ble_eq_true rfl, Nat.le_of_ble_eq_true rfl⟩) hD hS hA (fun r_81 u_81 H locs hp hP hD hS => ?_)
            obtain ⟨er, eu⟩ := hp
            obtain rfl := er.symm
            obtain rfl := eu.symm
            refine lv_if_ne (tgt := 294) hx hb dL_areBlocksRight_281 (by decide) (fun c_281 => absurd hdp c_281) (fun _ => ?_)
            refine lv_aload_n hx hb dL_areBlocksRight_284 rfl (lv_at hl 4 rfl) ?_
            refine lv_iload hx hb dL_areBlocksRight_285 (lv_at hl 5 rfl) ?_
            refine kI (rV (q0 := 0) (ci := 7) hx hb hml hown hg hN hK hP hD (a_placeOf l D cI cJ ad co fl ra li re wa pi (nI i_3) hZ.zf hZ.zp (l2_lt hZ hi_3).1 (l2_lt hZ hi_3).2) mw_657 mw_658 mw_659 mw_660 mw_77 pdv_X7_placeOf ⟨Nat.le_of_ble_eq_true rfl, Nat.le_of_ble_eq_true rfl⟩ rfl xo0 rfl hl.1 rfl (Nat.le_of_ble_eq_true rfl) dL_areBlocksRight_287 ⟨Nat.le_of_ble_eq_true rfl, Nat.le_of_ble_eq_true rfl⟩) hD hS hA (fun r_82 u_82 H locs hp hP hD hS => ?_)
            obtain ⟨er, eu⟩ := hp
            obtain rfl := er.symm
            obtain rfl := eu.symm
            refine lv_iconst (v := (-1)) hx hb dL_areBlocksRight_290 (by decide) ?_
            refine lv_icmp_eq (tgt := 296) hx hb dL_areBlocksRight_291 (by decide) (fun _ => ?_) (fun c_291 => absurd hpl c_291)
            refine lv_aload_n hx hb dL_areBlocksRight_296 rfl (lv_at hl 4 rfl) ?_
            refine lv_iload hx hb dL_areBlocksRight_297 (lv_at hl 5 rfl) ?_
            refine kI (rV (q0 := 0) (ci := 7) hx hb hml hown hg hN hK hP hD (a_isReached l D cI cJ ad co fl ra li re wa pi (nI i_3) hZ.zf (l2_lt hZ hi_3).1 (l2_lt hZ hi_3).2) mw_621 mw_622 mw_623 mw_624 mw_77 pdv_X7_isReached ⟨Nat.le_of_ble_eq_true rfl, Nat.le_of_ble_eq_true rfl⟩ rfl xo0 rfl hl.1 rfl (Nat.le_of_ble_eq_true rfl) dL_areBlocksRight_299 ⟨Nat.le_of_ble_eq_true rfl, Nat.le_of_ble_eq_true rfl⟩) hD hS hA (fun r_83 u_83 H locs hp hP hD hS => ?_)
            obtain ⟨er, eu⟩ := hp
            obtain rfl := er.symm
            obtain rfl := eu.symm
            refine lv_if_eq (tgt := 368) hx hb dL_areBlocksRight_302 (by decide) (fun _ => ?_) (fun c_302 => absurd (b2i_f hr) c_302)
            refine lv_iinc (v := (nI (i_3 + 1))) (lv' := [(4, .int (nI (i_3 + 1))), (3, .int (p_3.2.2 + 0)), (2, .int (p_3.2.1 + 0)), (1, .int (p_3.1 + 0)), (5, .int (nearest ra (nI i_3))), (0, .ref (ad 0))]) hx hb dL_areBlocksRight_368 hl (k := 5) rfl (nI_1 i_3) (by decide) rfl (fun ls hl => ?_)
            refine lv_goto (tgt := 89) hx hb dL_areBlocksRight_371 (by decide) ?_
            exact ih_3 ((p_3.1 + 0), (p_3.2.1 + 0), (p_3.2.2 + 0)) H locs ls ⟨((show ((p_3.1 + 0), (p_3.2.1 + 0), (p_3.2.2 + 0)) = (abS fl ra re) i_3 p_3 from (by simp only [abS, bf_of hr, eq_false c_130, eq_false c_149, gi_sl, gi_sA, gi_sB, gi_si_s, gi_si_n, gl_si, gl_sA, gl_sB, gl_sl_s, gl_sl_n, gA_si, gA_sl, gA_sB, gA_sA_s, gA_sA_n, gB_si, gB_sl, gB_sA, gB_sB_s, gB_sB_n, Nat.reduceBEq, if_true, if_false, eq_self, Bool.false_eq_true, Bool.true_eq_false, not_true_eq_false, not_false_eq_true, decide_true, decide_false, cond_true, cond_false, Bool.true_and, Bool.false_and, Bool.and_true, Bool.and_false, Bool.true_or, Bool.false_or, Bool.or_true, Bool.or_false, b2i_tt, b2i_ff, pr_eta]; done)).trans (lp_go h_3)), hP, hD, hS, lv_sub hl [5, 3, 2, 1, 0] rfl⟩
          · refine lv_iconst (v := 1) hx hb dL_areBlocksRight_152 (by decide) ?_
            refine lv_goto (tgt := 157) hx hb dL_areBlocksRight_153 (by decide) ?_
            refine lv_iadd hx hb dL_areBlocksRight_157 ?_
            refine lv_istore_n (lv' := [(3, .int (p_3.2.2 + 1)), (2, .int (p_3.2.1 + 0)), (1, .int (p_3.1 + 0)), (5, .int (nearest ra (nI i_3))), (0, .ref (ad 0)), (4, .int (nI i_3))]) hx hb dL_areBlocksRight_158 rfl hl (by decide) rfl (fun ls hl => ?_)
            refine lv_iload hx hb dL_areBlocksRight_159 (lv_at hl 3 rfl) ?_
            refine lv_if_ge (tgt := 168) hx hb dL_areBlocksRight_161 (by decide) (fun c_161 => absurd c_161 (i_lt_nle hp)) (fun _ => ?_)
            refine lv_iconst (v := 1) hx hb dL_areBlocksRight_164 (by decide) ?_
            refine lv_goto (tgt := 169) hx hb dL_areBlocksRight_165 (by decide) ?_
            refine lv_iload hx hb dL_areBlocksRight_169 (lv_at hl 5 rfl) ?_
            refine lv_if_eq (tgt := 183) hx hb dL_areBlocksRight_171 (by decide) (fun c_171 => absurd c_171 hz) (fun _ => ?_)
            refine lv_aload_n hx hb dL_areBlocksRight_174 rfl (lv_at hl 4 rfl) ?_
            refine lv_iload hx hb dL_areBlocksRight_175 (lv_at hl 5 rfl) ?_
            refine kI (rV (q0 := 0) (ci := 7) hx hb hml hown hg hN hK hP hD (a_isReached l D cI cJ ad co fl ra li re wa pi (nI i_3) hZ.zf (l2_lt hZ hi_3).1 (l2_lt hZ hi_3).2) mw_621 mw_622 mw_623 mw_624 mw_77 pdv_X7_isReached ⟨Nat.le_of_ble_eq_true rfl, Nat.le_of_ble_eq_true rfl⟩ rfl xo0 rfl hl.1 rfl (Nat.le_of_ble_eq_true rfl) dL_areBlocksRight_177 ⟨Nat.le_of_ble_eq_true rfl, Nat.le_of_ble_eq_true rfl⟩) hD hS hA (fun r_84 u_84 H locs hp hP hD hS => ?_)
            obtain ⟨er, eu⟩ := hp
            obtain rfl := er.symm
            obtain rfl := eu.symm
            refine lv_if_ne (tgt := 187) hx hb dL_areBlocksRight_180 (by decide) (fun c_180 => absurd (b2i_f hr) c_180) (fun _ => ?_)
            refine lv_iconst (v := 1) hx hb dL_areBlocksRight_183 (by decide) ?_
            refine lv_goto (tgt := 188) hx hb dL_areBlocksRight_184 (by decide) ?_
            refine lv_icmp_ne (tgt := 235) hx hb dL_areBlocksRight_188 (by decide) (fun c_188 => absurd (by decide) c_188) (fun _ => ?_)
            refine lv_iload hx hb dL_areBlocksRight_191 (lv_at hl 3 rfl) ?_
            refine lv_if_lt (tgt := 218) hx hb dL_areBlocksRight_193 (by decide) (fun _ => ?_) (fun c_193 => absurd hp c_193)
            refine lv_aload_n hx hb dL_areBlocksRight_218 rfl (lv_at hl 4 rfl) ?_
            refine lv_iload hx hb dL_areBlocksRight_219 (lv_at hl 5 rfl) ?_
            refine lv_iload hx hb dL_areBlocksRight_221 (lv_at hl 5 rfl) ?_
            refine kI (rV (q0 := 0) (ci := 7) hx hb hml hown hg hN hK hP hD (a_dominates l D cI cJ ad co fl ra li re wa pi (nI i_3) (nI i_3) hZ.zf hZ.zr (l2_lt hZ hi_3).1 (l2_lt hZ hi_3).2 (l2_lt hZ hi_3).1 (l2_lt hZ hi_3).2) mw_629 mw_630 mw_631 mw_632 mw_77 pdv_X7_dominates ⟨Nat.le_of_ble_eq_true rfl, Nat.le_of_ble_eq_true rfl⟩ rfl xo0 rfl hl.1 rfl (Nat.le_of_ble_eq_true rfl) dL_areBlocksRight_223 ⟨Nat.le_of_ble_eq_true rfl, Nat.le_of_ble_eq_true rfl⟩) hD hS hA (fun r_85 u_85 H locs hp hP hD hS => ?_)
            obtain ⟨er, eu⟩ := hp
            obtain rfl := er.symm
            obtain rfl := eu.symm
            refine lv_aload_n hx hb dL_areBlocksRight_226 rfl (lv_at hl 4 rfl) ?_
            refine lv_iload hx hb dL_areBlocksRight_227 (lv_at hl 5 rfl) ?_
            refine kI (rV (q0 := 0) (ci := 7) hx hb hml hown hg hN hK hP hD (a_isReached l D cI cJ ad co fl ra li re wa pi (nI i_3) hZ.zf (l2_lt hZ hi_3).1 (l2_lt hZ hi_3).2) mw_621 mw_622 mw_623 mw_624 mw_77 pdv_X7_isReached ⟨Nat.le_of_ble_eq_true rfl, Nat.le_of_ble_eq_true rfl⟩ rfl xo0 rfl hl.1 rfl (Nat.le_of_ble_eq_true rfl) dL_areBlocksRight_229 ⟨Nat.le_of_ble_eq_true rfl, Nat.le_of_ble_eq_true rfl⟩) hD hS hA (fun r_86 u_86 H locs hp hP hD hS => ?_)
            obtain ⟨er, eu⟩ := hp
            obtain rfl := er.symm
            obtain rfl := eu.symm
            refine lv_icmp_eq (tgt := 237) hx hb dL_areBlocksRight_232 (by decide) (fun _ => ?_) (fun c_232 => absurd (b2f2 hdd hr) c_232)
            refine lv_aload_n hx hb dL_areBlocksRight_237 rfl (lv_at hl 4 rfl) ?_
            refine lv_iload hx hb dL_areBlocksRight_238 (lv_at hl 5 rfl) ?_
            refine kI (rV (q0 := 0) (ci := 7) hx hb hml hown hg hN hK hP hD (a_isReached l D cI cJ ad co fl ra li re wa pi (nI i_3) hZ.zf (l2_lt hZ hi_3).1 (l2_lt hZ hi_3).2) mw_621 mw_622 mw_623 mw_624 mw_77 pdv_X7_isReached ⟨Nat.le_of_ble_eq_true rfl, Nat.le_of_ble_eq_true rfl⟩ rfl xo0 rfl hl.1 rfl (Nat.le_of_ble_eq_true rfl) dL_areBlocksRight_240 ⟨Nat.le_of_ble_eq_true rfl, Nat.le_of_ble_eq_true rfl⟩) hD hS hA (fun r_87 u_87 H locs hp hP hD hS => ?_)
            obtain ⟨er, eu⟩ := hp
            obtain rfl := er.symm
            obtain rfl := eu.symm
            refine lv_if_ne (tgt := 296) hx hb dL_areBlocksRight_243 (by decide) (fun c_243 => absurd (b2i_f hr) c_243) (fun _ => ?_)
            refine lv_aload_n hx hb dL_areBlocksRight_246 rfl (lv_at hl 4 rfl) ?_
            refine lv_iload hx hb dL_areBlocksRight_247 (lv_at hl 5 rfl) ?_
            refine kI (rV (q0 := 0) (ci := 7) hx hb hml hown hg hN hK hP hD (a_liveIn l D cI cJ ad co fl ra li re wa pi (nI i_3) hZ.zf hZ.zl (l2_lt hZ hi_3).1 (l2_lt hZ hi_3).2) mw_645 mw_646 mw_647 mw_648 mw_77 pdv_X7_liveIn ⟨Nat.le_of_ble_eq_true rfl, Nat.le_of_ble_eq_true rfl⟩ rfl xo0 rfl hl.1 rfl (Nat.le_of_ble_eq_true rfl) dL_areBlocksRight_249 ⟨Nat.le_of_ble_eq_true rfl, Nat.le_of_ble_eq_true rfl⟩) hD hS hA (fun r_88 u_88 H locs hp hP hD hS => ?_)
            obtain ⟨er, eu⟩ := hp
            obtain rfl := er.symm
            obtain rfl := eu.symm
            refine lv_if_ne (tgt := 294) hx hb dL_areBlocksRight_252 (by decide) (fun c_252 => absurd hlv c_252) (fun _ => ?_)
            refine lv_aload_n hx hb dL_areBlocksRight_255 rfl (lv_at hl 4 rfl) ?_
            refine lv_iload hx hb dL_areBlocksRight_256 (lv_at hl 5 rfl) ?_
            refine kI (rV (q0 := 0) (ci := 7) hx hb hml hown hg hN hK hP hD (a_endsIn l D cI cJ ad co fl ra li re wa pi (nI i_3) hZ.zf hZ.zd (l2_lt hZ hi_3).1 (l2_lt hZ hi_3).2) mw_641 mw_642 mw_643 mw_644 mw_77 pdv_X7_endsIn ⟨Nat.le_of_ble_eq_true rfl, Nat.le_of_ble_eq_true rfl⟩ rfl xo0 rfl hl.1 rfl (Nat.le_of_ble_eq_true rfl) dL_areBlocksRight_258 ⟨Nat.le_of_ble_eq_true rfl, Nat.le_of_ble_eq_true rfl⟩) hD hS hA (fun r_89 u_89 H locs hp hP hD hS => ?_)
            obtain ⟨er, eu⟩ := hp
            obtain rfl := er.symm
            obtain rfl := eu.symm
            refine lv_iconst (v := (-1)) hx hb dL_areBlocksRight_261 (by decide) ?_
            refine lv_icmp_ne (tgt := 294) hx hb dL_areBlocksRight_262 (by decide) (fun c_262 => absurd hh c_262) (fun _ => ?_)
            refine lv_aload_n hx hb dL_areBlocksRight_265 rfl (lv_at hl 4 rfl) ?_
            refine lv_iload hx hb dL_areBlocksRight_266 (lv_at hl 5 rfl) ?_
            refine kI (rV (q0 := 0) (ci := 7) hx hb hml hown hg hN hK hP hD (a_layerOf l D cI cJ ad co fl ra li re wa pi (nI i_3) hZ.zf hZ.zp (l2_lt hZ hi_3).1 (l2_lt hZ hi_3).2) mw_649 mw_650 mw_651 mw_652 mw_77 pdv_X7_layerOf ⟨Nat.le_of_ble_eq_true rfl, Nat.le_of_ble_eq_true rfl⟩ rfl xo0 rfl hl.1 rfl (Nat.le_of_ble_eq_true rfl) dL_areBlocksRight_268 ⟨Nat.le_of_ble_eq_true rfl, Nat.le_of_ble_eq_true rfl⟩) hD hS hA (fun r_90 u_90 H locs hp hP hD hS => ?_)
            obtain ⟨er, eu⟩ := hp
            obtain rfl := er.symm
            obtain rfl := eu.symm
            refine lv_iconst (v := (-1)) hx hb dL_areBlocksRight_271 (by decide) ?_
            refine lv_icmp_ne (tgt := 294) hx hb dL_areBlocksRight_272 (by decide) (fun c_272 => absurd hy c_272) (fun _ => ?_)
            refine lv_aload_n hx hb dL_areBlocksRight_275 rfl (lv_at hl 4 rfl) ?_
            refine lv_iload hx hb dL_areBlocksRight_276 (lv_at hl 5 rfl) ?_
            refine kI (rV (q0 := 0) (ci := 7) hx hb hml hown hg hN hK hP hD (a_depthOf l D cI cJ ad co fl ra li re wa pi (nI i_3) hZ.zf hZ.zr (l2_lt hZ hi_3).1 (l2_lt hZ hi_3).2) mw_653 mw_654 mw_655 mw_656 mw_77 pdv_X7_depthOf ⟨Nat.le_of_ble_eq_true rfl, Nat.le_of_ble_eq_true rfl⟩ rfl xo0 rfl hl.1 rfl (Nat.le_of_ble_eq_true rfl) dL_areBlocksRight_278 ⟨Nat.le_of_ble_eq_true rfl, Nat.le_of_ble_eq_true rfl⟩) hD hS hA (fun r_91 u_91 H locs hp hP hD hS => ?_)
            obtain ⟨er, eu⟩ := hp
            obtain rfl := er.symm
            obtain rfl := eu.symm
            refine lv_if_ne (tgt := 294) hx hb dL_areBlocksRight_281 (by decide) (fun c_281 => absurd hdp c_281) (fun _ => ?_)
            refine lv_aload_n hx hb dL_areBlocksRight_284 rfl (lv_at hl 4 rfl) ?_
            refine lv_iload hx hb dL_areBlocksRight_285 (lv_at hl 5 rfl) ?_
            refine kI (rV (q0 := 0) (ci := 7) hx hb hml hown hg hN hK hP hD (a_placeOf l D cI cJ ad co fl ra li re wa pi (nI i_3) hZ.zf hZ.zp (l2_lt hZ hi_3).1 (l2_lt hZ hi_3).2) mw_657 mw_658 mw_659 mw_660 mw_77 pdv_X7_placeOf ⟨Nat.le_of_ble_eq_true rfl, Nat.le_of_ble_eq_true rfl⟩ rfl xo0 rfl hl.1 rfl (Nat.le_of_ble_eq_true rfl) dL_areBlocksRight_287 ⟨Nat.le_of_ble_eq_true rfl, Nat.le_of_ble_eq_true rfl⟩) hD hS hA (fun r_92 u_92 H locs hp hP hD hS => ?_)
            obtain ⟨er, eu⟩ := hp
            obtain rfl := er.symm
            obtain rfl := eu.symm
            refine lv_iconst (v := (-1)) hx hb dL_areBlocksRight_290 (by decide) ?_
            refine lv_icmp_eq (tgt := 296) hx hb dL_areBlocksRight_291 (by decide) (fun _ => ?_) (fun c_291 => absurd hpl c_291)
            refine lv_aload_n hx hb dL_areBlocksRight_296 rfl (lv_at hl 4 rfl) ?_
            refine lv_iload hx hb dL_areBlocksRight_297 (lv_at hl 5 rfl) ?_
            refine kI (rV (q0 := 0) (ci := 7) hx hb hml hown hg hN hK hP hD (a_isReached l D cI cJ ad co fl ra li re wa pi (nI i_3) hZ.zf (l2_lt hZ hi_3).1 (l2_lt hZ hi_3).2) mw_621 mw_622 mw_623 mw_624 mw_77 pdv_X7_isReached ⟨Nat.le_of_ble_eq_true rfl, Nat.le_of_ble_eq_true rfl⟩ rfl xo0 rfl hl.1 rfl (Nat.le_of_ble_eq_true rfl) dL_areBlocksRight_299 ⟨Nat.le_of_ble_eq_true rfl, Nat.le_of_ble_eq_true rfl⟩) hD hS hA (fun r_93 u_93 H locs hp hP hD hS => ?_)
            obtain ⟨er, eu⟩ := hp
            obtain rfl := er.symm
            obtain rfl := eu.symm
            refine lv_if_eq (tgt := 368) hx hb dL_areBlocksRight_302 (by decide) (fun _ => ?_) (fun c_302 => absurd (b2i_f hr) c_302)
            refine lv_iinc (v := (nI (i_3 + 1))) (lv' := [(4, .int (nI (i_3 + 1))), (3, .int (p_3.2.2 + 1)), (2, .int (p_3.2.1 + 0)), (1, .int (p_3.1 + 0)), (5, .int (nearest ra (nI i_3))), (0, .ref (ad 0))]) hx hb dL_areBlocksRight_368 hl (k := 5) rfl (nI_1 i_3) (by decide) rfl (fun ls hl => ?_)
            refine lv_goto (tgt := 89) hx hb dL_areBlocksRight_371 (by decide) ?_
            exact ih_3 ((p_3.1 + 0), (p_3.2.1 + 0), (p_3.2.2 + 1)) H locs ls ⟨((show ((p_3.1 + 0), (p_3.2.1 + 0), (p_3.2.2 + 1)) = (abS fl ra re) i_3 p_3 from (by simp only [abS, bf_of hr, eq_false c_130, eq_true c_149, gi_sl, gi_sA, gi_sB, gi_si_s, gi_si_n, gl_si, gl_sA, gl_sB, gl_sl_s, gl_sl_n, gA_si, gA_sl, gA_sB, gA_sA_s, gA_sA_n, gB_si, gB_sl, gB_sA, gB_sB_s, gB_sB_n, Nat.reduceBEq, if_true, if_false, eq_self, Bool.false_eq_true, Bool.true_eq_false, not_true_eq_false, not_false_eq_true, decide_true, decide_false, cond_true, cond_false, Bool.true_and, Bool.false_and, Bool.and_true, Bool.and_false, Bool.true_or, Bool.false_or, Bool.or_true, Bool.or_false, b2i_tt, b2i_ff, pr_eta]; done)).trans (lp_go h_3)), hP, hD, hS, lv_sub hl [5, 3, 2, 1, 0] rfl⟩
        · have c_130 : 0 < (bc (rdL (gB ra 1) 40 (nI i_3))) := i_nge c_130
          refine lv_iconst (v := 1) hx hb dL_areBlocksRight_133 (by decide) ?_
          refine lv_goto (tgt := 138) hx hb dL_areBlocksRight_134 (by decide) ?_
          refine lv_iadd hx hb dL_areBlocksRight_138 ?_
          refine lv_istore_n (lv' := [(2, .int (p_3.2.1 + 1)), (1, .int (p_3.1 + 0)), (5, .int (nearest ra (nI i_3))), (0, .ref (ad 0)), (3, .int p_3.2.2), (4, .int (nI i_3))]) hx hb dL_areBlocksRight_139 rfl hl (by decide) rfl (fun ls hl => ?_)
          refine lv_iload_n hx hb dL_areBlocksRight_140 rfl (lv_at hl 4 rfl) ?_
          refine lv_aload_n hx hb dL_areBlocksRight_141 rfl (lv_at hl 3 rfl) ?_
          refine lv_iload hx hb dL_areBlocksRight_142 (lv_at hl 5 rfl) ?_
          refine kI (rV (q0 := 0) (ci := 7) hx hb hml hown hg hN hK hP hD (a_endsIn l D cI cJ ad co fl ra li re wa pi (nI i_3) hZ.zf hZ.zd (l2_lt hZ hi_3).1 (l2_lt hZ hi_3).2) mw_641 mw_642 mw_643 mw_644 mw_77 pdv_X7_endsIn ⟨Nat.le_of_ble_eq_true rfl, Nat.le_of_ble_eq_true rfl⟩ rfl xo0 rfl hl.1 rfl (Nat.le_of_ble_eq_true rfl) dL_areBlocksRight_144 ⟨Nat.le_of_ble_eq_true rfl, Nat.le_of_ble_eq_true rfl⟩) hD hS hA (fun r_94 u_94 H locs hp hP hD hS => ?_)
          obtain ⟨er, eu⟩ := hp
          obtain rfl := er.symm
          obtain rfl := eu.symm
          refine lv_iload hx hb dL_areBlocksRight_147 (lv_at hl 5 rfl) ?_
          refine lv_icmp_ne (tgt := 156) hx hb dL_areBlocksRight_149 (by decide) (fun c_149 => ?_) (fun c_149 => ?_)
          · refine lv_iconst (v := 0) hx hb dL_areBlocksRight_156 (by decide) ?_
            refine lv_iadd hx hb dL_areBlocksRight_157 ?_
            refine lv_istore_n (lv' := [(3, .int (p_3.2.2 + 0)), (2, .int (p_3.2.1 + 1)), (1, .int (p_3.1 + 0)), (5, .int (nearest ra (nI i_3))), (0, .ref (ad 0)), (4, .int (nI i_3))]) hx hb dL_areBlocksRight_158 rfl hl (by decide) rfl (fun ls hl => ?_)
            refine lv_iload hx hb dL_areBlocksRight_159 (lv_at hl 3 rfl) ?_
            refine lv_if_ge (tgt := 168) hx hb dL_areBlocksRight_161 (by decide) (fun c_161 => absurd c_161 (i_lt_nle hp)) (fun _ => ?_)
            refine lv_iconst (v := 1) hx hb dL_areBlocksRight_164 (by decide) ?_
            refine lv_goto (tgt := 169) hx hb dL_areBlocksRight_165 (by decide) ?_
            refine lv_iload hx hb dL_areBlocksRight_169 (lv_at hl 5 rfl) ?_
            refine lv_if_eq (tgt := 183) hx hb dL_areBlocksRight_171 (by decide) (fun c_171 => absurd c_171 hz) (fun _ => ?_)
            refine lv_aload_n hx hb dL_areBlocksRight_174 rfl (lv_at hl 4 rfl) ?_
            refine lv_iload hx hb dL_areBlocksRight_175 (lv_at hl 5 rfl) ?_
            refine kI (rV (q0 := 0) (ci := 7) hx hb hml hown hg hN hK hP hD (a_isReached l D cI cJ ad co fl ra li re wa pi (nI i_3) hZ.zf (l2_lt hZ hi_3).1 (l2_lt hZ hi_3).2) mw_621 mw_622 mw_623 mw_624 mw_77 pdv_X7_isReached ⟨Nat.le_of_ble_eq_true rfl, Nat.le_of_ble_eq_true rfl⟩ rfl xo0 rfl hl.1 rfl (Nat.le_of_ble_eq_true rfl) dL_areBlocksRight_177 ⟨Nat.le_of_ble_eq_true rfl, Nat.le_of_ble_eq_true rfl⟩) hD hS hA (fun r_95 u_95 H locs hp hP hD hS => ?_)
            obtain ⟨er, eu⟩ := hp
            obtain rfl := er.symm
            obtain rfl := eu.symm
            refine lv_if_ne (tgt := 187) hx hb dL_areBlocksRight_180 (by decide) (fun c_180 => absurd (b2i_f hr) c_180) (fun _ => ?_)
            refine lv_iconst (v := 1) hx hb dL_areBlocksRight_183 (by decide) ?_
            refine lv_goto (tgt := 188) hx hb dL_areBlocksRight_184 (by decide) ?_
            refine lv_icmp_ne (tgt := 235) hx hb dL_areBlocksRight_188 (by decide) (fun c_188 => absurd (by decide) c_188) (fun _ => ?_)
            refine lv_iload hx hb dL_areBlocksRight_191 (lv_at hl 3 rfl) ?_
            refine lv_if_lt (tgt := 218) hx hb dL_areBlocksRight_193 (by decide) (fun _ => ?_) (fun c_193 => absurd hp c_193)
            refine lv_aload_n hx hb dL_areBlocksRight_218 rfl (lv_at hl 4 rfl) ?_
            refine lv_iload hx hb dL_areBlocksRight_219 (lv_at hl 5 rfl) ?_
            refine lv_iload hx hb dL_areBlocksRight_221 (lv_at hl 5 rfl) ?_
            refine kI (rV (q0 := 0) (ci := 7) hx hb hml hown hg hN hK hP hD (a_dominates l D cI cJ ad co fl ra li re wa pi (nI i_3) (nI i_3) hZ.zf hZ.zr (l2_lt hZ hi_3).1 (l2_lt hZ hi_3).2 (l2_lt hZ hi_3).1 (l2_lt hZ hi_3).2) mw_629 mw_630 mw_631 mw_632 mw_77 pdv_X7_dominates ⟨Nat.le_of_ble_eq_true rfl, Nat.le_of_ble_eq_true rfl⟩ rfl xo0 rfl hl.1 rfl (Nat.le_of_ble_eq_true rfl) dL_areBlocksRight_223 ⟨Nat.le_of_ble_eq_true rfl, Nat.le_of_ble_eq_true rfl⟩) hD hS hA (fun r_96 u_96 H locs hp hP hD hS => ?_)
            obtain ⟨er, eu⟩ := hp
            obtain rfl := er.symm
            obtain rfl := eu.symm
            refine lv_aload_n hx hb dL_areBlocksRight_226 rfl (lv_at hl 4 rfl) ?_
            refine lv_iload hx hb dL_areBlocksRight_227 (lv_at hl 5 rfl) ?_
            refine kI (rV (q0 := 0) (ci := 7) hx hb hml hown hg hN hK hP hD (a_isReached l D cI cJ ad co fl ra li re wa pi (nI i_3) hZ.zf (l2_lt hZ hi_3).1 (l2_lt hZ hi_3).2) mw_621 mw_622 mw_623 mw_624 mw_77 pdv_X7_isReached ⟨Nat.le_of_ble_eq_true rfl, Nat.le_of_ble_eq_true rfl⟩ rfl xo0 rfl hl.1 rfl (Nat.le_of_ble_eq_true rfl) dL_areBlocksRight_229 ⟨Nat.le_of_ble_eq_true rfl, Nat.le_of_ble_eq_true rfl⟩) hD hS hA (fun r_97 u_97 H locs hp hP hD hS => ?_)
            obtain ⟨er, eu⟩ := hp
            obtain rfl := er.symm
            obtain rfl := eu.symm
            refine lv_icmp_eq (tgt := 237) hx hb dL_areBlocksRight_232 (by decide) (fun _ => ?_) (fun c_232 => absurd (b2f2 hdd hr) c_232)
            refine lv_aload_n hx hb dL_areBlocksRight_237 rfl (lv_at hl 4 rfl) ?_
            refine lv_iload hx hb dL_areBlocksRight_238 (lv_at hl 5 rfl) ?_
            refine kI (rV (q0 := 0) (ci := 7) hx hb hml hown hg hN hK hP hD (a_isReached l D cI cJ ad co fl ra li re wa pi (nI i_3) hZ.zf (l2_lt hZ hi_3).1 (l2_lt hZ hi_3).2) mw_621 mw_622 mw_623 mw_624 mw_77 pdv_X7_isReached ⟨Nat.le_of_ble_eq_true rfl, Nat.le_of_ble_eq_true rfl⟩ rfl xo0 rfl hl.1 rfl (Nat.le_of_ble_eq_true rfl) dL_areBlocksRight_240 ⟨Nat.le_of_ble_eq_true rfl, Nat.le_of_ble_eq_true rfl⟩) hD hS hA (fun r_98 u_98 H locs hp hP hD hS => ?_)
            obtain ⟨er, eu⟩ := hp
            obtain rfl := er.symm
            obtain rfl := eu.symm
            refine lv_if_ne (tgt := 296) hx hb dL_areBlocksRight_243 (by decide) (fun c_243 => absurd (b2i_f hr) c_243) (fun _ => ?_)
            refine lv_aload_n hx hb dL_areBlocksRight_246 rfl (lv_at hl 4 rfl) ?_
            refine lv_iload hx hb dL_areBlocksRight_247 (lv_at hl 5 rfl) ?_
            refine kI (rV (q0 := 0) (ci := 7) hx hb hml hown hg hN hK hP hD (a_liveIn l D cI cJ ad co fl ra li re wa pi (nI i_3) hZ.zf hZ.zl (l2_lt hZ hi_3).1 (l2_lt hZ hi_3).2) mw_645 mw_646 mw_647 mw_648 mw_77 pdv_X7_liveIn ⟨Nat.le_of_ble_eq_true rfl, Nat.le_of_ble_eq_true rfl⟩ rfl xo0 rfl hl.1 rfl (Nat.le_of_ble_eq_true rfl) dL_areBlocksRight_249 ⟨Nat.le_of_ble_eq_true rfl, Nat.le_of_ble_eq_true rfl⟩) hD hS hA (fun r_99 u_99 H locs hp hP hD hS => ?_)
            obtain ⟨er, eu⟩ := hp
            obtain rfl := er.symm
            obtain rfl := eu.symm
            refine lv_if_ne (tgt := 294) hx hb dL_areBlocksRight_252 (by decide) (fun c_252 => absurd hlv c_252) (fun _ => ?_)
            refine lv_aload_n hx hb dL_areBlocksRight_255 rfl (lv_at hl 4 rfl) ?_
            refine lv_iload hx hb dL_areBlocksRight_256 (lv_at hl 5 rfl) ?_
            refine kI (rV (q0 := 0) (ci := 7) hx hb hml hown hg hN hK hP hD (a_endsIn l D cI cJ ad co fl ra li re wa pi (nI i_3) hZ.zf hZ.zd (l2_lt hZ hi_3).1 (l2_lt hZ hi_3).2) mw_641 mw_642 mw_643 mw_644 mw_77 pdv_X7_endsIn ⟨Nat.le_of_ble_eq_true rfl, Nat.le_of_ble_eq_true rfl⟩ rfl xo0 rfl hl.1 rfl (Nat.le_of_ble_eq_true rfl) dL_areBlocksRight_258 ⟨Nat.le_of_ble_eq_true rfl, Nat.le_of_ble_eq_true rfl⟩) hD hS hA (fun r_100 u_100 H locs hp hP hD hS => ?_)
            obtain ⟨er, eu⟩ := hp
            obtain rfl := er.symm
            obtain rfl := eu.symm
            refine lv_iconst (v := (-1)) hx hb dL_areBlocksRight_261 (by decide) ?_
            refine lv_icmp_ne (tgt := 294) hx hb dL_areBlocksRight_262 (by decide) (fun c_262 => absurd hh c_262) (fun _ => ?_)
            refine lv_aload_n hx hb dL_areBlocksRight_265 rfl (lv_at hl 4 rfl) ?_
            refine lv_iload hx hb dL_areBlocksRight_266 (lv_at hl 5 rfl) ?_
            refine kI (rV (q0 := 0) (ci := 7) hx hb hml hown hg hN hK hP hD (a_layerOf l D cI cJ ad co fl ra li re wa pi (nI i_3) hZ.zf hZ.zp (l2_lt hZ hi_3).1 (l2_lt hZ hi_3).2) mw_649 mw_650 mw_651 mw_652 mw_77 pdv_X7_layerOf ⟨Nat.le_of_ble_eq_true rfl, Nat.le_of_ble_eq_true rfl⟩ rfl xo0 rfl hl.1 rfl (Nat.le_of_ble_eq_true rfl) dL_areBlocksRight_268 ⟨Nat.le_of_ble_eq_true rfl, Nat.le_of_ble_eq_true rfl⟩) hD hS hA (fun r_101 u_101 H locs hp hP hD hS => ?_)
            obtain ⟨er, eu⟩ := hp
            obtain rfl := er.symm
            obtain rfl := eu.symm
            refine lv_iconst (v := (-1)) hx hb dL_areBlocksRight_271 (by decide) ?_
            refine lv_icmp_ne (tgt := 294) hx hb dL_areBlocksRight_272 (by decide) (fun c_272 => absurd hy c_272) (fun _ => ?_)
            refine lv_aload_n hx hb dL_areBlocksRight_275 rfl (lv_at hl 4 rfl) ?_
            refine lv_iload hx hb dL_areBlocksRight_276 (lv_at hl 5 rfl) ?_
            refine kI (rV (q0 := 0) (ci := 7) hx hb hml hown hg hN hK hP hD (a_depthOf l D cI cJ ad co fl ra li re wa pi (nI i_3) hZ.zf hZ.zr (l2_lt hZ hi_3).1 (l2_lt hZ hi_3).2) mw_653 mw_654 mw_655 mw_656 mw_77 pdv_X7_depthOf ⟨Nat.le_of_ble_eq_true rfl, Nat.le_of_ble_eq_true rfl⟩ rfl xo0 rfl hl.1 rfl (Nat.le_of_ble_eq_true rfl) dL_areBlocksRight_278 ⟨Nat.le_of_ble_eq_true rfl, Nat.le_of_ble_eq_true rfl⟩) hD hS hA (fun r_102 u_102 H locs hp hP hD hS => ?_)
            obtain ⟨er, eu⟩ := hp
            obtain rfl := er.symm
            obtain rfl := eu.symm
            refine lv_if_ne (tgt := 294) hx hb dL_areBlocksRight_281 (by decide) (fun c_281 => absurd hdp c_281) (fun _ => ?_)
            refine lv_aload_n hx hb dL_areBlocksRight_284 rfl (lv_at hl 4 rfl) ?_
            refine lv_iload hx hb dL_areBlocksRight_285 (lv_at hl 5 rfl) ?_
            refine kI (rV (q0 := 0) (ci := 7) hx hb hml hown hg hN hK hP hD (a_placeOf l D cI cJ ad co fl ra li re wa pi (nI i_3) hZ.zf hZ.zp (l2_lt hZ hi_3).1 (l2_lt hZ hi_3).2) mw_657 mw_658 mw_659 mw_660 mw_77 pdv_X7_placeOf ⟨Nat.le_of_ble_eq_true rfl, Nat.le_of_ble_eq_true rfl⟩ rfl xo0 rfl hl.1 rfl (Nat.le_of_ble_eq_true rfl) dL_areBlocksRight_287 ⟨Nat.le_of_ble_eq_true rfl, Nat.le_of_ble_eq_true rfl⟩) hD hS hA (fun r_103 u_103 H locs hp hP hD hS => ?_)
            obtain ⟨er, eu⟩ := hp
            obtain rfl := er.symm
            obtain rfl := eu.symm
            refine lv_iconst (v := (-1)) hx hb dL_areBlocksRight_290 (by decide) ?_
            refine lv_icmp_eq (tgt := 296) hx hb dL_areBlocksRight_291 (by decide) (fun _ => ?_) (fun c_291 => absurd hpl c_291)
            refine lv_aload_n hx hb dL_areBlocksRight_296 rfl (lv_at hl 4 rfl) ?_
            refine lv_iload hx hb dL_areBlocksRight_297 (lv_at hl 5 rfl) ?_
            refine kI (rV (q0 := 0) (ci := 7) hx hb hml hown hg hN hK hP hD (a_isReached l D cI cJ ad co fl ra li re wa pi (nI i_3) hZ.zf (l2_lt hZ hi_3).1 (l2_lt hZ hi_3).2) mw_621 mw_622 mw_623 mw_624 mw_77 pdv_X7_isReached ⟨Nat.le_of_ble_eq_true rfl, Nat.le_of_ble_eq_true rfl⟩ rfl xo0 rfl hl.1 rfl (Nat.le_of_ble_eq_true rfl) dL_areBlocksRight_299 ⟨Nat.le_of_ble_eq_true rfl, Nat.le_of_ble_eq_true rfl⟩) hD hS hA (fun r_104 u_104 H locs hp hP hD hS => ?_)
            obtain ⟨er, eu⟩ := hp
            obtain rfl := er.symm
            obtain rfl := eu.symm
            refine lv_if_eq (tgt := 368) hx hb dL_areBlocksRight_302 (by decide) (fun _ => ?_) (fun c_302 => absurd (b2i_f hr) c_302)
            refine lv_iinc (v := (nI (i_3 + 1))) (lv' := [(4, .int (nI (i_3 + 1))), (3, .int (p_3.2.2 + 0)), (2, .int (p_3.2.1 + 1)), (1, .int (p_3.1 + 0)), (5, .int (nearest ra (nI i_3))), (0, .ref (ad 0))]) hx hb dL_areBlocksRight_368 hl (k := 5) rfl (nI_1 i_3) (by decide) rfl (fun ls hl => ?_)
            refine lv_goto (tgt := 89) hx hb dL_areBlocksRight_371 (by decide) ?_
            exact ih_3 ((p_3.1 + 0), (p_3.2.1 + 1), (p_3.2.2 + 0)) H locs ls ⟨((show ((p_3.1 + 0), (p_3.2.1 + 1), (p_3.2.2 + 0)) = (abS fl ra re) i_3 p_3 from (by simp only [abS, bf_of hr, eq_true c_130, eq_false c_149, gi_sl, gi_sA, gi_sB, gi_si_s, gi_si_n, gl_si, gl_sA, gl_sB, gl_sl_s, gl_sl_n, gA_si, gA_sl, gA_sB, gA_sA_s, gA_sA_n, gB_si, gB_sl, gB_sA, gB_sB_s, gB_sB_n, Nat.reduceBEq, if_true, if_false, eq_self, Bool.false_eq_true, Bool.true_eq_false, not_true_eq_false, not_false_eq_true, decide_true, decide_false, cond_true, cond_false, Bool.true_and, Bool.false_and, Bool.and_true, Bool.and_false, Bool.true_or, Bool.false_or, Bool.or_true, Bool.or_false, b2i_tt, b2i_ff, pr_eta]; done)).trans (lp_go h_3)), hP, hD, hS, lv_sub hl [5, 3, 2, 1, 0] rfl⟩
          · refine lv_iconst (v := 1) hx hb dL_areBlocksRight_152 (by decide) ?_
            refine lv_goto (tgt := 157) hx hb dL_areBlocksRight_153 (by decide) ?_
            refine lv_iadd hx hb dL_areBlocksRight_157 ?_
            refine lv_istore_n (lv' := [(3, .int (p_3.2.2 + 1)), (2, .int (p_3.2.1 + 1)), (1, .int (p_3.1 + 0)), (5, .int (nearest ra (nI i_3))), (0, .ref (ad 0)), (4, .int (nI i_3))]) hx hb dL_areBlocksRight_158 rfl hl (by decide) rfl (fun ls hl => ?_)
            refine lv_iload hx hb dL_areBlocksRight_159 (lv_at hl 3 rfl) ?_
            refine lv_if_ge (tgt := 168) hx hb dL_areBlocksRight_161 (by decide) (fun c_161 => absurd c_161 (i_lt_nle hp)) (fun _ => ?_)
            refine lv_iconst (v := 1) hx hb dL_areBlocksRight_164 (by decide) ?_
            refine lv_goto (tgt := 169) hx hb dL_areBlocksRight_165 (by decide) ?_
            refine lv_iload hx hb dL_areBlocksRight_169 (lv_at hl 5 rfl) ?_
            refine lv_if_eq (tgt := 183) hx hb dL_areBlocksRight_171 (by decide) (fun c_171 => absurd c_171 hz) (fun _ => ?_)
            refine lv_aload_n hx hb dL_areBlocksRight_174 rfl (lv_at hl 4 rfl) ?_
            refine lv_iload hx hb dL_areBlocksRight_175 (lv_at hl 5 rfl) ?_
            refine kI (rV (q0 := 0) (ci := 7) hx hb hml hown hg hN hK hP hD (a_isReached l D cI cJ ad co fl ra li re wa pi (nI i_3) hZ.zf (l2_lt hZ hi_3).1 (l2_lt hZ hi_3).2) mw_621 mw_622 mw_623 mw_624 mw_77 pdv_X7_isReached ⟨Nat.le_of_ble_eq_true rfl, Nat.le_of_ble_eq_true rfl⟩ rfl xo0 rfl hl.1 rfl (Nat.le_of_ble_eq_true rfl) dL_areBlocksRight_177 ⟨Nat.le_of_ble_eq_true rfl, Nat.le_of_ble_eq_true rfl⟩) hD hS hA (fun r_105 u_105 H locs hp hP hD hS => ?_)
            obtain ⟨er, eu⟩ := hp
            obtain rfl := er.symm
            obtain rfl := eu.symm
            refine lv_if_ne (tgt := 187) hx hb dL_areBlocksRight_180 (by decide) (fun c_180 => absurd (b2i_f hr) c_180) (fun _ => ?_)
            refine lv_iconst (v := 1) hx hb dL_areBlocksRight_183 (by decide) ?_
            refine lv_goto (tgt := 188) hx hb dL_areBlocksRight_184 (by decide) ?_
            refine lv_icmp_ne (tgt := 235) hx hb dL_areBlocksRight_188 (by decide) (fun c_188 => absurd (by decide) c_188) (fun _ => ?_)
            refine lv_iload hx hb dL_areBlocksRight_191 (lv_at hl 3 rfl) ?_
            refine lv_if_lt (tgt := 218) hx hb dL_areBlocksRight_193 (by decide) (fun _ => ?_) (fun c_193 => absurd hp c_193)
            refine lv_aload_n hx hb dL_areBlocksRight_218 rfl (lv_at hl 4 rfl) ?_
            refine lv_iload hx hb dL_areBlocksRight_219 (lv_at hl 5 rfl) ?_
            refine lv_iload hx hb dL_areBlocksRight_221 (lv_at hl 5 rfl) ?_
            refine kI (rV (q0 := 0) (ci := 7) hx hb hml hown hg hN hK hP hD (a_dominates l D cI cJ ad co fl ra li re wa pi (nI i_3) (nI i_3) hZ.zf hZ.zr (l2_lt hZ hi_3).1 (l2_lt hZ hi_3).2 (l2_lt hZ hi_3).1 (l2_lt hZ hi_3).2) mw_629 mw_630 mw_631 mw_632 mw_77 pdv_X7_dominates ⟨Nat.le_of_ble_eq_true rfl, Nat.le_of_ble_eq_true rfl⟩ rfl xo0 rfl hl.1 rfl (Nat.le_of_ble_eq_true rfl) dL_areBlocksRight_223 ⟨Nat.le_of_ble_eq_true rfl, Nat.le_of_ble_eq_true rfl⟩) hD hS hA (fun r_106 u_106 H locs hp hP hD hS => ?_)
            obtain ⟨er, eu⟩ := hp
            obtain rfl := er.symm
            obtain rfl := eu.symm
            refine lv_aload_n hx hb dL_areBlocksRight_226 rfl (lv_at hl 4 rfl) ?_
            refine lv_iload hx hb dL_areBlocksRight_227 (lv_at hl 5 rfl) ?_
            refine kI (rV (q0 := 0) (ci := 7) hx hb hml hown hg hN hK hP hD (a_isReached l D cI cJ ad co fl ra li re wa pi (nI i_3) hZ.zf (l2_lt hZ hi_3).1 (l2_lt hZ hi_3).2) mw_621 mw_622 mw_623 mw_624 mw_77 pdv_X7_isReached ⟨Nat.le_of_ble_eq_true rfl, Nat.le_of_ble_eq_true rfl⟩ rfl xo0 rfl hl.1 rfl (Nat.le_of_ble_eq_true rfl) dL_areBlocksRight_229 ⟨Nat.le_of_ble_eq_true rfl, Nat.le_of_ble_eq_true rfl⟩) hD hS hA (fun r_107 u_107 H locs hp hP hD hS => ?_)
            obtain ⟨er, eu⟩ := hp
            obtain rfl := er.symm
            obtain rfl := eu.symm
            refine lv_icmp_eq (tgt := 237) hx hb dL_areBlocksRight_232 (by decide) (fun _ => ?_) (fun c_232 => absurd (b2f2 hdd hr) c_232)
            refine lv_aload_n hx hb dL_areBlocksRight_237 rfl (lv_at hl 4 rfl) ?_
            refine lv_iload hx hb dL_areBlocksRight_238 (lv_at hl 5 rfl) ?_
            refine kI (rV (q0 := 0) (ci := 7) hx hb hml hown hg hN hK hP hD (a_isReached l D cI cJ ad co fl ra li re wa pi (nI i_3) hZ.zf (l2_lt hZ hi_3).1 (l2_lt hZ hi_3).2) mw_621 mw_622 mw_623 mw_624 mw_77 pdv_X7_isReached ⟨Nat.le_of_ble_eq_true rfl, Nat.le_of_ble_eq_true rfl⟩ rfl xo0 rfl hl.1 rfl (Nat.le_of_ble_eq_true rfl) dL_areBlocksRight_240 ⟨Nat.le_of_ble_eq_true rfl, Nat.le_of_ble_eq_true rfl⟩) hD hS hA (fun r_108 u_108 H locs hp hP hD hS => ?_)
            obtain ⟨er, eu⟩ := hp
            obtain rfl := er.symm
            obtain rfl := eu.symm
            refine lv_if_ne (tgt := 296) hx hb dL_areBlocksRight_243 (by decide) (fun c_243 => absurd (b2i_f hr) c_243) (fun _ => ?_)
            refine lv_aload_n hx hb dL_areBlocksRight_246 rfl (lv_at hl 4 rfl) ?_
            refine lv_iload hx hb dL_areBlocksRight_247 (lv_at hl 5 rfl) ?_
            refine kI (rV (q0 := 0) (ci := 7) hx hb hml hown hg hN hK hP hD (a_liveIn l D cI cJ ad co fl ra li re wa pi (nI i_3) hZ.zf hZ.zl (l2_lt hZ hi_3).1 (l2_lt hZ hi_3).2) mw_645 mw_646 mw_647 mw_648 mw_77 pdv_X7_liveIn ⟨Nat.le_of_ble_eq_true rfl, Nat.le_of_ble_eq_true rfl⟩ rfl xo0 rfl hl.1 rfl (Nat.le_of_ble_eq_true rfl) dL_areBlocksRight_249 ⟨Nat.le_of_ble_eq_true rfl, Nat.le_of_ble_eq_true rfl⟩) hD hS hA (fun r_109 u_109 H locs hp hP hD hS => ?_)
            obtain ⟨er, eu⟩ := hp
            obtain rfl := er.symm
            obtain rfl := eu.symm
            refine lv_if_ne (tgt := 294) hx hb dL_areBlocksRight_252 (by decide) (fun c_252 => absurd hlv c_252) (fun _ => ?_)
            refine lv_aload_n hx hb dL_areBlocksRight_255 rfl (lv_at hl 4 rfl) ?_
            refine lv_iload hx hb dL_areBlocksRight_256 (lv_at hl 5 rfl) ?_
            refine kI (rV (q0 := 0) (ci := 7) hx hb hml hown hg hN hK hP hD (a_endsIn l D cI cJ ad co fl ra li re wa pi (nI i_3) hZ.zf hZ.zd (l2_lt hZ hi_3).1 (l2_lt hZ hi_3).2) mw_641 mw_642 mw_643 mw_644 mw_77 pdv_X7_endsIn ⟨Nat.le_of_ble_eq_true rfl, Nat.le_of_ble_eq_true rfl⟩ rfl xo0 rfl hl.1 rfl (Nat.le_of_ble_eq_true rfl) dL_areBlocksRight_258 ⟨Nat.le_of_ble_eq_true rfl, Nat.le_of_ble_eq_true rfl⟩) hD hS hA (fun r_110 u_110 H locs hp hP hD hS => ?_)
            obtain ⟨er, eu⟩ := hp
            obtain rfl := er.symm
            obtain rfl := eu.symm
            refine lv_iconst (v := (-1)) hx hb dL_areBlocksRight_261 (by decide) ?_
            refine lv_icmp_ne (tgt := 294) hx hb dL_areBlocksRight_262 (by decide) (fun c_262 => absurd hh c_262) (fun _ => ?_)
            refine lv_aload_n hx hb dL_areBlocksRight_265 rfl (lv_at hl 4 rfl) ?_
            refine lv_iload hx hb dL_areBlocksRight_266 (lv_at hl 5 rfl) ?_
            refine kI (rV (q0 := 0) (ci := 7) hx hb hml hown hg hN hK hP hD (a_layerOf l D cI cJ ad co fl ra li re wa pi (nI i_3) hZ.zf hZ.zp (l2_lt hZ hi_3).1 (l2_lt hZ hi_3).2) mw_649 mw_650 mw_651 mw_652 mw_77 pdv_X7_layerOf ⟨Nat.le_of_ble_eq_true rfl, Nat.le_of_ble_eq_true rfl⟩ rfl xo0 rfl hl.1 rfl (Nat.le_of_ble_eq_true rfl) dL_areBlocksRight_268 ⟨Nat.le_of_ble_eq_true rfl, Nat.le_of_ble_eq_true rfl⟩) hD hS hA (fun r_111 u_111 H locs hp hP hD hS => ?_)
            obtain ⟨er, eu⟩ := hp
            obtain rfl := er.symm
            obtain rfl := eu.symm
            refine lv_iconst (v := (-1)) hx hb dL_areBlocksRight_271 (by decide) ?_
            refine lv_icmp_ne (tgt := 294) hx hb dL_areBlocksRight_272 (by decide) (fun c_272 => absurd hy c_272) (fun _ => ?_)
            refine lv_aload_n hx hb dL_areBlocksRight_275 rfl (lv_at hl 4 rfl) ?_
            refine lv_iload hx hb dL_areBlocksRight_276 (lv_at hl 5 rfl) ?_
            refine kI (rV (q0 := 0) (ci := 7) hx hb hml hown hg hN hK hP hD (a_depthOf l D cI cJ ad co fl ra li re wa pi (nI i_3) hZ.zf hZ.zr (l2_lt hZ hi_3).1 (l2_lt hZ hi_3).2) mw_653 mw_654 mw_655 mw_656 mw_77 pdv_X7_depthOf ⟨Nat.le_of_ble_eq_true rfl, Nat.le_of_ble_eq_true rfl⟩ rfl xo0 rfl hl.1 rfl (Nat.le_of_ble_eq_true rfl) dL_areBlocksRight_278 ⟨Nat.le_of_ble_eq_true rfl, Nat.le_of_ble_eq_true rfl⟩) hD hS hA (fun r_112 u_112 H locs hp hP hD hS => ?_)
            obtain ⟨er, eu⟩ := hp
            obtain rfl := er.symm
            obtain rfl := eu.symm
            refine lv_if_ne (tgt := 294) hx hb dL_areBlocksRight_281 (by decide) (fun c_281 => absurd hdp c_281) (fun _ => ?_)
            refine lv_aload_n hx hb dL_areBlocksRight_284 rfl (lv_at hl 4 rfl) ?_
            refine lv_iload hx hb dL_areBlocksRight_285 (lv_at hl 5 rfl) ?_
            refine kI (rV (q0 := 0) (ci := 7) hx hb hml hown hg hN hK hP hD (a_placeOf l D cI cJ ad co fl ra li re wa pi (nI i_3) hZ.zf hZ.zp (l2_lt hZ hi_3).1 (l2_lt hZ hi_3).2) mw_657 mw_658 mw_659 mw_660 mw_77 pdv_X7_placeOf ⟨Nat.le_of_ble_eq_true rfl, Nat.le_of_ble_eq_true rfl⟩ rfl xo0 rfl hl.1 rfl (Nat.le_of_ble_eq_true rfl) dL_areBlocksRight_287 ⟨Nat.le_of_ble_eq_true rfl, Nat.le_of_ble_eq_true rfl⟩) hD hS hA (fun r_113 u_113 H locs hp hP hD hS => ?_)
            obtain ⟨er, eu⟩ := hp
            obtain rfl := er.symm
            obtain rfl := eu.symm
            refine lv_iconst (v := (-1)) hx hb dL_areBlocksRight_290 (by decide) ?_
            refine lv_icmp_eq (tgt := 296) hx hb dL_areBlocksRight_291 (by decide) (fun _ => ?_) (fun c_291 => absurd hpl c_291)
            refine lv_aload_n hx hb dL_areBlocksRight_296 rfl (lv_at hl 4 rfl) ?_
            refine lv_iload hx hb dL_areBlocksRight_297 (lv_at hl 5 rfl) ?_
            refine kI (rV (q0 := 0) (ci := 7) hx hb hml hown hg hN hK hP hD (a_isReached l D cI cJ ad co fl ra li re wa pi (nI i_3) hZ.zf (l2_lt hZ hi_3).1 (l2_lt hZ hi_3).2) mw_621 mw_622 mw_623 mw_624 mw_77 pdv_X7_isReached ⟨Nat.le_of_ble_eq_true rfl, Nat.le_of_ble_eq_true rfl⟩ rfl xo0 rfl hl.1 rfl (Nat.le_of_ble_eq_true rfl) dL_areBlocksRight_299 ⟨Nat.le_of_ble_eq_true rfl, Nat.le_of_ble_eq_true rfl⟩) hD hS hA (fun r_114 u_114 H locs hp hP hD hS => ?_)
            obtain ⟨er, eu⟩ := hp
            obtain rfl := er.symm
            obtain rfl := eu.symm
            refine lv_if_eq (tgt := 368) hx hb dL_areBlocksRight_302 (by decide) (fun _ => ?_) (fun c_302 => absurd (b2i_f hr) c_302)
            refine lv_iinc (v := (nI (i_3 + 1))) (lv' := [(4, .int (nI (i_3 + 1))), (3, .int (p_3.2.2 + 1)), (2, .int (p_3.2.1 + 1)), (1, .int (p_3.1 + 0)), (5, .int (nearest ra (nI i_3))), (0, .ref (ad 0))]) hx hb dL_areBlocksRight_368 hl (k := 5) rfl (nI_1 i_3) (by decide) rfl (fun ls hl => ?_)
            refine lv_goto (tgt := 89) hx hb dL_areBlocksRight_371 (by decide) ?_
            exact ih_3 ((p_3.1 + 0), (p_3.2.1 + 1), (p_3.2.2 + 1)) H locs ls ⟨((show ((p_3.1 + 0), (p_3.2.1 + 1), (p_3.2.2 + 1)) = (abS fl ra re) i_3 p_3 from (by simp only [abS, bf_of hr, eq_true c_130, eq_true c_149, gi_sl, gi_sA, gi_sB, gi_si_s, gi_si_n, gl_si, gl_sA, gl_sB, gl_sl_s, gl_sl_n, gA_si, gA_sl, gA_sB, gA_sA_s, gA_sA_n, gB_si, gB_sl, gB_sA, gB_sB_s, gB_sB_n, Nat.reduceBEq, if_true, if_false, eq_self, Bool.false_eq_true, Bool.true_eq_false, not_true_eq_false, not_false_eq_true, decide_true, decide_false, cond_true, cond_false, Bool.true_and, Bool.false_and, Bool.and_true, Bool.and_false, Bool.true_or, Bool.false_or, Bool.or_true, Bool.or_false, b2i_tt, b2i_ff, pr_eta]; done)).trans (lp_go h_3)), hP, hD, hS, lv_sub hl [5, 3, 2, 1, 0] rfl⟩
      · have hr0 := hr
        refine lv_aload_n hx hb dL_areBlocksRight_98 rfl (lv_at hl 0 rfl) ?_
        refine lv_iload hx hb dL_areBlocksRight_99 (lv_at hl 4 rfl) ?_
        refine kI (rV (q0 := 0) (ci := 7) hx hb hml hown hg hN hK hP hD (a_parentOf l D cI cJ ad co fl ra li re wa pi (nI i_3) hZ.zf hZ.zr (l2_lt hZ hi_3).1 (l2_lt hZ hi_3).2) mw_637 mw_638 mw_639 mw_640 mw_77 pdv_X7_parentOf ⟨Nat.le_of_ble_eq_true rfl, Nat.le_of_ble_eq_true rfl⟩ rfl xo0 rfl hl.1 rfl (Nat.le_of_ble_eq_true rfl) dL_areBlocksRight_101 ⟨Nat.le_of_ble_eq_true rfl, Nat.le_of_ble_eq_true rfl⟩) hD hS hA (fun r_115 u_115 H locs hp hP hD hS => ?_)
        obtain ⟨er, eu⟩ := hp
        obtain rfl := er.symm
        obtain rfl := eu.symm
        refine lv_istore (lv' := [(5, .int (nearest ra (nI i_3))), (0, .ref (ad 0)), (1, .int p_3.1), (2, .int p_3.2.1), (3, .int p_3.2.2), (4, .int (nI i_3))]) hx hb dL_areBlocksRight_104 hl (by decide) rfl (fun ls hl => ?_)
        refine lv_iload_n hx hb dL_areBlocksRight_106 rfl (lv_at hl 2 rfl) ?_
        refine lv_aload_n hx hb dL_areBlocksRight_107 rfl (lv_at hl 1 rfl) ?_
        refine lv_iload hx hb dL_areBlocksRight_108 (lv_at hl 5 rfl) ?_
        refine kI (rV (q0 := 0) (ci := 7) hx hb hml hown hg hN hK hP hD (a_isReached l D cI cJ ad co fl ra li re wa pi (nI i_3) hZ.zf (l2_lt hZ hi_3).1 (l2_lt hZ hi_3).2) mw_621 mw_622 mw_623 mw_624 mw_77 pdv_X7_isReached ⟨Nat.le_of_ble_eq_true rfl, Nat.le_of_ble_eq_true rfl⟩ rfl xo0 rfl hl.1 rfl (Nat.le_of_ble_eq_true rfl) dL_areBlocksRight_110 ⟨Nat.le_of_ble_eq_true rfl, Nat.le_of_ble_eq_true rfl⟩) hD hS hA (fun r_116 u_116 H locs hp hP hD hS => ?_)
        obtain ⟨er, eu⟩ := hp
        obtain rfl := er.symm
        obtain rfl := eu.symm
        refine lv_if_eq (tgt := 120) hx hb dL_areBlocksRight_113 (by decide) (fun c_113 => absurd c_113 (b2i_t hr)) (fun _ => ?_)
        refine lv_iconst (v := 1) hx hb dL_areBlocksRight_116 (by decide) ?_
        refine lv_goto (tgt := 121) hx hb dL_areBlocksRight_117 (by decide) ?_
        refine lv_iadd hx hb dL_areBlocksRight_121 ?_
        refine lv_istore_n (lv' := [(1, .int (p_3.1 + 1)), (5, .int (nearest ra (nI i_3))), (0, .ref (ad 0)), (2, .int p_3.2.1), (3, .int p_3.2.2), (4, .int (nI i_3))]) hx hb dL_areBlocksRight_122 rfl hl (by decide) rfl (fun ls hl => ?_)
        refine lv_iload_n hx hb dL_areBlocksRight_123 rfl (lv_at hl 3 rfl) ?_
        refine lv_aload_n hx hb dL_areBlocksRight_124 rfl (lv_at hl 2 rfl) ?_
        refine lv_iload hx hb dL_areBlocksRight_125 (lv_at hl 5 rfl) ?_
        refine kI (rV (q0 := 0) (ci := 7) hx hb hml hown hg hN hK hP hD (a_loopSize l D cI cJ ad co fl ra li re wa pi (nI i_3) hZ.zf hZ.zr (l2_lt hZ hi_3).1 (l2_lt hZ hi_3).2) mw_633 mw_634 mw_635 mw_636 mw_77 pdv_X7_loopSize ⟨Nat.le_of_ble_eq_true rfl, Nat.le_of_ble_eq_true rfl⟩ rfl xo0 rfl hl.1 rfl (Nat.le_of_ble_eq_true rfl) dL_areBlocksRight_127 ⟨Nat.le_of_ble_eq_true rfl, Nat.le_of_ble_eq_true rfl⟩) hD hS hA (fun r_117 u_117 H locs hp hP hD hS => ?_)
        obtain ⟨er, eu⟩ := hp
        obtain rfl := er.symm
        obtain rfl := eu.symm
        refine lv_if_le (tgt := 137) hx hb dL_areBlocksRight_130 (by decide) (fun c_130 => ?_) (fun c_130 => ?_)
        · have c_130 : ¬ 0 < (bc (rdL (gB ra 1) 40 (nI i_3))) := i_ge c_130
          refine lv_iconst (v := 0) hx hb dL_areBlocksRight_137 (by decide) ?_
          refine lv_iadd hx hb dL_areBlocksRight_138 ?_
          refine lv_istore_n (lv' := [(2, .int (p_3.2.1 + 0)), (1, .int (p_3.1 + 1)), (5, .int (nearest ra (nI i_3))), (0, .ref (ad 0)), (3, .int p_3.2.2), (4, .int (nI i_3))]) hx hb dL_areBlocksRight_139 rfl hl (by decide) rfl (fun ls hl => ?_)
          refine lv_iload_n hx hb dL_areBlocksRight_140 rfl (lv_at hl 4 rfl) ?_
          refine lv_aload_n hx hb dL_areBlocksRight_141 rfl (lv_at hl 3 rfl) ?_
          refine lv_iload hx hb dL_areBlocksRight_142 (lv_at hl 5 rfl) ?_
          refine kI (rV (q0 := 0) (ci := 7) hx hb hml hown hg hN hK hP hD (a_endsIn l D cI cJ ad co fl ra li re wa pi (nI i_3) hZ.zf hZ.zd (l2_lt hZ hi_3).1 (l2_lt hZ hi_3).2) mw_641 mw_642 mw_643 mw_644 mw_77 pdv_X7_endsIn ⟨Nat.le_of_ble_eq_true rfl, Nat.le_of_ble_eq_true rfl⟩ rfl xo0 rfl hl.1 rfl (Nat.le_of_ble_eq_true rfl) dL_areBlocksRight_144 ⟨Nat.le_of_ble_eq_true rfl, Nat.le_of_ble_eq_true rfl⟩) hD hS hA (fun r_118 u_118 H locs hp hP hD hS => ?_)
          obtain ⟨er, eu⟩ := hp
          obtain rfl := er.symm
          obtain rfl := eu.symm
          refine lv_iload hx hb dL_areBlocksRight_147 (lv_at hl 5 rfl) ?_
          refine lv_icmp_ne (tgt := 156) hx hb dL_areBlocksRight_149 (by decide) (fun c_149 => ?_) (fun c_149 => ?_)
          · refine lv_iconst (v := 0) hx hb dL_areBlocksRight_156 (by decide) ?_
            refine lv_iadd hx hb dL_areBlocksRight_157 ?_
            refine lv_istore_n (lv' := [(3, .int (p_3.2.2 + 0)), (2, .int (p_3.2.1 + 0)), (1, .int (p_3.1 + 1)), (5, .int (nearest ra (nI i_3))), (0, .ref (ad 0)), (4, .int (nI i_3))]) hx hb dL_areBlocksRight_158 rfl hl (by decide) rfl (fun ls hl => ?_)
            refine lv_iload hx hb dL_areBlocksRight_159 (lv_at hl 3 rfl) ?_
            refine lv_if_ge (tgt := 168) hx hb dL_areBlocksRight_161 (by decide) (fun c_161 => absurd c_161 (i_lt_nle hp)) (fun _ => ?_)
            refine lv_iconst (v := 1) hx hb dL_areBlocksRight_164 (by decide) ?_
            refine lv_goto (tgt := 169) hx hb dL_areBlocksRight_165 (by decide) ?_
            refine lv_iload hx hb dL_areBlocksRight_169 (lv_at hl 5 rfl) ?_
            refine lv_if_eq (tgt := 183) hx hb dL_areBlocksRight_171 (by decide) (fun _ => ?_) (fun c_171 => absurd hz c_171)
            refine lv_iconst (v := 1) hx hb dL_areBlocksRight_183 (by decide) ?_
            refine lv_goto (tgt := 188) hx hb dL_areBlocksRight_184 (by decide) ?_
            refine lv_icmp_ne (tgt := 235) hx hb dL_areBlocksRight_188 (by decide) (fun c_188 => absurd (by decide) c_188) (fun _ => ?_)
            refine lv_iload hx hb dL_areBlocksRight_191 (lv_at hl 3 rfl) ?_
            refine lv_if_lt (tgt := 218) hx hb dL_areBlocksRight_193 (by decide) (fun _ => ?_) (fun c_193 => absurd hp c_193)
            refine lv_aload_n hx hb dL_areBlocksRight_218 rfl (lv_at hl 4 rfl) ?_
            refine lv_iload hx hb dL_areBlocksRight_219 (lv_at hl 5 rfl) ?_
            refine lv_iload hx hb dL_areBlocksRight_221 (lv_at hl 5 rfl) ?_
            refine kI (rV (q0 := 0) (ci := 7) hx hb hml hown hg hN hK hP hD (a_dominates l D cI cJ ad co fl ra li re wa pi (nI i_3) (nI i_3) hZ.zf hZ.zr (l2_lt hZ hi_3).1 (l2_lt hZ hi_3).2 (l2_lt hZ hi_3).1 (l2_lt hZ hi_3).2) mw_629 mw_630 mw_631 mw_632 mw_77 pdv_X7_dominates ⟨Nat.le_of_ble_eq_true rfl, Nat.le_of_ble_eq_true rfl⟩ rfl xo0 rfl hl.1 rfl (Nat.le_of_ble_eq_true rfl) dL_areBlocksRight_223 ⟨Nat.le_of_ble_eq_true rfl, Nat.le_of_ble_eq_true rfl⟩) hD hS hA (fun r_119 u_119 H locs hp hP hD hS => ?_)
            obtain ⟨er, eu⟩ := hp
            obtain rfl := er.symm
            obtain rfl := eu.symm
            refine lv_aload_n hx hb dL_areBlocksRight_226 rfl (lv_at hl 4 rfl) ?_
            refine lv_iload hx hb dL_areBlocksRight_227 (lv_at hl 5 rfl) ?_
            refine kI (rV (q0 := 0) (ci := 7) hx hb hml hown hg hN hK hP hD (a_isReached l D cI cJ ad co fl ra li re wa pi (nI i_3) hZ.zf (l2_lt hZ hi_3).1 (l2_lt hZ hi_3).2) mw_621 mw_622 mw_623 mw_624 mw_77 pdv_X7_isReached ⟨Nat.le_of_ble_eq_true rfl, Nat.le_of_ble_eq_true rfl⟩ rfl xo0 rfl hl.1 rfl (Nat.le_of_ble_eq_true rfl) dL_areBlocksRight_229 ⟨Nat.le_of_ble_eq_true rfl, Nat.le_of_ble_eq_true rfl⟩) hD hS hA (fun r_120 u_120 H locs hp hP hD hS => ?_)
            obtain ⟨er, eu⟩ := hp
            obtain rfl := er.symm
            obtain rfl := eu.symm
            refine lv_icmp_eq (tgt := 237) hx hb dL_areBlocksRight_232 (by decide) (fun _ => ?_) (fun c_232 => absurd (b2t2 hdd hr) c_232)
            refine lv_aload_n hx hb dL_areBlocksRight_237 rfl (lv_at hl 4 rfl) ?_
            refine lv_iload hx hb dL_areBlocksRight_238 (lv_at hl 5 rfl) ?_
            refine kI (rV (q0 := 0) (ci := 7) hx hb hml hown hg hN hK hP hD (a_isReached l D cI cJ ad co fl ra li re wa pi (nI i_3) hZ.zf (l2_lt hZ hi_3).1 (l2_lt hZ hi_3).2) mw_621 mw_622 mw_623 mw_624 mw_77 pdv_X7_isReached ⟨Nat.le_of_ble_eq_true rfl, Nat.le_of_ble_eq_true rfl⟩ rfl xo0 rfl hl.1 rfl (Nat.le_of_ble_eq_true rfl) dL_areBlocksRight_240 ⟨Nat.le_of_ble_eq_true rfl, Nat.le_of_ble_eq_true rfl⟩) hD hS hA (fun r_121 u_121 H locs hp hP hD hS => ?_)
            obtain ⟨er, eu⟩ := hp
            obtain rfl := er.symm
            obtain rfl := eu.symm
            refine lv_if_ne (tgt := 296) hx hb dL_areBlocksRight_243 (by decide) (fun _ => ?_) (fun c_243 => absurd c_243 (b2i_t hr))
            refine lv_aload_n hx hb dL_areBlocksRight_296 rfl (lv_at hl 4 rfl) ?_
            refine lv_iload hx hb dL_areBlocksRight_297 (lv_at hl 5 rfl) ?_
            refine kI (rV (q0 := 0) (ci := 7) hx hb hml hown hg hN hK hP hD (a_isReached l D cI cJ ad co fl ra li re wa pi (nI i_3) hZ.zf (l2_lt hZ hi_3).1 (l2_lt hZ hi_3).2) mw_621 mw_622 mw_623 mw_624 mw_77 pdv_X7_isReached ⟨Nat.le_of_ble_eq_true rfl, Nat.le_of_ble_eq_true rfl⟩ rfl xo0 rfl hl.1 rfl (Nat.le_of_ble_eq_true rfl) dL_areBlocksRight_299 ⟨Nat.le_of_ble_eq_true rfl, Nat.le_of_ble_eq_true rfl⟩) hD hS hA (fun r_122 u_122 H locs hp hP hD hS => ?_)
            obtain ⟨er, eu⟩ := hp
            obtain rfl := er.symm
            obtain rfl := eu.symm
            refine lv_if_eq (tgt := 368) hx hb dL_areBlocksRight_302 (by decide) (fun c_302 => absurd c_302 (b2i_t hr)) (fun _ => ?_)
            refine lv_aload_n hx hb dL_areBlocksRight_305 rfl (lv_at hl 4 rfl) ?_
            refine lv_iload hx hb dL_areBlocksRight_306 (lv_at hl 5 rfl) ?_
            refine kI (rV (q0 := 0) (ci := 7) hx hb hml hown hg hN hK hP hD (a_endsIn l D cI cJ ad co fl ra li re wa pi (nI i_3) hZ.zf hZ.zd (l2_lt hZ hi_3).1 (l2_lt hZ hi_3).2) mw_641 mw_642 mw_643 mw_644 mw_77 pdv_X7_endsIn ⟨Nat.le_of_ble_eq_true rfl, Nat.le_of_ble_eq_true rfl⟩ rfl xo0 rfl hl.1 rfl (Nat.le_of_ble_eq_true rfl) dL_areBlocksRight_308 ⟨Nat.le_of_ble_eq_true rfl, Nat.le_of_ble_eq_true rfl⟩) hD hS hA (fun r_123 u_123 H locs hp hP hD hS => ?_)
            obtain ⟨er, eu⟩ := hp
            obtain rfl := er.symm
            obtain rfl := eu.symm
            refine lv_iload hx hb dL_areBlocksRight_311 (lv_at hl 5 rfl) ?_
            refine lv_icmp_gt (tgt := 366) hx hb dL_areBlocksRight_313 (by decide) (fun c_313 => absurd c_313 he2) (fun _ => ?_)
            refine lv_aload_n hx hb dL_areBlocksRight_316 rfl (lv_at hl 4 rfl) ?_
            refine lv_aload_n hx hb dL_areBlocksRight_317 rfl (lv_at hl 4 rfl) ?_
            refine lv_iload hx hb dL_areBlocksRight_318 (lv_at hl 5 rfl) ?_
            refine kI (rV (q0 := 0) (ci := 7) hx hb hml hown hg hN hK hP hD (a_endsIn l D cI cJ ad co fl ra li re wa pi (nI i_3) hZ.zf hZ.zd (l2_lt hZ hi_3).1 (l2_lt hZ hi_3).2) mw_641 mw_642 mw_643 mw_644 mw_77 pdv_X7_endsIn ⟨Nat.le_of_ble_eq_true rfl, Nat.le_of_ble_eq_true rfl⟩ rfl xo0 rfl hl.1 rfl (Nat.le_of_ble_eq_true rfl) dL_areBlocksRight_320 ⟨Nat.le_of_ble_eq_true rfl, Nat.le_of_ble_eq_true rfl⟩) hD hS hA (fun r_124 u_124 H locs hp hP hD hS => ?_)
            obtain ⟨er, eu⟩ := hp
            obtain rfl := er.symm
            obtain rfl := eu.symm
            refine kI (rV (q0 := 0) (ci := 7) hx hb hml hown hg hN hK hP hD (a_endsIn l D cI cJ ad co fl ra li re wa pi (rd (gA re 0) 40 (nI i_3)) hZ.zf hZ.zd he0 he1) mw_641 mw_642 mw_643 mw_644 mw_77 pdv_X7_endsIn ⟨Nat.le_of_ble_eq_true rfl, Nat.le_of_ble_eq_true rfl⟩ rfl xo0 rfl hl.1 rfl (Nat.le_of_ble_eq_true rfl) dL_areBlocksRight_323 ⟨Nat.le_of_ble_eq_true rfl, Nat.le_of_ble_eq_true rfl⟩) hD hS hA (fun r_125 u_125 H locs hp hP hD hS => ?_)
            obtain ⟨er, eu⟩ := hp
            obtain rfl := er.symm
            obtain rfl := eu.symm
            refine lv_aload_n hx hb dL_areBlocksRight_326 rfl (lv_at hl 4 rfl) ?_
            refine lv_iload hx hb dL_areBlocksRight_327 (lv_at hl 5 rfl) ?_
            refine kI (rV (q0 := 0) (ci := 7) hx hb hml hown hg hN hK hP hD (a_endsIn l D cI cJ ad co fl ra li re wa pi (nI i_3) hZ.zf hZ.zd (l2_lt hZ hi_3).1 (l2_lt hZ hi_3).2) mw_641 mw_642 mw_643 mw_644 mw_77 pdv_X7_endsIn ⟨Nat.le_of_ble_eq_true rfl, Nat.le_of_ble_eq_true rfl⟩ rfl xo0 rfl hl.1 rfl (Nat.le_of_ble_eq_true rfl) dL_areBlocksRight_329 ⟨Nat.le_of_ble_eq_true rfl, Nat.le_of_ble_eq_true rfl⟩) hD hS hA (fun r_126 u_126 H locs hp hP hD hS => ?_)
            obtain ⟨er, eu⟩ := hp
            obtain rfl := er.symm
            obtain rfl := eu.symm
            refine lv_icmp_ne (tgt := 366) hx hb dL_areBlocksRight_332 (by decide) (fun c_332 => absurd he3 c_332) (fun _ => ?_)
            refine lv_aload_n hx hb dL_areBlocksRight_335 rfl (lv_at hl 4 rfl) ?_
            refine lv_iload hx hb dL_areBlocksRight_336 (lv_at hl 5 rfl) ?_
            refine kI (rV (q0 := 0) (ci := 7) hx hb hml hown hg hN hK hP hD (a_depthOf l D cI cJ ad co fl ra li re wa pi (nI i_3) hZ.zf hZ.zr (l2_lt hZ hi_3).1 (l2_lt hZ hi_3).2) mw_653 mw_654 mw_655 mw_656 mw_77 pdv_X7_depthOf ⟨Nat.le_of_ble_eq_true rfl, Nat.le_of_ble_eq_true rfl⟩ rfl xo0 rfl hl.1 rfl (Nat.le_of_ble_eq_true rfl) dL_areBlocksRight_338 ⟨Nat.le_of_ble_eq_true rfl, Nat.le_of_ble_eq_true rfl⟩) hD hS hA (fun r_127 u_127 H locs hp hP hD hS => ?_)
            obtain ⟨er, eu⟩ := hp
            obtain rfl := er.symm
            obtain rfl := eu.symm
            refine lv_aload_n hx hb dL_areBlocksRight_341 rfl (lv_at hl 4 rfl) ?_
            refine kI (rV (q0 := 0) (ci := 7) hx hb hml hown hg hN hK hP hD (a_loops l D cI cJ ad co fl ra li re wa pi hZ.zr) mw_593 mw_594 mw_595 mw_596 mw_77 pdv_X7_loops ⟨Nat.le_of_ble_eq_true rfl, Nat.le_of_ble_eq_true rfl⟩ rfl xo0 rfl hl.1 rfl (Nat.le_of_ble_eq_true rfl) dL_areBlocksRight_342 ⟨Nat.le_of_ble_eq_true rfl, Nat.le_of_ble_eq_true rfl⟩) hD hS hA (fun r_128 u_128 H locs hp hP hD hS => ?_)
            obtain ⟨er, eu⟩ := hp
            obtain rfl := er.symm
            obtain rfl := eu.symm
            refine lv_icmp_gt (tgt := 366) hx hb dL_areBlocksRight_345 (by decide) (fun c_345 => absurd c_345 hdl) (fun _ => ?_)
            refine lv_aload_n hx hb dL_areBlocksRight_348 rfl (lv_at hl 4 rfl) ?_
            refine lv_iload hx hb dL_areBlocksRight_349 (lv_at hl 5 rfl) ?_
            refine kI (rV (q0 := 0) (ci := 7) hx hb hml hown hg hN hK hP hD (a_loopSize l D cI cJ ad co fl ra li re wa pi (nI i_3) hZ.zf hZ.zr (l2_lt hZ hi_3).1 (l2_lt hZ hi_3).2) mw_633 mw_634 mw_635 mw_636 mw_77 pdv_X7_loopSize ⟨Nat.le_of_ble_eq_true rfl, Nat.le_of_ble_eq_true rfl⟩ rfl xo0 rfl hl.1 rfl (Nat.le_of_ble_eq_true rfl) dL_areBlocksRight_351 ⟨Nat.le_of_ble_eq_true rfl, Nat.le_of_ble_eq_true rfl⟩) hD hS hA (fun r_129 u_129 H locs hp hP hD hS => ?_)
            obtain ⟨er, eu⟩ := hp
            obtain rfl := er.symm
            obtain rfl := eu.symm
            refine lv_if_le (tgt := 368) hx hb dL_areBlocksRight_354 (by decide) (fun _ => ?_) (fun c_354 => absurd (i_ge' c_130) c_354)
            refine lv_iinc (v := (nI (i_3 + 1))) (lv' := [(4, .int (nI (i_3 + 1))), (3, .int (p_3.2.2 + 0)), (2, .int (p_3.2.1 + 0)), (1, .int (p_3.1 + 1)), (5, .int (nearest ra (nI i_3))), (0, .ref (ad 0))]) hx hb dL_areBlocksRight_368 hl (k := 5) rfl (nI_1 i_3) (by decide) rfl (fun ls hl => ?_)
            refine lv_goto (tgt := 89) hx hb dL_areBlocksRight_371 (by decide) ?_
            exact ih_3 ((p_3.1 + 1), (p_3.2.1 + 0), (p_3.2.2 + 0)) H locs ls ⟨((show ((p_3.1 + 1), (p_3.2.1 + 0), (p_3.2.2 + 0)) = (abS fl ra re) i_3 p_3 from (by simp only [abS, hr, eq_false c_130, eq_false c_149, gi_sl, gi_sA, gi_sB, gi_si_s, gi_si_n, gl_si, gl_sA, gl_sB, gl_sl_s, gl_sl_n, gA_si, gA_sl, gA_sB, gA_sA_s, gA_sA_n, gB_si, gB_sl, gB_sA, gB_sB_s, gB_sB_n, Nat.reduceBEq, if_true, if_false, eq_self, Bool.false_eq_true, Bool.true_eq_false, not_true_eq_false, not_false_eq_true, decide_true, decide_false, cond_true, cond_false, Bool.true_and, Bool.false_and, Bool.and_true, Bool.and_false, Bool.true_or, Bool.false_or, Bool.or_true, Bool.or_false, b2i_tt, b2i_ff, pr_eta]; done)).trans (lp_go h_3)), hP, hD, hS, lv_sub hl [5, 3, 2, 1, 0] rfl⟩
          · refine lv_iconst (v := 1) hx hb dL_areBlocksRight_152 (by decide) ?_
            refine lv_goto (tgt := 157) hx hb dL_areBlocksRight_153 (by decide) ?_
            refine lv_iadd hx hb dL_areBlocksRight_157 ?_
            refine lv_istore_n (lv' := [(3, .int (p_3.2.2 + 1)), (2, .int (p_3.2.1 + 0)), (1, .int (p_3.1 + 1)), (5, .int (nearest ra (nI i_3))), (0, .ref (ad 0)), (4, .int (nI i_3))]) hx hb dL_areBlocksRight_158 rfl hl (by decide) rfl (fun ls hl => ?_)
            refine lv_iload hx hb dL_areBlocksRight_159 (lv_at hl 3 rfl) ?_
            refine lv_if_ge (tgt := 168) hx hb dL_areBlocksRight_161 (by decide) (fun c_161 => absurd c_161 (i_lt_nle hp)) (fun _ => ?_)
            refine lv_iconst (v := 1) hx hb dL_areBlocksRight_164 (by decide) ?_
            refine lv_goto (tgt := 169) hx hb dL_areBlocksRight_165 (by decide) ?_
            refine lv_iload hx hb dL_areBlocksRight_169 (lv_at hl 5 rfl) ?_
            refine lv_if_eq (tgt := 183) hx hb dL_areBlocksRight_171 (by decide) (fun _ => ?_) (fun c_171 => absurd hz c_171)
            refine lv_iconst (v := 1) hx hb dL_areBlocksRight_183 (by decide) ?_
            refine lv_goto (tgt := 188) hx hb dL_areBlocksRight_184 (by decide) ?_
            refine lv_icmp_ne (tgt := 235) hx hb dL_areBlocksRight_188 (by decide) (fun c_188 => absurd (by decide) c_188) (fun _ => ?_)
            refine lv_iload hx hb dL_areBlocksRight_191 (lv_at hl 3 rfl) ?_
            refine lv_if_lt (tgt := 218) hx hb dL_areBlocksRight_193 (by decide) (fun _ => ?_) (fun c_193 => absurd hp c_193)
            refine lv_aload_n hx hb dL_areBlocksRight_218 rfl (lv_at hl 4 rfl) ?_
            refine lv_iload hx hb dL_areBlocksRight_219 (lv_at hl 5 rfl) ?_
            refine lv_iload hx hb dL_areBlocksRight_221 (lv_at hl 5 rfl) ?_
            refine kI (rV (q0 := 0) (ci := 7) hx hb hml hown hg hN hK hP hD (a_dominates l D cI cJ ad co fl ra li re wa pi (nI i_3) (nI i_3) hZ.zf hZ.zr (l2_lt hZ hi_3).1 (l2_lt hZ hi_3).2 (l2_lt hZ hi_3).1 (l2_lt hZ hi_3).2) mw_629 mw_630 mw_631 mw_632 mw_77 pdv_X7_dominates ⟨Nat.le_of_ble_eq_true rfl, Nat.le_of_ble_eq_true rfl⟩ rfl xo0 rfl hl.1 rfl (Nat.le_of_ble_eq_true rfl) dL_areBlocksRight_223 ⟨Nat.le_of_ble_eq_true rfl, Nat.le_of_ble_eq_true rfl⟩) hD hS hA (fun r_130 u_130 H locs hp hP hD hS => ?_)
            obtain ⟨er, eu⟩ := hp
            obtain rfl := er.symm
            obtain rfl := eu.symm
            refine lv_aload_n hx hb dL_areBlocksRight_226 rfl (lv_at hl 4 rfl) ?_
            refine lv_iload hx hb dL_areBlocksRight_227 (lv_at hl 5 rfl) ?_
            refine kI (rV (q0 := 0) (ci := 7) hx hb hml hown hg hN hK hP hD (a_isReached l D cI cJ ad co fl ra li re wa pi (nI i_3) hZ.zf (l2_lt hZ hi_3).1 (l2_lt hZ hi_3).2) mw_621 mw_622 mw_623 mw_624 mw_77 pdv_X7_isReached ⟨Nat.le_of_ble_eq_true rfl, Nat.le_of_ble_eq_true rfl⟩ rfl xo0 rfl hl.1 rfl (Nat.le_of_ble_eq_true rfl) dL_areBlocksRight_229 ⟨Nat.le_of_ble_eq_true rfl, Nat.le_of_ble_eq_true rfl⟩) hD hS hA (fun r_131 u_131 H locs hp hP hD hS => ?_)
            obtain ⟨er, eu⟩ := hp
            obtain rfl := er.symm
            obtain rfl := eu.symm
            refine lv_icmp_eq (tgt := 237) hx hb dL_areBlocksRight_232 (by decide) (fun _ => ?_) (fun c_232 => absurd (b2t2 hdd hr) c_232)
            refine lv_aload_n hx hb dL_areBlocksRight_237 rfl (lv_at hl 4 rfl) ?_
            refine lv_iload hx hb dL_areBlocksRight_238 (lv_at hl 5 rfl) ?_
            refine kI (rV (q0 := 0) (ci := 7) hx hb hml hown hg hN hK hP hD (a_isReached l D cI cJ ad co fl ra li re wa pi (nI i_3) hZ.zf (l2_lt hZ hi_3).1 (l2_lt hZ hi_3).2) mw_621 mw_622 mw_623 mw_624 mw_77 pdv_X7_isReached ⟨Nat.le_of_ble_eq_true rfl, Nat.le_of_ble_eq_true rfl⟩ rfl xo0 rfl hl.1 rfl (Nat.le_of_ble_eq_true rfl) dL_areBlocksRight_240 ⟨Nat.le_of_ble_eq_true rfl, Nat.le_of_ble_eq_true rfl⟩) hD hS hA (fun r_132 u_132 H locs hp hP hD hS => ?_)
            obtain ⟨er, eu⟩ := hp
            obtain rfl := er.symm
            obtain rfl := eu.symm
            refine lv_if_ne (tgt := 296) hx hb dL_areBlocksRight_243 (by decide) (fun _ => ?_) (fun c_243 => absurd c_243 (b2i_t hr))
            refine lv_aload_n hx hb dL_areBlocksRight_296 rfl (lv_at hl 4 rfl) ?_
            refine lv_iload hx hb dL_areBlocksRight_297 (lv_at hl 5 rfl) ?_
            refine kI (rV (q0 := 0) (ci := 7) hx hb hml hown hg hN hK hP hD (a_isReached l D cI cJ ad co fl ra li re wa pi (nI i_3) hZ.zf (l2_lt hZ hi_3).1 (l2_lt hZ hi_3).2) mw_621 mw_622 mw_623 mw_624 mw_77 pdv_X7_isReached ⟨Nat.le_of_ble_eq_true rfl, Nat.le_of_ble_eq_true rfl⟩ rfl xo0 rfl hl.1 rfl (Nat.le_of_ble_eq_true rfl) dL_areBlocksRight_299 ⟨Nat.le_of_ble_eq_true rfl, Nat.le_of_ble_eq_true rfl⟩) hD hS hA (fun r_133 u_133 H locs hp hP hD hS => ?_)
            obtain ⟨er, eu⟩ := hp
            obtain rfl := er.symm
            obtain rfl := eu.symm
            refine lv_if_eq (tgt := 368) hx hb dL_areBlocksRight_302 (by decide) (fun c_302 => absurd c_302 (b2i_t hr)) (fun _ => ?_)
            refine lv_aload_n hx hb dL_areBlocksRight_305 rfl (lv_at hl 4 rfl) ?_
            refine lv_iload hx hb dL_areBlocksRight_306 (lv_at hl 5 rfl) ?_
            refine kI (rV (q0 := 0) (ci := 7) hx hb hml hown hg hN hK hP hD (a_endsIn l D cI cJ ad co fl ra li re wa pi (nI i_3) hZ.zf hZ.zd (l2_lt hZ hi_3).1 (l2_lt hZ hi_3).2) mw_641 mw_642 mw_643 mw_644 mw_77 pdv_X7_endsIn ⟨Nat.le_of_ble_eq_true rfl, Nat.le_of_ble_eq_true rfl⟩ rfl xo0 rfl hl.1 rfl (Nat.le_of_ble_eq_true rfl) dL_areBlocksRight_308 ⟨Nat.le_of_ble_eq_true rfl, Nat.le_of_ble_eq_true rfl⟩) hD hS hA (fun r_134 u_134 H locs hp hP hD hS => ?_)
            obtain ⟨er, eu⟩ := hp
            obtain rfl := er.symm
            obtain rfl := eu.symm
            refine lv_iload hx hb dL_areBlocksRight_311 (lv_at hl 5 rfl) ?_
            refine lv_icmp_gt (tgt := 366) hx hb dL_areBlocksRight_313 (by decide) (fun c_313 => absurd c_313 he2) (fun _ => ?_)
            refine lv_aload_n hx hb dL_areBlocksRight_316 rfl (lv_at hl 4 rfl) ?_
            refine lv_aload_n hx hb dL_areBlocksRight_317 rfl (lv_at hl 4 rfl) ?_
            refine lv_iload hx hb dL_areBlocksRight_318 (lv_at hl 5 rfl) ?_
            refine kI (rV (q0 := 0) (ci := 7) hx hb hml hown hg hN hK hP hD (a_endsIn l D cI cJ ad co fl ra li re wa pi (nI i_3) hZ.zf hZ.zd (l2_lt hZ hi_3).1 (l2_lt hZ hi_3).2) mw_641 mw_642 mw_643 mw_644 mw_77 pdv_X7_endsIn ⟨Nat.le_of_ble_eq_true rfl, Nat.le_of_ble_eq_true rfl⟩ rfl xo0 rfl hl.1 rfl (Nat.le_of_ble_eq_true rfl) dL_areBlocksRight_320 ⟨Nat.le_of_ble_eq_true rfl, Nat.le_of_ble_eq_true rfl⟩) hD hS hA (fun r_135 u_135 H locs hp hP hD hS => ?_)
            obtain ⟨er, eu⟩ := hp
            obtain rfl := er.symm
            obtain rfl := eu.symm
            refine kI (rV (q0 := 0) (ci := 7) hx hb hml hown hg hN hK hP hD (a_endsIn l D cI cJ ad co fl ra li re wa pi (rd (gA re 0) 40 (nI i_3)) hZ.zf hZ.zd he0 he1) mw_641 mw_642 mw_643 mw_644 mw_77 pdv_X7_endsIn ⟨Nat.le_of_ble_eq_true rfl, Nat.le_of_ble_eq_true rfl⟩ rfl xo0 rfl hl.1 rfl (Nat.le_of_ble_eq_true rfl) dL_areBlocksRight_323 ⟨Nat.le_of_ble_eq_true rfl, Nat.le_of_ble_eq_true rfl⟩) hD hS hA (fun r_136 u_136 H locs hp hP hD hS => ?_)
            obtain ⟨er, eu⟩ := hp
            obtain rfl := er.symm
            obtain rfl := eu.symm
            refine lv_aload_n hx hb dL_areBlocksRight_326 rfl (lv_at hl 4 rfl) ?_
            refine lv_iload hx hb dL_areBlocksRight_327 (lv_at hl 5 rfl) ?_
            refine kI (rV (q0 := 0) (ci := 7) hx hb hml hown hg hN hK hP hD (a_endsIn l D cI cJ ad co fl ra li re wa pi (nI i_3) hZ.zf hZ.zd (l2_lt hZ hi_3).1 (l2_lt hZ hi_3).2) mw_641 mw_642 mw_643 mw_644 mw_77 pdv_X7_endsIn ⟨Nat.le_of_ble_eq_true rfl, Nat.le_of_ble_eq_true rfl⟩ rfl xo0 rfl hl.1 rfl (Nat.le_of_ble_eq_true rfl) dL_areBlocksRight_329 ⟨Nat.le_of_ble_eq_true rfl, Nat.le_of_ble_eq_true rfl⟩) hD hS hA (fun r_137 u_137 H locs hp hP hD hS => ?_)
            obtain ⟨er, eu⟩ := hp
            obtain rfl := er.symm
            obtain rfl := eu.symm
            refine lv_icmp_ne (tgt := 366) hx hb dL_areBlocksRight_332 (by decide) (fun c_332 => absurd he3 c_332) (fun _ => ?_)
            refine lv_aload_n hx hb dL_areBlocksRight_335 rfl (lv_at hl 4 rfl) ?_
            refine lv_iload hx hb dL_areBlocksRight_336 (lv_at hl 5 rfl) ?_
            refine kI (rV (q0 := 0) (ci := 7) hx hb hml hown hg hN hK hP hD (a_depthOf l D cI cJ ad co fl ra li re wa pi (nI i_3) hZ.zf hZ.zr (l2_lt hZ hi_3).1 (l2_lt hZ hi_3).2) mw_653 mw_654 mw_655 mw_656 mw_77 pdv_X7_depthOf ⟨Nat.le_of_ble_eq_true rfl, Nat.le_of_ble_eq_true rfl⟩ rfl xo0 rfl hl.1 rfl (Nat.le_of_ble_eq_true rfl) dL_areBlocksRight_338 ⟨Nat.le_of_ble_eq_true rfl, Nat.le_of_ble_eq_true rfl⟩) hD hS hA (fun r_138 u_138 H locs hp hP hD hS => ?_)
            obtain ⟨er, eu⟩ := hp
            obtain rfl := er.symm
            obtain rfl := eu.symm
            refine lv_aload_n hx hb dL_areBlocksRight_341 rfl (lv_at hl 4 rfl) ?_
            refine kI (rV (q0 := 0) (ci := 7) hx hb hml hown hg hN hK hP hD (a_loops l D cI cJ ad co fl ra li re wa pi hZ.zr) mw_593 mw_594 mw_595 mw_596 mw_77 pdv_X7_loops ⟨Nat.le_of_ble_eq_true rfl, Nat.le_of_ble_eq_true rfl⟩ rfl xo0 rfl hl.1 rfl (Nat.le_of_ble_eq_true rfl) dL_areBlocksRight_342 ⟨Nat.le_of_ble_eq_true rfl, Nat.le_of_ble_eq_true rfl⟩) hD hS hA (fun r_139 u_139 H locs hp hP hD hS => ?_)
            obtain ⟨er, eu⟩ := hp
            obtain rfl := er.symm
            obtain rfl := eu.symm
            refine lv_icmp_gt (tgt := 366) hx hb dL_areBlocksRight_345 (by decide) (fun c_345 => absurd c_345 hdl) (fun _ => ?_)
            refine lv_aload_n hx hb dL_areBlocksRight_348 rfl (lv_at hl 4 rfl) ?_
            refine lv_iload hx hb dL_areBlocksRight_349 (lv_at hl 5 rfl) ?_
            refine kI (rV (q0 := 0) (ci := 7) hx hb hml hown hg hN hK hP hD (a_loopSize l D cI cJ ad co fl ra li re wa pi (nI i_3) hZ.zf hZ.zr (l2_lt hZ hi_3).1 (l2_lt hZ hi_3).2) mw_633 mw_634 mw_635 mw_636 mw_77 pdv_X7_loopSize ⟨Nat.le_of_ble_eq_true rfl, Nat.le_of_ble_eq_true rfl⟩ rfl xo0 rfl hl.1 rfl (Nat.le_of_ble_eq_true rfl) dL_areBlocksRight_351 ⟨Nat.le_of_ble_eq_true rfl, Nat.le_of_ble_eq_true rfl⟩) hD hS hA (fun r_140 u_140 H locs hp hP hD hS => ?_)
            obtain ⟨er, eu⟩ := hp
            obtain rfl := er.symm
            obtain rfl := eu.symm
            refine lv_if_le (tgt := 368) hx hb dL_areBlocksRight_354 (by decide) (fun _ => ?_) (fun c_354 => absurd (i_ge' c_130) c_354)
            refine lv_iinc (v := (nI (i_3 + 1))) (lv' := [(4, .int (nI (i_3 + 1))), (3, .int (p_3.2.2 + 1)), (2, .int (p_3.2.1 + 0)), (1, .int (p_3.1 + 1)), (5, .int (nearest ra (nI i_3))), (0, .ref (ad 0))]) hx hb dL_areBlocksRight_368 hl (k := 5) rfl (nI_1 i_3) (by decide) rfl (fun ls hl => ?_)
            refine lv_goto (tgt := 89) hx hb dL_areBlocksRight_371 (by decide) ?_
            exact ih_3 ((p_3.1 + 1), (p_3.2.1 + 0), (p_3.2.2 + 1)) H locs ls ⟨((show ((p_3.1 + 1), (p_3.2.1 + 0), (p_3.2.2 + 1)) = (abS fl ra re) i_3 p_3 from (by simp only [abS, hr, eq_false c_130, eq_true c_149, gi_sl, gi_sA, gi_sB, gi_si_s, gi_si_n, gl_si, gl_sA, gl_sB, gl_sl_s, gl_sl_n, gA_si, gA_sl, gA_sB, gA_sA_s, gA_sA_n, gB_si, gB_sl, gB_sA, gB_sB_s, gB_sB_n, Nat.reduceBEq, if_true, if_false, eq_self, Bool.false_eq_true, Bool.true_eq_false, not_true_eq_false, not_false_eq_true, decide_true, decide_false, cond_true, cond_false, Bool.true_and, Bool.false_and, Bool.and_true, Bool.and_false, Bool.true_or, Bool.false_or, Bool.or_true, Bool.or_false, b2i_tt, b2i_ff, pr_eta]; done)).trans (lp_go h_3)), hP, hD, hS, lv_sub hl [5, 3, 2, 1, 0] rfl⟩
        · have c_130 : 0 < (bc (rdL (gB ra 1) 40 (nI i_3))) := i_nge c_130
          refine lv_iconst (v := 1) hx hb dL_areBlocksRight_133 (by decide) ?_
          refine lv_goto (tgt := 138) hx hb dL_areBlocksRight_134 (by decide) ?_
          refine lv_iadd hx hb dL_areBlocksRight_138 ?_
          refine lv_istore_n (lv' := [(2, .int (p_3.2.1 + 1)), (1, .int (p_3.1 + 1)), (5, .int (nearest ra (nI i_3))), (0, .ref (ad 0)), (3, .int p_3.2.2), (4, .int (nI i_3))]) hx hb dL_areBlocksRight_139 rfl hl (by decide) rfl (fun ls hl => ?_)
          refine lv_iload_n hx hb dL_areBlocksRight_140 rfl (lv_at hl 4 rfl) ?_
          refine lv_aload_n hx hb dL_areBlocksRight_141 rfl (lv_at hl 3 rfl) ?_
          refine lv_iload hx hb dL_areBlocksRight_142 (lv_at hl 5 rfl) ?_
          refine kI (rV (q0 := 0) (ci := 7) hx hb hml hown hg hN hK hP hD (a_endsIn l D cI cJ ad co fl ra li re wa pi (nI i_3) hZ.zf hZ.zd (l2_lt hZ hi_3).1 (l2_lt hZ hi_3).2) mw_641 mw_642 mw_643 mw_644 mw_77 pdv_X7_endsIn ⟨Nat.le_of_ble_eq_true rfl, Nat.le_of_ble_eq_true rfl⟩ rfl xo0 rfl hl.1 rfl (Nat.le_of_ble_eq_true rfl) dL_areBlocksRight_144 ⟨Nat.le_of_ble_eq_true rfl, Nat.le_of_ble_eq_true rfl⟩) hD hS hA (fun r_141 u_141 H locs hp hP hD hS => ?_)
          obtain ⟨er, eu⟩ := hp
          obtain rfl := er.symm
          obtain rfl := eu.symm
          refine lv_iload hx hb dL_areBlocksRight_147 (lv_at hl 5 rfl) ?_
          refine lv_icmp_ne (tgt := 156) hx hb dL_areBlocksRight_149 (by decide) (fun c_149 => ?_) (fun c_149 => ?_)
          · refine lv_iconst (v := 0) hx hb dL_areBlocksRight_156 (by decide) ?_
            refine lv_iadd hx hb dL_areBlocksRight_157 ?_
            refine lv_istore_n (lv' := [(3, .int (p_3.2.2 + 0)), (2, .int (p_3.2.1 + 1)), (1, .int (p_3.1 + 1)), (5, .int (nearest ra (nI i_3))), (0, .ref (ad 0)), (4, .int (nI i_3))]) hx hb dL_areBlocksRight_158 rfl hl (by decide) rfl (fun ls hl => ?_)
            refine lv_iload hx hb dL_areBlocksRight_159 (lv_at hl 3 rfl) ?_
            refine lv_if_ge (tgt := 168) hx hb dL_areBlocksRight_161 (by decide) (fun c_161 => absurd c_161 (i_lt_nle hp)) (fun _ => ?_)
            refine lv_iconst (v := 1) hx hb dL_areBlocksRight_164 (by decide) ?_
            refine lv_goto (tgt := 169) hx hb dL_areBlocksRight_165 (by decide) ?_
            refine lv_iload hx hb dL_areBlocksRight_169 (lv_at hl 5 rfl) ?_
            refine lv_if_eq (tgt := 183) hx hb dL_areBlocksRight_171 (by decide) (fun _ => ?_) (fun c_171 => absurd hz c_171)
            refine lv_iconst (v := 1) hx hb dL_areBlocksRight_183 (by decide) ?_
            refine lv_goto (tgt := 188) hx hb dL_areBlocksRight_184 (by decide) ?_
            refine lv_icmp_ne (tgt := 235) hx hb dL_areBlocksRight_188 (by decide) (fun c_188 => absurd (by decide) c_188) (fun _ => ?_)
            refine lv_iload hx hb dL_areBlocksRight_191 (lv_at hl 3 rfl) ?_
            refine lv_if_lt (tgt := 218) hx hb dL_areBlocksRight_193 (by decide) (fun _ => ?_) (fun c_193 => absurd hp c_193)
            refine lv_aload_n hx hb dL_areBlocksRight_218 rfl (lv_at hl 4 rfl) ?_
            refine lv_iload hx hb dL_areBlocksRight_219 (lv_at hl 5 rfl) ?_
            refine lv_iload hx hb dL_areBlocksRight_221 (lv_at hl 5 rfl) ?_
            refine kI (rV (q0 := 0) (ci := 7) hx hb hml hown hg hN hK hP hD (a_dominates l D cI cJ ad co fl ra li re wa pi (nI i_3) (nI i_3) hZ.zf hZ.zr (l2_lt hZ hi_3).1 (l2_lt hZ hi_3).2 (l2_lt hZ hi_3).1 (l2_lt hZ hi_3).2) mw_629 mw_630 mw_631 mw_632 mw_77 pdv_X7_dominates ⟨Nat.le_of_ble_eq_true rfl, Nat.le_of_ble_eq_true rfl⟩ rfl xo0 rfl hl.1 rfl (Nat.le_of_ble_eq_true rfl) dL_areBlocksRight_223 ⟨Nat.le_of_ble_eq_true rfl, Nat.le_of_ble_eq_true rfl⟩) hD hS hA (fun r_142 u_142 H locs hp hP hD hS => ?_)
            obtain ⟨er, eu⟩ := hp
            obtain rfl := er.symm
            obtain rfl := eu.symm
            refine lv_aload_n hx hb dL_areBlocksRight_226 rfl (lv_at hl 4 rfl) ?_
            refine lv_iload hx hb dL_areBlocksRight_227 (lv_at hl 5 rfl) ?_
            refine kI (rV (q0 := 0) (ci := 7) hx hb hml hown hg hN hK hP hD (a_isReached l D cI cJ ad co fl ra li re wa pi (nI i_3) hZ.zf (l2_lt hZ hi_3).1 (l2_lt hZ hi_3).2) mw_621 mw_622 mw_623 mw_624 mw_77 pdv_X7_isReached ⟨Nat.le_of_ble_eq_true rfl, Nat.le_of_ble_eq_true rfl⟩ rfl xo0 rfl hl.1 rfl (Nat.le_of_ble_eq_true rfl) dL_areBlocksRight_229 ⟨Nat.le_of_ble_eq_true rfl, Nat.le_of_ble_eq_true rfl⟩) hD hS hA (fun r_143 u_143 H locs hp hP hD hS => ?_)
            obtain ⟨er, eu⟩ := hp
            obtain rfl := er.symm
            obtain rfl := eu.symm
            refine lv_icmp_eq (tgt := 237) hx hb dL_areBlocksRight_232 (by decide) (fun _ => ?_) (fun c_232 => absurd (b2t2 hdd hr) c_232)
            refine lv_aload_n hx hb dL_areBlocksRight_237 rfl (lv_at hl 4 rfl) ?_
            refine lv_iload hx hb dL_areBlocksRight_238 (lv_at hl 5 rfl) ?_
            refine kI (rV (q0 := 0) (ci := 7) hx hb hml hown hg hN hK hP hD (a_isReached l D cI cJ ad co fl ra li re wa pi (nI i_3) hZ.zf (l2_lt hZ hi_3).1 (l2_lt hZ hi_3).2) mw_621 mw_622 mw_623 mw_624 mw_77 pdv_X7_isReached ⟨Nat.le_of_ble_eq_true rfl, Nat.le_of_ble_eq_true rfl⟩ rfl xo0 rfl hl.1 rfl (Nat.le_of_ble_eq_true rfl) dL_areBlocksRight_240 ⟨Nat.le_of_ble_eq_true rfl, Nat.le_of_ble_eq_true rfl⟩) hD hS hA (fun r_144 u_144 H locs hp hP hD hS => ?_)
            obtain ⟨er, eu⟩ := hp
            obtain rfl := er.symm
            obtain rfl := eu.symm
            refine lv_if_ne (tgt := 296) hx hb dL_areBlocksRight_243 (by decide) (fun _ => ?_) (fun c_243 => absurd c_243 (b2i_t hr))
            refine lv_aload_n hx hb dL_areBlocksRight_296 rfl (lv_at hl 4 rfl) ?_
            refine lv_iload hx hb dL_areBlocksRight_297 (lv_at hl 5 rfl) ?_
            refine kI (rV (q0 := 0) (ci := 7) hx hb hml hown hg hN hK hP hD (a_isReached l D cI cJ ad co fl ra li re wa pi (nI i_3) hZ.zf (l2_lt hZ hi_3).1 (l2_lt hZ hi_3).2) mw_621 mw_622 mw_623 mw_624 mw_77 pdv_X7_isReached ⟨Nat.le_of_ble_eq_true rfl, Nat.le_of_ble_eq_true rfl⟩ rfl xo0 rfl hl.1 rfl (Nat.le_of_ble_eq_true rfl) dL_areBlocksRight_299 ⟨Nat.le_of_ble_eq_true rfl, Nat.le_of_ble_eq_true rfl⟩) hD hS hA (fun r_145 u_145 H locs hp hP hD hS => ?_)
            obtain ⟨er, eu⟩ := hp
            obtain rfl := er.symm
            obtain rfl := eu.symm
            refine lv_if_eq (tgt := 368) hx hb dL_areBlocksRight_302 (by decide) (fun c_302 => absurd c_302 (b2i_t hr)) (fun _ => ?_)
            refine lv_aload_n hx hb dL_areBlocksRight_305 rfl (lv_at hl 4 rfl) ?_
            refine lv_iload hx hb dL_areBlocksRight_306 (lv_at hl 5 rfl) ?_
            refine kI (rV (q0 := 0) (ci := 7) hx hb hml hown hg hN hK hP hD (a_endsIn l D cI cJ ad co fl ra li re wa pi (nI i_3) hZ.zf hZ.zd (l2_lt hZ hi_3).1 (l2_lt hZ hi_3).2) mw_641 mw_642 mw_643 mw_644 mw_77 pdv_X7_endsIn ⟨Nat.le_of_ble_eq_true rfl, Nat.le_of_ble_eq_true rfl⟩ rfl xo0 rfl hl.1 rfl (Nat.le_of_ble_eq_true rfl) dL_areBlocksRight_308 ⟨Nat.le_of_ble_eq_true rfl, Nat.le_of_ble_eq_true rfl⟩) hD hS hA (fun r_146 u_146 H locs hp hP hD hS => ?_)
            obtain ⟨er, eu⟩ := hp
            obtain rfl := er.symm
            obtain rfl := eu.symm
            refine lv_iload hx hb dL_areBlocksRight_311 (lv_at hl 5 rfl) ?_
            refine lv_icmp_gt (tgt := 366) hx hb dL_areBlocksRight_313 (by decide) (fun c_313 => absurd c_313 he2) (fun _ => ?_)
            refine lv_aload_n hx hb dL_areBlocksRight_316 rfl (lv_at hl 4 rfl) ?_
            refine lv_aload_n hx hb dL_areBlocksRight_317 rfl (lv_at hl 4 rfl) ?_
            refine lv_iload hx hb dL_areBlocksRight_318 (lv_at hl 5 rfl) ?_
            refine kI (rV (q0 := 0) (ci := 7) hx hb hml hown hg hN hK hP hD (a_endsIn l D cI cJ ad co fl ra li re wa pi (nI i_3) hZ.zf hZ.zd (l2_lt hZ hi_3).1 (l2_lt hZ hi_3).2) mw_641 mw_642 mw_643 mw_644 mw_77 pdv_X7_endsIn ⟨Nat.le_of_ble_eq_true rfl, Nat.le_of_ble_eq_true rfl⟩ rfl xo0 rfl hl.1 rfl (Nat.le_of_ble_eq_true rfl) dL_areBlocksRight_320 ⟨Nat.le_of_ble_eq_true rfl, Nat.le_of_ble_eq_true rfl⟩) hD hS hA (fun r_147 u_147 H locs hp hP hD hS => ?_)
            obtain ⟨er, eu⟩ := hp
            obtain rfl := er.symm
            obtain rfl := eu.symm
            refine kI (rV (q0 := 0) (ci := 7) hx hb hml hown hg hN hK hP hD (a_endsIn l D cI cJ ad co fl ra li re wa pi (rd (gA re 0) 40 (nI i_3)) hZ.zf hZ.zd he0 he1) mw_641 mw_642 mw_643 mw_644 mw_77 pdv_X7_endsIn ⟨Nat.le_of_ble_eq_true rfl, Nat.le_of_ble_eq_true rfl⟩ rfl xo0 rfl hl.1 rfl (Nat.le_of_ble_eq_true rfl) dL_areBlocksRight_323 ⟨Nat.le_of_ble_eq_true rfl, Nat.le_of_ble_eq_true rfl⟩) hD hS hA (fun r_148 u_148 H locs hp hP hD hS => ?_)
            obtain ⟨er, eu⟩ := hp
            obtain rfl := er.symm
            obtain rfl := eu.symm
            refine lv_aload_n hx hb dL_areBlocksRight_326 rfl (lv_at hl 4 rfl) ?_
            refine lv_iload hx hb dL_areBlocksRight_327 (lv_at hl 5 rfl) ?_
            refine kI (rV (q0 := 0) (ci := 7) hx hb hml hown hg hN hK hP hD (a_endsIn l D cI cJ ad co fl ra li re wa pi (nI i_3) hZ.zf hZ.zd (l2_lt hZ hi_3).1 (l2_lt hZ hi_3).2) mw_641 mw_642 mw_643 mw_644 mw_77 pdv_X7_endsIn ⟨Nat.le_of_ble_eq_true rfl, Nat.le_of_ble_eq_true rfl⟩ rfl xo0 rfl hl.1 rfl (Nat.le_of_ble_eq_true rfl) dL_areBlocksRight_329 ⟨Nat.le_of_ble_eq_true rfl, Nat.le_of_ble_eq_true rfl⟩) hD hS hA (fun r_149 u_149 H locs hp hP hD hS => ?_)
            obtain ⟨er, eu⟩ := hp
            obtain rfl := er.symm
            obtain rfl := eu.symm
            refine lv_icmp_ne (tgt := 366) hx hb dL_areBlocksRight_332 (by decide) (fun c_332 => absurd he3 c_332) (fun _ => ?_)
            refine lv_aload_n hx hb dL_areBlocksRight_335 rfl (lv_at hl 4 rfl) ?_
            refine lv_iload hx hb dL_areBlocksRight_336 (lv_at hl 5 rfl) ?_
            refine kI (rV (q0 := 0) (ci := 7) hx hb hml hown hg hN hK hP hD (a_depthOf l D cI cJ ad co fl ra li re wa pi (nI i_3) hZ.zf hZ.zr (l2_lt hZ hi_3).1 (l2_lt hZ hi_3).2) mw_653 mw_654 mw_655 mw_656 mw_77 pdv_X7_depthOf ⟨Nat.le_of_ble_eq_true rfl, Nat.le_of_ble_eq_true rfl⟩ rfl xo0 rfl hl.1 rfl (Nat.le_of_ble_eq_true rfl) dL_areBlocksRight_338 ⟨Nat.le_of_ble_eq_true rfl, Nat.le_of_ble_eq_true rfl⟩) hD hS hA (fun r_150 u_150 H locs hp hP hD hS => ?_)
            obtain ⟨er, eu⟩ := hp
            obtain rfl := er.symm
            obtain rfl := eu.symm
            refine lv_aload_n hx hb dL_areBlocksRight_341 rfl (lv_at hl 4 rfl) ?_
            refine kI (rV (q0 := 0) (ci := 7) hx hb hml hown hg hN hK hP hD (a_loops l D cI cJ ad co fl ra li re wa pi hZ.zr) mw_593 mw_594 mw_595 mw_596 mw_77 pdv_X7_loops ⟨Nat.le_of_ble_eq_true rfl, Nat.le_of_ble_eq_true rfl⟩ rfl xo0 rfl hl.1 rfl (Nat.le_of_ble_eq_true rfl) dL_areBlocksRight_342 ⟨Nat.le_of_ble_eq_true rfl, Nat.le_of_ble_eq_true rfl⟩) hD hS hA (fun r_151 u_151 H locs hp hP hD hS => ?_)
            obtain ⟨er, eu⟩ := hp
            obtain rfl := er.symm
            obtain rfl := eu.symm
            refine lv_icmp_gt (tgt := 366) hx hb dL_areBlocksRight_345 (by decide) (fun c_345 => absurd c_345 hdl) (fun _ => ?_)
            refine lv_aload_n hx hb dL_areBlocksRight_348 rfl (lv_at hl 4 rfl) ?_
            refine lv_iload hx hb dL_areBlocksRight_349 (lv_at hl 5 rfl) ?_
            refine kI (rV (q0 := 0) (ci := 7) hx hb hml hown hg hN hK hP hD (a_loopSize l D cI cJ ad co fl ra li re wa pi (nI i_3) hZ.zf hZ.zr (l2_lt hZ hi_3).1 (l2_lt hZ hi_3).2) mw_633 mw_634 mw_635 mw_636 mw_77 pdv_X7_loopSize ⟨Nat.le_of_ble_eq_true rfl, Nat.le_of_ble_eq_true rfl⟩ rfl xo0 rfl hl.1 rfl (Nat.le_of_ble_eq_true rfl) dL_areBlocksRight_351 ⟨Nat.le_of_ble_eq_true rfl, Nat.le_of_ble_eq_true rfl⟩) hD hS hA (fun r_152 u_152 H locs hp hP hD hS => ?_)
            obtain ⟨er, eu⟩ := hp
            obtain rfl := er.symm
            obtain rfl := eu.symm
            refine lv_if_le (tgt := 368) hx hb dL_areBlocksRight_354 (by decide) (fun c_354 => absurd c_354 (i_lt_nle c_130)) (fun _ => ?_)
            refine lv_aload_n hx hb dL_areBlocksRight_357 rfl (lv_at hl 4 rfl) ?_
            refine lv_iload hx hb dL_areBlocksRight_358 (lv_at hl 5 rfl) ?_
            refine kI (rV (q0 := 0) (ci := 7) hx hb hml hown hg hN hK hP hD (a_depthOf l D cI cJ ad co fl ra li re wa pi (nI i_3) hZ.zf hZ.zr (l2_lt hZ hi_3).1 (l2_lt hZ hi_3).2) mw_653 mw_654 mw_655 mw_656 mw_77 pdv_X7_depthOf ⟨Nat.le_of_ble_eq_true rfl, Nat.le_of_ble_eq_true rfl⟩ rfl xo0 rfl hl.1 rfl (Nat.le_of_ble_eq_true rfl) dL_areBlocksRight_360 ⟨Nat.le_of_ble_eq_true rfl, Nat.le_of_ble_eq_true rfl⟩) hD hS hA (fun r_153 u_153 H locs hp hP hD hS => ?_)
            obtain ⟨er, eu⟩ := hp
            obtain rfl := er.symm
            obtain rfl := eu.symm
            refine lv_if_ne (tgt := 368) hx hb dL_areBlocksRight_363 (by decide) (fun _ => ?_) (fun c_363 => absurd c_363 (hdz c_130))
            refine lv_iinc (v := (nI (i_3 + 1))) (lv' := [(4, .int (nI (i_3 + 1))), (3, .int (p_3.2.2 + 0)), (2, .int (p_3.2.1 + 1)), (1, .int (p_3.1 + 1)), (5, .int (nearest ra (nI i_3))), (0, .ref (ad 0))]) hx hb dL_areBlocksRight_368 hl (k := 5) rfl (nI_1 i_3) (by decide) rfl (fun ls hl => ?_)
            refine lv_goto (tgt := 89) hx hb dL_areBlocksRight_371 (by decide) ?_
            exact ih_3 ((p_3.1 + 1), (p_3.2.1 + 1), (p_3.2.2 + 0)) H locs ls ⟨((show ((p_3.1 + 1), (p_3.2.1 + 1), (p_3.2.2 + 0)) = (abS fl ra re) i_3 p_3 from (by simp only [abS, hr, eq_true c_130, eq_false c_149, gi_sl, gi_sA, gi_sB, gi_si_s, gi_si_n, gl_si, gl_sA, gl_sB, gl_sl_s, gl_sl_n, gA_si, gA_sl, gA_sB, gA_sA_s, gA_sA_n, gB_si, gB_sl, gB_sA, gB_sB_s, gB_sB_n, Nat.reduceBEq, if_true, if_false, eq_self, Bool.false_eq_true, Bool.true_eq_false, not_true_eq_false, not_false_eq_true, decide_true, decide_false, cond_true, cond_false, Bool.true_and, Bool.false_and, Bool.and_true, Bool.and_false, Bool.true_or, Bool.false_or, Bool.or_true, Bool.or_false, b2i_tt, b2i_ff, pr_eta]; done)).trans (lp_go h_3)), hP, hD, hS, lv_sub hl [5, 3, 2, 1, 0] rfl⟩
          · refine lv_iconst (v := 1) hx hb dL_areBlocksRight_152 (by decide) ?_
            refine lv_goto (tgt := 157) hx hb dL_areBlocksRight_153 (by decide) ?_
            refine lv_iadd hx hb dL_areBlocksRight_157 ?_
            refine lv_istore_n (lv' := [(3, .int (p_3.2.2 + 1)), (2, .int (p_3.2.1 + 1)), (1, .int (p_3.1 + 1)), (5, .int (nearest ra (nI i_3))), (0, .ref (ad 0)), (4, .int (nI i_3))]) hx hb dL_areBlocksRight_158 rfl hl (by decide) rfl (fun ls hl => ?_)
            refine lv_iload hx hb dL_areBlocksRight_159 (lv_at hl 3 rfl) ?_
            refine lv_if_ge (tgt := 168) hx hb dL_areBlocksRight_161 (by decide) (fun c_161 => absurd c_161 (i_lt_nle hp)) (fun _ => ?_)
            refine lv_iconst (v := 1) hx hb dL_areBlocksRight_164 (by decide) ?_
            refine lv_goto (tgt := 169) hx hb dL_areBlocksRight_165 (by decide) ?_
            refine lv_iload hx hb dL_areBlocksRight_169 (lv_at hl 5 rfl) ?_
            refine lv_if_eq (tgt := 183) hx hb dL_areBlocksRight_171 (by decide) (fun _ => ?_) (fun c_171 => absurd hz c_171)
            refine lv_iconst (v := 1) hx hb dL_areBlocksRight_183 (by decide) ?_
            refine lv_goto (tgt := 188) hx hb dL_areBlocksRight_184 (by decide) ?_
            refine lv_icmp_ne (tgt := 235) hx hb dL_areBlocksRight_188 (by decide) (fun c_188 => absurd (by decide) c_188) (fun _ => ?_)
            refine lv_iload hx hb dL_areBlocksRight_191 (lv_at hl 3 rfl) ?_
            refine lv_if_lt (tgt := 218) hx hb dL_areBlocksRight_193 (by decide) (fun _ => ?_) (fun c_193 => absurd hp c_193)
            refine lv_aload_n hx hb dL_areBlocksRight_218 rfl (lv_at hl 4 rfl) ?_
            refine lv_iload hx hb dL_areBlocksRight_219 (lv_at hl 5 rfl) ?_
            refine lv_iload hx hb dL_areBlocksRight_221 (lv_at hl 5 rfl) ?_
            refine kI (rV (q0 := 0) (ci := 7) hx hb hml hown hg hN hK hP hD (a_dominates l D cI cJ ad co fl ra li re wa pi (nI i_3) (nI i_3) hZ.zf hZ.zr (l2_lt hZ hi_3).1 (l2_lt hZ hi_3).2 (l2_lt hZ hi_3).1 (l2_lt hZ hi_3).2) mw_629 mw_630 mw_631 mw_632 mw_77 pdv_X7_dominates ⟨Nat.le_of_ble_eq_true rfl, Nat.le_of_ble_eq_true rfl⟩ rfl xo0 rfl hl.1 rfl (Nat.le_of_ble_eq_true rfl) dL_areBlocksRight_223 ⟨Nat.le_of_ble_eq_true rfl, Nat.le_of_ble_eq_true rfl⟩) hD hS hA (fun r_154 u_154 H locs hp hP hD hS => ?_)
            obtain ⟨er, eu⟩ := hp
            obtain rfl := er.symm
            obtain rfl := eu.symm
            refine lv_aload_n hx hb dL_areBlocksRight_226 rfl (lv_at hl 4 rfl) ?_
            refine lv_iload hx hb dL_areBlocksRight_227 (lv_at hl 5 rfl) ?_
            refine kI (rV (q0 := 0) (ci := 7) hx hb hml hown hg hN hK hP hD (a_isReached l D cI cJ ad co fl ra li re wa pi (nI i_3) hZ.zf (l2_lt hZ hi_3).1 (l2_lt hZ hi_3).2) mw_621 mw_622 mw_623 mw_624 mw_77 pdv_X7_isReached ⟨Nat.le_of_ble_eq_true rfl, Nat.le_of_ble_eq_true rfl⟩ rfl xo0 rfl hl.1 rfl (Nat.le_of_ble_eq_true rfl) dL_areBlocksRight_229 ⟨Nat.le_of_ble_eq_true rfl, Nat.le_of_ble_eq_true rfl⟩) hD hS hA (fun r_155 u_155 H locs hp hP hD hS => ?_)
            obtain ⟨er, eu⟩ := hp
            obtain rfl := er.symm
            obtain rfl := eu.symm
            refine lv_icmp_eq (tgt := 237) hx hb dL_areBlocksRight_232 (by decide) (fun _ => ?_) (fun c_232 => absurd (b2t2 hdd hr) c_232)
            refine lv_aload_n hx hb dL_areBlocksRight_237 rfl (lv_at hl 4 rfl) ?_
            refine lv_iload hx hb dL_areBlocksRight_238 (lv_at hl 5 rfl) ?_
            refine kI (rV (q0 := 0) (ci := 7) hx hb hml hown hg hN hK hP hD (a_isReached l D cI cJ ad co fl ra li re wa pi (nI i_3) hZ.zf (l2_lt hZ hi_3).1 (l2_lt hZ hi_3).2) mw_621 mw_622 mw_623 mw_624 mw_77 pdv_X7_isReached ⟨Nat.le_of_ble_eq_true rfl, Nat.le_of_ble_eq_true rfl⟩ rfl xo0 rfl hl.1 rfl (Nat.le_of_ble_eq_true rfl) dL_areBlocksRight_240 ⟨Nat.le_of_ble_eq_true rfl, Nat.le_of_ble_eq_true rfl⟩) hD hS hA (fun r_156 u_156 H locs hp hP hD hS => ?_)
            obtain ⟨er, eu⟩ := hp
            obtain rfl := er.symm
            obtain rfl := eu.symm
            refine lv_if_ne (tgt := 296) hx hb dL_areBlocksRight_243 (by decide) (fun _ => ?_) (fun c_243 => absurd c_243 (b2i_t hr))
            refine lv_aload_n hx hb dL_areBlocksRight_296 rfl (lv_at hl 4 rfl) ?_
            refine lv_iload hx hb dL_areBlocksRight_297 (lv_at hl 5 rfl) ?_
            refine kI (rV (q0 := 0) (ci := 7) hx hb hml hown hg hN hK hP hD (a_isReached l D cI cJ ad co fl ra li re wa pi (nI i_3) hZ.zf (l2_lt hZ hi_3).1 (l2_lt hZ hi_3).2) mw_621 mw_622 mw_623 mw_624 mw_77 pdv_X7_isReached ⟨Nat.le_of_ble_eq_true rfl, Nat.le_of_ble_eq_true rfl⟩ rfl xo0 rfl hl.1 rfl (Nat.le_of_ble_eq_true rfl) dL_areBlocksRight_299 ⟨Nat.le_of_ble_eq_true rfl, Nat.le_of_ble_eq_true rfl⟩) hD hS hA (fun r_157 u_157 H locs hp hP hD hS => ?_)
            obtain ⟨er, eu⟩ := hp
            obtain rfl := er.symm
            obtain rfl := eu.symm
            refine lv_if_eq (tgt := 368) hx hb dL_areBlocksRight_302 (by decide) (fun c_302 => absurd c_302 (b2i_t hr)) (fun _ => ?_)
            refine lv_aload_n hx hb dL_areBlocksRight_305 rfl (lv_at hl 4 rfl) ?_
            refine lv_iload hx hb dL_areBlocksRight_306 (lv_at hl 5 rfl) ?_
            refine kI (rV (q0 := 0) (ci := 7) hx hb hml hown hg hN hK hP hD (a_endsIn l D cI cJ ad co fl ra li re wa pi (nI i_3) hZ.zf hZ.zd (l2_lt hZ hi_3).1 (l2_lt hZ hi_3).2) mw_641 mw_642 mw_643 mw_644 mw_77 pdv_X7_endsIn ⟨Nat.le_of_ble_eq_true rfl, Nat.le_of_ble_eq_true rfl⟩ rfl xo0 rfl hl.1 rfl (Nat.le_of_ble_eq_true rfl) dL_areBlocksRight_308 ⟨Nat.le_of_ble_eq_true rfl, Nat.le_of_ble_eq_true rfl⟩) hD hS hA (fun r_158 u_158 H locs hp hP hD hS => ?_)
            obtain ⟨er, eu⟩ := hp
            obtain rfl := er.symm
            obtain rfl := eu.symm
            refine lv_iload hx hb dL_areBlocksRight_311 (lv_at hl 5 rfl) ?_
            refine lv_icmp_gt (tgt := 366) hx hb dL_areBlocksRight_313 (by decide) (fun c_313 => absurd c_313 he2) (fun _ => ?_)
            refine lv_aload_n hx hb dL_areBlocksRight_316 rfl (lv_at hl 4 rfl) ?_
            refine lv_aload_n hx hb dL_areBlocksRight_317 rfl (lv_at hl 4 rfl) ?_
            refine lv_iload hx hb dL_areBlocksRight_318 (lv_at hl 5 rfl) ?_
            refine kI (rV (q0 := 0) (ci := 7) hx hb hml hown hg hN hK hP hD (a_endsIn l D cI cJ ad co fl ra li re wa pi (nI i_3) hZ.zf hZ.zd (l2_lt hZ hi_3).1 (l2_lt hZ hi_3).2) mw_641 mw_642 mw_643 mw_644 mw_77 pdv_X7_endsIn ⟨Nat.le_of_ble_eq_true rfl, Nat.le_of_ble_eq_true rfl⟩ rfl xo0 rfl hl.1 rfl (Nat.le_of_ble_eq_true rfl) dL_areBlocksRight_320 ⟨Nat.le_of_ble_eq_true rfl, Nat.le_of_ble_eq_true rfl⟩) hD hS hA (fun r_159 u_159 H locs hp hP hD hS => ?_)
            obtain ⟨er, eu⟩ := hp
            obtain rfl := er.symm
            obtain rfl := eu.symm
            refine kI (rV (q0 := 0) (ci := 7) hx hb hml hown hg hN hK hP hD (a_endsIn l D cI cJ ad co fl ra li re wa pi (rd (gA re 0) 40 (nI i_3)) hZ.zf hZ.zd he0 he1) mw_641 mw_642 mw_643 mw_644 mw_77 pdv_X7_endsIn ⟨Nat.le_of_ble_eq_true rfl, Nat.le_of_ble_eq_true rfl⟩ rfl xo0 rfl hl.1 rfl (Nat.le_of_ble_eq_true rfl) dL_areBlocksRight_323 ⟨Nat.le_of_ble_eq_true rfl, Nat.le_of_ble_eq_true rfl⟩) hD hS hA (fun r_160 u_160 H locs hp hP hD hS => ?_)
            obtain ⟨er, eu⟩ := hp
            obtain rfl := er.symm
            obtain rfl := eu.symm
            refine lv_aload_n hx hb dL_areBlocksRight_326 rfl (lv_at hl 4 rfl) ?_
            refine lv_iload hx hb dL_areBlocksRight_327 (lv_at hl 5 rfl) ?_
            refine kI (rV (q0 := 0) (ci := 7) hx hb hml hown hg hN hK hP hD (a_endsIn l D cI cJ ad co fl ra li re wa pi (nI i_3) hZ.zf hZ.zd (l2_lt hZ hi_3).1 (l2_lt hZ hi_3).2) mw_641 mw_642 mw_643 mw_644 mw_77 pdv_X7_endsIn ⟨Nat.le_of_ble_eq_true rfl, Nat.le_of_ble_eq_true rfl⟩ rfl xo0 rfl hl.1 rfl (Nat.le_of_ble_eq_true rfl) dL_areBlocksRight_329 ⟨Nat.le_of_ble_eq_true rfl, Nat.le_of_ble_eq_true rfl⟩) hD hS hA (fun r_161 u_161 H locs hp hP hD hS => ?_)
            obtain ⟨er, eu⟩ := hp
            obtain rfl := er.symm
            obtain rfl := eu.symm
            refine lv_icmp_ne (tgt := 366) hx hb dL_areBlocksRight_332 (by decide) (fun c_332 => absurd he3 c_332) (fun _ => ?_)
            refine lv_aload_n hx hb dL_areBlocksRight_335 rfl (lv_at hl 4 rfl) ?_
            refine lv_iload hx hb dL_areBlocksRight_336 (lv_at hl 5 rfl) ?_
            refine kI (rV (q0 := 0) (ci := 7) hx hb hml hown hg hN hK hP hD (a_depthOf l D cI cJ ad co fl ra li re wa pi (nI i_3) hZ.zf hZ.zr (l2_lt hZ hi_3).1 (l2_lt hZ hi_3).2) mw_653 mw_654 mw_655 mw_656 mw_77 pdv_X7_depthOf ⟨Nat.le_of_ble_eq_true rfl, Nat.le_of_ble_eq_true rfl⟩ rfl xo0 rfl hl.1 rfl (Nat.le_of_ble_eq_true rfl) dL_areBlocksRight_338 ⟨Nat.le_of_ble_eq_true rfl, Nat.le_of_ble_eq_true rfl⟩) hD hS hA (fun r_162 u_162 H locs hp hP hD hS => ?_)
            obtain ⟨er, eu⟩ := hp
            obtain rfl := er.symm
            obtain rfl := eu.symm
            refine lv_aload_n hx hb dL_areBlocksRight_341 rfl (lv_at hl 4 rfl) ?_
            refine kI (rV (q0 := 0) (ci := 7) hx hb hml hown hg hN hK hP hD (a_loops l D cI cJ ad co fl ra li re wa pi hZ.zr) mw_593 mw_594 mw_595 mw_596 mw_77 pdv_X7_loops ⟨Nat.le_of_ble_eq_true rfl, Nat.le_of_ble_eq_true rfl⟩ rfl xo0 rfl hl.1 rfl (Nat.le_of_ble_eq_true rfl) dL_areBlocksRight_342 ⟨Nat.le_of_ble_eq_true rfl, Nat.le_of_ble_eq_true rfl⟩) hD hS hA (fun r_163 u_163 H locs hp hP hD hS => ?_)
            obtain ⟨er, eu⟩ := hp
            obtain rfl := er.symm
            obtain rfl := eu.symm
            refine lv_icmp_gt (tgt := 366) hx hb dL_areBlocksRight_345 (by decide) (fun c_345 => absurd c_345 hdl) (fun _ => ?_)
            refine lv_aload_n hx hb dL_areBlocksRight_348 rfl (lv_at hl 4 rfl) ?_
            refine lv_iload hx hb dL_areBlocksRight_349 (lv_at hl 5 rfl) ?_
            refine kI (rV (q0 := 0) (ci := 7) hx hb hml hown hg hN hK hP hD (a_loopSize l D cI cJ ad co fl ra li re wa pi (nI i_3) hZ.zf hZ.zr (l2_lt hZ hi_3).1 (l2_lt hZ hi_3).2) mw_633 mw_634 mw_635 mw_636 mw_77 pdv_X7_loopSize ⟨Nat.le_of_ble_eq_true rfl, Nat.le_of_ble_eq_true rfl⟩ rfl xo0 rfl hl.1 rfl (Nat.le_of_ble_eq_true rfl) dL_areBlocksRight_351 ⟨Nat.le_of_ble_eq_true rfl, Nat.le_of_ble_eq_true rfl⟩) hD hS hA (fun r_164 u_164 H locs hp hP hD hS => ?_)
            obtain ⟨er, eu⟩ := hp
            obtain rfl := er.symm
            obtain rfl := eu.symm
            refine lv_if_le (tgt := 368) hx hb dL_areBlocksRight_354 (by decide) (fun c_354 => absurd c_354 (i_lt_nle c_130)) (fun _ => ?_)
            refine lv_aload_n hx hb dL_areBlocksRight_357 rfl (lv_at hl 4 rfl) ?_
            refine lv_iload hx hb dL_areBlocksRight_358 (lv_at hl 5 rfl) ?_
            refine kI (rV (q0 := 0) (ci := 7) hx hb hml hown hg hN hK hP hD (a_depthOf l D cI cJ ad co fl ra li re wa pi (nI i_3) hZ.zf hZ.zr (l2_lt hZ hi_3).1 (l2_lt hZ hi_3).2) mw_653 mw_654 mw_655 mw_656 mw_77 pdv_X7_depthOf ⟨Nat.le_of_ble_eq_true rfl, Nat.le_of_ble_eq_true rfl⟩ rfl xo0 rfl hl.1 rfl (Nat.le_of_ble_eq_true rfl) dL_areBlocksRight_360 ⟨Nat.le_of_ble_eq_true rfl, Nat.le_of_ble_eq_true rfl⟩) hD hS hA (fun r_165 u_165 H locs hp hP hD hS => ?_)
            obtain ⟨er, eu⟩ := hp
            obtain rfl := er.symm
            obtain rfl := eu.symm
            refine lv_if_ne (tgt := 368) hx hb dL_areBlocksRight_363 (by decide) (fun _ => ?_) (fun c_363 => absurd c_363 (hdz c_130))
            refine lv_iinc (v := (nI (i_3 + 1))) (lv' := [(4, .int (nI (i_3 + 1))), (3, .int (p_3.2.2 + 1)), (2, .int (p_3.2.1 + 1)), (1, .int (p_3.1 + 1)), (5, .int (nearest ra (nI i_3))), (0, .ref (ad 0))]) hx hb dL_areBlocksRight_368 hl (k := 5) rfl (nI_1 i_3) (by decide) rfl (fun ls hl => ?_)
            refine lv_goto (tgt := 89) hx hb dL_areBlocksRight_371 (by decide) ?_
            exact ih_3 ((p_3.1 + 1), (p_3.2.1 + 1), (p_3.2.2 + 1)) H locs ls ⟨((show ((p_3.1 + 1), (p_3.2.1 + 1), (p_3.2.2 + 1)) = (abS fl ra re) i_3 p_3 from (by simp only [abS, hr, eq_true c_130, eq_true c_149, gi_sl, gi_sA, gi_sB, gi_si_s, gi_si_n, gl_si, gl_sA, gl_sB, gl_sl_s, gl_sl_n, gA_si, gA_sl, gA_sB, gA_sA_s, gA_sA_n, gB_si, gB_sl, gB_sA, gB_sB_s, gB_sB_n, Nat.reduceBEq, if_true, if_false, eq_self, Bool.false_eq_true, Bool.true_eq_false, not_true_eq_false, not_false_eq_true, decide_true, decide_false, cond_true, cond_false, Bool.true_and, Bool.false_and, Bool.and_true, Bool.and_false, Bool.true_or, Bool.false_or, Bool.or_true, Bool.or_false, b2i_tt, b2i_ff, pr_eta]; done)).trans (lp_go h_3)), hP, hD, hS, lv_sub hl [5, 3, 2, 1, 0] rfl⟩
      · have hr0 := hr
        refine lv_aload_n hx hb dL_areBlocksRight_98 rfl (lv_at hl 0 rfl) ?_
        refine lv_iload hx hb dL_areBlocksRight_99 (lv_at hl 4 rfl) ?_
        refine kI (rV (q0 := 0) (ci := 7) hx hb hml hown hg hN hK hP hD (a_parentOf l D cI cJ ad co fl ra li re wa pi (nI i_3) hZ.zf hZ.zr (l2_lt hZ hi_3).1 (l2_lt hZ hi_3).2) mw_637 mw_638 mw_639 mw_640 mw_77 pdv_X7_parentOf ⟨Nat.le_of_ble_eq_true rfl, Nat.le_of_ble_eq_true rfl⟩ rfl xo0 rfl hl.1 rfl (Nat.le_of_ble_eq_true rfl) dL_areBlocksRight_101 ⟨Nat.le_of_ble_eq_true rfl, Nat.le_of_ble_eq_true rfl⟩) hD hS hA (fun r_166 u_166 H locs hp hP hD hS => ?_)
        obtain ⟨er, eu⟩ := hp
        obtain rfl := er.symm
        obtain rfl := eu.symm
        refine lv_istore (lv' := [(5, .int (nearest ra (nI i_3))), (0, .ref (ad 0)), (1, .int p_3.1), (2, .int p_3.2.1), (3, .int p_3.2.2), (4, .int (nI i_3))]) hx hb dL_areBlocksRight_104 hl (by decide) rfl (fun ls hl => ?_)
        refine lv_iload_n hx hb dL_areBlocksRight_106 rfl (lv_at hl 2 rfl) ?_
        refine lv_aload_n hx hb dL_areBlocksRight_107 rfl (lv_at hl 1 rfl) ?_
        refine lv_iload hx hb dL_areBlocksRight_108 (lv_at hl 5 rfl) ?_
        refine kI (rV (q0 := 0) (ci := 7) hx hb hml hown hg hN hK hP hD (a_isReached l D cI cJ ad co fl ra li re wa pi (nI i_3) hZ.zf (l2_lt hZ hi_3).1 (l2_lt hZ hi_3).2) mw_621 mw_622 mw_623 mw_624 mw_77 pdv_X7_isReached ⟨Nat.le_of_ble_eq_true rfl, Nat.le_of_ble_eq_true rfl⟩ rfl xo0 rfl hl.1 rfl (Nat.le_of_ble_eq_true rfl) dL_areBlocksRight_110 ⟨Nat.le_of_ble_eq_true rfl, Nat.le_of_ble_eq_true rfl⟩) hD hS hA (fun r_167 u_167 H locs hp hP hD hS => ?_)
        obtain ⟨er, eu⟩ := hp
        obtain rfl := er.symm
        obtain rfl := eu.symm
        refine lv_if_eq (tgt := 120) hx hb dL_areBlocksRight_113 (by decide) (fun c_113 => absurd c_113 (b2i_t hr)) (fun _ => ?_)
        refine lv_iconst (v := 1) hx hb dL_areBlocksRight_116 (by decide) ?_
        refine lv_goto (tgt := 121) hx hb dL_areBlocksRight_117 (by decide) ?_
        refine lv_iadd hx hb dL_areBlocksRight_121 ?_
        refine lv_istore_n (lv' := [(1, .int (p_3.1 + 1)), (5, .int (nearest ra (nI i_3))), (0, .ref (ad 0)), (2, .int p_3.2.1), (3, .int p_3.2.2), (4, .int (nI i_3))]) hx hb dL_areBlocksRight_122 rfl hl (by decide) rfl (fun ls hl => ?_)
        refine lv_iload_n hx hb dL_areBlocksRight_123 rfl (lv_at hl 3 rfl) ?_
        refine lv_aload_n hx hb dL_areBlocksRight_124 rfl (lv_at hl 2 rfl) ?_
        refine lv_iload hx hb dL_areBlocksRight_125 (lv_at hl 5 rfl) ?_
        refine kI (rV (q0 := 0) (ci := 7) hx hb hml hown hg hN hK hP hD (a_loopSize l D cI cJ ad co fl ra li re wa pi (nI i_3) hZ.zf hZ.zr (l2_lt hZ hi_3).1 (l2_lt hZ hi_3).2) mw_633 mw_634 mw_635 mw_636 mw_77 pdv_X7_loopSize ⟨Nat.le_of_ble_eq_true rfl, Nat.le_of_ble_eq_true rfl⟩ rfl xo0 rfl hl.1 rfl (Nat.le_of_ble_eq_true rfl) dL_areBlocksRight_127 ⟨Nat.le_of_ble_eq_true rfl, Nat.le_of_ble_eq_true rfl⟩) hD hS hA (fun r_168 u_168 H locs hp hP hD hS => ?_)
        obtain ⟨er, eu⟩ := hp
        obtain rfl := er.symm
        obtain rfl := eu.symm
        refine lv_if_le (tgt := 137) hx hb dL_areBlocksRight_130 (by decide) (fun c_130 => ?_) (fun c_130 => ?_)
        · have c_130 : ¬ 0 < (bc (rdL (gB ra 1) 40 (nI i_3))) := i_ge c_130
          refine lv_iconst (v := 0) hx hb dL_areBlocksRight_137 (by decide) ?_
          refine lv_iadd hx hb dL_areBlocksRight_138 ?_
          refine lv_istore_n (lv' := [(2, .int (p_3.2.1 + 0)), (1, .int (p_3.1 + 1)), (5, .int (nearest ra (nI i_3))), (0, .ref (ad 0)), (3, .int p_3.2.2), (4, .int (nI i_3))]) hx hb dL_areBlocksRight_139 rfl hl (by decide) rfl (fun ls hl => ?_)
          refine lv_iload_n hx hb dL_areBlocksRight_140 rfl (lv_at hl 4 rfl) ?_
          refine lv_aload_n hx hb dL_areBlocksRight_141 rfl (lv_at hl 3 rfl) ?_
          refine lv_iload hx hb dL_areBlocksRight_142 (lv_at hl 5 rfl) ?_
          refine kI (rV (q0 := 0) (ci := 7) hx hb hml hown hg hN hK hP hD (a_endsIn l D cI cJ ad co fl ra li re wa pi (nI i_3) hZ.zf hZ.zd (l2_lt hZ hi_3).1 (l2_lt hZ hi_3).2) mw_641 mw_642 mw_643 mw_644 mw_77 pdv_X7_endsIn ⟨Nat.le_of_ble_eq_true rfl, Nat.le_of_ble_eq_true rfl⟩ rfl xo0 rfl hl.1 rfl (Nat.le_of_ble_eq_true rfl) dL_areBlocksRight_144 ⟨Nat.le_of_ble_eq_true rfl, Nat.le_of_ble_eq_true rfl⟩) hD hS hA (fun r_169 u_169 H locs hp hP hD hS => ?_)
          obtain ⟨er, eu⟩ := hp
          obtain rfl := er.symm
          obtain rfl := eu.symm
          refine lv_iload hx hb dL_areBlocksRight_147 (lv_at hl 5 rfl) ?_
          refine lv_icmp_ne (tgt := 156) hx hb dL_areBlocksRight_149 (by decide) (fun c_149 => ?_) (fun c_149 => ?_)
          · refine lv_iconst (v := 0) hx hb dL_areBlocksRight_156 (by decide) ?_
            refine lv_iadd hx hb dL_areBlocksRight_157 ?_
            refine lv_istore_n (lv' := [(3, .int (p_3.2.2 + 0)), (2, .int (p_3.2.1 + 0)), (1, .int (p_3.1 + 1)), (5, .int (nearest ra (nI i_3))), (0, .ref (ad 0)), (4, .int (nI i_3))]) hx hb dL_areBlocksRight_158 rfl hl (by decide) rfl (fun ls hl => ?_)
            refine lv_iload hx hb dL_areBlocksRight_159 (lv_at hl 3 rfl) ?_
            refine lv_if_ge (tgt := 168) hx hb dL_areBlocksRight_161 (by decide) (fun _ => ?_) (fun c_161 => absurd (i_ge' hp0) c_161)
            refine lv_iconst (v := 0) hx hb dL_areBlocksRight_168 (by decide) ?_
            refine lv_iload hx hb dL_areBlocksRight_169 (lv_at hl 5 rfl) ?_
            refine lv_if_eq (tgt := 183) hx hb dL_areBlocksRight_171 (by decide) (fun c_171 => absurd c_171 hz) (fun _ => ?_)
            refine lv_aload_n hx hb dL_areBlocksRight_174 rfl (lv_at hl 4 rfl) ?_
            refine lv_iload hx hb dL_areBlocksRight_175 (lv_at hl 5 rfl) ?_
            refine kI (rV (q0 := 0) (ci := 7) hx hb hml hown hg hN hK hP hD (a_isReached l D cI cJ ad co fl ra li re wa pi (nI i_3) hZ.zf (l2_lt hZ hi_3).1 (l2_lt hZ hi_3).2) mw_621 mw_622 mw_623 mw_624 mw_77 pdv_X7_isReached ⟨Nat.le_of_ble_eq_true rfl, Nat.le_of_ble_eq_true rfl⟩ rfl xo0 rfl hl.1 rfl (Nat.le_of_ble_eq_true rfl) dL_areBlocksRight_177 ⟨Nat.le_of_ble_eq_true rfl, Nat.le_of_ble_eq_true rfl⟩) hD hS hA (fun r_170 u_170 H locs hp hP hD hS => ?_)
            obtain ⟨er, eu⟩ := hp
            obtain rfl := er.symm
            obtain rfl := eu.symm
            refine lv_if_ne (tgt := 187) hx hb dL_areBlocksRight_180 (by decide) (fun _ => ?_) (fun c_180 => absurd c_180 (b2i_t hr))
            refine lv_iconst (v := 0) hx hb dL_areBlocksRight_187 (by decide) ?_
            refine lv_icmp_ne (tgt := 235) hx hb dL_areBlocksRight_188 (by decide) (fun c_188 => absurd (by decide) c_188) (fun _ => ?_)
            refine lv_iload hx hb dL_areBlocksRight_191 (lv_at hl 3 rfl) ?_
            refine lv_if_lt (tgt := 218) hx hb dL_areBlocksRight_193 (by decide) (fun c_193 => absurd c_193 hp0) (fun _ => ?_)
            refine lv_aload_n hx hb dL_areBlocksRight_196 rfl (lv_at hl 4 rfl) ?_
            refine lv_iload hx hb dL_areBlocksRight_197 (lv_at hl 3 rfl) ?_
            refine lv_iload hx hb dL_areBlocksRight_199 (lv_at hl 5 rfl) ?_
            refine kI (rV (q0 := 0) (ci := 7) hx hb hml hown hg hN hK hP hD (a_dominates l D cI cJ ad co fl ra li re wa pi (nearest ra (nI i_3)) (nI i_3) hZ.zf hZ.zr hp0 hp1 (l2_lt hZ hi_3).1 (l2_lt hZ hi_3).2) mw_629 mw_630 mw_631 mw_632 mw_77 pdv_X7_dominates ⟨Nat.le_of_ble_eq_true rfl, Nat.le_of_ble_eq_true rfl⟩ rfl xo0 rfl hl.1 rfl (Nat.le_of_ble_eq_true rfl) dL_areBlocksRight_201 ⟨Nat.le_of_ble_eq_true rfl, Nat.le_of_ble_eq_true rfl⟩) hD hS hA (fun r_171 u_171 H locs hp hP hD hS => ?_)
            obtain ⟨er, eu⟩ := hp
            obtain rfl := er.symm
            obtain rfl := eu.symm
            refine lv_if_eq (tgt := 235) hx hb dL_areBlocksRight_204 (by decide) (fun c_204 => absurd c_204 (b2i_t hd1)) (fun _ => ?_)
            refine lv_aload_n hx hb dL_areBlocksRight_207 rfl (lv_at hl 4 rfl) ?_
            refine lv_iload hx hb dL_areBlocksRight_208 (lv_at hl 5 rfl) ?_
            refine lv_iload hx hb dL_areBlocksRight_210 (lv_at hl 3 rfl) ?_
            refine kI (rV (q0 := 0) (ci := 7) hx hb hml hown hg hN hK hP hD (a_dominates l D cI cJ ad co fl ra li re wa pi (nI i_3) (nearest ra (nI i_3)) hZ.zf hZ.zr (l2_lt hZ hi_3).1 (l2_lt hZ hi_3).2 hp0 hp1) mw_629 mw_630 mw_631 mw_632 mw_77 pdv_X7_dominates ⟨Nat.le_of_ble_eq_true rfl, Nat.le_of_ble_eq_true rfl⟩ rfl xo0 rfl hl.1 rfl (Nat.le_of_ble_eq_true rfl) dL_areBlocksRight_212 ⟨Nat.le_of_ble_eq_true rfl, Nat.le_of_ble_eq_true rfl⟩) hD hS hA (fun r_172 u_172 H locs hp hP hD hS => ?_)
            obtain ⟨er, eu⟩ := hp
            obtain rfl := er.symm
            obtain rfl := eu.symm
            refine lv_if_ne (tgt := 235) hx hb dL_areBlocksRight_215 (by decide) (fun c_215 => absurd (b2i_f hd2) c_215) (fun _ => ?_)
            refine lv_aload_n hx hb dL_areBlocksRight_218 rfl (lv_at hl 4 rfl) ?_
            refine lv_iload hx hb dL_areBlocksRight_219 (lv_at hl 5 rfl) ?_
            refine lv_iload hx hb dL_areBlocksRight_221 (lv_at hl 5 rfl) ?_
            refine kI (rV (q0 := 0) (ci := 7) hx hb hml hown hg hN hK hP hD (a_dominates l D cI cJ ad co fl ra li re wa pi (nI i_3) (nI i_3) hZ.zf hZ.zr (l2_lt hZ hi_3).1 (l2_lt hZ hi_3).2 (l2_lt hZ hi_3).1 (l2_lt hZ hi_3).2) mw_629 mw_630 mw_631 mw_632 mw_77 pdv_X7_dominates ⟨Nat.le_of_ble_eq_true rfl, Nat.le_of_ble_eq_true rfl⟩ rfl xo0 rfl hl.1 rfl (Nat.le_of_ble_eq_true rfl) dL_areBlocksRight_223 ⟨Nat.le_of_ble_eq_true rfl, Nat.le_of_ble_eq_true rfl⟩) hD hS hA (fun r_173 u_173 H locs hp hP hD hS => ?_)
            obtain ⟨er, eu⟩ := hp
            obtain rfl := er.symm
            obtain rfl := eu.symm
            refine lv_aload_n hx hb dL_areBlocksRight_226 rfl (lv_at hl 4 rfl) ?_
            refine lv_iload hx hb dL_areBlocksRight_227 (lv_at hl 5 rfl) ?_
            refine kI (rV (q0 := 0) (ci := 7) hx hb hml hown hg hN hK hP hD (a_isReached l D cI cJ ad co fl ra li re wa pi (nI i_3) hZ.zf (l2_lt hZ hi_3).1 (l2_lt hZ hi_3).2) mw_621 mw_622 mw_623 mw_624 mw_77 pdv_X7_isReached ⟨Nat.le_of_ble_eq_true rfl, Nat.le_of_ble_eq_true rfl⟩ rfl xo0 rfl hl.1 rfl (Nat.le_of_ble_eq_true rfl) dL_areBlocksRight_229 ⟨Nat.le_of_ble_eq_true rfl, Nat.le_of_ble_eq_true rfl⟩) hD hS hA (fun r_174 u_174 H locs hp hP hD hS => ?_)
            obtain ⟨er, eu⟩ := hp
            obtain rfl := er.symm
            obtain rfl := eu.symm
            refine lv_icmp_eq (tgt := 237) hx hb dL_areBlocksRight_232 (by decide) (fun _ => ?_) (fun c_232 => absurd (b2t2 hdd hr) c_232)
            refine lv_aload_n hx hb dL_areBlocksRight_237 rfl (lv_at hl 4 rfl) ?_
            refine lv_iload hx hb dL_areBlocksRight_238 (lv_at hl 5 rfl) ?_
            refine kI (rV (q0 := 0) (ci := 7) hx hb hml hown hg hN hK hP hD (a_isReached l D cI cJ ad co fl ra li re wa pi (nI i_3) hZ.zf (l2_lt hZ hi_3).1 (l2_lt hZ hi_3).2) mw_621 mw_622 mw_623 mw_624 mw_77 pdv_X7_isReached ⟨Nat.le_of_ble_eq_true rfl, Nat.le_of_ble_eq_true rfl⟩ rfl xo0 rfl hl.1 rfl (Nat.le_of_ble_eq_true rfl) dL_areBlocksRight_240 ⟨Nat.le_of_ble_eq_true rfl, Nat.le_of_ble_eq_true rfl⟩) hD hS hA (fun r_175 u_175 H locs hp hP hD hS => ?_)
            obtain ⟨er, eu⟩ := hp
            obtain rfl := er.symm
            obtain rfl := eu.symm
            refine lv_if_ne (tgt := 296) hx hb dL_areBlocksRight_243 (by decide) (fun _ => ?_) (fun c_243 => absurd c_243 (b2i_t hr))
            refine lv_aload_n hx hb dL_areBlocksRight_296 rfl (lv_at hl 4 rfl) ?_
            refine lv_iload hx hb dL_areBlocksRight_297 (lv_at hl 5 rfl) ?_
            refine kI (rV (q0 := 0) (ci := 7) hx hb hml hown hg hN hK hP hD (a_isReached l D cI cJ ad co fl ra li re wa pi (nI i_3) hZ.zf (l2_lt hZ hi_3).1 (l2_lt hZ hi_3).2) mw_621 mw_622 mw_623 mw_624 mw_77 pdv_X7_isReached ⟨Nat.le_of_ble_eq_true rfl, Nat.le_of_ble_eq_true rfl⟩ rfl xo0 rfl hl.1 rfl (Nat.le_of_ble_eq_true rfl) dL_areBlocksRight_299 ⟨Nat.le_of_ble_eq_true rfl, Nat.le_of_ble_eq_true rfl⟩) hD hS hA (fun r_176 u_176 H locs hp hP hD hS => ?_)
            obtain ⟨er, eu⟩ := hp
            obtain rfl := er.symm
            obtain rfl := eu.symm
            refine lv_if_eq (tgt := 368) hx hb dL_areBlocksRight_302 (by decide) (fun c_302 => absurd c_302 (b2i_t hr)) (fun _ => ?_)
            refine lv_aload_n hx hb dL_areBlocksRight_305 rfl (lv_at hl 4 rfl) ?_
            refine lv_iload hx hb dL_areBlocksRight_306 (lv_at hl 5 rfl) ?_
            refine kI (rV (q0 := 0) (ci := 7) hx hb hml hown hg hN hK hP hD (a_endsIn l D cI cJ ad co fl ra li re wa pi (nI i_3) hZ.zf hZ.zd (l2_lt hZ hi_3).1 (l2_lt hZ hi_3).2) mw_641 mw_642 mw_643 mw_644 mw_77 pdv_X7_endsIn ⟨Nat.le_of_ble_eq_true rfl, Nat.le_of_ble_eq_true rfl⟩ rfl xo0 rfl hl.1 rfl (Nat.le_of_ble_eq_true rfl) dL_areBlocksRight_308 ⟨Nat.le_of_ble_eq_true rfl, Nat.le_of_ble_eq_true rfl⟩) hD hS hA (fun r_177 u_177 H locs hp hP hD hS => ?_)
            obtain ⟨er, eu⟩ := hp
            obtain rfl := er.symm
            obtain rfl := eu.symm
            refine lv_iload hx hb dL_areBlocksRight_311 (lv_at hl 5 rfl) ?_
            refine lv_icmp_gt (tgt := 366) hx hb dL_areBlocksRight_313 (by decide) (fun c_313 => absurd c_313 he2) (fun _ => ?_)
            refine lv_aload_n hx hb dL_areBlocksRight_316 rfl (lv_at hl 4 rfl) ?_
            refine lv_aload_n hx hb dL_areBlocksRight_317 rfl (lv_at hl 4 rfl) ?_
            refine lv_iload hx hb dL_areBlocksRight_318 (lv_at hl 5 rfl) ?_
            refine kI (rV (q0 := 0) (ci := 7) hx hb hml hown hg hN hK hP hD (a_endsIn l D cI cJ ad co fl ra li re wa pi (nI i_3) hZ.zf hZ.zd (l2_lt hZ hi_3).1 (l2_lt hZ hi_3).2) mw_641 mw_642 mw_643 mw_644 mw_77 pdv_X7_endsIn ⟨Nat.le_of_ble_eq_true rfl, Nat.le_of_ble_eq_true rfl⟩ rfl xo0 rfl hl.1 rfl (Nat.le_of_ble_eq_true rfl) dL_areBlocksRight_320 ⟨Nat.le_of_ble_eq_true rfl, Nat.le_of_ble_eq_true rfl⟩) hD hS hA (fun r_178 u_178 H locs hp hP hD hS => ?_)
            obtain ⟨er, eu⟩ := hp
            obtain rfl := er.symm
            obtain rfl := eu.symm
            refine kI (rV (q0 := 0) (ci := 7) hx hb hml hown hg hN hK hP hD (a_endsIn l D cI cJ ad co fl ra li re wa pi (rd (gA re 0) 40 (nI i_3)) hZ.zf hZ.zd he0 he1) mw_641 mw_642 mw_643 mw_644 mw_77 pdv_X7_endsIn ⟨Nat.le_of_ble_eq_true rfl, Nat.le_of_ble_eq_true rfl⟩ rfl xo0 rfl hl.1 rfl (Nat.le_of_ble_eq_true rfl) dL_areBlocksRight_323 ⟨Nat.le_of_ble_eq_true rfl, Nat.le_of_ble_eq_true rfl⟩) hD hS hA (fun r_179 u_179 H locs hp hP hD hS => ?_)
            obtain ⟨er, eu⟩ := hp
            obtain rfl := er.symm
            obtain rfl := eu.symm
            refine lv_aload_n hx hb dL_areBlocksRight_326 rfl (lv_at hl 4 rfl) ?_
            refine lv_iload hx hb dL_areBlocksRight_327 (lv_at hl 5 rfl) ?_
            refine kI (rV (q0 := 0) (ci := 7) hx hb hml hown hg hN hK hP hD (a_endsIn l D cI cJ ad co fl ra li re wa pi (nI i_3) hZ.zf hZ.zd (l2_lt hZ hi_3).1 (l2_lt hZ hi_3).2) mw_641 mw_642 mw_643 mw_644 mw_77 pdv_X7_endsIn ⟨Nat.le_of_ble_eq_true rfl, Nat.le_of_ble_eq_true rfl⟩ rfl xo0 rfl hl.1 rfl (Nat.le_of_ble_eq_true rfl) dL_areBlocksRight_329 ⟨Nat.le_of_ble_eq_true rfl, Nat.le_of_ble_eq_true rfl⟩) hD hS hA (fun r_180 u_180 H locs hp hP hD hS => ?_)
            obtain ⟨er, eu⟩ := hp
            obtain rfl := er.symm
            obtain rfl := eu.symm
            refine lv_icmp_ne (tgt := 366) hx hb dL_areBlocksRight_332 (by decide) (fun c_332 => absurd he3 c_332) (fun _ => ?_)
            refine lv_aload_n hx hb dL_areBlocksRight_335 rfl (lv_at hl 4 rfl) ?_
            refine lv_iload hx hb dL_areBlocksRight_336 (lv_at hl 5 rfl) ?_
            refine kI (rV (q0 := 0) (ci := 7) hx hb hml hown hg hN hK hP hD (a_depthOf l D cI cJ ad co fl ra li re wa pi (nI i_3) hZ.zf hZ.zr (l2_lt hZ hi_3).1 (l2_lt hZ hi_3).2) mw_653 mw_654 mw_655 mw_656 mw_77 pdv_X7_depthOf ⟨Nat.le_of_ble_eq_true rfl, Nat.le_of_ble_eq_true rfl⟩ rfl xo0 rfl hl.1 rfl (Nat.le_of_ble_eq_true rfl) dL_areBlocksRight_338 ⟨Nat.le_of_ble_eq_true rfl, Nat.le_of_ble_eq_true rfl⟩) hD hS hA (fun r_181 u_181 H locs hp hP hD hS => ?_)
            obtain ⟨er, eu⟩ := hp
            obtain rfl := er.symm
            obtain rfl := eu.symm
            refine lv_aload_n hx hb dL_areBlocksRight_341 rfl (lv_at hl 4 rfl) ?_
            refine kI (rV (q0 := 0) (ci := 7) hx hb hml hown hg hN hK hP hD (a_loops l D cI cJ ad co fl ra li re wa pi hZ.zr) mw_593 mw_594 mw_595 mw_596 mw_77 pdv_X7_loops ⟨Nat.le_of_ble_eq_true rfl, Nat.le_of_ble_eq_true rfl⟩ rfl xo0 rfl hl.1 rfl (Nat.le_of_ble_eq_true rfl) dL_areBlocksRight_342 ⟨Nat.le_of_ble_eq_true rfl, Nat.le_of_ble_eq_true rfl⟩) hD hS hA (fun r_182 u_182 H locs hp hP hD hS => ?_)
            obtain ⟨er, eu⟩ := hp
            obtain rfl := er.symm
            obtain rfl := eu.symm
            refine lv_icmp_gt (tgt := 366) hx hb dL_areBlocksRight_345 (by decide) (fun c_345 => absurd c_345 hdl) (fun _ => ?_)
            refine lv_aload_n hx hb dL_areBlocksRight_348 rfl (lv_at hl 4 rfl) ?_
            refine lv_iload hx hb dL_areBlocksRight_349 (lv_at hl 5 rfl) ?_
            refine kI (rV (q0 := 0) (ci := 7) hx hb hml hown hg hN hK hP hD (a_loopSize l D cI cJ ad co fl ra li re wa pi (nI i_3) hZ.zf hZ.zr (l2_lt hZ hi_3).1 (l2_lt hZ hi_3).2) mw_633 mw_634 mw_635 mw_636 mw_77 pdv_X7_loopSize ⟨Nat.le_of_ble_eq_true rfl, Nat.le_of_ble_eq_true rfl⟩ rfl xo0 rfl hl.1 rfl (Nat.le_of_ble_eq_true rfl) dL_areBlocksRight_351 ⟨Nat.le_of_ble_eq_true rfl, Nat.le_of_ble_eq_true rfl⟩) hD hS hA (fun r_183 u_183 H locs hp hP hD hS => ?_)
            obtain ⟨er, eu⟩ := hp
            obtain rfl := er.symm
            obtain rfl := eu.symm
            refine lv_if_le (tgt := 368) hx hb dL_areBlocksRight_354 (by decide) (fun _ => ?_) (fun c_354 => absurd (i_ge' c_130) c_354)
            refine lv_iinc (v := (nI (i_3 + 1))) (lv' := [(4, .int (nI (i_3 + 1))), (3, .int (p_3.2.2 + 0)), (2, .int (p_3.2.1 + 0)), (1, .int (p_3.1 + 1)), (5, .int (nearest ra (nI i_3))), (0, .ref (ad 0))]) hx hb dL_areBlocksRight_368 hl (k := 5) rfl (nI_1 i_3) (by decide) rfl (fun ls hl => ?_)
            refine lv_goto (tgt := 89) hx hb dL_areBlocksRight_371 (by decide) ?_
            exact ih_3 ((p_3.1 + 1), (p_3.2.1 + 0), (p_3.2.2 + 0)) H locs ls ⟨((show ((p_3.1 + 1), (p_3.2.1 + 0), (p_3.2.2 + 0)) = (abS fl ra re) i_3 p_3 from (by simp only [abS, hr, eq_false c_130, eq_false c_149, gi_sl, gi_sA, gi_sB, gi_si_s, gi_si_n, gl_si, gl_sA, gl_sB, gl_sl_s, gl_sl_n, gA_si, gA_sl, gA_sB, gA_sA_s, gA_sA_n, gB_si, gB_sl, gB_sA, gB_sB_s, gB_sB_n, Nat.reduceBEq, if_true, if_false, eq_self, Bool.false_eq_true, Bool.true_eq_false, not_true_eq_false, not_false_eq_true, decide_true, decide_false, cond_true, cond_false, Bool.true_and, Bool.false_and, Bool.and_true, Bool.and_false, Bool.true_or, Bool.false_or, Bool.or_true, Bool.or_false, b2i_tt, b2i_ff, pr_eta]; done)).trans (lp_go h_3)), hP, hD, hS, lv_sub hl [5, 3, 2, 1, 0] rfl⟩
          · refine lv_iconst (v := 1) hx hb dL_areBlocksRight_152 (by decide) ?_
            refine lv_goto (tgt := 157) hx hb dL_areBlocksRight_153 (by decide) ?_
            refine lv_iadd hx hb dL_areBlocksRight_157 ?_
            refine lv_istore_n (lv' := [(3, .int (p_3.2.2 + 1)), (2, .int (p_3.2.1 + 0)), (1, .int (p_3.1 + 1)), (5, .int (nearest ra (nI i_3))), (0, .ref (ad 0)), (4, .int (nI i_3))]) hx hb dL_areBlocksRight_158 rfl hl (by decide) rfl (fun ls hl => ?_)
            refine lv_iload hx hb dL_areBlocksRight_159 (lv_at hl 3 rfl) ?_
            refine lv_if_ge (tgt := 168) hx hb dL_areBlocksRight_161 (by decide) (fun _ => ?_) (fun c_161 => absurd (i_ge' hp0) c_161)
            refine lv_iconst (v := 0) hx hb dL_areBlocksRight_168 (by decide) ?_
            refine lv_iload hx hb dL_areBlocksRight_169 (lv_at hl 5 rfl) ?_
            refine lv_if_eq (tgt := 183) hx hb dL_areBlocksRight_171 (by decide) (fun c_171 => absurd c_171 hz) (fun _ => ?_)
            refine lv_aload_n hx hb dL_areBlocksRight_174 rfl (lv_at hl 4 rfl) ?_
            refine lv_iload hx hb dL_areBlocksRight_175 (lv_at hl 5 rfl) ?_
            refine kI (rV (q0 := 0) (ci := 7) hx hb hml hown hg hN hK hP hD (a_isReached l D cI cJ ad co fl ra li re wa pi (nI i_3) hZ.zf (l2_lt hZ hi_3).1 (l2_lt hZ hi_3).2) mw_621 mw_622 mw_623 mw_624 mw_77 pdv_X7_isReached ⟨Nat.le_of_ble_eq_true rfl, Nat.le_of_ble_eq_true rfl⟩ rfl xo0 rfl hl.1 rfl (Nat.le_of_ble_eq_true rfl) dL_areBlocksRight_177 ⟨Nat.le_of_ble_eq_true rfl, Nat.le_of_ble_eq_true rfl⟩) hD hS hA (fun r_184 u_184 H locs hp hP hD hS => ?_)
            obtain ⟨er, eu⟩ := hp
            obtain rfl := er.symm
            obtain rfl := eu.symm
            refine lv_if_ne (tgt := 187) hx hb dL_areBlocksRight_180 (by decide) (fun _ => ?_) (fun c_180 => absurd c_180 (b2i_t hr))
            refine lv_iconst (v := 0) hx hb dL_areBlocksRight_187 (by decide) ?_
            refine lv_icmp_ne (tgt := 235) hx hb dL_areBlocksRight_188 (by decide) (fun c_188 => absurd (by decide) c_188) (fun _ => ?_)
            refine lv_iload hx hb dL_areBlocksRight_191 (lv_at hl 3 rfl) ?_
            refine lv_if_lt (tgt := 218) hx hb dL_areBlocksRight_193 (by decide) (fun c_193 => absurd c_193 hp0) (fun _ => ?_)
            refine lv_aload_n hx hb dL_areBlocksRight_196 rfl (lv_at hl 4 rfl) ?_
            refine lv_iload hx hb dL_areBlocksRight_197 (lv_at hl 3 rfl) ?_
            refine lv_iload hx hb dL_areBlocksRight_199 (lv_at hl 5 rfl) ?_
            refine kI (rV (q0 := 0) (ci := 7) hx hb hml hown hg hN hK hP hD (a_dominates l D cI cJ ad co fl ra li re wa pi (nearest ra (nI i_3)) (nI i_3) hZ.zf hZ.zr hp0 hp1 (l2_lt hZ hi_3).1 (l2_lt hZ hi_3).2) mw_629 mw_630 mw_631 mw_632 mw_77 pdv_X7_dominates ⟨Nat.le_of_ble_eq_true rfl, Nat.le_of_ble_eq_true rfl⟩ rfl xo0 rfl hl.1 rfl (Nat.le_of_ble_eq_true rfl) dL_areBlocksRight_201 ⟨Nat.le_of_ble_eq_true rfl, Nat.le_of_ble_eq_true rfl⟩) hD hS hA (fun r_185 u_185 H locs hp hP hD hS => ?_)
            obtain ⟨er, eu⟩ := hp
            obtain rfl := er.symm
            obtain rfl := eu.symm
            refine lv_if_eq (tgt := 235) hx hb dL_areBlocksRight_204 (by decide) (fun c_204 => absurd c_204 (b2i_t hd1)) (fun _ => ?_)
            refine lv_aload_n hx hb dL_areBlocksRight_207 rfl (lv_at hl 4 rfl) ?_
            refine lv_iload hx hb dL_areBlocksRight_208 (lv_at hl 5 rfl) ?_
            refine lv_iload hx hb dL_areBlocksRight_210 (lv_at hl 3 rfl) ?_
            refine kI (rV (q0 := 0) (ci := 7) hx hb hml hown hg hN hK hP hD (a_dominates l D cI cJ ad co fl ra li re wa pi (nI i_3) (nearest ra (nI i_3)) hZ.zf hZ.zr (l2_lt hZ hi_3).1 (l2_lt hZ hi_3).2 hp0 hp1) mw_629 mw_630 mw_631 mw_632 mw_77 pdv_X7_dominates ⟨Nat.le_of_ble_eq_true rfl, Nat.le_of_ble_eq_true rfl⟩ rfl xo0 rfl hl.1 rfl (Nat.le_of_ble_eq_true rfl) dL_areBlocksRight_212 ⟨Nat.le_of_ble_eq_true rfl, Nat.le_of_ble_eq_true rfl⟩) hD hS hA (fun r_186 u_186 H locs hp hP hD hS => ?_)
            obtain ⟨er, eu⟩ := hp
            obtain rfl := er.symm
            obtain rfl := eu.symm
            refine lv_if_ne (tgt := 235) hx hb dL_areBlocksRight_215 (by decide) (fun c_215 => absurd (b2i_f hd2) c_215) (fun _ => ?_)
            refine lv_aload_n hx hb dL_areBlocksRight_218 rfl (lv_at hl 4 rfl) ?_
            refine lv_iload hx hb dL_areBlocksRight_219 (lv_at hl 5 rfl) ?_
            refine lv_iload hx hb dL_areBlocksRight_221 (lv_at hl 5 rfl) ?_
            refine kI (rV (q0 := 0) (ci := 7) hx hb hml hown hg hN hK hP hD (a_dominates l D cI cJ ad co fl ra li re wa pi (nI i_3) (nI i_3) hZ.zf hZ.zr (l2_lt hZ hi_3).1 (l2_lt hZ hi_3).2 (l2_lt hZ hi_3).1 (l2_lt hZ hi_3).2) mw_629 mw_630 mw_631 mw_632 mw_77 pdv_X7_dominates ⟨Nat.le_of_ble_eq_true rfl, Nat.le_of_ble_eq_true rfl⟩ rfl xo0 rfl hl.1 rfl (Nat.le_of_ble_eq_true rfl) dL_areBlocksRight_223 ⟨Nat.le_of_ble_eq_true rfl, Nat.le_of_ble_eq_true rfl⟩) hD hS hA (fun r_187 u_187 H locs hp hP hD hS => ?_)
            obtain ⟨er, eu⟩ := hp
            obtain rfl := er.symm
            obtain rfl := eu.symm
            refine lv_aload_n hx hb dL_areBlocksRight_226 rfl (lv_at hl 4 rfl) ?_
            refine lv_iload hx hb dL_areBlocksRight_227 (lv_at hl 5 rfl) ?_
            refine kI (rV (q0 := 0) (ci := 7) hx hb hml hown hg hN hK hP hD (a_isReached l D cI cJ ad co fl ra li re wa pi (nI i_3) hZ.zf (l2_lt hZ hi_3).1 (l2_lt hZ hi_3).2) mw_621 mw_622 mw_623 mw_624 mw_77 pdv_X7_isReached ⟨Nat.le_of_ble_eq_true rfl, Nat.le_of_ble_eq_true rfl⟩ rfl xo0 rfl hl.1 rfl (Nat.le_of_ble_eq_true rfl) dL_areBlocksRight_229 ⟨Nat.le_of_ble_eq_true rfl, Nat.le_of_ble_eq_true rfl⟩) hD hS hA (fun r_188 u_188 H locs hp hP hD hS => ?_)
            obtain ⟨er, eu⟩ := hp
            obtain rfl := er.symm
            obtain rfl := eu.symm
            refine lv_icmp_eq (tgt := 237) hx hb dL_areBlocksRight_232 (by decide) (fun _ => ?_) (fun c_232 => absurd (b2t2 hdd hr) c_232)
            refine lv_aload_n hx hb dL_areBlocksRight_237 rfl (lv_at hl 4 rfl) ?_
            refine lv_iload hx hb dL_areBlocksRight_238 (lv_at hl 5 rfl) ?_
            refine kI (rV (q0 := 0) (ci := 7) hx hb hml hown hg hN hK hP hD (a_isReached l D cI cJ ad co fl ra li re wa pi (nI i_3) hZ.zf (l2_lt hZ hi_3).1 (l2_lt hZ hi_3).2) mw_621 mw_622 mw_623 mw_624 mw_77 pdv_X7_isReached ⟨Nat.le_of_ble_eq_true rfl, Nat.le_of_ble_eq_true rfl⟩ rfl xo0 rfl hl.1 rfl (Nat.le_of_ble_eq_true rfl) dL_areBlocksRight_240 ⟨Nat.le_of_ble_eq_true rfl, Nat.le_of_ble_eq_true rfl⟩) hD hS hA (fun r_189 u_189 H locs hp hP hD hS => ?_)
            obtain ⟨er, eu⟩ := hp
            obtain rfl := er.symm
            obtain rfl := eu.symm
            refine lv_if_ne (tgt := 296) hx hb dL_areBlocksRight_243 (by decide) (fun _ => ?_) (fun c_243 => absurd c_243 (b2i_t hr))
            refine lv_aload_n hx hb dL_areBlocksRight_296 rfl (lv_at hl 4 rfl) ?_
            refine lv_iload hx hb dL_areBlocksRight_297 (lv_at hl 5 rfl) ?_
            refine kI (rV (q0 := 0) (ci := 7) hx hb hml hown hg hN hK hP hD (a_isReached l D cI cJ ad co fl ra li re wa pi (nI i_3) hZ.zf (l2_lt hZ hi_3).1 (l2_lt hZ hi_3).2) mw_621 mw_622 mw_623 mw_624 mw_77 pdv_X7_isReached ⟨Nat.le_of_ble_eq_true rfl, Nat.le_of_ble_eq_true rfl⟩ rfl xo0 rfl hl.1 rfl (Nat.le_of_ble_eq_true rfl) dL_areBlocksRight_299 ⟨Nat.le_of_ble_eq_true rfl, Nat.le_of_ble_eq_true rfl⟩) hD hS hA (fun r_190 u_190 H locs hp hP hD hS => ?_)
            obtain ⟨er, eu⟩ := hp
            obtain rfl := er.symm
            obtain rfl := eu.symm
            refine lv_if_eq (tgt := 368) hx hb dL_areBlocksRight_302 (by decide) (fun c_302 => absurd c_302 (b2i_t hr)) (fun _ => ?_)
            refine lv_aload_n hx hb dL_areBlocksRight_305 rfl (lv_at hl 4 rfl) ?_
            refine lv_iload hx hb dL_areBlocksRight_306 (lv_at hl 5 rfl) ?_
            refine kI (rV (q0 := 0) (ci := 7) hx hb hml hown hg hN hK hP hD (a_endsIn l D cI cJ ad co fl ra li re wa pi (nI i_3) hZ.zf hZ.zd (l2_lt hZ hi_3).1 (l2_lt hZ hi_3).2) mw_641 mw_642 mw_643 mw_644 mw_77 pdv_X7_endsIn ⟨Nat.le_of_ble_eq_true rfl, Nat.le_of_ble_eq_true rfl⟩ rfl xo0 rfl hl.1 rfl (Nat.le_of_ble_eq_true rfl) dL_areBlocksRight_308 ⟨Nat.le_of_ble_eq_true rfl, Nat.le_of_ble_eq_true rfl⟩) hD hS hA (fun r_191 u_191 H locs hp hP hD hS => ?_)
            obtain ⟨er, eu⟩ := hp
            obtain rfl := er.symm
            obtain rfl := eu.symm
            refine lv_iload hx hb dL_areBlocksRight_311 (lv_at hl 5 rfl) ?_
            refine lv_icmp_gt (tgt := 366) hx hb dL_areBlocksRight_313 (by decide) (fun c_313 => absurd c_313 he2) (fun _ => ?_)
            refine lv_aload_n hx hb dL_areBlocksRight_316 rfl (lv_at hl 4 rfl) ?_
            refine lv_aload_n hx hb dL_areBlocksRight_317 rfl (lv_at hl 4 rfl) ?_
            refine lv_iload hx hb dL_areBlocksRight_318 (lv_at hl 5 rfl) ?_
            refine kI (rV (q0 := 0) (ci := 7) hx hb hml hown hg hN hK hP hD (a_endsIn l D cI cJ ad co fl ra li re wa pi (nI i_3) hZ.zf hZ.zd (l2_lt hZ hi_3).1 (l2_lt hZ hi_3).2) mw_641 mw_642 mw_643 mw_644 mw_77 pdv_X7_endsIn ⟨Nat.le_of_ble_eq_true rfl, Nat.le_of_ble_eq_true rfl⟩ rfl xo0 rfl hl.1 rfl (Nat.le_of_ble_eq_true rfl) dL_areBlocksRight_320 ⟨Nat.le_of_ble_eq_true rfl, Nat.le_of_ble_eq_true rfl⟩) hD hS hA (fun r_192 u_192 H locs hp hP hD hS => ?_)
            obtain ⟨er, eu⟩ := hp
            obtain rfl := er.symm
            obtain rfl := eu.symm
            refine kI (rV (q0 := 0) (ci := 7) hx hb hml hown hg hN hK hP hD (a_endsIn l D cI cJ ad co fl ra li re wa pi (rd (gA re 0) 40 (nI i_3)) hZ.zf hZ.zd he0 he1) mw_641 mw_642 mw_643 mw_644 mw_77 pdv_X7_endsIn ⟨Nat.le_of_ble_eq_true rfl, Nat.le_of_ble_eq_true rfl⟩ rfl xo0 rfl hl.1 rfl (Nat.le_of_ble_eq_true rfl) dL_areBlocksRight_323 ⟨Nat.le_of_ble_eq_true rfl, Nat.le_of_ble_eq_true rfl⟩) hD hS hA (fun r_193 u_193 H locs hp hP hD hS => ?_)
            obtain ⟨er, eu⟩ := hp
            obtain rfl := er.symm
            obtain rfl := eu.symm
            refine lv_aload_n hx hb dL_areBlocksRight_326 rfl (lv_at hl 4 rfl) ?_
            refine lv_iload hx hb dL_areBlocksRight_327 (lv_at hl 5 rfl) ?_
            refine kI (rV (q0 := 0) (ci := 7) hx hb hml hown hg hN hK hP hD (a_endsIn l D cI cJ ad co fl ra li re wa pi (nI i_3) hZ.zf hZ.zd (l2_lt hZ hi_3).1 (l2_lt hZ hi_3).2) mw_641 mw_642 mw_643 mw_644 mw_77 pdv_X7_endsIn ⟨Nat.le_of_ble_eq_true rfl, Nat.le_of_ble_eq_true rfl⟩ rfl xo0 rfl hl.1 rfl (Nat.le_of_ble_eq_true rfl) dL_areBlocksRight_329 ⟨Nat.le_of_ble_eq_true rfl, Nat.le_of_ble_eq_true rfl⟩) hD hS hA (fun r_194 u_194 H locs hp hP hD hS => ?_)
            obtain ⟨er, eu⟩ := hp
            obtain rfl := er.symm
            obtain rfl := eu.symm
            refine lv_icmp_ne (tgt := 366) hx hb dL_areBlocksRight_332 (by decide) (fun c_332 => absurd he3 c_332) (fun _ => ?_)
            refine lv_aload_n hx hb dL_areBlocksRight_335 rfl (lv_at hl 4 rfl) ?_
            refine lv_iload hx hb dL_areBlocksRight_336 (lv_at hl 5 rfl) ?_
            refine kI (rV (q0 := 0) (ci := 7) hx hb hml hown hg hN hK hP hD (a_depthOf l D cI cJ ad co fl ra li re wa pi (nI i_3) hZ.zf hZ.zr (l2_lt hZ hi_3).1 (l2_lt hZ hi_3).2) mw_653 mw_654 mw_655 mw_656 mw_77 pdv_X7_depthOf ⟨Nat.le_of_ble_eq_true rfl, Nat.le_of_ble_eq_true rfl⟩ rfl xo0 rfl hl.1 rfl (Nat.le_of_ble_eq_true rfl) dL_areBlocksRight_338 ⟨Nat.le_of_ble_eq_true rfl, Nat.le_of_ble_eq_true rfl⟩) hD hS hA (fun r_195 u_195 H locs hp hP hD hS => ?_)
            obtain ⟨er, eu⟩ := hp
            obtain rfl := er.symm
            obtain rfl := eu.symm
            refine lv_aload_n hx hb dL_areBlocksRight_341 rfl (lv_at hl 4 rfl) ?_
            refine kI (rV (q0 := 0) (ci := 7) hx hb hml hown hg hN hK hP hD (a_loops l D cI cJ ad co fl ra li re wa pi hZ.zr) mw_593 mw_594 mw_595 mw_596 mw_77 pdv_X7_loops ⟨Nat.le_of_ble_eq_true rfl, Nat.le_of_ble_eq_true rfl⟩ rfl xo0 rfl hl.1 rfl (Nat.le_of_ble_eq_true rfl) dL_areBlocksRight_342 ⟨Nat.le_of_ble_eq_true rfl, Nat.le_of_ble_eq_true rfl⟩) hD hS hA (fun r_196 u_196 H locs hp hP hD hS => ?_)
            obtain ⟨er, eu⟩ := hp
            obtain rfl := er.symm
            obtain rfl := eu.symm
            refine lv_icmp_gt (tgt := 366) hx hb dL_areBlocksRight_345 (by decide) (fun c_345 => absurd c_345 hdl) (fun _ => ?_)
            refine lv_aload_n hx hb dL_areBlocksRight_348 rfl (lv_at hl 4 rfl) ?_
            refine lv_iload hx hb dL_areBlocksRight_349 (lv_at hl 5 rfl) ?_
            refine kI (rV (q0 := 0) (ci := 7) hx hb hml hown hg hN hK hP hD (a_loopSize l D cI cJ ad co fl ra li re wa pi (nI i_3) hZ.zf hZ.zr (l2_lt hZ hi_3).1 (l2_lt hZ hi_3).2) mw_633 mw_634 mw_635 mw_636 mw_77 pdv_X7_loopSize ⟨Nat.le_of_ble_eq_true rfl, Nat.le_of_ble_eq_true rfl⟩ rfl xo0 rfl hl.1 rfl (Nat.le_of_ble_eq_true rfl) dL_areBlocksRight_351 ⟨Nat.le_of_ble_eq_true rfl, Nat.le_of_ble_eq_true rfl⟩) hD hS hA (fun r_197 u_197 H locs hp hP hD hS => ?_)
            obtain ⟨er, eu⟩ := hp
            obtain rfl := er.symm
            obtain rfl := eu.symm
            refine lv_if_le (tgt := 368) hx hb dL_areBlocksRight_354 (by decide) (fun _ => ?_) (fun c_354 => absurd (i_ge' c_130) c_354)
            refine lv_iinc (v := (nI (i_3 + 1))) (lv' := [(4, .int (nI (i_3 + 1))), (3, .int (p_3.2.2 + 1)), (2, .int (p_3.2.1 + 0)), (1, .int (p_3.1 + 1)), (5, .int (nearest ra (nI i_3))), (0, .ref (ad 0))]) hx hb dL_areBlocksRight_368 hl (k := 5) rfl (nI_1 i_3) (by decide) rfl (fun ls hl => ?_)
            refine lv_goto (tgt := 89) hx hb dL_areBlocksRight_371 (by decide) ?_
            exact ih_3 ((p_3.1 + 1), (p_3.2.1 + 0), (p_3.2.2 + 1)) H locs ls ⟨((show ((p_3.1 + 1), (p_3.2.1 + 0), (p_3.2.2 + 1)) = (abS fl ra re) i_3 p_3 from (by simp only [abS, hr, eq_false c_130, eq_true c_149, gi_sl, gi_sA, gi_sB, gi_si_s, gi_si_n, gl_si, gl_sA, gl_sB, gl_sl_s, gl_sl_n, gA_si, gA_sl, gA_sB, gA_sA_s, gA_sA_n, gB_si, gB_sl, gB_sA, gB_sB_s, gB_sB_n, Nat.reduceBEq, if_true, if_false, eq_self, Bool.false_eq_true, Bool.true_eq_false, not_true_eq_false, not_false_eq_true, decide_true, decide_false, cond_true, cond_false, Bool.true_and, Bool.false_and, Bool.and_true, Bool.and_false, Bool.true_or, Bool.false_or, Bool.or_true, Bool.or_false, b2i_tt, b2i_ff, pr_eta]; done)).trans (lp_go h_3)), hP, hD, hS, lv_sub hl [5, 3, 2, 1, 0] rfl⟩
        · have c_130 : 0 < (bc (rdL (gB ra 1) 40 (nI i_3))) := i_nge c_130
          refine lv_iconst (v := 1) hx hb dL_areBlocksRight_133 (by decide) ?_
          refine lv_goto (tgt := 138) hx hb dL_areBlocksRight_134 (by decide) ?_
          refine lv_iadd hx hb dL_areBlocksRight_138 ?_
          refine lv_istore_n (lv' := [(2, .int (p_3.2.1 + 1)), (1, .int (p_3.1 + 1)), (5, .int (nearest ra (nI i_3))), (0, .ref (ad 0)), (3, .int p_3.2.2), (4, .int (nI i_3))]) hx hb dL_areBlocksRight_139 rfl hl (by decide) rfl (fun ls hl => ?_)
          refine lv_iload_n hx hb dL_areBlocksRight_140 rfl (lv_at hl 4 rfl) ?_
          refine lv_aload_n hx hb dL_areBlocksRight_141 rfl (lv_at hl 3 rfl) ?_
          refine lv_iload hx hb dL_areBlocksRight_142 (lv_at hl 5 rfl) ?_
          refine kI (rV (q0 := 0) (ci := 7) hx hb hml hown hg hN hK hP hD (a_endsIn l D cI cJ ad co fl ra li re wa pi (nI i_3) hZ.zf hZ.zd (l2_lt hZ hi_3).1 (l2_lt hZ hi_3).2) mw_641 mw_642 mw_643 mw_644 mw_77 pdv_X7_endsIn ⟨Nat.le_of_ble_eq_true rfl, Nat.le_of_ble_eq_true rfl⟩ rfl xo0 rfl hl.1 rfl (Nat.le_of_ble_eq_true rfl) dL_areBlocksRight_144 ⟨Nat.le_of_ble_eq_true rfl, Nat.le_of_ble_eq_true rfl⟩) hD hS hA (fun r_198 u_198 H locs hp hP hD hS => ?_)
          obtain ⟨er, eu⟩ := hp
          obtain rfl := er.symm
          obtain rfl := eu.symm
          refine lv_iload hx hb dL_areBlocksRight_147 (lv_at hl 5 rfl) ?_
          refine lv_icmp_ne (tgt := 156) hx hb dL_areBlocksRight_149 (by decide) (fun c_149 => ?_) (fun c_149 => ?_)
          · refine lv_iconst (v := 0) hx hb dL_areBlocksRight_156 (by decide) ?_
            refine lv_iadd hx hb dL_areBlocksRight_157 ?_
            refine lv_istore_n (lv' := [(3, .int (p_3.2.2 + 0)), (2, .int (p_3.2.1 + 1)), (1, .int (p_3.1 + 1)), (5, .int (nearest ra (nI i_3))), (0, .ref (ad 0)), (4, .int (nI i_3))]) hx hb dL_areBlocksRight_158 rfl hl (by decide) rfl (fun ls hl => ?_)
            refine lv_iload hx hb dL_areBlocksRight_159 (lv_at hl 3 rfl) ?_
            refine lv_if_ge (tgt := 168) hx hb dL_areBlocksRight_161 (by decide) (fun _ => ?_) (fun c_161 => absurd (i_ge' hp0) c_161)
            refine lv_iconst (v := 0) hx hb dL_areBlocksRight_168 (by decide) ?_
            refine lv_iload hx hb dL_areBlocksRight_169 (lv_at hl 5 rfl) ?_
            refine lv_if_eq (tgt := 183) hx hb dL_areBlocksRight_171 (by decide) (fun c_171 => absurd c_171 hz) (fun _ => ?_)
            refine lv_aload_n hx hb dL_areBlocksRight_174 rfl (lv_at hl 4 rfl) ?_
            refine lv_iload hx hb dL_areBlocksRight_175 (lv_at hl 5 rfl) ?_
            refine kI (rV (q0 := 0) (ci := 7) hx hb hml hown hg hN hK hP hD (a_isReached l D cI cJ ad co fl ra li re wa pi (nI i_3) hZ.zf (l2_lt hZ hi_3).1 (l2_lt hZ hi_3).2) mw_621 mw_622 mw_623 mw_624 mw_77 pdv_X7_isReached ⟨Nat.le_of_ble_eq_true rfl, Nat.le_of_ble_eq_true rfl⟩ rfl xo0 rfl hl.1 rfl (Nat.le_of_ble_eq_true rfl) dL_areBlocksRight_177 ⟨Nat.le_of_ble_eq_true rfl, Nat.le_of_ble_eq_true rfl⟩) hD hS hA (fun r_199 u_199 H locs hp hP hD hS => ?_)
            obtain ⟨er, eu⟩ := hp
            obtain rfl := er.symm
            obtain rfl := eu.symm
            refine lv_if_ne (tgt := 187) hx hb dL_areBlocksRight_180 (by decide) (fun _ => ?_) (fun c_180 => absurd c_180 (b2i_t hr))
            refine lv_iconst (v := 0) hx hb dL_areBlocksRight_187 (by decide) ?_
            refine lv_icmp_ne (tgt := 235) hx hb dL_areBlocksRight_188 (by decide) (fun c_188 => absurd (by decide) c_188) (fun _ => ?_)
            refine lv_iload hx hb dL_areBlocksRight_191 (lv_at hl 3 rfl) ?_
            refine lv_if_lt (tgt := 218) hx hb dL_areBlocksRight_193 (by decide) (fun c_193 => absurd c_193 hp0) (fun _ => ?_)
            refine lv_aload_n hx hb dL_areBlocksRight_196 rfl (lv_at hl 4 rfl) ?_
            refine lv_iload hx hb dL_areBlocksRight_197 (lv_at hl 3 rfl) ?_
            refine lv_iload hx hb dL_areBlocksRight_199 (lv_at hl 5 rfl) ?_
            refine kI (rV (q0 := 0) (ci := 7) hx hb hml hown hg hN hK hP hD (a_dominates l D cI cJ ad co fl ra li re wa pi (nearest ra (nI i_3)) (nI i_3) hZ.zf hZ.zr hp0 hp1 (l2_lt hZ hi_3).1 (l2_lt hZ hi_3).2) mw_629 mw_630 mw_631 mw_632 mw_77 pdv_X7_dominates ⟨Nat.le_of_ble_eq_true rfl, Nat.le_of_ble_eq_true rfl⟩ rfl xo0 rfl hl.1 rfl (Nat.le_of_ble_eq_true rfl) dL_areBlocksRight_201 ⟨Nat.le_of_ble_eq_true rfl, Nat.le_of_ble_eq_true rfl⟩) hD hS hA (fun r_200 u_200 H locs hp hP hD hS => ?_)
            obtain ⟨er, eu⟩ := hp
            obtain rfl := er.symm
            obtain rfl := eu.symm
            refine lv_if_eq (tgt := 235) hx hb dL_areBlocksRight_204 (by decide) (fun c_204 => absurd c_204 (b2i_t hd1)) (fun _ => ?_)
            refine lv_aload_n hx hb dL_areBlocksRight_207 rfl (lv_at hl 4 rfl) ?_
            refine lv_iload hx hb dL_areBlocksRight_208 (lv_at hl 5 rfl) ?_
            refine lv_iload hx hb dL_areBlocksRight_210 (lv_at hl 3 rfl) ?_
            refine kI (rV (q0 := 0) (ci := 7) hx hb hml hown hg hN hK hP hD (a_dominates l D cI cJ ad co fl ra li re wa pi (nI i_3) (nearest ra (nI i_3)) hZ.zf hZ.zr (l2_lt hZ hi_3).1 (l2_lt hZ hi_3).2 hp0 hp1) mw_629 mw_630 mw_631 mw_632 mw_77 pdv_X7_dominates ⟨Nat.le_of_ble_eq_true rfl, Nat.le_of_ble_eq_true rfl⟩ rfl xo0 rfl hl.1 rfl (Nat.le_of_ble_eq_true rfl) dL_areBlocksRight_212 ⟨Nat.le_of_ble_eq_true rfl, Nat.le_of_ble_eq_true rfl⟩) hD hS hA (fun r_201 u_201 H locs hp hP hD hS => ?_)
            obtain ⟨er, eu⟩ := hp
            obtain rfl := er.symm
            obtain rfl := eu.symm
            refine lv_if_ne (tgt := 235) hx hb dL_areBlocksRight_215 (by decide) (fun c_215 => absurd (b2i_f hd2) c_215) (fun _ => ?_)
            refine lv_aload_n hx hb dL_areBlocksRight_218 rfl (lv_at hl 4 rfl) ?_
            refine lv_iload hx hb dL_areBlocksRight_219 (lv_at hl 5 rfl) ?_
            refine lv_iload hx hb dL_areBlocksRight_221 (lv_at hl 5 rfl) ?_
            refine kI (rV (q0 := 0) (ci := 7) hx hb hml hown hg hN hK hP hD (a_dominates l D cI cJ ad co fl ra li re wa pi (nI i_3) (nI i_3) hZ.zf hZ.zr (l2_lt hZ hi_3).1 (l2_lt hZ hi_3).2 (l2_lt hZ hi_3).1 (l2_lt hZ hi_3).2) mw_629 mw_630 mw_631 mw_632 mw_77 pdv_X7_dominates ⟨Nat.le_of_ble_eq_true rfl, Nat.le_of_ble_eq_true rfl⟩ rfl xo0 rfl hl.1 rfl (Nat.le_of_ble_eq_true rfl) dL_areBlocksRight_223 ⟨Nat.le_of_ble_eq_true rfl, Nat.le_of_ble_eq_true rfl⟩) hD hS hA (fun r_202 u_202 H locs hp hP hD hS => ?_)
            obtain ⟨er, eu⟩ := hp
            obtain rfl := er.symm
            obtain rfl := eu.symm
            refine lv_aload_n hx hb dL_areBlocksRight_226 rfl (lv_at hl 4 rfl) ?_
            refine lv_iload hx hb dL_areBlocksRight_227 (lv_at hl 5 rfl) ?_
            refine kI (rV (q0 := 0) (ci := 7) hx hb hml hown hg hN hK hP hD (a_isReached l D cI cJ ad co fl ra li re wa pi (nI i_3) hZ.zf (l2_lt hZ hi_3).1 (l2_lt hZ hi_3).2) mw_621 mw_622 mw_623 mw_624 mw_77 pdv_X7_isReached ⟨Nat.le_of_ble_eq_true rfl, Nat.le_of_ble_eq_true rfl⟩ rfl xo0 rfl hl.1 rfl (Nat.le_of_ble_eq_true rfl) dL_areBlocksRight_229 ⟨Nat.le_of_ble_eq_true rfl, Nat.le_of_ble_eq_true rfl⟩) hD hS hA (fun r_203 u_203 H locs hp hP hD hS => ?_)
            obtain ⟨er, eu⟩ := hp
            obtain rfl := er.symm
            obtain rfl := eu.symm
            refine lv_icmp_eq (tgt := 237) hx hb dL_areBlocksRight_232 (by decide) (fun _ => ?_) (fun c_232 => absurd (b2t2 hdd hr) c_232)
            refine lv_aload_n hx hb dL_areBlocksRight_237 rfl (lv_at hl 4 rfl) ?_
            refine lv_iload hx hb dL_areBlocksRight_238 (lv_at hl 5 rfl) ?_
            refine kI (rV (q0 := 0) (ci := 7) hx hb hml hown hg hN hK hP hD (a_isReached l D cI cJ ad co fl ra li re wa pi (nI i_3) hZ.zf (l2_lt hZ hi_3).1 (l2_lt hZ hi_3).2) mw_621 mw_622 mw_623 mw_624 mw_77 pdv_X7_isReached ⟨Nat.le_of_ble_eq_true rfl, Nat.le_of_ble_eq_true rfl⟩ rfl xo0 rfl hl.1 rfl (Nat.le_of_ble_eq_true rfl) dL_areBlocksRight_240 ⟨Nat.le_of_ble_eq_true rfl, Nat.le_of_ble_eq_true rfl⟩) hD hS hA (fun r_204 u_204 H locs hp hP hD hS => ?_)
            obtain ⟨er, eu⟩ := hp
            obtain rfl := er.symm
            obtain rfl := eu.symm
            refine lv_if_ne (tgt := 296) hx hb dL_areBlocksRight_243 (by decide) (fun _ => ?_) (fun c_243 => absurd c_243 (b2i_t hr))
            refine lv_aload_n hx hb dL_areBlocksRight_296 rfl (lv_at hl 4 rfl) ?_
            refine lv_iload hx hb dL_areBlocksRight_297 (lv_at hl 5 rfl) ?_
            refine kI (rV (q0 := 0) (ci := 7) hx hb hml hown hg hN hK hP hD (a_isReached l D cI cJ ad co fl ra li re wa pi (nI i_3) hZ.zf (l2_lt hZ hi_3).1 (l2_lt hZ hi_3).2) mw_621 mw_622 mw_623 mw_624 mw_77 pdv_X7_isReached ⟨Nat.le_of_ble_eq_true rfl, Nat.le_of_ble_eq_true rfl⟩ rfl xo0 rfl hl.1 rfl (Nat.le_of_ble_eq_true rfl) dL_areBlocksRight_299 ⟨Nat.le_of_ble_eq_true rfl, Nat.le_of_ble_eq_true rfl⟩) hD hS hA (fun r_205 u_205 H locs hp hP hD hS => ?_)
            obtain ⟨er, eu⟩ := hp
            obtain rfl := er.symm
            obtain rfl := eu.symm
            refine lv_if_eq (tgt := 368) hx hb dL_areBlocksRight_302 (by decide) (fun c_302 => absurd c_302 (b2i_t hr)) (fun _ => ?_)
            refine lv_aload_n hx hb dL_areBlocksRight_305 rfl (lv_at hl 4 rfl) ?_
            refine lv_iload hx hb dL_areBlocksRight_306 (lv_at hl 5 rfl) ?_
            refine kI (rV (q0 := 0) (ci := 7) hx hb hml hown hg hN hK hP hD (a_endsIn l D cI cJ ad co fl ra li re wa pi (nI i_3) hZ.zf hZ.zd (l2_lt hZ hi_3).1 (l2_lt hZ hi_3).2) mw_641 mw_642 mw_643 mw_644 mw_77 pdv_X7_endsIn ⟨Nat.le_of_ble_eq_true rfl, Nat.le_of_ble_eq_true rfl⟩ rfl xo0 rfl hl.1 rfl (Nat.le_of_ble_eq_true rfl) dL_areBlocksRight_308 ⟨Nat.le_of_ble_eq_true rfl, Nat.le_of_ble_eq_true rfl⟩) hD hS hA (fun r_206 u_206 H locs hp hP hD hS => ?_)
            obtain ⟨er, eu⟩ := hp
            obtain rfl := er.symm
            obtain rfl := eu.symm
            refine lv_iload hx hb dL_areBlocksRight_311 (lv_at hl 5 rfl) ?_
            refine lv_icmp_gt (tgt := 366) hx hb dL_areBlocksRight_313 (by decide) (fun c_313 => absurd c_313 he2) (fun _ => ?_)
            refine lv_aload_n hx hb dL_areBlocksRight_316 rfl (lv_at hl 4 rfl) ?_
            refine lv_aload_n hx hb dL_areBlocksRight_317 rfl (lv_at hl 4 rfl) ?_
            refine lv_iload hx hb dL_areBlocksRight_318 (lv_at hl 5 rfl) ?_
            refine kI (rV (q0 := 0) (ci := 7) hx hb hml hown hg hN hK hP hD (a_endsIn l D cI cJ ad co fl ra li re wa pi (nI i_3) hZ.zf hZ.zd (l2_lt hZ hi_3).1 (l2_lt hZ hi_3).2) mw_641 mw_642 mw_643 mw_644 mw_77 pdv_X7_endsIn ⟨Nat.le_of_ble_eq_true rfl, Nat.le_of_ble_eq_true rfl⟩ rfl xo0 rfl hl.1 rfl (Nat.le_of_ble_eq_true rfl) dL_areBlocksRight_320 ⟨Nat.le_of_ble_eq_true rfl, Nat.le_of_ble_eq_true rfl⟩) hD hS hA (fun r_207 u_207 H locs hp hP hD hS => ?_)
            obtain ⟨er, eu⟩ := hp
            obtain rfl := er.symm
            obtain rfl := eu.symm
            refine kI (rV (q0 := 0) (ci := 7) hx hb hml hown hg hN hK hP hD (a_endsIn l D cI cJ ad co fl ra li re wa pi (rd (gA re 0) 40 (nI i_3)) hZ.zf hZ.zd he0 he1) mw_641 mw_642 mw_643 mw_644 mw_77 pdv_X7_endsIn ⟨Nat.le_of_ble_eq_true rfl, Nat.le_of_ble_eq_true rfl⟩ rfl xo0 rfl hl.1 rfl (Nat.le_of_ble_eq_true rfl) dL_areBlocksRight_323 ⟨Nat.le_of_ble_eq_true rfl, Nat.le_of_ble_eq_true rfl⟩) hD hS hA (fun r_208 u_208 H locs hp hP hD hS => ?_)
            obtain ⟨er, eu⟩ := hp
            obtain rfl := er.symm
            obtain rfl := eu.symm
            refine lv_aload_n hx hb dL_areBlocksRight_326 rfl (lv_at hl 4 rfl) ?_
            refine lv_iload hx hb dL_areBlocksRight_327 (lv_at hl 5 rfl) ?_
            refine kI (rV (q0 := 0) (ci := 7) hx hb hml hown hg hN hK hP hD (a_endsIn l D cI cJ ad co fl ra li re wa pi (nI i_3) hZ.zf hZ.zd (l2_lt hZ hi_3).1 (l2_lt hZ hi_3).2) mw_641 mw_642 mw_643 mw_644 mw_77 pdv_X7_endsIn ⟨Nat.le_of_ble_eq_true rfl, Nat.le_of_ble_eq_true rfl⟩ rfl xo0 rfl hl.1 rfl (Nat.le_of_ble_eq_true rfl) dL_areBlocksRight_329 ⟨Nat.le_of_ble_eq_true rfl, Nat.le_of_ble_eq_true rfl⟩) hD hS hA (fun r_209 u_209 H locs hp hP hD hS => ?_)
            obtain ⟨er, eu⟩ := hp
            obtain rfl := er.symm
            obtain rfl := eu.symm
            refine lv_icmp_ne (tgt := 366) hx hb dL_areBlocksRight_332 (by decide) (fun c_332 => absurd he3 c_332) (fun _ => ?_)
            refine lv_aload_n hx hb dL_areBlocksRight_335 rfl (lv_at hl 4 rfl) ?_
            refine lv_iload hx hb dL_areBlocksRight_336 (lv_at hl 5 rfl) ?_
            refine kI (rV (q0 := 0) (ci := 7) hx hb hml hown hg hN hK hP hD (a_depthOf l D cI cJ ad co fl ra li re wa pi (nI i_3) hZ.zf hZ.zr (l2_lt hZ hi_3).1 (l2_lt hZ hi_3).2) mw_653 mw_654 mw_655 mw_656 mw_77 pdv_X7_depthOf ⟨Nat.le_of_ble_eq_true rfl, Nat.le_of_ble_eq_true rfl⟩ rfl xo0 rfl hl.1 rfl (Nat.le_of_ble_eq_true rfl) dL_areBlocksRight_338 ⟨Nat.le_of_ble_eq_true rfl, Nat.le_of_ble_eq_true rfl⟩) hD hS hA (fun r_210 u_210 H locs hp hP hD hS => ?_)
            obtain ⟨er, eu⟩ := hp
            obtain rfl := er.symm
            obtain rfl := eu.symm
            refine lv_aload_n hx hb dL_areBlocksRight_341 rfl (lv_at hl 4 rfl) ?_
            refine kI (rV (q0 := 0) (ci := 7) hx hb hml hown hg hN hK hP hD (a_loops l D cI cJ ad co fl ra li re wa pi hZ.zr) mw_593 mw_594 mw_595 mw_596 mw_77 pdv_X7_loops ⟨Nat.le_of_ble_eq_true rfl, Nat.le_of_ble_eq_true rfl⟩ rfl xo0 rfl hl.1 rfl (Nat.le_of_ble_eq_true rfl) dL_areBlocksRight_342 ⟨Nat.le_of_ble_eq_true rfl, Nat.le_of_ble_eq_true rfl⟩) hD hS hA (fun r_211 u_211 H locs hp hP hD hS => ?_)
            obtain ⟨er, eu⟩ := hp
            obtain rfl := er.symm
            obtain rfl := eu.symm
            refine lv_icmp_gt (tgt := 366) hx hb dL_areBlocksRight_345 (by decide) (fun c_345 => absurd c_345 hdl) (fun _ => ?_)
            refine lv_aload_n hx hb dL_areBlocksRight_348 rfl (lv_at hl 4 rfl) ?_
            refine lv_iload hx hb dL_areBlocksRight_349 (lv_at hl 5 rfl) ?_
            refine kI (rV (q0 := 0) (ci := 7) hx hb hml hown hg hN hK hP hD (a_loopSize l D cI cJ ad co fl ra li re wa pi (nI i_3) hZ.zf hZ.zr (l2_lt hZ hi_3).1 (l2_lt hZ hi_3).2) mw_633 mw_634 mw_635 mw_636 mw_77 pdv_X7_loopSize ⟨Nat.le_of_ble_eq_true rfl, Nat.le_of_ble_eq_true rfl⟩ rfl xo0 rfl hl.1 rfl (Nat.le_of_ble_eq_true rfl) dL_areBlocksRight_351 ⟨Nat.le_of_ble_eq_true rfl, Nat.le_of_ble_eq_true rfl⟩) hD hS hA (fun r_212 u_212 H locs hp hP hD hS => ?_)
            obtain ⟨er, eu⟩ := hp
            obtain rfl := er.symm
            obtain rfl := eu.symm
            refine lv_if_le (tgt := 368) hx hb dL_areBlocksRight_354 (by decide) (fun c_354 => absurd c_354 (i_lt_nle c_130)) (fun _ => ?_)
            refine lv_aload_n hx hb dL_areBlocksRight_357 rfl (lv_at hl 4 rfl) ?_
            refine lv_iload hx hb dL_areBlocksRight_358 (lv_at hl 5 rfl) ?_
            refine kI (rV (q0 := 0) (ci := 7) hx hb hml hown hg hN hK hP hD (a_depthOf l D cI cJ ad co fl ra li re wa pi (nI i_3) hZ.zf hZ.zr (l2_lt hZ hi_3).1 (l2_lt hZ hi_3).2) mw_653 mw_654 mw_655 mw_656 mw_77 pdv_X7_depthOf ⟨Nat.le_of_ble_eq_true rfl, Nat.le_of_ble_eq_true rfl⟩ rfl xo0 rfl hl.1 rfl (Nat.le_of_ble_eq_true rfl) dL_areBlocksRight_360 ⟨Nat.le_of_ble_eq_true rfl, Nat.le_of_ble_eq_true rfl⟩) hD hS hA (fun r_213 u_213 H locs hp hP hD hS => ?_)
            obtain ⟨er, eu⟩ := hp
            obtain rfl := er.symm
            obtain rfl := eu.symm
            refine lv_if_ne (tgt := 368) hx hb dL_areBlocksRight_363 (by decide) (fun _ => ?_) (fun c_363 => absurd c_363 (hdz c_130))
            refine lv_iinc (v := (nI (i_3 + 1))) (lv' := [(4, .int (nI (i_3 + 1))), (3, .int (p_3.2.2 + 0)), (2, .int (p_3.2.1 + 1)), (1, .int (p_3.1 + 1)), (5, .int (nearest ra (nI i_3))), (0, .ref (ad 0))]) hx hb dL_areBlocksRight_368 hl (k := 5) rfl (nI_1 i_3) (by decide) rfl (fun ls hl => ?_)
            refine lv_goto (tgt := 89) hx hb dL_areBlocksRight_371 (by decide) ?_
            exact ih_3 ((p_3.1 + 1), (p_3.2.1 + 1), (p_3.2.2 + 0)) H locs ls ⟨((show ((p_3.1 + 1), (p_3.2.1 + 1), (p_3.2.2 + 0)) = (abS fl ra re) i_3 p_3 from (by simp only [abS, hr, eq_true c_130, eq_false c_149, gi_sl, gi_sA, gi_sB, gi_si_s, gi_si_n, gl_si, gl_sA, gl_sB, gl_sl_s, gl_sl_n, gA_si, gA_sl, gA_sB, gA_sA_s, gA_sA_n, gB_si, gB_sl, gB_sA, gB_sB_s, gB_sB_n, Nat.reduceBEq, if_true, if_false, eq_self, Bool.false_eq_true, Bool.true_eq_false, not_true_eq_false, not_false_eq_true, decide_true, decide_false, cond_true, cond_false, Bool.true_and, Bool.false_and, Bool.and_true, Bool.and_false, Bool.true_or, Bool.false_or, Bool.or_true, Bool.or_false, b2i_tt, b2i_ff, pr_eta]; done)).trans (lp_go h_3)), hP, hD, hS, lv_sub hl [5, 3, 2, 1, 0] rfl⟩
          · refine lv_iconst (v := 1) hx hb dL_areBlocksRight_152 (by decide) ?_
            refine lv_goto (tgt := 157) hx hb dL_areBlocksRight_153 (by decide) ?_
            refine lv_iadd hx hb dL_areBlocksRight_157 ?_
            refine lv_istore_n (lv' := [(3, .int (p_3.2.2 + 1)), (2, .int (p_3.2.1 + 1)), (1, .int (p_3.1 + 1)), (5, .int (nearest ra (nI i_3))), (0, .ref (ad 0)), (4, .int (nI i_3))]) hx hb dL_areBlocksRight_158 rfl hl (by decide) rfl (fun ls hl => ?_)
            refine lv_iload hx hb dL_areBlocksRight_159 (lv_at hl 3 rfl) ?_
            refine lv_if_ge (tgt := 168) hx hb dL_areBlocksRight_161 (by decide) (fun _ => ?_) (fun c_161 => absurd (i_ge' hp0) c_161)
            refine lv_iconst (v := 0) hx hb dL_areBlocksRight_168 (by decide) ?_
            refine lv_iload hx hb dL_areBlocksRight_169 (lv_at hl 5 rfl) ?_
            refine lv_if_eq (tgt := 183) hx hb dL_areBlocksRight_171 (by decide) (fun c_171 => absurd c_171 hz) (fun _ => ?_)
            refine lv_aload_n hx hb dL_areBlocksRight_174 rfl (lv_at hl 4 rfl) ?_
            refine lv_iload hx hb dL_areBlocksRight_175 (lv_at hl 5 rfl) ?_
            refine kI (rV (q0 := 0) (ci := 7) hx hb hml hown hg hN hK hP hD (a_isReached l D cI cJ ad co fl ra li re wa pi (nI i_3) hZ.zf (l2_lt hZ hi_3).1 (l2_lt hZ hi_3).2) mw_621 mw_622 mw_623 mw_624 mw_77 pdv_X7_isReached ⟨Nat.le_of_ble_eq_true rfl, Nat.le_of_ble_eq_true rfl⟩ rfl xo0 rfl hl.1 rfl (Nat.le_of_ble_eq_true rfl) dL_areBlocksRight_177 ⟨Nat.le_of_ble_eq_true rfl, Nat.le_of_ble_eq_true rfl⟩) hD hS hA (fun r_214 u_214 H locs hp hP hD hS => ?_)
            obtain ⟨er, eu⟩ := hp
            obtain rfl := er.symm
            obtain rfl := eu.symm
            refine lv_if_ne (tgt := 187) hx hb dL_areBlocksRight_180 (by decide) (fun _ => ?_) (fun c_180 => absurd c_180 (b2i_t hr))
            refine lv_iconst (v := 0) hx hb dL_areBlocksRight_187 (by decide) ?_
            refine lv_icmp_ne (tgt := 235) hx hb dL_areBlocksRight_188 (by decide) (fun c_188 => absurd (by decide) c_188) (fun _ => ?_)
            refine lv_iload hx hb dL_areBlocksRight_191 (lv_at hl 3 rfl) ?_
            refine lv_if_lt (tgt := 218) hx hb dL_areBlocksRight_193 (by decide) (fun c_193 => absurd c_193 hp0) (fun _ => ?_)
            refine lv_aload_n hx hb dL_areBlocksRight_196 rfl (lv_at hl 4 rfl) ?_
            refine lv_iload hx hb dL_areBlocksRight_197 (lv_at hl 3 rfl) ?_
            refine lv_iload hx hb dL_areBlocksRight_199 (lv_at hl 5 rfl) ?_
            refine kI (rV (q0 := 0) (ci := 7) hx hb hml hown hg hN hK hP hD (a_dominates l D cI cJ ad co fl ra li re wa pi (nearest ra (nI i_3)) (nI i_3) hZ.zf hZ.zr hp0 hp1 (l2_lt hZ hi_3).1 (l2_lt hZ hi_3).2) mw_629 mw_630 mw_631 mw_632 mw_77 pdv_X7_dominates ⟨Nat.le_of_ble_eq_true rfl, Nat.le_of_ble_eq_true rfl⟩ rfl xo0 rfl hl.1 rfl (Nat.le_of_ble_eq_true rfl) dL_areBlocksRight_201 ⟨Nat.le_of_ble_eq_true rfl, Nat.le_of_ble_eq_true rfl⟩) hD hS hA (fun r_215 u_215 H locs hp hP hD hS => ?_)
            obtain ⟨er, eu⟩ := hp
            obtain rfl := er.symm
            obtain rfl := eu.symm
            refine lv_if_eq (tgt := 235) hx hb dL_areBlocksRight_204 (by decide) (fun c_204 => absurd c_204 (b2i_t hd1)) (fun _ => ?_)
            refine lv_aload_n hx hb dL_areBlocksRight_207 rfl (lv_at hl 4 rfl) ?_
            refine lv_iload hx hb dL_areBlocksRight_208 (lv_at hl 5 rfl) ?_
            refine lv_iload hx hb dL_areBlocksRight_210 (lv_at hl 3 rfl) ?_
            refine kI (rV (q0 := 0) (ci := 7) hx hb hml hown hg hN hK hP hD (a_dominates l D cI cJ ad co fl ra li re wa pi (nI i_3) (nearest ra (nI i_3)) hZ.zf hZ.zr (l2_lt hZ hi_3).1 (l2_lt hZ hi_3).2 hp0 hp1) mw_629 mw_630 mw_631 mw_632 mw_77 pdv_X7_dominates ⟨Nat.le_of_ble_eq_true rfl, Nat.le_of_ble_eq_true rfl⟩ rfl xo0 rfl hl.1 rfl (Nat.le_of_ble_eq_true rfl) dL_areBlocksRight_212 ⟨Nat.le_of_ble_eq_true rfl, Nat.le_of_ble_eq_true rfl⟩) hD hS hA (fun r_216 u_216 H locs hp hP hD hS => ?_)
            obtain ⟨er, eu⟩ := hp
            obtain rfl := er.symm
            obtain rfl := eu.symm
            refine lv_if_ne (tgt := 235) hx hb dL_areBlocksRight_215 (by decide) (fun c_215 => absurd (b2i_f hd2) c_215) (fun _ => ?_)
            refine lv_aload_n hx hb dL_areBlocksRight_218 rfl (lv_at hl 4 rfl) ?_
            refine lv_iload hx hb dL_areBlocksRight_219 (lv_at hl 5 rfl) ?_
            refine lv_iload hx hb dL_areBlocksRight_221 (lv_at hl 5 rfl) ?_
            refine kI (rV (q0 := 0) (ci := 7) hx hb hml hown hg hN hK hP hD (a_dominates l D cI cJ ad co fl ra li re wa pi (nI i_3) (nI i_3) hZ.zf hZ.zr (l2_lt hZ hi_3).1 (l2_lt hZ hi_3).2 (l2_lt hZ hi_3).1 (l2_lt hZ hi_3).2) mw_629 mw_630 mw_631 mw_632 mw_77 pdv_X7_dominates ⟨Nat.le_of_ble_eq_true rfl, Nat.le_of_ble_eq_true rfl⟩ rfl xo0 rfl hl.1 rfl (Nat.le_of_ble_eq_true rfl) dL_areBlocksRight_223 ⟨Nat.le_of_ble_eq_true rfl, Nat.le_of_ble_eq_true rfl⟩) hD hS hA (fun r_217 u_217 H locs hp hP hD hS => ?_)
            obtain ⟨er, eu⟩ := hp
            obtain rfl := er.symm
            obtain rfl := eu.symm
            refine lv_aload_n hx hb dL_areBlocksRight_226 rfl (lv_at hl 4 rfl) ?_
            refine lv_iload hx hb dL_areBlocksRight_227 (lv_at hl 5 rfl) ?_
            refine kI (rV (q0 := 0) (ci := 7) hx hb hml hown hg hN hK hP hD (a_isReached l D cI cJ ad co fl ra li re wa pi (nI i_3) hZ.zf (l2_lt hZ hi_3).1 (l2_lt hZ hi_3).2) mw_621 mw_622 mw_623 mw_624 mw_77 pdv_X7_isReached ⟨Nat.le_of_ble_eq_true rfl, Nat.le_of_ble_eq_true rfl⟩ rfl xo0 rfl hl.1 rfl (Nat.le_of_ble_eq_true rfl) dL_areBlocksRight_229 ⟨Nat.le_of_ble_eq_true rfl, Nat.le_of_ble_eq_true rfl⟩) hD hS hA (fun r_218 u_218 H locs hp hP hD hS => ?_)
            obtain ⟨er, eu⟩ := hp
            obtain rfl := er.symm
            obtain rfl := eu.symm
            refine lv_icmp_eq (tgt := 237) hx hb dL_areBlocksRight_232 (by decide) (fun _ => ?_) (fun c_232 => absurd (b2t2 hdd hr) c_232)
            refine lv_aload_n hx hb dL_areBlocksRight_237 rfl (lv_at hl 4 rfl) ?_
            refine lv_iload hx hb dL_areBlocksRight_238 (lv_at hl 5 rfl) ?_
            refine kI (rV (q0 := 0) (ci := 7) hx hb hml hown hg hN hK hP hD (a_isReached l D cI cJ ad co fl ra li re wa pi (nI i_3) hZ.zf (l2_lt hZ hi_3).1 (l2_lt hZ hi_3).2) mw_621 mw_622 mw_623 mw_624 mw_77 pdv_X7_isReached ⟨Nat.le_of_ble_eq_true rfl, Nat.le_of_ble_eq_true rfl⟩ rfl xo0 rfl hl.1 rfl (Nat.le_of_ble_eq_true rfl) dL_areBlocksRight_240 ⟨Nat.le_of_ble_eq_true rfl, Nat.le_of_ble_eq_true rfl⟩) hD hS hA (fun r_219 u_219 H locs hp hP hD hS => ?_)
            obtain ⟨er, eu⟩ := hp
            obtain rfl := er.symm
            obtain rfl := eu.symm
            refine lv_if_ne (tgt := 296) hx hb dL_areBlocksRight_243 (by decide) (fun _ => ?_) (fun c_243 => absurd c_243 (b2i_t hr))
            refine lv_aload_n hx hb dL_areBlocksRight_296 rfl (lv_at hl 4 rfl) ?_
            refine lv_iload hx hb dL_areBlocksRight_297 (lv_at hl 5 rfl) ?_
            refine kI (rV (q0 := 0) (ci := 7) hx hb hml hown hg hN hK hP hD (a_isReached l D cI cJ ad co fl ra li re wa pi (nI i_3) hZ.zf (l2_lt hZ hi_3).1 (l2_lt hZ hi_3).2) mw_621 mw_622 mw_623 mw_624 mw_77 pdv_X7_isReached ⟨Nat.le_of_ble_eq_true rfl, Nat.le_of_ble_eq_true rfl⟩ rfl xo0 rfl hl.1 rfl (Nat.le_of_ble_eq_true rfl) dL_areBlocksRight_299 ⟨Nat.le_of_ble_eq_true rfl, Nat.le_of_ble_eq_true rfl⟩) hD hS hA (fun r_220 u_220 H locs hp hP hD hS => ?_)
            obtain ⟨er, eu⟩ := hp
            obtain rfl := er.symm
            obtain rfl := eu.symm
            refine lv_if_eq (tgt := 368) hx hb dL_areBlocksRight_302 (by decide) (fun c_302 => absurd c_302 (b2i_t hr)) (fun _ => ?_)
            refine lv_aload_n hx hb dL_areBlocksRight_305 rfl (lv_at hl 4 rfl) ?_
            refine lv_iload hx hb dL_areBlocksRight_306 (lv_at hl 5 rfl) ?_
            refine kI (rV (q0 := 0) (ci := 7) hx hb hml hown hg hN hK hP hD (a_endsIn l D cI cJ ad co fl ra li re wa pi (nI i_3) hZ.zf hZ.zd (l2_lt hZ hi_3).1 (l2_lt hZ hi_3).2) mw_641 mw_642 mw_643 mw_644 mw_77 pdv_X7_endsIn ⟨Nat.le_of_ble_eq_true rfl, Nat.le_of_ble_eq_true rfl⟩ rfl xo0 rfl hl.1 rfl (Nat.le_of_ble_eq_true rfl) dL_areBlocksRight_308 ⟨Nat.le_of_ble_eq_true rfl, Nat.le_of_ble_eq_true rfl⟩) hD hS hA (fun r_221 u_221 H locs hp hP hD hS => ?_)
            obtain ⟨er, eu⟩ := hp
            obtain rfl := er.symm
            obtain rfl := eu.symm
            refine lv_iload hx hb dL_areBlocksRight_311 (lv_at hl 5 rfl) ?_
            refine lv_icmp_gt (tgt := 366) hx hb dL_areBlocksRight_313 (by decide) (fun c_313 => absurd c_313 he2) (fun _ => ?_)
            refine lv_aload_n hx hb dL_areBlocksRight_316 rfl (lv_at hl 4 rfl) ?_
            refine lv_aload_n hx hb dL_areBlocksRight_317 rfl (lv_at hl 4 rfl) ?_
            refine lv_iload hx hb dL_areBlocksRight_318 (lv_at hl 5 rfl) ?_
            refine kI (rV (q0 := 0) (ci := 7) hx hb hml hown hg hN hK hP hD (a_endsIn l D cI cJ ad co fl ra li re wa pi (nI i_3) hZ.zf hZ.zd (l2_lt hZ hi_3).1 (l2_lt hZ hi_3).2) mw_641 mw_642 mw_643 mw_644 mw_77 pdv_X7_endsIn ⟨Nat.le_of_ble_eq_true rfl, Nat.le_of_ble_eq_true rfl⟩ rfl xo0 rfl hl.1 rfl (Nat.le_of_ble_eq_true rfl) dL_areBlocksRight_320 ⟨Nat.le_of_ble_eq_true rfl, Nat.le_of_ble_eq_true rfl⟩) hD hS hA (fun r_222 u_222 H locs hp hP hD hS => ?_)
            obtain ⟨er, eu⟩ := hp
            obtain rfl := er.symm
            obtain rfl := eu.symm
            refine kI (rV (q0 := 0) (ci := 7) hx hb hml hown hg hN hK hP hD (a_endsIn l D cI cJ ad co fl ra li re wa pi (rd (gA re 0) 40 (nI i_3)) hZ.zf hZ.zd he0 he1) mw_641 mw_642 mw_643 mw_644 mw_77 pdv_X7_endsIn ⟨Nat.le_of_ble_eq_true rfl, Nat.le_of_ble_eq_true rfl⟩ rfl xo0 rfl hl.1 rfl (Nat.le_of_ble_eq_true rfl) dL_areBlocksRight_323 ⟨Nat.le_of_ble_eq_true rfl, Nat.le_of_ble_eq_true rfl⟩) hD hS hA (fun r_223 u_223 H locs hp hP hD hS => ?_)
            obtain ⟨er, eu⟩ := hp
            obtain rfl := er.symm
            obtain rfl := eu.symm
            refine lv_aload_n hx hb dL_areBlocksRight_326 rfl (lv_at hl 4 rfl) ?_
            refine lv_iload hx hb dL_areBlocksRight_327 (lv_at hl 5 rfl) ?_
            refine kI (rV (q0 := 0) (ci := 7) hx hb hml hown hg hN hK hP hD (a_endsIn l D cI cJ ad co fl ra li re wa pi (nI i_3) hZ.zf hZ.zd (l2_lt hZ hi_3).1 (l2_lt hZ hi_3).2) mw_641 mw_642 mw_643 mw_644 mw_77 pdv_X7_endsIn ⟨Nat.le_of_ble_eq_true rfl, Nat.le_of_ble_eq_true rfl⟩ rfl xo0 rfl hl.1 rfl (Nat.le_of_ble_eq_true rfl) dL_areBlocksRight_329 ⟨Nat.le_of_ble_eq_true rfl, Nat.le_of_ble_eq_true rfl⟩) hD hS hA (fun r_224 u_224 H locs hp hP hD hS => ?_)
            obtain ⟨er, eu⟩ := hp
            obtain rfl := er.symm
            obtain rfl := eu.symm
            refine lv_icmp_ne (tgt := 366) hx hb dL_areBlocksRight_332 (by decide) (fun c_332 => absurd he3 c_332) (fun _ => ?_)
            refine lv_aload_n hx hb dL_areBlocksRight_335 rfl (lv_at hl 4 rfl) ?_
            refine lv_iload hx hb dL_areBlocksRight_336 (lv_at hl 5 rfl) ?_
            refine kI (rV (q0 := 0) (ci := 7) hx hb hml hown hg hN hK hP hD (a_depthOf l D cI cJ ad co fl ra li re wa pi (nI i_3) hZ.zf hZ.zr (l2_lt hZ hi_3).1 (l2_lt hZ hi_3).2) mw_653 mw_654 mw_655 mw_656 mw_77 pdv_X7_depthOf ⟨Nat.le_of_ble_eq_true rfl, Nat.le_of_ble_eq_true rfl⟩ rfl xo0 rfl hl.1 rfl (Nat.le_of_ble_eq_true rfl) dL_areBlocksRight_338 ⟨Nat.le_of_ble_eq_true rfl, Nat.le_of_ble_eq_true rfl⟩) hD hS hA (fun r_225 u_225 H locs hp hP hD hS => ?_)
            obtain ⟨er, eu⟩ := hp
            obtain rfl := er.symm
            obtain rfl := eu.symm
            refine lv_aload_n hx hb dL_areBlocksRight_341 rfl (lv_at hl 4 rfl) ?_
            refine kI (rV (q0 := 0) (ci := 7) hx hb hml hown hg hN hK hP hD (a_loops l D cI cJ ad co fl ra li re wa pi hZ.zr) mw_593 mw_594 mw_595 mw_596 mw_77 pdv_X7_loops ⟨Nat.le_of_ble_eq_true rfl, Nat.le_of_ble_eq_true rfl⟩ rfl xo0 rfl hl.1 rfl (Nat.le_of_ble_eq_true rfl) dL_areBlocksRight_342 ⟨Nat.le_of_ble_eq_true rfl, Nat.le_of_ble_eq_true rfl⟩) hD hS hA (fun r_226 u_226 H locs hp hP hD hS => ?_)
            obtain ⟨er, eu⟩ := hp
            obtain rfl := er.symm
            obtain rfl := eu.symm
            refine lv_icmp_gt (tgt := 366) hx hb dL_areBlocksRight_345 (by decide) (fun c_345 => absurd c_345 hdl) (fun _ => ?_)
            refine lv_aload_n hx hb dL_areBlocksRight_348 rfl (lv_at hl 4 rfl) ?_
            refine lv_iload hx hb dL_areBlocksRight_349 (lv_at hl 5 rfl) ?_
            refine kI (rV (q0 := 0) (ci := 7) hx hb hml hown hg hN hK hP hD (a_loopSize l D cI cJ ad co fl ra li re wa pi (nI i_3) hZ.zf hZ.zr (l2_lt hZ hi_3).1 (l2_lt hZ hi_3).2) mw_633 mw_634 mw_635 mw_636 mw_77 pdv_X7_loopSize ⟨Nat.le_of_ble_eq_true rfl, Nat.le_of_ble_eq_true rfl⟩ rfl xo0 rfl hl.1 rfl (Nat.le_of_ble_eq_true rfl) dL_areBlocksRight_351 ⟨Nat.le_of_ble_eq_true rfl, Nat.le_of_ble_eq_true rfl⟩) hD hS hA (fun r_227 u_227 H locs hp hP hD hS => ?_)
            obtain ⟨er, eu⟩ := hp
            obtain rfl := er.symm
            obtain rfl := eu.symm
            refine lv_if_le (tgt := 368) hx hb dL_areBlocksRight_354 (by decide) (fun c_354 => absurd c_354 (i_lt_nle c_130)) (fun _ => ?_)
            refine lv_aload_n hx hb dL_areBlocksRight_357 rfl (lv_at hl 4 rfl) ?_
            refine lv_iload hx hb dL_areBlocksRight_358 (lv_at hl 5 rfl) ?_
            refine kI (rV (q0 := 0) (ci := 7) hx hb hml hown hg hN hK hP hD (a_depthOf l D cI cJ ad co fl ra li re wa pi (nI i_3) hZ.zf hZ.zr (l2_lt hZ hi_3).1 (l2_lt hZ hi_3).2) mw_653 mw_654 mw_655 mw_656 mw_77 pdv_X7_depthOf ⟨Nat.le_of_ble_eq_true rfl, Nat.le_of_ble_eq_true rfl⟩ rfl xo0 rfl hl.1 rfl (Nat.le_of_ble_eq_true rfl) dL_areBlocksRight_360 ⟨Nat.le_of_ble_eq_true rfl, Nat.le_of_ble_eq_true rfl⟩) hD hS hA (fun r_228 u_228 H locs hp hP hD hS => ?_)
            obtain ⟨er, eu⟩ := hp
            obtain rfl := er.symm
            obtain rfl := eu.symm
            refine lv_if_ne (tgt := 368) hx hb dL_areBlocksRight_363 (by decide) (fun _ => ?_) (fun c_363 => absurd c_363 (hdz c_130))
            refine lv_iinc (v := (nI (i_3 + 1))) (lv' := [(4, .int (nI (i_3 + 1))), (3, .int (p_3.2.2 + 1)), (2, .int (p_3.2.1 + 1)), (1, .int (p_3.1 + 1)), (5, .int (nearest ra (nI i_3))), (0, .ref (ad 0))]) hx hb dL_areBlocksRight_368 hl (k := 5) rfl (nI_1 i_3) (by decide) rfl (fun ls hl => ?_)
            refine lv_goto (tgt := 89) hx hb dL_areBlocksRight_371 (by decide) ?_
            exact ih_3 ((p_3.1 + 1), (p_3.2.1 + 1), (p_3.2.2 + 1)) H locs ls ⟨((show ((p_3.1 + 1), (p_3.2.1 + 1), (p_3.2.2 + 1)) = (abS fl ra re) i_3 p_3 from (by simp only [abS, hr, eq_true c_130, eq_true c_149, gi_sl, gi_sA, gi_sB, gi_si_s, gi_si_n, gl_si, gl_sA, gl_sB, gl_sl_s, gl_sl_n, gA_si, gA_sl, gA_sB, gA_sA_s, gA_sA_n, gB_si, gB_sl, gB_sA, gB_sB_s, gB_sB_n, Nat.reduceBEq, if_true, if_false, eq_self, Bool.false_eq_true, Bool.true_eq_false, not_true_eq_false, not_false_eq_true, decide_true, decide_false, cond_true, cond_false, Bool.true_and, Bool.false_and, Bool.and_true, Bool.and_false, Bool.true_or, Bool.false_or, Bool.or_true, Bool.or_false, b2i_tt, b2i_ff, pr_eta]; done)).trans (lp_go h_3)), hP, hD, hS, lv_sub hl [5, 3, 2, 1, 0] rfl⟩
  · obtain ⟨h_1, hP, hD, hS, hl⟩ := hI
    have hP : va_P D vwCl (XW ad cI cJ co fl ra li re wa pi) H := hP
    have hD : va_D A (XW ad cI cJ co fl ra li re wa pi) := hD
    have hl : lv_has ls 8 [(0, .ref (ad 0)), (1, .int 0), (2, .int 0), (3, .int 0), (4, .int (nI i_1))] := hl
    refine lv_iload hx hb dL_areBlocksRight_9 (lv_at hl 4 rfl) ?_
    refine lv_aload_n hx hb dL_areBlocksRight_11 rfl (lv_at hl 0 rfl) ?_
    refine kI (rV (q0 := 0) (ci := 7) hx hb hml hown hg hN hK hP hD (c_instructions l D cI cJ ad co fl ra li re wa pi) mw_538 mw_539 mw_540 mw_541 mw_77 pdv_X7_instructions ⟨Nat.le_of_ble_eq_true rfl, Nat.le_of_ble_eq_true rfl⟩ rfl xo0 rfl hl.1 rfl (Nat.le_of_ble_eq_true rfl) dL_areBlocksRight_12 ⟨Nat.le_of_ble_eq_true rfl, Nat.le_of_ble_eq_true rfl⟩) hD hS hA (fun r_229 u_229 H locs hp hP hD hS => ?_)
    obtain ⟨er, eu⟩ := hp
    obtain rfl := er.symm
    obtain rfl := eu.symm
    refine lv_icmp_ge (tgt := 86) hx hb dL_areBlocksRight_15 (by decide) (fun c_15 => absurd c_15 (tst_in hZ.c0 hi_1 (by have := hZ.F.n19; omega))) (fun _ => ?_)
    refine lv_aload_n hx hb dL_areBlocksRight_18 rfl (lv_at hl 0 rfl) ?_
    refine lv_iload hx hb dL_areBlocksRight_19 (lv_at hl 4 rfl) ?_
    refine kI (rV (q0 := 0) (ci := 7) hx hb hml hown hg hN hK hP hD (a_blockOf l D cI cJ ad co fl ra li re wa pi (nI i_1) hZ.zf (l1_lt hZ hi_1).1 (l1_lt hZ hi_1).2) mw_661 mw_662 mw_663 mw_664 mw_77 pdv_X7_blockOf ⟨Nat.le_of_ble_eq_true rfl, Nat.le_of_ble_eq_true rfl⟩ rfl xo0 rfl hl.1 rfl (Nat.le_of_ble_eq_true rfl) dL_areBlocksRight_21 ⟨Nat.le_of_ble_eq_true rfl, Nat.le_of_ble_eq_true rfl⟩) hD hS hA (fun r_230 u_230 H locs hp hP hD hS => ?_)
    obtain ⟨er, eu⟩ := hp
    obtain rfl := er.symm
    obtain rfl := eu.symm
    refine lv_iload hx hb dL_areBlocksRight_24 (lv_at hl 4 rfl) ?_
    refine lv_if_ne (tgt := 33) hx hb dL_areBlocksRight_26 (by decide) (fun c_26 => ?_) (fun c_26 => ?_)
    · refine lv_aload_n hx hb dL_areBlocksRight_33 rfl (lv_at hl 0 rfl) ?_
      refine lv_iload hx hb dL_areBlocksRight_34 (lv_at hl 4 rfl) ?_
      refine lv_iconst (v := 1) hx hb dL_areBlocksRight_36 (by decide) ?_
      refine lv_isub hx hb dL_areBlocksRight_37 ?_
      refine kI (rV (q0 := 0) (ci := 7) hx hb hml hown hg hN hK hP hD (a_blockOf l D cI cJ ad co fl ra li re wa pi ((nI i_1) - 1) hZ.zf (l1_m hZ hi_1 c_26).1 (l1_m hZ hi_1 c_26).2) mw_661 mw_662 mw_663 mw_664 mw_77 pdv_X7_blockOf ⟨Nat.le_of_ble_eq_true rfl, Nat.le_of_ble_eq_true rfl⟩ rfl xo0 rfl hl.1 rfl (Nat.le_of_ble_eq_true rfl) dL_areBlocksRight_38 ⟨Nat.le_of_ble_eq_true rfl, Nat.le_of_ble_eq_true rfl⟩) hD hS hA (fun r_231 u_231 H locs hp hP hD hS => ?_)
      obtain ⟨er, eu⟩ := hp
      obtain rfl := er.symm
      obtain rfl := eu.symm
      refine lv_aload_n hx hb dL_areBlocksRight_41 rfl (lv_at hl 0 rfl) ?_
      refine lv_aload_n hx hb dL_areBlocksRight_42 rfl (lv_at hl 0 rfl) ?_
      refine kI (rV (q0 := 0) (ci := 7) hx hb hml hown hg hN hK hP hD (a_blocks l D cI cJ ad co fl ra li re wa pi hZ.zf) mw_585 mw_586 mw_587 mw_588 mw_77 pdv_X7_blocks ⟨Nat.le_of_ble_eq_true rfl, Nat.le_of_ble_eq_true rfl⟩ rfl xo0 rfl hl.1 rfl (Nat.le_of_ble_eq_true rfl) dL_areBlocksRight_43 ⟨Nat.le_of_ble_eq_true rfl, Nat.le_of_ble_eq_true rfl⟩) hD hS hA (fun r_232 u_232 H locs hp hP hD hS => ?_)
      obtain ⟨er, eu⟩ := hp
      obtain rfl := er.symm
      obtain rfl := eu.symm
      refine lv_iconst (v := 1) hx hb dL_areBlocksRight_46 (by decide) ?_
      refine lv_isub hx hb dL_areBlocksRight_47 ?_
      refine lv_aload_n hx hb dL_areBlocksRight_48 rfl (lv_at hl 0 rfl) ?_
      refine lv_iload hx hb dL_areBlocksRight_49 (lv_at hl 4 rfl) ?_
      refine lv_iconst (v := 1) hx hb dL_areBlocksRight_51 (by decide) ?_
      refine lv_isub hx hb dL_areBlocksRight_52 ?_
      refine kI (rV (q0 := 0) (ci := 7) hx hb hml hown hg hN hK hP hD (a_blockOf l D cI cJ ad co fl ra li re wa pi ((nI i_1) - 1) hZ.zf (l1_m hZ hi_1 c_26).1 (l1_m hZ hi_1 c_26).2) mw_661 mw_662 mw_663 mw_664 mw_77 pdv_X7_blockOf ⟨Nat.le_of_ble_eq_true rfl, Nat.le_of_ble_eq_true rfl⟩ rfl xo0 rfl hl.1 rfl (Nat.le_of_ble_eq_true rfl) dL_areBlocksRight_53 ⟨Nat.le_of_ble_eq_true rfl, Nat.le_of_ble_eq_true rfl⟩) hD hS hA (fun r_233 u_233 H locs hp hP hD hS => ?_)
      obtain ⟨er, eu⟩ := hp
      obtain rfl := er.symm
      obtain rfl := eu.symm
      refine lv_iconst (v := 1) hx hb dL_areBlocksRight_56 (by decide) ?_
      refine lv_iadd hx hb dL_areBlocksRight_57 ?_
      refine va_mmin hx hb (by rw [hml]; exact hl.1.symm) hown (hg _ mw_665) (hg _ mw_295) (hg _ mw_238) (hg _ mw_296) (Nat.le_of_ble_eq_true rfl) (Nat.le_of_ble_eq_true rfl) (Nat.le_of_ble_eq_true rfl) (Nat.le_of_ble_eq_true rfl) dL_areBlocksRight_58 ?_
      refine W.eq (g2 := F0 m 61 ls [.int (imin ((gi fl 0) - 1) ((rd (gA fl 0) 40 ((nI i_1) - 1)) + 1)), .ref (ad 0), .int (rd (gA fl 0) 40 ((nI i_1) - 1)), .int (rd (gA fl 0) 40 (nI i_1))]) rfl ?_
      refine kI (rV (q0 := 0) (ci := 7) hx hb hml hown hg hN hK hP hD (a_firstOf l D cI cJ ad co fl ra li re wa pi (imin ((gi fl 0) - 1) ((rd (gA fl 0) 40 ((nI i_1) - 1)) + 1)) hZ.zf (l1_k hZ hi_1 c_26).1 (l1_k hZ hi_1 c_26).2) mw_666 mw_667 mw_668 mw_669 mw_77 pdv_X7_firstOf ⟨Nat.le_of_ble_eq_true rfl, Nat.le_of_ble_eq_true rfl⟩ rfl xo0 rfl hl.1 rfl (Nat.le_of_ble_eq_true rfl) dL_areBlocksRight_61 ⟨Nat.le_of_ble_eq_true rfl, Nat.le_of_ble_eq_true rfl⟩) hD hS hA (fun r_234 u_234 H locs hp hP hD hS => ?_)
      obtain ⟨er, eu⟩ := hp
      obtain rfl := er.symm
      obtain rfl := eu.symm
      refine lv_iload hx hb dL_areBlocksRight_64 (lv_at hl 4 rfl) ?_
      refine lv_icmp_ne (tgt := 73) hx hb dL_areBlocksRight_66 (by decide) (fun c_66 => ?_) (fun c_66 => ?_)
      · refine lv_iconst (v := 0) hx hb dL_areBlocksRight_73 (by decide) ?_
        refine lv_iadd hx hb dL_areBlocksRight_74 ?_
        refine lv_icmp_eq (tgt := 80) hx hb dL_areBlocksRight_75 (by decide) (fun _ => ?_) (fun c_75 => absurd (l1_c hZ hi_1 c_26 c_66) c_75)
        refine lv_iinc (v := (nI (i_1 + 1))) (lv' := [(4, .int (nI (i_1 + 1))), (0, .ref (ad 0)), (1, .int 0), (2, .int 0), (3, .int 0)]) hx hb dL_areBlocksRight_80 hl (k := 4) rfl (nI_1 i_1) (by decide) rfl (fun ls hl => ?_)
        refine lv_goto (tgt := 9) hx hb dL_areBlocksRight_83 (by decide) ?_
        exact ih_1 () H locs ls ⟨rfl, hP, hD, hS, lv_sub hl [1, 2, 3, 4, 0] rfl⟩
      · refine lv_iconst (v := 1) hx hb dL_areBlocksRight_69 (by decide) ?_
        refine lv_goto (tgt := 74) hx hb dL_areBlocksRight_70 (by decide) ?_
        refine lv_iadd hx hb dL_areBlocksRight_74 ?_
        refine lv_icmp_eq (tgt := 80) hx hb dL_areBlocksRight_75 (by decide) (fun _ => ?_) (fun c_75 => absurd (l1_b hZ hi_1 c_26 c_66) c_75)
        refine lv_iinc (v := (nI (i_1 + 1))) (lv' := [(4, .int (nI (i_1 + 1))), (0, .ref (ad 0)), (1, .int 0), (2, .int 0), (3, .int 0)]) hx hb dL_areBlocksRight_80 hl (k := 4) rfl (nI_1 i_1) (by decide) rfl (fun ls hl => ?_)
        refine lv_goto (tgt := 9) hx hb dL_areBlocksRight_83 (by decide) ?_
        exact ih_1 () H locs ls ⟨rfl, hP, hD, hS, lv_sub hl [1, 2, 3, 4, 0] rfl⟩
    · refine lv_iconst (v := 0) hx hb dL_areBlocksRight_29 (by decide) ?_
      refine lv_goto (tgt := 75) hx hb dL_areBlocksRight_30 (by decide) ?_
      refine lv_icmp_eq (tgt := 80) hx hb dL_areBlocksRight_75 (by decide) (fun _ => ?_) (fun c_75 => absurd (l1_a hZ hi_1 c_26) c_75)
      refine lv_iinc (v := (nI (i_1 + 1))) (lv' := [(4, .int (nI (i_1 + 1))), (0, .ref (ad 0)), (1, .int 0), (2, .int 0), (3, .int 0)]) hx hb dL_areBlocksRight_80 hl (k := 4) rfl (nI_1 i_1) (by decide) rfl (fun ls hl => ?_)
      refine lv_goto (tgt := 9) hx hb dL_areBlocksRight_83 (by decide) ?_
      exact ih_1 () H locs ls ⟨rfl, hP, hD, hS, lv_sub hl [1, 2, 3, 4, 0] rfl⟩
