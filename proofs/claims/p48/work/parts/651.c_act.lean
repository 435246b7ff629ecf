theorem dL_act_0 : decode cL_act 0 = .ok (.aload_n 0, 1) := by decide +kernel
theorem dL_act_1 : decode cL_act 1 = .ok (.invokevirtual 33, 3) := by decide +kernel
theorem dL_act_4 : decode cL_act 4 = .ok (.istore_n 2, 1) := by decide +kernel
theorem dL_act_5 : decode cL_act 5 = .ok (.aload_n 0, 1) := by decide +kernel
theorem dL_act_6 : decode cL_act 6 = .ok (.invokevirtual 37, 3) := by decide +kernel
theorem dL_act_9 : decode cL_act 9 = .ok (.istore_n 3, 1) := by decide +kernel
theorem dL_act_10 : decode cL_act 10 = .ok (.iload_n 1, 1) := by decide +kernel
theorem dL_act_11 : decode cL_act 11 = .ok (.iconst 4, 1) := by decide +kernel
theorem dL_act_12 : decode cL_act 12 = .ok (.ishr, 1) := by decide +kernel
theorem dL_act_13 : decode cL_act 13 = .ok (.iconst 1, 1) := by decide +kernel
theorem dL_act_14 : decode cL_act 14 = .ok (.iload_n 2, 1) := by decide +kernel
theorem dL_act_15 : decode cL_act 15 = .ok (.invokestatic 40, 3) := by decide +kernel
theorem dL_act_18 : decode cL_act 18 = .ok (.invokestatic 46, 3) := by decide +kernel
theorem dL_act_21 : decode cL_act 21 = .ok (.istore 4, 2) := by decide +kernel
theorem dL_act_23 : decode cL_act 23 = .ok (.iload_n 1, 1) := by decide +kernel
theorem dL_act_24 : decode cL_act 24 = .ok (.bipush 12, 2) := by decide +kernel
theorem dL_act_26 : decode cL_act 26 = .ok (.invokestatic 46, 3) := by decide +kernel
theorem dL_act_29 : decode cL_act 29 = .ok (.tableswitch 233 0 9 #[55, 55, 55, 55, 55, 116, 141, 141, 183, 183], 55) := by decide +kernel
theorem dL_act_84 : decode cL_act 84 = .ok (.iload_n 2, 1) := by decide +kernel
theorem dL_act_85 : decode cL_act 85 = .ok (.bipush 18, 2) := by decide +kernel
theorem dL_act_87 : decode cL_act 87 = .ok (.if_icmp .le 6, 3) := by decide +kernel
theorem dL_act_90 : decode cL_act 90 = .ok (.goto 236, 3) := by decide +kernel
theorem dL_act_93 : decode cL_act 93 = .ok (.aload_n 0, 1) := by decide +kernel
theorem dL_act_94 : decode cL_act 94 = .ok (.iload_n 1, 1) := by decide +kernel
theorem dL_act_95 : decode cL_act 95 = .ok (.iconst 4, 1) := by decide +kernel
theorem dL_act_96 : decode cL_act 96 = .ok (.ishr, 1) := by decide +kernel
theorem dL_act_97 : decode cL_act 97 = .ok (.iload_n 2, 1) := by decide +kernel
theorem dL_act_98 : decode cL_act 98 = .ok (.iconst 1, 1) := by decide +kernel
theorem dL_act_99 : decode cL_act 99 = .ok (.iadd, 1) := by decide +kernel
theorem dL_act_100 : decode cL_act 100 = .ok (.invokestatic 46, 3) := by decide +kernel
theorem dL_act_103 : decode cL_act 103 = .ok (.iload_n 1, 1) := by decide +kernel
theorem dL_act_104 : decode cL_act 104 = .ok (.iconst 2, 1) := by decide +kernel
theorem dL_act_105 : decode cL_act 105 = .ok (.ishr, 1) := by decide +kernel
theorem dL_act_106 : decode cL_act 106 = .ok (.bipush 7, 2) := by decide +kernel
theorem dL_act_108 : decode cL_act 108 = .ok (.invokestatic 46, 3) := by decide +kernel
theorem dL_act_111 : decode cL_act 111 = .ok (.iconst 2, 1) := by decide +kernel
theorem dL_act_112 : decode cL_act 112 = .ok (.idiv, 1) := by decide +kernel
theorem dL_act_113 : decode cL_act 113 = .ok (.iload_n 1, 1) := by decide +kernel
theorem dL_act_114 : decode cL_act 114 = .ok (.bipush 7, 2) := by decide +kernel
theorem dL_act_116 : decode cL_act 116 = .ok (.ishr, 1) := by decide +kernel
theorem dL_act_117 : decode cL_act 117 = .ok (.iload_n 2, 1) := by decide +kernel
theorem dL_act_118 : decode cL_act 118 = .ok (.iconst 3, 1) := by decide +kernel
theorem dL_act_119 : decode cL_act 119 = .ok (.iadd, 1) := by decide +kernel
theorem dL_act_120 : decode cL_act 120 = .ok (.invokestatic 46, 3) := by decide +kernel
theorem dL_act_123 : decode cL_act 123 = .ok (.invokevirtual 49, 3) := by decide +kernel
theorem dL_act_126 : decode cL_act 126 = .ok (.iload_n 2, 1) := by decide +kernel
theorem dL_act_127 : decode cL_act 127 = .ok (.iconst 1, 1) := by decide +kernel
theorem dL_act_128 : decode cL_act 128 = .ok (.iadd, 1) := by decide +kernel
theorem dL_act_129 : decode cL_act 129 = .ok (.if_icmp .ne 14, 3) := by decide +kernel
theorem dL_act_132 : decode cL_act 132 = .ok (.aload_n 0, 1) := by decide +kernel
theorem dL_act_133 : decode cL_act 133 = .ok (.invokevirtual 37, 3) := by decide +kernel
theorem dL_act_136 : decode cL_act 136 = .ok (.ifCond .ne 7, 3) := by decide +kernel
theorem dL_act_139 : decode cL_act 139 = .ok (.iconst 1, 1) := by decide +kernel
theorem dL_act_140 : decode cL_act 140 = .ok (.goto 4, 3) := by decide +kernel
theorem dL_act_144 : decode cL_act 144 = .ok (.ireturn, 1) := by decide +kernel
theorem dL_act_145 : decode cL_act 145 = .ok (.aload_n 0, 1) := by decide +kernel
theorem dL_act_146 : decode cL_act 146 = .ok (.iload 4, 2) := by decide +kernel
theorem dL_act_148 : decode cL_act 148 = .ok (.invokevirtual 53, 3) := by decide +kernel
theorem dL_act_151 : decode cL_act 151 = .ok (.iload_n 2, 1) := by decide +kernel
theorem dL_act_152 : decode cL_act 152 = .ok (.iconst 1, 1) := by decide +kernel
theorem dL_act_153 : decode cL_act 153 = .ok (.isub, 1) := by decide +kernel
theorem dL_act_154 : decode cL_act 154 = .ok (.if_icmp .ne 14, 3) := by decide +kernel
theorem dL_act_157 : decode cL_act 157 = .ok (.aload_n 0, 1) := by decide +kernel
theorem dL_act_158 : decode cL_act 158 = .ok (.invokevirtual 37, 3) := by decide +kernel
theorem dL_act_161 : decode cL_act 161 = .ok (.ifCond .ne 7, 3) := by decide +kernel
theorem dL_act_164 : decode cL_act 164 = .ok (.iconst 1, 1) := by decide +kernel
theorem dL_act_165 : decode cL_act 165 = .ok (.goto 4, 3) := by decide +kernel
theorem dL_act_169 : decode cL_act 169 = .ok (.ireturn, 1) := by decide +kernel
theorem dL_act_170 : decode cL_act 170 = .ok (.aload_n 0, 1) := by decide +kernel
theorem dL_act_171 : decode cL_act 171 = .ok (.iload 4, 2) := by decide +kernel
theorem dL_act_173 : decode cL_act 173 = .ok (.invokevirtual 57, 3) := by decide +kernel
theorem dL_act_176 : decode cL_act 176 = .ok (.istore 5, 2) := by decide +kernel
theorem dL_act_178 : decode cL_act 178 = .ok (.aload_n 0, 1) := by decide +kernel
theorem dL_act_179 : decode cL_act 179 = .ok (.iload 4, 2) := by decide +kernel
theorem dL_act_181 : decode cL_act 181 = .ok (.iload_n 1, 1) := by decide +kernel
theorem dL_act_182 : decode cL_act 182 = .ok (.bipush 6, 2) := by decide +kernel
theorem dL_act_184 : decode cL_act 184 = .ok (.ishr, 1) := by decide +kernel
theorem dL_act_185 : decode cL_act 185 = .ok (.iload_n 2, 1) := by decide +kernel
theorem dL_act_186 : decode cL_act 186 = .ok (.iconst 2, 1) := by decide +kernel
theorem dL_act_187 : decode cL_act 187 = .ok (.iadd, 1) := by decide +kernel
theorem dL_act_188 : decode cL_act 188 = .ok (.invokestatic 46, 3) := by decide +kernel
theorem dL_act_191 : decode cL_act 191 = .ok (.invokevirtual 60, 3) := by decide +kernel
theorem dL_act_194 : decode cL_act 194 = .ok (.iload 5, 2) := by decide +kernel
theorem dL_act_196 : decode cL_act 196 = .ok (.if_icmp .ne 14, 3) := by decide +kernel
theorem dL_act_199 : decode cL_act 199 = .ok (.aload_n 0, 1) := by decide +kernel
theorem dL_act_200 : decode cL_act 200 = .ok (.invokevirtual 37, 3) := by decide +kernel
theorem dL_act_203 : decode cL_act 203 = .ok (.ifCond .ne 7, 3) := by decide +kernel
theorem dL_act_206 : decode cL_act 206 = .ok (.iconst 1, 1) := by decide +kernel
theorem dL_act_207 : decode cL_act 207 = .ok (.goto 4, 3) := by decide +kernel
theorem dL_act_211 : decode cL_act 211 = .ok (.ireturn, 1) := by decide +kernel
theorem dL_act_212 : decode cL_act 212 = .ok (.aload_n 0, 1) := by decide +kernel
theorem dL_act_213 : decode cL_act 213 = .ok (.iload 4, 2) := by decide +kernel
theorem dL_act_215 : decode cL_act 215 = .ok (.iload_n 1, 1) := by decide +kernel
theorem dL_act_216 : decode cL_act 216 = .ok (.bipush 6, 2) := by decide +kernel
theorem dL_act_218 : decode cL_act 218 = .ok (.ishr, 1) := by decide +kernel
theorem dL_act_219 : decode cL_act 219 = .ok (.bipush 9, 2) := by decide +kernel
theorem dL_act_221 : decode cL_act 221 = .ok (.invokestatic 46, 3) := by decide +kernel
theorem dL_act_224 : decode cL_act 224 = .ok (.iconst 1, 1) := by decide +kernel
theorem dL_act_225 : decode cL_act 225 = .ok (.isub, 1) := by decide +kernel
theorem dL_act_226 : decode cL_act 226 = .ok (.iload_n 1, 1) := by decide +kernel
theorem dL_act_227 : decode cL_act 227 = .ok (.bipush 8, 2) := by decide +kernel
theorem dL_act_229 : decode cL_act 229 = .ok (.ishr, 1) := by decide +kernel
theorem dL_act_230 : decode cL_act 230 = .ok (.sipush 256, 3) := by decide +kernel
theorem dL_act_233 : decode cL_act 233 = .ok (.invokestatic 46, 3) := by decide +kernel
theorem dL_act_236 : decode cL_act 236 = .ok (.invokevirtual 63, 3) := by decide +kernel
theorem dL_act_239 : decode cL_act 239 = .ok (.pop, 1) := by decide +kernel
theorem dL_act_240 : decode cL_act 240 = .ok (.aload_n 0, 1) := by decide +kernel
theorem dL_act_241 : decode cL_act 241 = .ok (.invokevirtual 37, 3) := by decide +kernel
theorem dL_act_244 : decode cL_act 244 = .ok (.iload_n 3, 1) := by decide +kernel
theorem dL_act_245 : decode cL_act 245 = .ok (.if_icmp .ne 15, 3) := by decide +kernel
theorem dL_act_248 : decode cL_act 248 = .ok (.aload_n 0, 1) := by decide +kernel
theorem dL_act_249 : decode cL_act 249 = .ok (.invokevirtual 33, 3) := by decide +kernel
theorem dL_act_252 : decode cL_act 252 = .ok (.iload_n 2, 1) := by decide +kernel
theorem dL_act_253 : decode cL_act 253 = .ok (.if_icmp .ne 7, 3) := by decide +kernel
theorem dL_act_256 : decode cL_act 256 = .ok (.iconst 1, 1) := by decide +kernel
theorem dL_act_257 : decode cL_act 257 = .ok (.goto 4, 3) := by decide +kernel
theorem dL_act_261 : decode cL_act 261 = .ok (.ireturn, 1) := by decide +kernel
theorem dL_act_262 : decode cL_act 262 = .ok (.iconst 1, 1) := by decide +kernel
theorem dL_act_263 : decode cL_act 263 = .ok (.iload_n 1, 1) := by decide +kernel
theorem dL_act_264 : decode cL_act 264 = .ok (.iconst 5, 1) := by decide +kernel
theorem dL_act_265 : decode cL_act 265 = .ok (.ishr, 1) := by decide +kernel
theorem dL_act_266 : decode cL_act 266 = .ok (.iconst 3, 1) := by decide +kernel
theorem dL_act_267 : decode cL_act 267 = .ok (.invokestatic 46, 3) := by decide +kernel
theorem dL_act_270 : decode cL_act 270 = .ok (.iadd, 1) := by decide +kernel
theorem dL_act_271 : decode cL_act 271 = .ok (.istore 6, 2) := by decide +kernel
theorem dL_act_273 : decode cL_act 273 = .ok (.aload_n 0, 1) := by decide +kernel
theorem dL_act_274 : decode cL_act 274 = .ok (.iload 6, 2) := by decide +kernel
theorem dL_act_276 : decode cL_act 276 = .ok (.invokevirtual 66, 3) := by decide +kernel
theorem dL_act_279 : decode cL_act 279 = .ok (.istore 7, 2) := by decide +kernel
theorem dL_act_281 : decode cL_act 281 = .ok (.aload_n 0, 1) := by decide +kernel
theorem dL_act_282 : decode cL_act 282 = .ok (.invokevirtual 37, 3) := by decide +kernel
theorem dL_act_285 : decode cL_act 285 = .ok (.iload_n 3, 1) := by decide +kernel
theorem dL_act_286 : decode cL_act 286 = .ok (.if_icmp .ne 38, 3) := by decide +kernel
theorem dL_act_289 : decode cL_act 289 = .ok (.aload_n 0, 1) := by decide +kernel
theorem dL_act_290 : decode cL_act 290 = .ok (.iload 6, 2) := by decide +kernel
theorem dL_act_292 : decode cL_act 292 = .ok (.invokevirtual 69, 3) := by decide +kernel
theorem dL_act_295 : decode cL_act 295 = .ok (.iload 7, 2) := by decide +kernel
theorem dL_act_297 : decode cL_act 297 = .ok (.if_icmp .ne 27, 3) := by decide +kernel
theorem dL_act_300 : decode cL_act 300 = .ok (.aload_n 0, 1) := by decide +kernel
theorem dL_act_301 : decode cL_act 301 = .ok (.invokevirtual 72, 3) := by decide +kernel
theorem dL_act_304 : decode cL_act 304 = .ok (.iload 7, 2) := by decide +kernel
theorem dL_act_306 : decode cL_act 306 = .ok (.if_icmp .ne 18, 3) := by decide +kernel
theorem dL_act_309 : decode cL_act 309 = .ok (.aload_n 0, 1) := by decide +kernel
theorem dL_act_310 : decode cL_act 310 = .ok (.invokevirtual 37, 3) := by decide +kernel
theorem dL_act_313 : decode cL_act 313 = .ok (.iload_n 3, 1) := by decide +kernel
theorem dL_act_314 : decode cL_act 314 = .ok (.iload 6, 2) := by decide +kernel
theorem dL_act_316 : decode cL_act 316 = .ok (.iadd, 1) := by decide +kernel
theorem dL_act_317 : decode cL_act 317 = .ok (.if_icmp .ne 7, 3) := by decide +kernel
theorem dL_act_320 : decode cL_act 320 = .ok (.iconst 1, 1) := by decide +kernel
theorem dL_act_321 : decode cL_act 321 = .ok (.goto 4, 3) := by decide +kernel
theorem dL_act_325 : decode cL_act 325 = .ok (.ireturn, 1) := by decide +kernel
theorem dL_act_326 : decode cL_act 326 = .ok (.goto 51, 3) := by decide +kernel
theorem dL_act_329 : decode cL_act 329 = .ok (.astore 5, 2) := by decide +kernel
theorem dL_act_331 : decode cL_act 331 = .ok (.aload_n 0, 1) := by decide +kernel
theorem dL_act_332 : decode cL_act 332 = .ok (.invokevirtual 33, 3) := by decide +kernel
theorem dL_act_335 : decode cL_act 335 = .ok (.iload_n 2, 1) := by decide +kernel
theorem dL_act_336 : decode cL_act 336 = .ok (.if_icmp .ne 15, 3) := by decide +kernel
theorem dL_act_339 : decode cL_act 339 = .ok (.aload_n 0, 1) := by decide +kernel
theorem dL_act_340 : decode cL_act 340 = .ok (.invokevirtual 37, 3) := by decide +kernel
theorem dL_act_343 : decode cL_act 343 = .ok (.iload_n 3, 1) := by decide +kernel
theorem dL_act_344 : decode cL_act 344 = .ok (.if_icmp .ne 7, 3) := by decide +kernel
theorem dL_act_347 : decode cL_act 347 = .ok (.iconst 1, 1) := by decide +kernel
theorem dL_act_348 : decode cL_act 348 = .ok (.goto 4, 3) := by decide +kernel
theorem dL_act_352 : decode cL_act 352 = .ok (.ireturn, 1) := by decide +kernel
theorem dL_act_353 : decode cL_act 353 = .ok (.astore 5, 2) := by decide +kernel
theorem dL_act_355 : decode cL_act 355 = .ok (.aload_n 0, 1) := by decide +kernel
theorem dL_act_356 : decode cL_act 356 = .ok (.invokevirtual 33, 3) := by decide +kernel
theorem dL_act_359 : decode cL_act 359 = .ok (.iload_n 2, 1) := by decide +kernel
theorem dL_act_360 : decode cL_act 360 = .ok (.if_icmp .ne 15, 3) := by decide +kernel
theorem dL_act_363 : decode cL_act 363 = .ok (.aload_n 0, 1) := by decide +kernel
theorem dL_act_364 : decode cL_act 364 = .ok (.invokevirtual 37, 3) := by decide +kernel
theorem dL_act_367 : decode cL_act 367 = .ok (.iload_n 3, 1) := by decide +kernel
theorem dL_act_368 : decode cL_act 368 = .ok (.if_icmp .ne 7, 3) := by decide +kernel
theorem dL_act_371 : decode cL_act 371 = .ok (.iconst 1, 1) := by decide +kernel
theorem dL_act_372 : decode cL_act 372 = .ok (.goto 4, 3) := by decide +kernel
theorem dL_act_376 : decode cL_act 376 = .ok (.ireturn, 1) := by decide +kernel
theorem dL_act_377 : decode cL_act 377 = .ok (.iconst 1, 1) := by decide +kernel
theorem dL_act_378 : decode cL_act 378 = .ok (.ireturn, 1) := by decide +kernel
theorem mw_538 : Cond.code yX7_instructions cX7_instructions 1 (some Jvm.ClassFile.FieldType.int) ∈ GW := gw_mem (inT3 _ (List.mem_of_getElem? (i := 171) rfl)) rfl
theorem mw_539 : Cond.methodLink RL 33 yX7_instructions ∈ GW := gw_mem (inT3 _ (List.mem_of_getElem? (i := 168) rfl)) rfl
theorem mw_540 : Cond.instanceMethod yX7_instructions ∈ GW := gw_mem (inT3 _ (List.mem_of_getElem? (i := 169) rfl)) rfl
theorem mw_541 : Cond.selects RX7 yX7_instructions yX7_instructions ∈ GW := gw_mem (inT3 _ (List.mem_of_getElem? (i := 170) rfl)) rfl
theorem mw_542 : Cond.code yX7_swept cX7_swept 1 (some Jvm.ClassFile.FieldType.int) ∈ GW := gw_mem (inT3 _ (List.mem_of_getElem? (i := 175) rfl)) rfl
theorem mw_543 : Cond.methodLink RL 37 yX7_swept ∈ GW := gw_mem (inT3 _ (List.mem_of_getElem? (i := 172) rfl)) rfl
theorem mw_544 : Cond.instanceMethod yX7_swept ∈ GW := gw_mem (inT3 _ (List.mem_of_getElem? (i := 173) rfl)) rfl
theorem mw_545 : Cond.selects RX7 yX7_swept yX7_swept ∈ GW := gw_mem (inT3 _ (List.mem_of_getElem? (i := 174) rfl)) rfl
theorem mw_546 : Cond.methodLink RL 40 Lib.Math.max.name ∈ GW := gw_mem (inT3 _ (List.mem_of_getElem? (i := 176) rfl)) rfl
theorem mw_547 : Cond.code yL_below cL_below 2 (some Jvm.ClassFile.FieldType.int) ∈ GW := gw_mem (inT3 _ (List.mem_of_getElem? (i := 179) rfl)) rfl
theorem mw_548 : Cond.methodLink RL 46 yL_below ∈ GW := gw_mem (inT3 _ (List.mem_of_getElem? (i := 177) rfl)) rfl
theorem mw_549 : Cond.static yL_below ∈ GW := gw_mem (inT3 _ (List.mem_of_getElem? (i := 178) rfl)) rfl
theorem mw_550 : Cond.initialized RL ∈ GW := gw_mem (inT1 _ (List.mem_of_getElem? (i := 0) rfl)) rfl
theorem mw_551 : Cond.code yX7_insert cX7_insert 4 (some Jvm.ClassFile.FieldType.int) ∈ GW := gw_mem (inT3 _ (List.mem_of_getElem? (i := 184) rfl)) rfl
theorem mw_552 : Cond.methodLink RL 49 yX7_insert ∈ GW := gw_mem (inT3 _ (List.mem_of_getElem? (i := 181) rfl)) rfl
theorem mw_553 : Cond.instanceMethod yX7_insert ∈ GW := gw_mem (inT3 _ (List.mem_of_getElem? (i := 182) rfl)) rfl
theorem mw_554 : Cond.selects RX7 yX7_insert yX7_insert ∈ GW := gw_mem (inT3 _ (List.mem_of_getElem? (i := 183) rfl)) rfl
theorem mw_555 : Cond.code yX7_remove cX7_remove 2 (some Jvm.ClassFile.FieldType.int) ∈ GW := gw_mem (inT4 _ (List.mem_of_getElem? (i := 59) rfl)) rfl
theorem mw_556 : Cond.methodLink RL 53 yX7_remove ∈ GW := gw_mem (inT4 _ (List.mem_of_getElem? (i := 56) rfl)) rfl
theorem mw_557 : Cond.instanceMethod yX7_remove ∈ GW := gw_mem (inT4 _ (List.mem_of_getElem? (i := 57) rfl)) rfl
theorem mw_558 : Cond.selects RX7 yX7_remove yX7_remove ∈ GW := gw_mem (inT4 _ (List.mem_of_getElem? (i := 58) rfl)) rfl
theorem mw_559 : Cond.classLink RL 75 "java/lang/IndexOutOfBoundsException" ∈ GW := gw_mem (inT3 _ (List.mem_of_getElem? (i := 166) rfl)) rfl
theorem mw_560 : Cond.code yX7_targetOf cX7_targetOf 2 (some Jvm.ClassFile.FieldType.int) ∈ GW := gw_mem (inT4 _ (List.mem_of_getElem? (i := 87) rfl)) rfl
theorem mw_561 : Cond.methodLink RL 57 yX7_targetOf ∈ GW := gw_mem (inT4 _ (List.mem_of_getElem? (i := 84) rfl)) rfl
theorem mw_562 : Cond.instanceMethod yX7_targetOf ∈ GW := gw_mem (inT4 _ (List.mem_of_getElem? (i := 85) rfl)) rfl
theorem mw_563 : Cond.selects RX7 yX7_targetOf yX7_targetOf ∈ GW := gw_mem (inT4 _ (List.mem_of_getElem? (i := 86) rfl)) rfl
theorem mw_564 : Cond.code yX7_setTarget cX7_setTarget 4 (some Jvm.ClassFile.FieldType.int) ∈ GW := gw_mem (inT4 _ (List.mem_of_getElem? (i := 91) rfl)) rfl
theorem mw_565 : Cond.methodLink RL 60 yX7_setTarget ∈ GW := gw_mem (inT4 _ (List.mem_of_getElem? (i := 88) rfl)) rfl
theorem mw_566 : Cond.instanceMethod yX7_setTarget ∈ GW := gw_mem (inT4 _ (List.mem_of_getElem? (i := 89) rfl)) rfl
theorem mw_567 : Cond.selects RX7 yX7_setTarget yX7_setTarget ∈ GW := gw_mem (inT4 _ (List.mem_of_getElem? (i := 90) rfl)) rfl
theorem mw_568 : Cond.classLink RL 77 "java/lang/IllegalArgumentException" ∈ GW := gw_mem (inT3 _ (List.mem_of_getElem? (i := 167) rfl)) rfl
theorem mw_569 : Cond.code yX7_setUse cX7_setUse 5 (some Jvm.ClassFile.FieldType.int) ∈ GW := gw_mem (inT4 _ (List.mem_of_getElem? (i := 97) rfl)) rfl
theorem mw_570 : Cond.methodLink RL 63 yX7_setUse ∈ GW := gw_mem (inT4 _ (List.mem_of_getElem? (i := 94) rfl)) rfl
theorem mw_571 : Cond.instanceMethod yX7_setUse ∈ GW := gw_mem (inT4 _ (List.mem_of_getElem? (i := 95) rfl)) rfl
theorem mw_572 : Cond.selects RX7 yX7_setUse yX7_setUse ∈ GW := gw_mem (inT4 _ (List.mem_of_getElem? (i := 96) rfl)) rfl
theorem mw_573 : Cond.code yX7_wouldCross cX7_wouldCross 2 (some Jvm.ClassFile.FieldType.int) ∈ GW := gw_mem (inT4 _ (List.mem_of_getElem? (i := 103) rfl)) rfl
theorem mw_574 : Cond.methodLink RL 66 yX7_wouldCross ∈ GW := gw_mem (inT4 _ (List.mem_of_getElem? (i := 100) rfl)) rfl
theorem mw_575 : Cond.instanceMethod yX7_wouldCross ∈ GW := gw_mem (inT4 _ (List.mem_of_getElem? (i := 101) rfl)) rfl
theorem mw_576 : Cond.selects RX7 yX7_wouldCross yX7_wouldCross ∈ GW := gw_mem (inT4 _ (List.mem_of_getElem? (i := 102) rfl)) rfl
theorem mw_577 : Cond.code yX7_sweep cX7_sweep 2 (some Jvm.ClassFile.FieldType.int) ∈ GW := gw_mem (inT4 _ (List.mem_of_getElem? (i := 134) rfl)) rfl
theorem mw_578 : Cond.methodLink RL 69 yX7_sweep ∈ GW := gw_mem (inT4 _ (List.mem_of_getElem? (i := 131) rfl)) rfl
theorem mw_579 : Cond.instanceMethod yX7_sweep ∈ GW := gw_mem (inT4 _ (List.mem_of_getElem? (i := 132) rfl)) rfl
theorem mw_580 : Cond.selects RX7 yX7_sweep yX7_sweep ∈ GW := gw_mem (inT4 _ (List.mem_of_getElem? (i := 133) rfl)) rfl
theorem mw_581 : Cond.code yX7_crossings cX7_crossings 1 (some Jvm.ClassFile.FieldType.int) ∈ GW := gw_mem (inT4 _ (List.mem_of_getElem? (i := 139) rfl)) rfl
theorem mw_582 : Cond.methodLink RL 72 yX7_crossings ∈ GW := gw_mem (inT4 _ (List.mem_of_getElem? (i := 136) rfl)) rfl
theorem mw_583 : Cond.instanceMethod yX7_crossings ∈ GW := gw_mem (inT4 _ (List.mem_of_getElem? (i := 137) rfl)) rfl
theorem mw_584 : Cond.selects RX7 yX7_crossings yX7_crossings ∈ GW := gw_mem (inT4 _ (List.mem_of_getElem? (i := 138) rfl)) rfl
theorem pdv_X7_instructions : yX7_instructions.cls = RX7 ∧ yX7_instructions.cls ≠ "java/lang/invoke/MethodHandle" ∧ yX7_instructions.cls ≠ "java/lang/invoke/VarHandle" ∧ (parseMethodDescriptor yX7_instructions.desc).map (fun d => d.parameters.length) = some 0 := by decide +kernel
theorem pdv_X7_swept : yX7_swept.cls = RX7 ∧ yX7_swept.cls ≠ "java/lang/invoke/MethodHandle" ∧ yX7_swept.cls ≠ "java/lang/invoke/VarHandle" ∧ (parseMethodDescriptor yX7_swept.desc).map (fun d => d.parameters.length) = some 0 := by decide +kernel
theorem pd_L_below : yL_below.cls ≠ "java/lang/invoke/MethodHandle" ∧ yL_below.cls ≠ "java/lang/invoke/VarHandle" ∧ (parseMethodDescriptor yL_below.desc).map (fun d => d.parameters.length) = some 2 := by decide +kernel
theorem pdv_X7_insert : yX7_insert.cls = RX7 ∧ yX7_insert.cls ≠ "java/lang/invoke/MethodHandle" ∧ yX7_insert.cls ≠ "java/lang/invoke/VarHandle" ∧ (parseMethodDescriptor yX7_insert.desc).map (fun d => d.parameters.length) = some 3 := by decide +kernel
theorem pdv_X7_remove : yX7_remove.cls = RX7 ∧ yX7_remove.cls ≠ "java/lang/invoke/MethodHandle" ∧ yX7_remove.cls ≠ "java/lang/invoke/VarHandle" ∧ (parseMethodDescriptor yX7_remove.desc).map (fun d => d.parameters.length) = some 1 := by decide +kernel
theorem pdv_X7_targetOf : yX7_targetOf.cls = RX7 ∧ yX7_targetOf.cls ≠ "java/lang/invoke/MethodHandle" ∧ yX7_targetOf.cls ≠ "java/lang/invoke/VarHandle" ∧ (parseMethodDescriptor yX7_targetOf.desc).map (fun d => d.parameters.length) = some 1 := by decide +kernel
theorem pdv_X7_setTarget : yX7_setTarget.cls = RX7 ∧ yX7_setTarget.cls ≠ "java/lang/invoke/MethodHandle" ∧ yX7_setTarget.cls ≠ "java/lang/invoke/VarHandle" ∧ (parseMethodDescriptor yX7_setTarget.desc).map (fun d => d.parameters.length) = some 2 := by decide +kernel
theorem pdv_X7_setUse : yX7_setUse.cls = RX7 ∧ yX7_setUse.cls ≠ "java/lang/invoke/MethodHandle" ∧ yX7_setUse.cls ≠ "java/lang/invoke/VarHandle" ∧ (parseMethodDescriptor yX7_setUse.desc).map (fun d => d.parameters.length) = some 3 := by decide +kernel
theorem pdv_X7_wouldCross : yX7_wouldCross.cls = RX7 ∧ yX7_wouldCross.cls ≠ "java/lang/invoke/MethodHandle" ∧ yX7_wouldCross.cls ≠ "java/lang/invoke/VarHandle" ∧ (parseMethodDescriptor yX7_wouldCross.desc).map (fun d => d.parameters.length) = some 1 := by decide +kernel
theorem pdv_X7_sweep : yX7_sweep.cls = RX7 ∧ yX7_sweep.cls ≠ "java/lang/invoke/MethodHandle" ∧ yX7_sweep.cls ≠ "java/lang/invoke/VarHandle" ∧ (parseMethodDescriptor yX7_sweep.desc).map (fun d => d.parameters.length) = some 1 := by decide +kernel
theorem pdv_X7_crossings : yX7_crossings.cls = RX7 ∧ yX7_crossings.cls ≠ "java/lang/invoke/MethodHandle" ∧ yX7_crossings.cls ≠ "java/lang/invoke/VarHandle" ∧ (parseMethodDescriptor yX7_crossings.desc).map (fun d => d.parameters.length) = some 0 := by decide +kernel
theorem cross_same {n : Nat} {co fl ra li re wa pi : Ob} (h : INV n co fl ra li re wa pi) (z : ¬ gi pi 3 = 0) : (countCross wa (countCross wa pi).1).2 = (countCross wa pi).2 := by
  obtain ⟨kz, kp⟩ := h.p z
  obtain ⟨c, E, hm, fs, fr, eg, fe, hF⟩ := h.f kz
  obtain ⟨cc, L, ca, ht, ly, w, q⟩ := kp c E hm fs fr eg fe hF
  obtain ⟨-, -, h3, -⟩ := cross_c (wa := wa) hF.e57 q.1.2.2.1 q.1.1 q.1.2.1 (REL.rf pi)
  exact (cross_c (wa := wa) (a := (countCross wa pi).1) hF.e57 q.1.2.2.1 (by rw [h3.gi 0]; exact q.1.1) (by rw [h3.gi 1]; exact q.1.2.1) h3).1
theorem act_sw {a b c d pi : Ob} {v : Int32} (h5 : REL a pi) (h6 : gi b 2 = gi a 2 + nI (nN (1 + blw v 3))) (h7 : REL c b) (h8 : REL d c) : gi d 2 = gi pi 2 + (1 + blw v 3) := by
  rw [h8.gi 2, h7.gi 2, h6, h5.gi 2, (swp_m v).2.2]
set_option maxHeartbeats 4000000 in
set_option maxRecDepth 100000 in
theorem c_act (l : Launch) (hfl : l.stackTraces = false) (D : va_G) (cI cJ : ClassId) (ad : Nat → Nat) (co fl ra li re wa pi : Ob) (n : Nat) (hI : INV n co fl ra li re wa pi) (k1 : Int32) : CW l D (TY cI cJ) yL_act (.codeWith yL_act cL_act 8 (some Jvm.ClassFile.FieldType.boolean) [((23), (144), (329), (75)), ((145), (169), (329), (75)), ((170), (211), (329), (75)), ((212), (261), (329), (75)), ((262), (325), (329), (75)), ((23), (144), (353), (77)), ((145), (169), (353), (77)), ((170), (211), (353), (77)), ((212), (261), (353), (77)), ((262), (325), (353), (77))]) 8 1 6 (XW ad cI cJ co fl ra li re wa pi) [.ref (ad 0), .int k1] (QI D (TY cI cJ) (fun r u => r = 1 ∧ IW ad cI cJ u)) := by
  refine entW (by decide) (Nat.le_of_ble_eq_true rfl) ?_
  intro p e s m below meth c ls A hx hb hr hg hown hml hlocks hnm hP hK hD hS hA hN hl htab hST hSR hAw
  have hl : lv_has ls 8 [(0, .ref (ad 0)), (1, .int k1)] := hl
  refine lv_aload_n hx hb dL_act_0 rfl (lv_at hl 0 rfl) ?_
  refine kI (rV (q0 := 0) (ci := 7) hx hb hml hown hg hN hK hP hD (c_instructions l D cI cJ ad co fl ra li re wa pi) mw_538 mw_539 mw_540 mw_541 mw_77 pdv_X7_instructions ⟨Nat.le_of_ble_eq_true rfl, Nat.le_of_ble_eq_true rfl⟩ rfl xo0 rfl hl.1 rfl (Nat.le_of_ble_eq_true rfl) dL_act_1 ⟨Nat.le_of_ble_eq_true rfl, Nat.le_of_ble_eq_true rfl⟩) hD hS hA (fun r_1 u_1 H locs hp hP hD hS => ?_)
  obtain ⟨er, eu⟩ := hp
  obtain rfl := er.symm
  obtain rfl := eu.symm
  refine lv_istore_n (lv' := [(2, .int (gi co 0)), (0, .ref (ad 0)), (1, .int k1)]) hx hb dL_act_4 rfl hl (by decide) rfl (fun ls hl => ?_)
  refine lv_aload_n hx hb dL_act_5 rfl (lv_at hl 1 rfl) ?_
  refine kI (rV (q0 := 0) (ci := 7) hx hb hml hown hg hN hK hP hD (c_sweptG l D cI cJ ad co fl ra li re wa pi) mw_542 mw_543 mw_544 mw_545 mw_77 pdv_X7_swept ⟨Nat.le_of_ble_eq_true rfl, Nat.le_of_ble_eq_true rfl⟩ rfl xo0 rfl hl.1 rfl (Nat.le_of_ble_eq_true rfl) dL_act_6 ⟨Nat.le_of_ble_eq_true rfl, Nat.le_of_ble_eq_true rfl⟩) hD hS hA (fun r_2 u_2 H locs hp hP hD hS => ?_)
  obtain ⟨er, eu⟩ := hp
  obtain rfl := er.symm
  obtain rfl := eu.symm
  have hP : va_P D vwCl (XW ad cI cJ co (frPf co fl pi) ra li re (frPw co fl wa pi) (frP co fl wa pi)) H := hP
  have hD : va_D A (XW ad cI cJ co (frPf co fl pi) ra li re (frPw co fl wa pi) (frP co fl wa pi)) := hD
  refine lv_istore_n (lv' := [(3, .int (gi (frP co fl wa pi) 2)), (2, .int (gi co 0)), (0, .ref (ad 0)), (1, .int k1)]) hx hb dL_act_9 rfl hl (by decide) rfl (fun ls hl => ?_)
  obtain ⟨hI2, zf, zp⟩ := hI.pic
  refine lv_iload_n hx hb dL_act_10 rfl (lv_at hl 3 rfl) ?_
  refine lv_iconst (v := 4) hx hb dL_act_11 (by decide) ?_
  refine lv_ishr hx hb dL_act_12 ?_
  refine lv_iconst (v := 1) hx hb dL_act_13 (by decide) ?_
  refine lv_iload_n hx hb dL_act_14 rfl (lv_at hl 1 rfl) ?_
  refine va_mmax hx hb (by rw [hml]; exact hl.1.symm) hown (hg _ mw_546) (hg _ mw_237) (hg _ mw_238) (hg _ mw_239) (Nat.le_of_ble_eq_true rfl) (Nat.le_of_ble_eq_true rfl) (Nat.le_of_ble_eq_true rfl) (Nat.le_of_ble_eq_true rfl) dL_act_15 ?_
  refine W.eq (g2 := F0 m 18 ls [.int (imax 1 (gi co 0)), .int (k1 >>> (4 &&& 31))]) rfl ?_
  refine kI (rS hx hb hml hown hg hN hK hP hD (c_below l D cI cJ (XW ad cI cJ co (frPf co fl pi) ra li re (frPw co fl wa pi) (frP co fl wa pi)) (k1 >>> (4 &&& 31)) (imax 1 (gi co 0)) (act_ne hI.co0 hI.n19)) mw_547 mw_548 mw_549 mw_550 pd_L_below ⟨Nat.le_of_ble_eq_true rfl, Nat.le_of_ble_eq_true rfl⟩ rfl hl.1 rfl (Nat.le_of_ble_eq_true rfl) dL_act_18 ⟨Nat.le_of_ble_eq_true rfl, Nat.le_of_ble_eq_true rfl⟩) hD hS hA (fun r_3 u_3 H locs hp hP hD hS => ?_)
  obtain ⟨er, eu⟩ := hp
  obtain rfl := er.symm
  obtain rfl := eu.symm
  refine lv_istore (lv' := [(4, .int (blw (k1 >>> (4 &&& 31)) (imax 1 (gi co 0)))), (3, .int (gi (frP co fl wa pi) 2)), (2, .int (gi co 0)), (0, .ref (ad 0)), (1, .int k1)]) hx hb dL_act_21 hl (by decide) rfl (fun ls hl => ?_)
  refine lv_iload_n hx hb dL_act_23 rfl (lv_at hl 4 rfl) ?_
  refine lv_bipush (v := 12) hx hb dL_act_24 (by decide) ?_
  refine kI (rS hx hb hml hown hg hN hK hP hD (c_below l D cI cJ (XW ad cI cJ co (frPf co fl pi) ra li re (frPw co fl wa pi) (frP co fl wa pi)) k1 12 (by decide)) mw_547 mw_548 mw_549 mw_550 pd_L_below ⟨Nat.le_of_ble_eq_true rfl, Nat.le_of_ble_eq_true rfl⟩ rfl hl.1 rfl (Nat.le_of_ble_eq_true rfl) dL_act_26 ⟨Nat.le_of_ble_eq_true rfl, Nat.le_of_ble_eq_true rfl⟩) hD hS hA (fun r_4 u_4 H locs hp hP hD hS => ?_)
  obtain ⟨er, eu⟩ := hp
  obtain rfl := er.symm
  obtain rfl := eu.symm
  obtain ⟨j, hj, ej⟩ := sw_j k1
  have hgr : (j = 0 ∨ j = 1 ∨ j = 2 ∨ j = 3 ∨ j = 4) ∨ (j = 5) ∨ (j = 6 ∨ j = 7) ∨ (j = 8 ∨ j = 9) ∨ (j = 10 ∨ j = 11) := by omega
  rcases hgr with hgr | hgr | hgr | hgr | hgr
  · refine lv_tableIn (off := 55) (tgt := 84) hx hb dL_act_29 (by rw [ej, nI_toInt (by omega)]; omega) (by rw [ej, nI_toInt (by omega)]; omega) (by rw [ej]; rcases hgr with rfl | rfl | rfl | rfl | rfl <;> rfl) (by decide) ?_
    refine lv_iload_n hx hb dL_act_84 rfl (lv_at hl 2 rfl) ?_
    refine lv_bipush (v := 18) hx hb dL_act_85 (by decide) ?_
    refine lv_icmp_le (tgt := 93) hx hb dL_act_87 (by decide) (fun c_87 => ?_) (fun c_87 => ?_)
    · have c_87 : ¬ 18 < (gi co 0) := i_ge c_87
      refine lv_aload_n hx hb dL_act_93 rfl (lv_at hl 3 rfl) ?_
      refine lv_iload_n hx hb dL_act_94 rfl (lv_at hl 4 rfl) ?_
      refine lv_iconst (v := 4) hx hb dL_act_95 (by decide) ?_
      refine lv_ishr hx hb dL_act_96 ?_
      refine lv_iload_n hx hb dL_act_97 rfl (lv_at hl 2 rfl) ?_
      refine lv_iconst (v := 1) hx hb dL_act_98 (by decide) ?_
      refine lv_iadd hx hb dL_act_99 ?_
      refine kI (rS hx hb hml hown hg hN hK hP hD (c_below l D cI cJ (XW ad cI cJ co (frPf co fl pi) ra li re (frPw co fl wa pi) (frP co fl wa pi)) (k1 >>> (4 &&& 31)) ((gi co 0) + 1) (act_ni hI.co0 hI.n19 1 (by decide) (by decide) rfl)) mw_547 mw_548 mw_549 mw_550 pd_L_below ⟨Nat.le_of_ble_eq_true rfl, Nat.le_of_ble_eq_true rfl⟩ rfl hl.1 rfl (Nat.le_of_ble_eq_true rfl) dL_act_100 ⟨Nat.le_of_ble_eq_true rfl, Nat.le_of_ble_eq_true rfl⟩) hD hS hA (fun r_5 u_5 H locs hp hP hD hS => ?_)
      obtain ⟨er, eu⟩ := hp
      obtain rfl := er.symm
      obtain rfl := eu.symm
      refine lv_iload_n hx hb dL_act_103 rfl (lv_at hl 4 rfl) ?_
      refine lv_iconst (v := 2) hx hb dL_act_104 (by decide) ?_
      refine lv_ishr hx hb dL_act_105 ?_
      refine lv_bipush (v := 7) hx hb dL_act_106 (by decide) ?_
      refine kI (rS hx hb hml hown hg hN hK hP hD (c_below l D cI cJ (XW ad cI cJ co (frPf co fl pi) ra li re (frPw co fl wa pi) (frP co fl wa pi)) (k1 >>> (2 &&& 31)) 7 (by decide)) mw_547 mw_548 mw_549 mw_550 pd_L_below ⟨Nat.le_of_ble_eq_true rfl, Nat.le_of_ble_eq_true rfl⟩ rfl hl.1 rfl (Nat.le_of_ble_eq_true rfl) dL_act_108 ⟨Nat.le_of_ble_eq_true rfl, Nat.le_of_ble_eq_true rfl⟩) hD hS hA (fun r_6 u_6 H locs hp hP hD hS => ?_)
      obtain ⟨er, eu⟩ := hp
      obtain rfl := er.symm
      obtain rfl := eu.symm
      refine lv_iconst (v := 2) hx hb dL_act_111 (by decide) ?_
      refine lv_idiv hx hb dL_act_112 (by decide) ?_
      refine lv_iload_n hx hb dL_act_113 rfl (lv_at hl 4 rfl) ?_
      refine lv_bipush (v := 7) hx hb dL_act_114 (by decide) ?_
      refine lv_ishr hx hb dL_act_116 ?_
      refine lv_iload_n hx hb dL_act_117 rfl (lv_at hl 2 rfl) ?_
      refine lv_iconst (v := 3) hx hb dL_act_118 (by decide) ?_
      refine lv_iadd hx hb dL_act_119 ?_
      refine kI (rS hx hb hml hown hg hN hK hP hD (c_below l D cI cJ (XW ad cI cJ co (frPf co fl pi) ra li re (frPw co fl wa pi) (frP co fl wa pi)) (k1 >>> (7 &&& 31)) ((gi co 0) + 3) (act_ni hI.co0 hI.n19 3 (by decide) (by decide) rfl)) mw_547 mw_548 mw_549 mw_550 pd_L_below ⟨Nat.le_of_ble_eq_true rfl, Nat.le_of_ble_eq_true rfl⟩ rfl hl.1 rfl (Nat.le_of_ble_eq_true rfl) dL_act_120 ⟨Nat.le_of_ble_eq_true rfl, Nat.le_of_ble_eq_true rfl⟩) hD hS hA (fun r_7 u_7 H locs hp hP hD hS => ?_)
      obtain ⟨er, eu⟩ := hp
      obtain rfl := er.symm
      obtain rfl := eu.symm
      refine kI (rV (q0 := 0) (ci := 7) hx hb hml hown hg hN hK hP hD (c_insert l D cI cJ ad co (frPf co fl pi) ra li re (frPw co fl wa pi) (frP co fl wa pi) (blw (k1 >>> (4 &&& 31)) ((gi co 0) + 1)) ((blw (k1 >>> (2 &&& 31)) 7) / 2) (blw (k1 >>> (7 &&& 31)) ((gi co 0) + 3)) (ins_p hI.co0 hI.n19 _).1 (ins_p hI.co0 hI.n19 _).2 (ins_k _).1 (ins_k _).2 (tgt_ok hI.co0 hI.n19 _ 3 (by decide) (by decide) rfl) (ins_c hI.co0 hI.n19)) mw_551 mw_552 mw_553 mw_554 mw_77 pdv_X7_insert ⟨Nat.le_of_ble_eq_true rfl, Nat.le_of_ble_eq_true rfl⟩ rfl xo0 rfl hl.1 rfl (Nat.le_of_ble_eq_true rfl) dL_act_123 ⟨Nat.le_of_ble_eq_true rfl, Nat.le_of_ble_eq_true rfl⟩) hD hS hA (fun r_8 u_8 H locs hp hP hD hS => ?_)
      obtain ⟨er, eu⟩ := hp
      obtain rfl := er.symm
      obtain rfl := eu.symm
      have hP : va_P D vwCl (XW ad cI cJ (coAdd co (blw (k1 >>> (4 &&& 31)) ((gi co 0) + 1)) ((blw (k1 >>> (2 &&& 31)) 7) / 2) (if jmp ((blw (k1 >>> (2 &&& 31)) 7) / 2) = true then (blw (k1 >>> (7 &&& 31)) ((gi co 0) + 3)) else 0)) (si (frPf co fl pi) 2 0) (si ra 2 0) (si li 1 0) (si re 1 0) (frPw co fl wa pi) (si (frP co fl wa pi) 3 0)) H := hP
      have hD : va_D A (XW ad cI cJ (coAdd co (blw (k1 >>> (4 &&& 31)) ((gi co 0) + 1)) ((blw (k1 >>> (2 &&& 31)) 7) / 2) (if jmp ((blw (k1 >>> (2 &&& 31)) 7) / 2) = true then (blw (k1 >>> (7 &&& 31)) ((gi co 0) + 3)) else 0)) (si (frPf co fl pi) 2 0) (si ra 2 0) (si li 1 0) (si re 1 0) (frPw co fl wa pi) (si (frP co fl wa pi) 3 0)) := hD
      have hI3 := hI2.change (show gi (coAdd co (blw (k1 >>> (4 &&& 31)) ((gi co 0) + 1)) ((blw (k1 >>> (2 &&& 31)) 7) / 2) (if jmp ((blw (k1 >>> (2 &&& 31)) 7) / 2) = true then (blw (k1 >>> (7 &&& 31)) ((gi co 0) + 3)) else 0)) 0 = nI (n + 1) from ins_0 hI.co0 _ _ _) (ins_n hI.co0 hI.n19 c_87)
      obtain ⟨hI4, -, -⟩ := hI3.pic
      refine lv_iload_n hx hb dL_act_126 rfl (lv_at hl 2 rfl) ?_
      refine lv_iconst (v := 1) hx hb dL_act_127 (by decide) ?_
      refine lv_iadd hx hb dL_act_128 ?_
      refine lv_icmp_ne (tgt := 143) hx hb dL_act_129 (by decide) (fun c_129 => absurd (coAdd_n _ _ _ _) c_129) (fun _ => ?_)
      refine lv_aload_n hx hb dL_act_132 rfl (lv_at hl 3 rfl) ?_
      refine kI (rV (q0 := 0) (ci := 7) hx hb hml hown hg hN hK hP hD (c_sweptG l D cI cJ ad (coAdd co (blw (k1 >>> (4 &&& 31)) ((gi co 0) + 1)) ((blw (k1 >>> (2 &&& 31)) 7) / 2) (if jmp ((blw (k1 >>> (2 &&& 31)) 7) / 2) = true then (blw (k1 >>> (7 &&& 31)) ((gi co 0) + 3)) else 0)) (si (frPf co fl pi) 2 0) (si ra 2 0) (si li 1 0) (si re 1 0) (frPw co fl wa pi) (si (frP co fl wa pi) 3 0)) mw_542 mw_543 mw_544 mw_545 mw_77 pdv_X7_swept ⟨Nat.le_of_ble_eq_true rfl, Nat.le_of_ble_eq_true rfl⟩ rfl xo0 rfl hl.1 rfl (Nat.le_of_ble_eq_true rfl) dL_act_133 ⟨Nat.le_of_ble_eq_true rfl, Nat.le_of_ble_eq_true rfl⟩) hD hS hA (fun r_9 u_9 H locs hp hP hD hS => ?_)
      obtain ⟨er, eu⟩ := hp
      obtain rfl := er.symm
      obtain rfl := eu.symm
      have hP : va_P D vwCl (XW ad cI cJ (coAdd co (blw (k1 >>> (4 &&& 31)) ((gi co 0) + 1)) ((blw (k1 >>> (2 &&& 31)) 7) / 2) (if jmp ((blw (k1 >>> (2 &&& 31)) 7) / 2) = true then (blw (k1 >>> (7 &&& 31)) ((gi co 0) + 3)) else 0)) (frPf (coAdd co (blw (k1 >>> (4 &&& 31)) ((gi co 0) + 1)) ((blw (k1 >>> (2 &&& 31)) 7) / 2) (if jmp ((blw (k1 >>> (2 &&& 31)) 7) / 2) = true then (blw (k1 >>> (7 &&& 31)) ((gi co 0) + 3)) else 0)) (si (frPf co fl pi) 2 0) (si (frP co fl wa pi) 3 0)) (si ra 2 0) (si li 1 0) (si re 1 0) (frPw (coAdd co (blw (k1 >>> (4 &&& 31)) ((gi co 0) + 1)) ((blw (k1 >>> (2 &&& 31)) 7) / 2) (if jmp ((blw (k1 >>> (2 &&& 31)) 7) / 2) = true then (blw (k1 >>> (7 &&& 31)) ((gi co 0) + 3)) else 0)) (si (frPf co fl pi) 2 0) (frPw co fl wa pi) (si (frP co fl wa pi) 3 0)) (frP (coAdd co (blw (k1 >>> (4 &&& 31)) ((gi co 0) + 1)) ((blw (k1 >>> (2 &&& 31)) 7) / 2) (if jmp ((blw (k1 >>> (2 &&& 31)) 7) / 2) = true then (blw (k1 >>> (7 &&& 31)) ((gi co 0) + 3)) else 0)) (si (frPf co fl pi) 2 0) (frPw co fl wa pi) (si (frP co fl wa pi) 3 0))) H := hP
      have hD : va_D A (XW ad cI cJ (coAdd co (blw (k1 >>> (4 &&& 31)) ((gi co 0) + 1)) ((blw (k1 >>> (2 &&& 31)) 7) / 2) (if jmp ((blw (k1 >>> (2 &&& 31)) 7) / 2) = true then (blw (k1 >>> (7 &&& 31)) ((gi co 0) + 3)) else 0)) (frPf (coAdd co (blw (k1 >>> (4 &&& 31)) ((gi co 0) + 1)) ((blw (k1 >>> (2 &&& 31)) 7) / 2) (if jmp ((blw (k1 >>> (2 &&& 31)) 7) / 2) = true then (blw (k1 >>> (7 &&& 31)) ((gi co 0) + 3)) else 0)) (si (frPf co fl pi) 2 0) (si (frP co fl wa pi) 3 0)) (si ra 2 0) (si li 1 0) (si re 1 0) (frPw (coAdd co (blw (k1 >>> (4 &&& 31)) ((gi co 0) + 1)) ((blw (k1 >>> (2 &&& 31)) 7) / 2) (if jmp ((blw (k1 >>> (2 &&& 31)) 7) / 2) = true then (blw (k1 >>> (7 &&& 31)) ((gi co 0) + 3)) else 0)) (si (frPf co fl pi) 2 0) (frPw co fl wa pi) (si (frP co fl wa pi) 3 0)) (frP (coAdd co (blw (k1 >>> (4 &&& 31)) ((gi co 0) + 1)) ((blw (k1 >>> (2 &&& 31)) 7) / 2) (if jmp ((blw (k1 >>> (2 &&& 31)) 7) / 2) = true then (blw (k1 >>> (7 &&& 31)) ((gi co 0) + 3)) else 0)) (si (frPf co fl pi) 2 0) (frPw co fl wa pi) (si (frP co fl wa pi) 3 0))) := hD
      refine lv_if_ne (tgt := 143) hx hb dL_act_136 (by decide) (fun c_136 => absurd (hI3.sw0 (gi_si_s _ _ _)) c_136) (fun _ => ?_)
      refine lv_iconst (v := 1) hx hb dL_act_139 (by decide) ?_
      refine lv_goto (tgt := 144) hx hb dL_act_140 (by decide) ?_
      refine W.widen (k := 1) (n := 6) (Nat.le_of_ble_eq_true rfl) (Nat.le_of_ble_eq_true rfl) ?_
      exact W.zret (v := 1) hx hb hr rfl (fun t ht hW => ⟨⟨1, (XW ad cI cJ (coAdd co (blw (k1 >>> (4 &&& 31)) ((gi co 0) + 1)) ((blw (k1 >>> (2 &&& 31)) 7) / 2) (if jmp ((blw (k1 >>> (2 &&& 31)) 7) / 2) = true then (blw (k1 >>> (7 &&& 31)) ((gi co 0) + 3)) else 0)) (frPf (coAdd co (blw (k1 >>> (4 &&& 31)) ((gi co 0) + 1)) ((blw (k1 >>> (2 &&& 31)) 7) / 2) (if jmp ((blw (k1 >>> (2 &&& 31)) 7) / 2) = true then (blw (k1 >>> (7 &&& 31)) ((gi co 0) + 3)) else 0)) (si (frPf co fl pi) 2 0) (si (frP co fl wa pi) 3 0)) (si ra 2 0) (si li 1 0) (si re 1 0) (frPw (coAdd co (blw (k1 >>> (4 &&& 31)) ((gi co 0) + 1)) ((blw (k1 >>> (2 &&& 31)) 7) / 2) (if jmp ((blw (k1 >>> (2 &&& 31)) 7) / 2) = true then (blw (k1 >>> (7 &&& 31)) ((gi co 0) + 3)) else 0)) (si (frPf co fl pi) 2 0) (frPw co fl wa pi) (si (frP co fl wa pi) 3 0)) (frP (coAdd co (blw (k1 >>> (4 &&& 31)) ((gi co 0) + 1)) ((blw (k1 >>> (2 &&& 31)) 7) / 2) (if jmp ((blw (k1 >>> (2 &&& 31)) 7) / 2) = true then (blw (k1 >>> (7 &&& 31)) ((gi co 0) + 3)) else 0)) (si (frPf co fl pi) 2 0) (frPw co fl wa pi) (si (frP co fl wa pi) 3 0))), rfl, ⟨rfl, (n + 1), _, _, _, _, _, _, _, rfl, hI4⟩, ⟨by rw [ht]; exact hP, va_K.moved hW.alike hK, hD⟩⟩, hS.F ht⟩) hS.2.2 dL_act_144
    · have c_87 : 18 < (gi co 0) := i_nge c_87
      refine lv_goto (tgt := 326) hx hb dL_act_90 (by decide) ?_
      refine lv_goto (tgt := 377) hx hb dL_act_326 (by decide) ?_
      refine lv_iconst (v := 1) hx hb dL_act_377 (by decide) ?_
      refine W.widen (k := 1) (n := 6) (Nat.le_of_ble_eq_true rfl) (Nat.le_of_ble_eq_true rfl) ?_
      exact W.zret (v := 1) hx hb hr rfl (fun t ht hW => ⟨⟨1, (XW ad cI cJ co (frPf co fl pi) ra li re (frPw co fl wa pi) (frP co fl wa pi)), rfl, ⟨rfl, n, _, _, _, _, _, _, _, rfl, hI2⟩, ⟨by rw [ht]; exact hP, va_K.moved hW.alike hK, hD⟩⟩, hS.F ht⟩) hS.2.2 dL_act_378
  · refine lv_tableIn (off := 116) (tgt := 145) hx hb dL_act_29 (by rw [ej, nI_toInt (by omega)]; omega) (by rw [ej, nI_toInt (by omega)]; omega) (by rw [ej, hgr]; rfl) (by decide) ?_
    rcases Nat.eq_zero_or_pos n with hn | hn
    · have hn0 := hn
      refine lv_aload_n hx hb dL_act_145 rfl (lv_at hl 3 rfl) ?_
      refine lv_iload hx hb dL_act_146 (lv_at hl 0 rfl) ?_
      refine kXI (rXV (q0 := 0) (ci := 7) hx hb hml hown hg hN hK hP hD hST hSR hS hA (x_remove l hfl D cI cJ ad co (frPf co fl pi) ra li re (frPw co fl wa pi) (frP co fl wa pi) (blw (k1 >>> (4 &&& 31)) (imax 1 (gi co 0))) (act_k0 hI.co0 hI.n19 _) (act_kn hI.co0 hn _)) mw_555 mw_556 mw_557 mw_558 mw_77 pdv_X7_remove ⟨Nat.le_of_ble_eq_true rfl, Nat.le_of_ble_eq_true rfl⟩ rfl xo0 rfl hl.1 rfl (Nat.le_of_ble_eq_true rfl) dL_act_148 ⟨Nat.le_of_ble_eq_true rfl, Nat.le_of_ble_eq_true rfl⟩) hD hS hA (fun ce q9 H locs hpx hP hD hS h1 h2 h3 => ?_) (fun r_10 u_10 H locs hp hP hD hS => ?_)
      · refine vx_catch (name := EIOB) (E := EIOB) hown (tableOf [(23, 144, 329, 75)]) ⟨145, 169, 329, 75⟩ (tableOf [(170, 211, 329, 75), (212, 261, 329, 75), (262, 325, 329, 75), (23, 144, 353, 77), (145, 169, 353, 77), (170, 211, 353, 77), (212, 261, 353, 77), (262, 325, 353, 77)]) (by rw [htab]; rfl) (List.forall_mem_cons.mpr ⟨Or.inl (by decide), fun z hz => absurd hz List.not_mem_nil⟩) (by decide) (by decide) (hg _ mw_559) (hN.use nw_107) h1 h2 h3 ?_
        refine lv_astore (lv' := [(5, .ref q9), (4, .int (blw (k1 >>> (4 &&& 31)) (imax 1 (gi co 0)))), (3, .int (gi (frP co fl wa pi) 2)), (2, .int (gi co 0)), (0, .ref (ad 0)), (1, .int k1)]) hx hb dL_act_329 hl (by decide) rfl (fun ls hl => ?_)
        refine lv_aload_n hx hb dL_act_331 rfl (lv_at hl 4 rfl) ?_
        refine kI (rV (q0 := 0) (ci := 7) hx hb hml hown hg hN hK hP hD (c_instructions l D cI cJ ad co (frPf co fl pi) ra li re (frPw co fl wa pi) (frP co fl wa pi)) mw_538 mw_539 mw_540 mw_541 mw_77 pdv_X7_instructions ⟨Nat.le_of_ble_eq_true rfl, Nat.le_of_ble_eq_true rfl⟩ rfl xo0 rfl hl.1 rfl (Nat.le_of_ble_eq_true rfl) dL_act_332 ⟨Nat.le_of_ble_eq_true rfl, Nat.le_of_ble_eq_true rfl⟩) hD hS hA (fun r_11 u_11 H locs hp hP hD hS => ?_)
        obtain ⟨er, eu⟩ := hp
        obtain rfl := er.symm
        obtain rfl := eu.symm
        refine lv_iload_n hx hb dL_act_335 rfl (lv_at hl 3 rfl) ?_
        refine lv_icmp_ne (tgt := 351) hx hb dL_act_336 (by decide) (fun c_336 => absurd rfl c_336) (fun _ => ?_)
        refine lv_aload_n hx hb dL_act_339 rfl (lv_at hl 4 rfl) ?_
        refine kI (rV (q0 := 0) (ci := 7) hx hb hml hown hg hN hK hP hD (a_swept l D cI cJ ad co (frPf co fl pi) ra li re (frPw co fl wa pi) (frP co fl wa pi) zp) mw_542 mw_543 mw_544 mw_545 mw_77 pdv_X7_swept ⟨Nat.le_of_ble_eq_true rfl, Nat.le_of_ble_eq_true rfl⟩ rfl xo0 rfl hl.1 rfl (Nat.le_of_ble_eq_true rfl) dL_act_340 ⟨Nat.le_of_ble_eq_true rfl, Nat.le_of_ble_eq_true rfl⟩) hD hS hA (fun r_12 u_12 H locs hp hP hD hS => ?_)
        obtain ⟨er, eu⟩ := hp
        obtain rfl := er.symm
        obtain rfl := eu.symm
        refine lv_iload_n hx hb dL_act_343 rfl (lv_at hl 2 rfl) ?_
        refine lv_icmp_ne (tgt := 351) hx hb dL_act_344 (by decide) (fun c_344 => absurd rfl c_344) (fun _ => ?_)
        refine lv_iconst (v := 1) hx hb dL_act_347 (by decide) ?_
        refine lv_goto (tgt := 352) hx hb dL_act_348 (by decide) ?_
        exact W.zret (v := 1) hx hb hr rfl (fun t ht hW => ⟨⟨1, (XW ad cI cJ co (frPf co fl pi) ra li re (frPw co fl wa pi) (frP co fl wa pi)), rfl, ⟨rfl, n, _, _, _, _, _, _, _, rfl, hI2⟩, ⟨by rw [ht]; exact hP, va_K.moved hW.alike hK, hD⟩⟩, hS.F ht⟩) hS.2.2 dL_act_352
      · exact hp.elim
    · have hn0 := hn
      refine lv_aload_n hx hb dL_act_145 rfl (lv_at hl 3 rfl) ?_
      refine lv_iload hx hb dL_act_146 (lv_at hl 0 rfl) ?_
      refine kI (rV (q0 := 0) (ci := 7) hx hb hml hown hg hN hK hP hD (c_remove l D cI cJ ad co (frPf co fl pi) ra li re (frPw co fl wa pi) (frP co fl wa pi) (blw (k1 >>> (4 &&& 31)) (imax 1 (gi co 0))) (act_k0 hI.co0 hI.n19 _) (act_k1 hI.co0 hI.n19 hn _)) mw_555 mw_556 mw_557 mw_558 mw_77 pdv_X7_remove ⟨Nat.le_of_ble_eq_true rfl, Nat.le_of_ble_eq_true rfl⟩ rfl xo0 rfl hl.1 rfl (Nat.le_of_ble_eq_true rfl) dL_act_148 ⟨Nat.le_of_ble_eq_true rfl, Nat.le_of_ble_eq_true rfl⟩) hD hS hA (fun r_13 u_13 H locs hp hP hD hS => ?_)
      obtain ⟨er, eu⟩ := hp
      obtain rfl := er.symm
      obtain rfl := eu.symm
      have hP : va_P D vwCl (XW ad cI cJ (coDrop co (blw (k1 >>> (4 &&& 31)) (imax 1 (gi co 0)))) (si (frPf co fl pi) 2 0) (si ra 2 0) (si li 1 0) (si re 1 0) (frPw co fl wa pi) (si (frP co fl wa pi) 3 0)) H := hP
      have hD : va_D A (XW ad cI cJ (coDrop co (blw (k1 >>> (4 &&& 31)) (imax 1 (gi co 0)))) (si (frPf co fl pi) 2 0) (si ra 2 0) (si li 1 0) (si re 1 0) (frPw co fl wa pi) (si (frP co fl wa pi) 3 0)) := hD
      have hI3 := hI2.change (show gi (coDrop co (blw (k1 >>> (4 &&& 31)) (imax 1 (gi co 0)))) 0 = nI (n - 1) from rem_0 hI.co0 hn _) (Nat.le_trans (Nat.sub_le _ _) hI.n19)
      obtain ⟨hI4, -, -⟩ := hI3.pic
      refine lv_iload_n hx hb dL_act_151 rfl (lv_at hl 2 rfl) ?_
      refine lv_iconst (v := 1) hx hb dL_act_152 (by decide) ?_
      refine lv_isub hx hb dL_act_153 ?_
      refine lv_icmp_ne (tgt := 168) hx hb dL_act_154 (by decide) (fun c_154 => absurd (coDrop_n _ _) c_154) (fun _ => ?_)
      refine lv_aload_n hx hb dL_act_157 rfl (lv_at hl 3 rfl) ?_
      refine kI (rV (q0 := 0) (ci := 7) hx hb hml hown hg hN hK hP hD (c_sweptG l D cI cJ ad (coDrop co (blw (k1 >>> (4 &&& 31)) (imax 1 (gi co 0)))) (si (frPf co fl pi) 2 0) (si ra 2 0) (si li 1 0) (si re 1 0) (frPw co fl wa pi) (si (frP co fl wa pi) 3 0)) mw_542 mw_543 mw_544 mw_545 mw_77 pdv_X7_swept ⟨Nat.le_of_ble_eq_true rfl, Nat.le_of_ble_eq_true rfl⟩ rfl xo0 rfl hl.1 rfl (Nat.le_of_ble_eq_true rfl) dL_act_158 ⟨Nat.le_of_ble_eq_true rfl, Nat.le_of_ble_eq_true rfl⟩) hD hS hA (fun r_14 u_14 H locs hp hP hD hS => ?_)
      obtain ⟨er, eu⟩ := hp
      obtain rfl := er.symm
      obtain rfl := eu.symm
      have hP : va_P D vwCl (XW ad cI cJ (coDrop co (blw (k1 >>> (4 &&& 31)) (imax 1 (gi co 0)))) (frPf (coDrop co (blw (k1 >>> (4 &&& 31)) (imax 1 (gi co 0)))) (si (frPf co fl pi) 2 0) (si (frP co fl wa pi) 3 0)) (si ra 2 0) (si li 1 0) (si re 1 0) (frPw (coDrop co (blw (k1 >>> (4 &&& 31)) (imax 1 (gi co 0)))) (si (frPf co fl pi) 2 0) (frPw co fl wa pi) (si (frP co fl wa pi) 3 0)) (frP (coDrop co (blw (k1 >>> (4 &&& 31)) (imax 1 (gi co 0)))) (si (frPf co fl pi) 2 0) (frPw co fl wa pi) (si (frP co fl wa pi) 3 0))) H := hP
      have hD : va_D A (XW ad cI cJ (coDrop co (blw (k1 >>> (4 &&& 31)) (imax 1 (gi co 0)))) (frPf (coDrop co (blw (k1 >>> (4 &&& 31)) (imax 1 (gi co 0)))) (si (frPf co fl pi) 2 0) (si (frP co fl wa pi) 3 0)) (si ra 2 0) (si li 1 0) (si re 1 0) (frPw (coDrop co (blw (k1 >>> (4 &&& 31)) (imax 1 (gi co 0)))) (si (frPf co fl pi) 2 0) (frPw co fl wa pi) (si (frP co fl wa pi) 3 0)) (frP (coDrop co (blw (k1 >>> (4 &&& 31)) (imax 1 (gi co 0)))) (si (frPf co fl pi) 2 0) (frPw co fl wa pi) (si (frP co fl wa pi) 3 0))) := hD
      refine lv_if_ne (tgt := 168) hx hb dL_act_161 (by decide) (fun c_161 => absurd (hI3.sw0 (gi_si_s _ _ _)) c_161) (fun _ => ?_)
      refine lv_iconst (v := 1) hx hb dL_act_164 (by decide) ?_
      refine lv_goto (tgt := 169) hx hb dL_act_165 (by decide) ?_
      refine W.widen (k := 1) (n := 6) (Nat.le_of_ble_eq_true rfl) (Nat.le_of_ble_eq_true rfl) ?_
      exact W.zret (v := 1) hx hb hr rfl (fun t ht hW => ⟨⟨1, (XW ad cI cJ (coDrop co (blw (k1 >>> (4 &&& 31)) (imax 1 (gi co 0)))) (frPf (coDrop co (blw (k1 >>> (4 &&& 31)) (imax 1 (gi co 0)))) (si (frPf co fl pi) 2 0) (si (frP co fl wa pi) 3 0)) (si ra 2 0) (si li 1 0) (si re 1 0) (frPw (coDrop co (blw (k1 >>> (4 &&& 31)) (imax 1 (gi co 0)))) (si (frPf co fl pi) 2 0) (frPw co fl wa pi) (si (frP co fl wa pi) 3 0)) (frP (coDrop co (blw (k1 >>> (4 &&& 31)) (imax 1 (gi co 0)))) (si (frPf co fl pi) 2 0) (frPw co fl wa pi) (si (frP co fl wa pi) 3 0))), rfl, ⟨rfl, (n - 1), _, _, _, _, _, _, _, rfl, hI4⟩, ⟨by rw [ht]; exact hP, va_K.moved hW.alike hK, hD⟩⟩, hS.F ht⟩) hS.2.2 dL_act_169
  · refine lv_tableIn (off := 141) (tgt := 170) hx hb dL_act_29 (by rw [ej, nI_toInt (by omega)]; omega) (by rw [ej, nI_toInt (by omega)]; omega) (by rw [ej]; rcases hgr with rfl | rfl <;> rfl) (by decide) ?_
    rcases Nat.eq_zero_or_pos n with hn | hn
    · have hn0 := hn
      refine lv_aload_n hx hb dL_act_170 rfl (lv_at hl 3 rfl) ?_
      refine lv_iload hx hb dL_act_171 (lv_at hl 0 rfl) ?_
      refine kXI (rXV (q0 := 0) (ci := 7) hx hb hml hown hg hN hK hP hD hST hSR hS hA (x_targetOf l hfl D cI cJ ad co (frPf co fl pi) ra li re (frPw co fl wa pi) (frP co fl wa pi) (blw (k1 >>> (4 &&& 31)) (imax 1 (gi co 0))) (act_k0 hI.co0 hI.n19 _) (act_kn hI.co0 hn _)) mw_560 mw_561 mw_562 mw_563 mw_77 pdv_X7_targetOf ⟨Nat.le_of_ble_eq_true rfl, Nat.le_of_ble_eq_true rfl⟩ rfl xo0 rfl hl.1 rfl (Nat.le_of_ble_eq_true rfl) dL_act_173 ⟨Nat.le_of_ble_eq_true rfl, Nat.le_of_ble_eq_true rfl⟩) hD hS hA (fun ce q9 H locs hpx hP hD hS h1 h2 h3 => ?_) (fun r_15 u_15 H locs hp hP hD hS => ?_)
      · refine vx_catch (name := EIOB) (E := EIOB) hown (tableOf [(23, 144, 329, 75), (145, 169, 329, 75)]) ⟨170, 211, 329, 75⟩ (tableOf [(212, 261, 329, 75), (262, 325, 329, 75), (23, 144, 353, 77), (145, 169, 353, 77), (170, 211, 353, 77), (212, 261, 353, 77), (262, 325, 353, 77)]) (by rw [htab]; rfl) (List.forall_mem_cons.mpr ⟨Or.inl (by decide), List.forall_mem_cons.mpr ⟨Or.inl (by decide), fun z hz => absurd hz List.not_mem_nil⟩⟩) (by decide) (by decide) (hg _ mw_559) (hN.use nw_107) h1 h2 h3 ?_
        refine lv_astore (lv' := [(5, .ref q9), (4, .int (blw (k1 >>> (4 &&& 31)) (imax 1 (gi co 0)))), (3, .int (gi (frP co fl wa pi) 2)), (2, .int (gi co 0)), (0, .ref (ad 0)), (1, .int k1)]) hx hb dL_act_329 hl (by decide) rfl (fun ls hl => ?_)
        refine lv_aload_n hx hb dL_act_331 rfl (lv_at hl 4 rfl) ?_
        refine kI (rV (q0 := 0) (ci := 7) hx hb hml hown hg hN hK hP hD (c_instructions l D cI cJ ad co (frPf co fl pi) ra li re (frPw co fl wa pi) (frP co fl wa pi)) mw_538 mw_539 mw_540 mw_541 mw_77 pdv_X7_instructions ⟨Nat.le_of_ble_eq_true rfl, Nat.le_of_ble_eq_true rfl⟩ rfl xo0 rfl hl.1 rfl (Nat.le_of_ble_eq_true rfl) dL_act_332 ⟨Nat.le_of_ble_eq_true rfl, Nat.le_of_ble_eq_true rfl⟩) hD hS hA (fun r_16 u_16 H locs hp hP hD hS => ?_)
        obtain ⟨er, eu⟩ := hp
        obtain rfl := er.symm
        obtain rfl := eu.symm
        refine lv_iload_n hx hb dL_act_335 rfl (lv_at hl 3 rfl) ?_
        refine lv_icmp_ne (tgt := 351) hx hb dL_act_336 (by decide) (fun c_336 => absurd rfl c_336) (fun _ => ?_)
        refine lv_aload_n hx hb dL_act_339 rfl (lv_at hl 4 rfl) ?_
        refine kI (rV (q0 := 0) (ci := 7) hx hb hml hown hg hN hK hP hD (a_swept l D cI cJ ad co (frPf co fl pi) ra li re (frPw co fl wa pi) (frP co fl wa pi) zp) mw_542 mw_543 mw_544 mw_545 mw_77 pdv_X7_swept ⟨Nat.le_of_ble_eq_true rfl, Nat.le_of_ble_eq_true rfl⟩ rfl xo0 rfl hl.1 rfl (Nat.le_of_ble_eq_true rfl) dL_act_340 ⟨Nat.le_of_ble_eq_true rfl, Nat.le_of_ble_eq_true rfl⟩) hD hS hA (fun r_17 u_17 H locs hp hP hD hS => ?_)
        obtain ⟨er, eu⟩ := hp
        obtain rfl := er.symm
        obtain rfl := eu.symm
        refine lv_iload_n hx hb dL_act_343 rfl (lv_at hl 2 rfl) ?_
        refine lv_icmp_ne (tgt := 351) hx hb dL_act_344 (by decide) (fun c_344 => absurd rfl c_344) (fun _ => ?_)
        refine lv_iconst (v := 1) hx hb dL_act_347 (by decide) ?_
        refine lv_goto (tgt := 352) hx hb dL_act_348 (by decide) ?_
        exact W.zret (v := 1) hx hb hr rfl (fun t ht hW => ⟨⟨1, (XW ad cI cJ co (frPf co fl pi) ra li re (frPw co fl wa pi) (frP co fl wa pi)), rfl, ⟨rfl, n, _, _, _, _, _, _, _, rfl, hI2⟩, ⟨by rw [ht]; exact hP, va_K.moved hW.alike hK, hD⟩⟩, hS.F ht⟩) hS.2.2 dL_act_352
      · exact hp.elim
    · have hn0 := hn
      refine lv_aload_n hx hb dL_act_170 rfl (lv_at hl 3 rfl) ?_
      refine lv_iload hx hb dL_act_171 (lv_at hl 0 rfl) ?_
      refine kI (rV (q0 := 0) (ci := 7) hx hb hml hown hg hN hK hP hD (c_targetOf l D cI cJ ad co (frPf co fl pi) ra li re (frPw co fl wa pi) (frP co fl wa pi) (blw (k1 >>> (4 &&& 31)) (imax 1 (gi co 0))) (act_k0 hI.co0 hI.n19 _) (act_k1 hI.co0 hI.n19 hn _)) mw_560 mw_561 mw_562 mw_563 mw_77 pdv_X7_targetOf ⟨Nat.le_of_ble_eq_true rfl, Nat.le_of_ble_eq_true rfl⟩ rfl xo0 rfl hl.1 rfl (Nat.le_of_ble_eq_true rfl) dL_act_173 ⟨Nat.le_of_ble_eq_true rfl, Nat.le_of_ble_eq_true rfl⟩) hD hS hA (fun r_18 u_18 H locs hp hP hD hS => ?_)
      obtain ⟨er, eu⟩ := hp
      obtain rfl := er.symm
      obtain rfl := eu.symm
      refine lv_istore (lv' := [(5, .int (rd (gA co 1) 40 (blw (k1 >>> (4 &&& 31)) (imax 1 (gi co 0))))), (4, .int (blw (k1 >>> (4 &&& 31)) (imax 1 (gi co 0)))), (3, .int (gi (frP co fl wa pi) 2)), (2, .int (gi co 0)), (0, .ref (ad 0)), (1, .int k1)]) hx hb dL_act_176 hl (by decide) rfl (fun ls hl => ?_)
      refine lv_aload_n hx hb dL_act_178 rfl (lv_at hl 4 rfl) ?_
      refine lv_iload hx hb dL_act_179 (lv_at hl 1 rfl) ?_
      refine lv_iload_n hx hb dL_act_181 rfl (lv_at hl 5 rfl) ?_
      refine lv_bipush (v := 6) hx hb dL_act_182 (by decide) ?_
      refine lv_ishr hx hb dL_act_184 ?_
      refine lv_iload_n hx hb dL_act_185 rfl (lv_at hl 3 rfl) ?_
      refine lv_iconst (v := 2) hx hb dL_act_186 (by decide) ?_
      refine lv_iadd hx hb dL_act_187 ?_
      refine kI (rS hx hb hml hown hg hN hK hP hD (c_below l D cI cJ (XW ad cI cJ co (frPf co fl pi) ra li re (frPw co fl wa pi) (frP co fl wa pi)) (k1 >>> (6 &&& 31)) ((gi co 0) + 2) (act_ni hI.co0 hI.n19 2 (by decide) (by decide) rfl)) mw_547 mw_548 mw_549 mw_550 pd_L_below ⟨Nat.le_of_ble_eq_true rfl, Nat.le_of_ble_eq_true rfl⟩ rfl hl.1 rfl (Nat.le_of_ble_eq_true rfl) dL_act_188 ⟨Nat.le_of_ble_eq_true rfl, Nat.le_of_ble_eq_true rfl⟩) hD hS hA (fun r_19 u_19 H locs hp hP hD hS => ?_)
      obtain ⟨er, eu⟩ := hp
      obtain rfl := er.symm
      obtain rfl := eu.symm
      by_cases hj : ¬ jmp (rd (gA co 0) 40 (blw (k1 >>> (4 &&& 31)) (imax 1 (gi co 0)))) = true
      · have hj2 := hj
        refine kXI (rXV (q0 := 0) (ci := 7) hx hb hml hown hg hN hK hP hD hST hSR hS hA (x_setTarget l hfl D cI cJ ad co (frPf co fl pi) ra li re (frPw co fl wa pi) (frP co fl wa pi) (blw (k1 >>> (4 &&& 31)) (imax 1 (gi co 0))) (blw (k1 >>> (6 &&& 31)) ((gi co 0) + 2)) (act_k0 hI.co0 hI.n19 _) (act_k1 hI.co0 hI.n19 hn _) hj) mw_564 mw_565 mw_566 mw_567 mw_77 pdv_X7_setTarget ⟨Nat.le_of_ble_eq_true rfl, Nat.le_of_ble_eq_true rfl⟩ rfl xo0 rfl hl.1 rfl (Nat.le_of_ble_eq_true rfl) dL_act_191 ⟨Nat.le_of_ble_eq_true rfl, Nat.le_of_ble_eq_true rfl⟩) hD hS hA (fun ce q9 H locs hpx hP hD hS h1 h2 h3 => ?_) (fun r_20 u_20 H locs hp hP hD hS => ?_)
        · refine vx_catch (name := EIAE) (E := EIAE) hown (tableOf [(23, 144, 329, 75), (145, 169, 329, 75), (170, 211, 329, 75), (212, 261, 329, 75), (262, 325, 329, 75), (23, 144, 353, 77), (145, 169, 353, 77)]) ⟨170, 211, 353, 77⟩ (tableOf [(212, 261, 353, 77), (262, 325, 353, 77)]) (by rw [htab]; rfl) (List.forall_mem_cons.mpr ⟨Or.inl (by decide), List.forall_mem_cons.mpr ⟨Or.inl (by decide), List.forall_mem_cons.mpr ⟨Or.inr ⟨by decide, _, hg _ mw_559, hSR.2⟩, List.forall_mem_cons.mpr ⟨Or.inl (by decide), List.forall_mem_cons.mpr ⟨Or.inl (by decide), List.forall_mem_cons.mpr ⟨Or.inl (by decide), List.forall_mem_cons.mpr ⟨Or.inl (by decide), fun z hz => absurd hz List.not_mem_nil⟩⟩⟩⟩⟩⟩⟩) (by decide) (by decide) (hg _ mw_568) (hN.use nw_99) h1 h2 h3 ?_
          refine lv_astore (lv' := [(5, .ref q9), (4, .int (blw (k1 >>> (4 &&& 31)) (imax 1 (gi co 0)))), (3, .int (gi (frP co fl wa pi) 2)), (2, .int (gi co 0)), (0, .ref (ad 0)), (1, .int k1)]) hx hb dL_act_353 hl (by decide) rfl (fun ls hl => ?_)
          refine lv_aload_n hx hb dL_act_355 rfl (lv_at hl 4 rfl) ?_
          refine kI (rV (q0 := 0) (ci := 7) hx hb hml hown hg hN hK hP hD (c_instructions l D cI cJ ad co (frPf co fl pi) ra li re (frPw co fl wa pi) (frP co fl wa pi)) mw_538 mw_539 mw_540 mw_541 mw_77 pdv_X7_instructions ⟨Nat.le_of_ble_eq_true rfl, Nat.le_of_ble_eq_true rfl⟩ rfl xo0 rfl hl.1 rfl (Nat.le_of_ble_eq_true rfl) dL_act_356 ⟨Nat.le_of_ble_eq_true rfl, Nat.le_of_ble_eq_true rfl⟩) hD hS hA (fun r_21 u_21 H locs hp hP hD hS => ?_)
          obtain ⟨er, eu⟩ := hp
          obtain rfl := er.symm
          obtain rfl := eu.symm
          refine lv_iload_n hx hb dL_act_359 rfl (lv_at hl 3 rfl) ?_
          refine lv_icmp_ne (tgt := 375) hx hb dL_act_360 (by decide) (fun c_360 => absurd rfl c_360) (fun _ => ?_)
          refine lv_aload_n hx hb dL_act_363 rfl (lv_at hl 4 rfl) ?_
          refine kI (rV (q0 := 0) (ci := 7) hx hb hml hown hg hN hK hP hD (a_swept l D cI cJ ad co (frPf co fl pi) ra li re (frPw co fl wa pi) (frP co fl wa pi) zp) mw_542 mw_543 mw_544 mw_545 mw_77 pdv_X7_swept ⟨Nat.le_of_ble_eq_true rfl, Nat.le_of_ble_eq_true rfl⟩ rfl xo0 rfl hl.1 rfl (Nat.le_of_ble_eq_true rfl) dL_act_364 ⟨Nat.le_of_ble_eq_true rfl, Nat.le_of_ble_eq_true rfl⟩) hD hS hA (fun r_22 u_22 H locs hp hP hD hS => ?_)
          obtain ⟨er, eu⟩ := hp
          obtain rfl := er.symm
          obtain rfl := eu.symm
          refine lv_iload_n hx hb dL_act_367 rfl (lv_at hl 2 rfl) ?_
          refine lv_icmp_ne (tgt := 375) hx hb dL_act_368 (by decide) (fun c_368 => absurd rfl c_368) (fun _ => ?_)
          refine lv_iconst (v := 1) hx hb dL_act_371 (by decide) ?_
          refine lv_goto (tgt := 376) hx hb dL_act_372 (by decide) ?_
          exact W.zret (v := 1) hx hb hr rfl (fun t ht hW => ⟨⟨1, (XW ad cI cJ co (frPf co fl pi) ra li re (frPw co fl wa pi) (frP co fl wa pi)), rfl, ⟨rfl, n, _, _, _, _, _, _, _, rfl, hI2⟩, ⟨by rw [ht]; exact hP, va_K.moved hW.alike hK, hD⟩⟩, hS.F ht⟩) hS.2.2 dL_act_376
        · exact hp.elim
      · have hj := Classical.not_not.mp hj
        have hj2 := hj
        refine kI (rV (q0 := 0) (ci := 7) hx hb hml hown hg hN hK hP hD (c_setTarget l D cI cJ ad co (frPf co fl pi) ra li re (frPw co fl wa pi) (frP co fl wa pi) (blw (k1 >>> (4 &&& 31)) (imax 1 (gi co 0))) (blw (k1 >>> (6 &&& 31)) ((gi co 0) + 2)) (act_k0 hI.co0 hI.n19 _) (act_k1 hI.co0 hI.n19 hn _) hj (tgt_ok hI.co0 hI.n19 _ 2 (by decide) (by decide) rfl)) mw_564 mw_565 mw_566 mw_567 mw_77 pdv_X7_setTarget ⟨Nat.le_of_ble_eq_true rfl, Nat.le_of_ble_eq_true rfl⟩ rfl xo0 rfl hl.1 rfl (Nat.le_of_ble_eq_true rfl) dL_act_191 ⟨Nat.le_of_ble_eq_true rfl, Nat.le_of_ble_eq_true rfl⟩) hD hS hA (fun r_23 u_23 H locs hp hP hD hS => ?_)
        obtain ⟨er, eu⟩ := hp
        obtain rfl := er.symm
        obtain rfl := eu.symm
        have hP : va_P D vwCl (XW ad cI cJ (sA co 1 (wr (gA co 1) 40 (blw (k1 >>> (4 &&& 31)) (imax 1 (gi co 0))) (blw (k1 >>> (6 &&& 31)) ((gi co 0) + 2)))) (si (frPf co fl pi) 2 0) (si ra 2 0) (si li 1 0) (si re 1 0) (frPw co fl wa pi) (si (frP co fl wa pi) 3 0)) H := hP
        have hD : va_D A (XW ad cI cJ (sA co 1 (wr (gA co 1) 40 (blw (k1 >>> (4 &&& 31)) (imax 1 (gi co 0))) (blw (k1 >>> (6 &&& 31)) ((gi co 0) + 2)))) (si (frPf co fl pi) 2 0) (si ra 2 0) (si li 1 0) (si re 1 0) (frPw co fl wa pi) (si (frP co fl wa pi) 3 0)) := hD
        have hI3 := hI2.change (show gi (sA co 1 (wr (gA co 1) 40 (blw (k1 >>> (4 &&& 31)) (imax 1 (gi co 0))) (blw (k1 >>> (6 &&& 31)) ((gi co 0) + 2)))) 0 = nI n from (gi_sA _ _ _ _).trans hI.co0) hI.n19
        obtain ⟨hI4, -, -⟩ := hI3.pic
        refine lv_iload hx hb dL_act_194 (lv_at hl 0 rfl) ?_
        refine lv_icmp_ne (tgt := 210) hx hb dL_act_196 (by decide) (fun c_196 => absurd rfl c_196) (fun _ => ?_)
        refine lv_aload_n hx hb dL_act_199 rfl (lv_at hl 4 rfl) ?_
        refine kI (rV (q0 := 0) (ci := 7) hx hb hml hown hg hN hK hP hD (c_sweptG l D cI cJ ad (sA co 1 (wr (gA co 1) 40 (blw (k1 >>> (4 &&& 31)) (imax 1 (gi co 0))) (blw (k1 >>> (6 &&& 31)) ((gi co 0) + 2)))) (si (frPf co fl pi) 2 0) (si ra 2 0) (si li 1 0) (si re 1 0) (frPw co fl wa pi) (si (frP co fl wa pi) 3 0)) mw_542 mw_543 mw_544 mw_545 mw_77 pdv_X7_swept ⟨Nat.le_of_ble_eq_true rfl, Nat.le_of_ble_eq_true rfl⟩ rfl xo0 rfl hl.1 rfl (Nat.le_of_ble_eq_true rfl) dL_act_200 ⟨Nat.le_of_ble_eq_true rfl, Nat.le_of_ble_eq_true rfl⟩) hD hS hA (fun r_24 u_24 H locs hp hP hD hS => ?_)
        obtain ⟨er, eu⟩ := hp
        obtain rfl := er.symm
        obtain rfl := eu.symm
        have hP : va_P D vwCl (XW ad cI cJ (sA co 1 (wr (gA co 1) 40 (blw (k1 >>> (4 &&& 31)) (imax 1 (gi co 0))) (blw (k1 >>> (6 &&& 31)) ((gi co 0) + 2)))) (frPf (sA co 1 (wr (gA co 1) 40 (blw (k1 >>> (4 &&& 31)) (imax 1 (gi co 0))) (blw (k1 >>> (6 &&& 31)) ((gi co 0) + 2)))) (si (frPf co fl pi) 2 0) (si (frP co fl wa pi) 3 0)) (si ra 2 0) (si li 1 0) (si re 1 0) (frPw (sA co 1 (wr (gA co 1) 40 (blw (k1 >>> (4 &&& 31)) (imax 1 (gi co 0))) (blw (k1 >>> (6 &&& 31)) ((gi co 0) + 2)))) (si (frPf co fl pi) 2 0) (frPw co fl wa pi) (si (frP co fl wa pi) 3 0)) (frP (sA co 1 (wr (gA co 1) 40 (blw (k1 >>> (4 &&& 31)) (imax 1 (gi co 0))) (blw (k1 >>> (6 &&& 31)) ((gi co 0) + 2)))) (si (frPf co fl pi) 2 0) (frPw co fl wa pi) (si (frP co fl wa pi) 3 0))) H := hP
        have hD : va_D A (XW ad cI cJ (sA co 1 (wr (gA co 1) 40 (blw (k1 >>> (4 &&& 31)) (imax 1 (gi co 0))) (blw (k1 >>> (6 &&& 31)) ((gi co 0) + 2)))) (frPf (sA co 1 (wr (gA co 1) 40 (blw (k1 >>> (4 &&& 31)) (imax 1 (gi co 0))) (blw (k1 >>> (6 &&& 31)) ((gi co 0) + 2)))) (si (frPf co fl pi) 2 0) (si (frP co fl wa pi) 3 0)) (si ra 2 0) (si li 1 0) (si re 1 0) (frPw (sA co 1 (wr (gA co 1) 40 (blw (k1 >>> (4 &&& 31)) (imax 1 (gi co 0))) (blw (k1 >>> (6 &&& 31)) ((gi co 0) + 2)))) (si (frPf co fl pi) 2 0) (frPw co fl wa pi) (si (frP co fl wa pi) 3 0)) (frP (sA co 1 (wr (gA co 1) 40 (blw (k1 >>> (4 &&& 31)) (imax 1 (gi co 0))) (blw (k1 >>> (6 &&& 31)) ((gi co 0) + 2)))) (si (frPf co fl pi) 2 0) (frPw co fl wa pi) (si (frP co fl wa pi) 3 0))) := hD
        refine lv_if_ne (tgt := 210) hx hb dL_act_203 (by decide) (fun c_203 => absurd (hI3.sw0 (gi_si_s _ _ _)) c_203) (fun _ => ?_)
        refine lv_iconst (v := 1) hx hb dL_act_206 (by decide) ?_
        refine lv_goto (tgt := 211) hx hb dL_act_207 (by decide) ?_
        refine W.widen (k := 1) (n := 6) (Nat.le_of_ble_eq_true rfl) (Nat.le_of_ble_eq_true rfl) ?_
        exact W.zret (v := 1) hx hb hr rfl (fun t ht hW => ⟨⟨1, (XW ad cI cJ (sA co 1 (wr (gA co 1) 40 (blw (k1 >>> (4 &&& 31)) (imax 1 (gi co 0))) (blw (k1 >>> (6 &&& 31)) ((gi co 0) + 2)))) (frPf (sA co 1 (wr (gA co 1) 40 (blw (k1 >>> (4 &&& 31)) (imax 1 (gi co 0))) (blw (k1 >>> (6 &&& 31)) ((gi co 0) + 2)))) (si (frPf co fl pi) 2 0) (si (frP co fl wa pi) 3 0)) (si ra 2 0) (si li 1 0) (si re 1 0) (frPw (sA co 1 (wr (gA co 1) 40 (blw (k1 >>> (4 &&& 31)) (imax 1 (gi co 0))) (blw (k1 >>> (6 &&& 31)) ((gi co 0) + 2)))) (si (frPf co fl pi) 2 0) (frPw co fl wa pi) (si (frP co fl wa pi) 3 0)) (frP (sA co 1 (wr (gA co 1) 40 (blw (k1 >>> (4 &&& 31)) (imax 1 (gi co 0))) (blw (k1 >>> (6 &&& 31)) ((gi co 0) + 2)))) (si (frPf co fl pi) 2 0) (frPw co fl wa pi) (si (frP co fl wa pi) 3 0))), rfl, ⟨rfl, n, _, _, _, _, _, _, _, rfl, hI4⟩, ⟨by rw [ht]; exact hP, va_K.moved hW.alike hK, hD⟩⟩, hS.F ht⟩) hS.2.2 dL_act_211
  · refine lv_tableIn (off := 183) (tgt := 212) hx hb dL_act_29 (by rw [ej, nI_toInt (by omega)]; omega) (by rw [ej, nI_toInt (by omega)]; omega) (by rw [ej]; rcases hgr with rfl | rfl <;> rfl) (by decide) ?_
    rcases Nat.eq_zero_or_pos n with hn | hn
    · have hn0 := hn
      refine lv_aload_n hx hb dL_act_212 rfl (lv_at hl 3 rfl) ?_
      refine lv_iload hx hb dL_act_213 (lv_at hl 0 rfl) ?_
      refine lv_iload_n hx hb dL_act_215 rfl (lv_at hl 4 rfl) ?_
      refine lv_bipush (v := 6) hx hb dL_act_216 (by decide) ?_
      refine lv_ishr hx hb dL_act_218 ?_
      refine lv_bipush (v := 9) hx hb dL_act_219 (by decide) ?_
      refine kI (rS hx hb hml hown hg hN hK hP hD (c_below l D cI cJ (XW ad cI cJ co (frPf co fl pi) ra li re (frPw co fl wa pi) (frP co fl wa pi)) (k1 >>> (6 &&& 31)) 9 (by decide)) mw_547 mw_548 mw_549 mw_550 pd_L_below ⟨Nat.le_of_ble_eq_true rfl, Nat.le_of_ble_eq_true rfl⟩ rfl hl.1 rfl (Nat.le_of_ble_eq_true rfl) dL_act_221 ⟨Nat.le_of_ble_eq_true rfl, Nat.le_of_ble_eq_true rfl⟩) hD hS hA (fun r_25 u_25 H locs hp hP hD hS => ?_)
      obtain ⟨er, eu⟩ := hp
      obtain rfl := er.symm
      obtain rfl := eu.symm
      refine lv_iconst (v := 1) hx hb dL_act_224 (by decide) ?_
      refine lv_isub hx hb dL_act_225 ?_
      refine lv_iload_n hx hb dL_act_226 rfl (lv_at hl 4 rfl) ?_
      refine lv_bipush (v := 8) hx hb dL_act_227 (by decide) ?_
      refine lv_ishr hx hb dL_act_229 ?_
      refine lv_sipush (v := 256) hx hb dL_act_230 (by decide) ?_
      refine kI (rS hx hb hml hown hg hN hK hP hD (c_below l D cI cJ (XW ad cI cJ co (frPf co fl pi) ra li re (frPw co fl wa pi) (frP co fl wa pi)) (k1 >>> (8 &&& 31)) 256 (by decide)) mw_547 mw_548 mw_549 mw_550 pd_L_below ⟨Nat.le_of_ble_eq_true rfl, Nat.le_of_ble_eq_true rfl⟩ rfl hl.1 rfl (Nat.le_of_ble_eq_true rfl) dL_act_233 ⟨Nat.le_of_ble_eq_true rfl, Nat.le_of_ble_eq_true rfl⟩) hD hS hA (fun r_26 u_26 H locs hp hP hD hS => ?_)
      obtain ⟨er, eu⟩ := hp
      obtain rfl := er.symm
      obtain rfl := eu.symm
      refine kXI (rXV (q0 := 0) (ci := 7) hx hb hml hown hg hN hK hP hD hST hSR hS hA (x_setUse l hfl D cI cJ ad co (frPf co fl pi) ra li re (frPw co fl wa pi) (frP co fl wa pi) (blw (k1 >>> (4 &&& 31)) (imax 1 (gi co 0))) ((blw (k1 >>> (6 &&& 31)) 9) - 1) (blw (k1 >>> (8 &&& 31)) 256) (act_k0 hI.co0 hI.n19 _) (act_kn hI.co0 hn _)) mw_569 mw_570 mw_571 mw_572 mw_77 pdv_X7_setUse ⟨Nat.le_of_ble_eq_true rfl, Nat.le_of_ble_eq_true rfl⟩ rfl xo0 rfl hl.1 rfl (Nat.le_of_ble_eq_true rfl) dL_act_236 ⟨Nat.le_of_ble_eq_true rfl, Nat.le_of_ble_eq_true rfl⟩) hD hS hA (fun ce q9 H locs hpx hP hD hS h1 h2 h3 => ?_) (fun r_27 u_27 H locs hp hP hD hS => ?_)
      · refine vx_catch (name := EIOB) (E := EIOB) hown (tableOf [(23, 144, 329, 75), (145, 169, 329, 75), (170, 211, 329, 75)]) ⟨212, 261, 329, 75⟩ (tableOf [(262, 325, 329, 75), (23, 144, 353, 77), (145, 169, 353, 77), (170, 211, 353, 77), (212, 261, 353, 77), (262, 325, 353, 77)]) (by rw [htab]; rfl) (List.forall_mem_cons.mpr ⟨Or.inl (by decide), List.forall_mem_cons.mpr ⟨Or.inl (by decide), List.forall_mem_cons.mpr ⟨Or.inl (by decide), fun z hz => absurd hz List.not_mem_nil⟩⟩⟩) (by decide) (by decide) (hg _ mw_559) (hN.use nw_107) h1 h2 h3 ?_
        refine lv_astore (lv' := [(5, .ref q9), (4, .int (blw (k1 >>> (4 &&& 31)) (imax 1 (gi co 0)))), (3, .int (gi (frP co fl wa pi) 2)), (2, .int (gi co 0)), (0, .ref (ad 0)), (1, .int k1)]) hx hb dL_act_329 hl (by decide) rfl (fun ls hl => ?_)
        refine lv_aload_n hx hb dL_act_331 rfl (lv_at hl 4 rfl) ?_
        refine kI (rV (q0 := 0) (ci := 7) hx hb hml hown hg hN hK hP hD (c_instructions l D cI cJ ad co (frPf co fl pi) ra li re (frPw co fl wa pi) (frP co fl wa pi)) mw_538 mw_539 mw_540 mw_541 mw_77 pdv_X7_instructions ⟨Nat.le_of_ble_eq_true rfl, Nat.le_of_ble_eq_true rfl⟩ rfl xo0 rfl hl.1 rfl (Nat.le_of_ble_eq_true rfl) dL_act_332 ⟨Nat.le_of_ble_eq_true rfl, Nat.le_of_ble_eq_true rfl⟩) hD hS hA (fun r_28 u_28 H locs hp hP hD hS => ?_)
        obtain ⟨er, eu⟩ := hp
        obtain rfl := er.symm
        obtain rfl := eu.symm
        refine lv_iload_n hx hb dL_act_335 rfl (lv_at hl 3 rfl) ?_
        refine lv_icmp_ne (tgt := 351) hx hb dL_act_336 (by decide) (fun c_336 => absurd rfl c_336) (fun _ => ?_)
        refine lv_aload_n hx hb dL_act_339 rfl (lv_at hl 4 rfl) ?_
        refine kI (rV (q0 := 0) (ci := 7) hx hb hml hown hg hN hK hP hD (a_swept l D cI cJ ad co (frPf co fl pi) ra li re (frPw co fl wa pi) (frP co fl wa pi) zp) mw_542 mw_543 mw_544 mw_545 mw_77 pdv_X7_swept ⟨Nat.le_of_ble_eq_true rfl, Nat.le_of_ble_eq_true rfl⟩ rfl xo0 rfl hl.1 rfl (Nat.le_of_ble_eq_true rfl) dL_act_340 ⟨Nat.le_of_ble_eq_true rfl, Nat.le_of_ble_eq_true rfl⟩) hD hS hA (fun r_29 u_29 H locs hp hP hD hS => ?_)
        obtain ⟨er, eu⟩ := hp
        obtain rfl := er.symm
        obtain rfl := eu.symm
        refine lv_iload_n hx hb dL_act_343 rfl (lv_at hl 2 rfl) ?_
        refine lv_icmp_ne (tgt := 351) hx hb dL_act_344 (by decide) (fun c_344 => absurd rfl c_344) (fun _ => ?_)
        refine lv_iconst (v := 1) hx hb dL_act_347 (by decide) ?_
        refine lv_goto (tgt := 352) hx hb dL_act_348 (by decide) ?_
        exact W.zret (v := 1) hx hb hr rfl (fun t ht hW => ⟨⟨1, (XW ad cI cJ co (frPf co fl pi) ra li re (frPw co fl wa pi) (frP co fl wa pi)), rfl, ⟨rfl, n, _, _, _, _, _, _, _, rfl, hI2⟩, ⟨by rw [ht]; exact hP, va_K.moved hW.alike hK, hD⟩⟩, hS.F ht⟩) hS.2.2 dL_act_352
      · exact hp.elim
    · have hn0 := hn
      refine lv_aload_n hx hb dL_act_212 rfl (lv_at hl 3 rfl) ?_
      refine lv_iload hx hb dL_act_213 (lv_at hl 0 rfl) ?_
      refine lv_iload_n hx hb dL_act_215 rfl (lv_at hl 4 rfl) ?_
      refine lv_bipush (v := 6) hx hb dL_act_216 (by decide) ?_
      refine lv_ishr hx hb dL_act_218 ?_
      refine lv_bipush (v := 9) hx hb dL_act_219 (by decide) ?_
      refine kI (rS hx hb hml hown hg hN hK hP hD (c_below l D cI cJ (XW ad cI cJ co (frPf co fl pi) ra li re (frPw co fl wa pi) (frP co fl wa pi)) (k1 >>> (6 &&& 31)) 9 (by decide)) mw_547 mw_548 mw_549 mw_550 pd_L_below ⟨Nat.le_of_ble_eq_true rfl, Nat.le_of_ble_eq_true rfl⟩ rfl hl.1 rfl (Nat.le_of_ble_eq_true rfl) dL_act_221 ⟨Nat.le_of_ble_eq_true rfl, Nat.le_of_ble_eq_true rfl⟩) hD hS hA (fun r_30 u_30 H locs hp hP hD hS => ?_)
      obtain ⟨er, eu⟩ := hp
      obtain rfl := er.symm
      obtain rfl := eu.symm
      refine lv_iconst (v := 1) hx hb dL_act_224 (by decide) ?_
      refine lv_isub hx hb dL_act_225 ?_
      refine lv_iload_n hx hb dL_act_226 rfl (lv_at hl 4 rfl) ?_
      refine lv_bipush (v := 8) hx hb dL_act_227 (by decide) ?_
      refine lv_ishr hx hb dL_act_229 ?_
      refine lv_sipush (v := 256) hx hb dL_act_230 (by decide) ?_
      refine kI (rS hx hb hml hown hg hN hK hP hD (c_below l D cI cJ (XW ad cI cJ co (frPf co fl pi) ra li re (frPw co fl wa pi) (frP co fl wa pi)) (k1 >>> (8 &&& 31)) 256 (by decide)) mw_547 mw_548 mw_549 mw_550 pd_L_below ⟨Nat.le_of_ble_eq_true rfl, Nat.le_of_ble_eq_true rfl⟩ rfl hl.1 rfl (Nat.le_of_ble_eq_true rfl) dL_act_233 ⟨Nat.le_of_ble_eq_true rfl, Nat.le_of_ble_eq_true rfl⟩) hD hS hA (fun r_31 u_31 H locs hp hP hD hS => ?_)
      obtain ⟨er, eu⟩ := hp
      obtain rfl := er.symm
      obtain rfl := eu.symm
      refine kI (rV (q0 := 0) (ci := 7) hx hb hml hown hg hN hK hP hD (c_setUse l D cI cJ ad co (frPf co fl pi) ra li re (frPw co fl wa pi) (frP co fl wa pi) (blw (k1 >>> (4 &&& 31)) (imax 1 (gi co 0))) ((blw (k1 >>> (6 &&& 31)) 9) - 1) (blw (k1 >>> (8 &&& 31)) 256) (act_k0 hI.co0 hI.n19 _) (act_k1 hI.co0 hI.n19 hn _) (use_s _).1 (use_s _).2 (use_u _).1 (use_u _).2) mw_569 mw_570 mw_571 mw_572 mw_77 pdv_X7_setUse ⟨Nat.le_of_ble_eq_true rfl, Nat.le_of_ble_eq_true rfl⟩ rfl xo0 rfl hl.1 rfl (Nat.le_of_ble_eq_true rfl) dL_act_236 ⟨Nat.le_of_ble_eq_true rfl, Nat.le_of_ble_eq_true rfl⟩) hD hS hA (fun r_32 u_32 H locs hp hP hD hS => ?_)
      obtain ⟨er, eu⟩ := hp
      obtain rfl := er.symm
      obtain rfl := eu.symm
      have hP : va_P D vwCl (XW ad cI cJ (sA (sA co 2 (wr (gA co 2) 40 (blw (k1 >>> (4 &&& 31)) (imax 1 (gi co 0))) ((blw (k1 >>> (6 &&& 31)) 9) - 1))) 3 (wr (gA co 3) 40 (blw (k1 >>> (4 &&& 31)) (imax 1 (gi co 0))) (blw (k1 >>> (8 &&& 31)) 256))) (frPf co fl pi) ra (si li 1 0) re (frPw co fl wa pi) (frP co fl wa pi)) H := hP
      have hD : va_D A (XW ad cI cJ (sA (sA co 2 (wr (gA co 2) 40 (blw (k1 >>> (4 &&& 31)) (imax 1 (gi co 0))) ((blw (k1 >>> (6 &&& 31)) 9) - 1))) 3 (wr (gA co 3) 40 (blw (k1 >>> (4 &&& 31)) (imax 1 (gi co 0))) (blw (k1 >>> (8 &&& 31)) 256))) (frPf co fl pi) ra (si li 1 0) re (frPw co fl wa pi) (frP co fl wa pi)) := hD
      have hI3 := hI2.use (co2 := (sA (sA co 2 (wr (gA co 2) 40 (blw (k1 >>> (4 &&& 31)) (imax 1 (gi co 0))) ((blw (k1 >>> (6 &&& 31)) 9) - 1))) 3 (wr (gA co 3) 40 (blw (k1 >>> (4 &&& 31)) (imax 1 (gi co 0))) (blw (k1 >>> (8 &&& 31)) 256)))) (by simp only [gi_sA])
      refine lv_pop hx hb dL_act_239 rfl ?_
      refine lv_aload_n hx hb dL_act_240 rfl (lv_at hl 3 rfl) ?_
      refine kI (rV (q0 := 0) (ci := 7) hx hb hml hown hg hN hK hP hD (a_swept l D cI cJ ad (sA (sA co 2 (wr (gA co 2) 40 (blw (k1 >>> (4 &&& 31)) (imax 1 (gi co 0))) ((blw (k1 >>> (6 &&& 31)) 9) - 1))) 3 (wr (gA co 3) 40 (blw (k1 >>> (4 &&& 31)) (imax 1 (gi co 0))) (blw (k1 >>> (8 &&& 31)) 256))) (frPf co fl pi) ra (si li 1 0) re (frPw co fl wa pi) (frP co fl wa pi) zp) mw_542 mw_543 mw_544 mw_545 mw_77 pdv_X7_swept ⟨Nat.le_of_ble_eq_true rfl, Nat.le_of_ble_eq_true rfl⟩ rfl xo0 rfl hl.1 rfl (Nat.le_of_ble_eq_true rfl) dL_act_241 ⟨Nat.le_of_ble_eq_true rfl, Nat.le_of_ble_eq_true rfl⟩) hD hS hA (fun r_33 u_33 H locs hp hP hD hS => ?_)
      obtain ⟨er, eu⟩ := hp
      obtain rfl := er.symm
      obtain rfl := eu.symm
      refine lv_iload_n hx hb dL_act_244 rfl (lv_at hl 1 rfl) ?_
      refine lv_icmp_ne (tgt := 260) hx hb dL_act_245 (by decide) (fun c_245 => absurd rfl c_245) (fun _ => ?_)
      refine lv_aload_n hx hb dL_act_248 rfl (lv_at hl 3 rfl) ?_
      refine kI (rV (q0 := 0) (ci := 7) hx hb hml hown hg hN hK hP hD (c_instructions l D cI cJ ad (sA (sA co 2 (wr (gA co 2) 40 (blw (k1 >>> (4 &&& 31)) (imax 1 (gi co 0))) ((blw (k1 >>> (6 &&& 31)) 9) - 1))) 3 (wr (gA co 3) 40 (blw (k1 >>> (4 &&& 31)) (imax 1 (gi co 0))) (blw (k1 >>> (8 &&& 31)) 256))) (frPf co fl pi) ra (si li 1 0) re (frPw co fl wa pi) (frP co fl wa pi)) mw_538 mw_539 mw_540 mw_541 mw_77 pdv_X7_instructions ⟨Nat.le_of_ble_eq_true rfl, Nat.le_of_ble_eq_true rfl⟩ rfl xo0 rfl hl.1 rfl (Nat.le_of_ble_eq_true rfl) dL_act_249 ⟨Nat.le_of_ble_eq_true rfl, Nat.le_of_ble_eq_true rfl⟩) hD hS hA (fun r_34 u_34 H locs hp hP hD hS => ?_)
      obtain ⟨er, eu⟩ := hp
      obtain rfl := er.symm
      obtain rfl := eu.symm
      refine lv_iload_n hx hb dL_act_252 rfl (lv_at hl 2 rfl) ?_
      refine lv_icmp_ne (tgt := 260) hx hb dL_act_253 (by decide) (fun c_253 => absurd (by simp only [gi_sA]) c_253) (fun _ => ?_)
      refine lv_iconst (v := 1) hx hb dL_act_256 (by decide) ?_
      refine lv_goto (tgt := 261) hx hb dL_act_257 (by decide) ?_
      refine W.widen (k := 1) (n := 6) (Nat.le_of_ble_eq_true rfl) (Nat.le_of_ble_eq_true rfl) ?_
      exact W.zret (v := 1) hx hb hr rfl (fun t ht hW => ⟨⟨1, (XW ad cI cJ (sA (sA co 2 (wr (gA co 2) 40 (blw (k1 >>> (4 &&& 31)) (imax 1 (gi co 0))) ((blw (k1 >>> (6 &&& 31)) 9) - 1))) 3 (wr (gA co 3) 40 (blw (k1 >>> (4 &&& 31)) (imax 1 (gi co 0))) (blw (k1 >>> (8 &&& 31)) 256))) (frPf co fl pi) ra (si li 1 0) re (frPw co fl wa pi) (frP co fl wa pi)), rfl, ⟨rfl, n, _, _, _, _, _, _, _, rfl, hI3⟩, ⟨by rw [ht]; exact hP, va_K.moved hW.alike hK, hD⟩⟩, hS.F ht⟩) hS.2.2 dL_act_261
  · refine lv_tableOut (tgt := 262) hx hb dL_act_29 (Or.inr (by rw [ej, nI_toInt (by omega)]; omega)) (by decide) ?_
    refine lv_iconst (v := 1) hx hb dL_act_262 (by decide) ?_
    refine lv_iload_n hx hb dL_act_263 rfl (lv_at hl 4 rfl) ?_
    refine lv_iconst (v := 5) hx hb dL_act_264 (by decide) ?_
    refine lv_ishr hx hb dL_act_265 ?_
    refine lv_iconst (v := 3) hx hb dL_act_266 (by decide) ?_
    refine kI (rS hx hb hml hown hg hN hK hP hD (c_below l D cI cJ (XW ad cI cJ co (frPf co fl pi) ra li re (frPw co fl wa pi) (frP co fl wa pi)) (k1 >>> (5 &&& 31)) 3 (by decide)) mw_547 mw_548 mw_549 mw_550 pd_L_below ⟨Nat.le_of_ble_eq_true rfl, Nat.le_of_ble_eq_true rfl⟩ rfl hl.1 rfl (Nat.le_of_ble_eq_true rfl) dL_act_267 ⟨Nat.le_of_ble_eq_true rfl, Nat.le_of_ble_eq_true rfl⟩) hD hS hA (fun r_35 u_35 H locs hp hP hD hS => ?_)
    obtain ⟨er, eu⟩ := hp
    obtain rfl := er.symm
    obtain rfl := eu.symm
    refine lv_iadd hx hb dL_act_270 ?_
    refine lv_istore (lv' := [(6, .int ((1 : Int32) + (blw (k1 >>> (5 &&& 31)) 3))), (4, .int (blw (k1 >>> (4 &&& 31)) (imax 1 (gi co 0)))), (3, .int (gi (frP co fl wa pi) 2)), (2, .int (gi co 0)), (0, .ref (ad 0)), (1, .int k1)]) hx hb dL_act_271 hl (by decide) rfl (fun ls hl => ?_)
    refine lv_aload_n hx hb dL_act_273 rfl (lv_at hl 4 rfl) ?_
    refine lv_iload hx hb dL_act_274 (lv_at hl 0 rfl) ?_
    refine kI (rV (q0 := 0) (ci := 7) hx hb hml hown hg hN hK hP hD (a_wouldCross l D cI cJ ad co (frPf co fl pi) ra li re (frPw co fl wa pi) (frP co fl wa pi) ((1 : Int32) + (blw (k1 >>> (5 &&& 31)) 3)) zp (swp_m _).1 (swp_m _).2.1) mw_573 mw_574 mw_575 mw_576 mw_77 pdv_X7_wouldCross ⟨Nat.le_of_ble_eq_true rfl, Nat.le_of_ble_eq_true rfl⟩ rfl xo0 rfl hl.1 rfl (Nat.le_of_ble_eq_true rfl) dL_act_276 ⟨Nat.le_of_ble_eq_true rfl, Nat.le_of_ble_eq_true rfl⟩) hD hS hA (fun r_36 u_36 H locs hp hP hD hS => ?_)
    obtain ⟨er, eu⟩ := hp
    obtain rfl := er.symm
    obtain rfl := eu.symm
    have hP : va_P D vwCl (XW ad cI cJ co (frPf co fl pi) ra li re (frPw co fl wa pi) (tryOut (frPw co fl wa pi) (frP co fl wa pi) ((1 : Int32) + (blw (k1 >>> (5 &&& 31)) 3)))) H := hP
    have hD : va_D A (XW ad cI cJ co (frPf co fl pi) ra li re (frPw co fl wa pi) (tryOut (frPw co fl wa pi) (frP co fl wa pi) ((1 : Int32) + (blw (k1 >>> (5 &&& 31)) 3)))) := hD
    obtain ⟨hr5, hq5, hI5⟩ := hI2.tryo zp ((1 : Int32) + (blw (k1 >>> (5 &&& 31)) 3))
    have zp5 : ¬ gi (tryOut (frPw co fl wa pi) (frP co fl wa pi) ((1 : Int32) + (blw (k1 >>> (5 &&& 31)) 3))) 3 = 0 := by rw [hr5.gi 3]; exact zp
    obtain ⟨hI6, hs6⟩ := hI5.sweep zp5 ((1 : Int32) + (blw (k1 >>> (5 &&& 31)) 3))
    have zp6 : ¬ gi (sweepOften (frPw co fl wa pi) (tryOut (frPw co fl wa pi) (frP co fl wa pi) ((1 : Int32) + (blw (k1 >>> (5 &&& 31)) 3))) ((1 : Int32) + (blw (k1 >>> (5 &&& 31)) 3))) 3 = 0 := by rw [k_swp3]; exact zp5
    obtain ⟨hI7, hr7, -⟩ := hI6.cross zp6
    have zp7 : ¬ gi (countCross (frPw co fl wa pi) (sweepOften (frPw co fl wa pi) (tryOut (frPw co fl wa pi) (frP co fl wa pi) ((1 : Int32) + (blw (k1 >>> (5 &&& 31)) 3))) ((1 : Int32) + (blw (k1 >>> (5 &&& 31)) 3)))).1 3 = 0 := by rw [hr7.gi 3]; exact zp6
    obtain ⟨hI8, hr8, -⟩ := hI7.cross zp7
    have zp8 := fun z => zp7 ((hr8.gi 3).symm.trans z)
    have hc8 := cross_same hI6 zp6
    refine lv_istore (lv' := [(7, .int (toQ (frPw co fl wa pi) (frP co fl wa pi) ((1 : Int32) + (blw (k1 >>> (5 &&& 31)) 3))).2), (6, .int ((1 : Int32) + (blw (k1 >>> (5 &&& 31)) 3))), (4, .int (blw (k1 >>> (4 &&& 31)) (imax 1 (gi co 0)))), (3, .int (gi (frP co fl wa pi) 2)), (2, .int (gi co 0)), (0, .ref (ad 0)), (1, .int k1)]) hx hb dL_act_279 hl (by decide) rfl (fun ls hl => ?_)
    refine lv_aload_n hx hb dL_act_281 rfl (lv_at hl 5 rfl) ?_
    refine kI (rV (q0 := 0) (ci := 7) hx hb hml hown hg hN hK hP hD (a_swept l D cI cJ ad co (frPf co fl pi) ra li re (frPw co fl wa pi) (tryOut (frPw co fl wa pi) (frP co fl wa pi) ((1 : Int32) + (blw (k1 >>> (5 &&& 31)) 3))) zp5) mw_542 mw_543 mw_544 mw_545 mw_77 pdv_X7_swept ⟨Nat.le_of_ble_eq_true rfl, Nat.le_of_ble_eq_true rfl⟩ rfl xo0 rfl hl.1 rfl (Nat.le_of_ble_eq_true rfl) dL_act_282 ⟨Nat.le_of_ble_eq_true rfl, Nat.le_of_ble_eq_true rfl⟩) hD hS hA (fun r_37 u_37 H locs hp hP hD hS => ?_)
    obtain ⟨er, eu⟩ := hp
    obtain rfl := er.symm
    obtain rfl := eu.symm
    refine lv_iload_n hx hb dL_act_285 rfl (lv_at hl 3 rfl) ?_
    refine lv_icmp_ne (tgt := 324) hx hb dL_act_286 (by decide) (fun c_286 => absurd (hr5.gi 2) c_286) (fun _ => ?_)
    refine lv_aload_n hx hb dL_act_289 rfl (lv_at hl 5 rfl) ?_
    refine lv_iload hx hb dL_act_290 (lv_at hl 1 rfl) ?_
    refine kI (rV (q0 := 0) (ci := 7) hx hb hml hown hg hN hK hP hD (a_sweep l D cI cJ ad co (frPf co fl pi) ra li re (frPw co fl wa pi) (tryOut (frPw co fl wa pi) (frP co fl wa pi) ((1 : Int32) + (blw (k1 >>> (5 &&& 31)) 3))) ((1 : Int32) + (blw (k1 >>> (5 &&& 31)) 3)) zp5 (swp_m _).1 (swp_m _).2.1) mw_577 mw_578 mw_579 mw_580 mw_77 pdv_X7_sweep ⟨Nat.le_of_ble_eq_true rfl, Nat.le_of_ble_eq_true rfl⟩ rfl xo0 rfl hl.1 rfl (Nat.le_of_ble_eq_true rfl) dL_act_292 ⟨Nat.le_of_ble_eq_true rfl, Nat.le_of_ble_eq_true rfl⟩) hD hS hA (fun r_38 u_38 H locs hp hP hD hS => ?_)
    obtain ⟨er, eu⟩ := hp
    obtain rfl := er.symm
    obtain rfl := eu.symm
    have hP : va_P D vwCl (XW ad cI cJ co (frPf co fl pi) ra li re (frPw co fl wa pi) (countCross (frPw co fl wa pi) (sweepOften (frPw co fl wa pi) (tryOut (frPw co fl wa pi) (frP co fl wa pi) ((1 : Int32) + (blw (k1 >>> (5 &&& 31)) 3))) ((1 : Int32) + (blw (k1 >>> (5 &&& 31)) 3)))).1) H := hP
    have hD : va_D A (XW ad cI cJ co (frPf co fl pi) ra li re (frPw co fl wa pi) (countCross (frPw co fl wa pi) (sweepOften (frPw co fl wa pi) (tryOut (frPw co fl wa pi) (frP co fl wa pi) ((1 : Int32) + (blw (k1 >>> (5 &&& 31)) 3))) ((1 : Int32) + (blw (k1 >>> (5 &&& 31)) 3)))).1) := hD
    refine lv_iload hx hb dL_act_295 (lv_at hl 0 rfl) ?_
    refine lv_icmp_ne (tgt := 324) hx hb dL_act_297 (by decide) (fun c_297 => absurd hq5.symm c_297) (fun _ => ?_)
    refine lv_aload_n hx hb dL_act_300 rfl (lv_at hl 5 rfl) ?_
    refine kI (rV (q0 := 0) (ci := 7) hx hb hml hown hg hN hK hP hD (a_crossings l D cI cJ ad co (frPf co fl pi) ra li re (frPw co fl wa pi) (countCross (frPw co fl wa pi) (sweepOften (frPw co fl wa pi) (tryOut (frPw co fl wa pi) (frP co fl wa pi) ((1 : Int32) + (blw (k1 >>> (5 &&& 31)) 3))) ((1 : Int32) + (blw (k1 >>> (5 &&& 31)) 3)))).1 zp7) mw_581 mw_582 mw_583 mw_584 mw_77 pdv_X7_crossings ⟨Nat.le_of_ble_eq_true rfl, Nat.le_of_ble_eq_true rfl⟩ rfl xo0 rfl hl.1 rfl (Nat.le_of_ble_eq_true rfl) dL_act_301 ⟨Nat.le_of_ble_eq_true rfl, Nat.le_of_ble_eq_true rfl⟩) hD hS hA (fun r_39 u_39 H locs hp hP hD hS => ?_)
    obtain ⟨er, eu⟩ := hp
    obtain rfl := er.symm
    obtain rfl := eu.symm
    have hP : va_P D vwCl (XW ad cI cJ co (frPf co fl pi) ra li re (frPw co fl wa pi) (countCross (frPw co fl wa pi) (countCross (frPw co fl wa pi) (sweepOften (frPw co fl wa pi) (tryOut (frPw co fl wa pi) (frP co fl wa pi) ((1 : Int32) + (blw (k1 >>> (5 &&& 31)) 3))) ((1 : Int32) + (blw (k1 >>> (5 &&& 31)) 3)))).1).1) H := hP
    have hD : va_D A (XW ad cI cJ co (frPf co fl pi) ra li re (frPw co fl wa pi) (countCross (frPw co fl wa pi) (countCross (frPw co fl wa pi) (sweepOften (frPw co fl wa pi) (tryOut (frPw co fl wa pi) (frP co fl wa pi) ((1 : Int32) + (blw (k1 >>> (5 &&& 31)) 3))) ((1 : Int32) + (blw (k1 >>> (5 &&& 31)) 3)))).1).1) := hD
    refine lv_iload hx hb dL_act_304 (lv_at hl 0 rfl) ?_
    refine lv_icmp_ne (tgt := 324) hx hb dL_act_306 (by decide) (fun c_306 => absurd (hc8.trans hq5.symm) c_306) (fun _ => ?_)
    refine lv_aload_n hx hb dL_act_309 rfl (lv_at hl 5 rfl) ?_
    refine kI (rV (q0 := 0) (ci := 7) hx hb hml hown hg hN hK hP hD (a_swept l D cI cJ ad co (frPf co fl pi) ra li re (frPw co fl wa pi) (countCross (frPw co fl wa pi) (countCross (frPw co fl wa pi) (sweepOften (frPw co fl wa pi) (tryOut (frPw co fl wa pi) (frP co fl wa pi) ((1 : Int32) + (blw (k1 >>> (5 &&& 31)) 3))) ((1 : Int32) + (blw (k1 >>> (5 &&& 31)) 3)))).1).1 zp8) mw_542 mw_543 mw_544 mw_545 mw_77 pdv_X7_swept ⟨Nat.le_of_ble_eq_true rfl, Nat.le_of_ble_eq_true rfl⟩ rfl xo0 rfl hl.1 rfl (Nat.le_of_ble_eq_true rfl) dL_act_310 ⟨Nat.le_of_ble_eq_true rfl, Nat.le_of_ble_eq_true rfl⟩) hD hS hA (fun r_40 u_40 H locs hp hP hD hS => ?_)
    obtain ⟨er, eu⟩ := hp
    obtain rfl := er.symm
    obtain rfl := eu.symm
    refine lv_iload_n hx hb dL_act_313 rfl (lv_at hl 3 rfl) ?_
    refine lv_iload hx hb dL_act_314 (lv_at hl 1 rfl) ?_
    refine lv_iadd hx hb dL_act_316 ?_
    refine lv_icmp_ne (tgt := 324) hx hb dL_act_317 (by decide) (fun c_317 => absurd (act_sw hr5 hs6 hr7 hr8) c_317) (fun _ => ?_)
    refine lv_iconst (v := 1) hx hb dL_act_320 (by decide) ?_
    refine lv_goto (tgt := 325) hx hb dL_act_321 (by decide) ?_
    refine W.widen (k := 1) (n := 6) (Nat.le_of_ble_eq_true rfl) (Nat.le_of_ble_eq_true rfl) ?_
    exact W.zret (v := 1) hx hb hr rfl (fun t ht hW => ⟨⟨1, (XW ad cI cJ co (frPf co fl pi) ra li re (frPw co fl wa pi) (countCross (frPw co fl wa pi) (countCross (frPw co fl wa pi) (sweepOften (frPw co fl wa pi) (tryOut (frPw co fl wa pi) (frP co fl wa pi) ((1 : Int32) + (blw (k1 >>> (5 &&& 31)) 3))) ((1 : Int32) + (blw (k1 >>> (5 &&& 31)) 3)))).1).1), rfl, ⟨rfl, n, _, _, _, _, _, _, _, rfl, hI8⟩, ⟨by rw [ht]; exact hP, va_K.moved hW.alike hK, hD⟩⟩, hS.F ht⟩) hS.2.2 dL_act_325
