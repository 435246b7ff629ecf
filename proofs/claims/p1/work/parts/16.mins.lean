theorem dX8_insert_0 : decode cX8_insert 0 = .ok (.aload_n 0, 1) := by decide +kernel
theorem dX8_insert_1 : decode cX8_insert 1 = .ok (.iconst 0, 1) := by decide +kernel
theorem dX8_insert_2 : decode cX8_insert 2 = .ok (.putfield 74, 3) := by decide +kernel
theorem dX8_insert_5 : decode cX8_insert 5 = .ok (.iload_n 1, 1) := by decide +kernel
theorem dX8_insert_6 : decode cX8_insert 6 = .ok (.iconst 0, 1) := by decide +kernel
theorem dX8_insert_7 : decode cX8_insert 7 = .ok (.aload_n 0, 1) := by decide +kernel
theorem dX8_insert_8 : decode cX8_insert 8 = .ok (.getfield 78, 3) := by decide +kernel
theorem dX8_insert_11 : decode cX8_insert 11 = .ok (.invokestatic 261, 3) := by decide +kernel
theorem dX8_insert_14 : decode cX8_insert 14 = .ok (.ifCond .eq 29, 3) := by decide +kernel
theorem dX8_insert_17 : decode cX8_insert 17 = .ok (.iload_n 2, 1) := by decide +kernel
theorem dX8_insert_18 : decode cX8_insert 18 = .ok (.iconst 0, 1) := by decide +kernel
theorem dX8_insert_19 : decode cX8_insert 19 = .ok (.iconst 3, 1) := by decide +kernel
theorem dX8_insert_20 : decode cX8_insert 20 = .ok (.invokestatic 261, 3) := by decide +kernel
theorem dX8_insert_23 : decode cX8_insert 23 = .ok (.ifCond .eq 20, 3) := by decide +kernel
theorem dX8_insert_26 : decode cX8_insert 26 = .ok (.iload_n 2, 1) := by decide +kernel
theorem dX8_insert_27 : decode cX8_insert 27 = .ok (.invokestatic 264, 3) := by decide +kernel
theorem dX8_insert_30 : decode cX8_insert 30 = .ok (.ifCond .eq 19, 3) := by decide +kernel
theorem dX8_insert_33 : decode cX8_insert 33 = .ok (.iload_n 3, 1) := by decide +kernel
theorem dX8_insert_34 : decode cX8_insert 34 = .ok (.iconst 0, 1) := by decide +kernel
theorem dX8_insert_35 : decode cX8_insert 35 = .ok (.bipush 40, 2) := by decide +kernel
theorem dX8_insert_37 : decode cX8_insert 37 = .ok (.invokestatic 261, 3) := by decide +kernel
theorem dX8_insert_40 : decode cX8_insert 40 = .ok (.ifCond .ne 9, 3) := by decide +kernel
theorem dX8_insert_43 : decode cX8_insert 43 = .ok (.aload_n 0, 1) := by decide +kernel
theorem dX8_insert_44 : decode cX8_insert 44 = .ok (.iconst 1, 1) := by decide +kernel
theorem dX8_insert_45 : decode cX8_insert 45 = .ok (.invokevirtual 267, 3) := by decide +kernel
theorem dX8_insert_48 : decode cX8_insert 48 = .ok (.ireturn, 1) := by decide +kernel
theorem dX8_insert_49 : decode cX8_insert 49 = .ok (.aload_n 0, 1) := by decide +kernel
theorem dX8_insert_50 : decode cX8_insert 50 = .ok (.getfield 78, 3) := by decide +kernel
theorem dX8_insert_53 : decode cX8_insert 53 = .ok (.bipush 40, 2) := by decide +kernel
theorem dX8_insert_55 : decode cX8_insert 55 = .ok (.if_icmp .ne 9, 3) := by decide +kernel
theorem dX8_insert_64 : decode cX8_insert 64 = .ok (.aload_n 0, 1) := by decide +kernel
theorem dX8_insert_65 : decode cX8_insert 65 = .ok (.getfield 78, 3) := by decide +kernel
theorem dX8_insert_68 : decode cX8_insert 68 = .ok (.istore 4, 2) := by decide +kernel
theorem dX8_insert_70 : decode cX8_insert 70 = .ok (.iload 4, 2) := by decide +kernel
theorem dX8_insert_72 : decode cX8_insert 72 = .ok (.iload_n 1, 1) := by decide +kernel
theorem dX8_insert_73 : decode cX8_insert 73 = .ok (.if_icmp .le 19, 3) := by decide +kernel
theorem dX8_insert_92 : decode cX8_insert 92 = .ok (.aload_n 0, 1) := by decide +kernel
theorem dX8_insert_93 : decode cX8_insert 93 = .ok (.dup, 1) := by decide +kernel
theorem dX8_insert_94 : decode cX8_insert 94 = .ok (.getfield 78, 3) := by decide +kernel
theorem dX8_insert_97 : decode cX8_insert 97 = .ok (.iconst 1, 1) := by decide +kernel
theorem dX8_insert_98 : decode cX8_insert 98 = .ok (.iadd, 1) := by decide +kernel
theorem dX8_insert_99 : decode cX8_insert 99 = .ok (.putfield 78, 3) := by decide +kernel
theorem dX8_insert_102 : decode cX8_insert 102 = .ok (.iconst 0, 1) := by decide +kernel
theorem dX8_insert_103 : decode cX8_insert 103 = .ok (.istore 4, 2) := by decide +kernel
theorem dX8_insert_105 : decode cX8_insert 105 = .ok (.iload 4, 2) := by decide +kernel
theorem dX8_insert_107 : decode cX8_insert 107 = .ok (.aload_n 0, 1) := by decide +kernel
theorem dX8_insert_108 : decode cX8_insert 108 = .ok (.getfield 78, 3) := by decide +kernel
theorem dX8_insert_111 : decode cX8_insert 111 = .ok (.if_icmp .ge 49, 3) := by decide +kernel
theorem dX8_insert_114 : decode cX8_insert 114 = .ok (.iload 4, 2) := by decide +kernel
theorem dX8_insert_116 : decode cX8_insert 116 = .ok (.iload_n 1, 1) := by decide +kernel
theorem dX8_insert_117 : decode cX8_insert 117 = .ok (.if_icmp .eq 37, 3) := by decide +kernel
theorem dX8_insert_154 : decode cX8_insert 154 = .ok (.iinc 4 1, 3) := by decide +kernel
theorem dX8_insert_157 : decode cX8_insert 157 = .ok (.goto (-52), 3) := by decide +kernel
theorem dX8_insert_160 : decode cX8_insert 160 = .ok (.aload_n 0, 1) := by decide +kernel
theorem dX8_insert_161 : decode cX8_insert 161 = .ok (.getfield 9, 3) := by decide +kernel
theorem dX8_insert_164 : decode cX8_insert 164 = .ok (.iload_n 1, 1) := by decide +kernel
theorem dX8_insert_165 : decode cX8_insert 165 = .ok (.iload_n 2, 1) := by decide +kernel
theorem dX8_insert_166 : decode cX8_insert 166 = .ok (.iastore, 1) := by decide +kernel
theorem dX8_insert_167 : decode cX8_insert 167 = .ok (.aload_n 0, 1) := by decide +kernel
theorem dX8_insert_168 : decode cX8_insert 168 = .ok (.getfield 13, 3) := by decide +kernel
theorem dX8_insert_171 : decode cX8_insert 171 = .ok (.iload_n 1, 1) := by decide +kernel
theorem dX8_insert_172 : decode cX8_insert 172 = .ok (.iload_n 2, 1) := by decide +kernel
theorem dX8_insert_173 : decode cX8_insert 173 = .ok (.invokestatic 264, 3) := by decide +kernel
theorem dX8_insert_176 : decode cX8_insert 176 = .ok (.ifCond .eq 7, 3) := by decide +kernel
theorem dX8_insert_179 : decode cX8_insert 179 = .ok (.iload_n 3, 1) := by decide +kernel
theorem dX8_insert_180 : decode cX8_insert 180 = .ok (.goto 4, 3) := by decide +kernel
theorem dX8_insert_183 : decode cX8_insert 183 = .ok (.iconst 0, 1) := by decide +kernel
theorem dX8_insert_184 : decode cX8_insert 184 = .ok (.iastore, 1) := by decide +kernel
theorem dX8_insert_185 : decode cX8_insert 185 = .ok (.aload_n 0, 1) := by decide +kernel
theorem dX8_insert_186 : decode cX8_insert 186 = .ok (.getfield 16, 3) := by decide +kernel
theorem dX8_insert_189 : decode cX8_insert 189 = .ok (.iload_n 1, 1) := by decide +kernel
theorem dX8_insert_190 : decode cX8_insert 190 = .ok (.iconst (-1), 1) := by decide +kernel
theorem dX8_insert_191 : decode cX8_insert 191 = .ok (.iastore, 1) := by decide +kernel
theorem dX8_insert_192 : decode cX8_insert 192 = .ok (.aload_n 0, 1) := by decide +kernel
theorem dX8_insert_193 : decode cX8_insert 193 = .ok (.getfield 19, 3) := by decide +kernel
theorem dX8_insert_196 : decode cX8_insert 196 = .ok (.iload_n 1, 1) := by decide +kernel
theorem dX8_insert_197 : decode cX8_insert 197 = .ok (.iconst 0, 1) := by decide +kernel
theorem dX8_insert_198 : decode cX8_insert 198 = .ok (.iastore, 1) := by decide +kernel
theorem dX8_insert_199 : decode cX8_insert 199 = .ok (.aload_n 0, 1) := by decide +kernel
theorem dX8_insert_200 : decode cX8_insert 200 = .ok (.invokevirtual 273, 3) := by decide +kernel
theorem dX8_insert_203 : decode cX8_insert 203 = .ok (.aload_n 0, 1) := by decide +kernel
theorem dX8_insert_204 : decode cX8_insert 204 = .ok (.getfield 78, 3) := by decide +kernel
theorem dX8_insert_207 : decode cX8_insert 207 = .ok (.ireturn, 1) := by decide +kernel
theorem dX8_sweep_0 : decode cX8_sweep 0 = .ok (.aload_n 0, 1) := by decide +kernel
theorem dX8_sweep_1 : decode cX8_sweep 1 = .ok (.iconst 0, 1) := by decide +kernel
theorem dX8_sweep_2 : decode cX8_sweep 2 = .ok (.putfield 74, 3) := by decide +kernel
theorem dX8_sweep_5 : decode cX8_sweep 5 = .ok (.iload_n 1, 1) := by decide +kernel
theorem dX8_sweep_6 : decode cX8_sweep 6 = .ok (.iconst 1, 1) := by decide +kernel
theorem dX8_sweep_7 : decode cX8_sweep 7 = .ok (.bipush 20, 2) := by decide +kernel
theorem dX8_sweep_9 : decode cX8_sweep 9 = .ok (.invokestatic 261, 3) := by decide +kernel
theorem dX8_sweep_12 : decode cX8_sweep 12 = .ok (.ifCond .ne 9, 3) := by decide +kernel
theorem dX8_sweep_15 : decode cX8_sweep 15 = .ok (.aload_n 0, 1) := by decide +kernel
theorem dX8_sweep_16 : decode cX8_sweep 16 = .ok (.iconst 1, 1) := by decide +kernel
theorem dX8_sweep_17 : decode cX8_sweep 17 = .ok (.invokevirtual 267, 3) := by decide +kernel
theorem dX8_sweep_20 : decode cX8_sweep 20 = .ok (.ireturn, 1) := by decide +kernel
theorem dX8_sweep_21 : decode cX8_sweep 21 = .ok (.aload_n 0, 1) := by decide +kernel
theorem dX8_sweep_22 : decode cX8_sweep 22 = .ok (.invokevirtual 279, 3) := by decide +kernel
theorem dX8_sweep_25 : decode cX8_sweep 25 = .ok (.aload_n 0, 1) := by decide +kernel
theorem dX8_sweep_26 : decode cX8_sweep 26 = .ok (.aload_n 0, 1) := by decide +kernel
theorem dX8_sweep_27 : decode cX8_sweep 27 = .ok (.getfield 70, 3) := by decide +kernel
theorem dX8_sweep_30 : decode cX8_sweep 30 = .ok (.iload_n 1, 1) := by decide +kernel
theorem dX8_sweep_31 : decode cX8_sweep 31 = .ok (.invokevirtual 335, 3) := by decide +kernel
theorem dX8_sweep_34 : decode cX8_sweep 34 = .ok (.istore_n 2, 1) := by decide +kernel
theorem dX8_sweep_35 : decode cX8_sweep 35 = .ok (.aload_n 0, 1) := by decide +kernel
theorem dX8_sweep_36 : decode cX8_sweep 36 = .ok (.dup, 1) := by decide +kernel
theorem dX8_sweep_37 : decode cX8_sweep 37 = .ok (.getfield 228, 3) := by decide +kernel
theorem dX8_sweep_40 : decode cX8_sweep 40 = .ok (.iload_n 1, 1) := by decide +kernel
theorem dX8_sweep_41 : decode cX8_sweep 41 = .ok (.iadd, 1) := by decide +kernel
theorem dX8_sweep_42 : decode cX8_sweep 42 = .ok (.putfield 228, 3) := by decide +kernel
theorem dX8_sweep_45 : decode cX8_sweep 45 = .ok (.iload_n 2, 1) := by decide +kernel
theorem dX8_sweep_46 : decode cX8_sweep 46 = .ok (.ireturn, 1) := by decide +kernel
theorem dX8_wouldCross_0 : decode cX8_wouldCross 0 = .ok (.aload_n 0, 1) := by decide +kernel
theorem dX8_wouldCross_1 : decode cX8_wouldCross 1 = .ok (.iconst 0, 1) := by decide +kernel
theorem dX8_wouldCross_2 : decode cX8_wouldCross 2 = .ok (.putfield 74, 3) := by decide +kernel
theorem dX8_wouldCross_5 : decode cX8_wouldCross 5 = .ok (.iload_n 1, 1) := by decide +kernel
theorem dX8_wouldCross_6 : decode cX8_wouldCross 6 = .ok (.iconst 1, 1) := by decide +kernel
theorem dX8_wouldCross_7 : decode cX8_wouldCross 7 = .ok (.bipush 20, 2) := by decide +kernel
theorem dX8_wouldCross_9 : decode cX8_wouldCross 9 = .ok (.invokestatic 261, 3) := by decide +kernel
theorem dX8_wouldCross_12 : decode cX8_wouldCross 12 = .ok (.ifCond .ne 9, 3) := by decide +kernel
theorem dX8_wouldCross_15 : decode cX8_wouldCross 15 = .ok (.aload_n 0, 1) := by decide +kernel
theorem dX8_wouldCross_16 : decode cX8_wouldCross 16 = .ok (.iconst 1, 1) := by decide +kernel
theorem dX8_wouldCross_17 : decode cX8_wouldCross 17 = .ok (.invokevirtual 267, 3) := by decide +kernel
theorem dX8_wouldCross_20 : decode cX8_wouldCross 20 = .ok (.ireturn, 1) := by decide +kernel
theorem dX8_wouldCross_21 : decode cX8_wouldCross 21 = .ok (.aload_n 0, 1) := by decide +kernel
theorem dX8_wouldCross_22 : decode cX8_wouldCross 22 = .ok (.invokevirtual 279, 3) := by decide +kernel
theorem dX8_wouldCross_25 : decode cX8_wouldCross 25 = .ok (.aload_n 0, 1) := by decide +kernel
theorem dX8_wouldCross_26 : decode cX8_wouldCross 26 = .ok (.aload_n 0, 1) := by decide +kernel
theorem dX8_wouldCross_27 : decode cX8_wouldCross 27 = .ok (.getfield 70, 3) := by decide +kernel
theorem dX8_wouldCross_30 : decode cX8_wouldCross 30 = .ok (.invokevirtual 338, 3) := by decide +kernel
theorem dX8_wouldCross_33 : decode cX8_wouldCross 33 = .ok (.checkcast 339, 3) := by decide +kernel
theorem dX8_wouldCross_36 : decode cX8_wouldCross 36 = .ok (.iload_n 1, 1) := by decide +kernel
theorem dX8_wouldCross_37 : decode cX8_wouldCross 37 = .ok (.invokevirtual 335, 3) := by decide +kernel
theorem dX8_wouldCross_40 : decode cX8_wouldCross 40 = .ok (.ireturn, 1) := by decide +kernel
theorem mw_450 : Cond.code yX8_isJump cX8_isJump 1 (some Jvm.ClassFile.FieldType.boolean) ∈ GW := gw_mem (inT6 _ (List.mem_of_getElem? (i := 33) rfl)) rfl
theorem mw_451 : Cond.methodLink RX8 264 yX8_isJump ∈ GW := gw_mem (inT6 _ (List.mem_of_getElem? (i := 31) rfl)) rfl
theorem mw_452 : Cond.static yX8_isJump ∈ GW := gw_mem (inT6 _ (List.mem_of_getElem? (i := 32) rfl)) rfl
theorem mw_453 : Cond.fieldLink RX8 9 "OrielChartModel" "kind" "[I" ∈ GW := gw_mem (inT5 _ (List.mem_of_getElem? (i := 164) rfl)) rfl
theorem mw_454 : Cond.fieldLink RX8 13 "OrielChartModel" "target" "[I" ∈ GW := gw_mem (inT5 _ (List.mem_of_getElem? (i := 165) rfl)) rfl
theorem mw_455 : Cond.fieldLink RX8 16 "OrielChartModel" "sets" "[I" ∈ GW := gw_mem (inT5 _ (List.mem_of_getElem? (i := 166) rfl)) rfl
theorem mw_456 : Cond.fieldLink RX8 19 "OrielChartModel" "uses" "[I" ∈ GW := gw_mem (inT5 _ (List.mem_of_getElem? (i := 167) rfl)) rfl
theorem mw_457 : Cond.code yX8_beginAnew cX8_beginAnew 1 (none : Option FieldType) ∈ GW := gw_mem (inT6 _ (List.mem_of_getElem? (i := 45) rfl)) rfl
theorem mw_458 : Cond.methodLink RX8 273 yX8_beginAnew ∈ GW := gw_mem (inT6 _ (List.mem_of_getElem? (i := 42) rfl)) rfl
theorem mw_459 : Cond.instanceMethod yX8_beginAnew ∈ GW := gw_mem (inT6 _ (List.mem_of_getElem? (i := 44) rfl)) rfl
theorem mw_460 : Cond.selects RX8 yX8_beginAnew yX8_beginAnew ∈ GW := gw_mem (inTp (q := (yX8_beginAnew, 32)) (List.mem_of_getElem? (i := 51) rfl)) rfl
theorem mw_461 : Cond.code yX8_swept cX8_swept 4 (some Jvm.ClassFile.FieldType.int) ∈ GW := gw_mem (inT7 _ (List.mem_of_getElem? (i := 192) rfl)) rfl
theorem mw_462 : Cond.methodLink RX8 335 yX8_swept ∈ GW := gw_mem (inT7 _ (List.mem_of_getElem? (i := 189) rfl)) rfl
theorem mw_463 : Cond.instanceMethod yX8_swept ∈ GW := gw_mem (inT7 _ (List.mem_of_getElem? (i := 191) rfl)) rfl
theorem mw_464 : Cond.selects RX8 yX8_swept yX8_swept ∈ GW := gw_mem (inTp (q := (yX8_swept, 32)) (List.mem_of_getElem? (i := 97) rfl)) rfl
theorem mw_465 : Cond.methodLink RX8 338 ⟨"[[I", "clone", "()Ljava/lang/Object;"⟩ ∈ GW := gw_mem (inT7 _ (List.mem_of_getElem? (i := 209) rfl)) rfl
theorem mw_466 : Cond.sameMethod "[[I" "java/lang/Object" "clone" "()Ljava/lang/Object;" ∈ GW := gw_mem (inT7 _ (List.mem_of_getElem? (i := 210) rfl)) rfl
theorem mw_467 : Cond.native ⟨"java/lang/Object", "clone", "()Ljava/lang/Object;"⟩ ∈ GW := gw_mem (inT6 _ (List.mem_of_getElem? (i := 225) rfl)) rfl
theorem mw_468 : Cond.instanceMethod ⟨"java/lang/Object", "clone", "()Ljava/lang/Object;"⟩ ∈ GW := gw_mem (inT6 _ (List.mem_of_getElem? (i := 226) rfl)) rfl
theorem mw_469 : Cond.selects "[[I" ⟨"[[I", "clone", "()Ljava/lang/Object;"⟩ ⟨"java/lang/Object", "clone", "()Ljava/lang/Object;"⟩ ∈ GW := gw_mem (inT7 _ (List.mem_of_getElem? (i := 211) rfl)) rfl
theorem mw_470 : Cond.classLink RX8 339 "[[I" ∈ GW := gw_mem (inT7 _ (List.mem_of_getElem? (i := 213) rfl)) rfl
theorem pd_X8_isJump : yX8_isJump.cls ≠ "java/lang/invoke/MethodHandle" ∧ yX8_isJump.cls ≠ "java/lang/invoke/VarHandle" ∧ (parseMethodDescriptor yX8_isJump.desc).map (fun d => d.parameters.length) = some 1 := by decide +kernel
theorem pdv_X8_beginAnew : yX8_beginAnew.cls = RX8 ∧ yX8_beginAnew.cls ≠ "java/lang/invoke/MethodHandle" ∧ yX8_beginAnew.cls ≠ "java/lang/invoke/VarHandle" ∧ (parseMethodDescriptor yX8_beginAnew.desc).map (fun d => d.parameters.length) = some 0 := by decide +kernel
theorem pdv_X8_swept : yX8_swept.cls = RX8 ∧ yX8_swept.cls ≠ "java/lang/invoke/MethodHandle" ∧ yX8_swept.cls ≠ "java/lang/invoke/VarHandle" ∧ (parseMethodDescriptor yX8_swept.desc).map (fun d => d.parameters.length) = some 2 := by decide +kernel
set_option maxHeartbeats 4000000 in
set_option maxRecDepth 100000 in
theorem q_insert (l : Launch) (D : va_G) (cI cJ cZ : ClassId) (cO : ClassId) (oc : Nat × va_E) (am : Nat → Nat) (qo : Nat) (F : Nat → Nat → Int32) (G : Nat → Nat → Int64) (place its goal : Int32) : CT l D (TO cI cJ cZ cO) yX8_insert (.code yX8_insert cX8_insert 5 (some Jvm.ClassFile.FieldType.int)) 3 0 0 (MW oc am cI cJ cZ cO 0 0 0 0 0 qo F G) [.ref (am 1), .int place, .int its, .int goal] (QI D (TO cI cJ cZ cO) (fun r u => ∃ th', ((OKI place its goal ∧ r = 1 ∧ th' = 0) ∨ (¬ OKI place its goal ∧ th' = 1)) ∧ ∃ mn' ld' sw' sm' qo' F' G', u = MW oc am cI cJ cZ cO th' mn' ld' sw' sm' qo' F' G')) := by
  refine ent (by decide) (Nat.le_of_ble_eq_true rfl) ?_
  intro p e s m below meth c ls A hx hb hr hg hown hml hlocks hnm hP hK hD hS hA hN hl
  have hl : lv_has ls 5 [(0, .ref (am 1)), (1, .int place), (2, .int its), (3, .int goal)] := hl
  refine lv_aload_n hx hb dX8_insert_0 rfl (lv_at hl 0 rfl) ?_
  refine lv_iconst (v := 0) hx hb dX8_insert_1 (by decide) ?_
  refine va_put (D := D) (ci := 8) (v := .int 0) (C := RX8) (T := TX8) (N := 32) hx hb hg inGX8 tyX8 tyX8_ok nmX8 hown hK hP hD hS 1 rfl rfl 0 (by decide) (hg _ mw_343) (fun _ h9 => h9) rfl (tyX8_ok 0 (by decide)) rfl rfl (Nat.le_of_ble_eq_true rfl) dX8_insert_2 (fun H locs hP hD hS => ?_)
  have hP : va_P D vwCl (MW oc am cI cJ cZ cO 0 0 0 0 0 qo F G) H := hP
  have hD : va_D A (MW oc am cI cJ cZ cO 0 0 0 0 0 qo F G) := hD
  refine lv_iload_n hx hb dX8_insert_5 rfl (lv_at hl 1 rfl) ?_
  refine lv_iconst (v := 0) hx hb dX8_insert_6 (by decide) ?_
  refine lv_aload_n hx hb dX8_insert_7 rfl (lv_at hl 0 rfl) ?_
  refine va_get (D := D) (ci := 8) (v := .int 0) (C := RX8) (T := TX8) (N := 32) hx hb hg inGX8 hown hK hP 1 rfl rfl 1 (by decide) (hg _ mw_344) (fun _ h9 => h9) rfl dX8_insert_8 ?_
  refine kI (rS hx hb hml hown hg hN hK hP hD (m_is l D cI cJ cZ cO (MW oc am cI cJ cZ cO 0 0 0 0 0 qo F G) place 0 0) mw_345 mw_346 mw_347 mw_348 pd_X8_is ⟨Nat.le_of_ble_eq_true rfl, Nat.le_of_ble_eq_true rfl⟩ rfl hl.1 rfl (Nat.le_of_ble_eq_true rfl) dX8_insert_11 ⟨Nat.le_of_ble_eq_true rfl, Nat.le_of_ble_eq_true rfl⟩) hD hS hA (fun r_1 u_1 H locs hp hP hD hS => ?_)
  obtain ⟨hisr_1, rfl⟩ := hp
  refine lv_if_eq (tgt := 43) hx hb dX8_insert_14 (by decide) (fun c_14 => ?_) (fun c_14 => ?_)
  · refine lv_aload_n hx hb dX8_insert_43 rfl (lv_at hl 0 rfl) ?_
    refine lv_iconst (v := 1) hx hb dX8_insert_44 (by decide) ?_
    refine kI (rV (q0 := 1) (ci := 8) hx hb hml hown hg hN hK hP hD (m_refuse l D cI cJ cZ cO oc am qo F G 0 0 0 0 0 1) mw_434 mw_435 mw_436 mw_437 mw_348 pdv_X8_refuse ⟨Nat.le_of_ble_eq_true rfl, Nat.le_of_ble_eq_true rfl⟩ rfl rfl rfl hl.1 rfl (Nat.le_of_ble_eq_true rfl) dX8_insert_45 ⟨Nat.le_of_ble_eq_true rfl, Nat.le_of_ble_eq_true rfl⟩) hD hS hA (fun r_2 u_2 H locs hp hP hD hS => ?_)
    obtain ⟨rfl, rfl⟩ := hp
    exact W.iret (v := 0) hx hb hr (fun t ht hW => ⟨⟨0, (MW oc am cI cJ cZ cO 1 0 0 0 0 qo F G), rfl, ⟨1, Or.inr ⟨(by first | exact oki_n1 (is_f hisr_1 c_14) | exact oki_n2 (is_f hb c_23) | exact oki_n3 hb c_30 (is_f hb c_40)), rfl⟩, _, _, _, _, _, _, _, rfl⟩, ⟨by rw [ht]; exact hP, va_K.moved hW.alike hK, hD⟩⟩, hS.F ht⟩) hS.2.2 dX8_insert_48
  · refine lv_iload_n hx hb dX8_insert_17 rfl (lv_at hl 2 rfl) ?_
    refine lv_iconst (v := 0) hx hb dX8_insert_18 (by decide) ?_
    refine lv_iconst (v := 3) hx hb dX8_insert_19 (by decide) ?_
    refine kI (rS hx hb hml hown hg hN hK hP hD (m_is l D cI cJ cZ cO (MW oc am cI cJ cZ cO 0 0 0 0 0 qo F G) its 0 3) mw_345 mw_346 mw_347 mw_348 pd_X8_is ⟨Nat.le_of_ble_eq_true rfl, Nat.le_of_ble_eq_true rfl⟩ rfl hl.1 rfl (Nat.le_of_ble_eq_true rfl) dX8_insert_20 ⟨Nat.le_of_ble_eq_true rfl, Nat.le_of_ble_eq_true rfl⟩) hD hS hA (fun r_3 u_3 H locs hp hP hD hS => ?_)
    obtain ⟨hisr_3, rfl⟩ := hp
    refine lv_if_eq (tgt := 43) hx hb dX8_insert_23 (by decide) (fun c_23 => ?_) (fun c_23 => ?_)
    · refine lv_aload_n hx hb dX8_insert_43 rfl (lv_at hl 0 rfl) ?_
      refine lv_iconst (v := 1) hx hb dX8_insert_44 (by decide) ?_
      refine kI (rV (q0 := 1) (ci := 8) hx hb hml hown hg hN hK hP hD (m_refuse l D cI cJ cZ cO oc am qo F G 0 0 0 0 0 1) mw_434 mw_435 mw_436 mw_437 mw_348 pdv_X8_refuse ⟨Nat.le_of_ble_eq_true rfl, Nat.le_of_ble_eq_true rfl⟩ rfl rfl rfl hl.1 rfl (Nat.le_of_ble_eq_true rfl) dX8_insert_45 ⟨Nat.le_of_ble_eq_true rfl, Nat.le_of_ble_eq_true rfl⟩) hD hS hA (fun r_4 u_4 H locs hp hP hD hS => ?_)
      obtain ⟨rfl, rfl⟩ := hp
      exact W.iret (v := 0) hx hb hr (fun t ht hW => ⟨⟨0, (MW oc am cI cJ cZ cO 1 0 0 0 0 qo F G), rfl, ⟨1, Or.inr ⟨(by first | exact oki_n1 (is_f hisr_1 c_14) | exact oki_n2 (is_f hisr_3 c_23) | exact oki_n3 hb c_30 (is_f hb c_40)), rfl⟩, _, _, _, _, _, _, _, rfl⟩, ⟨by rw [ht]; exact hP, va_K.moved hW.alike hK, hD⟩⟩, hS.F ht⟩) hS.2.2 dX8_insert_48
    · refine lv_iload_n hx hb dX8_insert_26 rfl (lv_at hl 2 rfl) ?_
      refine kI (rS hx hb hml hown hg hN hK hP hD (m_isJump l D cI cJ cZ cO (MW oc am cI cJ cZ cO 0 0 0 0 0 qo F G) its) mw_450 mw_451 mw_452 mw_348 pd_X8_isJump ⟨Nat.le_of_ble_eq_true rfl, Nat.le_of_ble_eq_true rfl⟩ rfl hl.1 rfl (Nat.le_of_ble_eq_true rfl) dX8_insert_27 ⟨Nat.le_of_ble_eq_true rfl, Nat.le_of_ble_eq_true rfl⟩) hD hS hA (fun r_5 u_5 H locs hp hP hD hS => ?_)
      obtain ⟨hjr_5, rfl⟩ := hp
      refine lv_if_eq (tgt := 49) hx hb dX8_insert_30 (by decide) (fun c_30 => ?_) (fun c_30 => ?_)
      · refine lv_aload_n hx hb dX8_insert_49 rfl (lv_at hl 0 rfl) ?_
        refine va_get (D := D) (ci := 8) (v := .int 0) (C := RX8) (T := TX8) (N := 32) hx hb hg inGX8 hown hK hP 1 rfl rfl 1 (by decide) (hg _ mw_344) (fun _ h9 => h9) rfl dX8_insert_50 ?_
        refine lv_bipush (v := 40) hx hb dX8_insert_53 (by decide) ?_
        refine lv_icmp_ne (tgt := 64) hx hb dX8_insert_55 (by decide) (fun c_55 => ?_) (fun c_55 => absurd c_55 (by decide))
        have hpz : place = 0 := eq0 (is_t hisr_1 c_14)
        refine lv_aload_n hx hb dX8_insert_64 rfl (lv_at hl 0 rfl) ?_
        refine va_get (D := D) (ci := 8) (v := .int 0) (C := RX8) (T := TX8) (N := 32) hx hb hg inGX8 hown hK hP 1 rfl rfl 1 (by decide) (hg _ mw_344) (fun _ h9 => h9) rfl dX8_insert_65 ?_
        refine lv_istore (lv' := [(4, .int 0), (0, .ref (am 1)), (1, .int place), (2, .int its), (3, .int goal)]) hx hb dX8_insert_68 hl (by decide) rfl (fun ls hl => ?_)
        refine lv_iload hx hb dX8_insert_70 (lv_at hl 0 rfl) ?_
        refine lv_iload_n hx hb dX8_insert_72 rfl (lv_at hl 2 rfl) ?_
        refine lv_icmp_le (tgt := 92) hx hb dX8_insert_73 (by decide) (fun c_73 => ?_) (fun c_73 => absurd (by rw [hpz]; decide) c_73)
        refine lv_aload_n hx hb dX8_insert_92 rfl (lv_at hl 1 rfl) ?_
        refine lv_dup hx hb dX8_insert_93 rfl ?_
        refine va_get (D := D) (ci := 8) (v := .int 0) (C := RX8) (T := TX8) (N := 32) hx hb hg inGX8 hown hK hP 1 rfl rfl 1 (by decide) (hg _ mw_344) (fun _ h9 => h9) rfl dX8_insert_94 ?_
        refine lv_iconst (v := 1) hx hb dX8_insert_97 (by decide) ?_
        refine lv_iadd hx hb dX8_insert_98 ?_
        refine lv_topi (fun v_6 ev_6 => ?_)
        obtain rfl : v_6 = (1 : Int32) := ev_6.trans (by decide)
        refine va_put (D := D) (ci := 8) (v := .int 1) (C := RX8) (T := TX8) (N := 32) hx hb hg inGX8 tyX8 tyX8_ok nmX8 hown hK hP hD hS 1 rfl rfl 1 (by decide) (hg _ mw_344) (fun _ h9 => h9) rfl (tyX8_ok 1 (by decide)) rfl rfl (Nat.le_of_ble_eq_true rfl) dX8_insert_99 (fun H locs hP hD hS => ?_)
        have hP : va_P D vwCl (MW oc am cI cJ cZ cO 0 1 0 0 0 qo F G) H := hP
        have hD : va_D A (MW oc am cI cJ cZ cO 0 1 0 0 0 qo F G) := hD
        refine lv_iconst (v := 0) hx hb dX8_insert_102 (by decide) ?_
        refine lv_istore (lv' := [(4, .int 0), (0, .ref (am 1)), (1, .int place), (2, .int its), (3, .int goal)]) hx hb dX8_insert_103 hl (by decide) rfl (fun ls hl => ?_)
        refine lv_iload hx hb dX8_insert_105 (lv_at hl 0 rfl) ?_
        refine lv_aload_n hx hb dX8_insert_107 rfl (lv_at hl 1 rfl) ?_
        refine va_get (D := D) (ci := 8) (v := .int 1) (C := RX8) (T := TX8) (N := 32) hx hb hg inGX8 hown hK hP 1 rfl rfl 1 (by decide) (hg _ mw_344) (fun _ h9 => h9) rfl dX8_insert_108 ?_
        refine lv_icmp_ge (tgt := 160) hx hb dX8_insert_111 (by decide) (fun c_111 => absurd c_111 (by decide)) (fun c_111 => ?_)
        refine lv_iload hx hb dX8_insert_114 (lv_at hl 0 rfl) ?_
        refine lv_iload_n hx hb dX8_insert_116 rfl (lv_at hl 2 rfl) ?_
        refine lv_icmp_eq (tgt := 154) hx hb dX8_insert_117 (by decide) (fun c_117 => ?_) (fun c_117 => absurd hpz.symm c_117)
        refine lv_iinc (v := 1) (lv' := [(4, .int 1), (0, .ref (am 1)), (1, .int place), (2, .int its), (3, .int goal)]) hx hb dX8_insert_154 hl (k := 0) rfl (by decide) (by decide) rfl (fun ls hl => ?_)
        refine lv_goto (tgt := 105) hx hb dX8_insert_157 (by decide) ?_
        refine lv_iload hx hb dX8_insert_105 (lv_at hl 0 rfl) ?_
        refine lv_aload_n hx hb dX8_insert_107 rfl (lv_at hl 1 rfl) ?_
        refine va_get (D := D) (ci := 8) (v := .int 1) (C := RX8) (T := TX8) (N := 32) hx hb hg inGX8 hown hK hP 1 rfl rfl 1 (by decide) (hg _ mw_344) (fun _ h9 => h9) rfl dX8_insert_108 ?_
        refine lv_icmp_ge (tgt := 160) hx hb dX8_insert_111 (by decide) (fun c_111 => ?_) (fun c_111 => absurd (by decide) c_111)
        refine lv_aload_n hx hb dX8_insert_160 rfl (lv_at hl 1 rfl) ?_
        refine va_get (D := D) (ci := 8) (v := .ref (am 2)) (C := RX8) (T := TX8) (N := 32) hx hb hg inGX8 hown hK hP 1 rfl rfl 2 (by decide) (hg _ mw_453) (fun _ h9 => h9) rfl dX8_insert_161 ?_
        refine lv_iload_n hx hb dX8_insert_164 rfl (lv_at hl 2 rfl) ?_
        refine lv_iload_n hx hb dX8_insert_165 rfl (lv_at hl 3 rfl) ?_
        refine va_iast hx hb hK hP hD hS 2 0 rfl rfl (by rw [hpz]; unfold vp_in; decide) dX8_insert_166 (fun H locs hP hD hS => ?_)
        have hP : va_P D vwCl (MW oc am cI cJ cZ cO 0 1 0 0 0 qo (va_up F 2 (upd (F 2) (place : Int32).toNatClampNeg its)) G) H := hP
        have hD : va_D A (MW oc am cI cJ cZ cO 0 1 0 0 0 qo (va_up F 2 (upd (F 2) (place : Int32).toNatClampNeg its)) G) := hD
        refine lv_aload_n hx hb dX8_insert_167 rfl (lv_at hl 1 rfl) ?_
        refine va_get (D := D) (ci := 8) (v := .ref (am 3)) (C := RX8) (T := TX8) (N := 32) hx hb hg inGX8 hown hK hP 1 rfl rfl 3 (by decide) (hg _ mw_454) (fun _ h9 => h9) rfl dX8_insert_168 ?_
        refine lv_iload_n hx hb dX8_insert_171 rfl (lv_at hl 2 rfl) ?_
        refine lv_iload_n hx hb dX8_insert_172 rfl (lv_at hl 3 rfl) ?_
        refine kI (rS hx hb hml hown hg hN hK hP hD (m_isJump l D cI cJ cZ cO (MW oc am cI cJ cZ cO 0 1 0 0 0 qo (va_up F 2 (upd (F 2) (place : Int32).toNatClampNeg its)) G) its) mw_450 mw_451 mw_452 mw_348 pd_X8_isJump ⟨Nat.le_of_ble_eq_true rfl, Nat.le_of_ble_eq_true rfl⟩ rfl hl.1 rfl (Nat.le_of_ble_eq_true rfl) dX8_insert_173 ⟨Nat.le_of_ble_eq_true rfl, Nat.le_of_ble_eq_true rfl⟩) hD hS hA (fun r_7 u_7 H locs hp hP hD hS => ?_)
        obtain ⟨hjr_7, rfl⟩ := hp
        refine lv_if_eq (tgt := 183) hx hb dX8_insert_176 (by decide) (fun c_176 => ?_) (fun c_176 => ?_)
        · refine lv_iconst (v := 0) hx hb dX8_insert_183 (by decide) ?_
          refine va_iast hx hb hK hP hD hS 3 0 rfl rfl (by rw [hpz]; unfold vp_in; decide) dX8_insert_184 (fun H locs hP hD hS => ?_)
          have hP : va_P D vwCl (MW oc am cI cJ cZ cO 0 1 0 0 0 qo (va_up (va_up F 2 (upd (F 2) (place : Int32).toNatClampNeg its)) 3 (upd ((va_up F 2 (upd (F 2) (place : Int32).toNatClampNeg its)) 3) (place : Int32).toNatClampNeg 0)) G) H := hP
          have hD : va_D A (MW oc am cI cJ cZ cO 0 1 0 0 0 qo (va_up (va_up F 2 (upd (F 2) (place : Int32).toNatClampNeg its)) 3 (upd ((va_up F 2 (upd (F 2) (place : Int32).toNatClampNeg its)) 3) (place : Int32).toNatClampNeg 0)) G) := hD
          refine lv_aload_n hx hb dX8_insert_185 rfl (lv_at hl 1 rfl) ?_
          refine va_get (D := D) (ci := 8) (v := .ref (am 4)) (C := RX8) (T := TX8) (N := 32) hx hb hg inGX8 hown hK hP 1 rfl rfl 4 (by decide) (hg _ mw_455) (fun _ h9 => h9) rfl dX8_insert_186 ?_
          refine lv_iload_n hx hb dX8_insert_189 rfl (lv_at hl 2 rfl) ?_
          refine lv_iconst (v := (-1)) hx hb dX8_insert_190 (by decide) ?_
          refine va_iast hx hb hK hP hD hS 4 0 rfl rfl (by rw [hpz]; unfold vp_in; decide) dX8_insert_191 (fun H locs hP hD hS => ?_)
          have hP : va_P D vwCl (MW oc am cI cJ cZ cO 0 1 0 0 0 qo (va_up (va_up (va_up F 2 (upd (F 2) (place : Int32).toNatClampNeg its)) 3 (upd ((va_up F 2 (upd (F 2) (place : Int32).toNatClampNeg its)) 3) (place : Int32).toNatClampNeg 0)) 4 (upd ((va_up (va_up F 2 (upd (F 2) (place : Int32).toNatClampNeg its)) 3 (upd ((va_up F 2 (upd (F 2) (place : Int32).toNatClampNeg its)) 3) (place : Int32).toNatClampNeg 0)) 4) (place : Int32).toNatClampNeg (-1))) G) H := hP
          have hD : va_D A (MW oc am cI cJ cZ cO 0 1 0 0 0 qo (va_up (va_up (va_up F 2 (upd (F 2) (place : Int32).toNatClampNeg its)) 3 (upd ((va_up F 2 (upd (F 2) (place : Int32).toNatClampNeg its)) 3) (place : Int32).toNatClampNeg 0)) 4 (upd ((va_up (va_up F 2 (upd (F 2) (place : Int32).toNatClampNeg its)) 3 (upd ((va_up F 2 (upd (F 2) (place : Int32).toNatClampNeg its)) 3) (place : Int32).toNatClampNeg 0)) 4) (place : Int32).toNatClampNeg (-1))) G) := hD
          refine lv_aload_n hx hb dX8_insert_192 rfl (lv_at hl 1 rfl) ?_
          refine va_get (D := D) (ci := 8) (v := .ref (am 5)) (C := RX8) (T := TX8) (N := 32) hx hb hg inGX8 hown hK hP 1 rfl rfl 5 (by decide) (hg _ mw_456) (fun _ h9 => h9) rfl dX8_insert_193 ?_
          refine lv_iload_n hx hb dX8_insert_196 rfl (lv_at hl 2 rfl) ?_
          refine lv_iconst (v := 0) hx hb dX8_insert_197 (by decide) ?_
          refine va_iast hx hb hK hP hD hS 5 0 rfl rfl (by rw [hpz]; unfold vp_in; decide) dX8_insert_198 (fun H locs hP hD hS => ?_)
          have hP : va_P D vwCl (MW oc am cI cJ cZ cO 0 1 0 0 0 qo (va_up (va_up (va_up (va_up F 2 (upd (F 2) (place : Int32).toNatClampNeg its)) 3 (upd ((va_up F 2 (upd (F 2) (place : Int32).toNatClampNeg its)) 3) (place : Int32).toNatClampNeg 0)) 4 (upd ((va_up (va_up F 2 (upd (F 2) (place : Int32).toNatClampNeg its)) 3 (upd ((va_up F 2 (upd (F 2) (place : Int32).toNatClampNeg its)) 3) (place : Int32).toNatClampNeg 0)) 4) (place : Int32).toNatClampNeg (-1))) 5 (upd ((va_up (va_up (va_up F 2 (upd (F 2) (place : Int32).toNatClampNeg its)) 3 (upd ((va_up F 2 (upd (F 2) (place : Int32).toNatClampNeg its)) 3) (place : Int32).toNatClampNeg 0)) 4 (upd ((va_up (va_up F 2 (upd (F 2) (place : Int32).toNatClampNeg its)) 3 (upd ((va_up F 2 (upd (F 2) (place : Int32).toNatClampNeg its)) 3) (place : Int32).toNatClampNeg 0)) 4) (place : Int32).toNatClampNeg (-1))) 5) (place : Int32).toNatClampNeg 0)) G) H := hP
          have hD : va_D A (MW oc am cI cJ cZ cO 0 1 0 0 0 qo (va_up (va_up (va_up (va_up F 2 (upd (F 2) (place : Int32).toNatClampNeg its)) 3 (upd ((va_up F 2 (upd (F 2) (place : Int32).toNatClampNeg its)) 3) (place : Int32).toNatClampNeg 0)) 4 (upd ((va_up (va_up F 2 (upd (F 2) (place : Int32).toNatClampNeg its)) 3 (upd ((va_up F 2 (upd (F 2) (place : Int32).toNatClampNeg its)) 3) (place : Int32).toNatClampNeg 0)) 4) (place : Int32).toNatClampNeg (-1))) 5 (upd ((va_up (va_up (va_up F 2 (upd (F 2) (place : Int32).toNatClampNeg its)) 3 (upd ((va_up F 2 (upd (F 2) (place : Int32).toNatClampNeg its)) 3) (place : Int32).toNatClampNeg 0)) 4 (upd ((va_up (va_up F 2 (upd (F 2) (place : Int32).toNatClampNeg its)) 3 (upd ((va_up F 2 (upd (F 2) (place : Int32).toNatClampNeg its)) 3) (place : Int32).toNatClampNeg 0)) 4) (place : Int32).toNatClampNeg (-1))) 5) (place : Int32).toNatClampNeg 0)) G) := hD
          refine lv_aload_n hx hb dX8_insert_199 rfl (lv_at hl 1 rfl) ?_
          refine kV (rV (q0 := 1) (ci := 8) hx hb hml hown hg hN hK hP hD (m_beginAnew l D cI cJ cZ cO oc am qo (va_up (va_up (va_up (va_up F 2 (upd (F 2) (place : Int32).toNatClampNeg its)) 3 (upd ((va_up F 2 (upd (F 2) (place : Int32).toNatClampNeg its)) 3) (place : Int32).toNatClampNeg 0)) 4 (upd ((va_up (va_up F 2 (upd (F 2) (place : Int32).toNatClampNeg its)) 3 (upd ((va_up F 2 (upd (F 2) (place : Int32).toNatClampNeg its)) 3) (place : Int32).toNatClampNeg 0)) 4) (place : Int32).toNatClampNeg (-1))) 5 (upd ((va_up (va_up (va_up F 2 (upd (F 2) (place : Int32).toNatClampNeg its)) 3 (upd ((va_up F 2 (upd (F 2) (place : Int32).toNatClampNeg its)) 3) (place : Int32).toNatClampNeg 0)) 4 (upd ((va_up (va_up F 2 (upd (F 2) (place : Int32).toNatClampNeg its)) 3 (upd ((va_up F 2 (upd (F 2) (place : Int32).toNatClampNeg its)) 3) (place : Int32).toNatClampNeg 0)) 4) (place : Int32).toNatClampNeg (-1))) 5) (place : Int32).toNatClampNeg 0)) G 0 1 0 0 0) mw_457 mw_458 mw_459 mw_460 mw_348 pdv_X8_beginAnew ⟨Nat.le_of_ble_eq_true rfl, Nat.le_of_ble_eq_true rfl⟩ rfl rfl rfl hl.1 rfl (Nat.le_of_ble_eq_true rfl) dX8_insert_200 ⟨Nat.le_of_ble_eq_true rfl, Nat.le_of_ble_eq_true rfl⟩) hD hS hA (fun u_8 H locs hp hP hD hS => ?_)
          obtain rfl := hp
          refine lv_aload_n hx hb dX8_insert_203 rfl (lv_at hl 1 rfl) ?_
          refine va_get (D := D) (ci := 8) (v := .int 1) (C := RX8) (T := TX8) (N := 32) hx hb hg inGX8 hown hK hP 1 rfl rfl 1 (by decide) (hg _ mw_344) (fun _ h9 => h9) rfl dX8_insert_204 ?_
          exact W.iret (v := 1) hx hb hr (fun t ht hW => ⟨⟨1, (MW oc am cI cJ cZ cO 0 1 0 0 0 qo (va_up (va_up (va_up (va_up F 2 (upd (F 2) (place : Int32).toNatClampNeg its)) 3 (upd ((va_up F 2 (upd (F 2) (place : Int32).toNatClampNeg its)) 3) (place : Int32).toNatClampNeg 0)) 4 (upd ((va_up (va_up F 2 (upd (F 2) (place : Int32).toNatClampNeg its)) 3 (upd ((va_up F 2 (upd (F 2) (place : Int32).toNatClampNeg its)) 3) (place : Int32).toNatClampNeg 0)) 4) (place : Int32).toNatClampNeg (-1))) 5 (upd ((va_up (va_up (va_up F 2 (upd (F 2) (place : Int32).toNatClampNeg its)) 3 (upd ((va_up F 2 (upd (F 2) (place : Int32).toNatClampNeg its)) 3) (place : Int32).toNatClampNeg 0)) 4 (upd ((va_up (va_up F 2 (upd (F 2) (place : Int32).toNatClampNeg its)) 3 (upd ((va_up F 2 (upd (F 2) (place : Int32).toNatClampNeg its)) 3) (place : Int32).toNatClampNeg 0)) 4) (place : Int32).toNatClampNeg (-1))) 5) (place : Int32).toNatClampNeg 0)) G), rfl, ⟨0, Or.inl ⟨⟨(is_t hisr_1 c_14).1, leI (is_t hisr_1 c_14).2, (is_t hisr_3 c_23).1, leI (is_t hisr_3 c_23).2, (by first | exact oki_no hjr_5 c_30 | exact (fun _ => is_t hb c_40))⟩, rfl, rfl⟩, _, _, _, _, _, _, _, rfl⟩, ⟨by rw [ht]; exact hP, va_K.moved hW.alike hK, hD⟩⟩, hS.F ht⟩) hS.2.2 dX8_insert_207
        · refine lv_iload_n hx hb dX8_insert_179 rfl (lv_at hl 4 rfl) ?_
          refine lv_goto (tgt := 184) hx hb dX8_insert_180 (by decide) ?_
          refine va_iast hx hb hK hP hD hS 3 0 rfl rfl (by rw [hpz]; unfold vp_in; decide) dX8_insert_184 (fun H locs hP hD hS => ?_)
          have hP : va_P D vwCl (MW oc am cI cJ cZ cO 0 1 0 0 0 qo (va_up (va_up F 2 (upd (F 2) (place : Int32).toNatClampNeg its)) 3 (upd ((va_up F 2 (upd (F 2) (place : Int32).toNatClampNeg its)) 3) (place : Int32).toNatClampNeg goal)) G) H := hP
          have hD : va_D A (MW oc am cI cJ cZ cO 0 1 0 0 0 qo (va_up (va_up F 2 (upd (F 2) (place : Int32).toNatClampNeg its)) 3 (upd ((va_up F 2 (upd (F 2) (place : Int32).toNatClampNeg its)) 3) (place : Int32).toNatClampNeg goal)) G) := hD
          refine lv_aload_n hx hb dX8_insert_185 rfl (lv_at hl 1 rfl) ?_
          refine va_get (D := D) (ci := 8) (v := .ref (am 4)) (C := RX8) (T := TX8) (N := 32) hx hb hg inGX8 hown hK hP 1 rfl rfl 4 (by decide) (hg _ mw_455) (fun _ h9 => h9) rfl dX8_insert_186 ?_
          refine lv_iload_n hx hb dX8_insert_189 rfl (lv_at hl 2 rfl) ?_
          refine lv_iconst (v := (-1)) hx hb dX8_insert_190 (by decide) ?_
          refine va_iast hx hb hK hP hD hS 4 0 rfl rfl (by rw [hpz]; unfold vp_in; decide) dX8_insert_191 (fun H locs hP hD hS => ?_)
          have hP : va_P D vwCl (MW oc am cI cJ cZ cO 0 1 0 0 0 qo (va_up (va_up (va_up F 2 (upd (F 2) (place : Int32).toNatClampNeg its)) 3 (upd ((va_up F 2 (upd (F 2) (place : Int32).toNatClampNeg its)) 3) (place : Int32).toNatClampNeg goal)) 4 (upd ((va_up (va_up F 2 (upd (F 2) (place : Int32).toNatClampNeg its)) 3 (upd ((va_up F 2 (upd (F 2) (place : Int32).toNatClampNeg its)) 3) (place : Int32).toNatClampNeg goal)) 4) (place : Int32).toNatClampNeg (-1))) G) H := hP
          have hD : va_D A (MW oc am cI cJ cZ cO 0 1 0 0 0 qo (va_up (va_up (va_up F 2 (upd (F 2) (place : Int32).toNatClampNeg its)) 3 (upd ((va_up F 2 (upd (F 2) (place : Int32).toNatClampNeg its)) 3) (place : Int32).toNatClampNeg goal)) 4 (upd ((va_up (va_up F 2 (upd (F 2) (place : Int32).toNatClampNeg its)) 3 (upd ((va_up F 2 (upd (F 2) (place : Int32).toNatClampNeg its)) 3) (place : Int32).toNatClampNeg goal)) 4) (place : Int32).toNatClampNeg (-1))) G) := hD
          refine lv_aload_n hx hb dX8_insert_192 rfl (lv_at hl 1 rfl) ?_
          refine va_get (D := D) (ci := 8) (v := .ref (am 5)) (C := RX8) (T := TX8) (N := 32) hx hb hg inGX8 hown hK hP 1 rfl rfl 5 (by decide) (hg _ mw_456) (fun _ h9 => h9) rfl dX8_insert_193 ?_
          refine lv_iload_n hx hb dX8_insert_196 rfl (lv_at hl 2 rfl) ?_
          refine lv_iconst (v := 0) hx hb dX8_insert_197 (by decide) ?_
          refine va_iast hx hb hK hP hD hS 5 0 rfl rfl (by rw [hpz]; unfold vp_in; decide) dX8_insert_198 (fun H locs hP hD hS => ?_)
          have hP : va_P D vwCl (MW oc am cI cJ cZ cO 0 1 0 0 0 qo (va_up (va_up (va_up (va_up F 2 (upd (F 2) (place : Int32).toNatClampNeg its)) 3 (upd ((va_up F 2 (upd (F 2) (place : Int32).toNatClampNeg its)) 3) (place : Int32).toNatClampNeg goal)) 4 (upd ((va_up (va_up F 2 (upd (F 2) (place : Int32).toNatClampNeg its)) 3 (upd ((va_up F 2 (upd (F 2) (place : Int32).toNatClampNeg its)) 3) (place : Int32).toNatClampNeg goal)) 4) (place : Int32).toNatClampNeg (-1))) 5 (upd ((va_up (va_up (va_up F 2 (upd (F 2) (place : Int32).toNatClampNeg its)) 3 (upd ((va_up F 2 (upd (F 2) (place : Int32).toNatClampNeg its)) 3) (place : Int32).toNatClampNeg goal)) 4 (upd ((va_up (va_up F 2 (upd (F 2) (place : Int32).toNatClampNeg its)) 3 (upd ((va_up F 2 (upd (F 2) (place : Int32).toNatClampNeg its)) 3) (place : Int32).toNatClampNeg goal)) 4) (place : Int32).toNatClampNeg (-1))) 5) (place : Int32).toNatClampNeg 0)) G) H := hP
          have hD : va_D A (MW oc am cI cJ cZ cO 0 1 0 0 0 qo (va_up (va_up (va_up (va_up F 2 (upd (F 2) (place : Int32).toNatClampNeg its)) 3 (upd ((va_up F 2 (upd (F 2) (place : Int32).toNatClampNeg its)) 3) (place : Int32).toNatClampNeg goal)) 4 (upd ((va_up (va_up F 2 (upd (F 2) (place : Int32).toNatClampNeg its)) 3 (upd ((va_up F 2 (upd (F 2) (place : Int32).toNatClampNeg its)) 3) (place : Int32).toNatClampNeg goal)) 4) (place : Int32).toNatClampNeg (-1))) 5 (upd ((va_up (va_up (va_up F 2 (upd (F 2) (place : Int32).toNatClampNeg its)) 3 (upd ((va_up F 2 (upd (F 2) (place : Int32).toNatClampNeg its)) 3) (place : Int32).toNatClampNeg goal)) 4 (upd ((va_up (va_up F 2 (upd (F 2) (place : Int32).toNatClampNeg its)) 3 (upd ((va_up F 2 (upd (F 2) (place : Int32).toNatClampNeg its)) 3) (place : Int32).toNatClampNeg goal)) 4) (place : Int32).toNatClampNeg (-1))) 5) (place : Int32).toNatClampNeg 0)) G) := hD
          refine lv_aload_n hx hb dX8_insert_199 rfl (lv_at hl 1 rfl) ?_
          refine kV (rV (q0 := 1) (ci := 8) hx hb hml hown hg hN hK hP hD (m_beginAnew l D cI cJ cZ cO oc am qo (va_up (va_up (va_up (va_up F 2 (upd (F 2) (place : Int32).toNatClampNeg its)) 3 (upd ((va_up F 2 (upd (F 2) (place : Int32).toNatClampNeg its)) 3) (place : Int32).toNatClampNeg goal)) 4 (upd ((va_up (va_up F 2 (upd (F 2) (place : Int32).toNatClampNeg its)) 3 (upd ((va_up F 2 (upd (F 2) (place : Int32).toNatClampNeg its)) 3) (place : Int32).toNatClampNeg goal)) 4) (place : Int32).toNatClampNeg (-1))) 5 (upd ((va_up (va_up (va_up F 2 (upd (F 2) (place : Int32).toNatClampNeg its)) 3 (upd ((va_up F 2 (upd (F 2) (place : Int32).toNatClampNeg its)) 3) (place : Int32).toNatClampNeg goal)) 4 (upd ((va_up (va_up F 2 (upd (F 2) (place : Int32).toNatClampNeg its)) 3 (upd ((va_up F 2 (upd (F 2) (place : Int32).toNatClampNeg its)) 3) (place : Int32).toNatClampNeg goal)) 4) (place : Int32).toNatClampNeg (-1))) 5) (place : Int32).toNatClampNeg 0)) G 0 1 0 0 0) mw_457 mw_458 mw_459 mw_460 mw_348 pdv_X8_beginAnew ⟨Nat.le_of_ble_eq_true rfl, Nat.le_of_ble_eq_true rfl⟩ rfl rfl rfl hl.1 rfl (Nat.le_of_ble_eq_true rfl) dX8_insert_200 ⟨Nat.le_of_ble_eq_true rfl, Nat.le_of_ble_eq_true rfl⟩) hD hS hA (fun u_9 H locs hp hP hD hS => ?_)
          obtain rfl := hp
          refine lv_aload_n hx hb dX8_insert_203 rfl (lv_at hl 1 rfl) ?_
          refine va_get (D := D) (ci := 8) (v := .int 1) (C := RX8) (T := TX8) (N := 32) hx hb hg inGX8 hown hK hP 1 rfl rfl 1 (by decide) (hg _ mw_344) (fun _ h9 => h9) rfl dX8_insert_204 ?_
          exact W.iret (v := 1) hx hb hr (fun t ht hW => ⟨⟨1, (MW oc am cI cJ cZ cO 0 1 0 0 0 qo (va_up (va_up (va_up (va_up F 2 (upd (F 2) (place : Int32).toNatClampNeg its)) 3 (upd ((va_up F 2 (upd (F 2) (place : Int32).toNatClampNeg its)) 3) (place : Int32).toNatClampNeg goal)) 4 (upd ((va_up (va_up F 2 (upd (F 2) (place : Int32).toNatClampNeg its)) 3 (upd ((va_up F 2 (upd (F 2) (place : Int32).toNatClampNeg its)) 3) (place : Int32).toNatClampNeg goal)) 4) (place : Int32).toNatClampNeg (-1))) 5 (upd ((va_up (va_up (va_up F 2 (upd (F 2) (place : Int32).toNatClampNeg its)) 3 (upd ((va_up F 2 (upd (F 2) (place : Int32).toNatClampNeg its)) 3) (place : Int32).toNatClampNeg goal)) 4 (upd ((va_up (va_up F 2 (upd (F 2) (place : Int32).toNatClampNeg its)) 3 (upd ((va_up F 2 (upd (F 2) (place : Int32).toNatClampNeg its)) 3) (place : Int32).toNatClampNeg goal)) 4) (place : Int32).toNatClampNeg (-1))) 5) (place : Int32).toNatClampNeg 0)) G), rfl, ⟨0, Or.inl ⟨⟨(is_t hisr_1 c_14).1, leI (is_t hisr_1 c_14).2, (is_t hisr_3 c_23).1, leI (is_t hisr_3 c_23).2, (by first | exact oki_no hjr_5 c_30 | exact (fun _ => is_t hb c_40))⟩, rfl, rfl⟩, _, _, _, _, _, _, _, rfl⟩, ⟨by rw [ht]; exact hP, va_K.moved hW.alike hK, hD⟩⟩, hS.F ht⟩) hS.2.2 dX8_insert_207
      · refine lv_iload_n hx hb dX8_insert_33 rfl (lv_at hl 3 rfl) ?_
        refine lv_iconst (v := 0) hx hb dX8_insert_34 (by decide) ?_
        refine lv_bipush (v := 40) hx hb dX8_insert_35 (by decide) ?_
        refine kI (rS hx hb hml hown hg hN hK hP hD (m_is l D cI cJ cZ cO (MW oc am cI cJ cZ cO 0 0 0 0 0 qo F G) goal 0 40) mw_345 mw_346 mw_347 mw_348 pd_X8_is ⟨Nat.le_of_ble_eq_true rfl, Nat.le_of_ble_eq_true rfl⟩ rfl hl.1 rfl (Nat.le_of_ble_eq_true rfl) dX8_insert_37 ⟨Nat.le_of_ble_eq_true rfl, Nat.le_of_ble_eq_true rfl⟩) hD hS hA (fun r_10 u_10 H locs hp hP hD hS => ?_)
        obtain ⟨hisr_10, rfl⟩ := hp
        refine lv_if_ne (tgt := 49) hx hb dX8_insert_40 (by decide) (fun c_40 => ?_) (fun c_40 => ?_)
        · refine lv_aload_n hx hb dX8_insert_49 rfl (lv_at hl 0 rfl) ?_
          refine va_get (D := D) (ci := 8) (v := .int 0) (C := RX8) (T := TX8) (N := 32) hx hb hg inGX8 hown hK hP 1 rfl rfl 1 (by decide) (hg _ mw_344) (fun _ h9 => h9) rfl dX8_insert_50 ?_
          refine lv_bipush (v := 40) hx hb dX8_insert_53 (by decide) ?_
          refine lv_icmp_ne (tgt := 64) hx hb dX8_insert_55 (by decide) (fun c_55 => ?_) (fun c_55 => absurd c_55 (by decide))
          have hpz : place = 0 := eq0 (is_t hisr_1 c_14)
          refine lv_aload_n hx hb dX8_insert_64 rfl (lv_at hl 0 rfl) ?_
          refine va_get (D := D) (ci := 8) (v := .int 0) (C := RX8) (T := TX8) (N := 32) hx hb hg inGX8 hown hK hP 1 rfl rfl 1 (by decide) (hg _ mw_344) (fun _ h9 => h9) rfl dX8_insert_65 ?_
          refine lv_istore (lv' := [(4, .int 0), (0, .ref (am 1)), (1, .int place), (2, .int its), (3, .int goal)]) hx hb dX8_insert_68 hl (by decide) rfl (fun ls hl => ?_)
          refine lv_iload hx hb dX8_insert_70 (lv_at hl 0 rfl) ?_
          refine lv_iload_n hx hb dX8_insert_72 rfl (lv_at hl 2 rfl) ?_
          refine lv_icmp_le (tgt := 92) hx hb dX8_insert_73 (by decide) (fun c_73 => ?_) (fun c_73 => absurd (by rw [hpz]; decide) c_73)
          refine lv_aload_n hx hb dX8_insert_92 rfl (lv_at hl 1 rfl) ?_
          refine lv_dup hx hb dX8_insert_93 rfl ?_
          refine va_get (D := D) (ci := 8) (v := .int 0) (C := RX8) (T := TX8) (N := 32) hx hb hg inGX8 hown hK hP 1 rfl rfl 1 (by decide) (hg _ mw_344) (fun _ h9 => h9) rfl dX8_insert_94 ?_
          refine lv_iconst (v := 1) hx hb dX8_insert_97 (by decide) ?_
          refine lv_iadd hx hb dX8_insert_98 ?_
          refine lv_topi (fun v_11 ev_11 => ?_)
          obtain rfl : v_11 = (1 : Int32) := ev_11.trans (by decide)
          refine va_put (D := D) (ci := 8) (v := .int 1) (C := RX8) (T := TX8) (N := 32) hx hb hg inGX8 tyX8 tyX8_ok nmX8 hown hK hP hD hS 1 rfl rfl 1 (by decide) (hg _ mw_344) (fun _ h9 => h9) rfl (tyX8_ok 1 (by decide)) rfl rfl (Nat.le_of_ble_eq_true rfl) dX8_insert_99 (fun H locs hP hD hS => ?_)
          have hP : va_P D vwCl (MW oc am cI cJ cZ cO 0 1 0 0 0 qo F G) H := hP
          have hD : va_D A (MW oc am cI cJ cZ cO 0 1 0 0 0 qo F G) := hD
          refine lv_iconst (v := 0) hx hb dX8_insert_102 (by decide) ?_
          refine lv_istore (lv' := [(4, .int 0), (0, .ref (am 1)), (1, .int place), (2, .int its), (3, .int goal)]) hx hb dX8_insert_103 hl (by decide) rfl (fun ls hl => ?_)
          refine lv_iload hx hb dX8_insert_105 (lv_at hl 0 rfl) ?_
          refine lv_aload_n hx hb dX8_insert_107 rfl (lv_at hl 1 rfl) ?_
          refine va_get (D := D) (ci := 8) (v := .int 1) (C := RX8) (T := TX8) (N := 32) hx hb hg inGX8 hown hK hP 1 rfl rfl 1 (by decide) (hg _ mw_344) (fun _ h9 => h9) rfl dX8_insert_108 ?_
          refine lv_icmp_ge (tgt := 160) hx hb dX8_insert_111 (by decide) (fun c_111 => absurd c_111 (by decide)) (fun c_111 => ?_)
          refine lv_iload hx hb dX8_insert_114 (lv_at hl 0 rfl) ?_
          refine lv_iload_n hx hb dX8_insert_116 rfl (lv_at hl 2 rfl) ?_
          refine lv_icmp_eq (tgt := 154) hx hb dX8_insert_117 (by decide) (fun c_117 => ?_) (fun c_117 => absurd hpz.symm c_117)
          refine lv_iinc (v := 1) (lv' := [(4, .int 1), (0, .ref (am 1)), (1, .int place), (2, .int its), (3, .int goal)]) hx hb dX8_insert_154 hl (k := 0) rfl (by decide) (by decide) rfl (fun ls hl => ?_)
          refine lv_goto (tgt := 105) hx hb dX8_insert_157 (by decide) ?_
          refine lv_iload hx hb dX8_insert_105 (lv_at hl 0 rfl) ?_
          refine lv_aload_n hx hb dX8_insert_107 rfl (lv_at hl 1 rfl) ?_
          refine va_get (D := D) (ci := 8) (v := .int 1) (C := RX8) (T := TX8) (N := 32) hx hb hg inGX8 hown hK hP 1 rfl rfl 1 (by decide) (hg _ mw_344) (fun _ h9 => h9) rfl dX8_insert_108 ?_
          refine lv_icmp_ge (tgt := 160) hx hb dX8_insert_111 (by decide) (fun c_111 => ?_) (fun c_111 => absurd (by decide) c_111)
          refine lv_aload_n hx hb dX8_insert_160 rfl (lv_at hl 1 rfl) ?_
          refine va_get (D := D) (ci := 8) (v := .ref (am 2)) (C := RX8) (T := TX8) (N := 32) hx hb hg inGX8 hown hK hP 1 rfl rfl 2 (by decide) (hg _ mw_453) (fun _ h9 => h9) rfl dX8_insert_161 ?_
          refine lv_iload_n hx hb dX8_insert_164 rfl (lv_at hl 2 rfl) ?_
          refine lv_iload_n hx hb dX8_insert_165 rfl (lv_at hl 3 rfl) ?_
          refine va_iast hx hb hK hP hD hS 2 0 rfl rfl (by rw [hpz]; unfold vp_in; decide) dX8_insert_166 (fun H locs hP hD hS => ?_)
          have hP : va_P D vwCl (MW oc am cI cJ cZ cO 0 1 0 0 0 qo (va_up F 2 (upd (F 2) (place : Int32).toNatClampNeg its)) G) H := hP
          have hD : va_D A (MW oc am cI cJ cZ cO 0 1 0 0 0 qo (va_up F 2 (upd (F 2) (place : Int32).toNatClampNeg its)) G) := hD
          refine lv_aload_n hx hb dX8_insert_167 rfl (lv_at hl 1 rfl) ?_
          refine va_get (D := D) (ci := 8) (v := .ref (am 3)) (C := RX8) (T := TX8) (N := 32) hx hb hg inGX8 hown hK hP 1 rfl rfl 3 (by decide) (hg _ mw_454) (fun _ h9 => h9) rfl dX8_insert_168 ?_
          refine lv_iload_n hx hb dX8_insert_171 rfl (lv_at hl 2 rfl) ?_
          refine lv_iload_n hx hb dX8_insert_172 rfl (lv_at hl 3 rfl) ?_
          refine kI (rS hx hb hml hown hg hN hK hP hD (m_isJump l D cI cJ cZ cO (MW oc am cI cJ cZ cO 0 1 0 0 0 qo (va_up F 2 (upd (F 2) (place : Int32).toNatClampNeg its)) G) its) mw_450 mw_451 mw_452 mw_348 pd_X8_isJump ⟨Nat.le_of_ble_eq_true rfl, Nat.le_of_ble_eq_true rfl⟩ rfl hl.1 rfl (Nat.le_of_ble_eq_true rfl) dX8_insert_173 ⟨Nat.le_of_ble_eq_true rfl, Nat.le_of_ble_eq_true rfl⟩) hD hS hA (fun r_12 u_12 H locs hp hP hD hS => ?_)
          obtain ⟨hjr_12, rfl⟩ := hp
          refine lv_if_eq (tgt := 183) hx hb dX8_insert_176 (by decide) (fun c_176 => ?_) (fun c_176 => ?_)
          · refine lv_iconst (v := 0) hx hb dX8_insert_183 (by decide) ?_
            refine va_iast hx hb hK hP hD hS 3 0 rfl rfl (by rw [hpz]; unfold vp_in; decide) dX8_insert_184 (fun H locs hP hD hS => ?_)
            have hP : va_P D vwCl (MW oc am cI cJ cZ cO 0 1 0 0 0 qo (va_up (va_up F 2 (upd (F 2) (place : Int32).toNatClampNeg its)) 3 (upd ((va_up F 2 (upd (F 2) (place : Int32).toNatClampNeg its)) 3) (place : Int32).toNatClampNeg 0)) G) H := hP
            have hD : va_D A (MW oc am cI cJ cZ cO 0 1 0 0 0 qo (va_up (va_up F 2 (upd (F 2) (place : Int32).toNatClampNeg its)) 3 (upd ((va_up F 2 (upd (F 2) (place : Int32).toNatClampNeg its)) 3) (place : Int32).toNatClampNeg 0)) G) := hD
            refine lv_aload_n hx hb dX8_insert_185 rfl (lv_at hl 1 rfl) ?_
            refine va_get (D := D) (ci := 8) (v := .ref (am 4)) (C := RX8) (T := TX8) (N := 32) hx hb hg inGX8 hown hK hP 1 rfl rfl 4 (by decide) (hg _ mw_455) (fun _ h9 => h9) rfl dX8_insert_186 ?_
            refine lv_iload_n hx hb dX8_insert_189 rfl (lv_at hl 2 rfl) ?_
            refine lv_iconst (v := (-1)) hx hb dX8_insert_190 (by decide) ?_
            refine va_iast hx hb hK hP hD hS 4 0 rfl rfl (by rw [hpz]; unfold vp_in; decide) dX8_insert_191 (fun H locs hP hD hS => ?_)
            have hP : va_P D vwCl (MW oc am cI cJ cZ cO 0 1 0 0 0 qo (va_up (va_up (va_up F 2 (upd (F 2) (place : Int32).toNatClampNeg its)) 3 (upd ((va_up F 2 (upd (F 2) (place : Int32).toNatClampNeg its)) 3) (place : Int32).toNatClampNeg 0)) 4 (upd ((va_up (va_up F 2 (upd (F 2) (place : Int32).toNatClampNeg its)) 3 (upd ((va_up F 2 (upd (F 2) (place : Int32).toNatClampNeg its)) 3) (place : Int32).toNatClampNeg 0)) 4) (place : Int32).toNatClampNeg (-1))) G) H := hP
            have hD : va_D A (MW oc am cI cJ cZ cO 0 1 0 0 0 qo (va_up (va_up (va_up F 2 (upd (F 2) (place : Int32).toNatClampNeg its)) 3 (upd ((va_up F 2 (upd (F 2) (place : Int32).toNatClampNeg its)) 3) (place : Int32).toNatClampNeg 0)) 4 (upd ((va_up (va_up F 2 (upd (F 2) (place : Int32).toNatClampNeg its)) 3 (upd ((va_up F 2 (upd (F 2) (place : Int32).toNatClampNeg its)) 3) (place : Int32).toNatClampNeg 0)) 4) (place : Int32).toNatClampNeg (-1))) G) := hD
            refine lv_aload_n hx hb dX8_insert_192 rfl (lv_at hl 1 rfl) ?_
            refine va_get (D := D) (ci := 8) (v := .ref (am 5)) (C := RX8) (T := TX8) (N := 32) hx hb hg inGX8 hown hK hP 1 rfl rfl 5 (by decide) (hg _ mw_456) (fun _ h9 => h9) rfl dX8_insert_193 ?_
            refine lv_iload_n hx hb dX8_insert_196 rfl (lv_at hl 2 rfl) ?_
            refine lv_iconst (v := 0) hx hb dX8_insert_197 (by decide) ?_
            refine va_iast hx hb hK hP hD hS 5 0 rfl rfl (by rw [hpz]; unfold vp_in; decide) dX8_insert_198 (fun H locs hP hD hS => ?_)
            have hP : va_P D vwCl (MW oc am cI cJ cZ cO 0 1 0 0 0 qo (va_up (va_up (va_up (va_up F 2 (upd (F 2) (place : Int32).toNatClampNeg its)) 3 (upd ((va_up F 2 (upd (F 2) (place : Int32).toNatClampNeg its)) 3) (place : Int32).toNatClampNeg 0)) 4 (upd ((va_up (va_up F 2 (upd (F 2) (place : Int32).toNatClampNeg its)) 3 (upd ((va_up F 2 (upd (F 2) (place : Int32).toNatClampNeg its)) 3) (place : Int32).toNatClampNeg 0)) 4) (place : Int32).toNatClampNeg (-1))) 5 (upd ((va_up (va_up (va_up F 2 (upd (F 2) (place : Int32).toNatClampNeg its)) 3 (upd ((va_up F 2 (upd (F 2) (place : Int32).toNatClampNeg its)) 3) (place : Int32).toNatClampNeg 0)) 4 (upd ((va_up (va_up F 2 (upd (F 2) (place : Int32).toNatClampNeg its)) 3 (upd ((va_up F 2 (upd (F 2) (place : Int32).toNatClampNeg its)) 3) (place : Int32).toNatClampNeg 0)) 4) (place : Int32).toNatClampNeg (-1))) 5) (place : Int32).toNatClampNeg 0)) G) H := hP
            have hD : va_D A (MW oc am cI cJ cZ cO 0 1 0 0 0 qo (va_up (va_up (va_up (va_up F 2 (upd (F 2) (place : Int32).toNatClampNeg its)) 3 (upd ((va_up F 2 (upd (F 2) (place : Int32).toNatClampNeg its)) 3) (place : Int32).toNatClampNeg 0)) 4 (upd ((va_up (va_up F 2 (upd (F 2) (place : Int32).toNatClampNeg its)) 3 (upd ((va_up F 2 (upd (F 2) (place : Int32).toNatClampNeg its)) 3) (place : Int32).toNatClampNeg 0)) 4) (place : Int32).toNatClampNeg (-1))) 5 (upd ((va_up (va_up (va_up F 2 (upd (F 2) (place : Int32).toNatClampNeg its)) 3 (upd ((va_up F 2 (upd (F 2) (place : Int32).toNatClampNeg its)) 3) (place : Int32).toNatClampNeg 0)) 4 (upd ((va_up (va_up F 2 (upd (F 2) (place : Int32).toNatClampNeg its)) 3 (upd ((va_up F 2 (upd (F 2) (place : Int32).toNatClampNeg its)) 3) (place : Int32).toNatClampNeg 0)) 4) (place : Int32).toNatClampNeg (-1))) 5) (place : Int32).toNatClampNeg 0)) G) := hD
            refine lv_aload_n hx hb dX8_insert_199 rfl (lv_at hl 1 rfl) ?_
            refine kV (rV (q0 := 1) (ci := 8) hx hb hml hown hg hN hK hP hD (m_beginAnew l D cI cJ cZ cO oc am qo (va_up (va_up (va_up (va_up F 2 (upd (F 2) (place : Int32).toNatClampNeg its)) 3 (upd ((va_up F 2 (upd (F 2) (place : Int32).toNatClampNeg its)) 3) (place : Int32).toNatClampNeg 0)) 4 (upd ((va_up (va_up F 2 (upd (F 2) (place : Int32).toNatClampNeg its)) 3 (upd ((va_up F 2 (upd (F 2) (place : Int32).toNatClampNeg its)) 3) (place : Int32).toNatClampNeg 0)) 4) (place : Int32).toNatClampNeg (-1))) 5 (upd ((va_up (va_up (va_up F 2 (upd (F 2) (place : Int32).toNatClampNeg its)) 3 (upd ((va_up F 2 (upd (F 2) (place : Int32).toNatClampNeg its)) 3) (place : Int32).toNatClampNeg 0)) 4 (upd ((va_up (va_up F 2 (upd (F 2) (place : Int32).toNatClampNeg its)) 3 (upd ((va_up F 2 (upd (F 2) (place : Int32).toNatClampNeg its)) 3) (place : Int32).toNatClampNeg 0)) 4) (place : Int32).toNatClampNeg (-1))) 5) (place : Int32).toNatClampNeg 0)) G 0 1 0 0 0) mw_457 mw_458 mw_459 mw_460 mw_348 pdv_X8_beginAnew ⟨Nat.le_of_ble_eq_true rfl, Nat.le_of_ble_eq_true rfl⟩ rfl rfl rfl hl.1 rfl (Nat.le_of_ble_eq_true rfl) dX8_insert_200 ⟨Nat.le_of_ble_eq_true rfl, Nat.le_of_ble_eq_true rfl⟩) hD hS hA (fun u_13 H locs hp hP hD hS => ?_)
            obtain rfl := hp
            refine lv_aload_n hx hb dX8_insert_203 rfl (lv_at hl 1 rfl) ?_
            refine va_get (D := D) (ci := 8) (v := .int 1) (C := RX8) (T := TX8) (N := 32) hx hb hg inGX8 hown hK hP 1 rfl rfl 1 (by decide) (hg _ mw_344) (fun _ h9 => h9) rfl dX8_insert_204 ?_
            exact W.iret (v := 1) hx hb hr (fun t ht hW => ⟨⟨1, (MW oc am cI cJ cZ cO 0 1 0 0 0 qo (va_up (va_up (va_up (va_up F 2 (upd (F 2) (place : Int32).toNatClampNeg its)) 3 (upd ((va_up F 2 (upd (F 2) (place : Int32).toNatClampNeg its)) 3) (place : Int32).toNatClampNeg 0)) 4 (upd ((va_up (va_up F 2 (upd (F 2) (place : Int32).toNatClampNeg its)) 3 (upd ((va_up F 2 (upd (F 2) (place : Int32).toNatClampNeg its)) 3) (place : Int32).toNatClampNeg 0)) 4) (place : Int32).toNatClampNeg (-1))) 5 (upd ((va_up (va_up (va_up F 2 (upd (F 2) (place : Int32).toNatClampNeg its)) 3 (upd ((va_up F 2 (upd (F 2) (place : Int32).toNatClampNeg its)) 3) (place : Int32).toNatClampNeg 0)) 4 (upd ((va_up (va_up F 2 (upd (F 2) (place : Int32).toNatClampNeg its)) 3 (upd ((va_up F 2 (upd (F 2) (place : Int32).toNatClampNeg its)) 3) (place : Int32).toNatClampNeg 0)) 4) (place : Int32).toNatClampNeg (-1))) 5) (place : Int32).toNatClampNeg 0)) G), rfl, ⟨0, Or.inl ⟨⟨(is_t hisr_1 c_14).1, leI (is_t hisr_1 c_14).2, (is_t hisr_3 c_23).1, leI (is_t hisr_3 c_23).2, (by first | exact oki_no hjr_5 c_30 | exact (fun _ => is_t hisr_10 c_40))⟩, rfl, rfl⟩, _, _, _, _, _, _, _, rfl⟩, ⟨by rw [ht]; exact hP, va_K.moved hW.alike hK, hD⟩⟩, hS.F ht⟩) hS.2.2 dX8_insert_207
          · refine lv_iload_n hx hb dX8_insert_179 rfl (lv_at hl 4 rfl) ?_
            refine lv_goto (tgt := 184) hx hb dX8_insert_180 (by decide) ?_
            refine va_iast hx hb hK hP hD hS 3 0 rfl rfl (by rw [hpz]; unfold vp_in; decide) dX8_insert_184 (fun H locs hP hD hS => ?_)
            have hP : va_P D vwCl (MW oc am cI cJ cZ cO 0 1 0 0 0 qo (va_up (va_up F 2 (upd (F 2) (place : Int32).toNatClampNeg its)) 3 (upd ((va_up F 2 (upd (F 2) (place : Int32).toNatClampNeg its)) 3) (place : Int32).toNatClampNeg goal)) G) H := hP
            have hD : va_D A (MW oc am cI cJ cZ cO 0 1 0 0 0 qo (va_up (va_up F 2 (upd (F 2) (place : Int32).toNatClampNeg its)) 3 (upd ((va_up F 2 (upd (F 2) (place : Int32).toNatClampNeg its)) 3) (place : Int32).toNatClampNeg goal)) G) := hD
            refine lv_aload_n hx hb dX8_insert_185 rfl (lv_at hl 1 rfl) ?_
            refine va_get (D := D) (ci := 8) (v := .ref (am 4)) (C := RX8) (T := TX8) (N := 32) hx hb hg inGX8 hown hK hP 1 rfl rfl 4 (by decide) (hg _ mw_455) (fun _ h9 => h9) rfl dX8_insert_186 ?_
            refine lv_iload_n hx hb dX8_insert_189 rfl (lv_at hl 2 rfl) ?_
            refine lv_iconst (v := (-1)) hx hb dX8_insert_190 (by decide) ?_
            refine va_iast hx hb hK hP hD hS 4 0 rfl rfl (by rw [hpz]; unfold vp_in; decide) dX8_insert_191 (fun H locs hP hD hS => ?_)
            have hP : va_P D vwCl (MW oc am cI cJ cZ cO 0 1 0 0 0 qo (va_up (va_up (va_up F 2 (upd (F 2) (place : Int32).toNatClampNeg its)) 3 (upd ((va_up F 2 (upd (F 2) (place : Int32).toNatClampNeg its)) 3) (place : Int32).toNatClampNeg goal)) 4 (upd ((va_up (va_up F 2 (upd (F 2) (place : Int32).toNatClampNeg its)) 3 (upd ((va_up F 2 (upd (F 2) (place : Int32).toNatClampNeg its)) 3) (place : Int32).toNatClampNeg goal)) 4) (place : Int32).toNatClampNeg (-1))) G) H := hP
            have hD : va_D A (MW oc am cI cJ cZ cO 0 1 0 0 0 qo (va_up (va_up (va_up F 2 (upd (F 2) (place : Int32).toNatClampNeg its)) 3 (upd ((va_up F 2 (upd (F 2) (place : Int32).toNatClampNeg its)) 3) (place : Int32).toNatClampNeg goal)) 4 (upd ((va_up (va_up F 2 (upd (F 2) (place : Int32).toNatClampNeg its)) 3 (upd ((va_up F 2 (upd (F 2) (place : Int32).toNatClampNeg its)) 3) (place : Int32).toNatClampNeg goal)) 4) (place : Int32).toNatClampNeg (-1))) G) := hD
            refine lv_aload_n hx hb dX8_insert_192 rfl (lv_at hl 1 rfl) ?_
            refine va_get (D := D) (ci := 8) (v := .ref (am 5)) (C := RX8) (T := TX8) (N := 32) hx hb hg inGX8 hown hK hP 1 rfl rfl 5 (by decide) (hg _ mw_456) (fun _ h9 => h9) rfl dX8_insert_193 ?_
            refine lv_iload_n hx hb dX8_insert_196 rfl (lv_at hl 2 rfl) ?_
            refine lv_iconst (v := 0) hx hb dX8_insert_197 (by decide) ?_
            refine va_iast hx hb hK hP hD hS 5 0 rfl rfl (by rw [hpz]; unfold vp_in; decide) dX8_insert_198 (fun H locs hP hD hS => ?_)
            have hP : va_P D vwCl (MW oc am cI cJ cZ cO 0 1 0 0 0 qo (va_up (va_up (va_up (va_up F 2 (upd (F 2) (place : Int32).toNatClampNeg its)) 3 (upd ((va_up F 2 (upd (F 2) (place : Int32).toNatClampNeg its)) 3) (place : Int32).toNatClampNeg goal)) 4 (upd ((va_up (va_up F 2 (upd (F 2) (place : Int32).toNatClampNeg its)) 3 (upd ((va_up F 2 (upd (F 2) (place : Int32).toNatClampNeg its)) 3) (place : Int32).toNatClampNeg goal)) 4) (place : Int32).toNatClampNeg (-1))) 5 (upd ((va_up (va_up (va_up F 2 (upd (F 2) (place : Int32).toNatClampNeg its)) 3 (upd ((va_up F 2 (upd (F 2) (place : Int32).toNatClampNeg its)) 3) (place : Int32).toNatClampNeg goal)) 4 (upd ((va_up (va_up F 2 (upd (F 2) (place : Int32).toNatClampNeg its)) 3 (upd ((va_up F 2 (upd (F 2) (place : Int32).toNatClampNeg its)) 3) (place : Int32).toNatClampNeg goal)) 4) (place : Int32).toNatClampNeg (-1))) 5) (place : Int32).toNatClampNeg 0)) G) H := hP
            have hD : va_D A (MW oc am cI cJ cZ cO 0 1 0 0 0 qo (va_up (va_up (va_up (va_up F 2 (upd (F 2) (place : Int32).toNatClampNeg its)) 3 (upd ((va_up F 2 (upd (F 2) (place : Int32).toNatClampNeg its)) 3) (place : Int32).toNatClampNeg goal)) 4 (upd ((va_up (va_up F 2 (upd (F 2) (place : Int32).toNatClampNeg its)) 3 (upd ((va_up F 2 (upd (F 2) (place : Int32).toNatClampNeg its)) 3) (place : Int32).toNatClampNeg goal)) 4) (place : Int32).toNatClampNeg (-1))) 5 (upd ((va_up (va_up (va_up F 2 (upd (F 2) (place : Int32).toNatClampNeg its)) 3 (upd ((va_up F 2 (upd (F 2) (place : Int32).toNatClampNeg its)) 3) (place : Int32).toNatClampNeg goal)) 4 (upd ((va_up (va_up F 2 (upd (F 2) (place : Int32).toNatClampNeg its)) 3 (upd ((va_up F 2 (upd (F 2) (place : Int32).toNatClampNeg its)) 3) (place : Int32).toNatClampNeg goal)) 4) (place : Int32).toNatClampNeg (-1))) 5) (place : Int32).toNatClampNeg 0)) G) := hD
            refine lv_aload_n hx hb dX8_insert_199 rfl (lv_at hl 1 rfl) ?_
            refine kV (rV (q0 := 1) (ci := 8) hx hb hml hown hg hN hK hP hD (m_beginAnew l D cI cJ cZ cO oc am qo (va_up (va_up (va_up (va_up F 2 (upd (F 2) (place : Int32).toNatClampNeg its)) 3 (upd ((va_up F 2 (upd (F 2) (place : Int32).toNatClampNeg its)) 3) (place : Int32).toNatClampNeg goal)) 4 (upd ((va_up (va_up F 2 (upd (F 2) (place : Int32).toNatClampNeg its)) 3 (upd ((va_up F 2 (upd (F 2) (place : Int32).toNatClampNeg its)) 3) (place : Int32).toNatClampNeg goal)) 4) (place : Int32).toNatClampNeg (-1))) 5 (upd ((va_up (va_up (va_up F 2 (upd (F 2) (place : Int32).toNatClampNeg its)) 3 (upd ((va_up F 2 (upd (F 2) (place : Int32).toNatClampNeg its)) 3) (place : Int32).toNatClampNeg goal)) 4 (upd ((va_up (va_up F 2 (upd (F 2) (place : Int32).toNatClampNeg its)) 3 (upd ((va_up F 2 (upd (F 2) (place : Int32).toNatClampNeg its)) 3) (place : Int32).toNatClampNeg goal)) 4) (place : Int32).toNatClampNeg (-1))) 5) (place : Int32).toNatClampNeg 0)) G 0 1 0 0 0) mw_457 mw_458 mw_459 mw_460 mw_348 pdv_X8_beginAnew ⟨Nat.le_of_ble_eq_true rfl, Nat.le_of_ble_eq_true rfl⟩ rfl rfl rfl hl.1 rfl (Nat.le_of_ble_eq_true rfl) dX8_insert_200 ⟨Nat.le_of_ble_eq_true rfl, Nat.le_of_ble_eq_true rfl⟩) hD hS hA (fun u_14 H locs hp hP hD hS => ?_)
            obtain rfl := hp
            refine lv_aload_n hx hb dX8_insert_203 rfl (lv_at hl 1 rfl) ?_
            refine va_get (D := D) (ci := 8) (v := .int 1) (C := RX8) (T := TX8) (N := 32) hx hb hg inGX8 hown hK hP 1 rfl rfl 1 (by decide) (hg _ mw_344) (fun _ h9 => h9) rfl dX8_insert_204 ?_
            exact W.iret (v := 1) hx hb hr (fun t ht hW => ⟨⟨1, (MW oc am cI cJ cZ cO 0 1 0 0 0 qo (va_up (va_up (va_up (va_up F 2 (upd (F 2) (place : Int32).toNatClampNeg its)) 3 (upd ((va_up F 2 (upd (F 2) (place : Int32).toNatClampNeg its)) 3) (place : Int32).toNatClampNeg goal)) 4 (upd ((va_up (va_up F 2 (upd (F 2) (place : Int32).toNatClampNeg its)) 3 (upd ((va_up F 2 (upd (F 2) (place : Int32).toNatClampNeg its)) 3) (place : Int32).toNatClampNeg goal)) 4) (place : Int32).toNatClampNeg (-1))) 5 (upd ((va_up (va_up (va_up F 2 (upd (F 2) (place : Int32).toNatClampNeg its)) 3 (upd ((va_up F 2 (upd (F 2) (place : Int32).toNatClampNeg its)) 3) (place : Int32).toNatClampNeg goal)) 4 (upd ((va_up (va_up F 2 (upd (F 2) (place : Int32).toNatClampNeg its)) 3 (upd ((va_up F 2 (upd (F 2) (place : Int32).toNatClampNeg its)) 3) (place : Int32).toNatClampNeg goal)) 4) (place : Int32).toNatClampNeg (-1))) 5) (place : Int32).toNatClampNeg 0)) G), rfl, ⟨0, Or.inl ⟨⟨(is_t hisr_1 c_14).1, leI (is_t hisr_1 c_14).2, (is_t hisr_3 c_23).1, leI (is_t hisr_3 c_23).2, (by first | exact oki_no hjr_5 c_30 | exact (fun _ => is_t hisr_10 c_40))⟩, rfl, rfl⟩, _, _, _, _, _, _, _, rfl⟩, ⟨by rw [ht]; exact hP, va_K.moved hW.alike hK, hD⟩⟩, hS.F ht⟩) hS.2.2 dX8_insert_207
        · refine lv_aload_n hx hb dX8_insert_43 rfl (lv_at hl 0 rfl) ?_
          refine lv_iconst (v := 1) hx hb dX8_insert_44 (by decide) ?_
          refine kI (rV (q0 := 1) (ci := 8) hx hb hml hown hg hN hK hP hD (m_refuse l D cI cJ cZ cO oc am qo F G 0 0 0 0 0 1) mw_434 mw_435 mw_436 mw_437 mw_348 pdv_X8_refuse ⟨Nat.le_of_ble_eq_true rfl, Nat.le_of_ble_eq_true rfl⟩ rfl rfl rfl hl.1 rfl (Nat.le_of_ble_eq_true rfl) dX8_insert_45 ⟨Nat.le_of_ble_eq_true rfl, Nat.le_of_ble_eq_true rfl⟩) hD hS hA (fun r_15 u_15 H locs hp hP hD hS => ?_)
          obtain ⟨rfl, rfl⟩ := hp
          exact W.iret (v := 0) hx hb hr (fun t ht hW => ⟨⟨0, (MW oc am cI cJ cZ cO 1 0 0 0 0 qo F G), rfl, ⟨1, Or.inr ⟨(by first | exact oki_n1 (is_f hisr_1 c_14) | exact oki_n2 (is_f hisr_3 c_23) | exact oki_n3 hjr_5 c_30 (is_f hisr_10 c_40)), rfl⟩, _, _, _, _, _, _, _, rfl⟩, ⟨by rw [ht]; exact hP, va_K.moved hW.alike hK, hD⟩⟩, hS.F ht⟩) hS.2.2 dX8_insert_48
set_option maxHeartbeats 4000000 in
set_option maxRecDepth 100000 in
theorem q_sweep (l : Launch) (D : va_G) (cI cJ cZ : ClassId) (cO : ClassId) (oc : Nat × va_E) (am : Nat → Nat) (qo : Nat) (F : Nat → Nat → Int32) (G : Nat → Nat → Int64) (k : Int32) : CT l D (TO cI cJ cZ cO) yX8_sweep (.code yX8_sweep cX8_sweep 3 (some Jvm.ClassFile.FieldType.int)) 5 3 160 (MW oc am cI cJ cZ cO 0 0 0 0 0 qo F G) [.ref (am 1), .int k] (QI D (TO cI cJ cZ cO) (fun r u => ∃ th', ((¬ k < 1 ∧ k ≤ 20) ∧ r = 0 ∧ th' = 0 ∨ (k < 1 ∨ ¬ k ≤ 20) ∧ th' = 1) ∧ ∃ mn' ld' sw' sm' qo' F' G', u = MW oc am cI cJ cZ cO th' mn' ld' sw' sm' qo' F' G')) := by
  refine ent (by decide) (Nat.le_of_ble_eq_true rfl) ?_
  intro p e s m below meth c ls A hx hb hr hg hown hml hlocks hnm hP hK hD hS hA hN hl
  have hl : lv_has ls 3 [(0, .ref (am 1)), (1, .int k)] := hl
  refine lv_aload_n hx hb dX8_sweep_0 rfl (lv_at hl 0 rfl) ?_
  refine lv_iconst (v := 0) hx hb dX8_sweep_1 (by decide) ?_
  refine va_put (D := D) (ci := 8) (v := .int 0) (C := RX8) (T := TX8) (N := 32) hx hb hg inGX8 tyX8 tyX8_ok nmX8 hown hK hP hD hS 1 rfl rfl 0 (by decide) (hg _ mw_343) (fun _ h9 => h9) rfl (tyX8_ok 0 (by decide)) rfl rfl (Nat.le_of_ble_eq_true rfl) dX8_sweep_2 (fun H locs hP hD hS => ?_)
  have hP : va_P D vwCl (MW oc am cI cJ cZ cO 0 0 0 0 0 qo F G) H := hP
  have hD : va_D A (MW oc am cI cJ cZ cO 0 0 0 0 0 qo F G) := hD
  refine lv_iload_n hx hb dX8_sweep_5 rfl (lv_at hl 1 rfl) ?_
  refine lv_iconst (v := 1) hx hb dX8_sweep_6 (by decide) ?_
  refine lv_bipush (v := 20) hx hb dX8_sweep_7 (by decide) ?_
  refine kI (rS hx hb hml hown hg hN hK hP hD (m_is l D cI cJ cZ cO (MW oc am cI cJ cZ cO 0 0 0 0 0 qo F G) k 1 20) mw_345 mw_346 mw_347 mw_348 pd_X8_is ⟨Nat.le_of_ble_eq_true rfl, Nat.le_of_ble_eq_true rfl⟩ rfl hl.1 rfl (Nat.le_of_ble_eq_true rfl) dX8_sweep_9 ⟨Nat.le_of_ble_eq_true rfl, Nat.le_of_ble_eq_true rfl⟩) hD hS hA (fun r_1 u_1 H locs hp hP hD hS => ?_)
  obtain ⟨hisr_1, rfl⟩ := hp
  refine lv_if_ne (tgt := 21) hx hb dX8_sweep_12 (by decide) (fun c_12 => ?_) (fun c_12 => ?_)
  · obtain ⟨N, hN31, hk⟩ : ∃ j : Nat, j < 2 ^ 31 ∧ k = nI j := nI_of (nn_of (is_t hisr_1 c_12).1)
    refine lv_aload_n hx hb dX8_sweep_21 rfl (lv_at hl 0 rfl) ?_
    refine kV (rV (q0 := 1) (ci := 8) hx hb hml hown hg hN hK hP hD (m_lay l D cI cJ cZ cO oc am qo F G) mw_404 mw_405 mw_406 mw_407 mw_348 pdv_X8_lay ⟨Nat.le_of_ble_eq_true rfl, Nat.le_of_ble_eq_true rfl⟩ rfl rfl rfl hl.1 rfl (Nat.le_of_ble_eq_true rfl) dX8_sweep_22 ⟨Nat.le_of_ble_eq_true rfl, Nat.le_of_ble_eq_true rfl⟩) hD hS hA (fun u_2 H locs hp hP hD hS => ?_)
    obtain ⟨q_3, F_4, G_5, rfl⟩ := hp
    refine lv_aload_n hx hb dX8_sweep_25 rfl (lv_at hl 0 rfl) ?_
    refine lv_aload_n hx hb dX8_sweep_26 rfl (lv_at hl 0 rfl) ?_
    refine va_get (D := D) (ci := 8) (v := .ref q_3) (C := RX8) (T := TX8) (N := 32) hx hb hg inGX8 hown hK hP 1 rfl rfl 29 (by decide) (hg _ mw_374) (fun _ h9 => h9) rfl dX8_sweep_27 ?_
    refine lv_iload_n hx hb dX8_sweep_30 rfl (lv_at hl 1 rfl) ?_
    refine kI (rV (q0 := 1) (ci := 8) hx hb hml hown hg hN hK hP hD (m_swept l D cI cJ cZ cO oc am q_3 F_4 G_5 q_3 k N hk hN31) mw_461 mw_462 mw_463 mw_464 mw_348 pdv_X8_swept ⟨Nat.le_of_ble_eq_true rfl, Nat.le_of_ble_eq_true rfl⟩ rfl rfl rfl hl.1 rfl (Nat.le_of_ble_eq_true rfl) dX8_sweep_31 ⟨Nat.le_of_ble_eq_true rfl, Nat.le_of_ble_eq_true rfl⟩) hD hS hA (fun r_6 u_6 H locs hp hP hD hS => ?_)
    obtain ⟨rfl, rfl⟩ := hp
    refine lv_istore_n (lv' := [(2, .int 0), (0, .ref (am 1)), (1, .int k)]) hx hb dX8_sweep_34 rfl hl (by decide) rfl (fun ls hl => ?_)
    refine lv_aload_n hx hb dX8_sweep_35 rfl (lv_at hl 1 rfl) ?_
    refine lv_dup hx hb dX8_sweep_36 rfl ?_
    refine va_get (D := D) (ci := 8) (v := .int 0) (C := RX8) (T := TX8) (N := 32) hx hb hg inGX8 hown hK hP 1 rfl rfl 30 (by decide) (hg _ mw_350) (fun _ h9 => h9) rfl dX8_sweep_37 ?_
    refine lv_iload_n hx hb dX8_sweep_40 rfl (lv_at hl 2 rfl) ?_
    refine lv_iadd hx hb dX8_sweep_41 ?_
    refine lv_topi (fun v_7 ev_7 => ?_)
    refine va_put (D := D) (ci := 8) (v := .int v_7) (C := RX8) (T := TX8) (N := 32) hx hb hg inGX8 tyX8 tyX8_ok nmX8 hown hK hP hD hS 1 rfl rfl 30 (by decide) (hg _ mw_350) (fun _ h9 => h9) rfl (tyX8_ok 30 (by decide)) rfl rfl (Nat.le_of_ble_eq_true rfl) dX8_sweep_42 (fun H locs hP hD hS => ?_)
    have hP : va_P D vwCl (MW oc am cI cJ cZ cO 0 0 1 v_7 0 q_3 F_4 G_5) H := hP
    have hD : va_D A (MW oc am cI cJ cZ cO 0 0 1 v_7 0 q_3 F_4 G_5) := hD
    refine lv_iload_n hx hb dX8_sweep_45 rfl (lv_at hl 0 rfl) ?_
    exact W.iret (v := 0) hx hb hr (fun t ht hW => ⟨⟨0, (MW oc am cI cJ cZ cO 0 0 1 v_7 0 q_3 F_4 G_5), rfl, ⟨0, Or.inl ⟨⟨(is_t hisr_1 c_12).1, leI (is_t hisr_1 c_12).2⟩, rfl, rfl⟩, _, _, _, _, _, _, _, rfl⟩, ⟨by rw [ht]; exact hP, va_K.moved hW.alike hK, hD⟩⟩, hS.F ht⟩) hS.2.2 dX8_sweep_46
  · refine lv_aload_n hx hb dX8_sweep_15 rfl (lv_at hl 0 rfl) ?_
    refine lv_iconst (v := 1) hx hb dX8_sweep_16 (by decide) ?_
    refine kI (rV (q0 := 1) (ci := 8) hx hb hml hown hg hN hK hP hD (m_refuse l D cI cJ cZ cO oc am qo F G 0 0 0 0 0 1) mw_434 mw_435 mw_436 mw_437 mw_348 pdv_X8_refuse ⟨Nat.le_of_ble_eq_true rfl, Nat.le_of_ble_eq_true rfl⟩ rfl rfl rfl hl.1 rfl (Nat.le_of_ble_eq_true rfl) dX8_sweep_17 ⟨Nat.le_of_ble_eq_true rfl, Nat.le_of_ble_eq_true rfl⟩) hD hS hA (fun r_8 u_8 H locs hp hP hD hS => ?_)
    obtain ⟨rfl, rfl⟩ := hp
    refine W.widen (k := 3) (n := 160) (Nat.le_of_ble_eq_true rfl) (Nat.le_of_ble_eq_true rfl) ?_
    exact W.iret (v := 0) hx hb hr (fun t ht hW => ⟨⟨0, (MW oc am cI cJ cZ cO 1 0 0 0 0 qo F G), rfl, ⟨1, Or.inr ⟨(is_f hisr_1 c_12).imp id (fun h => Int32.not_le.mpr h), rfl⟩, _, _, _, _, _, _, _, rfl⟩, ⟨by rw [ht]; exact hP, va_K.moved hW.alike hK, hD⟩⟩, hS.F ht⟩) hS.2.2 dX8_sweep_20
set_option maxHeartbeats 4000000 in
set_option maxRecDepth 100000 in
theorem q_wouldCross (l : Launch) (D : va_G) (cI cJ cZ : ClassId) (cO : ClassId) (oc : Nat × va_E) (am : Nat → Nat) (qo : Nat) (F : Nat → Nat → Int32) (G : Nat → Nat → Int64) (k : Int32) : CT l D (TO cI cJ cZ cO) yX8_wouldCross (.code yX8_wouldCross cX8_wouldCross 2 (some Jvm.ClassFile.FieldType.int)) 5 4 160 (MW oc am cI cJ cZ cO 0 0 0 0 0 qo F G) [.ref (am 1), .int k] (QI D (TO cI cJ cZ cO) (fun r u => ∃ th', ((¬ k < 1 ∧ k ≤ 20) ∧ r = 0 ∧ th' = 0 ∨ (k < 1 ∨ ¬ k ≤ 20) ∧ th' = 1) ∧ ∃ mn' ld' sw' sm' qo' F' G', u = MW oc am cI cJ cZ cO th' mn' ld' sw' sm' qo' F' G')) := by
  refine ent (by decide) (Nat.le_of_ble_eq_true rfl) ?_
  intro p e s m below meth c ls A hx hb hr hg hown hml hlocks hnm hP hK hD hS hA hN hl
  have hl : lv_has ls 2 [(0, .ref (am 1)), (1, .int k)] := hl
  refine lv_aload_n hx hb dX8_wouldCross_0 rfl (lv_at hl 0 rfl) ?_
  refine lv_iconst (v := 0) hx hb dX8_wouldCross_1 (by decide) ?_
  refine va_put (D := D) (ci := 8) (v := .int 0) (C := RX8) (T := TX8) (N := 32) hx hb hg inGX8 tyX8 tyX8_ok nmX8 hown hK hP hD hS 1 rfl rfl 0 (by decide) (hg _ mw_343) (fun _ h9 => h9) rfl (tyX8_ok 0 (by decide)) rfl rfl (Nat.le_of_ble_eq_true rfl) dX8_wouldCross_2 (fun H locs hP hD hS => ?_)
  have hP : va_P D vwCl (MW oc am cI cJ cZ cO 0 0 0 0 0 qo F G) H := hP
  have hD : va_D A (MW oc am cI cJ cZ cO 0 0 0 0 0 qo F G) := hD
  refine lv_iload_n hx hb dX8_wouldCross_5 rfl (lv_at hl 1 rfl) ?_
  refine lv_iconst (v := 1) hx hb dX8_wouldCross_6 (by decide) ?_
  refine lv_bipush (v := 20) hx hb dX8_wouldCross_7 (by decide) ?_
  refine kI (rS hx hb hml hown hg hN hK hP hD (m_is l D cI cJ cZ cO (MW oc am cI cJ cZ cO 0 0 0 0 0 qo F G) k 1 20) mw_345 mw_346 mw_347 mw_348 pd_X8_is ⟨Nat.le_of_ble_eq_true rfl, Nat.le_of_ble_eq_true rfl⟩ rfl hl.1 rfl (Nat.le_of_ble_eq_true rfl) dX8_wouldCross_9 ⟨Nat.le_of_ble_eq_true rfl, Nat.le_of_ble_eq_true rfl⟩) hD hS hA (fun r_1 u_1 H locs hp hP hD hS => ?_)
  obtain ⟨hisr_1, rfl⟩ := hp
  refine lv_if_ne (tgt := 21) hx hb dX8_wouldCross_12 (by decide) (fun c_12 => ?_) (fun c_12 => ?_)
  · obtain ⟨N, hN31, hk⟩ : ∃ j : Nat, j < 2 ^ 31 ∧ k = nI j := nI_of (nn_of (is_t hisr_1 c_12).1)
    refine lv_aload_n hx hb dX8_wouldCross_21 rfl (lv_at hl 0 rfl) ?_
    refine kV (rV (q0 := 1) (ci := 8) hx hb hml hown hg hN hK hP hD (m_lay l D cI cJ cZ cO oc am qo F G) mw_404 mw_405 mw_406 mw_407 mw_348 pdv_X8_lay ⟨Nat.le_of_ble_eq_true rfl, Nat.le_of_ble_eq_true rfl⟩ rfl rfl rfl hl.1 rfl (Nat.le_of_ble_eq_true rfl) dX8_wouldCross_22 ⟨Nat.le_of_ble_eq_true rfl, Nat.le_of_ble_eq_true rfl⟩) hD hS hA (fun u_2 H locs hp hP hD hS => ?_)
    obtain ⟨q_3, F_4, G_5, rfl⟩ := hp
    refine lv_aload_n hx hb dX8_wouldCross_25 rfl (lv_at hl 0 rfl) ?_
    refine lv_aload_n hx hb dX8_wouldCross_26 rfl (lv_at hl 0 rfl) ?_
    refine va_get (D := D) (ci := 8) (v := .ref q_3) (C := RX8) (T := TX8) (N := 32) hx hb hg inGX8 hown hK hP 1 rfl rfl 29 (by decide) (hg _ mw_374) (fun _ h9 => h9) rfl dX8_wouldCross_27 ?_
    refine va_clone (x := (0, .inr (.inr (.inr (.inr (fun _ => none)))))) hx hb (by rw [hml]; exact hl.1.symm) hown (hg _ mw_465) (hg _ mw_466) (hg _ mw_467) (hg _ mw_468) (hg _ mw_469) (hN.1 _ nw_109) hK hP hD hS hA 21 3 rfl rfl (hK.2 3 _ rfl).2 (fun i v h => by simp [vp_cell, arrV] at h) (Nat.le_of_ble_eq_true rfl) (Nat.le_of_ble_eq_true rfl) (Nat.le_of_ble_eq_true rfl) (Nat.le_of_ble_eq_true rfl) dX8_wouldCross_30 (fun q_6 H hK9 hP hD hS => ?_)
    refine va_castA hx hb hown (hg _ mw_470) hP 22 rfl (hK.2 3 _ rfl).2 dX8_wouldCross_33 ?_
    refine lv_iload_n hx hb dX8_wouldCross_36 rfl (lv_at hl 1 rfl) ?_
    have hP : va_P D vwCl (MW oc am cI cJ cZ cO 0 0 1 0 0 q_3 F_4 G_5) H := hP.sub [0, 1, 2, 3, 4, 5, 6, 7, 8, 9, 10, 11, 12, 13, 14, 15, 16, 17, 18, 19, 20, 21] rfl
    have hD : va_D A (MW oc am cI cJ cZ cO 0 0 1 0 0 q_3 F_4 G_5) := hD.sub [0, 1, 2, 3, 4, 5, 6, 7, 8, 9, 10, 11, 12, 13, 14, 15, 16, 17, 18, 19, 20, 21] (by decide) rfl
    refine kI (rV (q0 := 1) (ci := 8) hx hb hml hown hg hN hK hP hD (m_swept l D cI cJ cZ cO oc am q_3 F_4 G_5 q_6 k N hk hN31) mw_461 mw_462 mw_463 mw_464 mw_348 pdv_X8_swept ⟨Nat.le_of_ble_eq_true rfl, Nat.le_of_ble_eq_true rfl⟩ rfl rfl rfl hl.1 rfl (Nat.le_of_ble_eq_true rfl) dX8_wouldCross_37 ⟨Nat.le_of_ble_eq_true rfl, Nat.le_of_ble_eq_true rfl⟩) hD hS hA (fun r_7 u_7 H locs hp hP hD hS => ?_)
    obtain ⟨rfl, rfl⟩ := hp
    exact W.iret (v := 0) hx hb hr (fun t ht hW => ⟨⟨0, (MW oc am cI cJ cZ cO 0 0 1 0 0 q_3 F_4 G_5), rfl, ⟨0, Or.inl ⟨⟨(is_t hisr_1 c_12).1, leI (is_t hisr_1 c_12).2⟩, rfl, rfl⟩, _, _, _, _, _, _, _, rfl⟩, ⟨by rw [ht]; exact hP, va_K.moved hW.alike hK, hD⟩⟩, hS.F ht⟩) hS.2.2 dX8_wouldCross_40
  · refine lv_aload_n hx hb dX8_wouldCross_15 rfl (lv_at hl 0 rfl) ?_
    refine lv_iconst (v := 1) hx hb dX8_wouldCross_16 (by decide) ?_
    refine kI (rV (q0 := 1) (ci := 8) hx hb hml hown hg hN hK hP hD (m_refuse l D cI cJ cZ cO oc am qo F G 0 0 0 0 0 1) mw_434 mw_435 mw_436 mw_437 mw_348 pdv_X8_refuse ⟨Nat.le_of_ble_eq_true rfl, Nat.le_of_ble_eq_true rfl⟩ rfl rfl rfl hl.1 rfl (Nat.le_of_ble_eq_true rfl) dX8_wouldCross_17 ⟨Nat.le_of_ble_eq_true rfl, Nat.le_of_ble_eq_true rfl⟩) hD hS hA (fun r_8 u_8 H locs hp hP hD hS => ?_)
    obtain ⟨rfl, rfl⟩ := hp
    refine W.widen (k := 4) (n := 160) (Nat.le_of_ble_eq_true rfl) (Nat.le_of_ble_eq_true rfl) ?_
    exact W.iret (v := 0) hx hb hr (fun t ht hW => ⟨⟨0, (MW oc am cI cJ cZ cO 1 0 0 0 0 qo F G), rfl, ⟨1, Or.inr ⟨(is_f hisr_1 c_12).imp id (fun h => Int32.not_le.mpr h), rfl⟩, _, _, _, _, _, _, _, rfl⟩, ⟨by rw [ht]; exact hP, va_K.moved hW.alike hK, hD⟩⟩, hS.F ht⟩) hS.2.2 dX8_wouldCross_20
