theorem dX1_leadersOf_0 : decode cX1_leadersOf 0 = .ok (.lconst 1, 1) := by decide +kernel
theorem dX1_leadersOf_1 : decode cX1_leadersOf 1 = .ok (.lstore_n 1, 1) := by decide +kernel
theorem dX1_leadersOf_2 : decode cX1_leadersOf 2 = .ok (.iconst 0, 1) := by decide +kernel
theorem dX1_leadersOf_3 : decode cX1_leadersOf 3 = .ok (.istore_n 3, 1) := by decide +kernel
theorem dX1_leadersOf_4 : decode cX1_leadersOf 4 = .ok (.iload_n 3, 1) := by decide +kernel
theorem dX1_leadersOf_5 : decode cX1_leadersOf 5 = .ok (.aload_n 0, 1) := by decide +kernel
theorem dX1_leadersOf_6 : decode cX1_leadersOf 6 = .ok (.getfield 34, 3) := by decide +kernel
theorem dX1_leadersOf_9 : decode cX1_leadersOf 9 = .ok (.if_icmp .ge 55, 3) := by decide +kernel
theorem dX1_leadersOf_64 : decode cX1_leadersOf 64 = .ok (.lload_n 1, 1) := by decide +kernel
theorem dX1_leadersOf_65 : decode cX1_leadersOf 65 = .ok (.lreturn, 1) := by decide +kernel
theorem dX1_cut_0 : decode cX1_cut 0 = .ok (.aload_n 0, 1) := by decide +kernel
theorem dX1_cut_1 : decode cX1_cut 1 = .ok (.iconst 0, 1) := by decide +kernel
theorem dX1_cut_2 : decode cX1_cut 2 = .ok (.putfield 51, 3) := by decide +kernel
theorem dX1_cut_5 : decode cX1_cut 5 = .ok (.iconst 0, 1) := by decide +kernel
theorem dX1_cut_6 : decode cX1_cut 6 = .ok (.istore 4, 2) := by decide +kernel
theorem dX1_cut_8 : decode cX1_cut 8 = .ok (.iload 4, 2) := by decide +kernel
theorem dX1_cut_10 : decode cX1_cut 10 = .ok (.iload_n 1, 1) := by decide +kernel
theorem dX1_cut_11 : decode cX1_cut 11 = .ok (.if_icmp .ge 71, 3) := by decide +kernel
theorem dX1_cut_82 : decode cX1_cut 82 = .ok (.return_, 1) := by decide +kernel
theorem dX1_part_0 : decode cX1_part 0 = .ok (.aload_n 0, 1) := by decide +kernel
theorem dX1_part_1 : decode cX1_part 1 = .ok (.aload_n 1, 1) := by decide +kernel
theorem dX1_part_2 : decode cX1_part 2 = .ok (.getfield 34, 3) := by decide +kernel
theorem dX1_part_5 : decode cX1_part 5 = .ok (.aload_n 1, 1) := by decide +kernel
theorem dX1_part_6 : decode cX1_part 6 = .ok (.invokestatic 40, 3) := by decide +kernel
theorem dX1_part_9 : decode cX1_part 9 = .ok (.invokevirtual 44, 3) := by decide +kernel
theorem dX1_part_12 : decode cX1_part 12 = .ok (.aload_n 0, 1) := by decide +kernel
theorem dX1_part_13 : decode cX1_part 13 = .ok (.iconst 0, 1) := by decide +kernel
theorem dX1_part_14 : decode cX1_part 14 = .ok (.putfield 48, 3) := by decide +kernel
theorem dX1_part_17 : decode cX1_part 17 = .ok (.iconst 0, 1) := by decide +kernel
theorem dX1_part_18 : decode cX1_part 18 = .ok (.istore_n 2, 1) := by decide +kernel
theorem dX1_part_19 : decode cX1_part 19 = .ok (.iload_n 2, 1) := by decide +kernel
theorem dX1_part_20 : decode cX1_part 20 = .ok (.aload_n 0, 1) := by decide +kernel
theorem dX1_part_21 : decode cX1_part 21 = .ok (.getfield 51, 3) := by decide +kernel
theorem dX1_part_24 : decode cX1_part 24 = .ok (.if_icmp .ge 36, 3) := by decide +kernel
theorem dX1_part_60 : decode cX1_part 60 = .ok (.aload_n 0, 1) := by decide +kernel
theorem dX1_part_61 : decode cX1_part 61 = .ok (.getfield 27, 3) := by decide +kernel
theorem dX1_part_64 : decode cX1_part 64 = .ok (.aload_n 0, 1) := by decide +kernel
theorem dX1_part_65 : decode cX1_part 65 = .ok (.getfield 51, 3) := by decide +kernel
theorem dX1_part_68 : decode cX1_part 68 = .ok (.aload_n 0, 1) := by decide +kernel
theorem dX1_part_69 : decode cX1_part 69 = .ok (.getfield 48, 3) := by decide +kernel
theorem dX1_part_72 : decode cX1_part 72 = .ok (.invokestatic 54, 3) := by decide +kernel
theorem dX1_part_75 : decode cX1_part 75 = .ok (.aload_n 0, 1) := by decide +kernel
theorem dX1_part_76 : decode cX1_part 76 = .ok (.aload_n 0, 1) := by decide +kernel
theorem dX1_part_77 : decode cX1_part 77 = .ok (.getfield 51, 3) := by decide +kernel
theorem dX1_part_80 : decode cX1_part 80 = .ok (.ifCond .le 19, 3) := by decide +kernel
theorem dX1_part_99 : decode cX1_part 99 = .ok (.lconst 0, 1) := by decide +kernel
theorem dX1_part_100 : decode cX1_part 100 = .ok (.putfield 73, 3) := by decide +kernel
theorem dX1_part_103 : decode cX1_part 103 = .ok (.return_, 1) := by decide +kernel
theorem dX7_freshFlow_0 : decode cX7_freshFlow 0 = .ok (.aload_n 0, 1) := by decide +kernel
theorem dX7_freshFlow_1 : decode cX7_freshFlow 1 = .ok (.getfield 19, 3) := by decide +kernel
theorem dX7_freshFlow_4 : decode cX7_freshFlow 4 = .ok (.getfield 333, 3) := by decide +kernel
theorem dX7_freshFlow_7 : decode cX7_freshFlow 7 = .ok (.ifCond .ne 22, 3) := by decide +kernel
theorem dX7_freshFlow_10 : decode cX7_freshFlow 10 = .ok (.aload_n 0, 1) := by decide +kernel
theorem dX7_freshFlow_11 : decode cX7_freshFlow 11 = .ok (.getfield 19, 3) := by decide +kernel
theorem dX7_freshFlow_14 : decode cX7_freshFlow 14 = .ok (.aload_n 0, 1) := by decide +kernel
theorem dX7_freshFlow_15 : decode cX7_freshFlow 15 = .ok (.getfield 10, 3) := by decide +kernel
theorem dX7_freshFlow_18 : decode cX7_freshFlow 18 = .ok (.invokevirtual 337, 3) := by decide +kernel
theorem dX7_freshFlow_21 : decode cX7_freshFlow 21 = .ok (.aload_n 0, 1) := by decide +kernel
theorem dX7_freshFlow_22 : decode cX7_freshFlow 22 = .ok (.getfield 19, 3) := by decide +kernel
theorem dX7_freshFlow_25 : decode cX7_freshFlow 25 = .ok (.iconst 1, 1) := by decide +kernel
theorem dX7_freshFlow_26 : decode cX7_freshFlow 26 = .ok (.putfield 333, 3) := by decide +kernel
theorem dX7_freshFlow_29 : decode cX7_freshFlow 29 = .ok (.aload_n 0, 1) := by decide +kernel
theorem dX7_freshFlow_30 : decode cX7_freshFlow 30 = .ok (.getfield 19, 3) := by decide +kernel
theorem dX7_freshFlow_33 : decode cX7_freshFlow 33 = .ok (.areturn, 1) := by decide +kernel
theorem mw_97 : Cond.fieldLink RX1 51 "OrielChart$Flow" "blockCount" "I" ∈ GW := gw_mem (inT1 _ (List.mem_of_getElem? (i := 89) rfl)) rfl
theorem mw_98 : Cond.code yX1_leadersOf cX1_leadersOf 5 (some Jvm.ClassFile.FieldType.long) ∈ GW := gw_mem (inT2 _ (List.mem_of_getElem? (i := 108) rfl)) rfl
theorem mw_99 : Cond.methodLink RX1 40 yX1_leadersOf ∈ GW := gw_mem (inT2 _ (List.mem_of_getElem? (i := 106) rfl)) rfl
theorem mw_100 : Cond.static yX1_leadersOf ∈ GW := gw_mem (inT2 _ (List.mem_of_getElem? (i := 107) rfl)) rfl
theorem mw_101 : Cond.initialized RX1 ∈ GW := gw_mem (inT1 _ (List.mem_of_getElem? (i := 3) rfl)) rfl
theorem mw_102 : Cond.code yX1_cut cX1_cut 5 (none : Option FieldType) ∈ GW := gw_mem (inT2 _ (List.mem_of_getElem? (i := 121) rfl)) rfl
theorem mw_103 : Cond.methodLink RX1 44 yX1_cut ∈ GW := gw_mem (inT2 _ (List.mem_of_getElem? (i := 118) rfl)) rfl
theorem mw_104 : Cond.instanceMethod yX1_cut ∈ GW := gw_mem (inT2 _ (List.mem_of_getElem? (i := 120) rfl)) rfl
theorem mw_105 : Cond.selects RX1 yX1_cut yX1_cut ∈ GW := gw_mem (inTp (q := (yX1_cut, 11)) (List.mem_of_getElem? (i := 1) rfl)) rfl
theorem mw_106 : Cond.fieldLink RX1 48 "OrielChart$Flow" "edgeCount" "I" ∈ GW := gw_mem (inT1 _ (List.mem_of_getElem? (i := 95) rfl)) rfl
theorem mw_107 : Cond.fieldLink RX1 27 "OrielChart$Flow" "firstEdge" "[I" ∈ GW := gw_mem (inT1 _ (List.mem_of_getElem? (i := 83) rfl)) rfl
theorem mw_108 : Cond.code yX7_put cX7_put 3 (none : Option FieldType) ∈ GW := gw_mem (inT2 _ (List.mem_of_getElem? (i := 127) rfl)) rfl
theorem mw_109 : Cond.static yX7_put ∈ GW := gw_mem (inT2 _ (List.mem_of_getElem? (i := 126) rfl)) rfl
theorem mw_110 : Cond.initialized RX7 ∈ GW := gw_mem (inT1 _ (List.mem_of_getElem? (i := 1) rfl)) rfl
theorem mw_111 : Cond.fieldLink RX1 73 "OrielChart$Flow" "reached" "J" ∈ GW := gw_mem (inT1 _ (List.mem_of_getElem? (i := 101) rfl)) rfl
theorem mw_112 : Cond.fieldLink RX7 19 "OrielChart" "flow" "LOrielChart$Flow;" ∈ GW := gw_mem (inT2 _ (List.mem_of_getElem? (i := 72) rfl)) rfl
theorem mw_113 : Cond.fieldLink RX7 10 "OrielChart" "code" "LOrielChart$Code;" ∈ GW := gw_mem (inT2 _ (List.mem_of_getElem? (i := 71) rfl)) rfl
theorem mw_114 : Cond.code yX1_part cX1_part 3 (none : Option FieldType) ∈ GW := gw_mem (inT2 _ (List.mem_of_getElem? (i := 105) rfl)) rfl
theorem mw_115 : Cond.methodLink RX7 337 yX1_part ∈ GW := gw_mem (inT2 _ (List.mem_of_getElem? (i := 102) rfl)) rfl
theorem mw_116 : Cond.instanceMethod yX1_part ∈ GW := gw_mem (inT2 _ (List.mem_of_getElem? (i := 103) rfl)) rfl
theorem mw_117 : Cond.selects RX1 yX1_part yX1_part ∈ GW := gw_mem (inT2 _ (List.mem_of_getElem? (i := 104) rfl)) rfl
theorem pd_X1_leadersOf : yX1_leadersOf.cls ≠ "java/lang/invoke/MethodHandle" ∧ yX1_leadersOf.cls ≠ "java/lang/invoke/VarHandle" ∧ (parseMethodDescriptor yX1_leadersOf.desc).map (fun d => d.parameters.length) = some 1 := by decide +kernel
theorem pdv_X1_cut : yX1_cut.cls = RX1 ∧ yX1_cut.cls ≠ "java/lang/invoke/MethodHandle" ∧ yX1_cut.cls ≠ "java/lang/invoke/VarHandle" ∧ (parseMethodDescriptor yX1_cut.desc).map (fun d => d.parameters.length) = some 2 := by decide +kernel
theorem pd_X7_put : yX7_put.cls ≠ "java/lang/invoke/MethodHandle" ∧ yX7_put.cls ≠ "java/lang/invoke/VarHandle" ∧ (parseMethodDescriptor yX7_put.desc).map (fun d => d.parameters.length) = some 3 := by decide +kernel
theorem pdv_X1_part : yX1_part.cls = RX1 ∧ yX1_part.cls ≠ "java/lang/invoke/MethodHandle" ∧ yX1_part.cls ≠ "java/lang/invoke/VarHandle" ∧ (parseMethodDescriptor yX1_part.desc).map (fun d => d.parameters.length) = some 1 := by decide +kernel
def XW (ad : Nat → Nat) (cI cJ : ClassId) (n : Int32) (b : Nat → Int32) (F : Nat → Nat → Int32) (G : Nat → Nat → Int64) : va_W := [(ad 0, .inr (7, [.ref (ad 1), .ref (ad 2), .ref (ad 3), .ref (ad 4), .ref (ad 5), .ref (ad 6)])), (ad 1, .inr (0, [.ref (ad 8), .ref (ad 9), .ref (ad 10), .ref (ad 11), .int n])), (ad 2, .inr (1, [.ref (ad 12), .ref (ad 13), .ref (ad 14), .ref (ad 15), .ref (ad 16), .ref (ad 17), .ref (ad 18), .int 0, .int 0, .long 0, .int (b 0)])), (ad 3, .inr (4, [.ref (ad 19), .ref (ad 20), .ref (ad 21), .ref (ad 22), .int 0, .int (b 1), .int (b 2)])), (ad 4, .inr (2, [.ref (ad 23), .int 0, .int (b 3)])), (ad 5, .inr (5, [.ref (ad 24), .ref (ad 25), .ref (ad 26), .ref (ad 27), .ref (ad 28), .long 0, .int 0, .int (b 4)])), (ad 6, .inr (3, [.ref (ad 7), .ref (ad 34), .ref (ad 35), .ref (ad 36), .ref (ad 37), .ref (ad 38), .ref (ad 39), .ref (ad 40), .ref (ad 41), .ref (ad 42), .ref (ad 43), .ref (ad 44), .int 0, .int 0, .int (b 5), .int (b 6)])), (ad 7, .inr (6, [.ref (ad 29), .ref (ad 30), .ref (ad 31), .ref (ad 32), .ref (ad 33), .int 0, .int 0, .long 0, .long 0])), (ad 8, .inl (cI, 40, .inl (F 8))), (ad 9, .inl (cI, 40, .inl (F 9))), (ad 10, .inl (cI, 40, .inl (F 10))), (ad 11, .inl (cI, 40, .inl (F 11))), (ad 12, .inl (cI, 40, .inl (F 12))), (ad 13, .inl (cI, 40, .inl (F 13))), (ad 14, .inl (cI, 40, .inl (F 14))), (ad 15, .inl (cI, 80, .inl (F 15))), (ad 16, .inl (cI, 80, .inl (F 16))), (ad 17, .inl (cI, 41, .inl (F 17))), (ad 18, .inl (cJ, 40, .inr (.inl (G 18)))), (ad 19, .inl (cJ, 40, .inr (.inl (G 19)))), (ad 20, .inl (cJ, 40, .inr (.inl (G 20)))), (ad 21, .inl (cJ, 40, .inr (.inl (G 21)))), (ad 22, .inl (cJ, 40, .inr (.inl (G 22)))), (ad 23, .inl (cI, 40, .inl (F 23))), (ad 24, .inl (cJ, 40, .inr (.inl (fun _ => 0)))), (ad 25, .inl (cI, 40, .inl (F 25))), (ad 26, .inl (cI, 120, .inl (F 26))), (ad 27, .inl (cI, 120, .inl (F 27))), (ad 28, .inl (cI, 41, .inl (F 28))), (ad 29, .inl (cI, 40, .inl (F 29))), (ad 30, .inl (cI, 80, .inl (F 30))), (ad 31, .inl (cI, 80, .inl (F 31))), (ad 32, .inl (cI, 40, .inl (F 32))), (ad 33, .inl (cI, 40, .inl (F 33))), (ad 34, .inl (cI, 40, .inl (F 34))), (ad 35, .inl (cI, 41, .inl (fun _ => 0))), (ad 36, .inl (cI, 80, .inl (F 36))), (ad 37, .inl (cI, 1600, .inl (F 37))), (ad 38, .inl (cI, 1600, .inl (F 38))), (ad 39, .inl (cI, 1600, .inl (F 39))), (ad 40, .inl (cI, 1600, .inl (F 40))), (ad 41, .inl (cI, 120, .inl (F 41))), (ad 42, .inl (cI, 120, .inl (F 42))), (ad 43, .inl (cI, 80, .inl (F 43))), (ad 44, .inl (cI, 80, .inl (F 44)))]
set_option maxHeartbeats 4000000 in
set_option maxRecDepth 100000 in
theorem c_leadersOf (l : Launch) (D : va_G) (cI cJ cZ : ClassId) (ad : Nat → Nat) (b : Nat → Int32) (F : Nat → Nat → Int32) (G : Nat → Nat → Int64) (R : va_W) : CT l D (TY cI cJ cZ) yX1_leadersOf (.code yX1_leadersOf cX1_leadersOf 5 (some Jvm.ClassFile.FieldType.long)) 1 0 0 (XW ad cI cJ 0 b F G ++ R) [.ref (ad 1)] (QL D (TY cI cJ cZ) (fun r u => r = 1 ∧ u = XW ad cI cJ 0 b F G ++ R)) := by
  refine ent (by decide) (Nat.le_of_ble_eq_true rfl) ?_
  intro p e s m below meth c ls A hx hb hr hg hown hml hlocks hnm hP hK hD hS hA hN hl
  have hl : lv_has ls 5 [(0, .ref (ad 1))] := hl
  refine lv_lconst (v := 1) hx hb dX1_leadersOf_0 (by decide) ?_
  refine lv_lstore_n (lv' := [(1, .long 1), (0, .ref (ad 1))]) hx hb dX1_leadersOf_1 rfl hl (by decide) rfl (fun ls hl => ?_)
  refine lv_iconst (v := 0) hx hb dX1_leadersOf_2 (by decide) ?_
  refine lv_istore_n (lv' := [(3, .int 0), (1, .long 1), (0, .ref (ad 1))]) hx hb dX1_leadersOf_3 rfl hl (by decide) rfl (fun ls hl => ?_)
  refine lv_iload_n hx hb dX1_leadersOf_4 rfl (lv_at hl 0 rfl) ?_
  refine lv_aload_n hx hb dX1_leadersOf_5 rfl (lv_at hl 2 rfl) ?_
  refine va_getN (D := D) (ci := 0) (v := .int 0) (C := RX0) (T := TX0) (N := 5) hx hb hg inGX0 hown hK hP 1 rfl rfl 4 (by decide) (hN.use nw_9) (fun _ h9 => h9) rfl dX1_leadersOf_6 ?_
  refine lv_icmp_ge (tgt := 64) hx hb dX1_leadersOf_9 (by decide) (fun c_9 => ?_) (fun c_9 => absurd (by decide) c_9)
  refine lv_lload_n hx hb dX1_leadersOf_64 rfl (lv_at hl 1 rfl) ?_
  exact W.lret (v := 1) hx hb hr (fun t ht hW => ⟨⟨1, (XW ad cI cJ 0 b F G ++ R), rfl, ⟨rfl, rfl⟩, ⟨by rw [ht]; exact hP, va_K.moved hW.alike hK, hD⟩⟩, hS.F ht⟩) hS.2.2 dX1_leadersOf_65
set_option maxHeartbeats 4000000 in
set_option maxRecDepth 100000 in
theorem c_cut (l : Launch) (D : va_G) (cI cJ cZ : ClassId) (ad : Nat → Nat) (b : Nat → Int32) (F : Nat → Nat → Int32) (G : Nat → Nat → Int64) (R : va_W) (v : Int64) : CT l D (TY cI cJ cZ) yX1_cut (.code yX1_cut cX1_cut 5 (none : Option FieldType)) 1 0 0 (XW ad cI cJ 0 b F G ++ R) [.ref (ad 2), .int 0, .long v] (QV D (TY cI cJ cZ) (fun u => u = XW ad cI cJ 0 b F G ++ R)) := by
  refine ent (by decide) (Nat.le_of_ble_eq_true rfl) ?_
  intro p e s m below meth c ls A hx hb hr hg hown hml hlocks hnm hP hK hD hS hA hN hl
  have hl : lv_has ls 5 [(0, .ref (ad 2)), (1, .int 0), (2, .long v)] := hl
  refine lv_aload_n hx hb dX1_cut_0 rfl (lv_at hl 0 rfl) ?_
  refine lv_iconst (v := 0) hx hb dX1_cut_1 (by decide) ?_
  refine va_put (D := D) (ci := 1) (v := .int 0) (C := RX1) (T := TX1) (N := 11) hx hb hg inGX1 tyX1 tyX1_ok nmX1 hown hK hP hD hS 2 rfl rfl 7 (by decide) (hg _ mw_97) (fun _ h9 => h9) rfl (tyX1_ok 7 (by decide)) rfl rfl (Nat.le_of_ble_eq_true rfl) dX1_cut_2 (fun H locs hP hD hS => ?_)
  have hP : va_P D vwCl (XW ad cI cJ 0 b F G ++ R) H := hP
  have hD : va_D A (XW ad cI cJ 0 b F G ++ R) := hD
  refine lv_iconst (v := 0) hx hb dX1_cut_5 (by decide) ?_
  refine lv_istore (lv' := [(4, .int 0), (0, .ref (ad 2)), (1, .int 0), (2, .long v)]) hx hb dX1_cut_6 hl (by decide) rfl (fun ls hl => ?_)
  refine lv_iload hx hb dX1_cut_8 (lv_at hl 0 rfl) ?_
  refine lv_iload_n hx hb dX1_cut_10 rfl (lv_at hl 2 rfl) ?_
  refine lv_icmp_ge (tgt := 82) hx hb dX1_cut_11 (by decide) (fun c_11 => ?_) (fun c_11 => absurd (by decide) c_11)
  exact W.vret hx hb hr (fun t ht hW => ⟨⟨(XW ad cI cJ 0 b F G ++ R), rfl, rfl, ⟨by rw [ht]; exact hP, va_K.moved hW.alike hK, hD⟩⟩, hS.F ht⟩) hS.2.2 dX1_cut_82
set_option maxHeartbeats 4000000 in
set_option maxRecDepth 100000 in
theorem c_part (l : Launch) (D : va_G) (cI cJ cZ : ClassId) (ad : Nat → Nat) (b : Nat → Int32) (F : Nat → Nat → Int32) (G : Nat → Nat → Int64) (R : va_W) : CT l D (TY cI cJ cZ) yX1_part (.code yX1_part cX1_part 3 (none : Option FieldType)) 2 0 0 (XW ad cI cJ 0 b F G ++ R) [.ref (ad 2), .ref (ad 1)] (QV D (TY cI cJ cZ) (fun u => ∃ F' G', u = XW ad cI cJ 0 b F' G' ++ R)) := by
  refine ent (by decide) (Nat.le_of_ble_eq_true rfl) ?_
  intro p e s m below meth c ls A hx hb hr hg hown hml hlocks hnm hP hK hD hS hA hN hl
  have hl : lv_has ls 3 [(0, .ref (ad 2)), (1, .ref (ad 1))] := hl
  refine lv_aload_n hx hb dX1_part_0 rfl (lv_at hl 0 rfl) ?_
  refine lv_aload_n hx hb dX1_part_1 rfl (lv_at hl 1 rfl) ?_
  refine va_getN (D := D) (ci := 0) (v := .int 0) (C := RX0) (T := TX0) (N := 5) hx hb hg inGX0 hown hK hP 1 rfl rfl 4 (by decide) (hN.use nw_9) (fun _ h9 => h9) rfl dX1_part_2 ?_
  refine lv_aload_n hx hb dX1_part_5 rfl (lv_at hl 1 rfl) ?_
  refine kL (rS hx hb hml hown hg hN hK hP hD (c_leadersOf l D cI cJ cZ ad b F G R) mw_98 mw_99 mw_100 mw_101 pd_X1_leadersOf ⟨Nat.le_of_ble_eq_true rfl, Nat.le_of_ble_eq_true rfl⟩ rfl hl.1 rfl (Nat.le_of_ble_eq_true rfl) dX1_part_6 ⟨Nat.le_of_ble_eq_true rfl, Nat.le_of_ble_eq_true rfl⟩) hD hS hA (fun r_1 u_1 H locs hp hP hD hS => ?_)
  obtain ⟨rfl, rfl⟩ := hp
  refine kV (rV (q0 := 2) (ci := 1) hx hb hml hown hg hN hK hP hD (c_cut l D cI cJ cZ ad b F G R 1) mw_102 mw_103 mw_104 mw_105 mw_101 pdv_X1_cut ⟨Nat.le_of_ble_eq_true rfl, Nat.le_of_ble_eq_true rfl⟩ rfl rfl rfl hl.1 rfl (Nat.le_of_ble_eq_true rfl) dX1_part_9 ⟨Nat.le_of_ble_eq_true rfl, Nat.le_of_ble_eq_true rfl⟩) hD hS hA (fun u_2 H locs hp hP hD hS => ?_)
  obtain rfl := hp
  refine lv_aload_n hx hb dX1_part_12 rfl (lv_at hl 0 rfl) ?_
  refine lv_iconst (v := 0) hx hb dX1_part_13 (by decide) ?_
  refine va_put (D := D) (ci := 1) (v := .int 0) (C := RX1) (T := TX1) (N := 11) hx hb hg inGX1 tyX1 tyX1_ok nmX1 hown hK hP hD hS 2 rfl rfl 8 (by decide) (hg _ mw_106) (fun _ h9 => h9) rfl (tyX1_ok 8 (by decide)) rfl rfl (Nat.le_of_ble_eq_true rfl) dX1_part_14 (fun H locs hP hD hS => ?_)
  have hP : va_P D vwCl (XW ad cI cJ 0 b F G ++ R) H := hP
  have hD : va_D A (XW ad cI cJ 0 b F G ++ R) := hD
  refine lv_iconst (v := 0) hx hb dX1_part_17 (by decide) ?_
  refine lv_istore_n (lv' := [(2, .int 0), (0, .ref (ad 2)), (1, .ref (ad 1))]) hx hb dX1_part_18 rfl hl (by decide) rfl (fun ls hl => ?_)
  refine lv_iload_n hx hb dX1_part_19 rfl (lv_at hl 0 rfl) ?_
  refine lv_aload_n hx hb dX1_part_20 rfl (lv_at hl 1 rfl) ?_
  refine va_get (D := D) (ci := 1) (v := .int 0) (C := RX1) (T := TX1) (N := 11) hx hb hg inGX1 hown hK hP 2 rfl rfl 7 (by decide) (hg _ mw_97) (fun _ h9 => h9) rfl dX1_part_21 ?_
  refine lv_icmp_ge (tgt := 60) hx hb dX1_part_24 (by decide) (fun c_24 => ?_) (fun c_24 => absurd (by decide) c_24)
  refine lv_aload_n hx hb dX1_part_60 rfl (lv_at hl 1 rfl) ?_
  refine va_get (D := D) (ci := 1) (v := .ref (ad 17)) (C := RX1) (T := TX1) (N := 11) hx hb hg inGX1 hown hK hP 2 rfl rfl 5 (by decide) (hg _ mw_107) (fun _ h9 => h9) rfl dX1_part_61 ?_
  refine lv_aload_n hx hb dX1_part_64 rfl (lv_at hl 1 rfl) ?_
  refine va_get (D := D) (ci := 1) (v := .int 0) (C := RX1) (T := TX1) (N := 11) hx hb hg inGX1 hown hK hP 2 rfl rfl 7 (by decide) (hg _ mw_97) (fun _ h9 => h9) rfl dX1_part_65 ?_
  refine lv_aload_n hx hb dX1_part_68 rfl (lv_at hl 1 rfl) ?_
  refine va_get (D := D) (ci := 1) (v := .int 0) (C := RX1) (T := TX1) (N := 11) hx hb hg inGX1 hown hK hP 2 rfl rfl 8 (by decide) (hg _ mw_106) (fun _ h9 => h9) rfl dX1_part_69 ?_
  refine kV (rSN hx hb hml hown hg hN hK hP hD (c_put l D cI cJ cZ (XW ad cI cJ 0 b F G ++ R) 17 (ad 17) 41 (F 17) 0 0 rfl (by decide)) mw_108 nw_69 mw_109 mw_110 pd_X7_put ⟨Nat.le_of_ble_eq_true rfl, Nat.le_of_ble_eq_true rfl⟩ rfl hl.1 rfl (Nat.le_of_ble_eq_true rfl) dX1_part_72 ⟨Nat.le_of_ble_eq_true rfl, Nat.le_of_ble_eq_true rfl⟩) hD hS hA (fun u_3 H locs hp hP hD hS => ?_)
  obtain ⟨f_4, rfl, hp1, hp2⟩ := hp
  have hP : va_P D vwCl (XW ad cI cJ 0 b (va_up F 17 f_4) G ++ R) H := hP
  have hD : va_D A (XW ad cI cJ 0 b (va_up F 17 f_4) G ++ R) := hD
  refine lv_aload_n hx hb dX1_part_75 rfl (lv_at hl 1 rfl) ?_
  refine lv_aload_n hx hb dX1_part_76 rfl (lv_at hl 1 rfl) ?_
  refine va_get (D := D) (ci := 1) (v := .int 0) (C := RX1) (T := TX1) (N := 11) hx hb hg inGX1 hown hK hP 2 rfl rfl 7 (by decide) (hg _ mw_97) (fun _ h9 => h9) rfl dX1_part_77 ?_
  refine lv_if_le (tgt := 99) hx hb dX1_part_80 (by decide) (fun c_80 => ?_) (fun c_80 => absurd (by decide) c_80)
  refine lv_lconst (v := 0) hx hb dX1_part_99 (by decide) ?_
  refine va_put (D := D) (ci := 1) (v := .long 0) (C := RX1) (T := TX1) (N := 11) hx hb hg inGX1 tyX1 tyX1_ok nmX1 hown hK hP hD hS 2 rfl rfl 9 (by decide) (hg _ mw_111) (fun _ h9 => h9) rfl (tyX1_ok 9 (by decide)) rfl rfl (Nat.le_of_ble_eq_true rfl) dX1_part_100 (fun H locs hP hD hS => ?_)
  have hP : va_P D vwCl (XW ad cI cJ 0 b (va_up F 17 f_4) G ++ R) H := hP
  have hD : va_D A (XW ad cI cJ 0 b (va_up F 17 f_4) G ++ R) := hD
  exact W.vret hx hb hr (fun t ht hW => ⟨⟨(XW ad cI cJ 0 b (va_up F 17 f_4) G ++ R), rfl, ⟨_, _, rfl⟩, ⟨by rw [ht]; exact hP, va_K.moved hW.alike hK, hD⟩⟩, hS.F ht⟩) hS.2.2 dX1_part_103
set_option maxHeartbeats 4000000 in
set_option maxRecDepth 100000 in
theorem c_freshFlow (l : Launch) (D : va_G) (cI cJ cZ : ClassId) (ad : Nat → Nat) (b : Nat → Int32) (F : Nat → Nat → Int32) (G : Nat → Nat → Int64) (R : va_W) : CT l D (TY cI cJ cZ) yX7_freshFlow (.code yX7_freshFlow cX7_freshFlow 1 (some (Jvm.ClassFile.FieldType.object "OrielChart$Flow"))) 3 0 0 (XW ad cI cJ 0 b F G ++ R) [.ref (ad 0)] (QR D (TY cI cJ cZ) (fun r u => r = ad 2 ∧ ∃ b' F' G', u = XW ad cI cJ 0 b' F' G' ++ R ∧ ∀ k, k ≠ 0 → b' k = b k)) := by
  refine ent (by decide) (Nat.le_of_ble_eq_true rfl) ?_
  intro p e s m below meth c ls A hx hb hr hg hown hml hlocks hnm hP hK hD hS hA hN hl
  have hl : lv_has ls 1 [(0, .ref (ad 0))] := hl
  refine lv_aload_n hx hb dX7_freshFlow_0 rfl (lv_at hl 0 rfl) ?_
  refine va_get (D := D) (ci := 7) (v := .ref (ad 2)) (C := RX7) (T := TX7) (N := 6) hx hb hg inGX7 hown hK hP 0 rfl rfl 1 (by decide) (hg _ mw_112) (fun _ h9 => h9) rfl dX7_freshFlow_1 ?_
  refine va_getN (D := D) (ci := 1) (v := .int (b 0)) (C := RX1) (T := TX1) (N := 11) hx hb hg inGX1 hown hK hP 2 rfl rfl 10 (by decide) (hN.use nw_36) (fun _ h9 => h9) rfl dX7_freshFlow_4 ?_
  refine lv_if_ne (tgt := 29) hx hb dX7_freshFlow_7 (by decide) (fun c_7 => ?_) (fun c_7 => ?_)
  · refine lv_aload_n hx hb dX7_freshFlow_29 rfl (lv_at hl 0 rfl) ?_
    refine va_get (D := D) (ci := 7) (v := .ref (ad 2)) (C := RX7) (T := TX7) (N := 6) hx hb hg inGX7 hown hK hP 0 rfl rfl 1 (by decide) (hg _ mw_112) (fun _ h9 => h9) rfl dX7_freshFlow_30 ?_
    exact W.aret (v := .ref (ad 2)) hx hb hr (Or.inl ⟨_, rfl⟩) (Or.inr ⟨_, rfl⟩) (fun t ht hW => ⟨⟨(XW ad cI cJ 0 b F G ++ R), (ad 2), rfl, trivial, ⟨rfl, b, F, G, rfl, fun _ _ => rfl⟩, ⟨by rw [ht]; exact hP, va_K.moved hW.alike hK, hD⟩⟩, hS.F ht⟩) hS.2.2 dX7_freshFlow_33
  · refine lv_aload_n hx hb dX7_freshFlow_10 rfl (lv_at hl 0 rfl) ?_
    refine va_get (D := D) (ci := 7) (v := .ref (ad 2)) (C := RX7) (T := TX7) (N := 6) hx hb hg inGX7 hown hK hP 0 rfl rfl 1 (by decide) (hg _ mw_112) (fun _ h9 => h9) rfl dX7_freshFlow_11 ?_
    refine lv_aload_n hx hb dX7_freshFlow_14 rfl (lv_at hl 0 rfl) ?_
    refine va_get (D := D) (ci := 7) (v := .ref (ad 1)) (C := RX7) (T := TX7) (N := 6) hx hb hg inGX7 hown hK hP 0 rfl rfl 0 (by decide) (hg _ mw_113) (fun _ h9 => h9) rfl dX7_freshFlow_15 ?_
    refine kV (rV (q0 := 2) (ci := 1) hx hb hml hown hg hN hK hP hD (c_part l D cI cJ cZ ad b F G R) mw_114 mw_115 mw_116 mw_117 mw_101 pdv_X1_part ⟨Nat.le_of_ble_eq_true rfl, Nat.le_of_ble_eq_true rfl⟩ rfl rfl rfl hl.1 rfl (Nat.le_of_ble_eq_true rfl) dX7_freshFlow_18 ⟨Nat.le_of_ble_eq_true rfl, Nat.le_of_ble_eq_true rfl⟩) hD hS hA (fun u_1 H locs hp hP hD hS => ?_)
    obtain ⟨F_3, G_4, rfl⟩ := hp
    refine lv_aload_n hx hb dX7_freshFlow_21 rfl (lv_at hl 0 rfl) ?_
    refine va_get (D := D) (ci := 7) (v := .ref (ad 2)) (C := RX7) (T := TX7) (N := 6) hx hb hg inGX7 hown hK hP 0 rfl rfl 1 (by decide) (hg _ mw_112) (fun _ h9 => h9) rfl dX7_freshFlow_22 ?_
    refine lv_iconst (v := 1) hx hb dX7_freshFlow_25 (by decide) ?_
    refine va_putN (D := D) (ci := 1) (v := .int 1) (C := RX1) (T := TX1) (N := 11) hx hb hg inGX1 tyX1 tyX1_ok nmX1 hown hK hP hD hS 2 rfl rfl 10 (by decide) (hN.use nw_36) (fun _ h9 => h9) rfl (tyX1_ok 10 (by decide)) rfl rfl (Nat.le_of_ble_eq_true rfl) dX7_freshFlow_26 (fun H locs hP hD hS => ?_)
    have hP : va_P D vwCl (XW ad cI cJ 0 (va_up b 0 1) F_3 G_4 ++ R) H := hP
    have hD : va_D A (XW ad cI cJ 0 (va_up b 0 1) F_3 G_4 ++ R) := hD
    refine lv_aload_n hx hb dX7_freshFlow_29 rfl (lv_at hl 0 rfl) ?_
    refine va_get (D := D) (ci := 7) (v := .ref (ad 2)) (C := RX7) (T := TX7) (N := 6) hx hb hg inGX7 hown hK hP 0 rfl rfl 1 (by decide) (hg _ mw_112) (fun _ h9 => h9) rfl dX7_freshFlow_30 ?_
    exact W.aret (v := .ref (ad 2)) hx hb hr (Or.inl ⟨_, rfl⟩) (Or.inr ⟨_, rfl⟩) (fun t ht hW => ⟨⟨(XW ad cI cJ 0 (va_up b 0 1) F_3 G_4 ++ R), (ad 2), rfl, trivial, ⟨rfl, _, _, _, rfl, fun k hk => by simp [va_up, hk]⟩, ⟨by rw [ht]; exact hP, va_K.moved hW.alike hK, hD⟩⟩, hS.F ht⟩) hS.2.2 dX7_freshFlow_33
