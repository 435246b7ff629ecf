theorem dX7_digestOfBlocks_0 : decode cX7_digestOfBlocks 0 = .ok (.lload_n 1, 1) := by decide +kernel
theorem dX7_digestOfBlocks_1 : decode cX7_digestOfBlocks 1 = .ok (.aload_n 0, 1) := by decide +kernel
theorem dX7_digestOfBlocks_2 : decode cX7_digestOfBlocks 2 = .ok (.getfield 19, 3) := by decide +kernel
theorem dX7_digestOfBlocks_5 : decode cX7_digestOfBlocks 5 = .ok (.getfield 127, 3) := by decide +kernel
theorem dX7_digestOfBlocks_8 : decode cX7_digestOfBlocks 8 = .ok (.invokestatic 308, 3) := by decide +kernel
theorem dX7_digestOfBlocks_11 : decode cX7_digestOfBlocks 11 = .ok (.lstore_n 3, 1) := by decide +kernel
theorem dX7_digestOfBlocks_12 : decode cX7_digestOfBlocks 12 = .ok (.iconst 0, 1) := by decide +kernel
theorem dX7_digestOfBlocks_13 : decode cX7_digestOfBlocks 13 = .ok (.istore 5, 2) := by decide +kernel
theorem dX7_digestOfBlocks_15 : decode cX7_digestOfBlocks 15 = .ok (.iload 5, 2) := by decide +kernel
theorem dX7_digestOfBlocks_17 : decode cX7_digestOfBlocks 17 = .ok (.aload_n 0, 1) := by decide +kernel
theorem dX7_digestOfBlocks_18 : decode cX7_digestOfBlocks 18 = .ok (.getfield 19, 3) := by decide +kernel
theorem dX7_digestOfBlocks_21 : decode cX7_digestOfBlocks 21 = .ok (.getfield 127, 3) := by decide +kernel
theorem dX7_digestOfBlocks_24 : decode cX7_digestOfBlocks 24 = .ok (.if_icmp .ge 156, 3) := by decide +kernel
theorem dX7_digestOfBlocks_27 : decode cX7_digestOfBlocks 27 = .ok (.lload_n 3, 1) := by decide +kernel
theorem dX7_digestOfBlocks_28 : decode cX7_digestOfBlocks 28 = .ok (.aload_n 0, 1) := by decide +kernel
theorem dX7_digestOfBlocks_29 : decode cX7_digestOfBlocks 29 = .ok (.getfield 19, 3) := by decide +kernel
theorem dX7_digestOfBlocks_32 : decode cX7_digestOfBlocks 32 = .ok (.getfield 136, 3) := by decide +kernel
theorem dX7_digestOfBlocks_35 : decode cX7_digestOfBlocks 35 = .ok (.iload 5, 2) := by decide +kernel
theorem dX7_digestOfBlocks_37 : decode cX7_digestOfBlocks 37 = .ok (.invokestatic 96, 3) := by decide +kernel
theorem dX7_digestOfBlocks_40 : decode cX7_digestOfBlocks 40 = .ok (.invokestatic 308, 3) := by decide +kernel
theorem dX7_digestOfBlocks_43 : decode cX7_digestOfBlocks 43 = .ok (.lstore_n 3, 1) := by decide +kernel
theorem dX7_digestOfBlocks_44 : decode cX7_digestOfBlocks 44 = .ok (.lload_n 3, 1) := by decide +kernel
theorem dX7_digestOfBlocks_45 : decode cX7_digestOfBlocks 45 = .ok (.aload_n 0, 1) := by decide +kernel
theorem dX7_digestOfBlocks_46 : decode cX7_digestOfBlocks 46 = .ok (.getfield 19, 3) := by decide +kernel
theorem dX7_digestOfBlocks_49 : decode cX7_digestOfBlocks 49 = .ok (.getfield 139, 3) := by decide +kernel
theorem dX7_digestOfBlocks_52 : decode cX7_digestOfBlocks 52 = .ok (.iload 5, 2) := by decide +kernel
theorem dX7_digestOfBlocks_54 : decode cX7_digestOfBlocks 54 = .ok (.invokestatic 143, 3) := by decide +kernel
theorem dX7_digestOfBlocks_57 : decode cX7_digestOfBlocks 57 = .ok (.invokestatic 312, 3) := by decide +kernel
theorem dX7_digestOfBlocks_60 : decode cX7_digestOfBlocks 60 = .ok (.lstore_n 3, 1) := by decide +kernel
theorem dX7_digestOfBlocks_61 : decode cX7_digestOfBlocks 61 = .ok (.lload_n 3, 1) := by decide +kernel
theorem dX7_digestOfBlocks_62 : decode cX7_digestOfBlocks 62 = .ok (.aload_n 0, 1) := by decide +kernel
theorem dX7_digestOfBlocks_63 : decode cX7_digestOfBlocks 63 = .ok (.getfield 26, 3) := by decide +kernel
theorem dX7_digestOfBlocks_66 : decode cX7_digestOfBlocks 66 = .ok (.iload 5, 2) := by decide +kernel
theorem dX7_digestOfBlocks_68 : decode cX7_digestOfBlocks 68 = .ok (.invokevirtual 167, 3) := by decide +kernel
theorem dX7_digestOfBlocks_71 : decode cX7_digestOfBlocks 71 = .ok (.invokestatic 308, 3) := by decide +kernel
theorem dX7_digestOfBlocks_74 : decode cX7_digestOfBlocks 74 = .ok (.lstore_n 3, 1) := by decide +kernel
theorem dX7_digestOfBlocks_75 : decode cX7_digestOfBlocks 75 = .ok (.lload_n 3, 1) := by decide +kernel
theorem dX7_digestOfBlocks_76 : decode cX7_digestOfBlocks 76 = .ok (.aload_n 0, 1) := by decide +kernel
theorem dX7_digestOfBlocks_77 : decode cX7_digestOfBlocks 77 = .ok (.getfield 26, 3) := by decide +kernel
theorem dX7_digestOfBlocks_80 : decode cX7_digestOfBlocks 80 = .ok (.getfield 181, 3) := by decide +kernel
theorem dX7_digestOfBlocks_83 : decode cX7_digestOfBlocks 83 = .ok (.iload 5, 2) := by decide +kernel
theorem dX7_digestOfBlocks_85 : decode cX7_digestOfBlocks 85 = .ok (.invokestatic 185, 3) := by decide +kernel
theorem dX7_digestOfBlocks_88 : decode cX7_digestOfBlocks 88 = .ok (.invokestatic 188, 3) := by decide +kernel
theorem dX7_digestOfBlocks_91 : decode cX7_digestOfBlocks 91 = .ok (.invokestatic 308, 3) := by decide +kernel
theorem dX7_digestOfBlocks_94 : decode cX7_digestOfBlocks 94 = .ok (.lstore_n 3, 1) := by decide +kernel
theorem dX7_digestOfBlocks_95 : decode cX7_digestOfBlocks 95 = .ok (.lload_n 3, 1) := by decide +kernel
theorem dX7_digestOfBlocks_96 : decode cX7_digestOfBlocks 96 = .ok (.aload_n 0, 1) := by decide +kernel
theorem dX7_digestOfBlocks_97 : decode cX7_digestOfBlocks 97 = .ok (.getfield 26, 3) := by decide +kernel
theorem dX7_digestOfBlocks_100 : decode cX7_digestOfBlocks 100 = .ok (.iload 5, 2) := by decide +kernel
theorem dX7_digestOfBlocks_102 : decode cX7_digestOfBlocks 102 = .ok (.invokevirtual 194, 3) := by decide +kernel
theorem dX7_digestOfBlocks_105 : decode cX7_digestOfBlocks 105 = .ok (.invokestatic 308, 3) := by decide +kernel
theorem dX7_digestOfBlocks_108 : decode cX7_digestOfBlocks 108 = .ok (.lstore_n 3, 1) := by decide +kernel
theorem dX7_digestOfBlocks_109 : decode cX7_digestOfBlocks 109 = .ok (.lload_n 3, 1) := by decide +kernel
theorem dX7_digestOfBlocks_110 : decode cX7_digestOfBlocks 110 = .ok (.aload_n 0, 1) := by decide +kernel
theorem dX7_digestOfBlocks_111 : decode cX7_digestOfBlocks 111 = .ok (.getfield 33, 3) := by decide +kernel
theorem dX7_digestOfBlocks_114 : decode cX7_digestOfBlocks 114 = .ok (.getfield 204, 3) := by decide +kernel
theorem dX7_digestOfBlocks_117 : decode cX7_digestOfBlocks 117 = .ok (.iload 5, 2) := by decide +kernel
theorem dX7_digestOfBlocks_119 : decode cX7_digestOfBlocks 119 = .ok (.invokestatic 96, 3) := by decide +kernel
theorem dX7_digestOfBlocks_122 : decode cX7_digestOfBlocks 122 = .ok (.invokestatic 308, 3) := by decide +kernel
theorem dX7_digestOfBlocks_125 : decode cX7_digestOfBlocks 125 = .ok (.lstore_n 3, 1) := by decide +kernel
theorem dX7_digestOfBlocks_126 : decode cX7_digestOfBlocks 126 = .ok (.lload_n 3, 1) := by decide +kernel
theorem dX7_digestOfBlocks_127 : decode cX7_digestOfBlocks 127 = .ok (.aload_n 0, 1) := by decide +kernel
theorem dX7_digestOfBlocks_128 : decode cX7_digestOfBlocks 128 = .ok (.getfield 40, 3) := by decide +kernel
theorem dX7_digestOfBlocks_131 : decode cX7_digestOfBlocks 131 = .ok (.getfield 233, 3) := by decide +kernel
theorem dX7_digestOfBlocks_134 : decode cX7_digestOfBlocks 134 = .ok (.iload 5, 2) := by decide +kernel
theorem dX7_digestOfBlocks_136 : decode cX7_digestOfBlocks 136 = .ok (.invokestatic 96, 3) := by decide +kernel
theorem dX7_digestOfBlocks_139 : decode cX7_digestOfBlocks 139 = .ok (.invokestatic 308, 3) := by decide +kernel
theorem dX7_digestOfBlocks_142 : decode cX7_digestOfBlocks 142 = .ok (.lstore_n 3, 1) := by decide +kernel
theorem dX7_digestOfBlocks_143 : decode cX7_digestOfBlocks 143 = .ok (.lload_n 3, 1) := by decide +kernel
theorem dX7_digestOfBlocks_144 : decode cX7_digestOfBlocks 144 = .ok (.aload_n 0, 1) := by decide +kernel
theorem dX7_digestOfBlocks_145 : decode cX7_digestOfBlocks 145 = .ok (.getfield 47, 3) := by decide +kernel
theorem dX7_digestOfBlocks_148 : decode cX7_digestOfBlocks 148 = .ok (.getfield 241, 3) := by decide +kernel
theorem dX7_digestOfBlocks_151 : decode cX7_digestOfBlocks 151 = .ok (.iload 5, 2) := by decide +kernel
theorem dX7_digestOfBlocks_153 : decode cX7_digestOfBlocks 153 = .ok (.invokestatic 96, 3) := by decide +kernel
theorem dX7_digestOfBlocks_156 : decode cX7_digestOfBlocks 156 = .ok (.invokestatic 308, 3) := by decide +kernel
theorem dX7_digestOfBlocks_159 : decode cX7_digestOfBlocks 159 = .ok (.lstore_n 3, 1) := by decide +kernel
theorem dX7_digestOfBlocks_160 : decode cX7_digestOfBlocks 160 = .ok (.lload_n 3, 1) := by decide +kernel
theorem dX7_digestOfBlocks_161 : decode cX7_digestOfBlocks 161 = .ok (.aload_n 0, 1) := by decide +kernel
theorem dX7_digestOfBlocks_162 : decode cX7_digestOfBlocks 162 = .ok (.getfield 47, 3) := by decide +kernel
theorem dX7_digestOfBlocks_165 : decode cX7_digestOfBlocks 165 = .ok (.iload 5, 2) := by decide +kernel
theorem dX7_digestOfBlocks_167 : decode cX7_digestOfBlocks 167 = .ok (.invokevirtual 266, 3) := by decide +kernel
theorem dX7_digestOfBlocks_170 : decode cX7_digestOfBlocks 170 = .ok (.invokestatic 308, 3) := by decide +kernel
theorem dX7_digestOfBlocks_173 : decode cX7_digestOfBlocks 173 = .ok (.lstore_n 3, 1) := by decide +kernel
theorem dX7_digestOfBlocks_174 : decode cX7_digestOfBlocks 174 = .ok (.iinc 5 1, 3) := by decide +kernel
theorem dX7_digestOfBlocks_177 : decode cX7_digestOfBlocks 177 = .ok (.goto (-162), 3) := by decide +kernel
theorem dX7_digestOfBlocks_180 : decode cX7_digestOfBlocks 180 = .ok (.lload_n 3, 1) := by decide +kernel
theorem dX7_digestOfBlocks_181 : decode cX7_digestOfBlocks 181 = .ok (.lreturn, 1) := by decide +kernel
theorem mw_375 : Cond.methodLink RX7 143 yX7_has ∈ GW := gw_mem (inT3 _ (List.mem_of_getElem? (i := 95) rfl)) rfl
theorem mw_376 : Cond.code yX7_mix_ cX7_mix_ 3 (some Jvm.ClassFile.FieldType.long) ∈ GW := gw_mem (inT3 _ (List.mem_of_getElem? (i := 98) rfl)) rfl
theorem mw_377 : Cond.methodLink RX7 312 yX7_mix_ ∈ GW := gw_mem (inT3 _ (List.mem_of_getElem? (i := 96) rfl)) rfl
theorem mw_378 : Cond.static yX7_mix_ ∈ GW := gw_mem (inT3 _ (List.mem_of_getElem? (i := 97) rfl)) rfl
theorem mw_379 : Cond.code yX4_nearestAbove cX4_nearestAbove 6 (some Jvm.ClassFile.FieldType.int) ∈ GW := gw_mem (inT3 _ (List.mem_of_getElem? (i := 102) rfl)) rfl
theorem mw_380 : Cond.methodLink RX7 167 yX4_nearestAbove ∈ GW := gw_mem (inT3 _ (List.mem_of_getElem? (i := 99) rfl)) rfl
theorem mw_381 : Cond.instanceMethod yX4_nearestAbove ∈ GW := gw_mem (inT3 _ (List.mem_of_getElem? (i := 100) rfl)) rfl
theorem mw_382 : Cond.selects RX4 yX4_nearestAbove yX4_nearestAbove ∈ GW := gw_mem (inT3 _ (List.mem_of_getElem? (i := 101) rfl)) rfl
theorem mw_383 : Cond.code yX4_loopsAround cX4_loopsAround 4 (some Jvm.ClassFile.FieldType.int) ∈ GW := gw_mem (inT3 _ (List.mem_of_getElem? (i := 107) rfl)) rfl
theorem mw_384 : Cond.methodLink RX7 194 yX4_loopsAround ∈ GW := gw_mem (inT3 _ (List.mem_of_getElem? (i := 104) rfl)) rfl
theorem mw_385 : Cond.instanceMethod yX4_loopsAround ∈ GW := gw_mem (inT3 _ (List.mem_of_getElem? (i := 105) rfl)) rfl
theorem mw_386 : Cond.selects RX4 yX4_loopsAround yX4_loopsAround ∈ GW := gw_mem (inT3 _ (List.mem_of_getElem? (i := 106) rfl)) rfl
theorem mw_387 : Cond.code yX3_placeOfBlock cX3_placeOfBlock 2 (some Jvm.ClassFile.FieldType.int) ∈ GW := gw_mem (inT3 _ (List.mem_of_getElem? (i := 111) rfl)) rfl
theorem mw_388 : Cond.methodLink RX7 266 yX3_placeOfBlock ∈ GW := gw_mem (inT3 _ (List.mem_of_getElem? (i := 108) rfl)) rfl
theorem mw_389 : Cond.instanceMethod yX3_placeOfBlock ∈ GW := gw_mem (inT3 _ (List.mem_of_getElem? (i := 109) rfl)) rfl
theorem mw_390 : Cond.selects RX3 yX3_placeOfBlock yX3_placeOfBlock ∈ GW := gw_mem (inT3 _ (List.mem_of_getElem? (i := 110) rfl)) rfl
theorem pd_X7_mix_ : yX7_mix_.cls ≠ "java/lang/invoke/MethodHandle" ∧ yX7_mix_.cls ≠ "java/lang/invoke/VarHandle" ∧ (parseMethodDescriptor yX7_mix_.desc).map (fun d => d.parameters.length) = some 2 := by decide +kernel
theorem pdv_X4_nearestAbove : yX4_nearestAbove.cls = RX4 ∧ yX4_nearestAbove.cls ≠ "java/lang/invoke/MethodHandle" ∧ yX4_nearestAbove.cls ≠ "java/lang/invoke/VarHandle" ∧ (parseMethodDescriptor yX4_nearestAbove.desc).map (fun d => d.parameters.length) = some 1 := by decide +kernel
theorem pdv_X4_loopsAround : yX4_loopsAround.cls = RX4 ∧ yX4_loopsAround.cls ≠ "java/lang/invoke/MethodHandle" ∧ yX4_loopsAround.cls ≠ "java/lang/invoke/VarHandle" ∧ (parseMethodDescriptor yX4_loopsAround.desc).map (fun d => d.parameters.length) = some 1 := by decide +kernel
theorem pdv_X3_placeOfBlock : yX3_placeOfBlock.cls = RX3 ∧ yX3_placeOfBlock.cls ≠ "java/lang/invoke/MethodHandle" ∧ yX3_placeOfBlock.cls ≠ "java/lang/invoke/VarHandle" ∧ (parseMethodDescriptor yX3_placeOfBlock.desc).map (fun d => d.parameters.length) = some 1 := by decide +kernel
set_option maxHeartbeats 4000000 in
set_option maxRecDepth 100000 in
theorem c_dgBlocks (l : Launch) (D : va_G) (cI cJ : ClassId) (ad : Nat → Nat) (co fl ra li re wa pi : Ob) (l1 : Int64) : CT l D (TY cI cJ) yX7_digestOfBlocks (.code yX7_digestOfBlocks cX7_digestOfBlocks 6 (some Jvm.ClassFile.FieldType.long)) 3 0 0 (XW ad cI cJ co fl ra li re wa pi) [.ref (ad 0), .long l1] (QL D (TY cI cJ) (fun r u => r = (dgBlocks fl ra li re pi l1) ∧ u = (XW ad cI cJ co fl ra li re wa pi))) := by
  refine ent (by decide) (Nat.le_of_ble_eq_true rfl) ?_
  intro p e s m below meth c ls A hx hb hr hg hown hml hlocks hnm hP hK hD hS hA hN hl
  have hl : lv_has ls 6 [(0, .ref (ad 0)), (1, .long l1)] := hl
  refine lv_lload_n hx hb dX7_digestOfBlocks_0 rfl (lv_at hl 1 rfl) ?_
  refine lv_aload_n hx hb dX7_digestOfBlocks_1 rfl (lv_at hl 0 rfl) ?_
  refine va_get (D := D) (ci := 7) (v := .ref (ad 2)) (C := RX7) (T := TX7) (N := 6) hx hb hg inGX7 hown hK hP 0 xo0 rfl 1 (by decide) (hg _ mw_322) (fun _ h9 => h9) xvX7_1 dX7_digestOfBlocks_2 ?_
  refine va_getN (D := D) (ci := 1) (v := .int (gi fl 0)) (C := RX1) (T := TX1) (N := 11) hx hb hg inGX1 hown hK hP 2 xo2 rfl 7 (by decide) (hN.use nw_28) (fun _ h9 => h9) (xvX1_7 rfl) dX7_digestOfBlocks_5 ?_
  refine kL (rS hx hb hml hown hg hN hK hP hD (c_mix l D cI cJ (XW ad cI cJ co fl ra li re wa pi) l1 (gi fl 0)) mw_371 mw_372 mw_373 mw_77 pd_X7_mix ⟨Nat.le_of_ble_eq_true rfl, Nat.le_of_ble_eq_true rfl⟩ rfl hl.1 rfl (Nat.le_of_ble_eq_true rfl) dX7_digestOfBlocks_8 ⟨Nat.le_of_ble_eq_true rfl, Nat.le_of_ble_eq_true rfl⟩) hD hS hA (fun r_1 u_1 H locs hp hP hD hS => ?_)
  obtain ⟨er, eu⟩ := hp
  obtain rfl := er.symm
  obtain rfl := eu.symm
  refine lv_lstore_n (lv' := [(3, .long (mixI l1 (gi fl 0))), (0, .ref (ad 0)), (1, .long l1)]) hx hb dX7_digestOfBlocks_11 rfl hl (by decide) rfl (fun ls hl => ?_)
  refine lv_iconst (v := 0) hx hb dX7_digestOfBlocks_12 (by decide) ?_
  refine lv_istore (lv' := [(5, .int 0), (3, .long (mixI l1 (gi fl 0))), (0, .ref (ad 0)), (1, .long l1)]) hx hb dX7_digestOfBlocks_13 hl (by decide) rfl (fun ls hl => ?_)
  refine w_loop (σ := Int64) (fun (i_2 : Nat) (p_2 : Int64) (H : Heap) (locs : List Loc) (ls : Array Slot) => p_2 = (lp (dgB fl ra li re pi) i_2 (mixI l1 (gi fl 0))) ∧ va_P D vwCl (XW ad cI cJ co fl ra li re wa pi) H ∧ va_D A (XW ad cI cJ co fl ra li re wa pi) ∧ va_S A s.heap H locs ∧ lv_has ls 6 [(0, .ref (ad 0)), (1, .long l1), (3, .long p_2), (5, .int (nI i_2))]) (nN (gi fl 0)) (fun p_2 H locs ls hI => ?_) (fun i_2 p_2 H locs ls hi_2 hI ih_2 => ?_) 0 (mixI l1 (gi fl 0)) (Nat.zero_le _) ⟨(lp_0 _ _), hP, hD, hS, (by rw [nI_0]; exact lv_sub hl [2, 3, 1, 0] rfl)⟩
  · obtain ⟨h_2, hP, hD, hS, hl⟩ := hI
    have h_2 := h_2.symm
    subst h_2
    have hP : va_P D vwCl (XW ad cI cJ co fl ra li re wa pi) H := hP
    have hD : va_D A (XW ad cI cJ co fl ra li re wa pi) := hD
    have hl : lv_has ls 6 [(0, .ref (ad 0)), (1, .long l1), (3, .long ((lp (dgB fl ra li re pi) (nN (gi fl 0)) (mixI l1 (gi fl 0))))), (5, .int (nI ((nN (gi fl 0)))))] := hl
    refine lv_iload hx hb dX7_digestOfBlocks_15 (lv_at hl 3 rfl) ?_
    refine lv_aload_n hx hb dX7_digestOfBlocks_17 rfl (lv_at hl 0 rfl) ?_
    refine va_get (D := D) (ci := 7) (v := .ref (ad 2)) (C := RX7) (T := TX7) (N := 6) hx hb hg inGX7 hown hK hP 0 xo0 rfl 1 (by decide) (hg _ mw_322) (fun _ h9 => h9) xvX7_1 dX7_digestOfBlocks_18 ?_
    refine va_getN (D := D) (ci := 1) (v := .int (gi fl 0)) (C := RX1) (T := TX1) (N := 11) hx hb hg inGX1 hown hK hP 2 xo2 rfl 7 (by decide) (hN.use nw_28) (fun _ h9 => h9) (xvX1_7 rfl) dX7_digestOfBlocks_21 ?_
    refine lv_icmp_ge (tgt := 180) hx hb dX7_digestOfBlocks_24 (by decide) (fun _ => ?_) (fun c_24 => absurd (lp_out _) c_24)
    refine lv_lload_n hx hb dX7_digestOfBlocks_180 rfl (lv_at hl 2 rfl) ?_
    exact W.lret (v := ((lp (dgB fl ra li re pi) (nN (gi fl 0)) (mixI l1 (gi fl 0))))) hx hb hr (fun t ht hW => ⟨⟨((lp (dgB fl ra li re pi) (nN (gi fl 0)) (mixI l1 (gi fl 0)))), (XW ad cI cJ co fl ra li re wa pi), rfl, ⟨(show (((lp (dgB fl ra li re pi) (nN (gi fl 0)) (mixI l1 (gi fl 0)))) : Int64) = (dgBlocks fl ra li re pi l1) from (by first | with_reducible rfl | (simp only [dgBlocks, gi_sl, gi_sA, gi_sB, gi_si_s, gi_si_n, gl_si, gl_sA, gl_sB, gl_sl_s, gl_sl_n, gA_si, gA_sl, gA_sB, gA_sA_s, gA_sA_n, gB_si, gB_sl, gB_sA, gB_sB_s, gB_sB_n, Nat.reduceBEq, if_true, if_false, eq_self, Bool.false_eq_true, Bool.true_eq_false, not_true_eq_false, not_false_eq_true, decide_true, decide_false, cond_true, cond_false, Bool.true_and, Bool.false_and, Bool.and_true, Bool.and_false, Bool.true_or, Bool.false_or, Bool.or_true, Bool.or_false, b2i_tt, b2i_ff, pr_eta]; done))), xw_eq rfl rfl rfl rfl rfl rfl rfl⟩, ⟨by rw [ht]; exact hP, va_K.moved hW.alike hK, hD⟩⟩, hS.F ht⟩) hS.2.2 dX7_digestOfBlocks_181
  · obtain ⟨h_2, hP, hD, hS, hl⟩ := hI
    have hP : va_P D vwCl (XW ad cI cJ co fl ra li re wa pi) H := hP
    have hD : va_D A (XW ad cI cJ co fl ra li re wa pi) := hD
    have hl : lv_has ls 6 [(0, .ref (ad 0)), (1, .long l1), (3, .long p_2), (5, .int (nI i_2))] := hl
    refine lv_iload hx hb dX7_digestOfBlocks_15 (lv_at hl 3 rfl) ?_
    refine lv_aload_n hx hb dX7_digestOfBlocks_17 rfl (lv_at hl 0 rfl) ?_
    refine va_get (D := D) (ci := 7) (v := .ref (ad 2)) (C := RX7) (T := TX7) (N := 6) hx hb hg inGX7 hown hK hP 0 xo0 rfl 1 (by decide) (hg _ mw_322) (fun _ h9 => h9) xvX7_1 dX7_digestOfBlocks_18 ?_
    refine va_getN (D := D) (ci := 1) (v := .int (gi fl 0)) (C := RX1) (T := TX1) (N := 11) hx hb hg inGX1 hown hK hP 2 xo2 rfl 7 (by decide) (hN.use nw_28) (fun _ h9 => h9) (xvX1_7 rfl) dX7_digestOfBlocks_21 ?_
    refine lv_icmp_ge (tgt := 180) hx hb dX7_digestOfBlocks_24 (by decide) (fun c_24 => absurd c_24 (lp_in hi_2)) (fun _ => ?_)
    refine lv_lload_n hx hb dX7_digestOfBlocks_27 rfl (lv_at hl 2 rfl) ?_
    refine lv_aload_n hx hb dX7_digestOfBlocks_28 rfl (lv_at hl 0 rfl) ?_
    refine va_get (D := D) (ci := 7) (v := .ref (ad 2)) (C := RX7) (T := TX7) (N := 6) hx hb hg inGX7 hown hK hP 0 xo0 rfl 1 (by decide) (hg _ mw_322) (fun _ h9 => h9) xvX7_1 dX7_digestOfBlocks_29 ?_
    refine va_getN (D := D) (ci := 1) (v := .ref (ad 13)) (C := RX1) (T := TX1) (N := 11) hx hb hg inGX1 hown hK hP 2 xo2 rfl 1 (by decide) (hN.use nw_14) (fun _ h9 => h9) xvX1_1 dX7_digestOfBlocks_32 ?_
    refine lv_iload hx hb dX7_digestOfBlocks_35 (lv_at hl 3 rfl) ?_
    refine kI (rS hx hb hml hown hg hN hK hP hD (c_at l D cI cJ (XW ad cI cJ co fl ra li re wa pi) 13 (ad 13) 40 (gA fl 1) (nI i_2) (xg13 rfl) (by decide)) mw_84 mw_374 mw_85 mw_77 pd_X7_at ⟨Nat.le_of_ble_eq_true rfl, Nat.le_of_ble_eq_true rfl⟩ rfl hl.1 rfl (Nat.le_of_ble_eq_true rfl) dX7_digestOfBlocks_37 ⟨Nat.le_of_ble_eq_true rfl, Nat.le_of_ble_eq_true rfl⟩) hD hS hA (fun r_3 u_3 H locs hp hP hD hS => ?_)
    obtain ⟨er, eu⟩ := hp
    obtain rfl := er.symm
    obtain rfl := eu.symm
    refine kL (rS hx hb hml hown hg hN hK hP hD (c_mix l D cI cJ (XW ad cI cJ co fl ra li re wa pi) p_2 (rd (gA fl 1) 40 (nI i_2))) mw_371 mw_372 mw_373 mw_77 pd_X7_mix ⟨Nat.le_of_ble_eq_true rfl, Nat.le_of_ble_eq_true rfl⟩ rfl hl.1 rfl (Nat.le_of_ble_eq_true rfl) dX7_digestOfBlocks_40 ⟨Nat.le_of_ble_eq_true rfl, Nat.le_of_ble_eq_true rfl⟩) hD hS hA (fun r_4 u_4 H locs hp hP hD hS => ?_)
    obtain ⟨er, eu⟩ := hp
    obtain rfl := er.symm
    obtain rfl := eu.symm
    refine lv_lstore_n (lv' := [(3, .long (mixI p_2 (rd (gA fl 1) 40 (nI i_2)))), (0, .ref (ad 0)), (1, .long l1), (5, .int (nI i_2))]) hx hb dX7_digestOfBlocks_43 rfl hl (by decide) rfl (fun ls hl => ?_)
    refine lv_lload_n hx hb dX7_digestOfBlocks_44 rfl (lv_at hl 0 rfl) ?_
    refine lv_aload_n hx hb dX7_digestOfBlocks_45 rfl (lv_at hl 1 rfl) ?_
    refine va_get (D := D) (ci := 7) (v := .ref (ad 2)) (C := RX7) (T := TX7) (N := 6) hx hb hg inGX7 hown hK hP 0 xo0 rfl 1 (by decide) (hg _ mw_322) (fun _ h9 => h9) xvX7_1 dX7_digestOfBlocks_46 ?_
    refine va_getN (D := D) (ci := 1) (v := .long (gl fl 0)) (C := RX1) (T := TX1) (N := 11) hx hb hg inGX1 hown hK hP 2 xo2 rfl 9 (by decide) (hN.use nw_35) (fun _ h9 => h9) (xvX1_9 rfl) dX7_digestOfBlocks_49 ?_
    refine lv_iload hx hb dX7_digestOfBlocks_52 (lv_at hl 3 rfl) ?_
    refine kI (rS hx hb hml hown hg hN hK hP hD (c_has l D cI cJ (XW ad cI cJ co fl ra li re wa pi) (gl fl 0) (nI i_2)) mw_89 mw_375 mw_90 mw_77 pd_X7_has ⟨Nat.le_of_ble_eq_true rfl, Nat.le_of_ble_eq_true rfl⟩ rfl hl.1 rfl (Nat.le_of_ble_eq_true rfl) dX7_digestOfBlocks_54 ⟨Nat.le_of_ble_eq_true rfl, Nat.le_of_ble_eq_true rfl⟩) hD hS hA (fun r_5 u_5 H locs hp hP hD hS => ?_)
    obtain ⟨er, eu⟩ := hp
    obtain rfl := er.symm
    obtain rfl := eu.symm
    refine kL (rS hx hb hml hown hg hN hK hP hD (c_mixZ l D cI cJ (XW ad cI cJ co fl ra li re wa pi) (mixI p_2 (rd (gA fl 1) 40 (nI i_2))) (hs (gl fl 0) (nI i_2))) mw_376 mw_377 mw_378 mw_77 pd_X7_mix_ ⟨Nat.le_of_ble_eq_true rfl, Nat.le_of_ble_eq_true rfl⟩ rfl hl.1 rfl (Nat.le_of_ble_eq_true rfl) dX7_digestOfBlocks_57 ⟨Nat.le_of_ble_eq_true rfl, Nat.le_of_ble_eq_true rfl⟩) hD hS hA (fun r_6 u_6 H locs hp hP hD hS => ?_)
    obtain ⟨er, eu⟩ := hp
    obtain rfl := er.symm
    obtain rfl := eu.symm
    refine lv_lstore_n (lv' := [(3, .long (mixZ (mixI p_2 (rd (gA fl 1) 40 (nI i_2))) (hs (gl fl 0) (nI i_2)))), (0, .ref (ad 0)), (1, .long l1), (5, .int (nI i_2))]) hx hb dX7_digestOfBlocks_60 rfl hl (by decide) rfl (fun ls hl => ?_)
    refine lv_lload_n hx hb dX7_digestOfBlocks_61 rfl (lv_at hl 0 rfl) ?_
    refine lv_aload_n hx hb dX7_digestOfBlocks_62 rfl (lv_at hl 1 rfl) ?_
    refine va_get (D := D) (ci := 7) (v := .ref (ad 3)) (C := RX7) (T := TX7) (N := 6) hx hb hg inGX7 hown hK hP 0 xo0 rfl 2 (by decide) (hg _ mw_328) (fun _ h9 => h9) xvX7_2 dX7_digestOfBlocks_63 ?_
    refine lv_iload hx hb dX7_digestOfBlocks_66 (lv_at hl 3 rfl) ?_
    refine kI (rV (q0 := 3) (ci := 4) hx hb hml hown hg hN hK hP hD (c_nearestAbove l D cI cJ ad co fl ra li re wa pi (nI i_2)) mw_379 mw_380 mw_381 mw_382 mw_130 pdv_X4_nearestAbove ⟨Nat.le_of_ble_eq_true rfl, Nat.le_of_ble_eq_true rfl⟩ rfl xo3 rfl hl.1 rfl (Nat.le_of_ble_eq_true rfl) dX7_digestOfBlocks_68 ⟨Nat.le_of_ble_eq_true rfl, Nat.le_of_ble_eq_true rfl⟩) hD hS hA (fun r_7 u_7 H locs hp hP hD hS => ?_)
    obtain ⟨er, eu⟩ := hp
    obtain rfl := er.symm
    obtain rfl := eu.symm
    refine kL (rS hx hb hml hown hg hN hK hP hD (c_mix l D cI cJ (XW ad cI cJ co fl ra li re wa pi) (mixZ (mixI p_2 (rd (gA fl 1) 40 (nI i_2))) (hs (gl fl 0) (nI i_2))) (nearest ra (nI i_2))) mw_371 mw_372 mw_373 mw_77 pd_X7_mix ⟨Nat.le_of_ble_eq_true rfl, Nat.le_of_ble_eq_true rfl⟩ rfl hl.1 rfl (Nat.le_of_ble_eq_true rfl) dX7_digestOfBlocks_71 ⟨Nat.le_of_ble_eq_true rfl, Nat.le_of_ble_eq_true rfl⟩) hD hS hA (fun r_8 u_8 H locs hp hP hD hS => ?_)
    obtain ⟨er, eu⟩ := hp
    obtain rfl := er.symm
    obtain rfl := eu.symm
    refine lv_lstore_n (lv' := [(3, .long (mixI (mixZ (mixI p_2 (rd (gA fl 1) 40 (nI i_2))) (hs (gl fl 0) (nI i_2))) (nearest ra (nI i_2)))), (0, .ref (ad 0)), (1, .long l1), (5, .int (nI i_2))]) hx hb dX7_digestOfBlocks_74 rfl hl (by decide) rfl (fun ls hl => ?_)
    refine lv_lload_n hx hb dX7_digestOfBlocks_75 rfl (lv_at hl 0 rfl) ?_
    refine lv_aload_n hx hb dX7_digestOfBlocks_76 rfl (lv_at hl 1 rfl) ?_
    refine va_get (D := D) (ci := 7) (v := .ref (ad 3)) (C := RX7) (T := TX7) (N := 6) hx hb hg inGX7 hown hK hP 0 xo0 rfl 2 (by decide) (hg _ mw_328) (fun _ h9 => h9) xvX7_2 dX7_digestOfBlocks_77 ?_
    refine va_getN (D := D) (ci := 4) (v := .ref (ad 20)) (C := RX4) (T := TX4) (N := 7) hx hb hg inGX4 hown hK hP 3 xo3 rfl 1 (by decide) (hN.use nw_38) (fun _ h9 => h9) xvX4_1 dX7_digestOfBlocks_80 ?_
    refine lv_iload hx hb dX7_digestOfBlocks_83 (lv_at hl 3 rfl) ?_
    refine kL (rS hx hb hml hown hg hN hK hP hD (c_atL l D cI cJ (XW ad cI cJ co fl ra li re wa pi) 20 (ad 20) 40 (gB ra 1) (nI i_2) (xg20 rfl) (by decide)) mw_81 mw_82 mw_83 mw_77 pd_X7_at_ ⟨Nat.le_of_ble_eq_true rfl, Nat.le_of_ble_eq_true rfl⟩ rfl hl.1 rfl (Nat.le_of_ble_eq_true rfl) dX7_digestOfBlocks_85 ⟨Nat.le_of_ble_eq_true rfl, Nat.le_of_ble_eq_true rfl⟩) hD hS hA (fun r_9 u_9 H locs hp hP hD hS => ?_)
    obtain ⟨er, eu⟩ := hp
    obtain rfl := er.symm
    obtain rfl := eu.symm
    refine kI (rS hx hb hml hown hg hN hK hP hD (c_bitCount l D cI cJ (XW ad cI cJ co fl ra li re wa pi) (rdL (gB ra 1) 40 (nI i_2))) mw_68 mw_69 mw_70 mw_71 pd_J13_bitCount_95d88 ⟨Nat.le_of_ble_eq_true rfl, Nat.le_of_ble_eq_true rfl⟩ rfl hl.1 rfl (Nat.le_of_ble_eq_true rfl) dX7_digestOfBlocks_88 ⟨Nat.le_of_ble_eq_true rfl, Nat.le_of_ble_eq_true rfl⟩) hD hS hA (fun r_10 u_10 H locs hp hP hD hS => ?_)
    obtain ⟨er, eu⟩ := hp
    obtain rfl := er.symm
    obtain rfl := eu.symm
    refine kL (rS hx hb hml hown hg hN hK hP hD (c_mix l D cI cJ (XW ad cI cJ co fl ra li re wa pi) (mixI (mixZ (mixI p_2 (rd (gA fl 1) 40 (nI i_2))) (hs (gl fl 0) (nI i_2))) (nearest ra (nI i_2))) (bc (rdL (gB ra 1) 40 (nI i_2)))) mw_371 mw_372 mw_373 mw_77 pd_X7_mix ⟨Nat.le_of_ble_eq_true rfl, Nat.le_of_ble_eq_true rfl⟩ rfl hl.1 rfl (Nat.le_of_ble_eq_true rfl) dX7_digestOfBlocks_91 ⟨Nat.le_of_ble_eq_true rfl, Nat.le_of_ble_eq_true rfl⟩) hD hS hA (fun r_11 u_11 H locs hp hP hD hS => ?_)
    obtain ⟨er, eu⟩ := hp
    obtain rfl := er.symm
    obtain rfl := eu.symm
    refine lv_lstore_n (lv' := [(3, .long (mixI (mixI (mixZ (mixI p_2 (rd (gA fl 1) 40 (nI i_2))) (hs (gl fl 0) (nI i_2))) (nearest ra (nI i_2))) (bc (rdL (gB ra 1) 40 (nI i_2))))), (0, .ref (ad 0)), (1, .long l1), (5, .int (nI i_2))]) hx hb dX7_digestOfBlocks_94 rfl hl (by decide) rfl (fun ls hl => ?_)
    refine lv_lload_n hx hb dX7_digestOfBlocks_95 rfl (lv_at hl 0 rfl) ?_
    refine lv_aload_n hx hb dX7_digestOfBlocks_96 rfl (lv_at hl 1 rfl) ?_
    refine va_get (D := D) (ci := 7) (v := .ref (ad 3)) (C := RX7) (T := TX7) (N := 6) hx hb hg inGX7 hown hK hP 0 xo0 rfl 2 (by decide) (hg _ mw_328) (fun _ h9 => h9) xvX7_2 dX7_digestOfBlocks_97 ?_
    refine lv_iload hx hb dX7_digestOfBlocks_100 (lv_at hl 3 rfl) ?_
    refine kI (rV (q0 := 3) (ci := 4) hx hb hml hown hg hN hK hP hD (c_loopsAround l D cI cJ ad co fl ra li re wa pi (nI i_2)) mw_383 mw_384 mw_385 mw_386 mw_130 pdv_X4_loopsAround ⟨Nat.le_of_ble_eq_true rfl, Nat.le_of_ble_eq_true rfl⟩ rfl xo3 rfl hl.1 rfl (Nat.le_of_ble_eq_true rfl) dX7_digestOfBlocks_102 ⟨Nat.le_of_ble_eq_true rfl, Nat.le_of_ble_eq_true rfl⟩) hD hS hA (fun r_12 u_12 H locs hp hP hD hS => ?_)
    obtain ⟨er, eu⟩ := hp
    obtain rfl := er.symm
    obtain rfl := eu.symm
    refine kL (rS hx hb hml hown hg hN hK hP hD (c_mix l D cI cJ (XW ad cI cJ co fl ra li re wa pi) (mixI (mixI (mixZ (mixI p_2 (rd (gA fl 1) 40 (nI i_2))) (hs (gl fl 0) (nI i_2))) (nearest ra (nI i_2))) (bc (rdL (gB ra 1) 40 (nI i_2)))) (depth ra (nI i_2))) mw_371 mw_372 mw_373 mw_77 pd_X7_mix ⟨Nat.le_of_ble_eq_true rfl, Nat.le_of_ble_eq_true rfl⟩ rfl hl.1 rfl (Nat.le_of_ble_eq_true rfl) dX7_digestOfBlocks_105 ⟨Nat.le_of_ble_eq_true rfl, Nat.le_of_ble_eq_true rfl⟩) hD hS hA (fun r_13 u_13 H locs hp hP hD hS => ?_)
    obtain ⟨er, eu⟩ := hp
    obtain rfl := er.symm
    obtain rfl := eu.symm
    refine lv_lstore_n (lv' := [(3, .long (mixI (mixI (mixI (mixZ (mixI p_2 (rd (gA fl 1) 40 (nI i_2))) (hs (gl fl 0) (nI i_2))) (nearest ra (nI i_2))) (bc (rdL (gB ra 1) 40 (nI i_2)))) (depth ra (nI i_2)))), (0, .ref (ad 0)), (1, .long l1), (5, .int (nI i_2))]) hx hb dX7_digestOfBlocks_108 rfl hl (by decide) rfl (fun ls hl => ?_)
    refine lv_lload_n hx hb dX7_digestOfBlocks_109 rfl (lv_at hl 0 rfl) ?_
    refine lv_aload_n hx hb dX7_digestOfBlocks_110 rfl (lv_at hl 1 rfl) ?_
    refine va_get (D := D) (ci := 7) (v := .ref (ad 4)) (C := RX7) (T := TX7) (N := 6) hx hb hg inGX7 hown hK hP 0 xo0 rfl 3 (by decide) (hg _ mw_337) (fun _ h9 => h9) xvX7_3 dX7_digestOfBlocks_111 ?_
    refine va_getN (D := D) (ci := 2) (v := .ref (ad 23)) (C := RX2) (T := TX2) (N := 3) hx hb hg inGX2 hown hK hP 4 xo4 rfl 0 (by decide) (hN.use nw_43) (fun _ h9 => h9) xvX2_0 dX7_digestOfBlocks_114 ?_
    refine lv_iload hx hb dX7_digestOfBlocks_117 (lv_at hl 3 rfl) ?_
    refine kI (rS hx hb hml hown hg hN hK hP hD (c_at l D cI cJ (XW ad cI cJ co fl ra li re wa pi) 23 (ad 23) 40 (gA li 0) (nI i_2) (xg23 rfl) (by decide)) mw_84 mw_374 mw_85 mw_77 pd_X7_at ⟨Nat.le_of_ble_eq_true rfl, Nat.le_of_ble_eq_true rfl⟩ rfl hl.1 rfl (Nat.le_of_ble_eq_true rfl) dX7_digestOfBlocks_119 ⟨Nat.le_of_ble_eq_true rfl, Nat.le_of_ble_eq_true rfl⟩) hD hS hA (fun r_14 u_14 H locs hp hP hD hS => ?_)
    obtain ⟨er, eu⟩ := hp
    obtain rfl := er.symm
    obtain rfl := eu.symm
    refine kL (rS hx hb hml hown hg hN hK hP hD (c_mix l D cI cJ (XW ad cI cJ co fl ra li re wa pi) (mixI (mixI (mixI (mixZ (mixI p_2 (rd (gA fl 1) 40 (nI i_2))) (hs (gl fl 0) (nI i_2))) (nearest ra (nI i_2))) (bc (rdL (gB ra 1) 40 (nI i_2)))) (depth ra (nI i_2))) (rd (gA li 0) 40 (nI i_2))) mw_371 mw_372 mw_373 mw_77 pd_X7_mix ⟨Nat.le_of_ble_eq_true rfl, Nat.le_of_ble_eq_true rfl⟩ rfl hl.1 rfl (Nat.le_of_ble_eq_true rfl) dX7_digestOfBlocks_122 ⟨Nat.le_of_ble_eq_true rfl, Nat.le_of_ble_eq_true rfl⟩) hD hS hA (fun r_15 u_15 H locs hp hP hD hS => ?_)
    obtain ⟨er, eu⟩ := hp
    obtain rfl := er.symm
    obtain rfl := eu.symm
    refine lv_lstore_n (lv' := [(3, .long (mixI (mixI (mixI (mixI (mixZ (mixI p_2 (rd (gA fl 1) 40 (nI i_2))) (hs (gl fl 0) (nI i_2))) (nearest ra (nI i_2))) (bc (rdL (gB ra 1) 40 (nI i_2)))) (depth ra (nI i_2))) (rd (gA li 0) 40 (nI i_2)))), (0, .ref (ad 0)), (1, .long l1), (5, .int (nI i_2))]) hx hb dX7_digestOfBlocks_125 rfl hl (by decide) rfl (fun ls hl => ?_)
    refine lv_lload_n hx hb dX7_digestOfBlocks_126 rfl (lv_at hl 0 rfl) ?_
    refine lv_aload_n hx hb dX7_digestOfBlocks_127 rfl (lv_at hl 1 rfl) ?_
    refine va_get (D := D) (ci := 7) (v := .ref (ad 5)) (C := RX7) (T := TX7) (N := 6) hx hb hg inGX7 hown hK hP 0 xo0 rfl 4 (by decide) (hg _ mw_342) (fun _ h9 => h9) xvX7_4 dX7_digestOfBlocks_128 ?_
    refine va_getN (D := D) (ci := 5) (v := .ref (ad 25)) (C := RX5) (T := TX5) (N := 8) hx hb hg inGX5 hown hK hP 5 xo5 rfl 1 (by decide) (hN.use nw_47) (fun _ h9 => h9) xvX5_1 dX7_digestOfBlocks_131 ?_
    refine lv_iload hx hb dX7_digestOfBlocks_134 (lv_at hl 3 rfl) ?_
    refine kI (rS hx hb hml hown hg hN hK hP hD (c_at l D cI cJ (XW ad cI cJ co fl ra li re wa pi) 25 (ad 25) 40 (gA re 0) (nI i_2) (xg25 rfl) (by decide)) mw_84 mw_374 mw_85 mw_77 pd_X7_at ⟨Nat.le_of_ble_eq_true rfl, Nat.le_of_ble_eq_true rfl⟩ rfl hl.1 rfl (Nat.le_of_ble_eq_true rfl) dX7_digestOfBlocks_136 ⟨Nat.le_of_ble_eq_true rfl, Nat.le_of_ble_eq_true rfl⟩) hD hS hA (fun r_16 u_16 H locs hp hP hD hS => ?_)
    obtain ⟨er, eu⟩ := hp
    obtain rfl := er.symm
    obtain rfl := eu.symm
    refine kL (rS hx hb hml hown hg hN hK hP hD (c_mix l D cI cJ (XW ad cI cJ co fl ra li re wa pi) (mixI (mixI (mixI (mixI (mixZ (mixI p_2 (rd (gA fl 1) 40 (nI i_2))) (hs (gl fl 0) (nI i_2))) (nearest ra (nI i_2))) (bc (rdL (gB ra 1) 40 (nI i_2)))) (depth ra (nI i_2))) (rd (gA li 0) 40 (nI i_2))) (rd (gA re 0) 40 (nI i_2))) mw_371 mw_372 mw_373 mw_77 pd_X7_mix ⟨Nat.le_of_ble_eq_true rfl, Nat.le_of_ble_eq_true rfl⟩ rfl hl.1 rfl (Nat.le_of_ble_eq_true rfl) dX7_digestOfBlocks_139 ⟨Nat.le_of_ble_eq_true rfl, Nat.le_of_ble_eq_true rfl⟩) hD hS hA (fun r_17 u_17 H locs hp hP hD hS => ?_)
    obtain ⟨er, eu⟩ := hp
    obtain rfl := er.symm
    obtain rfl := eu.symm
    refine lv_lstore_n (lv' := [(3, .long (mixI (mixI (mixI (mixI (mixI (mixZ (mixI p_2 (rd (gA fl 1) 40 (nI i_2))) (hs (gl fl 0) (nI i_2))) (nearest ra (nI i_2))) (bc (rdL (gB ra 1) 40 (nI i_2)))) (depth ra (nI i_2))) (rd (gA li 0) 40 (nI i_2))) (rd (gA re 0) 40 (nI i_2)))), (0, .ref (ad 0)), (1, .long l1), (5, .int (nI i_2))]) hx hb dX7_digestOfBlocks_142 rfl hl (by decide) rfl (fun ls hl => ?_)
    refine lv_lload_n hx hb dX7_digestOfBlocks_143 rfl (lv_at hl 0 rfl) ?_
    refine lv_aload_n hx hb dX7_digestOfBlocks_144 rfl (lv_at hl 1 rfl) ?_
    refine va_get (D := D) (ci := 7) (v := .ref (ad 6)) (C := RX7) (T := TX7) (N := 6) hx hb hg inGX7 hown hK hP 0 xo0 rfl 5 (by decide) (hg _ mw_347) (fun _ h9 => h9) xvX7_5 dX7_digestOfBlocks_145 ?_
    refine va_getN (D := D) (ci := 3) (v := .ref (ad 34)) (C := RX3) (T := TX3) (N := 16) hx hb hg inGX3 hown hK hP 6 xo6 rfl 1 (by decide) (hN.use nw_61) (fun _ h9 => h9) xvX3_1 dX7_digestOfBlocks_148 ?_
    refine lv_iload hx hb dX7_digestOfBlocks_151 (lv_at hl 3 rfl) ?_
    refine kI (rS hx hb hml hown hg hN hK hP hD (c_at l D cI cJ (XW ad cI cJ co fl ra li re wa pi) 34 (ad 34) 40 (gA pi 0) (nI i_2) (xg34 rfl) (by decide)) mw_84 mw_374 mw_85 mw_77 pd_X7_at ⟨Nat.le_of_ble_eq_true rfl, Nat.le_of_ble_eq_true rfl⟩ rfl hl.1 rfl (Nat.le_of_ble_eq_true rfl) dX7_digestOfBlocks_153 ⟨Nat.le_of_ble_eq_true rfl, Nat.le_of_ble_eq_true rfl⟩) hD hS hA (fun r_18 u_18 H locs hp hP hD hS => ?_)
    obtain ⟨er, eu⟩ := hp
    obtain rfl := er.symm
    obtain rfl := eu.symm
    refine kL (rS hx hb hml hown hg hN hK hP hD (c_mix l D cI cJ (XW ad cI cJ co fl ra li re wa pi) (mixI (mixI (mixI (mixI (mixI (mixZ (mixI p_2 (rd (gA fl 1) 40 (nI i_2))) (hs (gl fl 0) (nI i_2))) (nearest ra (nI i_2))) (bc (rdL (gB ra 1) 40 (nI i_2)))) (depth ra (nI i_2))) (rd (gA li 0) 40 (nI i_2))) (rd (gA re 0) 40 (nI i_2))) (rd (gA pi 0) 40 (nI i_2))) mw_371 mw_372 mw_373 mw_77 pd_X7_mix ⟨Nat.le_of_ble_eq_true rfl, Nat.le_of_ble_eq_true rfl⟩ rfl hl.1 rfl (Nat.le_of_ble_eq_true rfl) dX7_digestOfBlocks_156 ⟨Nat.le_of_ble_eq_true rfl, Nat.le_of_ble_eq_true rfl⟩) hD hS hA (fun r_19 u_19 H locs hp hP hD hS => ?_)
    obtain ⟨er, eu⟩ := hp
    obtain rfl := er.symm
    obtain rfl := eu.symm
    refine lv_lstore_n (lv' := [(3, .long (mixI (mixI (mixI (mixI (mixI (mixI (mixZ (mixI p_2 (rd (gA fl 1) 40 (nI i_2))) (hs (gl fl 0) (nI i_2))) (nearest ra (nI i_2))) (bc (rdL (gB ra 1) 40 (nI i_2)))) (depth ra (nI i_2))) (rd (gA li 0) 40 (nI i_2))) (rd (gA re 0) 40 (nI i_2))) (rd (gA pi 0) 40 (nI i_2)))), (0, .ref (ad 0)), (1, .long l1), (5, .int (nI i_2))]) hx hb dX7_digestOfBlocks_159 rfl hl (by decide) rfl (fun ls hl => ?_)
    refine lv_lload_n hx hb dX7_digestOfBlocks_160 rfl (lv_at hl 0 rfl) ?_
    refine lv_aload_n hx hb dX7_digestOfBlocks_161 rfl (lv_at hl 1 rfl) ?_
    refine va_get (D := D) (ci := 7) (v := .ref (ad 6)) (C := RX7) (T := TX7) (N := 6) hx hb hg inGX7 hown hK hP 0 xo0 rfl 5 (by decide) (hg _ mw_347) (fun _ h9 => h9) xvX7_5 dX7_digestOfBlocks_162 ?_
    refine lv_iload hx hb dX7_digestOfBlocks_165 (lv_at hl 3 rfl) ?_
    refine kI (rV (q0 := 6) (ci := 3) hx hb hml hown hg hN hK hP hD (c_placeB l D cI cJ ad co fl ra li re wa pi (nI i_2)) mw_387 mw_388 mw_389 mw_390 mw_234 pdv_X3_placeOfBlock ⟨Nat.le_of_ble_eq_true rfl, Nat.le_of_ble_eq_true rfl⟩ rfl xo6 rfl hl.1 rfl (Nat.le_of_ble_eq_true rfl) dX7_digestOfBlocks_167 ⟨Nat.le_of_ble_eq_true rfl, Nat.le_of_ble_eq_true rfl⟩) hD hS hA (fun r_20 u_20 H locs hp hP hD hS => ?_)
    obtain ⟨er, eu⟩ := hp
    obtain rfl := er.symm
    obtain rfl := eu.symm
    refine kL (rS hx hb hml hown hg hN hK hP hD (c_mix l D cI cJ (XW ad cI cJ co fl ra li re wa pi) (mixI (mixI (mixI (mixI (mixI (mixI (mixZ (mixI p_2 (rd (gA fl 1) 40 (nI i_2))) (hs (gl fl 0) (nI i_2))) (nearest ra (nI i_2))) (bc (rdL (gB ra 1) 40 (nI i_2)))) (depth ra (nI i_2))) (rd (gA li 0) 40 (nI i_2))) (rd (gA re 0) 40 (nI i_2))) (rd (gA pi 0) 40 (nI i_2))) (placeB pi (nI i_2))) mw_371 mw_372 mw_373 mw_77 pd_X7_mix ⟨Nat.le_of_ble_eq_true rfl, Nat.le_of_ble_eq_true rfl⟩ rfl hl.1 rfl (Nat.le_of_ble_eq_true rfl) dX7_digestOfBlocks_170 ⟨Nat.le_of_ble_eq_true rfl, Nat.le_of_ble_eq_true rfl⟩) hD hS hA (fun r_21 u_21 H locs hp hP hD hS => ?_)
    obtain ⟨er, eu⟩ := hp
    obtain rfl := er.symm
    obtain rfl := eu.symm
    refine lv_lstore_n (lv' := [(3, .long (mixI (mixI (mixI (mixI (mixI (mixI (mixI (mixZ (mixI p_2 (rd (gA fl 1) 40 (nI i_2))) (hs (gl fl 0) (nI i_2))) (nearest ra (nI i_2))) (bc (rdL (gB ra 1) 40 (nI i_2)))) (depth ra (nI i_2))) (rd (gA li 0) 40 (nI i_2))) (rd (gA re 0) 40 (nI i_2))) (rd (gA pi 0) 40 (nI i_2))) (placeB pi (nI i_2)))), (0, .ref (ad 0)), (1, .long l1), (5, .int (nI i_2))]) hx hb dX7_digestOfBlocks_173 rfl hl (by decide) rfl (fun ls hl => ?_)
    refine lv_iinc (v := (nI (i_2 + 1))) (lv' := [(5, .int (nI (i_2 + 1))), (3, .long (mixI (mixI (mixI (mixI (mixI (mixI (mixI (mixZ (mixI p_2 (rd (gA fl 1) 40 (nI i_2))) (hs (gl fl 0) (nI i_2))) (nearest ra (nI i_2))) (bc (rdL (gB ra 1) 40 (nI i_2)))) (depth ra (nI i_2))) (rd (gA li 0) 40 (nI i_2))) (rd (gA re 0) 40 (nI i_2))) (rd (gA pi 0) 40 (nI i_2))) (placeB pi (nI i_2)))), (0, .ref (ad 0)), (1, .long l1)]) hx hb dX7_digestOfBlocks_174 hl (k := 3) rfl (nI_1 i_2) (by decide) rfl (fun ls hl => ?_)
    refine lv_goto (tgt := 15) hx hb dX7_digestOfBlocks_177 (by decide) ?_
    exact ih_2 (mixI (mixI (mixI (mixI (mixI (mixI (mixI (mixZ (mixI p_2 (rd (gA fl 1) 40 (nI i_2))) (hs (gl fl 0) (nI i_2))) (nearest ra (nI i_2))) (bc (rdL (gB ra 1) 40 (nI i_2)))) (depth ra (nI i_2))) (rd (gA li 0) 40 (nI i_2))) (rd (gA re 0) 40 (nI i_2))) (rd (gA pi 0) 40 (nI i_2))) (placeB pi (nI i_2))) H locs ls ⟨((show (mixI (mixI (mixI (mixI (mixI (mixI (mixI (mixZ (mixI p_2 (rd (gA fl 1) 40 (nI i_2))) (hs (gl fl 0) (nI i_2))) (nearest ra (nI i_2))) (bc (rdL (gB ra 1) 40 (nI i_2)))) (depth ra (nI i_2))) (rd (gA li 0) 40 (nI i_2))) (rd (gA re 0) 40 (nI i_2))) (rd (gA pi 0) 40 (nI i_2))) (placeB pi (nI i_2))) = (dgB fl ra li re pi) i_2 p_2 from (by first | with_reducible rfl | (simp only [dgB, gi_sl, gi_sA, gi_sB, gi_si_s, gi_si_n, gl_si, gl_sA, gl_sB, gl_sl_s, gl_sl_n, gA_si, gA_sl, gA_sB, gA_sA_s, gA_sA_n, gB_si, gB_sl, gB_sA, gB_sB_s, gB_sB_n, Nat.reduceBEq, if_true, if_false, eq_self, Bool.false_eq_true, Bool.true_eq_false, not_true_eq_false, not_false_eq_true, decide_true, decide_false, cond_true, cond_false, Bool.true_and, Bool.false_and, Bool.and_true, Bool.and_false, Bool.true_or, Bool.false_or, Bool.or_true, Bool.or_false, b2i_tt, b2i_ff, pr_eta]; done))).trans (lp_go h_2)), hP, hD, hS, lv_sub hl [2, 3, 1, 0] rfl⟩
