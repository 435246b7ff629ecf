theorem dX3_countCrossings_0 : decode cX3_countCrossings 0 = .ok (.iconst 0, 1) := by decide +kernel
theorem dX3_countCrossings_1 : decode cX3_countCrossings 1 = .ok (.istore_n 1, 1) := by decide +kernel
theorem dX3_countCrossings_2 : decode cX3_countCrossings 2 = .ok (.iconst 0, 1) := by decide +kernel
theorem dX3_countCrossings_3 : decode cX3_countCrossings 3 = .ok (.istore_n 2, 1) := by decide +kernel
theorem dX3_countCrossings_4 : decode cX3_countCrossings 4 = .ok (.iload_n 2, 1) := by decide +kernel
theorem dX3_countCrossings_5 : decode cX3_countCrossings 5 = .ok (.aload_n 0, 1) := by decide +kernel
theorem dX3_countCrossings_6 : decode cX3_countCrossings 6 = .ok (.getfield 72, 3) := by decide +kernel
theorem dX3_countCrossings_9 : decode cX3_countCrossings 9 = .ok (.iconst 1, 1) := by decide +kernel
theorem dX3_countCrossings_10 : decode cX3_countCrossings 10 = .ok (.isub, 1) := by decide +kernel
theorem dX3_countCrossings_11 : decode cX3_countCrossings 11 = .ok (.if_icmp .ge 17, 3) := by decide +kernel
theorem dX3_countCrossings_14 : decode cX3_countCrossings 14 = .ok (.iload_n 1, 1) := by decide +kernel
theorem dX3_countCrossings_15 : decode cX3_countCrossings 15 = .ok (.aload_n 0, 1) := by decide +kernel
theorem dX3_countCrossings_16 : decode cX3_countCrossings 16 = .ok (.iload_n 2, 1) := by decide +kernel
theorem dX3_countCrossings_17 : decode cX3_countCrossings 17 = .ok (.invokevirtual 137, 3) := by decide +kernel
theorem dX3_countCrossings_20 : decode cX3_countCrossings 20 = .ok (.iadd, 1) := by decide +kernel
theorem dX3_countCrossings_21 : decode cX3_countCrossings 21 = .ok (.istore_n 1, 1) := by decide +kernel
theorem dX3_countCrossings_22 : decode cX3_countCrossings 22 = .ok (.iinc 2 1, 3) := by decide +kernel
theorem dX3_countCrossings_25 : decode cX3_countCrossings 25 = .ok (.goto (-21), 3) := by decide +kernel
theorem dX3_countCrossings_28 : decode cX3_countCrossings 28 = .ok (.iload_n 1, 1) := by decide +kernel
theorem dX3_countCrossings_29 : decode cX3_countCrossings 29 = .ok (.ireturn, 1) := by decide +kernel
theorem mw_288 : Cond.code yX3_crossingsUnder cX3_crossingsUnder 6 (some Jvm.ClassFile.FieldType.int) ∈ GW := gw_mem (inT3 _ (List.mem_of_getElem? (i := 154) rfl)) rfl
theorem mw_289 : Cond.methodLink RX3 137 yX3_crossingsUnder ∈ GW := gw_mem (inT3 _ (List.mem_of_getElem? (i := 151) rfl)) rfl
theorem mw_290 : Cond.instanceMethod yX3_crossingsUnder ∈ GW := gw_mem (inT3 _ (List.mem_of_getElem? (i := 153) rfl)) rfl
theorem mw_291 : Cond.selects RX3 yX3_crossingsUnder yX3_crossingsUnder ∈ GW := gw_mem (inTp (q := (yX3_crossingsUnder, 16)) (List.mem_of_getElem? (i := 35) rfl)) rfl
theorem pdv_X3_crossingsUnder : yX3_crossingsUnder.cls = RX3 ∧ yX3_crossingsUnder.cls ≠ "java/lang/invoke/MethodHandle" ∧ yX3_crossingsUnder.cls ≠ "java/lang/invoke/VarHandle" ∧ (parseMethodDescriptor yX3_crossingsUnder.desc).map (fun d => d.parameters.length) = some 1 := by decide +kernel
set_option maxHeartbeats 4000000 in
set_option maxRecDepth 100000 in
theorem c_countCross (l : Launch) (D : va_G) (cI cJ : ClassId) (ad : Nat → Nat) (co fl ra li re wa pi : Ob) : CT l D (TY cI cJ) yX3_countCrossings (.code yX3_countCrossings cX3_countCrossings 3 (some Jvm.ClassFile.FieldType.int)) 4 0 0 (XW ad cI cJ co fl ra li re wa pi) [.ref (ad 6)] (QI D (TY cI cJ) (fun r u => r = (countCross wa pi).2 ∧ u = (XW ad cI cJ co fl ra li re wa (countCross wa pi).1))) := by
  refine ent (by decide) (Nat.le_of_ble_eq_true rfl) ?_
  intro p e s m below meth c ls A hx hb hr hg hown hml hlocks hnm hP hK hD hS hA hN hl
  have hl : lv_has ls 3 [(0, .ref (ad 6))] := hl
  refine lv_iconst (v := 0) hx hb dX3_countCrossings_0 (by decide) ?_
  refine lv_istore_n (lv' := [(1, .int 0), (0, .ref (ad 6))]) hx hb dX3_countCrossings_1 rfl hl (by decide) rfl (fun ls hl => ?_)
  refine lv_iconst (v := 0) hx hb dX3_countCrossings_2 (by decide) ?_
  refine lv_istore_n (lv' := [(2, .int 0), (1, .int 0), (0, .ref (ad 6))]) hx hb dX3_countCrossings_3 rfl hl (by decide) rfl (fun ls hl => ?_)
  refine w_loop (σ := Ob × Int32) (fun (i_1 : Nat) (p_1 : Ob × Int32) (H : Heap) (locs : List Loc) (ls : Array Slot) => p_1 = (lp (ccStep wa) i_1 (pi, 0)) ∧ va_P D vwCl (XW ad cI cJ co fl ra li re wa p_1.1) H ∧ va_D A (XW ad cI cJ co fl ra li re wa p_1.1) ∧ va_S A s.heap H locs ∧ lv_has ls 3 [(0, .ref (ad 6)), (1, .int p_1.2), (2, .int (nI i_1))]) (nN (gi pi 1 - 1)) (fun p_1 H locs ls hI => ?_) (fun i_1 p_1 H locs ls hi_1 hI ih_1 => ?_) 0 (pi, 0) (Nat.zero_le _) ⟨(lp_0 _ _), hP, hD, hS, (by rw [nI_0]; exact lv_sub hl [2, 1, 0] rfl)⟩
  · obtain ⟨h_1, hP, hD, hS, hl⟩ := hI
    have h_1 := h_1.symm
    subst h_1
    have hP : va_P D vwCl (XW ad cI cJ co fl ra li re wa ((lp (ccStep wa) (nN (gi pi 1 - 1)) (pi, 0)).1)) H := hP
    have hD : va_D A (XW ad cI cJ co fl ra li re wa ((lp (ccStep wa) (nN (gi pi 1 - 1)) (pi, 0)).1)) := hD
    have hl : lv_has ls 3 [(0, .ref (ad 6)), (1, .int ((lp (ccStep wa) (nN (gi pi 1 - 1)) (pi, 0)).2)), (2, .int (nI ((nN (gi pi 1 - 1)))))] := hl
    refine lv_iload_n hx hb dX3_countCrossings_4 rfl (lv_at hl 2 rfl) ?_
    refine lv_aload_n hx hb dX3_countCrossings_5 rfl (lv_at hl 0 rfl) ?_
    refine va_get (D := D) (ci := 3) (v := .int (gi ((lp (ccStep wa) (nN (gi pi 1 - 1)) (pi, 0)).1) 1)) (C := RX3) (T := TX3) (N := 16) hx hb hg inGX3 hown hK hP 6 xo6 rfl 13 (by decide) (hg _ mw_235) (fun _ h9 => h9) (xvX3_13 rfl) dX3_countCrossings_6 ?_
    refine lv_iconst (v := 1) hx hb dX3_countCrossings_9 (by decide) ?_
    refine lv_isub hx hb dX3_countCrossings_10 ?_
    refine lv_icmp_ge (tgt := 28) hx hb dX3_countCrossings_11 (by decide) (fun _ => ?_) (fun c_11 => absurd (by rw [k_ccL]; exact lp_out _) c_11)
    refine lv_iload_n hx hb dX3_countCrossings_28 rfl (lv_at hl 1 rfl) ?_
    exact W.iret (v := ((lp (ccStep wa) (nN (gi pi 1 - 1)) (pi, 0)).2)) hx hb hr (fun t ht hW => ⟨⟨((lp (ccStep wa) (nN (gi pi 1 - 1)) (pi, 0)).2), (XW ad cI cJ co fl ra li re wa ((lp (ccStep wa) (nN (gi pi 1 - 1)) (pi, 0)).1)), rfl, ⟨(show (((lp (ccStep wa) (nN (gi pi 1 - 1)) (pi, 0)).2) : Int32) = (countCross wa pi).2 from (by first | with_reducible rfl | (simp only [countCross, gi_sl, gi_sA, gi_sB, gi_si_s, gi_si_n, gl_si, gl_sA, gl_sB, gl_sl_s, gl_sl_n, gA_si, gA_sl, gA_sB, gA_sA_s, gA_sA_n, gB_si, gB_sl, gB_sA, gB_sB_s, gB_sB_n, Nat.reduceBEq, if_true, if_false, eq_self, Bool.false_eq_true, Bool.true_eq_false, not_true_eq_false, not_false_eq_true, decide_true, decide_false, cond_true, cond_false, Bool.true_and, Bool.false_and, Bool.and_true, Bool.and_false, Bool.true_or, Bool.false_or, Bool.or_true, Bool.or_false, b2i_tt, b2i_ff, pr_eta]; done))), xw_eq rfl rfl rfl rfl rfl rfl (show ((lp (ccStep wa) (nN (gi pi 1 - 1)) (pi, 0)).1) = (countCross wa pi).1 from (by first | with_reducible rfl | (simp only [countCross, gi_sl, gi_sA, gi_sB, gi_si_s, gi_si_n, gl_si, gl_sA, gl_sB, gl_sl_s, gl_sl_n, gA_si, gA_sl, gA_sB, gA_sA_s, gA_sA_n, gB_si, gB_sl, gB_sA, gB_sB_s, gB_sB_n, Nat.reduceBEq, if_true, if_false, eq_self, Bool.false_eq_true, Bool.true_eq_false, not_true_eq_false, not_false_eq_true, decide_true, decide_false, cond_true, cond_false, Bool.true_and, Bool.false_and, Bool.and_true, Bool.and_false, Bool.true_or, Bool.false_or, Bool.or_true, Bool.or_false, b2i_tt, b2i_ff, pr_eta]; done)))⟩, ⟨by rw [ht]; exact hP, va_K.moved hW.alike hK, hD⟩⟩, hS.F ht⟩) hS.2.2 dX3_countCrossings_29
  · obtain ⟨h_1, hP, hD, hS, hl⟩ := hI
    have hP : va_P D vwCl (XW ad cI cJ co fl ra li re wa p_1.1) H := hP
    have hD : va_D A (XW ad cI cJ co fl ra li re wa p_1.1) := hD
    have hl : lv_has ls 3 [(0, .ref (ad 6)), (1, .int p_1.2), (2, .int (nI i_1))] := hl
    refine lv_iload_n hx hb dX3_countCrossings_4 rfl (lv_at hl 2 rfl) ?_
    refine lv_aload_n hx hb dX3_countCrossings_5 rfl (lv_at hl 0 rfl) ?_
    refine va_get (D := D) (ci := 3) (v := .int (gi p_1.1 1)) (C := RX3) (T := TX3) (N := 16) hx hb hg inGX3 hown hK hP 6 xo6 rfl 13 (by decide) (hg _ mw_235) (fun _ h9 => h9) (xvX3_13 rfl) dX3_countCrossings_6 ?_
    refine lv_iconst (v := 1) hx hb dX3_countCrossings_9 (by decide) ?_
    refine lv_isub hx hb dX3_countCrossings_10 ?_
    refine lv_icmp_ge (tgt := 28) hx hb dX3_countCrossings_11 (by decide) (fun c_11 => absurd c_11 (by rw [h_1, k_ccL]; exact lp_in hi_1)) (fun _ => ?_)
    refine lv_iload_n hx hb dX3_countCrossings_14 rfl (lv_at hl 1 rfl) ?_
    refine lv_aload_n hx hb dX3_countCrossings_15 rfl (lv_at hl 0 rfl) ?_
    refine lv_iload_n hx hb dX3_countCrossings_16 rfl (lv_at hl 2 rfl) ?_
    refine kI (rV (q0 := 6) (ci := 3) hx hb hml hown hg hN hK hP hD (c_crossN l D cI cJ ad co fl ra li re wa p_1.1 (nI i_1)) mw_288 mw_289 mw_290 mw_291 mw_234 pdv_X3_crossingsUnder ⟨Nat.le_of_ble_eq_true rfl, Nat.le_of_ble_eq_true rfl⟩ rfl xo6 rfl hl.1 rfl (Nat.le_of_ble_eq_true rfl) dX3_countCrossings_17 ⟨Nat.le_of_ble_eq_true rfl, Nat.le_of_ble_eq_true rfl⟩) hD hS hA (fun r_2 u_2 H locs hp hP hD hS => ?_)
    obtain ⟨er, eu⟩ := hp
    obtain rfl := er.symm
    obtain rfl := eu.symm
    have hP : va_P D vwCl (XW ad cI cJ co fl ra li re wa (cuP wa p_1.1 (nI i_1)).1) H := hP
    have hD : va_D A (XW ad cI cJ co fl ra li re wa (cuP wa p_1.1 (nI i_1)).1) := hD
    refine lv_iadd hx hb dX3_countCrossings_20 ?_
    refine lv_istore_n (lv' := [(1, .int (p_1.2 + (crossN wa p_1.1 (nI i_1)))), (0, .ref (ad 6)), (2, .int (nI i_1))]) hx hb dX3_countCrossings_21 rfl hl (by decide) rfl (fun ls hl => ?_)
    refine lv_iinc (v := (nI (i_1 + 1))) (lv' := [(2, .int (nI (i_1 + 1))), (1, .int (p_1.2 + (crossN wa p_1.1 (nI i_1)))), (0, .ref (ad 6))]) hx hb dX3_countCrossings_22 hl (k := 2) rfl (nI_1 i_1) (by decide) rfl (fun ls hl => ?_)
    refine lv_goto (tgt := 4) hx hb dX3_countCrossings_25 (by decide) ?_
    exact ih_1 ((cuP wa p_1.1 (nI i_1)).1, (p_1.2 + (crossN wa p_1.1 (nI i_1)))) H locs ls ⟨((show ((cuP wa p_1.1 (nI i_1)).1, (p_1.2 + (crossN wa p_1.1 (nI i_1)))) = (ccStep wa) i_1 p_1 from (by first | with_reducible rfl | (simp only [ccStep, gi_sl, gi_sA, gi_sB, gi_si_s, gi_si_n, gl_si, gl_sA, gl_sB, gl_sl_s, gl_sl_n, gA_si, gA_sl, gA_sB, gA_sA_s, gA_sA_n, gB_si, gB_sl, gB_sA, gB_sB_s, gB_sB_n, Nat.reduceBEq, if_true, if_false, eq_self, Bool.false_eq_true, Bool.true_eq_false, not_true_eq_false, not_false_eq_true, decide_true, decide_false, cond_true, cond_false, Bool.true_and, Bool.false_and, Bool.and_true, Bool.and_false, Bool.true_or, Bool.false_or, Bool.or_true, Bool.or_false, b2i_tt, b2i_ff, pr_eta]; done))).trans (lp_go h_1)), hP, hD, hS, lv_sub hl [2, 1, 0] rfl⟩
