theorem dX3_meanSpan_0 : decode cX3_meanSpan 0 = .ok (.iconst 0, 1) := by decide +kernel
theorem dX3_meanSpan_1 : decode cX3_meanSpan 1 = .ok (.istore_n 1, 1) := by decide +kernel
theorem dX3_meanSpan_2 : decode cX3_meanSpan 2 = .ok (.iconst 0, 1) := by decide +kernel
theorem dX3_meanSpan_3 : decode cX3_meanSpan 3 = .ok (.istore_n 2, 1) := by decide +kernel
theorem dX3_meanSpan_4 : decode cX3_meanSpan 4 = .ok (.iconst 0, 1) := by decide +kernel
theorem dX3_meanSpan_5 : decode cX3_meanSpan 5 = .ok (.istore_n 3, 1) := by decide +kernel
theorem dX3_meanSpan_6 : decode cX3_meanSpan 6 = .ok (.iload_n 3, 1) := by decide +kernel
theorem dX3_meanSpan_7 : decode cX3_meanSpan 7 = .ok (.aload_n 0, 1) := by decide +kernel
theorem dX3_meanSpan_8 : decode cX3_meanSpan 8 = .ok (.getfield 58, 3) := by decide +kernel
theorem dX3_meanSpan_11 : decode cX3_meanSpan 11 = .ok (.if_icmp .ge 37, 3) := by decide +kernel
theorem dX3_meanSpan_14 : decode cX3_meanSpan 14 = .ok (.aload_n 0, 1) := by decide +kernel
theorem dX3_meanSpan_15 : decode cX3_meanSpan 15 = .ok (.getfield 12, 3) := by decide +kernel
theorem dX3_meanSpan_18 : decode cX3_meanSpan 18 = .ok (.iload_n 3, 1) := by decide +kernel
theorem dX3_meanSpan_19 : decode cX3_meanSpan 19 = .ok (.invokevirtual 104, 3) := by decide +kernel
theorem dX3_meanSpan_22 : decode cX3_meanSpan 22 = .ok (.ifCond .eq 20, 3) := by decide +kernel
theorem dX3_meanSpan_25 : decode cX3_meanSpan 25 = .ok (.iinc 1 1, 3) := by decide +kernel
theorem dX3_meanSpan_28 : decode cX3_meanSpan 28 = .ok (.iload_n 2, 1) := by decide +kernel
theorem dX3_meanSpan_29 : decode cX3_meanSpan 29 = .ok (.aload_n 0, 1) := by decide +kernel
theorem dX3_meanSpan_30 : decode cX3_meanSpan 30 = .ok (.iload_n 3, 1) := by decide +kernel
theorem dX3_meanSpan_31 : decode cX3_meanSpan 31 = .ok (.invokevirtual 131, 3) := by decide +kernel
theorem dX3_meanSpan_34 : decode cX3_meanSpan 34 = .ok (.aload_n 0, 1) := by decide +kernel
theorem dX3_meanSpan_35 : decode cX3_meanSpan 35 = .ok (.iload_n 3, 1) := by decide +kernel
theorem dX3_meanSpan_36 : decode cX3_meanSpan 36 = .ok (.invokevirtual 111, 3) := by decide +kernel
theorem dX3_meanSpan_39 : decode cX3_meanSpan 39 = .ok (.isub, 1) := by decide +kernel
theorem dX3_meanSpan_40 : decode cX3_meanSpan 40 = .ok (.iadd, 1) := by decide +kernel
theorem dX3_meanSpan_41 : decode cX3_meanSpan 41 = .ok (.istore_n 2, 1) := by decide +kernel
theorem dX3_meanSpan_42 : decode cX3_meanSpan 42 = .ok (.iinc 3 1, 3) := by decide +kernel
theorem dX3_meanSpan_45 : decode cX3_meanSpan 45 = .ok (.goto (-39), 3) := by decide +kernel
theorem dX3_meanSpan_48 : decode cX3_meanSpan 48 = .ok (.iload_n 1, 1) := by decide +kernel
theorem dX3_meanSpan_49 : decode cX3_meanSpan 49 = .ok (.ifCond .le 11, 3) := by decide +kernel
theorem dX3_meanSpan_52 : decode cX3_meanSpan 52 = .ok (.iload_n 2, 1) := by decide +kernel
theorem dX3_meanSpan_53 : decode cX3_meanSpan 53 = .ok (.i2d, 1) := by decide +kernel
theorem dX3_meanSpan_54 : decode cX3_meanSpan 54 = .ok (.iload_n 1, 1) := by decide +kernel
theorem dX3_meanSpan_55 : decode cX3_meanSpan 55 = .ok (.i2d, 1) := by decide +kernel
theorem dX3_meanSpan_56 : decode cX3_meanSpan 56 = .ok (.ddiv, 1) := by decide +kernel
theorem dX3_meanSpan_57 : decode cX3_meanSpan 57 = .ok (.goto 4, 3) := by decide +kernel
theorem dX3_meanSpan_60 : decode cX3_meanSpan 60 = .ok (.dconst 0, 1) := by decide +kernel
theorem dX3_meanSpan_61 : decode cX3_meanSpan 61 = .ok (.dreturn, 1) := by decide +kernel
def meanD (wa pi : Ob) : UInt64 := if 0 < (msAll wa pi).1 then FP.ddiv (FP.i2d (msAll wa pi).2) (FP.i2d (msAll wa pi).1) else FP.dconst0
set_option maxHeartbeats 4000000 in
set_option maxRecDepth 100000 in
theorem c_meanSpan (l : Launch) (D : va_G) (cI cJ : ClassId) (ad : Nat → Nat) (co fl ra li re wa pi : Ob) (hnan : 0 < (msAll wa pi).1 → vf_n64 (FP.ddiv (FP.i2d (msAll wa pi).2) (FP.i2d (msAll wa pi).1))) : CT l D (TY cI cJ) yX3_meanSpan (.code yX3_meanSpan cX3_meanSpan 4 (some Jvm.ClassFile.FieldType.double)) 2 0 0 (XW ad cI cJ co fl ra li re wa pi) [.ref (ad 6)] (QD D (TY cI cJ) (fun r u => r = (meanD wa pi) ∧ u = (XW ad cI cJ co fl ra li re wa pi))) := by
  refine ent (by decide) (Nat.le_of_ble_eq_true rfl) ?_
  intro p e s m below meth c ls A hx hb hr hg hown hml hlocks hnm hP hK hD hS hA hN hl
  have hl : lv_has ls 4 [(0, .ref (ad 6))] := hl
  refine lv_iconst (v := 0) hx hb dX3_meanSpan_0 (by decide) ?_
  refine lv_istore_n (lv' := [(1, .int 0), (0, .ref (ad 6))]) hx hb dX3_meanSpan_1 rfl hl (by decide) rfl (fun ls hl => ?_)
  refine lv_iconst (v := 0) hx hb dX3_meanSpan_2 (by decide) ?_
  refine lv_istore_n (lv' := [(2, .int 0), (1, .int 0), (0, .ref (ad 6))]) hx hb dX3_meanSpan_3 rfl hl (by decide) rfl (fun ls hl => ?_)
  refine lv_iconst (v := 0) hx hb dX3_meanSpan_4 (by decide) ?_
  refine lv_istore_n (lv' := [(3, .int 0), (2, .int 0), (1, .int 0), (0, .ref (ad 6))]) hx hb dX3_meanSpan_5 rfl hl (by decide) rfl (fun ls hl => ?_)
  refine w_loop (σ := Int32 × Int32) (fun (i_1 : Nat) (p_1 : Int32 × Int32) (H : Heap) (locs : List Loc) (ls : Array Slot) => p_1 = (lp (msStep wa pi) i_1 (0, 0)) ∧ va_P D vwCl (XW ad cI cJ co fl ra li re wa pi) H ∧ va_D A (XW ad cI cJ co fl ra li re wa pi) ∧ va_S A s.heap H locs ∧ lv_has ls 4 [(0, .ref (ad 6)), (1, .int p_1.1), (2, .int p_1.2), (3, .int (nI i_1))]) (nN (gi pi 0)) (fun p_1 H locs ls hI => ?_) (fun i_1 p_1 H locs ls hi_1 hI ih_1 => ?_) 0 (0, 0) (Nat.zero_le _) ⟨(lp_0 _ _), hP, hD, hS, (by rw [nI_0]; exact lv_sub hl [3, 2, 1, 0] rfl)⟩
  · obtain ⟨h_1, hP, hD, hS, hl⟩ := hI
    have h_1 := h_1.symm
    subst h_1
    have hP : va_P D vwCl (XW ad cI cJ co fl ra li re wa pi) H := hP
    have hD : va_D A (XW ad cI cJ co fl ra li re wa pi) := hD
    have hl : lv_has ls 4 [(0, .ref (ad 6)), (1, .int ((lp (msStep wa pi) (nN (gi pi 0)) (0, 0)).1)), (2, .int ((lp (msStep wa pi) (nN (gi pi 0)) (0, 0)).2)), (3, .int (nI ((nN (gi pi 0)))))] := hl
    refine lv_iload_n hx hb dX3_meanSpan_6 rfl (lv_at hl 3 rfl) ?_
    refine lv_aload_n hx hb dX3_meanSpan_7 rfl (lv_at hl 0 rfl) ?_
    refine va_get (D := D) (ci := 3) (v := .int (gi pi 0)) (C := RX3) (T := TX3) (N := 16) hx hb hg inGX3 hown hK hP 6 xo6 rfl 12 (by decide) (hg _ mw_228) (fun _ h9 => h9) (xvX3_12 rfl) dX3_meanSpan_8 ?_
    refine lv_icmp_ge (tgt := 48) hx hb dX3_meanSpan_11 (by decide) (fun _ => ?_) (fun c_11 => absurd (lp_out _) c_11)
    refine lv_iload_n hx hb dX3_meanSpan_48 rfl (lv_at hl 1 rfl) ?_
    refine lv_if_le (tgt := 60) hx hb dX3_meanSpan_49 (by decide) (fun c_49 => ?_) (fun c_49 => ?_)
    · have c_49 : ¬ 0 < ((lp (msStep wa pi) (nN (gi pi 0)) (0, 0)).1) := i_ge c_49
      refine lv_dconst0 hx hb dX3_meanSpan_60 ?_
      exact W.dret (v := FP.dconst0) hx hb hr (fun t ht hW => ⟨⟨FP.dconst0, (XW ad cI cJ co fl ra li re wa pi), rfl, ⟨(show (FP.dconst0 : UInt64) = (meanD wa pi) from (by simp only [meanD, msAll, eq_false c_49, gi_sl, gi_sA, gi_sB, gi_si_s, gi_si_n, gl_si, gl_sA, gl_sB, gl_sl_s, gl_sl_n, gA_si, gA_sl, gA_sB, gA_sA_s, gA_sA_n, gB_si, gB_sl, gB_sA, gB_sB_s, gB_sB_n, Nat.reduceBEq, if_true, if_false, eq_self, Bool.false_eq_true, Bool.true_eq_false, not_true_eq_false, not_false_eq_true, decide_true, decide_false, cond_true, cond_false, Bool.true_and, Bool.false_and, Bool.and_true, Bool.and_false, Bool.true_or, Bool.false_or, Bool.or_true, Bool.or_false, b2i_tt, b2i_ff, pr_eta]; done)), xw_eq rfl rfl rfl rfl rfl rfl rfl⟩, ⟨by rw [ht]; exact hP, va_K.moved hW.alike hK, hD⟩⟩, hS.F ht⟩) hS.2.2 dX3_meanSpan_61
    · have c_49 : 0 < ((lp (msStep wa pi) (nN (gi pi 0)) (0, 0)).1) := i_nge c_49
      refine lv_iload_n hx hb dX3_meanSpan_52 rfl (lv_at hl 2 rfl) ?_
      refine lv_i2d hx hb dX3_meanSpan_53 ?_
      refine lv_iload_n hx hb dX3_meanSpan_54 rfl (lv_at hl 1 rfl) ?_
      refine lv_i2d hx hb dX3_meanSpan_55 ?_
      refine lv_ddiv hx hb dX3_meanSpan_56 (hnan c_49) ?_
      refine lv_goto (tgt := 61) hx hb dX3_meanSpan_57 (by decide) ?_
      exact W.dret (v := (FP.ddiv (FP.i2d ((lp (msStep wa pi) (nN (gi pi 0)) (0, 0)).2)) (FP.i2d ((lp (msStep wa pi) (nN (gi pi 0)) (0, 0)).1)))) hx hb hr (fun t ht hW => ⟨⟨(FP.ddiv (FP.i2d ((lp (msStep wa pi) (nN (gi pi 0)) (0, 0)).2)) (FP.i2d ((lp (msStep wa pi) (nN (gi pi 0)) (0, 0)).1))), (XW ad cI cJ co fl ra li re wa pi), rfl, ⟨(show ((FP.ddiv (FP.i2d ((lp (msStep wa pi) (nN (gi pi 0)) (0, 0)).2)) (FP.i2d ((lp (msStep wa pi) (nN (gi pi 0)) (0, 0)).1))) : UInt64) = (meanD wa pi) from (by simp only [meanD, msAll, eq_true c_49, gi_sl, gi_sA, gi_sB, gi_si_s, gi_si_n, gl_si, gl_sA, gl_sB, gl_sl_s, gl_sl_n, gA_si, gA_sl, gA_sB, gA_sA_s, gA_sA_n, gB_si, gB_sl, gB_sA, gB_sB_s, gB_sB_n, Nat.reduceBEq, if_true, if_false, eq_self, Bool.false_eq_true, Bool.true_eq_false, not_true_eq_false, not_false_eq_true, decide_true, decide_false, cond_true, cond_false, Bool.true_and, Bool.false_and, Bool.and_true, Bool.and_false, Bool.true_or, Bool.false_or, Bool.or_true, Bool.or_false, b2i_tt, b2i_ff, pr_eta]; done)), xw_eq rfl rfl rfl rfl rfl rfl rfl⟩, ⟨by rw [ht]; exact hP, va_K.moved hW.alike hK, hD⟩⟩, hS.F ht⟩) hS.2.2 dX3_meanSpan_61
  · obtain ⟨h_1, hP, hD, hS, hl⟩ := hI
    have hP : va_P D vwCl (XW ad cI cJ co fl ra li re wa pi) H := hP
    have hD : va_D A (XW ad cI cJ co fl ra li re wa pi) := hD
    have hl : lv_has ls 4 [(0, .ref (ad 6)), (1, .int p_1.1), (2, .int p_1.2), (3, .int (nI i_1))] := hl
    refine lv_iload_n hx hb dX3_meanSpan_6 rfl (lv_at hl 3 rfl) ?_
    refine lv_aload_n hx hb dX3_meanSpan_7 rfl (lv_at hl 0 rfl) ?_
    refine va_get (D := D) (ci := 3) (v := .int (gi pi 0)) (C := RX3) (T := TX3) (N := 16) hx hb hg inGX3 hown hK hP 6 xo6 rfl 12 (by decide) (hg _ mw_228) (fun _ h9 => h9) (xvX3_12 rfl) dX3_meanSpan_8 ?_
    refine lv_icmp_ge (tgt := 48) hx hb dX3_meanSpan_11 (by decide) (fun c_11 => absurd c_11 (lp_in hi_1)) (fun _ => ?_)
    refine lv_aload_n hx hb dX3_meanSpan_14 rfl (lv_at hl 0 rfl) ?_
    refine va_get (D := D) (ci := 3) (v := .ref (ad 7)) (C := RX3) (T := TX3) (N := 16) hx hb hg inGX3 hown hK hP 6 xo6 rfl 0 (by decide) (hg _ mw_227) (fun _ h9 => h9) xvX3_0 dX3_meanSpan_15 ?_
    refine lv_iload_n hx hb dX3_meanSpan_18 rfl (lv_at hl 3 rfl) ?_
    refine kI (rV (q0 := 7) (ci := 6) hx hb hml hown hg hN hK hP hD (c_draws l D cI cJ ad co fl ra li re wa pi (nI i_1)) mw_204 mw_229 mw_206 mw_207 mw_208 pdv_X6_draws ⟨Nat.le_of_ble_eq_true rfl, Nat.le_of_ble_eq_true rfl⟩ rfl xo7 rfl hl.1 rfl (Nat.le_of_ble_eq_true rfl) dX3_meanSpan_19 ⟨Nat.le_of_ble_eq_true rfl, Nat.le_of_ble_eq_true rfl⟩) hD hS hA (fun r_2 u_2 H locs hp hP hD hS => ?_)
    obtain ⟨er, eu⟩ := hp
    obtain rfl := er.symm
    obtain rfl := eu.symm
    refine lv_if_eq (tgt := 42) hx hb dX3_meanSpan_22 (by decide) (fun c_22 => ?_) (fun c_22 => ?_)
    · have c_22 : ¬ (draws wa (nI i_1)) = true := b2i_0 c_22
      refine lv_iinc (v := (nI (i_1 + 1))) (lv' := [(3, .int (nI (i_1 + 1))), (0, .ref (ad 6)), (1, .int p_1.1), (2, .int p_1.2)]) hx hb dX3_meanSpan_42 hl (k := 3) rfl (nI_1 i_1) (by decide) rfl (fun ls hl => ?_)
      refine lv_goto (tgt := 6) hx hb dX3_meanSpan_45 (by decide) ?_
      exact ih_1 (p_1.1, p_1.2) H locs ls ⟨((show (p_1.1, p_1.2) = (msStep wa pi) i_1 p_1 from (by simp only [msStep, bf_of c_22, gi_sl, gi_sA, gi_sB, gi_si_s, gi_si_n, gl_si, gl_sA, gl_sB, gl_sl_s, gl_sl_n, gA_si, gA_sl, gA_sB, gA_sA_s, gA_sA_n, gB_si, gB_sl, gB_sA, gB_sB_s, gB_sB_n, Nat.reduceBEq, if_true, if_false, eq_self, Bool.false_eq_true, Bool.true_eq_false, not_true_eq_false, not_false_eq_true, decide_true, decide_false, cond_true, cond_false, Bool.true_and, Bool.false_and, Bool.and_true, Bool.and_false, Bool.true_or, Bool.false_or, Bool.or_true, Bool.or_false, b2i_tt, b2i_ff, pr_eta]; done)).trans (lp_go h_1)), hP, hD, hS, lv_sub hl [1, 2, 3, 0] rfl⟩
    · have c_22 : (draws wa (nI i_1)) = true := b2i_1 c_22
      refine lv_iinc (v := (p_1.1 + 1)) (lv' := [(1, .int (p_1.1 + 1)), (0, .ref (ad 6)), (2, .int p_1.2), (3, .int (nI i_1))]) hx hb dX3_meanSpan_25 hl (k := 1) rfl rfl (by decide) rfl (fun ls hl => ?_)
      refine lv_iload_n hx hb dX3_meanSpan_28 rfl (lv_at hl 2 rfl) ?_
      refine lv_aload_n hx hb dX3_meanSpan_29 rfl (lv_at hl 1 rfl) ?_
      refine lv_iload_n hx hb dX3_meanSpan_30 rfl (lv_at hl 3 rfl) ?_
      refine kI (rV (q0 := 6) (ci := 3) hx hb hml hown hg hN hK hP hD (c_bottom l D cI cJ ad co fl ra li re wa pi (nI i_1)) mw_244 mw_245 mw_246 mw_247 mw_234 pdv_X3_bottom ⟨Nat.le_of_ble_eq_true rfl, Nat.le_of_ble_eq_true rfl⟩ rfl xo6 rfl hl.1 rfl (Nat.le_of_ble_eq_true rfl) dX3_meanSpan_31 ⟨Nat.le_of_ble_eq_true rfl, Nat.le_of_ble_eq_true rfl⟩) hD hS hA (fun r_3 u_3 H locs hp hP hD hS => ?_)
      obtain ⟨er, eu⟩ := hp
      obtain rfl := er.symm
      obtain rfl := eu.symm
      refine lv_aload_n hx hb dX3_meanSpan_34 rfl (lv_at hl 1 rfl) ?_
      refine lv_iload_n hx hb dX3_meanSpan_35 rfl (lv_at hl 3 rfl) ?_
      refine kI (rV (q0 := 6) (ci := 3) hx hb hml hown hg hN hK hP hD (c_top l D cI cJ ad co fl ra li re wa pi (nI i_1)) mw_230 mw_231 mw_232 mw_233 mw_234 pdv_X3_top ⟨Nat.le_of_ble_eq_true rfl, Nat.le_of_ble_eq_true rfl⟩ rfl xo6 rfl hl.1 rfl (Nat.le_of_ble_eq_true rfl) dX3_meanSpan_36 ⟨Nat.le_of_ble_eq_true rfl, Nat.le_of_ble_eq_true rfl⟩) hD hS hA (fun r_4 u_4 H locs hp hP hD hS => ?_)
      obtain ⟨er, eu⟩ := hp
      obtain rfl := er.symm
      obtain rfl := eu.symm
      refine lv_isub hx hb dX3_meanSpan_39 ?_
      refine lv_iadd hx hb dX3_meanSpan_40 ?_
      refine lv_istore_n (lv' := [(2, .int (p_1.2 + ((botE wa pi (nI i_1)) - (topE wa pi (nI i_1))))), (1, .int (p_1.1 + 1)), (0, .ref (ad 6)), (3, .int (nI i_1))]) hx hb dX3_meanSpan_41 rfl hl (by decide) rfl (fun ls hl => ?_)
      refine lv_iinc (v := (nI (i_1 + 1))) (lv' := [(3, .int (nI (i_1 + 1))), (2, .int (p_1.2 + ((botE wa pi (nI i_1)) - (topE wa pi (nI i_1))))), (1, .int (p_1.1 + 1)), (0, .ref (ad 6))]) hx hb dX3_meanSpan_42 hl (k := 3) rfl (nI_1 i_1) (by decide) rfl (fun ls hl => ?_)
      refine lv_goto (tgt := 6) hx hb dX3_meanSpan_45 (by decide) ?_
      exact ih_1 ((p_1.1 + 1), (p_1.2 + ((botE wa pi (nI i_1)) - (topE wa pi (nI i_1))))) H locs ls ⟨((show ((p_1.1 + 1), (p_1.2 + ((botE wa pi (nI i_1)) - (topE wa pi (nI i_1))))) = (msStep wa pi) i_1 p_1 from (by simp only [msStep, c_22, gi_sl, gi_sA, gi_sB, gi_si_s, gi_si_n, gl_si, gl_sA, gl_sB, gl_sl_s, gl_sl_n, gA_si, gA_sl, gA_sB, gA_sA_s, gA_sA_n, gB_si, gB_sl, gB_sA, gB_sB_s, gB_sB_n, Nat.reduceBEq, if_true, if_false, eq_self, Bool.false_eq_true, Bool.true_eq_false, not_true_eq_false, not_false_eq_true, decide_true, decide_false, cond_true, cond_false, Bool.true_and, Bool.false_and, Bool.and_true, Bool.and_false, Bool.true_or, Bool.false_or, Bool.or_true, Bool.or_false, b2i_tt, b2i_ff, pr_eta]; done)).trans (lp_go h_1)), hP, hD, hS, lv_sub hl [3, 2, 1, 0] rfl⟩
