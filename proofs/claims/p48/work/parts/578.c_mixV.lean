set_option maxHeartbeats 4000000 in
set_option maxRecDepth 100000 in
theorem c_mixV (l : Launch) (D : va_G) (cI cJ : ClassId) (ad : Nat → Nat) (co fl ra li re wa pi : Ob) (l1 : Int64) (k1 : Int32) : CT l D (TY cI cJ) yX7_mix_ (.code yX7_mix_ cX7_mix_ 3 (some Jvm.ClassFile.FieldType.long)) 0 0 0 (XW ad cI cJ co fl ra li re wa pi) [.long l1, .int k1] (QL D (TY cI cJ) (fun r u => r = (mixZ l1 (decide (¬ k1 = 0))) ∧ u = (XW ad cI cJ co fl ra li re wa pi))) := by
  refine ent (by decide) (Nat.le_of_ble_eq_true rfl) ?_
  intro p e s m below meth c ls A hx hb hr hg hown hml hlocks hnm hP hK hD hS hA hN hl
  have hl : lv_has ls 3 [(0, .long l1), (2, .int k1)] := hl
  refine lv_lload_n hx hb dX7_mix__0 rfl (lv_at hl 0 rfl) ?_
  refine lv_ldc2 (v := 31) hx hb hown (hg _ mw_72) dX7_mix__1 ?_
  refine lv_lmul hx hb dX7_mix__4 ?_
  refine lv_iload_n hx hb dX7_mix__5 rfl (lv_at hl 1 rfl) ?_
  refine lv_if_eq (tgt := 13) hx hb dX7_mix__6 (by decide) (fun c_6 => ?_) (fun c_6 => ?_)
  · refine lv_lconst (v := 0) hx hb dX7_mix__13 (by decide) ?_
    refine lv_ladd hx hb dX7_mix__14 ?_
    exact W.lret (v := ((l1 * 31) + 0)) hx hb hr (fun t ht hW => ⟨⟨((l1 * 31) + 0), (XW ad cI cJ co fl ra li re wa pi), rfl, ⟨(show (((l1 * 31) + 0) : Int64) = (mixZ l1 (decide (¬ k1 = 0))) from (by simp only [mixZ, eq_true c_6, gi_sl, gi_sA, gi_sB, gi_si_s, gi_si_n, gl_si, gl_sA, gl_sB, gl_sl_s, gl_sl_n, gA_si, gA_sl, gA_sB, gA_sA_s, gA_sA_n, gB_si, gB_sl, gB_sA, gB_sB_s, gB_sB_n, Nat.reduceBEq, if_true, if_false, eq_self, Bool.false_eq_true, Bool.true_eq_false, not_true_eq_false, not_false_eq_true, decide_true, decide_false, cond_true, cond_false, Bool.true_and, Bool.false_and, Bool.and_true, Bool.and_false, Bool.true_or, Bool.false_or, Bool.or_true, Bool.or_false, b2i_tt, b2i_ff, pr_eta]; done)), xw_eq rfl rfl rfl rfl rfl rfl rfl⟩, ⟨by rw [ht]; exact hP, va_K.moved hW.alike hK, hD⟩⟩, hS.F ht⟩) hS.2.2 dX7_mix__15
  · refine lv_lconst (v := 1) hx hb dX7_mix__9 (by decide) ?_
    refine lv_goto (tgt := 14) hx hb dX7_mix__10 (by decide) ?_
    refine lv_ladd hx hb dX7_mix__14 ?_
    exact W.lret (v := ((l1 * 31) + 1)) hx hb hr (fun t ht hW => ⟨⟨((l1 * 31) + 1), (XW ad cI cJ co fl ra li re wa pi), rfl, ⟨(show (((l1 * 31) + 1) : Int64) = (mixZ l1 (decide (¬ k1 = 0))) from (by simp only [mixZ, eq_false c_6, gi_sl, gi_sA, gi_sB, gi_si_s, gi_si_n, gl_si, gl_sA, gl_sB, gl_sl_s, gl_sl_n, gA_si, gA_sl, gA_sB, gA_sA_s, gA_sA_n, gB_si, gB_sl, gB_sA, gB_sB_s, gB_sB_n, Nat.reduceBEq, if_true, if_false, eq_self, Bool.false_eq_true, Bool.true_eq_false, not_true_eq_false, not_false_eq_true, decide_true, decide_false, cond_true, cond_false, Bool.true_and, Bool.false_and, Bool.and_true, Bool.and_false, Bool.true_or, Bool.false_or, Bool.or_true, Bool.or_false, b2i_tt, b2i_ff, pr_eta]; done)), xw_eq rfl rfl rfl rfl rfl rfl rfl⟩, ⟨by rw [ht]; exact hP, va_K.moved hW.alike hK, hD⟩⟩, hS.F ht⟩) hS.2.2 dX7_mix__15
