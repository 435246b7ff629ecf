theorem dX6_draws_0 : decode cX6_draws 0 = .ok (.aload_n 0, 1) := by decide +kernel
theorem dX6_draws_1 : decode cX6_draws 1 = .ok (.getfield 15, 3) := by decide +kernel
theorem dX6_draws_4 : decode cX6_draws 4 = .ok (.iload_n 1, 1) := by decide +kernel
theorem dX6_draws_5 : decode cX6_draws 5 = .ok (.invokestatic 54, 3) := by decide +kernel
theorem dX6_draws_8 : decode cX6_draws 8 = .ok (.ifCond .lt 7, 3) := by decide +kernel
theorem dX6_draws_11 : decode cX6_draws 11 = .ok (.iconst 1, 1) := by decide +kernel
theorem dX6_draws_12 : decode cX6_draws 12 = .ok (.goto 4, 3) := by decide +kernel
theorem dX6_draws_15 : decode cX6_draws 15 = .ok (.iconst 0, 1) := by decide +kernel
theorem dX6_draws_16 : decode cX6_draws 16 = .ok (.ireturn, 1) := by decide +kernel
theorem mw_203 : Cond.fieldLink RX6 15 "OrielChart$Walk" "upper" "[I" ∈ GW := gw_mem (inT1 _ (List.mem_of_getElem? (i := 222) rfl)) rfl
set_option maxHeartbeats 4000000 in
set_option maxRecDepth 100000 in
theorem c_draws (l : Launch) (D : va_G) (cI cJ : ClassId) (ad : Nat → Nat) (co fl ra li re wa pi : Ob) (k1 : Int32) : CT l D (TY cI cJ) yX6_draws (.code yX6_draws cX6_draws 2 (some Jvm.ClassFile.FieldType.boolean)) 1 0 0 (XW ad cI cJ co fl ra li re wa pi) [.ref (ad 7), .int k1] (QI D (TY cI cJ) (fun r u => r = (b2i (draws wa k1)) ∧ u = (XW ad cI cJ co fl ra li re wa pi))) := by
  refine ent (by decide) (Nat.le_of_ble_eq_true rfl) ?_
  intro p e s m below meth c ls A hx hb hr hg hown hml hlocks hnm hP hK hD hS hA hN hl
  have hl : lv_has ls 2 [(0, .ref (ad 7)), (1, .int k1)] := hl
  refine lv_aload_n hx hb dX6_draws_0 rfl (lv_at hl 0 rfl) ?_
  refine va_get (D := D) (ci := 6) (v := .ref (ad 30)) (C := RX6) (T := TX6) (N := 9) hx hb hg inGX6 hown hK hP 7 xo7 rfl 1 (by decide) (hg _ mw_203) (fun _ h9 => h9) xvX6_1 dX6_draws_1 ?_
  refine lv_iload_n hx hb dX6_draws_4 rfl (lv_at hl 1 rfl) ?_
  refine kI (rSN hx hb hml hown hg hN hK hP hD (c_at l D cI cJ (XW ad cI cJ co fl ra li re wa pi) 30 (ad 30) 80 (gA wa 1) k1 (xg30 rfl) (by decide)) mw_84 nw_91 mw_85 mw_77 pd_X7_at ⟨Nat.le_of_ble_eq_true rfl, Nat.le_of_ble_eq_true rfl⟩ rfl hl.1 rfl (Nat.le_of_ble_eq_true rfl) dX6_draws_5 ⟨Nat.le_of_ble_eq_true rfl, Nat.le_of_ble_eq_true rfl⟩) hD hS hA (fun r_1 u_1 H locs hp hP hD hS => ?_)
  obtain ⟨er, eu⟩ := hp
  obtain rfl := er.symm
  obtain rfl := eu.symm
  refine lv_if_lt (tgt := 15) hx hb dX6_draws_8 (by decide) (fun c_8 => ?_) (fun c_8 => ?_)
  · refine lv_iconst (v := 0) hx hb dX6_draws_15 (by decide) ?_
    exact W.zret (v := 0) hx hb hr rfl (fun t ht hW => ⟨⟨0, (XW ad cI cJ co fl ra li re wa pi), rfl, ⟨(show (0 : Int32) = (b2i (draws wa k1)) from (by simp only [draws, eq_true c_8, gi_sl, gi_sA, gi_sB, gi_si_s, gi_si_n, gl_si, gl_sA, gl_sB, gl_sl_s, gl_sl_n, gA_si, gA_sl, gA_sB, gA_sA_s, gA_sA_n, gB_si, gB_sl, gB_sA, gB_sB_s, gB_sB_n, Nat.reduceBEq, if_true, if_false, eq_self, Bool.false_eq_true, Bool.true_eq_false, not_true_eq_false, not_false_eq_true, decide_true, decide_false, cond_true, cond_false, Bool.true_and, Bool.false_and, Bool.and_true, Bool.and_false, Bool.true_or, Bool.false_or, Bool.or_true, Bool.or_false, b2i_tt, b2i_ff, pr_eta]; done)), xw_eq rfl rfl rfl rfl rfl rfl rfl⟩, ⟨by rw [ht]; exact hP, va_K.moved hW.alike hK, hD⟩⟩, hS.F ht⟩) hS.2.2 dX6_draws_16
  · refine lv_iconst (v := 1) hx hb dX6_draws_11 (by decide) ?_
    refine lv_goto (tgt := 16) hx hb dX6_draws_12 (by decide) ?_
    exact W.zret (v := 1) hx hb hr rfl (fun t ht hW => ⟨⟨1, (XW ad cI cJ co fl ra li re wa pi), rfl, ⟨(show (1 : Int32) = (b2i (draws wa k1)) from (by simp only [draws, eq_false c_8, gi_sl, gi_sA, gi_sB, gi_si_s, gi_si_n, gl_si, gl_sA, gl_sB, gl_sl_s, gl_sl_n, gA_si, gA_sl, gA_sB, gA_sA_s, gA_sA_n, gB_si, gB_sl, gB_sA, gB_sB_s, gB_sB_n, Nat.reduceBEq, if_true, if_false, eq_self, Bool.false_eq_true, Bool.true_eq_false, not_true_eq_false, not_false_eq_true, decide_true, decide_false, cond_true, cond_false, Bool.true_and, Bool.false_and, Bool.and_true, Bool.and_false, Bool.true_or, Bool.false_or, Bool.or_true, Bool.or_false, b2i_tt, b2i_ff, pr_eta]; done)), xw_eq rfl rfl rfl rfl rfl rfl rfl⟩, ⟨by rw [ht]; exact hP, va_K.moved hW.alike hK, hD⟩⟩, hS.F ht⟩) hS.2.2 dX6_draws_16
