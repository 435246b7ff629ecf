theorem dX7_crossings_0 : decode cX7_crossings 0 = .ok (.aload_n 0, 1) := by decide +kernel
theorem dX7_crossings_1 : decode cX7_crossings 1 = .ok (.invokevirtual 234, 3) := by decide +kernel
theorem dX7_crossings_4 : decode cX7_crossings 4 = .ok (.invokevirtual 277, 3) := by decide +kernel
theorem dX7_crossings_7 : decode cX7_crossings 7 = .ok (.ireturn, 1) := by decide +kernel
set_option maxHeartbeats 4000000 in
set_option maxRecDepth 100000 in
theorem a_crossings (l : Launch) (D : va_G) (cI cJ : ClassId) (ad : Nat → Nat) (co fl ra li re wa pi : Ob) (zp : ¬ gi pi 3 = 0) : CT l D (TY cI cJ) yX7_crossings (.code yX7_crossings cX7_crossings 1 (some Jvm.ClassFile.FieldType.int)) 7 0 0 (XW ad cI cJ co fl ra li re wa pi) [.ref (ad 0)] (QI D (TY cI cJ) (fun r u => r = (countCross wa pi).2 ∧ u = (XW ad cI cJ co fl ra li re wa (countCross wa pi).1))) := by
  refine ent (by decide) (Nat.le_of_ble_eq_true rfl) ?_
  intro p e s m below meth c ls A hx hb hr hg hown hml hlocks hnm hP hK hD hS hA hN hl
  have hl : lv_has ls 1 [(0, .ref (ad 0))] := hl
  refine lv_aload_n hx hb dX7_crossings_0 rfl (lv_at hl 0 rfl) ?_
  refine kR (rV (q0 := 0) (ci := 7) hx hb hml hown hg hN hK hP hD (c_freshPic1 l D cI cJ ad co fl ra li re wa pi zp) mw_367 mw_368 mw_369 mw_370 mw_77 pdv_X7_freshPicture ⟨Nat.le_of_ble_eq_true rfl, Nat.le_of_ble_eq_true rfl⟩ rfl xo0 rfl hl.1 rfl (Nat.le_of_ble_eq_true rfl) dX7_crossings_1 ⟨Nat.le_of_ble_eq_true rfl, Nat.le_of_ble_eq_true rfl⟩) hD hS hA (fun r_1 u_1 H locs hp hP hD hS => ?_)
  obtain ⟨er, eu⟩ := hp
  obtain rfl := er.symm
  obtain rfl := eu.symm
  refine kI (rV (q0 := 6) (ci := 3) hx hb hml hown hg hN hK hP hD (c_countCross l D cI cJ ad co fl ra li re wa pi) mw_317 mw_442 mw_319 mw_320 mw_234 pdv_X3_countCrossings ⟨Nat.le_of_ble_eq_true rfl, Nat.le_of_ble_eq_true rfl⟩ rfl xo6 rfl hl.1 rfl (Nat.le_of_ble_eq_true rfl) dX7_crossings_4 ⟨Nat.le_of_ble_eq_true rfl, Nat.le_of_ble_eq_true rfl⟩) hD hS hA (fun r_2 u_2 H locs hp hP hD hS => ?_)
  obtain ⟨er, eu⟩ := hp
  obtain rfl := er.symm
  obtain rfl := eu.symm
  have hP : va_P D vwCl (XW ad cI cJ co fl ra li re wa (countCross wa pi).1) H := hP
  have hD : va_D A (XW ad cI cJ co fl ra li re wa (countCross wa pi).1) := hD
  exact W.iret (v := (countCross wa pi).2) hx hb hr (fun t ht hW => ⟨⟨(countCross wa pi).2, (XW ad cI cJ co fl ra li re wa (countCross wa pi).1), rfl, ⟨rfl, xw_eq rfl rfl rfl rfl rfl rfl (show (countCross wa pi).1 = (countCross wa pi).1 from (by first | with_reducible rfl | (simp only [gi_sl, gi_sA, gi_sB, gi_si_s, gi_si_n, gl_si, gl_sA, gl_sB, gl_sl_s, gl_sl_n, gA_si, gA_sl, gA_sB, gA_sA_s, gA_sA_n, gB_si, gB_sl, gB_sA, gB_sB_s, gB_sB_n, Nat.reduceBEq, if_true, if_false, eq_self, Bool.false_eq_true, Bool.true_eq_false, not_true_eq_false, not_false_eq_true, decide_true, decide_false, cond_true, cond_false, Bool.true_and, Bool.false_and, Bool.and_true, Bool.and_false, Bool.true_or, Bool.false_or, Bool.or_true, Bool.or_false, b2i_tt, b2i_ff, pr_eta]; done)))⟩, ⟨by rw [ht]; exact hP, va_K.moved hW.alike hK, hD⟩⟩, hS.F ht⟩) hS.2.2 dX7_crossings_7
