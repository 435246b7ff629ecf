theorem dX7_sweep_0 : decode cX7_sweep 0 = .ok (.iload_n 1, 1) := by decide +kernel
theorem dX7_sweep_1 : decode cX7_sweep 1 = .ok (.invokestatic 280, 3) := by decide +kernel
theorem dX7_sweep_4 : decode cX7_sweep 4 = .ok (.aload_n 0, 1) := by decide +kernel
theorem dX7_sweep_5 : decode cX7_sweep 5 = .ok (.invokevirtual 234, 3) := by decide +kernel
theorem dX7_sweep_8 : decode cX7_sweep 8 = .ok (.iload_n 1, 1) := by decide +kernel
theorem dX7_sweep_9 : decode cX7_sweep 9 = .ok (.invokevirtual 283, 3) := by decide +kernel
theorem dX7_sweep_12 : decode cX7_sweep 12 = .ok (.aload_n 0, 1) := by decide +kernel
theorem dX7_sweep_13 : decode cX7_sweep 13 = .ok (.invokevirtual 234, 3) := by decide +kernel
theorem dX7_sweep_16 : decode cX7_sweep 16 = .ok (.invokevirtual 277, 3) := by decide +kernel
theorem dX7_sweep_19 : decode cX7_sweep 19 = .ok (.ireturn, 1) := by decide +kernel
theorem mw_475 : Cond.methodLink RX7 283 yX3_sweepOften ∈ GW := gw_mem (inT4 _ (List.mem_of_getElem? (i := 135) rfl)) rfl
theorem k_swp3 (wa pi : Ob) (many : Int32) : gi (sweepOften wa pi many) 3 = gi pi 3 := lp_inv (fun q : Ob => gi q 3) (fun i s => by
  show gi (si (soAll wa s) 2 _) 3 = gi s 3
  simp only [gi_sl, gi_sA, gi_sB, gi_si_s, gi_si_n, Nat.reduceBEq]
  exact k_soL _ _ _ _ 3) (nN many) pi
set_option maxHeartbeats 4000000 in
set_option maxRecDepth 100000 in
theorem a_sweep (l : Launch) (D : va_G) (cI cJ : ClassId) (ad : Nat → Nat) (co fl ra li re wa pi : Ob) (k1 : Int32) (zp : ¬ gi pi 3 = 0) (s0 : ¬ k1 < 1) (s1 : ¬ 20 < k1) : CT l D (TY cI cJ) yX7_sweep (.code yX7_sweep cX7_sweep 2 (some Jvm.ClassFile.FieldType.int)) 7 0 0 (XW ad cI cJ co fl ra li re wa pi) [.ref (ad 0), .int k1] (QI D (TY cI cJ) (fun r u => r = (countCross wa (sweepOften wa pi k1)).2 ∧ u = (XW ad cI cJ co fl ra li re wa (countCross wa (sweepOften wa pi k1)).1))) := by
  refine ent (by decide) (Nat.le_of_ble_eq_true rfl) ?_
  intro p e s m below meth c ls A hx hb hr hg hown hml hlocks hnm hP hK hD hS hA hN hl
  have hl : lv_has ls 2 [(0, .ref (ad 0)), (1, .int k1)] := hl
  refine lv_iload_n hx hb dX7_sweep_0 rfl (lv_at hl 1 rfl) ?_
  refine kV (rS hx hb hml hown hg hN hK hP hD (c_needS l D cI cJ ad co fl ra li re wa pi k1 s0 s1) mw_468 mw_469 mw_470 mw_77 pd_X7_needSweeps ⟨Nat.le_of_ble_eq_true rfl, Nat.le_of_ble_eq_true rfl⟩ rfl hl.1 rfl (Nat.le_of_ble_eq_true rfl) dX7_sweep_1 ⟨Nat.le_of_ble_eq_true rfl, Nat.le_of_ble_eq_true rfl⟩) hD hS hA (fun u_1 H locs hp hP hD hS => ?_)
  obtain rfl := hp.symm
  refine lv_aload_n hx hb dX7_sweep_4 rfl (lv_at hl 0 rfl) ?_
  refine kR (rV (q0 := 0) (ci := 7) hx hb hml hown hg hN hK hP hD (c_freshPic1 l D cI cJ ad co fl ra li re wa pi zp) mw_367 mw_368 mw_369 mw_370 mw_77 pdv_X7_freshPicture ⟨Nat.le_of_ble_eq_true rfl, Nat.le_of_ble_eq_true rfl⟩ rfl xo0 rfl hl.1 rfl (Nat.le_of_ble_eq_true rfl) dX7_sweep_5 ⟨Nat.le_of_ble_eq_true rfl, Nat.le_of_ble_eq_true rfl⟩) hD hS hA (fun r_2 u_2 H locs hp hP hD hS => ?_)
  obtain ⟨er, eu⟩ := hp
  obtain rfl := er.symm
  obtain rfl := eu.symm
  refine lv_iload_n hx hb dX7_sweep_8 rfl (lv_at hl 1 rfl) ?_
  refine kV (rV (q0 := 6) (ci := 3) hx hb hml hown hg hN hK hP hD (c_sweepOften l D cI cJ ad co fl ra li re wa pi k1) mw_313 mw_475 mw_315 mw_316 mw_234 pdv_X3_sweepOften ⟨Nat.le_of_ble_eq_true rfl, Nat.le_of_ble_eq_true rfl⟩ rfl xo6 rfl hl.1 rfl (Nat.le_of_ble_eq_true rfl) dX7_sweep_9 ⟨Nat.le_of_ble_eq_true rfl, Nat.le_of_ble_eq_true rfl⟩) hD hS hA (fun u_3 H locs hp hP hD hS => ?_)
  obtain rfl := hp.symm
  have hP : va_P D vwCl (XW ad cI cJ co fl ra li re wa (sweepOften wa pi k1)) H := hP
  have hD : va_D A (XW ad cI cJ co fl ra li re wa (sweepOften wa pi k1)) := hD
  refine lv_aload_n hx hb dX7_sweep_12 rfl (lv_at hl 0 rfl) ?_
  refine kR (rV (q0 := 0) (ci := 7) hx hb hml hown hg hN hK hP hD (c_freshPic1 l D cI cJ ad co fl ra li re wa (sweepOften wa pi k1) (by rw [k_swp3]; exact zp)) mw_367 mw_368 mw_369 mw_370 mw_77 pdv_X7_freshPicture ⟨Nat.le_of_ble_eq_true rfl, Nat.le_of_ble_eq_true rfl⟩ rfl xo0 rfl hl.1 rfl (Nat.le_of_ble_eq_true rfl) dX7_sweep_13 ⟨Nat.le_of_ble_eq_true rfl, Nat.le_of_ble_eq_true rfl⟩) hD hS hA (fun r_4 u_4 H locs hp hP hD hS => ?_)
  obtain ⟨er, eu⟩ := hp
  obtain rfl := er.symm
  obtain rfl := eu.symm
  refine kI (rV (q0 := 6) (ci := 3) hx hb hml hown hg hN hK hP hD (c_countCross l D cI cJ ad co fl ra li re wa (sweepOften wa pi k1)) mw_317 mw_442 mw_319 mw_320 mw_234 pdv_X3_countCrossings ⟨Nat.le_of_ble_eq_true rfl, Nat.le_of_ble_eq_true rfl⟩ rfl xo6 rfl hl.1 rfl (Nat.le_of_ble_eq_true rfl) dX7_sweep_16 ⟨Nat.le_of_ble_eq_true rfl, Nat.le_of_ble_eq_true rfl⟩) hD hS hA (fun r_5 u_5 H locs hp hP hD hS => ?_)
  obtain ⟨er, eu⟩ := hp
  obtain rfl := er.symm
  obtain rfl := eu.symm
  have hP : va_P D vwCl (XW ad cI cJ co fl ra li re wa (countCross wa (sweepOften wa pi k1)).1) H := hP
  have hD : va_D A (XW ad cI cJ co fl ra li re wa (countCross wa (sweepOften wa pi k1)).1) := hD
  exact W.iret (v := (countCross wa (sweepOften wa pi k1)).2) hx hb hr (fun t ht hW => ⟨⟨(countCross wa (sweepOften wa pi k1)).2, (XW ad cI cJ co fl ra li re wa (countCross wa (sweepOften wa pi k1)).1), rfl, ⟨rfl, xw_eq rfl rfl rfl rfl rfl rfl (show (countCross wa (sweepOften wa pi k1)).1 = (countCross wa (sweepOften wa pi k1)).1 from (by first | with_reducible rfl | (simp only [gi_sl, gi_sA, gi_sB, gi_si_s, gi_si_n, gl_si, gl_sA, gl_sB, gl_sl_s, gl_sl_n, gA_si, gA_sl, gA_sB, gA_sA_s, gA_sA_n, gB_si, gB_sl, gB_sA, gB_sB_s, gB_sB_n, Nat.reduceBEq, if_true, if_false, eq_self, Bool.false_eq_true, Bool.true_eq_false, not_true_eq_false, not_false_eq_true, decide_true, decide_false, cond_true, cond_false, Bool.true_and, Bool.false_and, Bool.and_true, Bool.and_false, Bool.true_or, Bool.false_or, Bool.or_true, Bool.or_false, b2i_tt, b2i_ff, pr_eta]; done)))⟩, ⟨by rw [ht]; exact hP, va_K.moved hW.alike hK, hD⟩⟩, hS.F ht⟩) hS.2.2 dX7_sweep_19
