theorem dX7_isNeat_0 : decode cX7_isNeat 0 = .ok (.aload_n 0, 1) := by decide +kernel
theorem dX7_isNeat_1 : decode cX7_isNeat 1 = .ok (.invokevirtual 214, 3) := by decide +kernel
theorem dX7_isNeat_4 : decode cX7_isNeat 4 = .ok (.getfield 230, 3) := by decide +kernel
theorem dX7_isNeat_7 : decode cX7_isNeat 7 = .ok (.invokestatic 188, 3) := by decide +kernel
theorem dX7_isNeat_10 : decode cX7_isNeat 10 = .ok (.iconst 1, 1) := by decide +kernel
theorem dX7_isNeat_11 : decode cX7_isNeat 11 = .ok (.if_icmp .ne 7, 3) := by decide +kernel
theorem dX7_isNeat_14 : decode cX7_isNeat 14 = .ok (.iconst 1, 1) := by decide +kernel
theorem dX7_isNeat_15 : decode cX7_isNeat 15 = .ok (.goto 4, 3) := by decide +kernel
theorem dX7_isNeat_18 : decode cX7_isNeat 18 = .ok (.iconst 0, 1) := by decide +kernel
theorem dX7_isNeat_19 : decode cX7_isNeat 19 = .ok (.ireturn, 1) := by decide +kernel
set_option maxHeartbeats 4000000 in
set_option maxRecDepth 100000 in
theorem a_isNeat (l : Launch) (D : va_G) (cI cJ : ClassId) (ad : Nat → Nat) (co fl ra li re wa pi : Ob) (zd : ¬ gi re 1 = 0) : CT l D (TY cI cJ) yX7_isNeat (.code yX7_isNeat cX7_isNeat 1 (some Jvm.ClassFile.FieldType.boolean)) 7 0 0 (XW ad cI cJ co fl ra li re wa pi) [.ref (ad 0)] (QI D (TY cI cJ) (fun r u => r = (b2i (decide (bc (gl re 0) = 1))) ∧ u = (XW ad cI cJ co fl ra li re wa pi))) := by
  refine ent (by decide) (Nat.le_of_ble_eq_true rfl) ?_
  intro p e s m below meth c ls A hx hb hr hg hown hml hlocks hnm hP hK hD hS hA hN hl
  have hl : lv_has ls 1 [(0, .ref (ad 0))] := hl
  refine lv_aload_n hx hb dX7_isNeat_0 rfl (lv_at hl 0 rfl) ?_
  refine kR (rV (q0 := 0) (ci := 7) hx hb hml hown hg hN hK hP hD (c_freshRed1 l D cI cJ ad co fl ra li re wa pi zd) mw_413 mw_414 mw_415 mw_416 mw_77 pdv_X7_freshReduction ⟨Nat.le_of_ble_eq_true rfl, Nat.le_of_ble_eq_true rfl⟩ rfl xo0 rfl hl.1 rfl (Nat.le_of_ble_eq_true rfl) dX7_isNeat_1 ⟨Nat.le_of_ble_eq_true rfl, Nat.le_of_ble_eq_true rfl⟩) hD hS hA (fun r_1 u_1 H locs hp hP hD hS => ?_)
  obtain ⟨er, eu⟩ := hp
  obtain rfl := er.symm
  obtain rfl := eu.symm
  refine va_getN (D := D) (ci := 5) (v := .long (gl re 0)) (C := RX5) (T := TX5) (N := 8) hx hb hg inGX5 hown hK hP 5 xo5 rfl 5 (by decide) (hN.use nw_50) (fun _ h9 => h9) (xvX5_5 rfl) dX7_isNeat_4 ?_
  refine kI (rS hx hb hml hown hg hN hK hP hD (c_bitCount l D cI cJ (XW ad cI cJ co fl ra li re wa pi) (gl re 0)) mw_68 mw_69 mw_70 mw_71 pd_J13_bitCount_95d88 ⟨Nat.le_of_ble_eq_true rfl, Nat.le_of_ble_eq_true rfl⟩ rfl hl.1 rfl (Nat.le_of_ble_eq_true rfl) dX7_isNeat_7 ⟨Nat.le_of_ble_eq_true rfl, Nat.le_of_ble_eq_true rfl⟩) hD hS hA (fun r_2 u_2 H locs hp hP hD hS => ?_)
  obtain ⟨er, eu⟩ := hp
  obtain rfl := er.symm
  obtain rfl := eu.symm
  refine lv_iconst (v := 1) hx hb dX7_isNeat_10 (by decide) ?_
  refine lv_icmp_ne (tgt := 18) hx hb dX7_isNeat_11 (by decide) (fun c_11 => ?_) (fun c_11 => ?_)
  · refine lv_iconst (v := 0) hx hb dX7_isNeat_18 (by decide) ?_
    exact W.zret (v := 0) hx hb hr rfl (fun t ht hW => ⟨⟨0, (XW ad cI cJ co fl ra li re wa pi), rfl, ⟨(show (0 : Int32) = (b2i (decide (bc (gl re 0) = 1))) from (by simp only [eq_false c_11, gi_sl, gi_sA, gi_sB, gi_si_s, gi_si_n, gl_si, gl_sA, gl_sB, gl_sl_s, gl_sl_n, gA_si, gA_sl, gA_sB, gA_sA_s, gA_sA_n, gB_si, gB_sl, gB_sA, gB_sB_s, gB_sB_n, Nat.reduceBEq, if_true, if_false, eq_self, Bool.false_eq_true, Bool.true_eq_false, not_true_eq_false, not_false_eq_true, decide_true, decide_false, cond_true, cond_false, Bool.true_and, Bool.false_and, Bool.and_true, Bool.and_false, Bool.true_or, Bool.false_or, Bool.or_true, Bool.or_false, b2i_tt, b2i_ff, pr_eta]; done)), xw_eq rfl rfl rfl rfl rfl rfl rfl⟩, ⟨by rw [ht]; exact hP, va_K.moved hW.alike hK, hD⟩⟩, hS.F ht⟩) hS.2.2 dX7_isNeat_19
  · refine lv_iconst (v := 1) hx hb dX7_isNeat_14 (by decide) ?_
    refine lv_goto (tgt := 19) hx hb dX7_isNeat_15 (by decide) ?_
    exact W.zret (v := 1) hx hb hr rfl (fun t ht hW => ⟨⟨1, (XW ad cI cJ co fl ra li re wa pi), rfl, ⟨(show (1 : Int32) = (b2i (decide (bc (gl re 0) = 1))) from (by simp only [eq_true c_11, gi_sl, gi_sA, gi_sB, gi_si_s, gi_si_n, gl_si, gl_sA, gl_sB, gl_sl_s, gl_sl_n, gA_si, gA_sl, gA_sB, gA_sA_s, gA_sA_n, gB_si, gB_sl, gB_sA, gB_sB_s, gB_sB_n, Nat.reduceBEq, if_true, if_false, eq_self, Bool.false_eq_true, Bool.true_eq_false, not_true_eq_false, not_false_eq_true, decide_true, decide_false, cond_true, cond_false, Bool.true_and, Bool.false_and, Bool.and_true, Bool.and_false, Bool.true_or, Bool.false_or, Bool.or_true, Bool.or_false, b2i_tt, b2i_ff, pr_eta]; done)), xw_eq rfl rfl rfl rfl rfl rfl rfl⟩, ⟨by rw [ht]; exact hP, va_K.moved hW.alike hK, hD⟩⟩, hS.F ht⟩) hS.2.2 dX7_isNeat_19
