theorem dX7_setTarget_0 : decode cX7_setTarget 0 = .ok (.aload_n 0, 1) := by decide +kernel
theorem dX7_setTarget_1 : decode cX7_setTarget 1 = .ok (.iload_n 1, 1) := by decide +kernel
theorem dX7_setTarget_2 : decode cX7_setTarget 2 = .ok (.invokevirtual 85, 3) := by decide +kernel
theorem dX7_setTarget_5 : decode cX7_setTarget 5 = .ok (.aload_n 0, 1) := by decide +kernel
theorem dX7_setTarget_6 : decode cX7_setTarget 6 = .ok (.getfield 10, 3) := by decide +kernel
theorem dX7_setTarget_9 : decode cX7_setTarget 9 = .ok (.getfield 92, 3) := by decide +kernel
theorem dX7_setTarget_12 : decode cX7_setTarget 12 = .ok (.iload_n 1, 1) := by decide +kernel
theorem dX7_setTarget_13 : decode cX7_setTarget 13 = .ok (.invokestatic 96, 3) := by decide +kernel
theorem dX7_setTarget_16 : decode cX7_setTarget 16 = .ok (.invokestatic 64, 3) := by decide +kernel
theorem dX7_setTarget_19 : decode cX7_setTarget 19 = .ok (.ifCond .ne 13, 3) := by decide +kernel
theorem dX7_setTarget_32 : decode cX7_setTarget 32 = .ok (.iload_n 2, 1) := by decide +kernel
theorem dX7_setTarget_33 : decode cX7_setTarget 33 = .ok (.invokestatic 68, 3) := by decide +kernel
theorem dX7_setTarget_36 : decode cX7_setTarget 36 = .ok (.ifCond .ne 13, 3) := by decide +kernel
theorem dX7_setTarget_49 : decode cX7_setTarget 49 = .ok (.aload_n 0, 1) := by decide +kernel
theorem dX7_setTarget_50 : decode cX7_setTarget 50 = .ok (.getfield 10, 3) := by decide +kernel
theorem dX7_setTarget_53 : decode cX7_setTarget 53 = .ok (.getfield 102, 3) := by decide +kernel
theorem dX7_setTarget_56 : decode cX7_setTarget 56 = .ok (.iload_n 1, 1) := by decide +kernel
theorem dX7_setTarget_57 : decode cX7_setTarget 57 = .ok (.invokestatic 96, 3) := by decide +kernel
theorem dX7_setTarget_60 : decode cX7_setTarget 60 = .ok (.istore_n 3, 1) := by decide +kernel
theorem dX7_setTarget_61 : decode cX7_setTarget 61 = .ok (.aload_n 0, 1) := by decide +kernel
theorem dX7_setTarget_62 : decode cX7_setTarget 62 = .ok (.getfield 10, 3) := by decide +kernel
theorem dX7_setTarget_65 : decode cX7_setTarget 65 = .ok (.getfield 102, 3) := by decide +kernel
theorem dX7_setTarget_68 : decode cX7_setTarget 68 = .ok (.iload_n 1, 1) := by decide +kernel
theorem dX7_setTarget_69 : decode cX7_setTarget 69 = .ok (.iload_n 2, 1) := by decide +kernel
theorem dX7_setTarget_70 : decode cX7_setTarget 70 = .ok (.invokestatic 105, 3) := by decide +kernel
theorem dX7_setTarget_73 : decode cX7_setTarget 73 = .ok (.aload_n 0, 1) := by decide +kernel
theorem dX7_setTarget_74 : decode cX7_setTarget 74 = .ok (.invokevirtual 82, 3) := by decide +kernel
theorem dX7_setTarget_77 : decode cX7_setTarget 77 = .ok (.iload_n 3, 1) := by decide +kernel
theorem dX7_setTarget_78 : decode cX7_setTarget 78 = .ok (.ireturn, 1) := by decide +kernel
theorem mw_465 : Cond.methodLink RX7 105 yX7_put ∈ GW := gw_mem (inT4 _ (List.mem_of_getElem? (i := 93) rfl)) rfl
set_option maxHeartbeats 4000000 in
set_option maxRecDepth 100000 in
theorem c_setTarget (l : Launch) (D : va_G) (cI cJ : ClassId) (ad : Nat → Nat) (co fl ra li re wa pi : Ob) (k1 : Int32) (k2 : Int32) (k0 : ¬ k1 < 0) (k1h : k1 < gi co 0) (hj : jmp (rd (gA co 0) 40 k1) = true) (ht : isT k2 = true) : CT l D (TY cI cJ) yX7_setTarget (.code yX7_setTarget cX7_setTarget 4 (some Jvm.ClassFile.FieldType.int)) 2 0 0 (XW ad cI cJ co fl ra li re wa pi) [.ref (ad 0), .int k1, .int k2] (QI D (TY cI cJ) (fun r u => r = (rd (gA co 1) 40 k1) ∧ u = (XW ad cI cJ (sA co 1 (wr (gA co 1) 40 k1 k2)) (si fl 2 0) (si ra 2 0) (si li 1 0) (si re 1 0) wa (si pi 3 0)))) := by
  refine ent (by decide) (Nat.le_of_ble_eq_true rfl) ?_
  intro p e s m below meth c ls A hx hb hr hg hown hml hlocks hnm hP hK hD hS hA hN hl
  have hl : lv_has ls 4 [(0, .ref (ad 0)), (1, .int k1), (2, .int k2)] := hl
  refine lv_aload_n hx hb dX7_setTarget_0 rfl (lv_at hl 0 rfl) ?_
  refine lv_iload_n hx hb dX7_setTarget_1 rfl (lv_at hl 1 rfl) ?_
  refine kV (rV (q0 := 0) (ci := 7) hx hb hml hown hg hN hK hP hD (c_needI l D cI cJ ad co fl ra li re wa pi k1 k0 k1h) mw_457 mw_458 mw_459 mw_460 mw_77 pdv_X7_needInstruction ⟨Nat.le_of_ble_eq_true rfl, Nat.le_of_ble_eq_true rfl⟩ rfl xo0 rfl hl.1 rfl (Nat.le_of_ble_eq_true rfl) dX7_setTarget_2 ⟨Nat.le_of_ble_eq_true rfl, Nat.le_of_ble_eq_true rfl⟩) hD hS hA (fun u_1 H locs hp hP hD hS => ?_)
  obtain rfl := hp.symm
  refine lv_aload_n hx hb dX7_setTarget_5 rfl (lv_at hl 0 rfl) ?_
  refine va_get (D := D) (ci := 7) (v := .ref (ad 1)) (C := RX7) (T := TX7) (N := 6) hx hb hg inGX7 hown hK hP 0 xo0 rfl 0 (by decide) (hg _ mw_323) (fun _ h9 => h9) xvX7_0 dX7_setTarget_6 ?_
  refine va_getN (D := D) (ci := 0) (v := .ref (ad 8)) (C := RX0) (T := TX0) (N := 5) hx hb hg inGX0 hown hK hP 1 xo1 rfl 0 (by decide) (hN.use nw_2) (fun _ h9 => h9) xvX0_0 dX7_setTarget_9 ?_
  refine lv_iload_n hx hb dX7_setTarget_12 rfl (lv_at hl 1 rfl) ?_
  refine kI (rS hx hb hml hown hg hN hK hP hD (c_at l D cI cJ (XW ad cI cJ co fl ra li re wa pi) 8 (ad 8) 40 (gA co 0) k1 (xg8 rfl) (by decide)) mw_84 mw_374 mw_85 mw_77 pd_X7_at ⟨Nat.le_of_ble_eq_true rfl, Nat.le_of_ble_eq_true rfl⟩ rfl hl.1 rfl (Nat.le_of_ble_eq_true rfl) dX7_setTarget_13 ⟨Nat.le_of_ble_eq_true rfl, Nat.le_of_ble_eq_true rfl⟩) hD hS hA (fun r_2 u_2 H locs hp hP hD hS => ?_)
  obtain ⟨er, eu⟩ := hp
  obtain rfl := er.symm
  obtain rfl := eu.symm
  refine kI (rS hx hb hml hown hg hN hK hP hD (c_jumps l D cI cJ (XW ad cI cJ co fl ra li re wa pi) (rd (gA co 0) 40 k1)) mw_86 mw_445 mw_87 mw_77 pd_X7_jumps ⟨Nat.le_of_ble_eq_true rfl, Nat.le_of_ble_eq_true rfl⟩ rfl hl.1 rfl (Nat.le_of_ble_eq_true rfl) dX7_setTarget_16 ⟨Nat.le_of_ble_eq_true rfl, Nat.le_of_ble_eq_true rfl⟩) hD hS hA (fun r_3 u_3 H locs hp hP hD hS => ?_)
  obtain ⟨er, eu⟩ := hp
  obtain rfl := er.symm
  obtain rfl := eu.symm
  refine lv_if_ne (tgt := 32) hx hb dX7_setTarget_19 (by decide) (fun _ => ?_) (fun c_19 => absurd c_19 (b2i_t hj))
  refine lv_iload_n hx hb dX7_setTarget_32 rfl (lv_at hl 2 rfl) ?_
  refine kI (rS hx hb hml hown hg hN hK hP hD (c_isTarget l D cI cJ (XW ad cI cJ co fl ra li re wa pi) k2) mw_454 mw_455 mw_456 mw_77 pd_X7_isTarget ⟨Nat.le_of_ble_eq_true rfl, Nat.le_of_ble_eq_true rfl⟩ rfl hl.1 rfl (Nat.le_of_ble_eq_true rfl) dX7_setTarget_33 ⟨Nat.le_of_ble_eq_true rfl, Nat.le_of_ble_eq_true rfl⟩) hD hS hA (fun r_4 u_4 H locs hp hP hD hS => ?_)
  obtain ⟨er, eu⟩ := hp
  obtain rfl := er.symm
  obtain rfl := eu.symm
  refine lv_if_ne (tgt := 49) hx hb dX7_setTarget_36 (by decide) (fun _ => ?_) (fun c_36 => absurd c_36 (b2i_t ht))
  refine lv_aload_n hx hb dX7_setTarget_49 rfl (lv_at hl 0 rfl) ?_
  refine va_get (D := D) (ci := 7) (v := .ref (ad 1)) (C := RX7) (T := TX7) (N := 6) hx hb hg inGX7 hown hK hP 0 xo0 rfl 0 (by decide) (hg _ mw_323) (fun _ h9 => h9) xvX7_0 dX7_setTarget_50 ?_
  refine va_getN (D := D) (ci := 0) (v := .ref (ad 9)) (C := RX0) (T := TX0) (N := 5) hx hb hg inGX0 hown hK hP 1 xo1 rfl 1 (by decide) (hN.use nw_4) (fun _ h9 => h9) xvX0_1 dX7_setTarget_53 ?_
  refine lv_iload_n hx hb dX7_setTarget_56 rfl (lv_at hl 1 rfl) ?_
  refine kI (rS hx hb hml hown hg hN hK hP hD (c_at l D cI cJ (XW ad cI cJ co fl ra li re wa pi) 9 (ad 9) 40 (gA co 1) k1 (xg9 rfl) (by decide)) mw_84 mw_374 mw_85 mw_77 pd_X7_at ⟨Nat.le_of_ble_eq_true rfl, Nat.le_of_ble_eq_true rfl⟩ rfl hl.1 rfl (Nat.le_of_ble_eq_true rfl) dX7_setTarget_57 ⟨Nat.le_of_ble_eq_true rfl, Nat.le_of_ble_eq_true rfl⟩) hD hS hA (fun r_5 u_5 H locs hp hP hD hS => ?_)
  obtain ⟨er, eu⟩ := hp
  obtain rfl := er.symm
  obtain rfl := eu.symm
  refine lv_istore_n (lv' := [(3, .int (rd (gA co 1) 40 k1)), (0, .ref (ad 0)), (1, .int k1), (2, .int k2)]) hx hb dX7_setTarget_60 rfl hl (by decide) rfl (fun ls hl => ?_)
  refine lv_aload_n hx hb dX7_setTarget_61 rfl (lv_at hl 1 rfl) ?_
  refine va_get (D := D) (ci := 7) (v := .ref (ad 1)) (C := RX7) (T := TX7) (N := 6) hx hb hg inGX7 hown hK hP 0 xo0 rfl 0 (by decide) (hg _ mw_323) (fun _ h9 => h9) xvX7_0 dX7_setTarget_62 ?_
  refine va_getN (D := D) (ci := 0) (v := .ref (ad 9)) (C := RX0) (T := TX0) (N := 5) hx hb hg inGX0 hown hK hP 1 xo1 rfl 1 (by decide) (hN.use nw_4) (fun _ h9 => h9) xvX0_1 dX7_setTarget_65 ?_
  refine lv_iload_n hx hb dX7_setTarget_68 rfl (lv_at hl 2 rfl) ?_
  refine lv_iload_n hx hb dX7_setTarget_69 rfl (lv_at hl 3 rfl) ?_
  refine kV (rS hx hb hml hown hg hN hK hP hD (c_put l D cI cJ (XW ad cI cJ co fl ra li re wa pi) 9 (ad 9) 40 (gA co 1) k1 k2 (xg9 rfl) (by decide)) mw_92 mw_465 mw_93 mw_77 pd_X7_put ⟨Nat.le_of_ble_eq_true rfl, Nat.le_of_ble_eq_true rfl⟩ rfl hl.1 rfl (Nat.le_of_ble_eq_true rfl) dX7_setTarget_70 ⟨Nat.le_of_ble_eq_true rfl, Nat.le_of_ble_eq_true rfl⟩) hD hS hA (fun u_6 H locs hp hP hD hS => ?_)
  obtain rfl := hp.symm
  have hP : va_P D vwCl (XW ad cI cJ (sA co 1 (wr (gA co 1) 40 k1 k2)) fl ra li re wa pi) H := cgP xs9 hP
  have hD : va_D A (XW ad cI cJ (sA co 1 (wr (gA co 1) 40 k1 k2)) fl ra li re wa pi) := cgD xs9 hD
  refine lv_aload_n hx hb dX7_setTarget_73 rfl (lv_at hl 1 rfl) ?_
  refine kV (rV (q0 := 0) (ci := 7) hx hb hml hown hg hN hK hP hD (c_forget l D cI cJ ad (sA co 1 (wr (gA co 1) 40 k1 k2)) fl ra li re wa pi) mw_450 mw_451 mw_452 mw_453 mw_77 pdv_X7_forget ⟨Nat.le_of_ble_eq_true rfl, Nat.le_of_ble_eq_true rfl⟩ rfl xo0 rfl hl.1 rfl (Nat.le_of_ble_eq_true rfl) dX7_setTarget_74 ⟨Nat.le_of_ble_eq_true rfl, Nat.le_of_ble_eq_true rfl⟩) hD hS hA (fun u_7 H locs hp hP hD hS => ?_)
  obtain rfl := hp.symm
  have hP : va_P D vwCl (XW ad cI cJ (sA co 1 (wr (gA co 1) 40 k1 k2)) (si fl 2 0) (si ra 2 0) (si li 1 0) (si re 1 0) wa (si pi 3 0)) H := hP
  have hD : va_D A (XW ad cI cJ (sA co 1 (wr (gA co 1) 40 k1 k2)) (si fl 2 0) (si ra 2 0) (si li 1 0) (si re 1 0) wa (si pi 3 0)) := hD
  refine lv_iload_n hx hb dX7_setTarget_77 rfl (lv_at hl 0 rfl) ?_
  exact W.iret (v := (rd (gA co 1) 40 k1)) hx hb hr (fun t ht hW => ⟨⟨(rd (gA co 1) 40 k1), (XW ad cI cJ (sA co 1 (wr (gA co 1) 40 k1 k2)) (si fl 2 0) (si ra 2 0) (si li 1 0) (si re 1 0) wa (si pi 3 0)), rfl, ⟨rfl, xw_eq (show (sA co 1 (wr (gA co 1) 40 k1 k2)) = (sA co 1 (wr (gA co 1) 40 k1 k2)) from (by first | with_reducible rfl | (simp only [gi_sl, gi_sA, gi_sB, gi_si_s, gi_si_n, gl_si, gl_sA, gl_sB, gl_sl_s, gl_sl_n, gA_si, gA_sl, gA_sB, gA_sA_s, gA_sA_n, gB_si, gB_sl, gB_sA, gB_sB_s, gB_sB_n, Nat.reduceBEq, if_true, if_false, eq_self, Bool.false_eq_true, Bool.true_eq_false, not_true_eq_false, not_false_eq_true, decide_true, decide_false, cond_true, cond_false, Bool.true_and, Bool.false_and, Bool.and_true, Bool.and_false, Bool.true_or, Bool.false_or, Bool.or_true, Bool.or_false, b2i_tt, b2i_ff, pr_eta]; done))) (show (si fl 2 0) = (si fl 2 0) from (by first | with_reducible rfl | (simp only [gi_sl, gi_sA, gi_sB, gi_si_s, gi_si_n, gl_si, gl_sA, gl_sB, gl_sl_s, gl_sl_n, gA_si, gA_sl, gA_sB, gA_sA_s, gA_sA_n, gB_si, gB_sl, gB_sA, gB_sB_s, gB_sB_n, Nat.reduceBEq, if_true, if_false, eq_self, Bool.false_eq_true, Bool.true_eq_false, not_true_eq_false, not_false_eq_true, decide_true, decide_false, cond_true, cond_false, Bool.true_and, Bool.false_and, Bool.and_true, Bool.and_false, Bool.true_or, Bool.false_or, Bool.or_true, Bool.or_false, b2i_tt, b2i_ff, pr_eta]; done))) (show (si ra 2 0) = (si ra 2 0) from (by first | with_reducible rfl | (simp only [gi_sl, gi_sA, gi_sB, gi_si_s, gi_si_n, gl_si, gl_sA, gl_sB, gl_sl_s, gl_sl_n, gA_si, gA_sl, gA_sB, gA_sA_s, gA_sA_n, gB_si, gB_sl, gB_sA, gB_sB_s, gB_sB_n, Nat.reduceBEq, if_true, if_false, eq_self, Bool.false_eq_true, Bool.true_eq_false, not_true_eq_false, not_false_eq_true, decide_true, decide_false, cond_true, cond_false, Bool.true_and, Bool.false_and, Bool.and_true, Bool.and_false, Bool.true_or, Bool.false_or, Bool.or_true, Bool.or_false, b2i_tt, b2i_ff, pr_eta]; done))) (show (si li 1 0) = (si li 1 0) from (by first | with_reducible rfl | (simp only [gi_sl, gi_sA, gi_sB, gi_si_s, gi_si_n, gl_si, gl_sA, gl_sB, gl_sl_s, gl_sl_n, gA_si, gA_sl, gA_sB, gA_sA_s, gA_sA_n, gB_si, gB_sl, gB_sA, gB_sB_s, gB_sB_n, Nat.reduceBEq, if_true, if_false, eq_self, Bool.false_eq_true, Bool.true_eq_false, not_true_eq_false, not_false_eq_true, decide_true, decide_false, cond_true, cond_false, Bool.true_and, Bool.false_and, Bool.and_true, Bool.and_false, Bool.true_or, Bool.false_or, Bool.or_true, Bool.or_false, b2i_tt, b2i_ff, pr_eta]; done))) (show (si re 1 0) = (si re 1 0) from (by first | with_reducible rfl | (simp only [gi_sl, gi_sA, gi_sB, gi_si_s, gi_si_n, gl_si, gl_sA, gl_sB, gl_sl_s, gl_sl_n, gA_si, gA_sl, gA_sB, gA_sA_s, gA_sA_n, gB_si, gB_sl, gB_sA, gB_sB_s, gB_sB_n, Nat.reduceBEq, if_true, if_false, eq_self, Bool.false_eq_true, Bool.true_eq_false, not_true_eq_false, not_false_eq_true, decide_true, decide_false, cond_true, cond_false, Bool.true_and, Bool.false_and, Bool.and_true, Bool.and_false, Bool.true_or, Bool.false_or, Bool.or_true, Bool.or_false, b2i_tt, b2i_ff, pr_eta]; done))) rfl (show (si pi 3 0) = (si pi 3 0) from (by first | with_reducible rfl | (simp only [gi_sl, gi_sA, gi_sB, gi_si_s, gi_si_n, gl_si, gl_sA, gl_sB, gl_sl_s, gl_sl_n, gA_si, gA_sl, gA_sB, gA_sA_s, gA_sA_n, gB_si, gB_sl, gB_sA, gB_sB_s, gB_sB_n, Nat.reduceBEq, if_true, if_false, eq_self, Bool.false_eq_true, Bool.true_eq_false, not_true_eq_false, not_false_eq_true, decide_true, decide_false, cond_true, cond_false, Bool.true_and, Bool.false_and, Bool.and_true, Bool.and_false, Bool.true_or, Bool.false_or, Bool.or_true, Bool.or_false, b2i_tt, b2i_ff, pr_eta]; done)))⟩, ⟨by rw [ht]; exact hP, va_K.moved hW.alike hK, hD⟩⟩, hS.F ht⟩) hS.2.2 dX7_setTarget_78
