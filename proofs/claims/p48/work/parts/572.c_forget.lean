theorem dX7_forget_0 : decode cX7_forget 0 = .ok (.aload_n 0, 1) := by decide +kernel
theorem dX7_forget_1 : decode cX7_forget 1 = .ok (.getfield 19, 3) := by decide +kernel
theorem dX7_forget_4 : decode cX7_forget 4 = .ok (.iconst 0, 1) := by decide +kernel
theorem dX7_forget_5 : decode cX7_forget 5 = .ok (.putfield 333, 3) := by decide +kernel
theorem dX7_forget_8 : decode cX7_forget 8 = .ok (.aload_n 0, 1) := by decide +kernel
theorem dX7_forget_9 : decode cX7_forget 9 = .ok (.getfield 26, 3) := by decide +kernel
theorem dX7_forget_12 : decode cX7_forget 12 = .ok (.iconst 0, 1) := by decide +kernel
theorem dX7_forget_13 : decode cX7_forget 13 = .ok (.putfield 334, 3) := by decide +kernel
theorem dX7_forget_16 : decode cX7_forget 16 = .ok (.aload_n 0, 1) := by decide +kernel
theorem dX7_forget_17 : decode cX7_forget 17 = .ok (.getfield 33, 3) := by decide +kernel
theorem dX7_forget_20 : decode cX7_forget 20 = .ok (.iconst 0, 1) := by decide +kernel
theorem dX7_forget_21 : decode cX7_forget 21 = .ok (.putfield 119, 3) := by decide +kernel
theorem dX7_forget_24 : decode cX7_forget 24 = .ok (.aload_n 0, 1) := by decide +kernel
theorem dX7_forget_25 : decode cX7_forget 25 = .ok (.getfield 40, 3) := by decide +kernel
theorem dX7_forget_28 : decode cX7_forget 28 = .ok (.iconst 0, 1) := by decide +kernel
theorem dX7_forget_29 : decode cX7_forget 29 = .ok (.putfield 335, 3) := by decide +kernel
theorem dX7_forget_32 : decode cX7_forget 32 = .ok (.aload_n 0, 1) := by decide +kernel
theorem dX7_forget_33 : decode cX7_forget 33 = .ok (.getfield 47, 3) := by decide +kernel
theorem dX7_forget_36 : decode cX7_forget 36 = .ok (.iconst 0, 1) := by decide +kernel
theorem dX7_forget_37 : decode cX7_forget 37 = .ok (.putfield 336, 3) := by decide +kernel
theorem dX7_forget_40 : decode cX7_forget 40 = .ok (.return_, 1) := by decide +kernel
set_option maxHeartbeats 4000000 in
set_option maxRecDepth 100000 in
theorem c_forget (l : Launch) (D : va_G) (cI cJ : ClassId) (ad : Nat → Nat) (co fl ra li re wa pi : Ob) : CT l D (TY cI cJ) yX7_forget (.code yX7_forget cX7_forget 1 (none : Option FieldType)) 1 0 0 (XW ad cI cJ co fl ra li re wa pi) [.ref (ad 0)] (QV D (TY cI cJ) (fun u => u = (XW ad cI cJ co (si fl 2 0) (si ra 2 0) (si li 1 0) (si re 1 0) wa (si pi 3 0)))) := by
  refine ent (by decide) (Nat.le_of_ble_eq_true rfl) ?_
  intro p e s m below meth c ls A hx hb hr hg hown hml hlocks hnm hP hK hD hS hA hN hl
  have hl : lv_has ls 1 [(0, .ref (ad 0))] := hl
  refine lv_aload_n hx hb dX7_forget_0 rfl (lv_at hl 0 rfl) ?_
  refine va_get (D := D) (ci := 7) (v := .ref (ad 2)) (C := RX7) (T := TX7) (N := 6) hx hb hg inGX7 hown hK hP 0 xo0 rfl 1 (by decide) (hg _ mw_322) (fun _ h9 => h9) xvX7_1 dX7_forget_1 ?_
  refine lv_iconst (v := 0) hx hb dX7_forget_4 (by decide) ?_
  refine va_putN (D := D) (ci := 1) (v := .int 0) (C := RX1) (T := TX1) (N := 11) hx hb hg inGX1 tyX1 tyX1_ok nmX1 hown hK hP hD hS 2 xo2 rfl 10 (by decide) (hN.use nw_36) (fun _ h9 => h9) rfl (tyX1_ok 10 (by decide)) rfl rfl (Nat.le_of_ble_eq_true rfl) dX7_forget_5 (fun H locs hP hD hS => ?_)
  have hP : va_P D vwCl (XW ad cI cJ co (si fl 2 0) ra li re wa pi) H := cgP xpX1_10 hP
  have hD : va_D A (XW ad cI cJ co (si fl 2 0) ra li re wa pi) := cgD xpX1_10 hD
  refine lv_aload_n hx hb dX7_forget_8 rfl (lv_at hl 0 rfl) ?_
  refine va_get (D := D) (ci := 7) (v := .ref (ad 3)) (C := RX7) (T := TX7) (N := 6) hx hb hg inGX7 hown hK hP 0 xo0 rfl 2 (by decide) (hg _ mw_328) (fun _ h9 => h9) xvX7_2 dX7_forget_9 ?_
  refine lv_iconst (v := 0) hx hb dX7_forget_12 (by decide) ?_
  refine va_putN (D := D) (ci := 4) (v := .int 0) (C := RX4) (T := TX4) (N := 7) hx hb hg inGX4 tyX4 tyX4_ok nmX4 hown hK hP hD hS 3 xo3 rfl 6 (by decide) (hN.use nw_41) (fun _ h9 => h9) rfl (tyX4_ok 6 (by decide)) rfl rfl (Nat.le_of_ble_eq_true rfl) dX7_forget_13 (fun H locs hP hD hS => ?_)
  have hP : va_P D vwCl (XW ad cI cJ co (si fl 2 0) (si ra 2 0) li re wa pi) H := cgP xpX4_6 hP
  have hD : va_D A (XW ad cI cJ co (si fl 2 0) (si ra 2 0) li re wa pi) := cgD xpX4_6 hD
  refine lv_aload_n hx hb dX7_forget_16 rfl (lv_at hl 0 rfl) ?_
  refine va_get (D := D) (ci := 7) (v := .ref (ad 4)) (C := RX7) (T := TX7) (N := 6) hx hb hg inGX7 hown hK hP 0 xo0 rfl 3 (by decide) (hg _ mw_337) (fun _ h9 => h9) xvX7_3 dX7_forget_17 ?_
  refine lv_iconst (v := 0) hx hb dX7_forget_20 (by decide) ?_
  refine va_putN (D := D) (ci := 2) (v := .int 0) (C := RX2) (T := TX2) (N := 3) hx hb hg inGX2 tyX2 tyX2_ok nmX2 hown hK hP hD hS 4 xo4 rfl 2 (by decide) (hN.use nw_45) (fun _ h9 => h9) rfl (tyX2_ok 2 (by decide)) rfl rfl (Nat.le_of_ble_eq_true rfl) dX7_forget_21 (fun H locs hP hD hS => ?_)
  have hP : va_P D vwCl (XW ad cI cJ co (si fl 2 0) (si ra 2 0) (si li 1 0) re wa pi) H := cgP xpX2_2 hP
  have hD : va_D A (XW ad cI cJ co (si fl 2 0) (si ra 2 0) (si li 1 0) re wa pi) := cgD xpX2_2 hD
  refine lv_aload_n hx hb dX7_forget_24 rfl (lv_at hl 0 rfl) ?_
  refine va_get (D := D) (ci := 7) (v := .ref (ad 5)) (C := RX7) (T := TX7) (N := 6) hx hb hg inGX7 hown hK hP 0 xo0 rfl 4 (by decide) (hg _ mw_342) (fun _ h9 => h9) xvX7_4 dX7_forget_25 ?_
  refine lv_iconst (v := 0) hx hb dX7_forget_28 (by decide) ?_
  refine va_putN (D := D) (ci := 5) (v := .int 0) (C := RX5) (T := TX5) (N := 8) hx hb hg inGX5 tyX5 tyX5_ok nmX5 hown hK hP hD hS 5 xo5 rfl 7 (by decide) (hN.use nw_52) (fun _ h9 => h9) rfl (tyX5_ok 7 (by decide)) rfl rfl (Nat.le_of_ble_eq_true rfl) dX7_forget_29 (fun H locs hP hD hS => ?_)
  have hP : va_P D vwCl (XW ad cI cJ co (si fl 2 0) (si ra 2 0) (si li 1 0) (si re 1 0) wa pi) H := cgP xpX5_7 hP
  have hD : va_D A (XW ad cI cJ co (si fl 2 0) (si ra 2 0) (si li 1 0) (si re 1 0) wa pi) := cgD xpX5_7 hD
  refine lv_aload_n hx hb dX7_forget_32 rfl (lv_at hl 0 rfl) ?_
  refine va_get (D := D) (ci := 7) (v := .ref (ad 6)) (C := RX7) (T := TX7) (N := 6) hx hb hg inGX7 hown hK hP 0 xo0 rfl 5 (by decide) (hg _ mw_347) (fun _ h9 => h9) xvX7_5 dX7_forget_33 ?_
  refine lv_iconst (v := 0) hx hb dX7_forget_36 (by decide) ?_
  refine va_putN (D := D) (ci := 3) (v := .int 0) (C := RX3) (T := TX3) (N := 16) hx hb hg inGX3 tyX3 tyX3_ok nmX3 hown hK hP hD hS 6 xo6 rfl 15 (by decide) (hN.use nw_64) (fun _ h9 => h9) rfl (tyX3_ok 15 (by decide)) rfl rfl (Nat.le_of_ble_eq_true rfl) dX7_forget_37 (fun H locs hP hD hS => ?_)
  have hP : va_P D vwCl (XW ad cI cJ co (si fl 2 0) (si ra 2 0) (si li 1 0) (si re 1 0) wa (si pi 3 0)) H := cgP xpX3_15 hP
  have hD : va_D A (XW ad cI cJ co (si fl 2 0) (si ra 2 0) (si li 1 0) (si re 1 0) wa (si pi 3 0)) := cgD xpX3_15 hD
  exact W.vret hx hb hr (fun t ht hW => ⟨⟨(XW ad cI cJ co (si fl 2 0) (si ra 2 0) (si li 1 0) (si re 1 0) wa (si pi 3 0)), rfl, xw_eq rfl (show (si fl 2 0) = (si fl 2 0) from (by first | with_reducible rfl | (simp only [gi_sl, gi_sA, gi_sB, gi_si_s, gi_si_n, gl_si, gl_sA, gl_sB, gl_sl_s, gl_sl_n, gA_si, gA_sl, gA_sB, gA_sA_s, gA_sA_n, gB_si, gB_sl, gB_sA, gB_sB_s, gB_sB_n, Nat.reduceBEq, if_true, if_false, eq_self, Bool.false_eq_true, Bool.true_eq_false, not_true_eq_false, not_false_eq_true, decide_true, decide_false, cond_true, cond_false, Bool.true_and, Bool.false_and, Bool.and_true, Bool.and_false, Bool.true_or, Bool.false_or, Bool.or_true, Bool.or_false, b2i_tt, b2i_ff, pr_eta]; done))) (show (si ra 2 0) = (si ra 2 0) from (by first | with_reducible rfl | (simp only [gi_sl, gi_sA, gi_sB, gi_si_s, gi_si_n, gl_si, gl_sA, gl_sB, gl_sl_s, gl_sl_n, gA_si, gA_sl, gA_sB, gA_sA_s, gA_sA_n, gB_si, gB_sl, gB_sA, gB_sB_s, gB_sB_n, Nat.reduceBEq, if_true, if_false, eq_self, Bool.false_eq_true, Bool.true_eq_false, not_true_eq_false, not_false_eq_true, decide_true, decide_false, cond_true, cond_false, Bool.true_and, Bool.false_and, Bool.and_true, Bool.and_false, Bool.true_or, Bool.false_or, Bool.or_true, Bool.or_false, b2i_tt, b2i_ff, pr_eta]; done))) (show (si li 1 0) = (si li 1 0) from (by first | with_reducible rfl | (simp only [gi_sl, gi_sA, gi_sB, gi_si_s, gi_si_n, gl_si, gl_sA, gl_sB, gl_sl_s, gl_sl_n, gA_si, gA_sl, gA_sB, gA_sA_s, gA_sA_n, gB_si, gB_sl, gB_sA, gB_sB_s, gB_sB_n, Nat.reduceBEq, if_true, if_false, eq_self, Bool.false_eq_true, Bool.true_eq_false, not_true_eq_false, not_false_eq_true, decide_true, decide_false, cond_true, cond_false, Bool.true_and, Bool.false_and, Bool.and_true, Bool.and_false, Bool.true_or, Bool.false_or, Bool.or_true, Bool.or_false, b2i_tt, b2i_ff, pr_eta]; done))) (show (si re 1 0) = (si re 1 0) from (by first | with_reducible rfl | (simp only [gi_sl, gi_sA, gi_sB, gi_si_s, gi_si_n, gl_si, gl_sA, gl_sB, gl_sl_s, gl_sl_n, gA_si, gA_sl, gA_sB, gA_sA_s, gA_sA_n, gB_si, gB_sl, gB_sA, gB_sB_s, gB_sB_n, Nat.reduceBEq, if_true, if_false, eq_self, Bool.false_eq_true, Bool.true_eq_false, not_true_eq_false, not_false_eq_true, decide_true, decide_false, cond_true, cond_false, Bool.true_and, Bool.false_and, Bool.and_true, Bool.and_false, Bool.true_or, Bool.false_or, Bool.or_true, Bool.or_false, b2i_tt, b2i_ff, pr_eta]; done))) rfl (show (si pi 3 0) = (si pi 3 0) from (by first | with_reducible rfl | (simp only [gi_sl, gi_sA, gi_sB, gi_si_s, gi_si_n, gl_si, gl_sA, gl_sB, gl_sl_s, gl_sl_n, gA_si, gA_sl, gA_sB, gA_sA_s, gA_sA_n, gB_si, gB_sl, gB_sA, gB_sB_s, gB_sB_n, Nat.reduceBEq, if_true, if_false, eq_self, Bool.false_eq_true, Bool.true_eq_false, not_true_eq_false, not_false_eq_true, decide_true, decide_false, cond_true, cond_false, Bool.true_and, Bool.false_and, Bool.and_true, Bool.and_false, Bool.true_or, Bool.false_or, Bool.or_true, Bool.or_false, b2i_tt, b2i_ff, pr_eta]; done))), ⟨by rw [ht]; exact hP, va_K.moved hW.alike hK, hD⟩⟩, hS.F ht⟩) hS.2.2 dX7_forget_40
