theorem dX0_drop_0 : decode cX0_drop 0 = .ok (.aload_n 0, 1) := by decide +kernel
theorem dX0_drop_1 : decode cX0_drop 1 = .ok (.dup, 1) := by decide +kernel
theorem dX0_drop_2 : decode cX0_drop 2 = .ok (.getfield 28, 3) := by decide +kernel
theorem dX0_drop_5 : decode cX0_drop 5 = .ok (.iconst 1, 1) := by decide +kernel
theorem dX0_drop_6 : decode cX0_drop 6 = .ok (.isub, 1) := by decide +kernel
theorem dX0_drop_7 : decode cX0_drop 7 = .ok (.putfield 28, 3) := by decide +kernel
theorem dX0_drop_10 : decode cX0_drop 10 = .ok (.iload_n 1, 1) := by decide +kernel
theorem dX0_drop_11 : decode cX0_drop 11 = .ok (.istore_n 2, 1) := by decide +kernel
theorem dX0_drop_12 : decode cX0_drop 12 = .ok (.iload_n 2, 1) := by decide +kernel
theorem dX0_drop_13 : decode cX0_drop 13 = .ok (.aload_n 0, 1) := by decide +kernel
theorem dX0_drop_14 : decode cX0_drop 14 = .ok (.getfield 28, 3) := by decide +kernel
theorem dX0_drop_17 : decode cX0_drop 17 = .ok (.if_icmp .ge 17, 3) := by decide +kernel
theorem dX0_drop_20 : decode cX0_drop 20 = .ok (.aload_n 0, 1) := by decide +kernel
theorem dX0_drop_21 : decode cX0_drop 21 = .ok (.iload_n 2, 1) := by decide +kernel
theorem dX0_drop_22 : decode cX0_drop 22 = .ok (.iconst 1, 1) := by decide +kernel
theorem dX0_drop_23 : decode cX0_drop 23 = .ok (.iadd, 1) := by decide +kernel
theorem dX0_drop_24 : decode cX0_drop 24 = .ok (.iload_n 2, 1) := by decide +kernel
theorem dX0_drop_25 : decode cX0_drop 25 = .ok (.invokevirtual 32, 3) := by decide +kernel
theorem dX0_drop_28 : decode cX0_drop 28 = .ok (.iinc 2 1, 3) := by decide +kernel
theorem dX0_drop_31 : decode cX0_drop 31 = .ok (.goto (-19), 3) := by decide +kernel
theorem dX0_drop_34 : decode cX0_drop 34 = .ok (.aload_n 0, 1) := by decide +kernel
theorem dX0_drop_35 : decode cX0_drop 35 = .ok (.iload_n 1, 1) := by decide +kernel
theorem dX0_drop_36 : decode cX0_drop 36 = .ok (.iconst (-1), 1) := by decide +kernel
theorem dX0_drop_37 : decode cX0_drop 37 = .ok (.invokevirtual 24, 3) := by decide +kernel
theorem dX0_drop_40 : decode cX0_drop 40 = .ok (.return_, 1) := by decide +kernel
set_option maxHeartbeats 4000000 in
set_option maxRecDepth 100000 in
theorem c_drop (l : Launch) (D : va_G) (cI cJ : ClassId) (ad : Nat → Nat) (co fl ra li re wa pi : Ob) (k1 : Int32) : CT l D (TY cI cJ) yX0_drop (.code yX0_drop cX0_drop 3 (none : Option FieldType)) 2 0 0 (XW ad cI cJ co fl ra li re wa pi) [.ref (ad 1), .int k1] (QV D (TY cI cJ) (fun u => u = (XW ad cI cJ (coDrop co k1) fl ra li re wa pi))) := by
  refine ent (by decide) (Nat.le_of_ble_eq_true rfl) ?_
  intro p e s m below meth c ls A hx hb hr hg hown hml hlocks hnm hP hK hD hS hA hN hl
  have hl : lv_has ls 3 [(0, .ref (ad 1)), (1, .int k1)] := hl
  refine lv_aload_n hx hb dX0_drop_0 rfl (lv_at hl 0 rfl) ?_
  refine lv_dup hx hb dX0_drop_1 rfl ?_
  refine va_get (D := D) (ci := 0) (v := .int (gi co 0)) (C := RX0) (T := TX0) (N := 5) hx hb hg inGX0 hown hK hP 1 xo1 rfl 4 (by decide) (hg _ mw_352) (fun _ h9 => h9) (xvX0_4 rfl) dX0_drop_2 ?_
  refine lv_iconst (v := 1) hx hb dX0_drop_5 (by decide) ?_
  refine lv_isub hx hb dX0_drop_6 ?_
  refine va_put (D := D) (ci := 0) (v := .int ((gi co 0) - 1)) (C := RX0) (T := TX0) (N := 5) hx hb hg inGX0 tyX0 tyX0_ok nmX0 hown hK hP hD hS 1 xo1 rfl 4 (by decide) (hg _ mw_352) (fun _ h9 => h9) rfl (tyX0_ok 4 (by decide)) rfl rfl (Nat.le_of_ble_eq_true rfl) dX0_drop_7 (fun H locs hP hD hS => ?_)
  have hP : va_P D vwCl (XW ad cI cJ (si co 0 ((gi co 0) - 1)) fl ra li re wa pi) H := cgP xpX0_4 hP
  have hD : va_D A (XW ad cI cJ (si co 0 ((gi co 0) - 1)) fl ra li re wa pi) := cgD xpX0_4 hD
  refine lv_iload_n hx hb dX0_drop_10 rfl (lv_at hl 1 rfl) ?_
  refine lv_istore_n (lv' := [(2, .int k1), (0, .ref (ad 1)), (1, .int k1)]) hx hb dX0_drop_11 rfl hl (by decide) rfl (fun ls hl => ?_)
  refine w_loop (σ := Ob) (fun (i_1 : Nat) (p_1 : Ob) (H : Heap) (locs : List Loc) (ls : Array Slot) => p_1 = (lp (cpUp k1) i_1 (si co 0 ((gi co 0) - 1))) ∧ va_P D vwCl (XW ad cI cJ p_1 fl ra li re wa pi) H ∧ va_D A (XW ad cI cJ p_1 fl ra li re wa pi) ∧ va_S A s.heap H locs ∧ lv_has ls 3 [(0, .ref (ad 1)), (1, .int k1), (2, .int (k1 + nI i_1))]) (((gi (si co 0 ((gi co 0) - 1)) 0).toInt - k1.toInt).toNat) (fun p_1 H locs ls hI => ?_) (fun i_1 p_1 H locs ls hi_1 hI ih_1 => ?_) 0 (si co 0 ((gi co 0) - 1)) (Nat.zero_le _) ⟨(lp_0 _ _), hP, hD, hS, (by rw [add_nI0]; exact lv_sub hl [1, 2, 0] rfl)⟩
  · obtain ⟨h_1, hP, hD, hS, hl⟩ := hI
    have h_1 := h_1.symm
    subst h_1
    have hP : va_P D vwCl (XW ad cI cJ ((lp (cpUp k1) (((gi (si co 0 ((gi co 0) - 1)) 0).toInt - k1.toInt).toNat) (si co 0 ((gi co 0) - 1)))) fl ra li re wa pi) H := hP
    have hD : va_D A (XW ad cI cJ ((lp (cpUp k1) (((gi (si co 0 ((gi co 0) - 1)) 0).toInt - k1.toInt).toNat) (si co 0 ((gi co 0) - 1)))) fl ra li re wa pi) := hD
    have hl : lv_has ls 3 [(0, .ref (ad 1)), (1, .int k1), (2, .int (k1 + nI ((((gi (si co 0 ((gi co 0) - 1)) 0).toInt - k1.toInt).toNat))))] := hl
    refine lv_iload_n hx hb dX0_drop_12 rfl (lv_at hl 2 rfl) ?_
    refine lv_aload_n hx hb dX0_drop_13 rfl (lv_at hl 0 rfl) ?_
    refine va_get (D := D) (ci := 0) (v := .int (gi ((lp (cpUp k1) (((gi (si co 0 ((gi co 0) - 1)) 0).toInt - k1.toInt).toNat) (si co 0 ((gi co 0) - 1)))) 0)) (C := RX0) (T := TX0) (N := 5) hx hb hg inGX0 hown hK hP 1 xo1 rfl 4 (by decide) (hg _ mw_352) (fun _ h9 => h9) (xvX0_4 rfl) dX0_drop_14 ?_
    refine lv_icmp_ge (tgt := 34) hx hb dX0_drop_17 (by decide) (fun _ => ?_) (fun c_17 => absurd (by rw [k_up]; exact to_out _ _) c_17)
    refine lv_aload_n hx hb dX0_drop_34 rfl (lv_at hl 0 rfl) ?_
    refine lv_iload_n hx hb dX0_drop_35 rfl (lv_at hl 1 rfl) ?_
    refine lv_iconst (v := (-1)) hx hb dX0_drop_36 (by decide) ?_
    refine kV (rV (q0 := 1) (ci := 0) hx hb hml hown hg hN hK hP hD (c_shift l D cI cJ ad ((lp (cpUp k1) (((gi (si co 0 ((gi co 0) - 1)) 0).toInt - k1.toInt).toNat) (si co 0 ((gi co 0) - 1)))) fl ra li re wa pi k1 (-1)) mw_358 mw_359 mw_360 mw_361 mw_362 pdv_X0_shiftTargets ⟨Nat.le_of_ble_eq_true rfl, Nat.le_of_ble_eq_true rfl⟩ rfl xo1 rfl hl.1 rfl (Nat.le_of_ble_eq_true rfl) dX0_drop_37 ⟨Nat.le_of_ble_eq_true rfl, Nat.le_of_ble_eq_true rfl⟩) hD hS hA (fun u_2 H locs hp hP hD hS => ?_)
    obtain rfl := hp.symm
    have hP : va_P D vwCl (XW ad cI cJ (coShift ((lp (cpUp k1) (((gi (si co 0 ((gi co 0) - 1)) 0).toInt - k1.toInt).toNat) (si co 0 ((gi co 0) - 1)))) k1 (-1)) fl ra li re wa pi) H := hP
    have hD : va_D A (XW ad cI cJ (coShift ((lp (cpUp k1) (((gi (si co 0 ((gi co 0) - 1)) 0).toInt - k1.toInt).toNat) (si co 0 ((gi co 0) - 1)))) k1 (-1)) fl ra li re wa pi) := hD
    exact W.vret hx hb hr (fun t ht hW => ⟨⟨(XW ad cI cJ (coShift ((lp (cpUp k1) (((gi (si co 0 ((gi co 0) - 1)) 0).toInt - k1.toInt).toNat) (si co 0 ((gi co 0) - 1)))) k1 (-1)) fl ra li re wa pi), rfl, xw_eq (show (coShift ((lp (cpUp k1) (((gi (si co 0 ((gi co 0) - 1)) 0).toInt - k1.toInt).toNat) (si co 0 ((gi co 0) - 1)))) k1 (-1)) = (coDrop co k1) from (by first | with_reducible rfl | (simp only [coDrop, coDropL, gi_sl, gi_sA, gi_sB, gi_si_s, gi_si_n, gl_si, gl_sA, gl_sB, gl_sl_s, gl_sl_n, gA_si, gA_sl, gA_sB, gA_sA_s, gA_sA_n, gB_si, gB_sl, gB_sA, gB_sB_s, gB_sB_n, Nat.reduceBEq, if_true, if_false, eq_self, Bool.false_eq_true, Bool.true_eq_false, not_true_eq_false, not_false_eq_true, decide_true, decide_false, cond_true, cond_false, Bool.true_and, Bool.false_and, Bool.and_true, Bool.and_false, Bool.true_or, Bool.false_or, Bool.or_true, Bool.or_false, b2i_tt, b2i_ff, pr_eta]; done))) rfl rfl rfl rfl rfl rfl, ⟨by rw [ht]; exact hP, va_K.moved hW.alike hK, hD⟩⟩, hS.F ht⟩) hS.2.2 dX0_drop_40
  · obtain ⟨h_1, hP, hD, hS, hl⟩ := hI
    have hP : va_P D vwCl (XW ad cI cJ p_1 fl ra li re wa pi) H := hP
    have hD : va_D A (XW ad cI cJ p_1 fl ra li re wa pi) := hD
    have hl : lv_has ls 3 [(0, .ref (ad 1)), (1, .int k1), (2, .int (k1 + nI i_1))] := hl
    refine lv_iload_n hx hb dX0_drop_12 rfl (lv_at hl 2 rfl) ?_
    refine lv_aload_n hx hb dX0_drop_13 rfl (lv_at hl 0 rfl) ?_
    refine va_get (D := D) (ci := 0) (v := .int (gi p_1 0)) (C := RX0) (T := TX0) (N := 5) hx hb hg inGX0 hown hK hP 1 xo1 rfl 4 (by decide) (hg _ mw_352) (fun _ h9 => h9) (xvX0_4 rfl) dX0_drop_14 ?_
    refine lv_icmp_ge (tgt := 34) hx hb dX0_drop_17 (by decide) (fun c_17 => absurd c_17 (by rw [h_1, k_up]; exact to_in hi_1)) (fun _ => ?_)
    refine lv_aload_n hx hb dX0_drop_20 rfl (lv_at hl 0 rfl) ?_
    refine lv_iload_n hx hb dX0_drop_21 rfl (lv_at hl 2 rfl) ?_
    refine lv_iconst (v := 1) hx hb dX0_drop_22 (by decide) ?_
    refine lv_iadd hx hb dX0_drop_23 ?_
    refine lv_iload_n hx hb dX0_drop_24 rfl (lv_at hl 2 rfl) ?_
    refine kV (rV (q0 := 1) (ci := 0) hx hb hml hown hg hN hK hP hD (c_copy l D cI cJ ad p_1 fl ra li re wa pi ((k1 + nI i_1) + 1) (k1 + nI i_1)) mw_363 mw_364 mw_365 mw_366 mw_362 pdv_X0_copy ⟨Nat.le_of_ble_eq_true rfl, Nat.le_of_ble_eq_true rfl⟩ rfl xo1 rfl hl.1 rfl (Nat.le_of_ble_eq_true rfl) dX0_drop_25 ⟨Nat.le_of_ble_eq_true rfl, Nat.le_of_ble_eq_true rfl⟩) hD hS hA (fun u_3 H locs hp hP hD hS => ?_)
    obtain rfl := hp.symm
    have hP : va_P D vwCl (XW ad cI cJ (coCopy p_1 ((k1 + nI i_1) + 1) (k1 + nI i_1)) fl ra li re wa pi) H := hP
    have hD : va_D A (XW ad cI cJ (coCopy p_1 ((k1 + nI i_1) + 1) (k1 + nI i_1)) fl ra li re wa pi) := hD
    refine lv_iinc (v := (k1 + nI (i_1 + 1))) (lv' := [(2, .int (k1 + nI (i_1 + 1))), (0, .ref (ad 1)), (1, .int k1)]) hx hb dX0_drop_28 hl (k := 2) rfl (add_nI1 _ i_1) (by decide) rfl (fun ls hl => ?_)
    refine lv_goto (tgt := 12) hx hb dX0_drop_31 (by decide) ?_
    exact ih_1 (coCopy p_1 ((k1 + nI i_1) + 1) (k1 + nI i_1)) H locs ls ⟨((show (coCopy p_1 ((k1 + nI i_1) + 1) (k1 + nI i_1)) = (cpUp k1) i_1 p_1 from (by first | with_reducible rfl | (simp only [cpUp, gi_sl, gi_sA, gi_sB, gi_si_s, gi_si_n, gl_si, gl_sA, gl_sB, gl_sl_s, gl_sl_n, gA_si, gA_sl, gA_sB, gA_sA_s, gA_sA_n, gB_si, gB_sl, gB_sA, gB_sB_s, gB_sB_n, Nat.reduceBEq, if_true, if_false, eq_self, Bool.false_eq_true, Bool.true_eq_false, not_true_eq_false, not_false_eq_true, decide_true, decide_false, cond_true, cond_false, Bool.true_and, Bool.false_and, Bool.and_true, Bool.and_false, Bool.true_or, Bool.false_or, Bool.or_true, Bool.or_false, b2i_tt, b2i_ff, pr_eta]; done))).trans (lp_go h_1)), hP, hD, hS, lv_sub hl [1, 2, 0] rfl⟩
