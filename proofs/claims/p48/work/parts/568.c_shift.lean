theorem dX0_shiftTargets_0 : decode cX0_shiftTargets 0 = .ok (.iconst 0, 1) := by decide +kernel
theorem dX0_shiftTargets_1 : decode cX0_shiftTargets 1 = .ok (.istore_n 3, 1) := by decide +kernel
theorem dX0_shiftTargets_2 : decode cX0_shiftTargets 2 = .ok (.iload_n 3, 1) := by decide +kernel
theorem dX0_shiftTargets_3 : decode cX0_shiftTargets 3 = .ok (.aload_n 0, 1) := by decide +kernel
theorem dX0_shiftTargets_4 : decode cX0_shiftTargets 4 = .ok (.getfield 28, 3) := by decide +kernel
theorem dX0_shiftTargets_7 : decode cX0_shiftTargets 7 = .ok (.if_icmp .ge 42, 3) := by decide +kernel
theorem dX0_shiftTargets_10 : decode cX0_shiftTargets 10 = .ok (.aload_n 0, 1) := by decide +kernel
theorem dX0_shiftTargets_11 : decode cX0_shiftTargets 11 = .ok (.getfield 15, 3) := by decide +kernel
theorem dX0_shiftTargets_14 : decode cX0_shiftTargets 14 = .ok (.iload_n 3, 1) := by decide +kernel
theorem dX0_shiftTargets_15 : decode cX0_shiftTargets 15 = .ok (.invokestatic 39, 3) := by decide +kernel
theorem dX0_shiftTargets_18 : decode cX0_shiftTargets 18 = .ok (.istore 4, 2) := by decide +kernel
theorem dX0_shiftTargets_20 : decode cX0_shiftTargets 20 = .ok (.iload 4, 2) := by decide +kernel
theorem dX0_shiftTargets_22 : decode cX0_shiftTargets 22 = .ok (.iload_n 1, 1) := by decide +kernel
theorem dX0_shiftTargets_23 : decode cX0_shiftTargets 23 = .ok (.if_icmp .le 20, 3) := by decide +kernel
theorem dX0_shiftTargets_26 : decode cX0_shiftTargets 26 = .ok (.aload_n 0, 1) := by decide +kernel
theorem dX0_shiftTargets_27 : decode cX0_shiftTargets 27 = .ok (.getfield 15, 3) := by decide +kernel
theorem dX0_shiftTargets_30 : decode cX0_shiftTargets 30 = .ok (.iload_n 3, 1) := by decide +kernel
theorem dX0_shiftTargets_31 : decode cX0_shiftTargets 31 = .ok (.iload 4, 2) := by decide +kernel
theorem dX0_shiftTargets_33 : decode cX0_shiftTargets 33 = .ok (.iload_n 2, 1) := by decide +kernel
theorem dX0_shiftTargets_34 : decode cX0_shiftTargets 34 = .ok (.iadd, 1) := by decide +kernel
theorem dX0_shiftTargets_35 : decode cX0_shiftTargets 35 = .ok (.bipush 40, 2) := by decide +kernel
theorem dX0_shiftTargets_37 : decode cX0_shiftTargets 37 = .ok (.invokestatic 43, 3) := by decide +kernel
theorem dX0_shiftTargets_40 : decode cX0_shiftTargets 40 = .ok (.invokestatic 35, 3) := by decide +kernel
theorem dX0_shiftTargets_43 : decode cX0_shiftTargets 43 = .ok (.iinc 3 1, 3) := by decide +kernel
theorem dX0_shiftTargets_46 : decode cX0_shiftTargets 46 = .ok (.goto (-44), 3) := by decide +kernel
theorem dX0_shiftTargets_49 : decode cX0_shiftTargets 49 = .ok (.return_, 1) := by decide +kernel
theorem mw_352 : Cond.fieldLink RX0 28 "OrielChart$Code" "count" "I" ∈ GW := gw_mem (inT1 _ (List.mem_of_getElem? (i := 44) rfl)) rfl
theorem mw_353 : Cond.fieldLink RX0 15 "OrielChart$Code" "target" "[I" ∈ GW := gw_mem (inT1 _ (List.mem_of_getElem? (i := 34) rfl)) rfl
theorem mw_354 : Cond.methodLink RX0 43 Lib.Math.min.name ∈ GW := gw_mem (inT4 _ (List.mem_of_getElem? (i := 44) rfl)) rfl
set_option maxHeartbeats 4000000 in
set_option maxRecDepth 100000 in
theorem c_shift (l : Launch) (D : va_G) (cI cJ : ClassId) (ad : Nat → Nat) (co fl ra li re wa pi : Ob) (k1 : Int32) (k2 : Int32) : CT l D (TY cI cJ) yX0_shiftTargets (.code yX0_shiftTargets cX0_shiftTargets 5 (none : Option FieldType)) 1 0 0 (XW ad cI cJ co fl ra li re wa pi) [.ref (ad 1), .int k1, .int k2] (QV D (TY cI cJ) (fun u => u = (XW ad cI cJ (coShift co k1 k2) fl ra li re wa pi))) := by
  refine ent (by decide) (Nat.le_of_ble_eq_true rfl) ?_
  intro p e s m below meth c ls A hx hb hr hg hown hml hlocks hnm hP hK hD hS hA hN hl
  have hl : lv_has ls 5 [(0, .ref (ad 1)), (1, .int k1), (2, .int k2)] := hl
  refine lv_iconst (v := 0) hx hb dX0_shiftTargets_0 (by decide) ?_
  refine lv_istore_n (lv' := [(3, .int 0), (0, .ref (ad 1)), (1, .int k1), (2, .int k2)]) hx hb dX0_shiftTargets_1 rfl hl (by decide) rfl (fun ls hl => ?_)
  refine w_loop (σ := Ob) (fun (i_1 : Nat) (p_1 : Ob) (H : Heap) (locs : List Loc) (ls : Array Slot) => p_1 = (lp (shStep k1 k2) i_1 co) ∧ va_P D vwCl (XW ad cI cJ p_1 fl ra li re wa pi) H ∧ va_D A (XW ad cI cJ p_1 fl ra li re wa pi) ∧ va_S A s.heap H locs ∧ lv_has ls 5 [(0, .ref (ad 1)), (1, .int k1), (2, .int k2), (3, .int (nI i_1))]) (nN (gi co 0)) (fun p_1 H locs ls hI => ?_) (fun i_1 p_1 H locs ls hi_1 hI ih_1 => ?_) 0 co (Nat.zero_le _) ⟨(lp_0 _ _), hP, hD, hS, (by rw [nI_0]; exact lv_sub hl [1, 2, 3, 0] rfl)⟩
  · obtain ⟨h_1, hP, hD, hS, hl⟩ := hI
    have h_1 := h_1.symm
    subst h_1
    have hP : va_P D vwCl (XW ad cI cJ ((lp (shStep k1 k2) (nN (gi co 0)) co)) fl ra li re wa pi) H := hP
    have hD : va_D A (XW ad cI cJ ((lp (shStep k1 k2) (nN (gi co 0)) co)) fl ra li re wa pi) := hD
    have hl : lv_has ls 5 [(0, .ref (ad 1)), (1, .int k1), (2, .int k2), (3, .int (nI ((nN (gi co 0)))))] := hl
    refine lv_iload_n hx hb dX0_shiftTargets_2 rfl (lv_at hl 3 rfl) ?_
    refine lv_aload_n hx hb dX0_shiftTargets_3 rfl (lv_at hl 0 rfl) ?_
    refine va_get (D := D) (ci := 0) (v := .int (gi ((lp (shStep k1 k2) (nN (gi co 0)) co)) 0)) (C := RX0) (T := TX0) (N := 5) hx hb hg inGX0 hown hK hP 1 xo1 rfl 4 (by decide) (hg _ mw_352) (fun _ h9 => h9) (xvX0_4 rfl) dX0_shiftTargets_4 ?_
    refine lv_icmp_ge (tgt := 49) hx hb dX0_shiftTargets_7 (by decide) (fun _ => ?_) (fun c_7 => absurd (by rw [k_sh]; exact lp_out _) c_7)
    exact W.vret hx hb hr (fun t ht hW => ⟨⟨(XW ad cI cJ ((lp (shStep k1 k2) (nN (gi co 0)) co)) fl ra li re wa pi), rfl, xw_eq (show ((lp (shStep k1 k2) (nN (gi co 0)) co)) = (coShift co k1 k2) from (by first | with_reducible rfl | (simp only [coShift, gi_sl, gi_sA, gi_sB, gi_si_s, gi_si_n, gl_si, gl_sA, gl_sB, gl_sl_s, gl_sl_n, gA_si, gA_sl, gA_sB, gA_sA_s, gA_sA_n, gB_si, gB_sl, gB_sA, gB_sB_s, gB_sB_n, Nat.reduceBEq, if_true, if_false, eq_self, Bool.false_eq_true, Bool.true_eq_false, not_true_eq_false, not_false_eq_true, decide_true, decide_false, cond_true, cond_false, Bool.true_and, Bool.false_and, Bool.and_true, Bool.and_false, Bool.true_or, Bool.false_or, Bool.or_true, Bool.or_false, b2i_tt, b2i_ff, pr_eta]; done))) rfl rfl rfl rfl rfl rfl, ⟨by rw [ht]; exact hP, va_K.moved hW.alike hK, hD⟩⟩, hS.F ht⟩) hS.2.2 dX0_shiftTargets_49
  · obtain ⟨h_1, hP, hD, hS, hl⟩ := hI
    have hP : va_P D vwCl (XW ad cI cJ p_1 fl ra li re wa pi) H := hP
    have hD : va_D A (XW ad cI cJ p_1 fl ra li re wa pi) := hD
    have hl : lv_has ls 5 [(0, .ref (ad 1)), (1, .int k1), (2, .int k2), (3, .int (nI i_1))] := hl
    refine lv_iload_n hx hb dX0_shiftTargets_2 rfl (lv_at hl 3 rfl) ?_
    refine lv_aload_n hx hb dX0_shiftTargets_3 rfl (lv_at hl 0 rfl) ?_
    refine va_get (D := D) (ci := 0) (v := .int (gi p_1 0)) (C := RX0) (T := TX0) (N := 5) hx hb hg inGX0 hown hK hP 1 xo1 rfl 4 (by decide) (hg _ mw_352) (fun _ h9 => h9) (xvX0_4 rfl) dX0_shiftTargets_4 ?_
    refine lv_icmp_ge (tgt := 49) hx hb dX0_shiftTargets_7 (by decide) (fun c_7 => absurd c_7 (by rw [h_1, k_sh]; exact lp_in hi_1)) (fun _ => ?_)
    refine lv_aload_n hx hb dX0_shiftTargets_10 rfl (lv_at hl 0 rfl) ?_
    refine va_get (D := D) (ci := 0) (v := .ref (ad 9)) (C := RX0) (T := TX0) (N := 5) hx hb hg inGX0 hown hK hP 1 xo1 rfl 1 (by decide) (hg _ mw_353) (fun _ h9 => h9) xvX0_1 dX0_shiftTargets_11 ?_
    refine lv_iload_n hx hb dX0_shiftTargets_14 rfl (lv_at hl 3 rfl) ?_
    refine kI (rSN hx hb hml hown hg hN hK hP hD (c_at l D cI cJ (XW ad cI cJ p_1 fl ra li re wa pi) 9 (ad 9) 40 (gA p_1 1) (nI i_1) (xg9 rfl) (by decide)) mw_84 nw_97 mw_85 mw_77 pd_X7_at ⟨Nat.le_of_ble_eq_true rfl, Nat.le_of_ble_eq_true rfl⟩ rfl hl.1 rfl (Nat.le_of_ble_eq_true rfl) dX0_shiftTargets_15 ⟨Nat.le_of_ble_eq_true rfl, Nat.le_of_ble_eq_true rfl⟩) hD hS hA (fun r_2 u_2 H locs hp hP hD hS => ?_)
    obtain ⟨er, eu⟩ := hp
    obtain rfl := er.symm
    obtain rfl := eu.symm
    refine lv_istore (lv' := [(4, .int (rd (gA p_1 1) 40 (nI i_1))), (0, .ref (ad 1)), (1, .int k1), (2, .int k2), (3, .int (nI i_1))]) hx hb dX0_shiftTargets_18 hl (by decide) rfl (fun ls hl => ?_)
    refine lv_iload hx hb dX0_shiftTargets_20 (lv_at hl 0 rfl) ?_
    refine lv_iload_n hx hb dX0_shiftTargets_22 rfl (lv_at hl 2 rfl) ?_
    refine lv_icmp_le (tgt := 43) hx hb dX0_shiftTargets_23 (by decide) (fun c_23 => ?_) (fun c_23 => ?_)
    · have c_23 : ¬ k1 < (rd (gA p_1 1) 40 (nI i_1)) := i_ge c_23
      refine lv_iinc (v := (nI (i_1 + 1))) (lv' := [(3, .int (nI (i_1 + 1))), (4, .int (rd (gA p_1 1) 40 (nI i_1))), (0, .ref (ad 1)), (1, .int k1), (2, .int k2)]) hx hb dX0_shiftTargets_43 hl (k := 4) rfl (nI_1 i_1) (by decide) rfl (fun ls hl => ?_)
      refine lv_goto (tgt := 2) hx hb dX0_shiftTargets_46 (by decide) ?_
      exact ih_1 p_1 H locs ls ⟨((show p_1 = (shStep k1 k2) i_1 p_1 from (by simp only [shStep, eq_false c_23, gi_sl, gi_sA, gi_sB, gi_si_s, gi_si_n, gl_si, gl_sA, gl_sB, gl_sl_s, gl_sl_n, gA_si, gA_sl, gA_sB, gA_sA_s, gA_sA_n, gB_si, gB_sl, gB_sA, gB_sB_s, gB_sB_n, Nat.reduceBEq, if_true, if_false, eq_self, Bool.false_eq_true, Bool.true_eq_false, not_true_eq_false, not_false_eq_true, decide_true, decide_false, cond_true, cond_false, Bool.true_and, Bool.false_and, Bool.and_true, Bool.and_false, Bool.true_or, Bool.false_or, Bool.or_true, Bool.or_false, b2i_tt, b2i_ff, pr_eta]; done)).trans (lp_go h_1)), hP, hD, hS, lv_sub hl [2, 3, 4, 0] rfl⟩
    · have c_23 : k1 < (rd (gA p_1 1) 40 (nI i_1)) := i_nge c_23
      refine lv_aload_n hx hb dX0_shiftTargets_26 rfl (lv_at hl 1 rfl) ?_
      refine va_get (D := D) (ci := 0) (v := .ref (ad 9)) (C := RX0) (T := TX0) (N := 5) hx hb hg inGX0 hown hK hP 1 xo1 rfl 1 (by decide) (hg _ mw_353) (fun _ h9 => h9) xvX0_1 dX0_shiftTargets_27 ?_
      refine lv_iload_n hx hb dX0_shiftTargets_30 rfl (lv_at hl 4 rfl) ?_
      refine lv_iload hx hb dX0_shiftTargets_31 (lv_at hl 0 rfl) ?_
      refine lv_iload_n hx hb dX0_shiftTargets_33 rfl (lv_at hl 3 rfl) ?_
      refine lv_iadd hx hb dX0_shiftTargets_34 ?_
      refine lv_bipush (v := 40) hx hb dX0_shiftTargets_35 (by decide) ?_
      refine va_mmin hx hb (by rw [hml]; exact hl.1.symm) hown (hg _ mw_354) (hg _ mw_295) (hg _ mw_238) (hg _ mw_296) (Nat.le_of_ble_eq_true rfl) (Nat.le_of_ble_eq_true rfl) (Nat.le_of_ble_eq_true rfl) (Nat.le_of_ble_eq_true rfl) dX0_shiftTargets_37 ?_
      refine W.eq (g2 := F0 m 40 ls [.int (imin ((rd (gA p_1 1) 40 (nI i_1)) + k2) 40), .int (nI i_1), .ref (ad 9)]) rfl ?_
      refine kV (rSN hx hb hml hown hg hN hK hP hD (c_put l D cI cJ (XW ad cI cJ p_1 fl ra li re wa pi) 9 (ad 9) 40 (gA p_1 1) (nI i_1) (imin ((rd (gA p_1 1) 40 (nI i_1)) + k2) 40) (xg9 rfl) (by decide)) mw_92 nw_98 mw_93 mw_77 pd_X7_put ⟨Nat.le_of_ble_eq_true rfl, Nat.le_of_ble_eq_true rfl⟩ rfl hl.1 rfl (Nat.le_of_ble_eq_true rfl) dX0_shiftTargets_40 ⟨Nat.le_of_ble_eq_true rfl, Nat.le_of_ble_eq_true rfl⟩) hD hS hA (fun u_3 H locs hp hP hD hS => ?_)
      obtain rfl := hp.symm
      have hP : va_P D vwCl (XW ad cI cJ (sA p_1 1 (wr (gA p_1 1) 40 (nI i_1) (imin ((rd (gA p_1 1) 40 (nI i_1)) + k2) 40))) fl ra li re wa pi) H := cgP xs9 hP
      have hD : va_D A (XW ad cI cJ (sA p_1 1 (wr (gA p_1 1) 40 (nI i_1) (imin ((rd (gA p_1 1) 40 (nI i_1)) + k2) 40))) fl ra li re wa pi) := cgD xs9 hD
      refine lv_iinc (v := (nI (i_1 + 1))) (lv' := [(3, .int (nI (i_1 + 1))), (4, .int (rd (gA p_1 1) 40 (nI i_1))), (0, .ref (ad 1)), (1, .int k1), (2, .int k2)]) hx hb dX0_shiftTargets_43 hl (k := 4) rfl (nI_1 i_1) (by decide) rfl (fun ls hl => ?_)
      refine lv_goto (tgt := 2) hx hb dX0_shiftTargets_46 (by decide) ?_
      exact ih_1 (sA p_1 1 (wr (gA p_1 1) 40 (nI i_1) (imin ((rd (gA p_1 1) 40 (nI i_1)) + k2) 40))) H locs ls ⟨((show (sA p_1 1 (wr (gA p_1 1) 40 (nI i_1) (imin ((rd (gA p_1 1) 40 (nI i_1)) + k2) 40))) = (shStep k1 k2) i_1 p_1 from (by simp only [shStep, eq_true c_23, gi_sl, gi_sA, gi_sB, gi_si_s, gi_si_n, gl_si, gl_sA, gl_sB, gl_sl_s, gl_sl_n, gA_si, gA_sl, gA_sB, gA_sA_s, gA_sA_n, gB_si, gB_sl, gB_sA, gB_sB_s, gB_sB_n, Nat.reduceBEq, if_true, if_false, eq_self, Bool.false_eq_true, Bool.true_eq_false, not_true_eq_false, not_false_eq_true, decide_true, decide_false, cond_true, cond_false, Bool.true_and, Bool.false_and, Bool.and_true, Bool.and_false, Bool.true_or, Bool.false_or, Bool.or_true, Bool.or_false, b2i_tt, b2i_ff, pr_eta]; done)).trans (lp_go h_1)), hP, hD, hS, lv_sub hl [2, 3, 4, 0] rfl⟩
