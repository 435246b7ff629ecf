theorem dX1_countWindings_0 : decode cX1_countWindings 0 = .ok (.aload_n 0, 1) := by decide +kernel
theorem dX1_countWindings_1 : decode cX1_countWindings 1 = .ok (.getfield 51, 3) := by decide +kernel
theorem dX1_countWindings_4 : decode cX1_countWindings 4 = .ok (.ifCond .ne 5, 3) := by decide +kernel
theorem dX1_countWindings_7 : decode cX1_countWindings 7 = .ok (.iconst 0, 1) := by decide +kernel
theorem dX1_countWindings_8 : decode cX1_countWindings 8 = .ok (.ireturn, 1) := by decide +kernel
theorem dX1_countWindings_9 : decode cX1_countWindings 9 = .ok (.iconst 0, 1) := by decide +kernel
theorem dX1_countWindings_10 : decode cX1_countWindings 10 = .ok (.istore_n 1, 1) := by decide +kernel
theorem dX1_countWindings_11 : decode cX1_countWindings 11 = .ok (.iconst 0, 1) := by decide +kernel
theorem dX1_countWindings_12 : decode cX1_countWindings 12 = .ok (.istore_n 2, 1) := by decide +kernel
theorem dX1_countWindings_13 : decode cX1_countWindings 13 = .ok (.iload_n 2, 1) := by decide +kernel
theorem dX1_countWindings_14 : decode cX1_countWindings 14 = .ok (.aload_n 0, 1) := by decide +kernel
theorem dX1_countWindings_15 : decode cX1_countWindings 15 = .ok (.getfield 48, 3) := by decide +kernel
theorem dX1_countWindings_18 : decode cX1_countWindings 18 = .ok (.if_icmp .ge 30, 3) := by decide +kernel
theorem dX1_countWindings_21 : decode cX1_countWindings 21 = .ok (.aload_n 0, 1) := by decide +kernel
theorem dX1_countWindings_22 : decode cX1_countWindings 22 = .ok (.getfield 73, 3) := by decide +kernel
theorem dX1_countWindings_25 : decode cX1_countWindings 25 = .ok (.aload_n 0, 1) := by decide +kernel
theorem dX1_countWindings_26 : decode cX1_countWindings 26 = .ok (.getfield 21, 3) := by decide +kernel
theorem dX1_countWindings_29 : decode cX1_countWindings 29 = .ok (.iload_n 2, 1) := by decide +kernel
theorem dX1_countWindings_30 : decode cX1_countWindings 30 = .ok (.invokestatic 80, 3) := by decide +kernel
theorem dX1_countWindings_33 : decode cX1_countWindings 33 = .ok (.invokestatic 91, 3) := by decide +kernel
theorem dX1_countWindings_36 : decode cX1_countWindings 36 = .ok (.ifCond .eq 6, 3) := by decide +kernel
theorem dX1_countWindings_39 : decode cX1_countWindings 39 = .ok (.iinc 1 1, 3) := by decide +kernel
theorem dX1_countWindings_42 : decode cX1_countWindings 42 = .ok (.iinc 2 1, 3) := by decide +kernel
theorem dX1_countWindings_45 : decode cX1_countWindings 45 = .ok (.goto (-32), 3) := by decide +kernel
theorem dX1_countWindings_48 : decode cX1_countWindings 48 = .ok (.iload_n 1, 1) := by decide +kernel
theorem dX1_countWindings_49 : decode cX1_countWindings 49 = .ok (.aload_n 0, 1) := by decide +kernel
theorem dX1_countWindings_50 : decode cX1_countWindings 50 = .ok (.getfield 73, 3) := by decide +kernel
theorem dX1_countWindings_53 : decode cX1_countWindings 53 = .ok (.invokestatic 102, 3) := by decide +kernel
theorem dX1_countWindings_56 : decode cX1_countWindings 56 = .ok (.isub, 1) := by decide +kernel
theorem dX1_countWindings_57 : decode cX1_countWindings 57 = .ok (.iconst 1, 1) := by decide +kernel
theorem dX1_countWindings_58 : decode cX1_countWindings 58 = .ok (.isub, 1) := by decide +kernel
theorem dX1_countWindings_59 : decode cX1_countWindings 59 = .ok (.iconst 2, 1) := by decide +kernel
theorem dX1_countWindings_60 : decode cX1_countWindings 60 = .ok (.iadd, 1) := by decide +kernel
theorem dX1_countWindings_61 : decode cX1_countWindings 61 = .ok (.ireturn, 1) := by decide +kernel
theorem mw_122 : Cond.methodLink RX1 102 yJ13_bitCount_95d88 ∈ GW := gw_mem (inT3 _ (List.mem_of_getElem? (i := 130) rfl)) rfl
set_option maxHeartbeats 4000000 in
set_option maxRecDepth 100000 in
theorem c_countWindings (l : Launch) (D : va_G) (cI cJ : ClassId) (ad : Nat → Nat) (co fl ra li re wa pi : Ob) : CT l D (TY cI cJ) yX1_countWindings (.code yX1_countWindings cX1_countWindings 3 (some Jvm.ClassFile.FieldType.int)) 1 0 0 (XW ad cI cJ co fl ra li re wa pi) [.ref (ad 2)] (QI D (TY cI cJ) (fun r u => r = (windings fl) ∧ u = (XW ad cI cJ co fl ra li re wa pi))) := by
  refine ent (by decide) (Nat.le_of_ble_eq_true rfl) ?_
  intro p e s m below meth c ls A hx hb hr hg hown hml hlocks hnm hP hK hD hS hA hN hl
  have hl : lv_has ls 3 [(0, .ref (ad 2))] := hl
  refine lv_aload_n hx hb dX1_countWindings_0 rfl (lv_at hl 0 rfl) ?_
  refine va_get (D := D) (ci := 1) (v := .int (gi fl 0)) (C := RX1) (T := TX1) (N := 11) hx hb hg inGX1 hown hK hP 2 xo2 rfl 7 (by decide) (hg _ mw_88) (fun _ h9 => h9) (xvX1_7 rfl) dX1_countWindings_1 ?_
  refine lv_if_ne (tgt := 9) hx hb dX1_countWindings_4 (by decide) (fun c_4 => ?_) (fun c_4 => ?_)
  · refine lv_iconst (v := 0) hx hb dX1_countWindings_9 (by decide) ?_
    refine lv_istore_n (lv' := [(1, .int 0), (0, .ref (ad 2))]) hx hb dX1_countWindings_10 rfl hl (by decide) rfl (fun ls hl => ?_)
    refine lv_iconst (v := 0) hx hb dX1_countWindings_11 (by decide) ?_
    refine lv_istore_n (lv' := [(2, .int 0), (1, .int 0), (0, .ref (ad 2))]) hx hb dX1_countWindings_12 rfl hl (by decide) rfl (fun ls hl => ?_)
    refine w_loop (σ := Int32) (fun (i_1 : Nat) (p_1 : Int32) (H : Heap) (locs : List Loc) (ls : Array Slot) => p_1 = (lp (windStep fl) i_1 0) ∧ va_P D vwCl (XW ad cI cJ co fl ra li re wa pi) H ∧ va_D A (XW ad cI cJ co fl ra li re wa pi) ∧ va_S A s.heap H locs ∧ lv_has ls 3 [(0, .ref (ad 2)), (1, .int p_1), (2, .int (nI i_1))]) (nN (gi fl 1)) (fun p_1 H locs ls hI => ?_) (fun i_1 p_1 H locs ls hi_1 hI ih_1 => ?_) 0 0 (Nat.zero_le _) ⟨(lp_0 _ _), hP, hD, hS, (by rw [nI_0]; exact lv_sub hl [2, 1, 0] rfl)⟩
    · obtain ⟨h_1, hP, hD, hS, hl⟩ := hI
      have h_1 := h_1.symm
      subst h_1
      have hP : va_P D vwCl (XW ad cI cJ co fl ra li re wa pi) H := hP
      have hD : va_D A (XW ad cI cJ co fl ra li re wa pi) := hD
      have hl : lv_has ls 3 [(0, .ref (ad 2)), (1, .int ((lp (windStep fl) (nN (gi fl 1)) 0))), (2, .int (nI ((nN (gi fl 1)))))] := hl
      refine lv_iload_n hx hb dX1_countWindings_13 rfl (lv_at hl 2 rfl) ?_
      refine lv_aload_n hx hb dX1_countWindings_14 rfl (lv_at hl 0 rfl) ?_
      refine va_get (D := D) (ci := 1) (v := .int (gi fl 1)) (C := RX1) (T := TX1) (N := 11) hx hb hg inGX1 hown hK hP 2 xo2 rfl 8 (by decide) (hg _ mw_100) (fun _ h9 => h9) (xvX1_8 rfl) dX1_countWindings_15 ?_
      refine lv_icmp_ge (tgt := 48) hx hb dX1_countWindings_18 (by decide) (fun _ => ?_) (fun c_18 => absurd (lp_out _) c_18)
      refine lv_iload_n hx hb dX1_countWindings_48 rfl (lv_at hl 1 rfl) ?_
      refine lv_aload_n hx hb dX1_countWindings_49 rfl (lv_at hl 0 rfl) ?_
      refine va_get (D := D) (ci := 1) (v := .long (gl fl 0)) (C := RX1) (T := TX1) (N := 11) hx hb hg inGX1 hown hK hP 2 xo2 rfl 9 (by decide) (hg _ mw_115) (fun _ h9 => h9) (xvX1_9 rfl) dX1_countWindings_50 ?_
      refine kI (rS hx hb hml hown hg hN hK hP hD (c_bitCount l D cI cJ (XW ad cI cJ co fl ra li re wa pi) (gl fl 0)) mw_68 mw_122 mw_70 mw_71 pd_J13_bitCount_95d88 ⟨Nat.le_of_ble_eq_true rfl, Nat.le_of_ble_eq_true rfl⟩ rfl hl.1 rfl (Nat.le_of_ble_eq_true rfl) dX1_countWindings_53 ⟨Nat.le_of_ble_eq_true rfl, Nat.le_of_ble_eq_true rfl⟩) hD hS hA (fun r_2 u_2 H locs hp hP hD hS => ?_)
      obtain ⟨er, eu⟩ := hp
      obtain rfl := er.symm
      obtain rfl := eu.symm
      refine lv_isub hx hb dX1_countWindings_56 ?_
      refine lv_iconst (v := 1) hx hb dX1_countWindings_57 (by decide) ?_
      refine lv_isub hx hb dX1_countWindings_58 ?_
      refine lv_iconst (v := 2) hx hb dX1_countWindings_59 (by decide) ?_
      refine lv_iadd hx hb dX1_countWindings_60 ?_
      exact W.iret (v := (((((lp (windStep fl) (nN (gi fl 1)) 0)) - (bc (gl fl 0))) - 1) + 2)) hx hb hr (fun t ht hW => ⟨⟨(((((lp (windStep fl) (nN (gi fl 1)) 0)) - (bc (gl fl 0))) - 1) + 2), (XW ad cI cJ co fl ra li re wa pi), rfl, ⟨(show ((((((lp (windStep fl) (nN (gi fl 1)) 0)) - (bc (gl fl 0))) - 1) + 2) : Int32) = (windings fl) from (by simp only [windings, eq_false c_4, gi_sl, gi_sA, gi_sB, gi_si_s, gi_si_n, gl_si, gl_sA, gl_sB, gl_sl_s, gl_sl_n, gA_si, gA_sl, gA_sB, gA_sA_s, gA_sA_n, gB_si, gB_sl, gB_sA, gB_sB_s, gB_sB_n, Nat.reduceBEq, if_true, if_false, eq_self, Bool.false_eq_true, Bool.true_eq_false, not_true_eq_false, not_false_eq_true, decide_true, decide_false, cond_true, cond_false, Bool.true_and, Bool.false_and, Bool.and_true, Bool.and_false, Bool.true_or, Bool.false_or, Bool.or_true, Bool.or_false, b2i_tt, b2i_ff, pr_eta]; done)), xw_eq rfl rfl rfl rfl rfl rfl rfl⟩, ⟨by rw [ht]; exact hP, va_K.moved hW.alike hK, hD⟩⟩, hS.F ht⟩) hS.2.2 dX1_countWindings_61
    · obtain ⟨h_1, hP, hD, hS, hl⟩ := hI
      have hP : va_P D vwCl (XW ad cI cJ co fl ra li re wa pi) H := hP
      have hD : va_D A (XW ad cI cJ co fl ra li re wa pi) := hD
      have hl : lv_has ls 3 [(0, .ref (ad 2)), (1, .int p_1), (2, .int (nI i_1))] := hl
      refine lv_iload_n hx hb dX1_countWindings_13 rfl (lv_at hl 2 rfl) ?_
      refine lv_aload_n hx hb dX1_countWindings_14 rfl (lv_at hl 0 rfl) ?_
      refine va_get (D := D) (ci := 1) (v := .int (gi fl 1)) (C := RX1) (T := TX1) (N := 11) hx hb hg inGX1 hown hK hP 2 xo2 rfl 8 (by decide) (hg _ mw_100) (fun _ h9 => h9) (xvX1_8 rfl) dX1_countWindings_15 ?_
      refine lv_icmp_ge (tgt := 48) hx hb dX1_countWindings_18 (by decide) (fun c_18 => absurd c_18 (lp_in hi_1)) (fun _ => ?_)
      refine lv_aload_n hx hb dX1_countWindings_21 rfl (lv_at hl 0 rfl) ?_
      refine va_get (D := D) (ci := 1) (v := .long (gl fl 0)) (C := RX1) (T := TX1) (N := 11) hx hb hg inGX1 hown hK hP 2 xo2 rfl 9 (by decide) (hg _ mw_115) (fun _ h9 => h9) (xvX1_9 rfl) dX1_countWindings_22 ?_
      refine lv_aload_n hx hb dX1_countWindings_25 rfl (lv_at hl 0 rfl) ?_
      refine va_get (D := D) (ci := 1) (v := .ref (ad 15)) (C := RX1) (T := TX1) (N := 11) hx hb hg inGX1 hown hK hP 2 xo2 rfl 3 (by decide) (hg _ mw_99) (fun _ h9 => h9) xvX1_3 dX1_countWindings_26 ?_
      refine lv_iload_n hx hb dX1_countWindings_29 rfl (lv_at hl 2 rfl) ?_
      refine kI (rSN hx hb hml hown hg hN hK hP hD (c_at l D cI cJ (XW ad cI cJ co fl ra li re wa pi) 15 (ad 15) 80 (gA fl 3) (nI i_1) (xg15 rfl) (by decide)) mw_84 nw_65 mw_85 mw_77 pd_X7_at ⟨Nat.le_of_ble_eq_true rfl, Nat.le_of_ble_eq_true rfl⟩ rfl hl.1 rfl (Nat.le_of_ble_eq_true rfl) dX1_countWindings_30 ⟨Nat.le_of_ble_eq_true rfl, Nat.le_of_ble_eq_true rfl⟩) hD hS hA (fun r_3 u_3 H locs hp hP hD hS => ?_)
      obtain ⟨er, eu⟩ := hp
      obtain rfl := er.symm
      obtain rfl := eu.symm
      refine kI (rSN hx hb hml hown hg hN hK hP hD (c_has l D cI cJ (XW ad cI cJ co fl ra li re wa pi) (gl fl 0) (rd (gA fl 3) 80 (nI i_1))) mw_89 nw_68 mw_90 mw_77 pd_X7_has ⟨Nat.le_of_ble_eq_true rfl, Nat.le_of_ble_eq_true rfl⟩ rfl hl.1 rfl (Nat.le_of_ble_eq_true rfl) dX1_countWindings_33 ⟨Nat.le_of_ble_eq_true rfl, Nat.le_of_ble_eq_true rfl⟩) hD hS hA (fun r_4 u_4 H locs hp hP hD hS => ?_)
      obtain ⟨er, eu⟩ := hp
      obtain rfl := er.symm
      obtain rfl := eu.symm
      refine lv_if_eq (tgt := 42) hx hb dX1_countWindings_36 (by decide) (fun c_36 => ?_) (fun c_36 => ?_)
      · have c_36 : ¬ (hs (gl fl 0) (rd (gA fl 3) 80 (nI i_1))) = true := b2i_0 c_36
        refine lv_iinc (v := (nI (i_1 + 1))) (lv' := [(2, .int (nI (i_1 + 1))), (0, .ref (ad 2)), (1, .int p_1)]) hx hb dX1_countWindings_42 hl (k := 2) rfl (nI_1 i_1) (by decide) rfl (fun ls hl => ?_)
        refine lv_goto (tgt := 13) hx hb dX1_countWindings_45 (by decide) ?_
        exact ih_1 p_1 H locs ls ⟨((show p_1 = (windStep fl) i_1 p_1 from (by simp only [windStep, eq_false c_4, bf_of c_36, gi_sl, gi_sA, gi_sB, gi_si_s, gi_si_n, gl_si, gl_sA, gl_sB, gl_sl_s, gl_sl_n, gA_si, gA_sl, gA_sB, gA_sA_s, gA_sA_n, gB_si, gB_sl, gB_sA, gB_sB_s, gB_sB_n, Nat.reduceBEq, if_true, if_false, eq_self, Bool.false_eq_true, Bool.true_eq_false, not_true_eq_false, not_false_eq_true, decide_true, decide_false, cond_true, cond_false, Bool.true_and, Bool.false_and, Bool.and_true, Bool.and_false, Bool.true_or, Bool.false_or, Bool.or_true, Bool.or_false, b2i_tt, b2i_ff, pr_eta]; done)).trans (lp_go h_1)), hP, hD, hS, lv_sub hl [1, 2, 0] rfl⟩
      · have c_36 : (hs (gl fl 0) (rd (gA fl 3) 80 (nI i_1))) = true := b2i_1 c_36
        refine lv_iinc (v := (p_1 + 1)) (lv' := [(1, .int (p_1 + 1)), (0, .ref (ad 2)), (2, .int (nI i_1))]) hx hb dX1_countWindings_39 hl (k := 1) rfl rfl (by decide) rfl (fun ls hl => ?_)
        refine lv_iinc (v := (nI (i_1 + 1))) (lv' := [(2, .int (nI (i_1 + 1))), (1, .int (p_1 + 1)), (0, .ref (ad 2))]) hx hb dX1_countWindings_42 hl (k := 2) rfl (nI_1 i_1) (by decide) rfl (fun ls hl => ?_)
        refine lv_goto (tgt := 13) hx hb dX1_countWindings_45 (by decide) ?_
        exact ih_1 (p_1 + 1) H locs ls ⟨((show (p_1 + 1) = (windStep fl) i_1 p_1 from (by simp only [windStep, eq_false c_4, c_36, gi_sl, gi_sA, gi_sB, gi_si_s, gi_si_n, gl_si, gl_sA, gl_sB, gl_sl_s, gl_sl_n, gA_si, gA_sl, gA_sB, gA_sA_s, gA_sA_n, gB_si, gB_sl, gB_sA, gB_sB_s, gB_sB_n, Nat.reduceBEq, if_true, if_false, eq_self, Bool.false_eq_true, Bool.true_eq_false, not_true_eq_false, not_false_eq_true, decide_true, decide_false, cond_true, cond_false, Bool.true_and, Bool.false_and, Bool.and_true, Bool.and_false, Bool.true_or, Bool.false_or, Bool.or_true, Bool.or_false, b2i_tt, b2i_ff, pr_eta]; done)).trans (lp_go h_1)), hP, hD, hS, lv_sub hl [2, 1, 0] rfl⟩
  · refine lv_iconst (v := 0) hx hb dX1_countWindings_7 (by decide) ?_
    exact W.iret (v := 0) hx hb hr (fun t ht hW => ⟨⟨0, (XW ad cI cJ co fl ra li re wa pi), rfl, ⟨(show (0 : Int32) = (windings fl) from (by simp only [windings, eq_true c_4, gi_sl, gi_sA, gi_sB, gi_si_s, gi_si_n, gl_si, gl_sA, gl_sB, gl_sl_s, gl_sl_n, gA_si, gA_sl, gA_sB, gA_sA_s, gA_sA_n, gB_si, gB_sl, gB_sA, gB_sB_s, gB_sB_n, Nat.reduceBEq, if_true, if_false, eq_self, Bool.false_eq_true, Bool.true_eq_false, not_true_eq_false, not_false_eq_true, decide_true, decide_false, cond_true, cond_false, Bool.true_and, Bool.false_and, Bool.and_true, Bool.and_false, Bool.true_or, Bool.false_or, Bool.or_true, Bool.or_false, b2i_tt, b2i_ff, pr_eta]; done)), xw_eq rfl rfl rfl rfl rfl rfl rfl⟩, ⟨by rw [ht]; exact hP, va_K.moved hW.alike hK, hD⟩⟩, hS.F ht⟩) hS.2.2 dX1_countWindings_8
