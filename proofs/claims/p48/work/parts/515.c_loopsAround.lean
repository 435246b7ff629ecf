theorem dX4_loopsAround_0 : decode cX4_loopsAround 0 = .ok (.iconst 0, 1) := by decide +kernel
theorem dX4_loopsAround_1 : decode cX4_loopsAround 1 = .ok (.istore_n 2, 1) := by decide +kernel
theorem dX4_loopsAround_2 : decode cX4_loopsAround 2 = .ok (.iconst 0, 1) := by decide +kernel
theorem dX4_loopsAround_3 : decode cX4_loopsAround 3 = .ok (.istore_n 3, 1) := by decide +kernel
theorem dX4_loopsAround_4 : decode cX4_loopsAround 4 = .ok (.iload_n 3, 1) := by decide +kernel
theorem dX4_loopsAround_5 : decode cX4_loopsAround 5 = .ok (.bipush 40, 2) := by decide +kernel
theorem dX4_loopsAround_7 : decode cX4_loopsAround 7 = .ok (.if_icmp .ge 27, 3) := by decide +kernel
theorem dX4_loopsAround_10 : decode cX4_loopsAround 10 = .ok (.aload_n 0, 1) := by decide +kernel
theorem dX4_loopsAround_11 : decode cX4_loopsAround 11 = .ok (.getfield 15, 3) := by decide +kernel
theorem dX4_loopsAround_14 : decode cX4_loopsAround 14 = .ok (.iload_n 3, 1) := by decide +kernel
theorem dX4_loopsAround_15 : decode cX4_loopsAround 15 = .ok (.invokestatic 61, 3) := by decide +kernel
theorem dX4_loopsAround_18 : decode cX4_loopsAround 18 = .ok (.iload_n 1, 1) := by decide +kernel
theorem dX4_loopsAround_19 : decode cX4_loopsAround 19 = .ok (.invokestatic 30, 3) := by decide +kernel
theorem dX4_loopsAround_22 : decode cX4_loopsAround 22 = .ok (.ifCond .eq 6, 3) := by decide +kernel
theorem dX4_loopsAround_25 : decode cX4_loopsAround 25 = .ok (.iinc 2 1, 3) := by decide +kernel
theorem dX4_loopsAround_28 : decode cX4_loopsAround 28 = .ok (.iinc 3 1, 3) := by decide +kernel
theorem dX4_loopsAround_31 : decode cX4_loopsAround 31 = .ok (.goto (-27), 3) := by decide +kernel
theorem dX4_loopsAround_34 : decode cX4_loopsAround 34 = .ok (.iload_n 2, 1) := by decide +kernel
theorem dX4_loopsAround_35 : decode cX4_loopsAround 35 = .ok (.ireturn, 1) := by decide +kernel
set_option maxHeartbeats 4000000 in
set_option maxRecDepth 100000 in
theorem c_loopsAround (l : Launch) (D : va_G) (cI cJ : ClassId) (ad : Nat → Nat) (co fl ra li re wa pi : Ob) (k1 : Int32) : CT l D (TY cI cJ) yX4_loopsAround (.code yX4_loopsAround cX4_loopsAround 4 (some Jvm.ClassFile.FieldType.int)) 1 0 0 (XW ad cI cJ co fl ra li re wa pi) [.ref (ad 3), .int k1] (QI D (TY cI cJ) (fun r u => r = (depth ra k1) ∧ u = (XW ad cI cJ co fl ra li re wa pi))) := by
  refine ent (by decide) (Nat.le_of_ble_eq_true rfl) ?_
  intro p e s m below meth c ls A hx hb hr hg hown hml hlocks hnm hP hK hD hS hA hN hl
  have hl : lv_has ls 4 [(0, .ref (ad 3)), (1, .int k1)] := hl
  refine lv_iconst (v := 0) hx hb dX4_loopsAround_0 (by decide) ?_
  refine lv_istore_n (lv' := [(2, .int 0), (0, .ref (ad 3)), (1, .int k1)]) hx hb dX4_loopsAround_1 rfl hl (by decide) rfl (fun ls hl => ?_)
  refine lv_iconst (v := 0) hx hb dX4_loopsAround_2 (by decide) ?_
  refine lv_istore_n (lv' := [(3, .int 0), (2, .int 0), (0, .ref (ad 3)), (1, .int k1)]) hx hb dX4_loopsAround_3 rfl hl (by decide) rfl (fun ls hl => ?_)
  refine w_loop (σ := Int32) (fun (i_1 : Nat) (p_1 : Int32) (H : Heap) (locs : List Loc) (ls : Array Slot) => p_1 = (lp (depStep ra k1) i_1 0) ∧ va_P D vwCl (XW ad cI cJ co fl ra li re wa pi) H ∧ va_D A (XW ad cI cJ co fl ra li re wa pi) ∧ va_S A s.heap H locs ∧ lv_has ls 4 [(0, .ref (ad 3)), (1, .int k1), (2, .int p_1), (3, .int (nI i_1))]) (40) (fun p_1 H locs ls hI => ?_) (fun i_1 p_1 H locs ls hi_1 hI ih_1 => ?_) 0 0 (Nat.zero_le _) ⟨(lp_0 _ _), hP, hD, hS, (by rw [nI_0]; exact lv_sub hl [2, 3, 1, 0] rfl)⟩
  · obtain ⟨h_1, hP, hD, hS, hl⟩ := hI
    have h_1 := h_1.symm
    subst h_1
    have hP : va_P D vwCl (XW ad cI cJ co fl ra li re wa pi) H := hP
    have hD : va_D A (XW ad cI cJ co fl ra li re wa pi) := hD
    have hl : lv_has ls 4 [(0, .ref (ad 3)), (1, .int k1), (2, .int ((lp (depStep ra k1) (40) 0))), (3, .int (nI 40))] := hl
    refine lv_iload_n hx hb dX4_loopsAround_4 rfl (lv_at hl 3 rfl) ?_
    refine lv_bipush (v := 40) hx hb dX4_loopsAround_5 (by decide) ?_
    refine lv_icmp_ge (tgt := 34) hx hb dX4_loopsAround_7 (by decide) (fun _ => ?_) (fun c_7 => absurd (by decide) c_7)
    refine lv_iload_n hx hb dX4_loopsAround_34 rfl (lv_at hl 2 rfl) ?_
    exact W.iret (v := ((lp (depStep ra k1) (40) 0))) hx hb hr (fun t ht hW => ⟨⟨((lp (depStep ra k1) (40) 0)), (XW ad cI cJ co fl ra li re wa pi), rfl, ⟨(show (((lp (depStep ra k1) (40) 0)) : Int32) = (depth ra k1) from (by first | with_reducible rfl | (simp only [depth, gi_sl, gi_sA, gi_sB, gi_si_s, gi_si_n, gl_si, gl_sA, gl_sB, gl_sl_s, gl_sl_n, gA_si, gA_sl, gA_sB, gA_sA_s, gA_sA_n, gB_si, gB_sl, gB_sA, gB_sB_s, gB_sB_n, Nat.reduceBEq, if_true, if_false, eq_self, Bool.false_eq_true, Bool.true_eq_false, not_true_eq_false, not_false_eq_true, decide_true, decide_false, cond_true, cond_false, Bool.true_and, Bool.false_and, Bool.and_true, Bool.and_false, Bool.true_or, Bool.false_or, Bool.or_true, Bool.or_false, b2i_tt, b2i_ff, pr_eta]; done))), xw_eq rfl rfl rfl rfl rfl rfl rfl⟩, ⟨by rw [ht]; exact hP, va_K.moved hW.alike hK, hD⟩⟩, hS.F ht⟩) hS.2.2 dX4_loopsAround_35
  · obtain ⟨h_1, hP, hD, hS, hl⟩ := hI
    have hP : va_P D vwCl (XW ad cI cJ co fl ra li re wa pi) H := hP
    have hD : va_D A (XW ad cI cJ co fl ra li re wa pi) := hD
    have hl : lv_has ls 4 [(0, .ref (ad 3)), (1, .int k1), (2, .int p_1), (3, .int (nI i_1))] := hl
    refine lv_iload_n hx hb dX4_loopsAround_4 rfl (lv_at hl 3 rfl) ?_
    refine lv_bipush (v := 40) hx hb dX4_loopsAround_5 (by decide) ?_
    refine lv_icmp_ge (tgt := 34) hx hb dX4_loopsAround_7 (by decide) (fun c_7 => absurd c_7 (nI_ge hi_1 (by decide))) (fun _ => ?_)
    refine lv_aload_n hx hb dX4_loopsAround_10 rfl (lv_at hl 0 rfl) ?_
    refine va_get (D := D) (ci := 4) (v := .ref (ad 20)) (C := RX4) (T := TX4) (N := 7) hx hb hg inGX4 hown hK hP 3 xo3 rfl 1 (by decide) (hg _ mw_132) (fun _ h9 => h9) xvX4_1 dX4_loopsAround_11 ?_
    refine lv_iload_n hx hb dX4_loopsAround_14 rfl (lv_at hl 3 rfl) ?_
    refine kL (rSN hx hb hml hown hg hN hK hP hD (c_atL l D cI cJ (XW ad cI cJ co fl ra li re wa pi) 20 (ad 20) 40 (gB ra 1) (nI i_1) (xg20 rfl) (by decide)) mw_81 nw_78 mw_83 mw_77 pd_X7_at_ ⟨Nat.le_of_ble_eq_true rfl, Nat.le_of_ble_eq_true rfl⟩ rfl hl.1 rfl (Nat.le_of_ble_eq_true rfl) dX4_loopsAround_15 ⟨Nat.le_of_ble_eq_true rfl, Nat.le_of_ble_eq_true rfl⟩) hD hS hA (fun r_2 u_2 H locs hp hP hD hS => ?_)
    obtain ⟨er, eu⟩ := hp
    obtain rfl := er.symm
    obtain rfl := eu.symm
    refine lv_iload_n hx hb dX4_loopsAround_18 rfl (lv_at hl 1 rfl) ?_
    refine kI (rSN hx hb hml hown hg hN hK hP hD (c_has l D cI cJ (XW ad cI cJ co fl ra li re wa pi) (rdL (gB ra 1) 40 (nI i_1)) k1) mw_89 nw_73 mw_90 mw_77 pd_X7_has ⟨Nat.le_of_ble_eq_true rfl, Nat.le_of_ble_eq_true rfl⟩ rfl hl.1 rfl (Nat.le_of_ble_eq_true rfl) dX4_loopsAround_19 ⟨Nat.le_of_ble_eq_true rfl, Nat.le_of_ble_eq_true rfl⟩) hD hS hA (fun r_3 u_3 H locs hp hP hD hS => ?_)
    obtain ⟨er, eu⟩ := hp
    obtain rfl := er.symm
    obtain rfl := eu.symm
    refine lv_if_eq (tgt := 28) hx hb dX4_loopsAround_22 (by decide) (fun c_22 => ?_) (fun c_22 => ?_)
    · have c_22 : ¬ (hs (rdL (gB ra 1) 40 (nI i_1)) k1) = true := b2i_0 c_22
      refine lv_iinc (v := (nI (i_1 + 1))) (lv' := [(3, .int (nI (i_1 + 1))), (0, .ref (ad 3)), (1, .int k1), (2, .int p_1)]) hx hb dX4_loopsAround_28 hl (k := 3) rfl (nI_1 i_1) (by decide) rfl (fun ls hl => ?_)
      refine lv_goto (tgt := 4) hx hb dX4_loopsAround_31 (by decide) ?_
      exact ih_1 p_1 H locs ls ⟨((show p_1 = (depStep ra k1) i_1 p_1 from (by simp only [depStep, bf_of c_22, gi_sl, gi_sA, gi_sB, gi_si_s, gi_si_n, gl_si, gl_sA, gl_sB, gl_sl_s, gl_sl_n, gA_si, gA_sl, gA_sB, gA_sA_s, gA_sA_n, gB_si, gB_sl, gB_sA, gB_sB_s, gB_sB_n, Nat.reduceBEq, if_true, if_false, eq_self, Bool.false_eq_true, Bool.true_eq_false, not_true_eq_false, not_false_eq_true, decide_true, decide_false, cond_true, cond_false, Bool.true_and, Bool.false_and, Bool.and_true, Bool.and_false, Bool.true_or, Bool.false_or, Bool.or_true, Bool.or_false, b2i_tt, b2i_ff, pr_eta]; done)).trans (lp_go h_1)), hP, hD, hS, lv_sub hl [1, 2, 3, 0] rfl⟩
    · have c_22 : (hs (rdL (gB ra 1) 40 (nI i_1)) k1) = true := b2i_1 c_22
      refine lv_iinc (v := (p_1 + 1)) (lv' := [(2, .int (p_1 + 1)), (0, .ref (ad 3)), (1, .int k1), (3, .int (nI i_1))]) hx hb dX4_loopsAround_25 hl (k := 2) rfl rfl (by decide) rfl (fun ls hl => ?_)
      refine lv_iinc (v := (nI (i_1 + 1))) (lv' := [(3, .int (nI (i_1 + 1))), (2, .int (p_1 + 1)), (0, .ref (ad 3)), (1, .int k1)]) hx hb dX4_loopsAround_28 hl (k := 3) rfl (nI_1 i_1) (by decide) rfl (fun ls hl => ?_)
      refine lv_goto (tgt := 4) hx hb dX4_loopsAround_31 (by decide) ?_
      exact ih_1 (p_1 + 1) H locs ls ⟨((show (p_1 + 1) = (depStep ra k1) i_1 p_1 from (by simp only [depStep, c_22, gi_sl, gi_sA, gi_sB, gi_si_s, gi_si_n, gl_si, gl_sA, gl_sB, gl_sl_s, gl_sl_n, gA_si, gA_sl, gA_sB, gA_sA_s, gA_sA_n, gB_si, gB_sl, gB_sA, gB_sB_s, gB_sB_n, Nat.reduceBEq, if_true, if_false, eq_self, Bool.false_eq_true, Bool.true_eq_false, not_true_eq_false, not_false_eq_true, decide_true, decide_false, cond_true, cond_false, Bool.true_and, Bool.false_and, Bool.and_true, Bool.and_false, Bool.true_or, Bool.false_or, Bool.or_true, Bool.or_false, b2i_tt, b2i_ff, pr_eta]; done)).trans (lp_go h_1)), hP, hD, hS, lv_sub hl [2, 3, 1, 0] rfl⟩
