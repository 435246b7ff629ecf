theorem dX2_behind_0 : decode cX2_behind 0 = .ok (.aload_n 1, 1) := by decide +kernel
theorem dX2_behind_1 : decode cX2_behind 1 = .ok (.getfield 67, 3) := by decide +kernel
theorem dX2_behind_4 : decode cX2_behind 4 = .ok (.iload_n 2, 1) := by decide +kernel
theorem dX2_behind_5 : decode cX2_behind 5 = .ok (.invokestatic 71, 3) := by decide +kernel
theorem dX2_behind_8 : decode cX2_behind 8 = .ok (.lstore_n 3, 1) := by decide +kernel
theorem dX2_behind_9 : decode cX2_behind 9 = .ok (.iconst 0, 1) := by decide +kernel
theorem dX2_behind_10 : decode cX2_behind 10 = .ok (.istore 5, 2) := by decide +kernel
theorem dX2_behind_12 : decode cX2_behind 12 = .ok (.iconst 0, 1) := by decide +kernel
theorem dX2_behind_13 : decode cX2_behind 13 = .ok (.istore 6, 2) := by decide +kernel
theorem dX2_behind_15 : decode cX2_behind 15 = .ok (.iload 6, 2) := by decide +kernel
theorem dX2_behind_17 : decode cX2_behind 17 = .ok (.aload_n 1, 1) := by decide +kernel
theorem dX2_behind_18 : decode cX2_behind 18 = .ok (.getfield 27, 3) := by decide +kernel
theorem dX2_behind_21 : decode cX2_behind 21 = .ok (.if_icmp .ge 32, 3) := by decide +kernel
theorem dX2_behind_24 : decode cX2_behind 24 = .ok (.lload_n 3, 1) := by decide +kernel
theorem dX2_behind_25 : decode cX2_behind 25 = .ok (.iload 6, 2) := by decide +kernel
theorem dX2_behind_27 : decode cX2_behind 27 = .ok (.invokestatic 36, 3) := by decide +kernel
theorem dX2_behind_30 : decode cX2_behind 30 = .ok (.ifCond .eq 17, 3) := by decide +kernel
theorem dX2_behind_33 : decode cX2_behind 33 = .ok (.iload 5, 2) := by decide +kernel
theorem dX2_behind_35 : decode cX2_behind 35 = .ok (.aload_n 0, 1) := by decide +kernel
theorem dX2_behind_36 : decode cX2_behind 36 = .ok (.getfield 9, 3) := by decide +kernel
theorem dX2_behind_39 : decode cX2_behind 39 = .ok (.iload 6, 2) := by decide +kernel
theorem dX2_behind_41 : decode cX2_behind 41 = .ok (.invokestatic 51, 3) := by decide +kernel
theorem dX2_behind_44 : decode cX2_behind 44 = .ok (.ior, 1) := by decide +kernel
theorem dX2_behind_45 : decode cX2_behind 45 = .ok (.istore 5, 2) := by decide +kernel
theorem dX2_behind_47 : decode cX2_behind 47 = .ok (.iinc 6 1, 3) := by decide +kernel
theorem dX2_behind_50 : decode cX2_behind 50 = .ok (.goto (-35), 3) := by decide +kernel
theorem dX2_behind_53 : decode cX2_behind 53 = .ok (.iload 5, 2) := by decide +kernel
theorem dX2_behind_55 : decode cX2_behind 55 = .ok (.ireturn, 1) := by decide +kernel
theorem mw_147 : Cond.fieldLink RX2 9 "OrielChart$Lives" "live" "[I" ∈ GW := gw_mem (inT1 _ (List.mem_of_getElem? (i := 160) rfl)) rfl
set_option maxHeartbeats 4000000 in
set_option maxRecDepth 100000 in
theorem c_behind (l : Launch) (D : va_G) (cI cJ : ClassId) (ad : Nat → Nat) (co fl ra li re wa pi : Ob) (k1 : Int32) : CT l D (TY cI cJ) yX2_behind (.code yX2_behind cX2_behind 7 (some Jvm.ClassFile.FieldType.int)) 1 0 0 (XW ad cI cJ co fl ra li re wa pi) [.ref (ad 4), .ref (ad 2), .int k1] (QI D (TY cI cJ) (fun r u => r = (behind fl li k1) ∧ u = (XW ad cI cJ co fl ra li re wa pi))) := by
  refine ent (by decide) (Nat.le_of_ble_eq_true rfl) ?_
  intro p e s m below meth c ls A hx hb hr hg hown hml hlocks hnm hP hK hD hS hA hN hl
  have hl : lv_has ls 7 [(0, .ref (ad 4)), (1, .ref (ad 2)), (2, .int k1)] := hl
  refine lv_aload_n hx hb dX2_behind_0 rfl (lv_at hl 1 rfl) ?_
  refine va_getN (D := D) (ci := 1) (v := .ref (ad 18)) (C := RX1) (T := TX1) (N := 11) hx hb hg inGX1 hown hK hP 2 xo2 rfl 6 (by decide) (hN.use nw_24) (fun _ h9 => h9) xvX1_6 dX2_behind_1 ?_
  refine lv_iload_n hx hb dX2_behind_4 rfl (lv_at hl 2 rfl) ?_
  refine kL (rSN hx hb hml hown hg hN hK hP hD (c_atL l D cI cJ (XW ad cI cJ co fl ra li re wa pi) 18 (ad 18) 40 (gB fl 0) k1 (xg18 rfl) (by decide)) mw_81 nw_81 mw_83 mw_77 pd_X7_at_ ⟨Nat.le_of_ble_eq_true rfl, Nat.le_of_ble_eq_true rfl⟩ rfl hl.1 rfl (Nat.le_of_ble_eq_true rfl) dX2_behind_5 ⟨Nat.le_of_ble_eq_true rfl, Nat.le_of_ble_eq_true rfl⟩) hD hS hA (fun r_1 u_1 H locs hp hP hD hS => ?_)
  obtain ⟨er, eu⟩ := hp
  obtain rfl := er.symm
  obtain rfl := eu.symm
  refine lv_lstore_n (lv' := [(3, .long (rdL (gB fl 0) 40 k1)), (0, .ref (ad 4)), (1, .ref (ad 2)), (2, .int k1)]) hx hb dX2_behind_8 rfl hl (by decide) rfl (fun ls hl => ?_)
  refine lv_iconst (v := 0) hx hb dX2_behind_9 (by decide) ?_
  refine lv_istore (lv' := [(5, .int 0), (3, .long (rdL (gB fl 0) 40 k1)), (0, .ref (ad 4)), (1, .ref (ad 2)), (2, .int k1)]) hx hb dX2_behind_10 hl (by decide) rfl (fun ls hl => ?_)
  refine lv_iconst (v := 0) hx hb dX2_behind_12 (by decide) ?_
  refine lv_istore (lv' := [(6, .int 0), (5, .int 0), (3, .long (rdL (gB fl 0) 40 k1)), (0, .ref (ad 4)), (1, .ref (ad 2)), (2, .int k1)]) hx hb dX2_behind_13 hl (by decide) rfl (fun ls hl => ?_)
  refine w_loop (σ := Int32) (fun (i_2 : Nat) (p_2 : Int32) (H : Heap) (locs : List Loc) (ls : Array Slot) => p_2 = (lp (behStep fl li k1) i_2 0) ∧ va_P D vwCl (XW ad cI cJ co fl ra li re wa pi) H ∧ va_D A (XW ad cI cJ co fl ra li re wa pi) ∧ va_S A s.heap H locs ∧ lv_has ls 7 [(0, .ref (ad 4)), (1, .ref (ad 2)), (2, .int k1), (3, .long (rdL (gB fl 0) 40 k1)), (5, .int p_2), (6, .int (nI i_2))]) (nN (gi fl 0)) (fun p_2 H locs ls hI => ?_) (fun i_2 p_2 H locs ls hi_2 hI ih_2 => ?_) 0 0 (Nat.zero_le _) ⟨(lp_0 _ _), hP, hD, hS, (by rw [nI_0]; exact lv_sub hl [3, 4, 5, 2, 1, 0] rfl)⟩
  · obtain ⟨h_2, hP, hD, hS, hl⟩ := hI
    have h_2 := h_2.symm
    subst h_2
    have hP : va_P D vwCl (XW ad cI cJ co fl ra li re wa pi) H := hP
    have hD : va_D A (XW ad cI cJ co fl ra li re wa pi) := hD
    have hl : lv_has ls 7 [(0, .ref (ad 4)), (1, .ref (ad 2)), (2, .int k1), (3, .long (rdL (gB fl 0) 40 k1)), (5, .int ((lp (behStep fl li k1) (nN (gi fl 0)) 0))), (6, .int (nI ((nN (gi fl 0)))))] := hl
    refine lv_iload hx hb dX2_behind_15 (lv_at hl 5 rfl) ?_
    refine lv_aload_n hx hb dX2_behind_17 rfl (lv_at hl 1 rfl) ?_
    refine va_getN (D := D) (ci := 1) (v := .int (gi fl 0)) (C := RX1) (T := TX1) (N := 11) hx hb hg inGX1 hown hK hP 2 xo2 rfl 7 (by decide) (hN.use nw_26) (fun _ h9 => h9) (xvX1_7 rfl) dX2_behind_18 ?_
    refine lv_icmp_ge (tgt := 53) hx hb dX2_behind_21 (by decide) (fun _ => ?_) (fun c_21 => absurd (lp_out _) c_21)
    refine lv_iload hx hb dX2_behind_53 (lv_at hl 4 rfl) ?_
    exact W.iret (v := ((lp (behStep fl li k1) (nN (gi fl 0)) 0))) hx hb hr (fun t ht hW => ⟨⟨((lp (behStep fl li k1) (nN (gi fl 0)) 0)), (XW ad cI cJ co fl ra li re wa pi), rfl, ⟨(show (((lp (behStep fl li k1) (nN (gi fl 0)) 0)) : Int32) = (behind fl li k1) from (by first | with_reducible rfl | (simp only [behind, gi_sl, gi_sA, gi_sB, gi_si_s, gi_si_n, gl_si, gl_sA, gl_sB, gl_sl_s, gl_sl_n, gA_si, gA_sl, gA_sB, gA_sA_s, gA_sA_n, gB_si, gB_sl, gB_sA, gB_sB_s, gB_sB_n, Nat.reduceBEq, if_true, if_false, eq_self, Bool.false_eq_true, Bool.true_eq_false, not_true_eq_false, not_false_eq_true, decide_true, decide_false, cond_true, cond_false, Bool.true_and, Bool.false_and, Bool.and_true, Bool.and_false, Bool.true_or, Bool.false_or, Bool.or_true, Bool.or_false, b2i_tt, b2i_ff, pr_eta]; done))), xw_eq rfl rfl rfl rfl rfl rfl rfl⟩, ⟨by rw [ht]; exact hP, va_K.moved hW.alike hK, hD⟩⟩, hS.F ht⟩) hS.2.2 dX2_behind_55
  · obtain ⟨h_2, hP, hD, hS, hl⟩ := hI
    have hP : va_P D vwCl (XW ad cI cJ co fl ra li re wa pi) H := hP
    have hD : va_D A (XW ad cI cJ co fl ra li re wa pi) := hD
    have hl : lv_has ls 7 [(0, .ref (ad 4)), (1, .ref (ad 2)), (2, .int k1), (3, .long (rdL (gB fl 0) 40 k1)), (5, .int p_2), (6, .int (nI i_2))] := hl
    refine lv_iload hx hb dX2_behind_15 (lv_at hl 5 rfl) ?_
    refine lv_aload_n hx hb dX2_behind_17 rfl (lv_at hl 1 rfl) ?_
    refine va_getN (D := D) (ci := 1) (v := .int (gi fl 0)) (C := RX1) (T := TX1) (N := 11) hx hb hg inGX1 hown hK hP 2 xo2 rfl 7 (by decide) (hN.use nw_26) (fun _ h9 => h9) (xvX1_7 rfl) dX2_behind_18 ?_
    refine lv_icmp_ge (tgt := 53) hx hb dX2_behind_21 (by decide) (fun c_21 => absurd c_21 (lp_in hi_2)) (fun _ => ?_)
    refine lv_lload_n hx hb dX2_behind_24 rfl (lv_at hl 3 rfl) ?_
    refine lv_iload hx hb dX2_behind_25 (lv_at hl 5 rfl) ?_
    refine kI (rSN hx hb hml hown hg hN hK hP hD (c_has l D cI cJ (XW ad cI cJ co fl ra li re wa pi) (rdL (gB fl 0) 40 k1) (nI i_2)) mw_89 nw_80 mw_90 mw_77 pd_X7_has ⟨Nat.le_of_ble_eq_true rfl, Nat.le_of_ble_eq_true rfl⟩ rfl hl.1 rfl (Nat.le_of_ble_eq_true rfl) dX2_behind_27 ⟨Nat.le_of_ble_eq_true rfl, Nat.le_of_ble_eq_true rfl⟩) hD hS hA (fun r_3 u_3 H locs hp hP hD hS => ?_)
    obtain ⟨er, eu⟩ := hp
    obtain rfl := er.symm
    obtain rfl := eu.symm
    refine lv_if_eq (tgt := 47) hx hb dX2_behind_30 (by decide) (fun c_30 => ?_) (fun c_30 => ?_)
    · have c_30 : ¬ (hs (rdL (gB fl 0) 40 k1) (nI i_2)) = true := b2i_0 c_30
      refine lv_iinc (v := (nI (i_2 + 1))) (lv' := [(6, .int (nI (i_2 + 1))), (0, .ref (ad 4)), (1, .ref (ad 2)), (2, .int k1), (3, .long (rdL (gB fl 0) 40 k1)), (5, .int p_2)]) hx hb dX2_behind_47 hl (k := 5) rfl (nI_1 i_2) (by decide) rfl (fun ls hl => ?_)
      refine lv_goto (tgt := 15) hx hb dX2_behind_50 (by decide) ?_
      exact ih_2 p_2 H locs ls ⟨((show p_2 = (behStep fl li k1) i_2 p_2 from (by simp only [behStep, bf_of c_30, gi_sl, gi_sA, gi_sB, gi_si_s, gi_si_n, gl_si, gl_sA, gl_sB, gl_sl_s, gl_sl_n, gA_si, gA_sl, gA_sB, gA_sA_s, gA_sA_n, gB_si, gB_sl, gB_sA, gB_sB_s, gB_sB_n, Nat.reduceBEq, if_true, if_false, eq_self, Bool.false_eq_true, Bool.true_eq_false, not_true_eq_false, not_false_eq_true, decide_true, decide_false, cond_true, cond_false, Bool.true_and, Bool.false_and, Bool.and_true, Bool.and_false, Bool.true_or, Bool.false_or, Bool.or_true, Bool.or_false, b2i_tt, b2i_ff, pr_eta]; done)).trans (lp_go h_2)), hP, hD, hS, lv_sub hl [1, 2, 3, 4, 5, 0] rfl⟩
    · have c_30 : (hs (rdL (gB fl 0) 40 k1) (nI i_2)) = true := b2i_1 c_30
      refine lv_iload hx hb dX2_behind_33 (lv_at hl 4 rfl) ?_
      refine lv_aload_n hx hb dX2_behind_35 rfl (lv_at hl 0 rfl) ?_
      refine va_get (D := D) (ci := 2) (v := .ref (ad 23)) (C := RX2) (T := TX2) (N := 3) hx hb hg inGX2 hown hK hP 4 xo4 rfl 0 (by decide) (hg _ mw_147) (fun _ h9 => h9) xvX2_0 dX2_behind_36 ?_
      refine lv_iload hx hb dX2_behind_39 (lv_at hl 5 rfl) ?_
      refine kI (rSN hx hb hml hown hg hN hK hP hD (c_at l D cI cJ (XW ad cI cJ co fl ra li re wa pi) 23 (ad 23) 40 (gA li 0) (nI i_2) (xg23 rfl) (by decide)) mw_84 nw_82 mw_85 mw_77 pd_X7_at ⟨Nat.le_of_ble_eq_true rfl, Nat.le_of_ble_eq_true rfl⟩ rfl hl.1 rfl (Nat.le_of_ble_eq_true rfl) dX2_behind_41 ⟨Nat.le_of_ble_eq_true rfl, Nat.le_of_ble_eq_true rfl⟩) hD hS hA (fun r_4 u_4 H locs hp hP hD hS => ?_)
      obtain ⟨er, eu⟩ := hp
      obtain rfl := er.symm
      obtain rfl := eu.symm
      refine lv_ior hx hb dX2_behind_44 ?_
      refine lv_istore (lv' := [(5, .int (p_2 ||| (rd (gA li 0) 40 (nI i_2)))), (0, .ref (ad 4)), (1, .ref (ad 2)), (2, .int k1), (3, .long (rdL (gB fl 0) 40 k1)), (6, .int (nI i_2))]) hx hb dX2_behind_45 hl (by decide) rfl (fun ls hl => ?_)
      refine lv_iinc (v := (nI (i_2 + 1))) (lv' := [(6, .int (nI (i_2 + 1))), (5, .int (p_2 ||| (rd (gA li 0) 40 (nI i_2)))), (0, .ref (ad 4)), (1, .ref (ad 2)), (2, .int k1), (3, .long (rdL (gB fl 0) 40 k1))]) hx hb dX2_behind_47 hl (k := 5) rfl (nI_1 i_2) (by decide) rfl (fun ls hl => ?_)
      refine lv_goto (tgt := 15) hx hb dX2_behind_50 (by decide) ?_
      exact ih_2 (p_2 ||| (rd (gA li 0) 40 (nI i_2))) H locs ls ⟨((show (p_2 ||| (rd (gA li 0) 40 (nI i_2))) = (behStep fl li k1) i_2 p_2 from (by simp only [behStep, c_30, gi_sl, gi_sA, gi_sB, gi_si_s, gi_si_n, gl_si, gl_sA, gl_sB, gl_sl_s, gl_sl_n, gA_si, gA_sl, gA_sB, gA_sA_s, gA_sA_n, gB_si, gB_sl, gB_sA, gB_sB_s, gB_sB_n, Nat.reduceBEq, if_true, if_false, eq_self, Bool.false_eq_true, Bool.true_eq_false, not_true_eq_false, not_false_eq_true, decide_true, decide_false, cond_true, cond_false, Bool.true_and, Bool.false_and, Bool.and_true, Bool.and_false, Bool.true_or, Bool.false_or, Bool.or_true, Bool.or_false, b2i_tt, b2i_ff, pr_eta]; done)).trans (lp_go h_2)), hP, hD, hS, lv_sub hl [2, 3, 4, 5, 1, 0] rfl⟩
