theorem dX2_vainIn_0 : decode cX2_vainIn 0 = .ok (.iconst 0, 1) := by decide +kernel
theorem dX2_vainIn_1 : decode cX2_vainIn 1 = .ok (.istore 4, 2) := by decide +kernel
theorem dX2_vainIn_3 : decode cX2_vainIn 3 = .ok (.aload_n 0, 1) := by decide +kernel
theorem dX2_vainIn_4 : decode cX2_vainIn 4 = .ok (.aload_n 2, 1) := by decide +kernel
theorem dX2_vainIn_5 : decode cX2_vainIn 5 = .ok (.iload_n 3, 1) := by decide +kernel
theorem dX2_vainIn_6 : decode cX2_vainIn 6 = .ok (.invokevirtual 44, 3) := by decide +kernel
theorem dX2_vainIn_9 : decode cX2_vainIn 9 = .ok (.istore 5, 2) := by decide +kernel
theorem dX2_vainIn_11 : decode cX2_vainIn 11 = .ok (.aload_n 2, 1) := by decide +kernel
theorem dX2_vainIn_12 : decode cX2_vainIn 12 = .ok (.getfield 48, 3) := by decide +kernel
theorem dX2_vainIn_15 : decode cX2_vainIn 15 = .ok (.iload_n 3, 1) := by decide +kernel
theorem dX2_vainIn_16 : decode cX2_vainIn 16 = .ok (.invokestatic 51, 3) := by decide +kernel
theorem dX2_vainIn_19 : decode cX2_vainIn 19 = .ok (.istore 6, 2) := by decide +kernel
theorem dX2_vainIn_21 : decode cX2_vainIn 21 = .ok (.iload 6, 2) := by decide +kernel
theorem dX2_vainIn_23 : decode cX2_vainIn 23 = .ok (.aload_n 2, 1) := by decide +kernel
theorem dX2_vainIn_24 : decode cX2_vainIn 24 = .ok (.getfield 55, 3) := by decide +kernel
theorem dX2_vainIn_27 : decode cX2_vainIn 27 = .ok (.iload_n 3, 1) := by decide +kernel
theorem dX2_vainIn_28 : decode cX2_vainIn 28 = .ok (.invokestatic 51, 3) := by decide +kernel
theorem dX2_vainIn_31 : decode cX2_vainIn 31 = .ok (.if_icmp .lt 49, 3) := by decide +kernel
theorem dX2_vainIn_34 : decode cX2_vainIn 34 = .ok (.aload_n 1, 1) := by decide +kernel
theorem dX2_vainIn_35 : decode cX2_vainIn 35 = .ok (.getfield 62, 3) := by decide +kernel
theorem dX2_vainIn_38 : decode cX2_vainIn 38 = .ok (.iload 6, 2) := by decide +kernel
theorem dX2_vainIn_40 : decode cX2_vainIn 40 = .ok (.invokestatic 51, 3) := by decide +kernel
theorem dX2_vainIn_43 : decode cX2_vainIn 43 = .ok (.istore 7, 2) := by decide +kernel
theorem dX2_vainIn_45 : decode cX2_vainIn 45 = .ok (.iload 7, 2) := by decide +kernel
theorem dX2_vainIn_47 : decode cX2_vainIn 47 = .ok (.ifCond .lt 17, 3) := by decide +kernel
theorem dX2_vainIn_50 : decode cX2_vainIn 50 = .ok (.iload 5, 2) := by decide +kernel
theorem dX2_vainIn_52 : decode cX2_vainIn 52 = .ok (.i2l, 1) := by decide +kernel
theorem dX2_vainIn_53 : decode cX2_vainIn 53 = .ok (.iload 7, 2) := by decide +kernel
theorem dX2_vainIn_55 : decode cX2_vainIn 55 = .ok (.invokestatic 36, 3) := by decide +kernel
theorem dX2_vainIn_58 : decode cX2_vainIn 58 = .ok (.ifCond .ne 6, 3) := by decide +kernel
theorem dX2_vainIn_61 : decode cX2_vainIn 61 = .ok (.iinc 4 1, 3) := by decide +kernel
theorem dX2_vainIn_64 : decode cX2_vainIn 64 = .ok (.aload_n 1, 1) := by decide +kernel
theorem dX2_vainIn_65 : decode cX2_vainIn 65 = .ok (.iload 6, 2) := by decide +kernel
theorem dX2_vainIn_67 : decode cX2_vainIn 67 = .ok (.iload 5, 2) := by decide +kernel
theorem dX2_vainIn_69 : decode cX2_vainIn 69 = .ok (.invokestatic 58, 3) := by decide +kernel
theorem dX2_vainIn_72 : decode cX2_vainIn 72 = .ok (.istore 5, 2) := by decide +kernel
theorem dX2_vainIn_74 : decode cX2_vainIn 74 = .ok (.iinc 6 (-1), 3) := by decide +kernel
theorem dX2_vainIn_77 : decode cX2_vainIn 77 = .ok (.goto (-56), 3) := by decide +kernel
theorem dX2_vainIn_80 : decode cX2_vainIn 80 = .ok (.iload 4, 2) := by decide +kernel
theorem dX2_vainIn_82 : decode cX2_vainIn 82 = .ok (.ireturn, 1) := by decide +kernel
set_option maxHeartbeats 4000000 in
set_option maxRecDepth 100000 in
theorem c_vainIn (l : Launch) (D : va_G) (cI cJ : ClassId) (ad : Nat → Nat) (co fl ra li re wa pi : Ob) (k1 : Int32) (hfb : ¬ rd (gA fl 1) 40 k1 < 0) : CT l D (TY cI cJ) yX2_vainIn (.code yX2_vainIn cX2_vainIn 8 (some Jvm.ClassFile.FieldType.int)) 2 0 0 (XW ad cI cJ co fl ra li re wa pi) [.ref (ad 4), .ref (ad 1), .ref (ad 2), .int k1] (QI D (TY cI cJ) (fun r u => r = (vainIn co fl li k1) ∧ u = (XW ad cI cJ co fl ra li re wa pi))) := by
  refine ent (by decide) (Nat.le_of_ble_eq_true rfl) ?_
  intro p e s m below meth c ls A hx hb hr hg hown hml hlocks hnm hP hK hD hS hA hN hl
  have hl : lv_has ls 8 [(0, .ref (ad 4)), (1, .ref (ad 1)), (2, .ref (ad 2)), (3, .int k1)] := hl
  refine lv_iconst (v := 0) hx hb dX2_vainIn_0 (by decide) ?_
  refine lv_istore (lv' := [(4, .int 0), (0, .ref (ad 4)), (1, .ref (ad 1)), (2, .ref (ad 2)), (3, .int k1)]) hx hb dX2_vainIn_1 hl (by decide) rfl (fun ls hl => ?_)
  refine lv_aload_n hx hb dX2_vainIn_3 rfl (lv_at hl 1 rfl) ?_
  refine lv_aload_n hx hb dX2_vainIn_4 rfl (lv_at hl 3 rfl) ?_
  refine lv_iload_n hx hb dX2_vainIn_5 rfl (lv_at hl 4 rfl) ?_
  refine kI (rV (q0 := 4) (ci := 2) hx hb hml hown hg hN hK hP hD (c_behind l D cI cJ ad co fl ra li re wa pi k1) mw_148 mw_149 mw_150 mw_151 mw_152 pdv_X2_behind ⟨Nat.le_of_ble_eq_true rfl, Nat.le_of_ble_eq_true rfl⟩ rfl xo4 rfl hl.1 rfl (Nat.le_of_ble_eq_true rfl) dX2_vainIn_6 ⟨Nat.le_of_ble_eq_true rfl, Nat.le_of_ble_eq_true rfl⟩) hD hS hA (fun r_1 u_1 H locs hp hP hD hS => ?_)
  obtain ⟨er, eu⟩ := hp
  obtain rfl := er.symm
  obtain rfl := eu.symm
  refine lv_istore (lv' := [(5, .int (behind fl li k1)), (4, .int 0), (0, .ref (ad 4)), (1, .ref (ad 1)), (2, .ref (ad 2)), (3, .int k1)]) hx hb dX2_vainIn_9 hl (by decide) rfl (fun ls hl => ?_)
  refine lv_aload_n hx hb dX2_vainIn_11 rfl (lv_at hl 4 rfl) ?_
  refine va_getN (D := D) (ci := 1) (v := .ref (ad 14)) (C := RX1) (T := TX1) (N := 11) hx hb hg inGX1 hown hK hP 2 xo2 rfl 2 (by decide) (hN.use nw_15) (fun _ h9 => h9) xvX1_2 dX2_vainIn_12 ?_
  refine lv_iload_n hx hb dX2_vainIn_15 rfl (lv_at hl 5 rfl) ?_
  refine kI (rSN hx hb hml hown hg hN hK hP hD (c_at l D cI cJ (XW ad cI cJ co fl ra li re wa pi) 14 (ad 14) 40 (gA fl 2) k1 (xg14 rfl) (by decide)) mw_84 nw_82 mw_85 mw_77 pd_X7_at ⟨Nat.le_of_ble_eq_true rfl, Nat.le_of_ble_eq_true rfl⟩ rfl hl.1 rfl (Nat.le_of_ble_eq_true rfl) dX2_vainIn_16 ⟨Nat.le_of_ble_eq_true rfl, Nat.le_of_ble_eq_true rfl⟩) hD hS hA (fun r_2 u_2 H locs hp hP hD hS => ?_)
  obtain ⟨er, eu⟩ := hp
  obtain rfl := er.symm
  obtain rfl := eu.symm
  refine lv_istore (lv' := [(6, .int (rd (gA fl 2) 40 k1)), (5, .int (behind fl li k1)), (4, .int 0), (0, .ref (ad 4)), (1, .ref (ad 1)), (2, .ref (ad 2)), (3, .int k1)]) hx hb dX2_vainIn_19 hl (by decide) rfl (fun ls hl => ?_)
  refine w_loop (σ := Int32 × Int32) (fun (i_3 : Nat) (p_3 : Int32 × Int32) (H : Heap) (locs : List Loc) (ls : Array Slot) => p_3 = (lp (vainStep co fl k1) i_3 (0, (behind fl li k1))) ∧ va_P D vwCl (XW ad cI cJ co fl ra li re wa pi) H ∧ va_D A (XW ad cI cJ co fl ra li re wa pi) ∧ va_S A s.heap H locs ∧ lv_has ls 8 [(0, .ref (ad 4)), (1, .ref (ad 1)), (2, .ref (ad 2)), (3, .int k1), (4, .int p_3.1), (5, .int p_3.2), (6, .int ((rd (gA fl 2) 40 k1) - nI i_3))]) ((scanN fl k1)) (fun p_3 H locs ls hI => ?_) (fun i_3 p_3 H locs ls hi_3 hI ih_3 => ?_) 0 (0, (behind fl li k1)) (Nat.zero_le _) ⟨(lp_0 _ _), hP, hD, hS, (by rw [sub_nI0]; exact lv_sub hl [3, 4, 5, 6, 2, 1, 0] rfl)⟩
  · obtain ⟨h_3, hP, hD, hS, hl⟩ := hI
    have h_3 := h_3.symm
    subst h_3
    have hP : va_P D vwCl (XW ad cI cJ co fl ra li re wa pi) H := hP
    have hD : va_D A (XW ad cI cJ co fl ra li re wa pi) := hD
    have hl : lv_has ls 8 [(0, .ref (ad 4)), (1, .ref (ad 1)), (2, .ref (ad 2)), (3, .int k1), (4, .int ((lp (vainStep co fl k1) ((scanN fl k1)) (0, (behind fl li k1))).1)), (5, .int ((lp (vainStep co fl k1) ((scanN fl k1)) (0, (behind fl li k1))).2)), (6, .int ((rd (gA fl 2) 40 k1) - nI (((scanN fl k1)))))] := hl
    refine lv_iload hx hb dX2_vainIn_21 (lv_at hl 6 rfl) ?_
    refine lv_aload_n hx hb dX2_vainIn_23 rfl (lv_at hl 2 rfl) ?_
    refine va_getN (D := D) (ci := 1) (v := .ref (ad 13)) (C := RX1) (T := TX1) (N := 11) hx hb hg inGX1 hown hK hP 2 xo2 rfl 1 (by decide) (hN.use nw_13) (fun _ h9 => h9) xvX1_1 dX2_vainIn_24 ?_
    refine lv_iload_n hx hb dX2_vainIn_27 rfl (lv_at hl 3 rfl) ?_
    refine kI (rSN hx hb hml hown hg hN hK hP hD (c_at l D cI cJ (XW ad cI cJ co fl ra li re wa pi) 13 (ad 13) 40 (gA fl 1) k1 (xg13 rfl) (by decide)) mw_84 nw_82 mw_85 mw_77 pd_X7_at ⟨Nat.le_of_ble_eq_true rfl, Nat.le_of_ble_eq_true rfl⟩ rfl hl.1 rfl (Nat.le_of_ble_eq_true rfl) dX2_vainIn_28 ⟨Nat.le_of_ble_eq_true rfl, Nat.le_of_ble_eq_true rfl⟩) hD hS hA (fun r_4 u_4 H locs hp hP hD hS => ?_)
    obtain ⟨er, eu⟩ := hp
    obtain rfl := er.symm
    obtain rfl := eu.symm
    refine lv_icmp_lt (tgt := 80) hx hb dX2_vainIn_31 (by decide) (fun _ => ?_) (fun c_31 => absurd (sc_out hfb) c_31)
    refine lv_iload hx hb dX2_vainIn_80 (lv_at hl 4 rfl) ?_
    exact W.iret (v := ((lp (vainStep co fl k1) ((scanN fl k1)) (0, (behind fl li k1))).1)) hx hb hr (fun t ht hW => ⟨⟨((lp (vainStep co fl k1) ((scanN fl k1)) (0, (behind fl li k1))).1), (XW ad cI cJ co fl ra li re wa pi), rfl, ⟨(show (((lp (vainStep co fl k1) ((scanN fl k1)) (0, (behind fl li k1))).1) : Int32) = (vainIn co fl li k1) from (by first | with_reducible rfl | (simp only [vainIn, gi_sl, gi_sA, gi_sB, gi_si_s, gi_si_n, gl_si, gl_sA, gl_sB, gl_sl_s, gl_sl_n, gA_si, gA_sl, gA_sB, gA_sA_s, gA_sA_n, gB_si, gB_sl, gB_sA, gB_sB_s, gB_sB_n, Nat.reduceBEq, if_true, if_false, eq_self, Bool.false_eq_true, Bool.true_eq_false, not_true_eq_false, not_false_eq_true, decide_true, decide_false, cond_true, cond_false, Bool.true_and, Bool.false_and, Bool.and_true, Bool.and_false, Bool.true_or, Bool.false_or, Bool.or_true, Bool.or_false, b2i_tt, b2i_ff, pr_eta]; done))), xw_eq rfl rfl rfl rfl rfl rfl rfl⟩, ⟨by rw [ht]; exact hP, va_K.moved hW.alike hK, hD⟩⟩, hS.F ht⟩) hS.2.2 dX2_vainIn_82
  · obtain ⟨h_3, hP, hD, hS, hl⟩ := hI
    have hP : va_P D vwCl (XW ad cI cJ co fl ra li re wa pi) H := hP
    have hD : va_D A (XW ad cI cJ co fl ra li re wa pi) := hD
    have hl : lv_has ls 8 [(0, .ref (ad 4)), (1, .ref (ad 1)), (2, .ref (ad 2)), (3, .int k1), (4, .int p_3.1), (5, .int p_3.2), (6, .int ((rd (gA fl 2) 40 k1) - nI i_3))] := hl
    refine lv_iload hx hb dX2_vainIn_21 (lv_at hl 6 rfl) ?_
    refine lv_aload_n hx hb dX2_vainIn_23 rfl (lv_at hl 2 rfl) ?_
    refine va_getN (D := D) (ci := 1) (v := .ref (ad 13)) (C := RX1) (T := TX1) (N := 11) hx hb hg inGX1 hown hK hP 2 xo2 rfl 1 (by decide) (hN.use nw_13) (fun _ h9 => h9) xvX1_1 dX2_vainIn_24 ?_
    refine lv_iload_n hx hb dX2_vainIn_27 rfl (lv_at hl 3 rfl) ?_
    refine kI (rSN hx hb hml hown hg hN hK hP hD (c_at l D cI cJ (XW ad cI cJ co fl ra li re wa pi) 13 (ad 13) 40 (gA fl 1) k1 (xg13 rfl) (by decide)) mw_84 nw_82 mw_85 mw_77 pd_X7_at ⟨Nat.le_of_ble_eq_true rfl, Nat.le_of_ble_eq_true rfl⟩ rfl hl.1 rfl (Nat.le_of_ble_eq_true rfl) dX2_vainIn_28 ⟨Nat.le_of_ble_eq_true rfl, Nat.le_of_ble_eq_true rfl⟩) hD hS hA (fun r_5 u_5 H locs hp hP hD hS => ?_)
    obtain ⟨er, eu⟩ := hp
    obtain rfl := er.symm
    obtain rfl := eu.symm
    refine lv_icmp_lt (tgt := 80) hx hb dX2_vainIn_31 (by decide) (fun c_31 => absurd c_31 (sc_in hfb hi_3)) (fun _ => ?_)
    refine lv_aload_n hx hb dX2_vainIn_34 rfl (lv_at hl 1 rfl) ?_
    refine va_getN (D := D) (ci := 0) (v := .ref (ad 10)) (C := RX0) (T := TX0) (N := 5) hx hb hg inGX0 hown hK hP 1 xo1 rfl 2 (by decide) (hN.use nw_5) (fun _ h9 => h9) xvX0_2 dX2_vainIn_35 ?_
    refine lv_iload hx hb dX2_vainIn_38 (lv_at hl 6 rfl) ?_
    refine kI (rSN hx hb hml hown hg hN hK hP hD (c_at l D cI cJ (XW ad cI cJ co fl ra li re wa pi) 10 (ad 10) 40 (gA co 2) ((rd (gA fl 2) 40 k1) - nI i_3) (xg10 rfl) (by decide)) mw_84 nw_82 mw_85 mw_77 pd_X7_at ⟨Nat.le_of_ble_eq_true rfl, Nat.le_of_ble_eq_true rfl⟩ rfl hl.1 rfl (Nat.le_of_ble_eq_true rfl) dX2_vainIn_40 ⟨Nat.le_of_ble_eq_true rfl, Nat.le_of_ble_eq_true rfl⟩) hD hS hA (fun r_6 u_6 H locs hp hP hD hS => ?_)
    obtain ⟨er, eu⟩ := hp
    obtain rfl := er.symm
    obtain rfl := eu.symm
    refine lv_istore (lv' := [(7, .int (rd (gA co 2) 40 ((rd (gA fl 2) 40 k1) - nI i_3))), (0, .ref (ad 4)), (1, .ref (ad 1)), (2, .ref (ad 2)), (3, .int k1), (4, .int p_3.1), (5, .int p_3.2), (6, .int ((rd (gA fl 2) 40 k1) - nI i_3))]) hx hb dX2_vainIn_43 hl (by decide) rfl (fun ls hl => ?_)
    refine lv_iload hx hb dX2_vainIn_45 (lv_at hl 0 rfl) ?_
    refine lv_if_lt (tgt := 64) hx hb dX2_vainIn_47 (by decide) (fun c_47 => ?_) (fun c_47 => ?_)
    · refine lv_aload_n hx hb dX2_vainIn_64 rfl (lv_at hl 2 rfl) ?_
      refine lv_iload hx hb dX2_vainIn_65 (lv_at hl 7 rfl) ?_
      refine lv_iload hx hb dX2_vainIn_67 (lv_at hl 6 rfl) ?_
      refine kI (rS hx hb hml hown hg hN hK hP hD (c_ahead l D cI cJ ad co fl ra li re wa pi ((rd (gA fl 2) 40 k1) - nI i_3) p_3.2) mw_153 mw_154 mw_155 mw_152 pd_X2_ahead ⟨Nat.le_of_ble_eq_true rfl, Nat.le_of_ble_eq_true rfl⟩ rfl hl.1 rfl (Nat.le_of_ble_eq_true rfl) dX2_vainIn_69 ⟨Nat.le_of_ble_eq_true rfl, Nat.le_of_ble_eq_true rfl⟩) hD hS hA (fun r_7 u_7 H locs hp hP hD hS => ?_)
      obtain ⟨er, eu⟩ := hp
      obtain rfl := er.symm
      obtain rfl := eu.symm
      refine lv_istore (lv' := [(5, .int (ahead co ((rd (gA fl 2) 40 k1) - nI i_3) p_3.2)), (7, .int (rd (gA co 2) 40 ((rd (gA fl 2) 40 k1) - nI i_3))), (0, .ref (ad 4)), (1, .ref (ad 1)), (2, .ref (ad 2)), (3, .int k1), (4, .int p_3.1), (6, .int ((rd (gA fl 2) 40 k1) - nI i_3))]) hx hb dX2_vainIn_72 hl (by decide) rfl (fun ls hl => ?_)
      refine lv_iinc (v := ((rd (gA fl 2) 40 k1) - nI (i_3 + 1))) (lv' := [(6, .int ((rd (gA fl 2) 40 k1) - nI (i_3 + 1))), (5, .int (ahead co ((rd (gA fl 2) 40 k1) - nI i_3) p_3.2)), (7, .int (rd (gA co 2) 40 ((rd (gA fl 2) 40 k1) - nI i_3))), (0, .ref (ad 4)), (1, .ref (ad 1)), (2, .ref (ad 2)), (3, .int k1), (4, .int p_3.1)]) hx hb dX2_vainIn_74 hl (k := 7) rfl (sub_nI1 _ i_3) (by decide) rfl (fun ls hl => ?_)
      refine lv_goto (tgt := 21) hx hb dX2_vainIn_77 (by decide) ?_
      exact ih_3 (p_3.1, (ahead co ((rd (gA fl 2) 40 k1) - nI i_3) p_3.2)) H locs ls ⟨((show (p_3.1, (ahead co ((rd (gA fl 2) 40 k1) - nI i_3) p_3.2)) = (vainStep co fl k1) i_3 p_3 from (by simp only [vainStep, eq_true c_47, gi_sl, gi_sA, gi_sB, gi_si_s, gi_si_n, gl_si, gl_sA, gl_sB, gl_sl_s, gl_sl_n, gA_si, gA_sl, gA_sB, gA_sA_s, gA_sA_n, gB_si, gB_sl, gB_sA, gB_sB_s, gB_sB_n, Nat.reduceBEq, if_true, if_false, eq_self, Bool.false_eq_true, Bool.true_eq_false, not_true_eq_false, not_false_eq_true, decide_true, decide_false, cond_true, cond_false, Bool.true_and, Bool.false_and, Bool.and_true, Bool.and_false, Bool.true_or, Bool.false_or, Bool.or_true, Bool.or_false, b2i_tt, b2i_ff, pr_eta]; done)).trans (lp_go h_3)), hP, hD, hS, lv_sub hl [3, 4, 5, 6, 7, 1, 0] rfl⟩
    · refine lv_iload hx hb dX2_vainIn_50 (lv_at hl 6 rfl) ?_
      refine lv_i2l hx hb dX2_vainIn_52 rfl ?_
      refine lv_iload hx hb dX2_vainIn_53 (lv_at hl 0 rfl) ?_
      refine kI (rSN hx hb hml hown hg hN hK hP hD (c_has l D cI cJ (XW ad cI cJ co fl ra li re wa pi) p_3.2.toInt64 (rd (gA co 2) 40 ((rd (gA fl 2) 40 k1) - nI i_3))) mw_89 nw_80 mw_90 mw_77 pd_X7_has ⟨Nat.le_of_ble_eq_true rfl, Nat.le_of_ble_eq_true rfl⟩ rfl hl.1 rfl (Nat.le_of_ble_eq_true rfl) dX2_vainIn_55 ⟨Nat.le_of_ble_eq_true rfl, Nat.le_of_ble_eq_true rfl⟩) hD hS hA (fun r_8 u_8 H locs hp hP hD hS => ?_)
      obtain ⟨er, eu⟩ := hp
      obtain rfl := er.symm
      obtain rfl := eu.symm
      refine lv_if_ne (tgt := 64) hx hb dX2_vainIn_58 (by decide) (fun c_58 => ?_) (fun c_58 => ?_)
      · have c_58 : (hs p_3.2.toInt64 (rd (gA co 2) 40 ((rd (gA fl 2) 40 k1) - nI i_3))) = true := b2i_1 c_58
        refine lv_aload_n hx hb dX2_vainIn_64 rfl (lv_at hl 2 rfl) ?_
        refine lv_iload hx hb dX2_vainIn_65 (lv_at hl 7 rfl) ?_
        refine lv_iload hx hb dX2_vainIn_67 (lv_at hl 6 rfl) ?_
        refine kI (rS hx hb hml hown hg hN hK hP hD (c_ahead l D cI cJ ad co fl ra li re wa pi ((rd (gA fl 2) 40 k1) - nI i_3) p_3.2) mw_153 mw_154 mw_155 mw_152 pd_X2_ahead ⟨Nat.le_of_ble_eq_true rfl, Nat.le_of_ble_eq_true rfl⟩ rfl hl.1 rfl (Nat.le_of_ble_eq_true rfl) dX2_vainIn_69 ⟨Nat.le_of_ble_eq_true rfl, Nat.le_of_ble_eq_true rfl⟩) hD hS hA (fun r_9 u_9 H locs hp hP hD hS => ?_)
        obtain ⟨er, eu⟩ := hp
        obtain rfl := er.symm
        obtain rfl := eu.symm
        refine lv_istore (lv' := [(5, .int (ahead co ((rd (gA fl 2) 40 k1) - nI i_3) p_3.2)), (7, .int (rd (gA co 2) 40 ((rd (gA fl 2) 40 k1) - nI i_3))), (0, .ref (ad 4)), (1, .ref (ad 1)), (2, .ref (ad 2)), (3, .int k1), (4, .int p_3.1), (6, .int ((rd (gA fl 2) 40 k1) - nI i_3))]) hx hb dX2_vainIn_72 hl (by decide) rfl (fun ls hl => ?_)
        refine lv_iinc (v := ((rd (gA fl 2) 40 k1) - nI (i_3 + 1))) (lv' := [(6, .int ((rd (gA fl 2) 40 k1) - nI (i_3 + 1))), (5, .int (ahead co ((rd (gA fl 2) 40 k1) - nI i_3) p_3.2)), (7, .int (rd (gA co 2) 40 ((rd (gA fl 2) 40 k1) - nI i_3))), (0, .ref (ad 4)), (1, .ref (ad 1)), (2, .ref (ad 2)), (3, .int k1), (4, .int p_3.1)]) hx hb dX2_vainIn_74 hl (k := 7) rfl (sub_nI1 _ i_3) (by decide) rfl (fun ls hl => ?_)
        refine lv_goto (tgt := 21) hx hb dX2_vainIn_77 (by decide) ?_
        exact ih_3 (p_3.1, (ahead co ((rd (gA fl 2) 40 k1) - nI i_3) p_3.2)) H locs ls ⟨((show (p_3.1, (ahead co ((rd (gA fl 2) 40 k1) - nI i_3) p_3.2)) = (vainStep co fl k1) i_3 p_3 from (by simp only [vainStep, eq_false c_47, c_58, gi_sl, gi_sA, gi_sB, gi_si_s, gi_si_n, gl_si, gl_sA, gl_sB, gl_sl_s, gl_sl_n, gA_si, gA_sl, gA_sB, gA_sA_s, gA_sA_n, gB_si, gB_sl, gB_sA, gB_sB_s, gB_sB_n, Nat.reduceBEq, if_true, if_false, eq_self, Bool.false_eq_true, Bool.true_eq_false, not_true_eq_false, not_false_eq_true, decide_true, decide_false, cond_true, cond_false, Bool.true_and, Bool.false_and, Bool.and_true, Bool.and_false, Bool.true_or, Bool.false_or, Bool.or_true, Bool.or_false, b2i_tt, b2i_ff, pr_eta]; done)).trans (lp_go h_3)), hP, hD, hS, lv_sub hl [3, 4, 5, 6, 7, 1, 0] rfl⟩
      · have c_58 : ¬ (hs p_3.2.toInt64 (rd (gA co 2) 40 ((rd (gA fl 2) 40 k1) - nI i_3))) = true := b2i_0 c_58
        refine lv_iinc (v := (p_3.1 + 1)) (lv' := [(4, .int (p_3.1 + 1)), (7, .int (rd (gA co 2) 40 ((rd (gA fl 2) 40 k1) - nI i_3))), (0, .ref (ad 4)), (1, .ref (ad 1)), (2, .ref (ad 2)), (3, .int k1), (5, .int p_3.2), (6, .int ((rd (gA fl 2) 40 k1) - nI i_3))]) hx hb dX2_vainIn_61 hl (k := 5) rfl rfl (by decide) rfl (fun ls hl => ?_)
        refine lv_aload_n hx hb dX2_vainIn_64 rfl (lv_at hl 3 rfl) ?_
        refine lv_iload hx hb dX2_vainIn_65 (lv_at hl 7 rfl) ?_
        refine lv_iload hx hb dX2_vainIn_67 (lv_at hl 6 rfl) ?_
        refine kI (rS hx hb hml hown hg hN hK hP hD (c_ahead l D cI cJ ad co fl ra li re wa pi ((rd (gA fl 2) 40 k1) - nI i_3) p_3.2) mw_153 mw_154 mw_155 mw_152 pd_X2_ahead ⟨Nat.le_of_ble_eq_true rfl, Nat.le_of_ble_eq_true rfl⟩ rfl hl.1 rfl (Nat.le_of_ble_eq_true rfl) dX2_vainIn_69 ⟨Nat.le_of_ble_eq_true rfl, Nat.le_of_ble_eq_true rfl⟩) hD hS hA (fun r_10 u_10 H locs hp hP hD hS => ?_)
        obtain ⟨er, eu⟩ := hp
        obtain rfl := er.symm
        obtain rfl := eu.symm
        refine lv_istore (lv' := [(5, .int (ahead co ((rd (gA fl 2) 40 k1) - nI i_3) p_3.2)), (4, .int (p_3.1 + 1)), (7, .int (rd (gA co 2) 40 ((rd (gA fl 2) 40 k1) - nI i_3))), (0, .ref (ad 4)), (1, .ref (ad 1)), (2, .ref (ad 2)), (3, .int k1), (6, .int ((rd (gA fl 2) 40 k1) - nI i_3))]) hx hb dX2_vainIn_72 hl (by decide) rfl (fun ls hl => ?_)
        refine lv_iinc (v := ((rd (gA fl 2) 40 k1) - nI (i_3 + 1))) (lv' := [(6, .int ((rd (gA fl 2) 40 k1) - nI (i_3 + 1))), (5, .int (ahead co ((rd (gA fl 2) 40 k1) - nI i_3) p_3.2)), (4, .int (p_3.1 + 1)), (7, .int (rd (gA co 2) 40 ((rd (gA fl 2) 40 k1) - nI i_3))), (0, .ref (ad 4)), (1, .ref (ad 1)), (2, .ref (ad 2)), (3, .int k1)]) hx hb dX2_vainIn_74 hl (k := 7) rfl (sub_nI1 _ i_3) (by decide) rfl (fun ls hl => ?_)
        refine lv_goto (tgt := 21) hx hb dX2_vainIn_77 (by decide) ?_
        exact ih_3 ((p_3.1 + 1), (ahead co ((rd (gA fl 2) 40 k1) - nI i_3) p_3.2)) H locs ls ⟨((show ((p_3.1 + 1), (ahead co ((rd (gA fl 2) 40 k1) - nI i_3) p_3.2)) = (vainStep co fl k1) i_3 p_3 from (by simp only [vainStep, eq_false c_47, bf_of c_58, gi_sl, gi_sA, gi_sB, gi_si_s, gi_si_n, gl_si, gl_sA, gl_sB, gl_sl_s, gl_sl_n, gA_si, gA_sl, gA_sB, gA_sA_s, gA_sA_n, gB_si, gB_sl, gB_sA, gB_sB_s, gB_sB_n, Nat.reduceBEq, if_true, if_false, eq_self, Bool.false_eq_true, Bool.true_eq_false, not_true_eq_false, not_false_eq_true, decide_true, decide_false, cond_true, cond_false, Bool.true_and, Bool.false_and, Bool.and_true, Bool.and_false, Bool.true_or, Bool.false_or, Bool.or_true, Bool.or_false, b2i_tt, b2i_ff, pr_eta]; done)).trans (lp_go h_3)), hP, hD, hS, lv_sub hl [4, 5, 6, 7, 2, 1, 0] rfl⟩
