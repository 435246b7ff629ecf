theorem dX4_nearestAbove_0 : decode cX4_nearestAbove 0 = .ok (.iconst (-1), 1) := by decide +kernel
theorem dX4_nearestAbove_1 : decode cX4_nearestAbove 1 = .ok (.istore_n 2, 1) := by decide +kernel
theorem dX4_nearestAbove_2 : decode cX4_nearestAbove 2 = .ok (.bipush 41, 2) := by decide +kernel
theorem dX4_nearestAbove_4 : decode cX4_nearestAbove 4 = .ok (.istore_n 3, 1) := by decide +kernel
theorem dX4_nearestAbove_5 : decode cX4_nearestAbove 5 = .ok (.iconst 0, 1) := by decide +kernel
theorem dX4_nearestAbove_6 : decode cX4_nearestAbove 6 = .ok (.istore 4, 2) := by decide +kernel
theorem dX4_nearestAbove_8 : decode cX4_nearestAbove 8 = .ok (.iload 4, 2) := by decide +kernel
theorem dX4_nearestAbove_10 : decode cX4_nearestAbove 10 = .ok (.bipush 40, 2) := by decide +kernel
theorem dX4_nearestAbove_12 : decode cX4_nearestAbove 12 = .ok (.if_icmp .ge 51, 3) := by decide +kernel
theorem dX4_nearestAbove_15 : decode cX4_nearestAbove 15 = .ok (.aload_n 0, 1) := by decide +kernel
theorem dX4_nearestAbove_16 : decode cX4_nearestAbove 16 = .ok (.getfield 9, 3) := by decide +kernel
theorem dX4_nearestAbove_19 : decode cX4_nearestAbove 19 = .ok (.iload 4, 2) := by decide +kernel
theorem dX4_nearestAbove_21 : decode cX4_nearestAbove 21 = .ok (.invokestatic 61, 3) := by decide +kernel
theorem dX4_nearestAbove_24 : decode cX4_nearestAbove 24 = .ok (.invokestatic 95, 3) := by decide +kernel
theorem dX4_nearestAbove_27 : decode cX4_nearestAbove 27 = .ok (.istore 5, 2) := by decide +kernel
theorem dX4_nearestAbove_29 : decode cX4_nearestAbove 29 = .ok (.iload 4, 2) := by decide +kernel
theorem dX4_nearestAbove_31 : decode cX4_nearestAbove 31 = .ok (.iload_n 1, 1) := by decide +kernel
theorem dX4_nearestAbove_32 : decode cX4_nearestAbove 32 = .ok (.if_icmp .eq 25, 3) := by decide +kernel
theorem dX4_nearestAbove_35 : decode cX4_nearestAbove 35 = .ok (.aload_n 0, 1) := by decide +kernel
theorem dX4_nearestAbove_36 : decode cX4_nearestAbove 36 = .ok (.iload 4, 2) := by decide +kernel
theorem dX4_nearestAbove_38 : decode cX4_nearestAbove 38 = .ok (.iload_n 1, 1) := by decide +kernel
theorem dX4_nearestAbove_39 : decode cX4_nearestAbove 39 = .ok (.invokevirtual 91, 3) := by decide +kernel
theorem dX4_nearestAbove_42 : decode cX4_nearestAbove 42 = .ok (.ifCond .eq 15, 3) := by decide +kernel
theorem dX4_nearestAbove_45 : decode cX4_nearestAbove 45 = .ok (.iload 5, 2) := by decide +kernel
theorem dX4_nearestAbove_47 : decode cX4_nearestAbove 47 = .ok (.iload_n 3, 1) := by decide +kernel
theorem dX4_nearestAbove_48 : decode cX4_nearestAbove 48 = .ok (.if_icmp .ge 9, 3) := by decide +kernel
theorem dX4_nearestAbove_51 : decode cX4_nearestAbove 51 = .ok (.iload 4, 2) := by decide +kernel
theorem dX4_nearestAbove_53 : decode cX4_nearestAbove 53 = .ok (.istore_n 2, 1) := by decide +kernel
theorem dX4_nearestAbove_54 : decode cX4_nearestAbove 54 = .ok (.iload 5, 2) := by decide +kernel
theorem dX4_nearestAbove_56 : decode cX4_nearestAbove 56 = .ok (.istore_n 3, 1) := by decide +kernel
theorem dX4_nearestAbove_57 : decode cX4_nearestAbove 57 = .ok (.iinc 4 1, 3) := by decide +kernel
theorem dX4_nearestAbove_60 : decode cX4_nearestAbove 60 = .ok (.goto (-52), 3) := by decide +kernel
theorem dX4_nearestAbove_63 : decode cX4_nearestAbove 63 = .ok (.iload_n 2, 1) := by decide +kernel
theorem dX4_nearestAbove_64 : decode cX4_nearestAbove 64 = .ok (.ireturn, 1) := by decide +kernel
theorem mw_146 : Cond.methodLink RX4 95 yJ13_bitCount_95d88 ∈ GW := gw_mem (inT3 _ (List.mem_of_getElem? (i := 103) rfl)) rfl
set_option maxHeartbeats 4000000 in
set_option maxRecDepth 100000 in
theorem c_nearestAbove (l : Launch) (D : va_G) (cI cJ : ClassId) (ad : Nat → Nat) (co fl ra li re wa pi : Ob) (k1 : Int32) : CT l D (TY cI cJ) yX4_nearestAbove (.code yX4_nearestAbove cX4_nearestAbove 6 (some Jvm.ClassFile.FieldType.int)) 2 0 0 (XW ad cI cJ co fl ra li re wa pi) [.ref (ad 3), .int k1] (QI D (TY cI cJ) (fun r u => r = (nearest ra k1) ∧ u = (XW ad cI cJ co fl ra li re wa pi))) := by
  refine ent (by decide) (Nat.le_of_ble_eq_true rfl) ?_
  intro p e s m below meth c ls A hx hb hr hg hown hml hlocks hnm hP hK hD hS hA hN hl
  have hl : lv_has ls 6 [(0, .ref (ad 3)), (1, .int k1)] := hl
  refine lv_iconst (v := (-1)) hx hb dX4_nearestAbove_0 (by decide) ?_
  refine lv_istore_n (lv' := [(2, .int (-1)), (0, .ref (ad 3)), (1, .int k1)]) hx hb dX4_nearestAbove_1 rfl hl (by decide) rfl (fun ls hl => ?_)
  refine lv_bipush (v := 41) hx hb dX4_nearestAbove_2 (by decide) ?_
  refine lv_istore_n (lv' := [(3, .int 41), (2, .int (-1)), (0, .ref (ad 3)), (1, .int k1)]) hx hb dX4_nearestAbove_4 rfl hl (by decide) rfl (fun ls hl => ?_)
  refine lv_iconst (v := 0) hx hb dX4_nearestAbove_5 (by decide) ?_
  refine lv_istore (lv' := [(4, .int 0), (3, .int 41), (2, .int (-1)), (0, .ref (ad 3)), (1, .int k1)]) hx hb dX4_nearestAbove_6 hl (by decide) rfl (fun ls hl => ?_)
  refine w_loop (σ := Int32 × Int32) (fun (i_1 : Nat) (p_1 : Int32 × Int32) (H : Heap) (locs : List Loc) (ls : Array Slot) => p_1 = (lp (nearStep ra k1) i_1 ((-1), 41)) ∧ va_P D vwCl (XW ad cI cJ co fl ra li re wa pi) H ∧ va_D A (XW ad cI cJ co fl ra li re wa pi) ∧ va_S A s.heap H locs ∧ lv_has ls 6 [(0, .ref (ad 3)), (1, .int k1), (2, .int p_1.1), (3, .int p_1.2), (4, .int (nI i_1))]) (40) (fun p_1 H locs ls hI => ?_) (fun i_1 p_1 H locs ls hi_1 hI ih_1 => ?_) 0 ((-1), 41) (Nat.zero_le _) ⟨(lp_0 _ _), hP, hD, hS, (by rw [nI_0]; exact lv_sub hl [3, 4, 2, 1, 0] rfl)⟩
  · obtain ⟨h_1, hP, hD, hS, hl⟩ := hI
    have h_1 := h_1.symm
    subst h_1
    have hP : va_P D vwCl (XW ad cI cJ co fl ra li re wa pi) H := hP
    have hD : va_D A (XW ad cI cJ co fl ra li re wa pi) := hD
    have hl : lv_has ls 6 [(0, .ref (ad 3)), (1, .int k1), (2, .int ((lp (nearStep ra k1) (40) ((-1), 41)).1)), (3, .int ((lp (nearStep ra k1) (40) ((-1), 41)).2)), (4, .int (nI 40))] := hl
    refine lv_iload hx hb dX4_nearestAbove_8 (lv_at hl 4 rfl) ?_
    refine lv_bipush (v := 40) hx hb dX4_nearestAbove_10 (by decide) ?_
    refine lv_icmp_ge (tgt := 63) hx hb dX4_nearestAbove_12 (by decide) (fun _ => ?_) (fun c_12 => absurd (by decide) c_12)
    refine lv_iload_n hx hb dX4_nearestAbove_63 rfl (lv_at hl 2 rfl) ?_
    exact W.iret (v := ((lp (nearStep ra k1) (40) ((-1), 41)).1)) hx hb hr (fun t ht hW => ⟨⟨((lp (nearStep ra k1) (40) ((-1), 41)).1), (XW ad cI cJ co fl ra li re wa pi), rfl, ⟨(show (((lp (nearStep ra k1) (40) ((-1), 41)).1) : Int32) = (nearest ra k1) from (by first | with_reducible rfl | (simp only [nearest, gi_sl, gi_sA, gi_sB, gi_si_s, gi_si_n, gl_si, gl_sA, gl_sB, gl_sl_s, gl_sl_n, gA_si, gA_sl, gA_sB, gA_sA_s, gA_sA_n, gB_si, gB_sl, gB_sA, gB_sB_s, gB_sB_n, Nat.reduceBEq, if_true, if_false, eq_self, Bool.false_eq_true, Bool.true_eq_false, not_true_eq_false, not_false_eq_true, decide_true, decide_false, cond_true, cond_false, Bool.true_and, Bool.false_and, Bool.and_true, Bool.and_false, Bool.true_or, Bool.false_or, Bool.or_true, Bool.or_false, b2i_tt, b2i_ff, pr_eta]; done))), xw_eq rfl rfl rfl rfl rfl rfl rfl⟩, ⟨by rw [ht]; exact hP, va_K.moved hW.alike hK, hD⟩⟩, hS.F ht⟩) hS.2.2 dX4_nearestAbove_64
  · obtain ⟨h_1, hP, hD, hS, hl⟩ := hI
    have hP : va_P D vwCl (XW ad cI cJ co fl ra li re wa pi) H := hP
    have hD : va_D A (XW ad cI cJ co fl ra li re wa pi) := hD
    have hl : lv_has ls 6 [(0, .ref (ad 3)), (1, .int k1), (2, .int p_1.1), (3, .int p_1.2), (4, .int (nI i_1))] := hl
    refine lv_iload hx hb dX4_nearestAbove_8 (lv_at hl 4 rfl) ?_
    refine lv_bipush (v := 40) hx hb dX4_nearestAbove_10 (by decide) ?_
    refine lv_icmp_ge (tgt := 63) hx hb dX4_nearestAbove_12 (by decide) (fun c_12 => absurd c_12 (nI_ge hi_1 (by decide))) (fun _ => ?_)
    refine lv_aload_n hx hb dX4_nearestAbove_15 rfl (lv_at hl 0 rfl) ?_
    refine va_get (D := D) (ci := 4) (v := .ref (ad 19)) (C := RX4) (T := TX4) (N := 7) hx hb hg inGX4 hown hK hP 3 xo3 rfl 0 (by decide) (hg _ mw_124) (fun _ h9 => h9) xvX4_0 dX4_nearestAbove_16 ?_
    refine lv_iload hx hb dX4_nearestAbove_19 (lv_at hl 4 rfl) ?_
    refine kL (rSN hx hb hml hown hg hN hK hP hD (c_atL l D cI cJ (XW ad cI cJ co fl ra li re wa pi) 19 (ad 19) 40 (gB ra 0) (nI i_1) (xg19 rfl) (by decide)) mw_81 nw_78 mw_83 mw_77 pd_X7_at_ ⟨Nat.le_of_ble_eq_true rfl, Nat.le_of_ble_eq_true rfl⟩ rfl hl.1 rfl (Nat.le_of_ble_eq_true rfl) dX4_nearestAbove_21 ⟨Nat.le_of_ble_eq_true rfl, Nat.le_of_ble_eq_true rfl⟩) hD hS hA (fun r_2 u_2 H locs hp hP hD hS => ?_)
    obtain ⟨er, eu⟩ := hp
    obtain rfl := er.symm
    obtain rfl := eu.symm
    refine kI (rS hx hb hml hown hg hN hK hP hD (c_bitCount l D cI cJ (XW ad cI cJ co fl ra li re wa pi) (rdL (gB ra 0) 40 (nI i_1))) mw_68 mw_146 mw_70 mw_71 pd_J13_bitCount_95d88 ⟨Nat.le_of_ble_eq_true rfl, Nat.le_of_ble_eq_true rfl⟩ rfl hl.1 rfl (Nat.le_of_ble_eq_true rfl) dX4_nearestAbove_24 ⟨Nat.le_of_ble_eq_true rfl, Nat.le_of_ble_eq_true rfl⟩) hD hS hA (fun r_3 u_3 H locs hp hP hD hS => ?_)
    obtain ⟨er, eu⟩ := hp
    obtain rfl := er.symm
    obtain rfl := eu.symm
    refine lv_istore (lv' := [(5, .int (bc (rdL (gB ra 0) 40 (nI i_1)))), (0, .ref (ad 3)), (1, .int k1), (2, .int p_1.1), (3, .int p_1.2), (4, .int (nI i_1))]) hx hb dX4_nearestAbove_27 hl (by decide) rfl (fun ls hl => ?_)
    refine lv_iload hx hb dX4_nearestAbove_29 (lv_at hl 5 rfl) ?_
    refine lv_iload_n hx hb dX4_nearestAbove_31 rfl (lv_at hl 2 rfl) ?_
    refine lv_icmp_eq (tgt := 57) hx hb dX4_nearestAbove_32 (by decide) (fun c_32 => ?_) (fun c_32 => ?_)
    · refine lv_iinc (v := (nI (i_1 + 1))) (lv' := [(4, .int (nI (i_1 + 1))), (5, .int (bc (rdL (gB ra 0) 40 (nI i_1)))), (0, .ref (ad 3)), (1, .int k1), (2, .int p_1.1), (3, .int p_1.2)]) hx hb dX4_nearestAbove_57 hl (k := 5) rfl (nI_1 i_1) (by decide) rfl (fun ls hl => ?_)
      refine lv_goto (tgt := 8) hx hb dX4_nearestAbove_60 (by decide) ?_
      exact ih_1 (p_1.1, p_1.2) H locs ls ⟨((show (p_1.1, p_1.2) = (nearStep ra k1) i_1 p_1 from (by simp only [nearStep, rules, eq_true c_32, gi_sl, gi_sA, gi_sB, gi_si_s, gi_si_n, gl_si, gl_sA, gl_sB, gl_sl_s, gl_sl_n, gA_si, gA_sl, gA_sB, gA_sA_s, gA_sA_n, gB_si, gB_sl, gB_sA, gB_sB_s, gB_sB_n, Nat.reduceBEq, if_true, if_false, eq_self, Bool.false_eq_true, Bool.true_eq_false, not_true_eq_false, not_false_eq_true, decide_true, decide_false, cond_true, cond_false, Bool.true_and, Bool.false_and, Bool.and_true, Bool.and_false, Bool.true_or, Bool.false_or, Bool.or_true, Bool.or_false, b2i_tt, b2i_ff, pr_eta]; done)).trans (lp_go h_1)), hP, hD, hS, lv_sub hl [2, 3, 4, 5, 0] rfl⟩
    · refine lv_aload_n hx hb dX4_nearestAbove_35 rfl (lv_at hl 1 rfl) ?_
      refine lv_iload hx hb dX4_nearestAbove_36 (lv_at hl 5 rfl) ?_
      refine lv_iload_n hx hb dX4_nearestAbove_38 rfl (lv_at hl 2 rfl) ?_
      refine kI (rV (q0 := 3) (ci := 4) hx hb hml hown hg hN hK hP hD (c_rules l D cI cJ ad co fl ra li re wa pi (nI i_1) k1) mw_126 mw_127 mw_128 mw_129 mw_130 pdv_X4_rules ⟨Nat.le_of_ble_eq_true rfl, Nat.le_of_ble_eq_true rfl⟩ rfl xo3 rfl hl.1 rfl (Nat.le_of_ble_eq_true rfl) dX4_nearestAbove_39 ⟨Nat.le_of_ble_eq_true rfl, Nat.le_of_ble_eq_true rfl⟩) hD hS hA (fun r_4 u_4 H locs hp hP hD hS => ?_)
      obtain ⟨er, eu⟩ := hp
      obtain rfl := er.symm
      obtain rfl := eu.symm
      refine lv_if_eq (tgt := 57) hx hb dX4_nearestAbove_42 (by decide) (fun c_42 => ?_) (fun c_42 => ?_)
      · have c_42 : ¬ (hs (rdL (gB ra 0) 40 (nI i_1)) k1) = true := b2i_0 c_42
        refine lv_iinc (v := (nI (i_1 + 1))) (lv' := [(4, .int (nI (i_1 + 1))), (5, .int (bc (rdL (gB ra 0) 40 (nI i_1)))), (0, .ref (ad 3)), (1, .int k1), (2, .int p_1.1), (3, .int p_1.2)]) hx hb dX4_nearestAbove_57 hl (k := 5) rfl (nI_1 i_1) (by decide) rfl (fun ls hl => ?_)
        refine lv_goto (tgt := 8) hx hb dX4_nearestAbove_60 (by decide) ?_
        exact ih_1 (p_1.1, p_1.2) H locs ls ⟨((show (p_1.1, p_1.2) = (nearStep ra k1) i_1 p_1 from (by simp only [nearStep, rules, eq_false c_32, bf_of c_42, gi_sl, gi_sA, gi_sB, gi_si_s, gi_si_n, gl_si, gl_sA, gl_sB, gl_sl_s, gl_sl_n, gA_si, gA_sl, gA_sB, gA_sA_s, gA_sA_n, gB_si, gB_sl, gB_sA, gB_sB_s, gB_sB_n, Nat.reduceBEq, if_true, if_false, eq_self, Bool.false_eq_true, Bool.true_eq_false, not_true_eq_false, not_false_eq_true, decide_true, decide_false, cond_true, cond_false, Bool.true_and, Bool.false_and, Bool.and_true, Bool.and_false, Bool.true_or, Bool.false_or, Bool.or_true, Bool.or_false, b2i_tt, b2i_ff, pr_eta]; done)).trans (lp_go h_1)), hP, hD, hS, lv_sub hl [2, 3, 4, 5, 0] rfl⟩
      · have c_42 : (hs (rdL (gB ra 0) 40 (nI i_1)) k1) = true := b2i_1 c_42
        refine lv_iload hx hb dX4_nearestAbove_45 (lv_at hl 0 rfl) ?_
        refine lv_iload_n hx hb dX4_nearestAbove_47 rfl (lv_at hl 4 rfl) ?_
        refine lv_icmp_ge (tgt := 57) hx hb dX4_nearestAbove_48 (by decide) (fun c_48 => ?_) (fun c_48 => ?_)
        · have c_48 : ¬ (bc (rdL (gB ra 0) 40 (nI i_1))) < p_1.2 := i_ge c_48
          refine lv_iinc (v := (nI (i_1 + 1))) (lv' := [(4, .int (nI (i_1 + 1))), (5, .int (bc (rdL (gB ra 0) 40 (nI i_1)))), (0, .ref (ad 3)), (1, .int k1), (2, .int p_1.1), (3, .int p_1.2)]) hx hb dX4_nearestAbove_57 hl (k := 5) rfl (nI_1 i_1) (by decide) rfl (fun ls hl => ?_)
          refine lv_goto (tgt := 8) hx hb dX4_nearestAbove_60 (by decide) ?_
          exact ih_1 (p_1.1, p_1.2) H locs ls ⟨((show (p_1.1, p_1.2) = (nearStep ra k1) i_1 p_1 from (by simp only [nearStep, rules, eq_false c_32, c_42, eq_false c_48, gi_sl, gi_sA, gi_sB, gi_si_s, gi_si_n, gl_si, gl_sA, gl_sB, gl_sl_s, gl_sl_n, gA_si, gA_sl, gA_sB, gA_sA_s, gA_sA_n, gB_si, gB_sl, gB_sA, gB_sB_s, gB_sB_n, Nat.reduceBEq, if_true, if_false, eq_self, Bool.false_eq_true, Bool.true_eq_false, not_true_eq_false, not_false_eq_true, decide_true, decide_false, cond_true, cond_false, Bool.true_and, Bool.false_and, Bool.and_true, Bool.and_false, Bool.true_or, Bool.false_or, Bool.or_true, Bool.or_false, b2i_tt, b2i_ff, pr_eta]; done)).trans (lp_go h_1)), hP, hD, hS, lv_sub hl [2, 3, 4, 5, 0] rfl⟩
        · have c_48 : (bc (rdL (gB ra 0) 40 (nI i_1))) < p_1.2 := i_nge c_48
          refine lv_iload hx hb dX4_nearestAbove_51 (lv_at hl 5 rfl) ?_
          refine lv_istore_n (lv' := [(2, .int (nI i_1)), (5, .int (bc (rdL (gB ra 0) 40 (nI i_1)))), (0, .ref (ad 3)), (1, .int k1), (3, .int p_1.2), (4, .int (nI i_1))]) hx hb dX4_nearestAbove_53 rfl hl (by decide) rfl (fun ls hl => ?_)
          refine lv_iload hx hb dX4_nearestAbove_54 (lv_at hl 1 rfl) ?_
          refine lv_istore_n (lv' := [(3, .int (bc (rdL (gB ra 0) 40 (nI i_1)))), (2, .int (nI i_1)), (5, .int (bc (rdL (gB ra 0) 40 (nI i_1)))), (0, .ref (ad 3)), (1, .int k1), (4, .int (nI i_1))]) hx hb dX4_nearestAbove_56 rfl hl (by decide) rfl (fun ls hl => ?_)
          refine lv_iinc (v := (nI (i_1 + 1))) (lv' := [(4, .int (nI (i_1 + 1))), (3, .int (bc (rdL (gB ra 0) 40 (nI i_1)))), (2, .int (nI i_1)), (5, .int (bc (rdL (gB ra 0) 40 (nI i_1)))), (0, .ref (ad 3)), (1, .int k1)]) hx hb dX4_nearestAbove_57 hl (k := 5) rfl (nI_1 i_1) (by decide) rfl (fun ls hl => ?_)
          refine lv_goto (tgt := 8) hx hb dX4_nearestAbove_60 (by decide) ?_
          exact ih_1 ((nI i_1), (bc (rdL (gB ra 0) 40 (nI i_1)))) H locs ls ⟨((show ((nI i_1), (bc (rdL (gB ra 0) 40 (nI i_1)))) = (nearStep ra k1) i_1 p_1 from (by simp only [nearStep, rules, eq_false c_32, c_42, eq_true c_48, gi_sl, gi_sA, gi_sB, gi_si_s, gi_si_n, gl_si, gl_sA, gl_sB, gl_sl_s, gl_sl_n, gA_si, gA_sl, gA_sB, gA_sA_s, gA_sA_n, gB_si, gB_sl, gB_sA, gB_sB_s, gB_sB_n, Nat.reduceBEq, if_true, if_false, eq_self, Bool.false_eq_true, Bool.true_eq_false, not_true_eq_false, not_false_eq_true, decide_true, decide_false, cond_true, cond_false, Bool.true_and, Bool.false_and, Bool.and_true, Bool.and_false, Bool.true_or, Bool.false_or, Bool.or_true, Bool.or_false, b2i_tt, b2i_ff, pr_eta]; done)).trans (lp_go h_1)), hP, hD, hS, lv_sub hl [4, 5, 2, 1, 0] rfl⟩
