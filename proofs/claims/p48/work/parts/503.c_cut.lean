theorem dX1_cut_0 : decode cX1_cut 0 = .ok (.aload_n 0, 1) := by decide +kernel
theorem dX1_cut_1 : decode cX1_cut 1 = .ok (.iconst 0, 1) := by decide +kernel
theorem dX1_cut_2 : decode cX1_cut 2 = .ok (.putfield 51, 3) := by decide +kernel
theorem dX1_cut_5 : decode cX1_cut 5 = .ok (.iconst 0, 1) := by decide +kernel
theorem dX1_cut_6 : decode cX1_cut 6 = .ok (.istore 4, 2) := by decide +kernel
theorem dX1_cut_8 : decode cX1_cut 8 = .ok (.iload 4, 2) := by decide +kernel
theorem dX1_cut_10 : decode cX1_cut 10 = .ok (.iload_n 1, 1) := by decide +kernel
theorem dX1_cut_11 : decode cX1_cut 11 = .ok (.if_icmp .ge 71, 3) := by decide +kernel
theorem dX1_cut_14 : decode cX1_cut 14 = .ok (.lload_n 2, 1) := by decide +kernel
theorem dX1_cut_15 : decode cX1_cut 15 = .ok (.iload 4, 2) := by decide +kernel
theorem dX1_cut_17 : decode cX1_cut 17 = .ok (.invokestatic 91, 3) := by decide +kernel
theorem dX1_cut_20 : decode cX1_cut 20 = .ok (.ifCond .eq 26, 3) := by decide +kernel
theorem dX1_cut_23 : decode cX1_cut 23 = .ok (.aload_n 0, 1) := by decide +kernel
theorem dX1_cut_24 : decode cX1_cut 24 = .ok (.getfield 15, 3) := by decide +kernel
theorem dX1_cut_27 : decode cX1_cut 27 = .ok (.aload_n 0, 1) := by decide +kernel
theorem dX1_cut_28 : decode cX1_cut 28 = .ok (.getfield 51, 3) := by decide +kernel
theorem dX1_cut_31 : decode cX1_cut 31 = .ok (.iload 4, 2) := by decide +kernel
theorem dX1_cut_33 : decode cX1_cut 33 = .ok (.invokestatic 54, 3) := by decide +kernel
theorem dX1_cut_36 : decode cX1_cut 36 = .ok (.aload_n 0, 1) := by decide +kernel
theorem dX1_cut_37 : decode cX1_cut 37 = .ok (.dup, 1) := by decide +kernel
theorem dX1_cut_38 : decode cX1_cut 38 = .ok (.getfield 51, 3) := by decide +kernel
theorem dX1_cut_41 : decode cX1_cut 41 = .ok (.iconst 1, 1) := by decide +kernel
theorem dX1_cut_42 : decode cX1_cut 42 = .ok (.iadd, 1) := by decide +kernel
theorem dX1_cut_43 : decode cX1_cut 43 = .ok (.putfield 51, 3) := by decide +kernel
theorem dX1_cut_46 : decode cX1_cut 46 = .ok (.aload_n 0, 1) := by decide +kernel
theorem dX1_cut_47 : decode cX1_cut 47 = .ok (.getfield 9, 3) := by decide +kernel
theorem dX1_cut_50 : decode cX1_cut 50 = .ok (.iload 4, 2) := by decide +kernel
theorem dX1_cut_52 : decode cX1_cut 52 = .ok (.aload_n 0, 1) := by decide +kernel
theorem dX1_cut_53 : decode cX1_cut 53 = .ok (.getfield 51, 3) := by decide +kernel
theorem dX1_cut_56 : decode cX1_cut 56 = .ok (.iconst 1, 1) := by decide +kernel
theorem dX1_cut_57 : decode cX1_cut 57 = .ok (.isub, 1) := by decide +kernel
theorem dX1_cut_58 : decode cX1_cut 58 = .ok (.invokestatic 54, 3) := by decide +kernel
theorem dX1_cut_61 : decode cX1_cut 61 = .ok (.aload_n 0, 1) := by decide +kernel
theorem dX1_cut_62 : decode cX1_cut 62 = .ok (.getfield 18, 3) := by decide +kernel
theorem dX1_cut_65 : decode cX1_cut 65 = .ok (.aload_n 0, 1) := by decide +kernel
theorem dX1_cut_66 : decode cX1_cut 66 = .ok (.getfield 51, 3) := by decide +kernel
theorem dX1_cut_69 : decode cX1_cut 69 = .ok (.iconst 1, 1) := by decide +kernel
theorem dX1_cut_70 : decode cX1_cut 70 = .ok (.isub, 1) := by decide +kernel
theorem dX1_cut_71 : decode cX1_cut 71 = .ok (.iload 4, 2) := by decide +kernel
theorem dX1_cut_73 : decode cX1_cut 73 = .ok (.invokestatic 54, 3) := by decide +kernel
theorem dX1_cut_76 : decode cX1_cut 76 = .ok (.iinc 4 1, 3) := by decide +kernel
theorem dX1_cut_79 : decode cX1_cut 79 = .ok (.goto (-71), 3) := by decide +kernel
theorem dX1_cut_82 : decode cX1_cut 82 = .ok (.return_, 1) := by decide +kernel
theorem mw_88 : Cond.fieldLink RX1 51 "OrielChart$Flow" "blockCount" "I" ∈ GW := gw_mem (inT1 _ (List.mem_of_getElem? (i := 84) rfl)) rfl
theorem mw_89 : Cond.code yX7_has cX7_has 3 (some Jvm.ClassFile.FieldType.boolean) ∈ GW := gw_mem (inT2 _ (List.mem_of_getElem? (i := 119) rfl)) rfl
theorem mw_90 : Cond.static yX7_has ∈ GW := gw_mem (inT2 _ (List.mem_of_getElem? (i := 118) rfl)) rfl
theorem mw_91 : Cond.fieldLink RX1 9 "OrielChart$Flow" "home" "[I" ∈ GW := gw_mem (inT1 _ (List.mem_of_getElem? (i := 64) rfl)) rfl
theorem mw_92 : Cond.code yX7_put cX7_put 3 (none : Option FieldType) ∈ GW := gw_mem (inT2 _ (List.mem_of_getElem? (i := 122) rfl)) rfl
theorem mw_93 : Cond.static yX7_put ∈ GW := gw_mem (inT2 _ (List.mem_of_getElem? (i := 121) rfl)) rfl
theorem mw_94 : Cond.fieldLink RX1 18 "OrielChart$Flow" "last" "[I" ∈ GW := gw_mem (inT1 _ (List.mem_of_getElem? (i := 69) rfl)) rfl
theorem mw_95 : Cond.fieldLink RX1 15 "OrielChart$Flow" "first" "[I" ∈ GW := gw_mem (inT1 _ (List.mem_of_getElem? (i := 66) rfl)) rfl
theorem pd_X7_has : yX7_has.cls ≠ "java/lang/invoke/MethodHandle" ∧ yX7_has.cls ≠ "java/lang/invoke/VarHandle" ∧ (parseMethodDescriptor yX7_has.desc).map (fun d => d.parameters.length) = some 2 := by decide +kernel
theorem pd_X7_put : yX7_put.cls ≠ "java/lang/invoke/MethodHandle" ∧ yX7_put.cls ≠ "java/lang/invoke/VarHandle" ∧ (parseMethodDescriptor yX7_put.desc).map (fun d => d.parameters.length) = some 3 := by decide +kernel
set_option maxHeartbeats 4000000 in
set_option maxRecDepth 100000 in
theorem c_cut (l : Launch) (D : va_G) (cI cJ : ClassId) (ad : Nat → Nat) (co fl ra li re wa pi : Ob) (k1 : Int32) (l1 : Int64) : CT l D (TY cI cJ) yX1_cut (.code yX1_cut cX1_cut 5 (none : Option FieldType)) 1 0 0 (XW ad cI cJ co fl ra li re wa pi) [.ref (ad 2), .int k1, .long l1] (QV D (TY cI cJ) (fun u => u = (XW ad cI cJ co (cut fl k1 l1) ra li re wa pi))) := by
  refine ent (by decide) (Nat.le_of_ble_eq_true rfl) ?_
  intro p e s m below meth c ls A hx hb hr hg hown hml hlocks hnm hP hK hD hS hA hN hl
  have hl : lv_has ls 5 [(0, .ref (ad 2)), (1, .int k1), (2, .long l1)] := hl
  refine lv_aload_n hx hb dX1_cut_0 rfl (lv_at hl 0 rfl) ?_
  refine lv_iconst (v := 0) hx hb dX1_cut_1 (by decide) ?_
  refine va_put (D := D) (ci := 1) (v := .int 0) (C := RX1) (T := TX1) (N := 11) hx hb hg inGX1 tyX1 tyX1_ok nmX1 hown hK hP hD hS 2 xo2 rfl 7 (by decide) (hg _ mw_88) (fun _ h9 => h9) rfl (tyX1_ok 7 (by decide)) rfl rfl (Nat.le_of_ble_eq_true rfl) dX1_cut_2 (fun H locs hP hD hS => ?_)
  have hP : va_P D vwCl (XW ad cI cJ co (si fl 0 0) ra li re wa pi) H := cgP xpX1_7 hP
  have hD : va_D A (XW ad cI cJ co (si fl 0 0) ra li re wa pi) := cgD xpX1_7 hD
  refine lv_iconst (v := 0) hx hb dX1_cut_5 (by decide) ?_
  refine lv_istore (lv' := [(4, .int 0), (0, .ref (ad 2)), (1, .int k1), (2, .long l1)]) hx hb dX1_cut_6 hl (by decide) rfl (fun ls hl => ?_)
  refine w_loop (σ := Ob) (fun (i_1 : Nat) (p_1 : Ob) (H : Heap) (locs : List Loc) (ls : Array Slot) => p_1 = (lp (cutStep l1) i_1 (si fl 0 0)) ∧ va_P D vwCl (XW ad cI cJ co p_1 ra li re wa pi) H ∧ va_D A (XW ad cI cJ co p_1 ra li re wa pi) ∧ va_S A s.heap H locs ∧ lv_has ls 5 [(0, .ref (ad 2)), (1, .int k1), (2, .long l1), (4, .int (nI i_1))]) (nN k1) (fun p_1 H locs ls hI => ?_) (fun i_1 p_1 H locs ls hi_1 hI ih_1 => ?_) 0 (si fl 0 0) (Nat.zero_le _) ⟨(lp_0 _ _), hP, hD, hS, (by rw [nI_0]; exact lv_sub hl [1, 2, 3, 0] rfl)⟩
  · obtain ⟨h_1, hP, hD, hS, hl⟩ := hI
    have h_1 := h_1.symm
    subst h_1
    have hP : va_P D vwCl (XW ad cI cJ co ((lp (cutStep l1) (nN k1) (si fl 0 0))) ra li re wa pi) H := hP
    have hD : va_D A (XW ad cI cJ co ((lp (cutStep l1) (nN k1) (si fl 0 0))) ra li re wa pi) := hD
    have hl : lv_has ls 5 [(0, .ref (ad 2)), (1, .int k1), (2, .long l1), (4, .int (nI ((nN k1))))] := hl
    refine lv_iload hx hb dX1_cut_8 (lv_at hl 3 rfl) ?_
    refine lv_iload_n hx hb dX1_cut_10 rfl (lv_at hl 1 rfl) ?_
    refine lv_icmp_ge (tgt := 82) hx hb dX1_cut_11 (by decide) (fun _ => ?_) (fun c_11 => absurd (lp_out _) c_11)
    exact W.vret hx hb hr (fun t ht hW => ⟨⟨(XW ad cI cJ co ((lp (cutStep l1) (nN k1) (si fl 0 0))) ra li re wa pi), rfl, xw_eq rfl (show ((lp (cutStep l1) (nN k1) (si fl 0 0))) = (cut fl k1 l1) from (by first | with_reducible rfl | (simp only [cut, gi_sl, gi_sA, gi_sB, gi_si_s, gi_si_n, gl_si, gl_sA, gl_sB, gl_sl_s, gl_sl_n, gA_si, gA_sl, gA_sB, gA_sA_s, gA_sA_n, gB_si, gB_sl, gB_sA, gB_sB_s, gB_sB_n, Nat.reduceBEq, if_true, if_false, eq_self, Bool.false_eq_true, Bool.true_eq_false, not_true_eq_false, not_false_eq_true, decide_true, decide_false, cond_true, cond_false, Bool.true_and, Bool.false_and, Bool.and_true, Bool.and_false, Bool.true_or, Bool.false_or, Bool.or_true, Bool.or_false, b2i_tt, b2i_ff, pr_eta]; done))) rfl rfl rfl rfl rfl, ⟨by rw [ht]; exact hP, va_K.moved hW.alike hK, hD⟩⟩, hS.F ht⟩) hS.2.2 dX1_cut_82
  · obtain ⟨h_1, hP, hD, hS, hl⟩ := hI
    have hP : va_P D vwCl (XW ad cI cJ co p_1 ra li re wa pi) H := hP
    have hD : va_D A (XW ad cI cJ co p_1 ra li re wa pi) := hD
    have hl : lv_has ls 5 [(0, .ref (ad 2)), (1, .int k1), (2, .long l1), (4, .int (nI i_1))] := hl
    refine lv_iload hx hb dX1_cut_8 (lv_at hl 3 rfl) ?_
    refine lv_iload_n hx hb dX1_cut_10 rfl (lv_at hl 1 rfl) ?_
    refine lv_icmp_ge (tgt := 82) hx hb dX1_cut_11 (by decide) (fun c_11 => absurd c_11 (lp_in hi_1)) (fun _ => ?_)
    refine lv_lload_n hx hb dX1_cut_14 rfl (lv_at hl 2 rfl) ?_
    refine lv_iload hx hb dX1_cut_15 (lv_at hl 3 rfl) ?_
    refine kI (rSN hx hb hml hown hg hN hK hP hD (c_has l D cI cJ (XW ad cI cJ co p_1 ra li re wa pi) l1 (nI i_1)) mw_89 nw_68 mw_90 mw_77 pd_X7_has ⟨Nat.le_of_ble_eq_true rfl, Nat.le_of_ble_eq_true rfl⟩ rfl hl.1 rfl (Nat.le_of_ble_eq_true rfl) dX1_cut_17 ⟨Nat.le_of_ble_eq_true rfl, Nat.le_of_ble_eq_true rfl⟩) hD hS hA (fun r_2 u_2 H locs hp hP hD hS => ?_)
    obtain ⟨er, eu⟩ := hp
    obtain rfl := er.symm
    obtain rfl := eu.symm
    refine lv_if_eq (tgt := 46) hx hb dX1_cut_20 (by decide) (fun c_20 => ?_) (fun c_20 => ?_)
    · have c_20 : ¬ (hs l1 (nI i_1)) = true := b2i_0 c_20
      refine lv_aload_n hx hb dX1_cut_46 rfl (lv_at hl 0 rfl) ?_
      refine va_get (D := D) (ci := 1) (v := .ref (ad 12)) (C := RX1) (T := TX1) (N := 11) hx hb hg inGX1 hown hK hP 2 xo2 rfl 0 (by decide) (hg _ mw_91) (fun _ h9 => h9) xvX1_0 dX1_cut_47 ?_
      refine lv_iload hx hb dX1_cut_50 (lv_at hl 3 rfl) ?_
      refine lv_aload_n hx hb dX1_cut_52 rfl (lv_at hl 0 rfl) ?_
      refine va_get (D := D) (ci := 1) (v := .int (gi p_1 0)) (C := RX1) (T := TX1) (N := 11) hx hb hg inGX1 hown hK hP 2 xo2 rfl 7 (by decide) (hg _ mw_88) (fun _ h9 => h9) (xvX1_7 rfl) dX1_cut_53 ?_
      refine lv_iconst (v := 1) hx hb dX1_cut_56 (by decide) ?_
      refine lv_isub hx hb dX1_cut_57 ?_
      refine kV (rSN hx hb hml hown hg hN hK hP hD (c_put l D cI cJ (XW ad cI cJ co p_1 ra li re wa pi) 12 (ad 12) 40 (gA p_1 0) (nI i_1) ((gi p_1 0) - 1) (xg12 rfl) (by decide)) mw_92 nw_69 mw_93 mw_77 pd_X7_put ⟨Nat.le_of_ble_eq_true rfl, Nat.le_of_ble_eq_true rfl⟩ rfl hl.1 rfl (Nat.le_of_ble_eq_true rfl) dX1_cut_58 ⟨Nat.le_of_ble_eq_true rfl, Nat.le_of_ble_eq_true rfl⟩) hD hS hA (fun u_3 H locs hp hP hD hS => ?_)
      obtain rfl := hp.symm
      have hP : va_P D vwCl (XW ad cI cJ co (sA p_1 0 (wr (gA p_1 0) 40 (nI i_1) ((gi p_1 0) - 1))) ra li re wa pi) H := cgP xs12 hP
      have hD : va_D A (XW ad cI cJ co (sA p_1 0 (wr (gA p_1 0) 40 (nI i_1) ((gi p_1 0) - 1))) ra li re wa pi) := cgD xs12 hD
      refine lv_aload_n hx hb dX1_cut_61 rfl (lv_at hl 0 rfl) ?_
      refine va_get (D := D) (ci := 1) (v := .ref (ad 14)) (C := RX1) (T := TX1) (N := 11) hx hb hg inGX1 hown hK hP 2 xo2 rfl 2 (by decide) (hg _ mw_94) (fun _ h9 => h9) xvX1_2 dX1_cut_62 ?_
      refine lv_aload_n hx hb dX1_cut_65 rfl (lv_at hl 0 rfl) ?_
      refine va_get (D := D) (ci := 1) (v := .int (gi p_1 0)) (C := RX1) (T := TX1) (N := 11) hx hb hg inGX1 hown hK hP 2 xo2 rfl 7 (by decide) (hg _ mw_88) (fun _ h9 => h9) (xvX1_7 (by simp only [gi_sl, gi_sA, gi_sB, gi_si_s, gi_si_n, gl_si, gl_sA, gl_sB, gl_sl_s, gl_sl_n, gA_si, gA_sl, gA_sB, gA_sA_s, gA_sA_n, gB_si, gB_sl, gB_sA, gB_sB_s, gB_sB_n, Nat.reduceBEq])) dX1_cut_66 ?_
      refine lv_iconst (v := 1) hx hb dX1_cut_69 (by decide) ?_
      refine lv_isub hx hb dX1_cut_70 ?_
      refine lv_iload hx hb dX1_cut_71 (lv_at hl 3 rfl) ?_
      refine kV (rSN hx hb hml hown hg hN hK hP hD (c_put l D cI cJ (XW ad cI cJ co (sA p_1 0 (wr (gA p_1 0) 40 (nI i_1) ((gi p_1 0) - 1))) ra li re wa pi) 14 (ad 14) 40 (gA p_1 2) ((gi p_1 0) - 1) (nI i_1) (xg14 (by simp only [gi_sl, gi_sA, gi_sB, gi_si_s, gi_si_n, gl_si, gl_sA, gl_sB, gl_sl_s, gl_sl_n, gA_si, gA_sl, gA_sB, gA_sA_s, gA_sA_n, gB_si, gB_sl, gB_sA, gB_sB_s, gB_sB_n, Nat.reduceBEq])) (by decide)) mw_92 nw_69 mw_93 mw_77 pd_X7_put ⟨Nat.le_of_ble_eq_true rfl, Nat.le_of_ble_eq_true rfl⟩ rfl hl.1 rfl (Nat.le_of_ble_eq_true rfl) dX1_cut_73 ⟨Nat.le_of_ble_eq_true rfl, Nat.le_of_ble_eq_true rfl⟩) hD hS hA (fun u_4 H locs hp hP hD hS => ?_)
      obtain rfl := hp.symm
      have hP : va_P D vwCl (XW ad cI cJ co (sA (sA p_1 0 (wr (gA p_1 0) 40 (nI i_1) ((gi p_1 0) - 1))) 2 (wr (gA p_1 2) 40 ((gi p_1 0) - 1) (nI i_1))) ra li re wa pi) H := cgP xs14 hP
      have hD : va_D A (XW ad cI cJ co (sA (sA p_1 0 (wr (gA p_1 0) 40 (nI i_1) ((gi p_1 0) - 1))) 2 (wr (gA p_1 2) 40 ((gi p_1 0) - 1) (nI i_1))) ra li re wa pi) := cgD xs14 hD
      refine lv_iinc (v := (nI (i_1 + 1))) (lv' := [(4, .int (nI (i_1 + 1))), (0, .ref (ad 2)), (1, .int k1), (2, .long l1)]) hx hb dX1_cut_76 hl (k := 3) rfl (nI_1 i_1) (by decide) rfl (fun ls hl => ?_)
      refine lv_goto (tgt := 8) hx hb dX1_cut_79 (by decide) ?_
      exact ih_1 (sA (sA p_1 0 (wr (gA p_1 0) 40 (nI i_1) ((gi p_1 0) - 1))) 2 (wr (gA p_1 2) 40 ((gi p_1 0) - 1) (nI i_1))) H locs ls ⟨((show (sA (sA p_1 0 (wr (gA p_1 0) 40 (nI i_1) ((gi p_1 0) - 1))) 2 (wr (gA p_1 2) 40 ((gi p_1 0) - 1) (nI i_1))) = (cutStep l1) i_1 p_1 from (by simp only [cutStep, cutA, cutB, bf_of c_20, gi_sl, gi_sA, gi_sB, gi_si_s, gi_si_n, gl_si, gl_sA, gl_sB, gl_sl_s, gl_sl_n, gA_si, gA_sl, gA_sB, gA_sA_s, gA_sA_n, gB_si, gB_sl, gB_sA, gB_sB_s, gB_sB_n, Nat.reduceBEq, if_true, if_false, eq_self, Bool.false_eq_true, Bool.true_eq_false, not_true_eq_false, not_false_eq_true, decide_true, decide_false, cond_true, cond_false, Bool.true_and, Bool.false_and, Bool.and_true, Bool.and_false, Bool.true_or, Bool.false_or, Bool.or_true, Bool.or_false, b2i_tt, b2i_ff, pr_eta]; done)).trans (lp_go h_1)), hP, hD, hS, lv_sub hl [1, 2, 3, 0] rfl⟩
    · have c_20 : (hs l1 (nI i_1)) = true := b2i_1 c_20
      refine lv_aload_n hx hb dX1_cut_23 rfl (lv_at hl 0 rfl) ?_
      refine va_get (D := D) (ci := 1) (v := .ref (ad 13)) (C := RX1) (T := TX1) (N := 11) hx hb hg inGX1 hown hK hP 2 xo2 rfl 1 (by decide) (hg _ mw_95) (fun _ h9 => h9) xvX1_1 dX1_cut_24 ?_
      refine lv_aload_n hx hb dX1_cut_27 rfl (lv_at hl 0 rfl) ?_
      refine va_get (D := D) (ci := 1) (v := .int (gi p_1 0)) (C := RX1) (T := TX1) (N := 11) hx hb hg inGX1 hown hK hP 2 xo2 rfl 7 (by decide) (hg _ mw_88) (fun _ h9 => h9) (xvX1_7 rfl) dX1_cut_28 ?_
      refine lv_iload hx hb dX1_cut_31 (lv_at hl 3 rfl) ?_
      refine kV (rSN hx hb hml hown hg hN hK hP hD (c_put l D cI cJ (XW ad cI cJ co p_1 ra li re wa pi) 13 (ad 13) 40 (gA p_1 1) (gi p_1 0) (nI i_1) (xg13 rfl) (by decide)) mw_92 nw_69 mw_93 mw_77 pd_X7_put ⟨Nat.le_of_ble_eq_true rfl, Nat.le_of_ble_eq_true rfl⟩ rfl hl.1 rfl (Nat.le_of_ble_eq_true rfl) dX1_cut_33 ⟨Nat.le_of_ble_eq_true rfl, Nat.le_of_ble_eq_true rfl⟩) hD hS hA (fun u_5 H locs hp hP hD hS => ?_)
      obtain rfl := hp.symm
      have hP : va_P D vwCl (XW ad cI cJ co (sA p_1 1 (wr (gA p_1 1) 40 (gi p_1 0) (nI i_1))) ra li re wa pi) H := cgP xs13 hP
      have hD : va_D A (XW ad cI cJ co (sA p_1 1 (wr (gA p_1 1) 40 (gi p_1 0) (nI i_1))) ra li re wa pi) := cgD xs13 hD
      refine lv_aload_n hx hb dX1_cut_36 rfl (lv_at hl 0 rfl) ?_
      refine lv_dup hx hb dX1_cut_37 rfl ?_
      refine va_get (D := D) (ci := 1) (v := .int (gi p_1 0)) (C := RX1) (T := TX1) (N := 11) hx hb hg inGX1 hown hK hP 2 xo2 rfl 7 (by decide) (hg _ mw_88) (fun _ h9 => h9) (xvX1_7 (by simp only [gi_sl, gi_sA, gi_sB, gi_si_s, gi_si_n, gl_si, gl_sA, gl_sB, gl_sl_s, gl_sl_n, gA_si, gA_sl, gA_sB, gA_sA_s, gA_sA_n, gB_si, gB_sl, gB_sA, gB_sB_s, gB_sB_n, Nat.reduceBEq])) dX1_cut_38 ?_
      refine lv_iconst (v := 1) hx hb dX1_cut_41 (by decide) ?_
      refine lv_iadd hx hb dX1_cut_42 ?_
      refine va_put (D := D) (ci := 1) (v := .int ((gi p_1 0) + 1)) (C := RX1) (T := TX1) (N := 11) hx hb hg inGX1 tyX1 tyX1_ok nmX1 hown hK hP hD hS 2 xo2 rfl 7 (by decide) (hg _ mw_88) (fun _ h9 => h9) rfl (tyX1_ok 7 (by decide)) rfl rfl (Nat.le_of_ble_eq_true rfl) dX1_cut_43 (fun H locs hP hD hS => ?_)
      have hP : va_P D vwCl (XW ad cI cJ co (si (sA p_1 1 (wr (gA p_1 1) 40 (gi p_1 0) (nI i_1))) 0 ((gi p_1 0) + 1)) ra li re wa pi) H := cgP xpX1_7 hP
      have hD : va_D A (XW ad cI cJ co (si (sA p_1 1 (wr (gA p_1 1) 40 (gi p_1 0) (nI i_1))) 0 ((gi p_1 0) + 1)) ra li re wa pi) := cgD xpX1_7 hD
      refine lv_aload_n hx hb dX1_cut_46 rfl (lv_at hl 0 rfl) ?_
      refine va_get (D := D) (ci := 1) (v := .ref (ad 12)) (C := RX1) (T := TX1) (N := 11) hx hb hg inGX1 hown hK hP 2 xo2 rfl 0 (by decide) (hg _ mw_91) (fun _ h9 => h9) xvX1_0 dX1_cut_47 ?_
      refine lv_iload hx hb dX1_cut_50 (lv_at hl 3 rfl) ?_
      refine lv_aload_n hx hb dX1_cut_52 rfl (lv_at hl 0 rfl) ?_
      refine va_get (D := D) (ci := 1) (v := .int ((gi p_1 0) + 1)) (C := RX1) (T := TX1) (N := 11) hx hb hg inGX1 hown hK hP 2 xo2 rfl 7 (by decide) (hg _ mw_88) (fun _ h9 => h9) (xvX1_7 (by simp only [gi_sl, gi_sA, gi_sB, gi_si_s, gi_si_n, gl_si, gl_sA, gl_sB, gl_sl_s, gl_sl_n, gA_si, gA_sl, gA_sB, gA_sA_s, gA_sA_n, gB_si, gB_sl, gB_sA, gB_sB_s, gB_sB_n, Nat.reduceBEq])) dX1_cut_53 ?_
      refine lv_iconst (v := 1) hx hb dX1_cut_56 (by decide) ?_
      refine lv_isub hx hb dX1_cut_57 ?_
      refine kV (rSN hx hb hml hown hg hN hK hP hD (c_put l D cI cJ (XW ad cI cJ co (si (sA p_1 1 (wr (gA p_1 1) 40 (gi p_1 0) (nI i_1))) 0 ((gi p_1 0) + 1)) ra li re wa pi) 12 (ad 12) 40 (gA p_1 0) (nI i_1) (((gi p_1 0) + 1) - 1) (xg12 (by simp only [gi_sl, gi_sA, gi_sB, gi_si_s, gi_si_n, gl_si, gl_sA, gl_sB, gl_sl_s, gl_sl_n, gA_si, gA_sl, gA_sB, gA_sA_s, gA_sA_n, gB_si, gB_sl, gB_sA, gB_sB_s, gB_sB_n, Nat.reduceBEq])) (by decide)) mw_92 nw_69 mw_93 mw_77 pd_X7_put ⟨Nat.le_of_ble_eq_true rfl, Nat.le_of_ble_eq_true rfl⟩ rfl hl.1 rfl (Nat.le_of_ble_eq_true rfl) dX1_cut_58 ⟨Nat.le_of_ble_eq_true rfl, Nat.le_of_ble_eq_true rfl⟩) hD hS hA (fun u_6 H locs hp hP hD hS => ?_)
      obtain rfl := hp.symm
      have hP : va_P D vwCl (XW ad cI cJ co (sA (si (sA p_1 1 (wr (gA p_1 1) 40 (gi p_1 0) (nI i_1))) 0 ((gi p_1 0) + 1)) 0 (wr (gA p_1 0) 40 (nI i_1) (((gi p_1 0) + 1) - 1))) ra li re wa pi) H := cgP xs12 hP
      have hD : va_D A (XW ad cI cJ co (sA (si (sA p_1 1 (wr (gA p_1 1) 40 (gi p_1 0) (nI i_1))) 0 ((gi p_1 0) + 1)) 0 (wr (gA p_1 0) 40 (nI i_1) (((gi p_1 0) + 1) - 1))) ra li re wa pi) := cgD xs12 hD
      refine lv_aload_n hx hb dX1_cut_61 rfl (lv_at hl 0 rfl) ?_
      refine va_get (D := D) (ci := 1) (v := .ref (ad 14)) (C := RX1) (T := TX1) (N := 11) hx hb hg inGX1 hown hK hP 2 xo2 rfl 2 (by decide) (hg _ mw_94) (fun _ h9 => h9) xvX1_2 dX1_cut_62 ?_
      refine lv_aload_n hx hb dX1_cut_65 rfl (lv_at hl 0 rfl) ?_
      refine va_get (D := D) (ci := 1) (v := .int ((gi p_1 0) + 1)) (C := RX1) (T := TX1) (N := 11) hx hb hg inGX1 hown hK hP 2 xo2 rfl 7 (by decide) (hg _ mw_88) (fun _ h9 => h9) (xvX1_7 (by simp only [gi_sl, gi_sA, gi_sB, gi_si_s, gi_si_n, gl_si, gl_sA, gl_sB, gl_sl_s, gl_sl_n, gA_si, gA_sl, gA_sB, gA_sA_s, gA_sA_n, gB_si, gB_sl, gB_sA, gB_sB_s, gB_sB_n, Nat.reduceBEq])) dX1_cut_66 ?_
      refine lv_iconst (v := 1) hx hb dX1_cut_69 (by decide) ?_
      refine lv_isub hx hb dX1_cut_70 ?_
      refine lv_iload hx hb dX1_cut_71 (lv_at hl 3 rfl) ?_
      refine kV (rSN hx hb hml hown hg hN hK hP hD (c_put l D cI cJ (XW ad cI cJ co (sA (si (sA p_1 1 (wr (gA p_1 1) 40 (gi p_1 0) (nI i_1))) 0 ((gi p_1 0) + 1)) 0 (wr (gA p_1 0) 40 (nI i_1) (((gi p_1 0) + 1) - 1))) ra li re wa pi) 14 (ad 14) 40 (gA p_1 2) (((gi p_1 0) + 1) - 1) (nI i_1) (xg14 (by simp only [gi_sl, gi_sA, gi_sB, gi_si_s, gi_si_n, gl_si, gl_sA, gl_sB, gl_sl_s, gl_sl_n, gA_si, gA_sl, gA_sB, gA_sA_s, gA_sA_n, gB_si, gB_sl, gB_sA, gB_sB_s, gB_sB_n, Nat.reduceBEq])) (by decide)) mw_92 nw_69 mw_93 mw_77 pd_X7_put ⟨Nat.le_of_ble_eq_true rfl, Nat.le_of_ble_eq_true rfl⟩ rfl hl.1 rfl (Nat.le_of_ble_eq_true rfl) dX1_cut_73 ⟨Nat.le_of_ble_eq_true rfl, Nat.le_of_ble_eq_true rfl⟩) hD hS hA (fun u_7 H locs hp hP hD hS => ?_)
      obtain rfl := hp.symm
      have hP : va_P D vwCl (XW ad cI cJ co (sA (sA (si (sA p_1 1 (wr (gA p_1 1) 40 (gi p_1 0) (nI i_1))) 0 ((gi p_1 0) + 1)) 0 (wr (gA p_1 0) 40 (nI i_1) (((gi p_1 0) + 1) - 1))) 2 (wr (gA p_1 2) 40 (((gi p_1 0) + 1) - 1) (nI i_1))) ra li re wa pi) H := cgP xs14 hP
      have hD : va_D A (XW ad cI cJ co (sA (sA (si (sA p_1 1 (wr (gA p_1 1) 40 (gi p_1 0) (nI i_1))) 0 ((gi p_1 0) + 1)) 0 (wr (gA p_1 0) 40 (nI i_1) (((gi p_1 0) + 1) - 1))) 2 (wr (gA p_1 2) 40 (((gi p_1 0) + 1) - 1) (nI i_1))) ra li re wa pi) := cgD xs14 hD
      refine lv_iinc (v := (nI (i_1 + 1))) (lv' := [(4, .int (nI (i_1 + 1))), (0, .ref (ad 2)), (1, .int k1), (2, .long l1)]) hx hb dX1_cut_76 hl (k := 3) rfl (nI_1 i_1) (by decide) rfl (fun ls hl => ?_)
      refine lv_goto (tgt := 8) hx hb dX1_cut_79 (by decide) ?_
      exact ih_1 (sA (sA (si (sA p_1 1 (wr (gA p_1 1) 40 (gi p_1 0) (nI i_1))) 0 ((gi p_1 0) + 1)) 0 (wr (gA p_1 0) 40 (nI i_1) (((gi p_1 0) + 1) - 1))) 2 (wr (gA p_1 2) 40 (((gi p_1 0) + 1) - 1) (nI i_1))) H locs ls ⟨((show (sA (sA (si (sA p_1 1 (wr (gA p_1 1) 40 (gi p_1 0) (nI i_1))) 0 ((gi p_1 0) + 1)) 0 (wr (gA p_1 0) 40 (nI i_1) (((gi p_1 0) + 1) - 1))) 2 (wr (gA p_1 2) 40 (((gi p_1 0) + 1) - 1) (nI i_1))) = (cutStep l1) i_1 p_1 from (by simp only [cutStep, cutA, cutB, c_20, gi_sl, gi_sA, gi_sB, gi_si_s, gi_si_n, gl_si, gl_sA, gl_sB, gl_sl_s, gl_sl_n, gA_si, gA_sl, gA_sB, gA_sA_s, gA_sA_n, gB_si, gB_sl, gB_sA, gB_sB_s, gB_sB_n, Nat.reduceBEq, if_true, if_false, eq_self, Bool.false_eq_true, Bool.true_eq_false, not_true_eq_false, not_false_eq_true, decide_true, decide_false, cond_true, cond_false, Bool.true_and, Bool.false_and, Bool.and_true, Bool.and_false, Bool.true_or, Bool.false_or, Bool.or_true, Bool.or_false, b2i_tt, b2i_ff, pr_eta]; done)).trans (lp_go h_1)), hP, hD, hS, lv_sub hl [1, 2, 3, 0] rfl⟩
