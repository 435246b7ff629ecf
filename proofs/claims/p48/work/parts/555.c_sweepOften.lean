theorem dX3_sweepOften_0 : decode cX3_sweepOften 0 = .ok (.iconst 0, 1) := by decide +kernel
theorem dX3_sweepOften_1 : decode cX3_sweepOften 1 = .ok (.istore_n 2, 1) := by decide +kernel
theorem dX3_sweepOften_2 : decode cX3_sweepOften 2 = .ok (.iload_n 2, 1) := by decide +kernel
theorem dX3_sweepOften_3 : decode cX3_sweepOften 3 = .ok (.iload_n 1, 1) := by decide +kernel
theorem dX3_sweepOften_4 : decode cX3_sweepOften 4 = .ok (.if_icmp .ge 89, 3) := by decide +kernel
theorem dX3_sweepOften_7 : decode cX3_sweepOften 7 = .ok (.aload_n 0, 1) := by decide +kernel
theorem dX3_sweepOften_8 : decode cX3_sweepOften 8 = .ok (.getfield 59, 3) := by decide +kernel
theorem dX3_sweepOften_11 : decode cX3_sweepOften 11 = .ok (.iconst 1, 1) := by decide +kernel
theorem dX3_sweepOften_12 : decode cX3_sweepOften 12 = .ok (.iand, 1) := by decide +kernel
theorem dX3_sweepOften_13 : decode cX3_sweepOften 13 = .ok (.ifCond .ne 7, 3) := by decide +kernel
theorem dX3_sweepOften_16 : decode cX3_sweepOften 16 = .ok (.iconst 1, 1) := by decide +kernel
theorem dX3_sweepOften_17 : decode cX3_sweepOften 17 = .ok (.goto 4, 3) := by decide +kernel
theorem dX3_sweepOften_20 : decode cX3_sweepOften 20 = .ok (.iconst 0, 1) := by decide +kernel
theorem dX3_sweepOften_21 : decode cX3_sweepOften 21 = .ok (.istore_n 3, 1) := by decide +kernel
theorem dX3_sweepOften_22 : decode cX3_sweepOften 22 = .ok (.iconst 1, 1) := by decide +kernel
theorem dX3_sweepOften_23 : decode cX3_sweepOften 23 = .ok (.istore 4, 2) := by decide +kernel
theorem dX3_sweepOften_25 : decode cX3_sweepOften 25 = .ok (.iload 4, 2) := by decide +kernel
theorem dX3_sweepOften_27 : decode cX3_sweepOften 27 = .ok (.aload_n 0, 1) := by decide +kernel
theorem dX3_sweepOften_28 : decode cX3_sweepOften 28 = .ok (.getfield 72, 3) := by decide +kernel
theorem dX3_sweepOften_31 : decode cX3_sweepOften 31 = .ok (.if_icmp .ge 46, 3) := by decide +kernel
theorem dX3_sweepOften_34 : decode cX3_sweepOften 34 = .ok (.iload_n 3, 1) := by decide +kernel
theorem dX3_sweepOften_35 : decode cX3_sweepOften 35 = .ok (.ifCond .eq 16, 3) := by decide +kernel
theorem dX3_sweepOften_38 : decode cX3_sweepOften 38 = .ok (.aload_n 0, 1) := by decide +kernel
theorem dX3_sweepOften_39 : decode cX3_sweepOften 39 = .ok (.iload 4, 2) := by decide +kernel
theorem dX3_sweepOften_41 : decode cX3_sweepOften 41 = .ok (.iload 4, 2) := by decide +kernel
theorem dX3_sweepOften_43 : decode cX3_sweepOften 43 = .ok (.iconst 1, 1) := by decide +kernel
theorem dX3_sweepOften_44 : decode cX3_sweepOften 44 = .ok (.isub, 1) := by decide +kernel
theorem dX3_sweepOften_45 : decode cX3_sweepOften 45 = .ok (.invokevirtual 144, 3) := by decide +kernel
theorem dX3_sweepOften_48 : decode cX3_sweepOften 48 = .ok (.goto 23, 3) := by decide +kernel
theorem dX3_sweepOften_51 : decode cX3_sweepOften 51 = .ok (.aload_n 0, 1) := by decide +kernel
theorem dX3_sweepOften_52 : decode cX3_sweepOften 52 = .ok (.aload_n 0, 1) := by decide +kernel
theorem dX3_sweepOften_53 : decode cX3_sweepOften 53 = .ok (.getfield 72, 3) := by decide +kernel
theorem dX3_sweepOften_56 : decode cX3_sweepOften 56 = .ok (.iconst 1, 1) := by decide +kernel
theorem dX3_sweepOften_57 : decode cX3_sweepOften 57 = .ok (.isub, 1) := by decide +kernel
theorem dX3_sweepOften_58 : decode cX3_sweepOften 58 = .ok (.iload 4, 2) := by decide +kernel
theorem dX3_sweepOften_60 : decode cX3_sweepOften 60 = .ok (.isub, 1) := by decide +kernel
theorem dX3_sweepOften_61 : decode cX3_sweepOften 61 = .ok (.aload_n 0, 1) := by decide +kernel
theorem dX3_sweepOften_62 : decode cX3_sweepOften 62 = .ok (.getfield 72, 3) := by decide +kernel
theorem dX3_sweepOften_65 : decode cX3_sweepOften 65 = .ok (.iload 4, 2) := by decide +kernel
theorem dX3_sweepOften_67 : decode cX3_sweepOften 67 = .ok (.isub, 1) := by decide +kernel
theorem dX3_sweepOften_68 : decode cX3_sweepOften 68 = .ok (.invokevirtual 144, 3) := by decide +kernel
theorem dX3_sweepOften_71 : decode cX3_sweepOften 71 = .ok (.iinc 4 1, 3) := by decide +kernel
theorem dX3_sweepOften_74 : decode cX3_sweepOften 74 = .ok (.goto (-49), 3) := by decide +kernel
theorem dX3_sweepOften_77 : decode cX3_sweepOften 77 = .ok (.aload_n 0, 1) := by decide +kernel
theorem dX3_sweepOften_78 : decode cX3_sweepOften 78 = .ok (.dup, 1) := by decide +kernel
theorem dX3_sweepOften_79 : decode cX3_sweepOften 79 = .ok (.getfield 59, 3) := by decide +kernel
theorem dX3_sweepOften_82 : decode cX3_sweepOften 82 = .ok (.iconst 1, 1) := by decide +kernel
theorem dX3_sweepOften_83 : decode cX3_sweepOften 83 = .ok (.iadd, 1) := by decide +kernel
theorem dX3_sweepOften_84 : decode cX3_sweepOften 84 = .ok (.putfield 59, 3) := by decide +kernel
theorem dX3_sweepOften_87 : decode cX3_sweepOften 87 = .ok (.iinc 2 1, 3) := by decide +kernel
theorem dX3_sweepOften_90 : decode cX3_sweepOften 90 = .ok (.goto (-88), 3) := by decide +kernel
theorem dX3_sweepOften_93 : decode cX3_sweepOften 93 = .ok (.return_, 1) := by decide +kernel
theorem mw_309 : Cond.code yX3_arrange cX3_arrange 8 (none : Option FieldType) ∈ GW := gw_mem (inT4 _ (List.mem_of_getElem? (i := 119) rfl)) rfl
theorem mw_310 : Cond.methodLink RX3 144 yX3_arrange ∈ GW := gw_mem (inT4 _ (List.mem_of_getElem? (i := 116) rfl)) rfl
theorem mw_311 : Cond.instanceMethod yX3_arrange ∈ GW := gw_mem (inT4 _ (List.mem_of_getElem? (i := 118) rfl)) rfl
theorem mw_312 : Cond.selects RX3 yX3_arrange yX3_arrange ∈ GW := gw_mem (inTp (q := (yX3_arrange, 16)) (List.mem_of_getElem? (i := 42) rfl)) rfl
theorem pdv_X3_arrange : yX3_arrange.cls = RX3 ∧ yX3_arrange.cls ≠ "java/lang/invoke/MethodHandle" ∧ yX3_arrange.cls ≠ "java/lang/invoke/VarHandle" ∧ (parseMethodDescriptor yX3_arrange.desc).map (fun d => d.parameters.length) = some 2 := by decide +kernel
set_option maxHeartbeats 4000000 in
set_option maxRecDepth 100000 in
theorem c_sweepOften (l : Launch) (D : va_G) (cI cJ : ClassId) (ad : Nat → Nat) (co fl ra li re wa pi : Ob) (k1 : Int32) : CT l D (TY cI cJ) yX3_sweepOften (.code yX3_sweepOften cX3_sweepOften 5 (none : Option FieldType)) 5 0 0 (XW ad cI cJ co fl ra li re wa pi) [.ref (ad 6), .int k1] (QV D (TY cI cJ) (fun u => u = (XW ad cI cJ co fl ra li re wa (sweepOften wa pi k1)))) := by
  refine ent (by decide) (Nat.le_of_ble_eq_true rfl) ?_
  intro p e s m below meth c ls A hx hb hr hg hown hml hlocks hnm hP hK hD hS hA hN hl
  have hl : lv_has ls 5 [(0, .ref (ad 6)), (1, .int k1)] := hl
  refine lv_iconst (v := 0) hx hb dX3_sweepOften_0 (by decide) ?_
  refine lv_istore_n (lv' := [(2, .int 0), (0, .ref (ad 6)), (1, .int k1)]) hx hb dX3_sweepOften_1 rfl hl (by decide) rfl (fun ls hl => ?_)
  refine w_loop (σ := Ob) (fun (i_1 : Nat) (p_1 : Ob) (H : Heap) (locs : List Loc) (ls : Array Slot) => p_1 = (lp (soStep wa) i_1 pi) ∧ va_P D vwCl (XW ad cI cJ co fl ra li re wa p_1) H ∧ va_D A (XW ad cI cJ co fl ra li re wa p_1) ∧ va_S A s.heap H locs ∧ lv_has ls 5 [(0, .ref (ad 6)), (1, .int k1), (2, .int (nI i_1))]) (nN k1) (fun p_1 H locs ls hI => ?_) (fun i_1 p_1 H locs ls hi_1 hI ih_1 => ?_) 0 pi (Nat.zero_le _) ⟨(lp_0 _ _), hP, hD, hS, (by rw [nI_0]; exact lv_sub hl [1, 2, 0] rfl)⟩
  · obtain ⟨h_1, hP, hD, hS, hl⟩ := hI
    have h_1 := h_1.symm
    subst h_1
    have hP : va_P D vwCl (XW ad cI cJ co fl ra li re wa ((lp (soStep wa) (nN k1) pi))) H := hP
    have hD : va_D A (XW ad cI cJ co fl ra li re wa ((lp (soStep wa) (nN k1) pi))) := hD
    have hl : lv_has ls 5 [(0, .ref (ad 6)), (1, .int k1), (2, .int (nI ((nN k1))))] := hl
    refine lv_iload_n hx hb dX3_sweepOften_2 rfl (lv_at hl 2 rfl) ?_
    refine lv_iload_n hx hb dX3_sweepOften_3 rfl (lv_at hl 1 rfl) ?_
    refine lv_icmp_ge (tgt := 93) hx hb dX3_sweepOften_4 (by decide) (fun _ => ?_) (fun c_4 => absurd (lp_out _) c_4)
    exact W.vret hx hb hr (fun t ht hW => ⟨⟨(XW ad cI cJ co fl ra li re wa ((lp (soStep wa) (nN k1) pi))), rfl, xw_eq rfl rfl rfl rfl rfl rfl (show ((lp (soStep wa) (nN k1) pi)) = (sweepOften wa pi k1) from (by first | with_reducible rfl | (simp only [sweepOften, gi_sl, gi_sA, gi_sB, gi_si_s, gi_si_n, gl_si, gl_sA, gl_sB, gl_sl_s, gl_sl_n, gA_si, gA_sl, gA_sB, gA_sA_s, gA_sA_n, gB_si, gB_sl, gB_sA, gB_sB_s, gB_sB_n, Nat.reduceBEq, if_true, if_false, eq_self, Bool.false_eq_true, Bool.true_eq_false, not_true_eq_false, not_false_eq_true, decide_true, decide_false, cond_true, cond_false, Bool.true_and, Bool.false_and, Bool.and_true, Bool.and_false, Bool.true_or, Bool.false_or, Bool.or_true, Bool.or_false, b2i_tt, b2i_ff, pr_eta]; done))), ⟨by rw [ht]; exact hP, va_K.moved hW.alike hK, hD⟩⟩, hS.F ht⟩) hS.2.2 dX3_sweepOften_93
  · obtain ⟨h_1, hP, hD, hS, hl⟩ := hI
    have hP : va_P D vwCl (XW ad cI cJ co fl ra li re wa p_1) H := hP
    have hD : va_D A (XW ad cI cJ co fl ra li re wa p_1) := hD
    have hl : lv_has ls 5 [(0, .ref (ad 6)), (1, .int k1), (2, .int (nI i_1))] := hl
    refine lv_iload_n hx hb dX3_sweepOften_2 rfl (lv_at hl 2 rfl) ?_
    refine lv_iload_n hx hb dX3_sweepOften_3 rfl (lv_at hl 1 rfl) ?_
    refine lv_icmp_ge (tgt := 93) hx hb dX3_sweepOften_4 (by decide) (fun c_4 => absurd c_4 (lp_in hi_1)) (fun _ => ?_)
    refine lv_aload_n hx hb dX3_sweepOften_7 rfl (lv_at hl 0 rfl) ?_
    refine va_get (D := D) (ci := 3) (v := .int (gi p_1 2)) (C := RX3) (T := TX3) (N := 16) hx hb hg inGX3 hown hK hP 6 xo6 rfl 14 (by decide) (hg _ mw_265) (fun _ h9 => h9) (xvX3_14 rfl) dX3_sweepOften_8 ?_
    refine lv_iconst (v := 1) hx hb dX3_sweepOften_11 (by decide) ?_
    refine lv_iand hx hb dX3_sweepOften_12 ?_
    refine lv_if_ne (tgt := 20) hx hb dX3_sweepOften_13 (by decide) (fun c_13 => ?_) (fun c_13 => ?_)
    · refine lv_iconst (v := 0) hx hb dX3_sweepOften_20 (by decide) ?_
      refine lv_istore_n (lv' := [(3, .int 0), (0, .ref (ad 6)), (1, .int k1), (2, .int (nI i_1))]) hx hb dX3_sweepOften_21 rfl hl (by decide) rfl (fun ls hl => ?_)
      refine lv_iconst (v := 1) hx hb dX3_sweepOften_22 (by decide) ?_
      refine lv_istore (lv' := [(4, .int 1), (3, .int 0), (0, .ref (ad 6)), (1, .int k1), (2, .int (nI i_1))]) hx hb dX3_sweepOften_23 hl (by decide) rfl (fun ls hl => ?_)
      refine w_loop (σ := Ob) (fun (i_2 : Nat) (p_2 : Ob) (H : Heap) (locs : List Loc) (ls : Array Slot) => p_2 = (lp (soK wa (soDown p_1)) i_2 p_1) ∧ va_P D vwCl (XW ad cI cJ co fl ra li re wa p_2) H ∧ va_D A (XW ad cI cJ co fl ra li re wa p_2) ∧ va_S A s.heap H locs ∧ lv_has ls 5 [(0, .ref (ad 6)), (1, .int k1), (2, .int (nI i_1)), (3, .int 0), (4, .int (nI (i_2 + 1)))]) (nN (gi p_1 1) - 1) (fun p_2 H locs ls hI => ?_) (fun i_2 p_2 H locs ls hi_2 hI ih_2 => ?_) 0 p_1 (Nat.zero_le _) ⟨(lp_0 _ _), hP, hD, hS, (by rw [nI_01]; exact lv_sub hl [2, 3, 4, 1, 0] rfl)⟩
      · obtain ⟨h_2, hP, hD, hS, hl⟩ := hI
        have h_2 := h_2.symm
        subst h_2
        have hP : va_P D vwCl (XW ad cI cJ co fl ra li re wa ((lp (soK wa (soDown p_1)) (nN (gi p_1 1) - 1) p_1))) H := hP
        have hD : va_D A (XW ad cI cJ co fl ra li re wa ((lp (soK wa (soDown p_1)) (nN (gi p_1 1) - 1) p_1))) := hD
        have hl : lv_has ls 5 [(0, .ref (ad 6)), (1, .int k1), (2, .int (nI i_1)), (3, .int 0), (4, .int (nI ((nN (gi p_1 1) - 1) + 1)))] := hl
        refine lv_iload hx hb dX3_sweepOften_25 (lv_at hl 4 rfl) ?_
        refine lv_aload_n hx hb dX3_sweepOften_27 rfl (lv_at hl 0 rfl) ?_
        refine va_get (D := D) (ci := 3) (v := .int (gi ((lp (soK wa (soDown p_1)) (nN (gi p_1 1) - 1) p_1)) 1)) (C := RX3) (T := TX3) (N := 16) hx hb hg inGX3 hown hK hP 6 xo6 rfl 13 (by decide) (hg _ mw_235) (fun _ h9 => h9) (xvX3_13 rfl) dX3_sweepOften_28 ?_
        refine lv_icmp_ge (tgt := 77) hx hb dX3_sweepOften_31 (by decide) (fun _ => ?_) (fun c_31 => absurd (by rw [k_soL]; exact n1_out _) c_31)
        refine lv_aload_n hx hb dX3_sweepOften_77 rfl (lv_at hl 0 rfl) ?_
        refine lv_dup hx hb dX3_sweepOften_78 rfl ?_
        refine va_get (D := D) (ci := 3) (v := .int (gi ((lp (soK wa (soDown p_1)) (nN (gi p_1 1) - 1) p_1)) 2)) (C := RX3) (T := TX3) (N := 16) hx hb hg inGX3 hown hK hP 6 xo6 rfl 14 (by decide) (hg _ mw_265) (fun _ h9 => h9) (xvX3_14 rfl) dX3_sweepOften_79 ?_
        refine lv_iconst (v := 1) hx hb dX3_sweepOften_82 (by decide) ?_
        refine lv_iadd hx hb dX3_sweepOften_83 ?_
        refine va_put (D := D) (ci := 3) (v := .int ((gi ((lp (soK wa (soDown p_1)) (nN (gi p_1 1) - 1) p_1)) 2) + 1)) (C := RX3) (T := TX3) (N := 16) hx hb hg inGX3 tyX3 tyX3_ok nmX3 hown hK hP hD hS 6 xo6 rfl 14 (by decide) (hg _ mw_265) (fun _ h9 => h9) rfl (tyX3_ok 14 (by decide)) rfl rfl (Nat.le_of_ble_eq_true rfl) dX3_sweepOften_84 (fun H locs hP hD hS => ?_)
        have hP : va_P D vwCl (XW ad cI cJ co fl ra li re wa (si ((lp (soK wa (soDown p_1)) (nN (gi p_1 1) - 1) p_1)) 2 ((gi ((lp (soK wa (soDown p_1)) (nN (gi p_1 1) - 1) p_1)) 2) + 1))) H := cgP xpX3_14 hP
        have hD : va_D A (XW ad cI cJ co fl ra li re wa (si ((lp (soK wa (soDown p_1)) (nN (gi p_1 1) - 1) p_1)) 2 ((gi ((lp (soK wa (soDown p_1)) (nN (gi p_1 1) - 1) p_1)) 2) + 1))) := cgD xpX3_14 hD
        refine lv_iinc (v := (nI (i_1 + 1))) (lv' := [(2, .int (nI (i_1 + 1))), (0, .ref (ad 6)), (1, .int k1), (3, .int 0), (4, .int (nI ((nN (gi p_1 1) - 1) + 1)))]) hx hb dX3_sweepOften_87 hl (k := 2) rfl (nI_1 i_1) (by decide) rfl (fun ls hl => ?_)
        refine lv_goto (tgt := 2) hx hb dX3_sweepOften_90 (by decide) ?_
        exact ih_1 (si ((lp (soK wa (soDown p_1)) (nN (gi p_1 1) - 1) p_1)) 2 ((gi ((lp (soK wa (soDown p_1)) (nN (gi p_1 1) - 1) p_1)) 2) + 1)) H locs ls ⟨((show (si ((lp (soK wa (soDown p_1)) (nN (gi p_1 1) - 1) p_1)) 2 ((gi ((lp (soK wa (soDown p_1)) (nN (gi p_1 1) - 1) p_1)) 2) + 1)) = (soStep wa) i_1 p_1 from (by simp only [soStep, soAll, soDown, eq_false c_13, gi_sl, gi_sA, gi_sB, gi_si_s, gi_si_n, gl_si, gl_sA, gl_sB, gl_sl_s, gl_sl_n, gA_si, gA_sl, gA_sB, gA_sA_s, gA_sA_n, gB_si, gB_sl, gB_sA, gB_sB_s, gB_sB_n, Nat.reduceBEq, if_true, if_false, eq_self, Bool.false_eq_true, Bool.true_eq_false, not_true_eq_false, not_false_eq_true, decide_true, decide_false, cond_true, cond_false, Bool.true_and, Bool.false_and, Bool.and_true, Bool.and_false, Bool.true_or, Bool.false_or, Bool.or_true, Bool.or_false, b2i_tt, b2i_ff, pr_eta]; done)).trans (lp_go h_1)), hP, hD, hS, lv_sub hl [1, 2, 0] rfl⟩
      · obtain ⟨h_2, hP, hD, hS, hl⟩ := hI
        have hP : va_P D vwCl (XW ad cI cJ co fl ra li re wa p_2) H := hP
        have hD : va_D A (XW ad cI cJ co fl ra li re wa p_2) := hD
        have hl : lv_has ls 5 [(0, .ref (ad 6)), (1, .int k1), (2, .int (nI i_1)), (3, .int 0), (4, .int (nI (i_2 + 1)))] := hl
        refine lv_iload hx hb dX3_sweepOften_25 (lv_at hl 4 rfl) ?_
        refine lv_aload_n hx hb dX3_sweepOften_27 rfl (lv_at hl 0 rfl) ?_
        refine va_get (D := D) (ci := 3) (v := .int (gi p_2 1)) (C := RX3) (T := TX3) (N := 16) hx hb hg inGX3 hown hK hP 6 xo6 rfl 13 (by decide) (hg _ mw_235) (fun _ h9 => h9) (xvX3_13 rfl) dX3_sweepOften_28 ?_
        refine lv_icmp_ge (tgt := 77) hx hb dX3_sweepOften_31 (by decide) (fun c_31 => absurd c_31 (by rw [h_2, k_soL]; exact n1_in hi_2)) (fun _ => ?_)
        refine lv_iload_n hx hb dX3_sweepOften_34 rfl (lv_at hl 3 rfl) ?_
        refine lv_if_eq (tgt := 51) hx hb dX3_sweepOften_35 (by decide) (fun _ => ?_) (fun c_35 => absurd (by decide) c_35)
        refine lv_aload_n hx hb dX3_sweepOften_51 rfl (lv_at hl 0 rfl) ?_
        refine lv_aload_n hx hb dX3_sweepOften_52 rfl (lv_at hl 0 rfl) ?_
        refine va_get (D := D) (ci := 3) (v := .int (gi p_2 1)) (C := RX3) (T := TX3) (N := 16) hx hb hg inGX3 hown hK hP 6 xo6 rfl 13 (by decide) (hg _ mw_235) (fun _ h9 => h9) (xvX3_13 rfl) dX3_sweepOften_53 ?_
        refine lv_iconst (v := 1) hx hb dX3_sweepOften_56 (by decide) ?_
        refine lv_isub hx hb dX3_sweepOften_57 ?_
        refine lv_iload hx hb dX3_sweepOften_58 (lv_at hl 4 rfl) ?_
        refine lv_isub hx hb dX3_sweepOften_60 ?_
        refine lv_aload_n hx hb dX3_sweepOften_61 rfl (lv_at hl 0 rfl) ?_
        refine va_get (D := D) (ci := 3) (v := .int (gi p_2 1)) (C := RX3) (T := TX3) (N := 16) hx hb hg inGX3 hown hK hP 6 xo6 rfl 13 (by decide) (hg _ mw_235) (fun _ h9 => h9) (xvX3_13 rfl) dX3_sweepOften_62 ?_
        refine lv_iload hx hb dX3_sweepOften_65 (lv_at hl 4 rfl) ?_
        refine lv_isub hx hb dX3_sweepOften_67 ?_
        refine kV (rV (q0 := 6) (ci := 3) hx hb hml hown hg hN hK hP hD (c_arrange l D cI cJ ad co fl ra li re wa p_2 (((gi p_2 1) - 1) - (nI (i_2 + 1))) ((gi p_2 1) - (nI (i_2 + 1)))) mw_309 mw_310 mw_311 mw_312 mw_234 pdv_X3_arrange ⟨Nat.le_of_ble_eq_true rfl, Nat.le_of_ble_eq_true rfl⟩ rfl xo6 rfl hl.1 rfl (Nat.le_of_ble_eq_true rfl) dX3_sweepOften_68 ⟨Nat.le_of_ble_eq_true rfl, Nat.le_of_ble_eq_true rfl⟩) hD hS hA (fun u_3 H locs hp hP hD hS => ?_)
        obtain rfl := hp.symm
        have hP : va_P D vwCl (XW ad cI cJ co fl ra li re wa (arrange wa p_2 (((gi p_2 1) - 1) - (nI (i_2 + 1))) ((gi p_2 1) - (nI (i_2 + 1))))) H := hP
        have hD : va_D A (XW ad cI cJ co fl ra li re wa (arrange wa p_2 (((gi p_2 1) - 1) - (nI (i_2 + 1))) ((gi p_2 1) - (nI (i_2 + 1))))) := hD
        refine lv_iinc (v := (nI (i_2 + 1 + 1))) (lv' := [(4, .int (nI (i_2 + 1 + 1))), (0, .ref (ad 6)), (1, .int k1), (2, .int (nI i_1)), (3, .int 0)]) hx hb dX3_sweepOften_71 hl (k := 4) rfl (nI_1 (i_2 + 1)) (by decide) rfl (fun ls hl => ?_)
        refine lv_goto (tgt := 25) hx hb dX3_sweepOften_74 (by decide) ?_
        exact ih_2 (arrange wa p_2 (((gi p_2 1) - 1) - (nI (i_2 + 1))) ((gi p_2 1) - (nI (i_2 + 1)))) H locs ls ⟨((show (arrange wa p_2 (((gi p_2 1) - 1) - (nI (i_2 + 1))) ((gi p_2 1) - (nI (i_2 + 1)))) = (soK wa (soDown p_1)) i_2 p_2 from (by simp only [soK, soDown, eq_false c_13, gi_sl, gi_sA, gi_sB, gi_si_s, gi_si_n, gl_si, gl_sA, gl_sB, gl_sl_s, gl_sl_n, gA_si, gA_sl, gA_sB, gA_sA_s, gA_sA_n, gB_si, gB_sl, gB_sA, gB_sB_s, gB_sB_n, Nat.reduceBEq, if_true, if_false, eq_self, Bool.false_eq_true, Bool.true_eq_false, not_true_eq_false, not_false_eq_true, decide_true, decide_false, cond_true, cond_false, Bool.true_and, Bool.false_and, Bool.and_true, Bool.and_false, Bool.true_or, Bool.false_or, Bool.or_true, Bool.or_false, b2i_tt, b2i_ff, pr_eta]; done)).trans (lp_go h_2)), hP, hD, hS, lv_sub hl [1, 2, 3, 4, 0] rfl⟩
    · refine lv_iconst (v := 1) hx hb dX3_sweepOften_16 (by decide) ?_
      refine lv_goto (tgt := 21) hx hb dX3_sweepOften_17 (by decide) ?_
      refine lv_istore_n (lv' := [(3, .int 1), (0, .ref (ad 6)), (1, .int k1), (2, .int (nI i_1))]) hx hb dX3_sweepOften_21 rfl hl (by decide) rfl (fun ls hl => ?_)
      refine lv_iconst (v := 1) hx hb dX3_sweepOften_22 (by decide) ?_
      refine lv_istore (lv' := [(4, .int 1), (3, .int 1), (0, .ref (ad 6)), (1, .int k1), (2, .int (nI i_1))]) hx hb dX3_sweepOften_23 hl (by decide) rfl (fun ls hl => ?_)
      refine w_loop (σ := Ob) (fun (i_4 : Nat) (p_4 : Ob) (H : Heap) (locs : List Loc) (ls : Array Slot) => p_4 = (lp (soK wa (soDown p_1)) i_4 p_1) ∧ va_P D vwCl (XW ad cI cJ co fl ra li re wa p_4) H ∧ va_D A (XW ad cI cJ co fl ra li re wa p_4) ∧ va_S A s.heap H locs ∧ lv_has ls 5 [(0, .ref (ad 6)), (1, .int k1), (2, .int (nI i_1)), (3, .int 1), (4, .int (nI (i_4 + 1)))]) (nN (gi p_1 1) - 1) (fun p_4 H locs ls hI => ?_) (fun i_4 p_4 H locs ls hi_4 hI ih_4 => ?_) 0 p_1 (Nat.zero_le _) ⟨(lp_0 _ _), hP, hD, hS, (by rw [nI_01]; exact lv_sub hl [2, 3, 4, 1, 0] rfl)⟩
      · obtain ⟨h_4, hP, hD, hS, hl⟩ := hI
        have h_4 := h_4.symm
        subst h_4
        have hP : va_P D vwCl (XW ad cI cJ co fl ra li re wa ((lp (soK wa (soDown p_1)) (nN (gi p_1 1) - 1) p_1))) H := hP
        have hD : va_D A (XW ad cI cJ co fl ra li re wa ((lp (soK wa (soDown p_1)) (nN (gi p_1 1) - 1) p_1))) := hD
        have hl : lv_has ls 5 [(0, .ref (ad 6)), (1, .int k1), (2, .int (nI i_1)), (3, .int 1), (4, .int (nI ((nN (gi p_1 1) - 1) + 1)))] := hl
        refine lv_iload hx hb dX3_sweepOften_25 (lv_at hl 4 rfl) ?_
        refine lv_aload_n hx hb dX3_sweepOften_27 rfl (lv_at hl 0 rfl) ?_
        refine va_get (D := D) (ci := 3) (v := .int (gi ((lp (soK wa (soDown p_1)) (nN (gi p_1 1) - 1) p_1)) 1)) (C := RX3) (T := TX3) (N := 16) hx hb hg inGX3 hown hK hP 6 xo6 rfl 13 (by decide) (hg _ mw_235) (fun _ h9 => h9) (xvX3_13 rfl) dX3_sweepOften_28 ?_
        refine lv_icmp_ge (tgt := 77) hx hb dX3_sweepOften_31 (by decide) (fun _ => ?_) (fun c_31 => absurd (by rw [k_soL]; exact n1_out _) c_31)
        refine lv_aload_n hx hb dX3_sweepOften_77 rfl (lv_at hl 0 rfl) ?_
        refine lv_dup hx hb dX3_sweepOften_78 rfl ?_
        refine va_get (D := D) (ci := 3) (v := .int (gi ((lp (soK wa (soDown p_1)) (nN (gi p_1 1) - 1) p_1)) 2)) (C := RX3) (T := TX3) (N := 16) hx hb hg inGX3 hown hK hP 6 xo6 rfl 14 (by decide) (hg _ mw_265) (fun _ h9 => h9) (xvX3_14 rfl) dX3_sweepOften_79 ?_
        refine lv_iconst (v := 1) hx hb dX3_sweepOften_82 (by decide) ?_
        refine lv_iadd hx hb dX3_sweepOften_83 ?_
        refine va_put (D := D) (ci := 3) (v := .int ((gi ((lp (soK wa (soDown p_1)) (nN (gi p_1 1) - 1) p_1)) 2) + 1)) (C := RX3) (T := TX3) (N := 16) hx hb hg inGX3 tyX3 tyX3_ok nmX3 hown hK hP hD hS 6 xo6 rfl 14 (by decide) (hg _ mw_265) (fun _ h9 => h9) rfl (tyX3_ok 14 (by decide)) rfl rfl (Nat.le_of_ble_eq_true rfl) dX3_sweepOften_84 (fun H locs hP hD hS => ?_)
        have hP : va_P D vwCl (XW ad cI cJ co fl ra li re wa (si ((lp (soK wa (soDown p_1)) (nN (gi p_1 1) - 1) p_1)) 2 ((gi ((lp (soK wa (soDown p_1)) (nN (gi p_1 1) - 1) p_1)) 2) + 1))) H := cgP xpX3_14 hP
        have hD : va_D A (XW ad cI cJ co fl ra li re wa (si ((lp (soK wa (soDown p_1)) (nN (gi p_1 1) - 1) p_1)) 2 ((gi ((lp (soK wa (soDown p_1)) (nN (gi p_1 1) - 1) p_1)) 2) + 1))) := cgD xpX3_14 hD
        refine lv_iinc (v := (nI (i_1 + 1))) (lv' := [(2, .int (nI (i_1 + 1))), (0, .ref (ad 6)), (1, .int k1), (3, .int 1), (4, .int (nI ((nN (gi p_1 1) - 1) + 1)))]) hx hb dX3_sweepOften_87 hl (k := 2) rfl (nI_1 i_1) (by decide) rfl (fun ls hl => ?_)
        refine lv_goto (tgt := 2) hx hb dX3_sweepOften_90 (by decide) ?_
        exact ih_1 (si ((lp (soK wa (soDown p_1)) (nN (gi p_1 1) - 1) p_1)) 2 ((gi ((lp (soK wa (soDown p_1)) (nN (gi p_1 1) - 1) p_1)) 2) + 1)) H locs ls ⟨((show (si ((lp (soK wa (soDown p_1)) (nN (gi p_1 1) - 1) p_1)) 2 ((gi ((lp (soK wa (soDown p_1)) (nN (gi p_1 1) - 1) p_1)) 2) + 1)) = (soStep wa) i_1 p_1 from (by simp only [soStep, soAll, soDown, eq_true c_13, gi_sl, gi_sA, gi_sB, gi_si_s, gi_si_n, gl_si, gl_sA, gl_sB, gl_sl_s, gl_sl_n, gA_si, gA_sl, gA_sB, gA_sA_s, gA_sA_n, gB_si, gB_sl, gB_sA, gB_sB_s, gB_sB_n, Nat.reduceBEq, if_true, if_false, eq_self, Bool.false_eq_true, Bool.true_eq_false, not_true_eq_false, not_false_eq_true, decide_true, decide_false, cond_true, cond_false, Bool.true_and, Bool.false_and, Bool.and_true, Bool.and_false, Bool.true_or, Bool.false_or, Bool.or_true, Bool.or_false, b2i_tt, b2i_ff, pr_eta]; done)).trans (lp_go h_1)), hP, hD, hS, lv_sub hl [1, 2, 0] rfl⟩
      · obtain ⟨h_4, hP, hD, hS, hl⟩ := hI
        have hP : va_P D vwCl (XW ad cI cJ co fl ra li re wa p_4) H := hP
        have hD : va_D A (XW ad cI cJ co fl ra li re wa p_4) := hD
        have hl : lv_has ls 5 [(0, .ref (ad 6)), (1, .int k1), (2, .int (nI i_1)), (3, .int 1), (4, .int (nI (i_4 + 1)))] := hl
        refine lv_iload hx hb dX3_sweepOften_25 (lv_at hl 4 rfl) ?_
        refine lv_aload_n hx hb dX3_sweepOften_27 rfl (lv_at hl 0 rfl) ?_
        refine va_get (D := D) (ci := 3) (v := .int (gi p_4 1)) (C := RX3) (T := TX3) (N := 16) hx hb hg inGX3 hown hK hP 6 xo6 rfl 13 (by decide) (hg _ mw_235) (fun _ h9 => h9) (xvX3_13 rfl) dX3_sweepOften_28 ?_
        refine lv_icmp_ge (tgt := 77) hx hb dX3_sweepOften_31 (by decide) (fun c_31 => absurd c_31 (by rw [h_4, k_soL]; exact n1_in hi_4)) (fun _ => ?_)
        refine lv_iload_n hx hb dX3_sweepOften_34 rfl (lv_at hl 3 rfl) ?_
        refine lv_if_eq (tgt := 51) hx hb dX3_sweepOften_35 (by decide) (fun c_35 => absurd c_35 (by decide)) (fun _ => ?_)
        refine lv_aload_n hx hb dX3_sweepOften_38 rfl (lv_at hl 0 rfl) ?_
        refine lv_iload hx hb dX3_sweepOften_39 (lv_at hl 4 rfl) ?_
        refine lv_iload hx hb dX3_sweepOften_41 (lv_at hl 4 rfl) ?_
        refine lv_iconst (v := 1) hx hb dX3_sweepOften_43 (by decide) ?_
        refine lv_isub hx hb dX3_sweepOften_44 ?_
        refine kV (rV (q0 := 6) (ci := 3) hx hb hml hown hg hN hK hP hD (c_arrange l D cI cJ ad co fl ra li re wa p_4 (nI (i_4 + 1)) ((nI (i_4 + 1)) - 1)) mw_309 mw_310 mw_311 mw_312 mw_234 pdv_X3_arrange ⟨Nat.le_of_ble_eq_true rfl, Nat.le_of_ble_eq_true rfl⟩ rfl xo6 rfl hl.1 rfl (Nat.le_of_ble_eq_true rfl) dX3_sweepOften_45 ⟨Nat.le_of_ble_eq_true rfl, Nat.le_of_ble_eq_true rfl⟩) hD hS hA (fun u_5 H locs hp hP hD hS => ?_)
        obtain rfl := hp.symm
        have hP : va_P D vwCl (XW ad cI cJ co fl ra li re wa (arrange wa p_4 (nI (i_4 + 1)) ((nI (i_4 + 1)) - 1))) H := hP
        have hD : va_D A (XW ad cI cJ co fl ra li re wa (arrange wa p_4 (nI (i_4 + 1)) ((nI (i_4 + 1)) - 1))) := hD
        refine lv_goto (tgt := 71) hx hb dX3_sweepOften_48 (by decide) ?_
        refine lv_iinc (v := (nI (i_4 + 1 + 1))) (lv' := [(4, .int (nI (i_4 + 1 + 1))), (0, .ref (ad 6)), (1, .int k1), (2, .int (nI i_1)), (3, .int 1)]) hx hb dX3_sweepOften_71 hl (k := 4) rfl (nI_1 (i_4 + 1)) (by decide) rfl (fun ls hl => ?_)
        refine lv_goto (tgt := 25) hx hb dX3_sweepOften_74 (by decide) ?_
        exact ih_4 (arrange wa p_4 (nI (i_4 + 1)) ((nI (i_4 + 1)) - 1)) H locs ls ⟨((show (arrange wa p_4 (nI (i_4 + 1)) ((nI (i_4 + 1)) - 1)) = (soK wa (soDown p_1)) i_4 p_4 from (by simp only [soK, soDown, eq_true c_13, gi_sl, gi_sA, gi_sB, gi_si_s, gi_si_n, gl_si, gl_sA, gl_sB, gl_sl_s, gl_sl_n, gA_si, gA_sl, gA_sB, gA_sA_s, gA_sA_n, gB_si, gB_sl, gB_sA, gB_sB_s, gB_sB_n, Nat.reduceBEq, if_true, if_false, eq_self, Bool.false_eq_true, Bool.true_eq_false, not_true_eq_false, not_false_eq_true, decide_true, decide_false, cond_true, cond_false, Bool.true_and, Bool.false_and, Bool.and_true, Bool.and_false, Bool.true_or, Bool.false_or, Bool.or_true, Bool.or_false, b2i_tt, b2i_ff, pr_eta]; done)).trans (lp_go h_4)), hP, hD, hS, lv_sub hl [1, 2, 3, 4, 0] rfl⟩
