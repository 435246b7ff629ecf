theorem dX4_sortEdges_0 : decode cX4_sortEdges 0 = .ok (.iconst 0, 1) := by decide +kernel
theorem dX4_sortEdges_1 : decode cX4_sortEdges 1 = .ok (.istore_n 2, 1) := by decide +kernel
theorem dX4_sortEdges_2 : decode cX4_sortEdges 2 = .ok (.iload_n 2, 1) := by decide +kernel
theorem dX4_sortEdges_3 : decode cX4_sortEdges 3 = .ok (.bipush 40, 2) := by decide +kernel
theorem dX4_sortEdges_5 : decode cX4_sortEdges 5 = .ok (.if_icmp .ge 18, 3) := by decide +kernel
theorem dX4_sortEdges_8 : decode cX4_sortEdges 8 = .ok (.aload_n 0, 1) := by decide +kernel
theorem dX4_sortEdges_9 : decode cX4_sortEdges 9 = .ok (.getfield 21, 3) := by decide +kernel
theorem dX4_sortEdges_12 : decode cX4_sortEdges 12 = .ok (.iload_n 2, 1) := by decide +kernel
theorem dX4_sortEdges_13 : decode cX4_sortEdges 13 = .ok (.lconst 0, 1) := by decide +kernel
theorem dX4_sortEdges_14 : decode cX4_sortEdges 14 = .ok (.invokestatic 38, 3) := by decide +kernel
theorem dX4_sortEdges_17 : decode cX4_sortEdges 17 = .ok (.iinc 2 1, 3) := by decide +kernel
theorem dX4_sortEdges_20 : decode cX4_sortEdges 20 = .ok (.goto (-18), 3) := by decide +kernel
theorem dX4_sortEdges_23 : decode cX4_sortEdges 23 = .ok (.iconst 0, 1) := by decide +kernel
theorem dX4_sortEdges_24 : decode cX4_sortEdges 24 = .ok (.istore_n 2, 1) := by decide +kernel
theorem dX4_sortEdges_25 : decode cX4_sortEdges 25 = .ok (.iload_n 2, 1) := by decide +kernel
theorem dX4_sortEdges_26 : decode cX4_sortEdges 26 = .ok (.aload_n 1, 1) := by decide +kernel
theorem dX4_sortEdges_27 : decode cX4_sortEdges 27 = .ok (.getfield 78, 3) := by decide +kernel
theorem dX4_sortEdges_30 : decode cX4_sortEdges 30 = .ok (.if_icmp .ge 99, 3) := by decide +kernel
theorem dX4_sortEdges_33 : decode cX4_sortEdges 33 = .ok (.aload_n 1, 1) := by decide +kernel
theorem dX4_sortEdges_34 : decode cX4_sortEdges 34 = .ok (.getfield 81, 3) := by decide +kernel
theorem dX4_sortEdges_37 : decode cX4_sortEdges 37 = .ok (.iload_n 2, 1) := by decide +kernel
theorem dX4_sortEdges_38 : decode cX4_sortEdges 38 = .ok (.invokestatic 85, 3) := by decide +kernel
theorem dX4_sortEdges_41 : decode cX4_sortEdges 41 = .ok (.istore_n 3, 1) := by decide +kernel
theorem dX4_sortEdges_42 : decode cX4_sortEdges 42 = .ok (.aload_n 1, 1) := by decide +kernel
theorem dX4_sortEdges_43 : decode cX4_sortEdges 43 = .ok (.getfield 88, 3) := by decide +kernel
theorem dX4_sortEdges_46 : decode cX4_sortEdges 46 = .ok (.iload_n 2, 1) := by decide +kernel
theorem dX4_sortEdges_47 : decode cX4_sortEdges 47 = .ok (.invokestatic 85, 3) := by decide +kernel
theorem dX4_sortEdges_50 : decode cX4_sortEdges 50 = .ok (.istore 4, 2) := by decide +kernel
theorem dX4_sortEdges_52 : decode cX4_sortEdges 52 = .ok (.iload 4, 2) := by decide +kernel
theorem dX4_sortEdges_54 : decode cX4_sortEdges 54 = .ok (.ifCond .lt 69, 3) := by decide +kernel
theorem dX4_sortEdges_57 : decode cX4_sortEdges 57 = .ok (.aload_n 1, 1) := by decide +kernel
theorem dX4_sortEdges_58 : decode cX4_sortEdges 58 = .ok (.getfield 24, 3) := by decide +kernel
theorem dX4_sortEdges_61 : decode cX4_sortEdges 61 = .ok (.iload_n 3, 1) := by decide +kernel
theorem dX4_sortEdges_62 : decode cX4_sortEdges 62 = .ok (.invokestatic 30, 3) := by decide +kernel
theorem dX4_sortEdges_65 : decode cX4_sortEdges 65 = .ok (.ifCond .eq 58, 3) := by decide +kernel
theorem dX4_sortEdges_68 : decode cX4_sortEdges 68 = .ok (.aload_n 0, 1) := by decide +kernel
theorem dX4_sortEdges_69 : decode cX4_sortEdges 69 = .ok (.getfield 18, 3) := by decide +kernel
theorem dX4_sortEdges_72 : decode cX4_sortEdges 72 = .ok (.iload 4, 2) := by decide +kernel
theorem dX4_sortEdges_74 : decode cX4_sortEdges 74 = .ok (.aload_n 0, 1) := by decide +kernel
theorem dX4_sortEdges_75 : decode cX4_sortEdges 75 = .ok (.getfield 18, 3) := by decide +kernel
theorem dX4_sortEdges_78 : decode cX4_sortEdges 78 = .ok (.iload 4, 2) := by decide +kernel
theorem dX4_sortEdges_80 : decode cX4_sortEdges 80 = .ok (.invokestatic 61, 3) := by decide +kernel
theorem dX4_sortEdges_83 : decode cX4_sortEdges 83 = .ok (.iload_n 3, 1) := by decide +kernel
theorem dX4_sortEdges_84 : decode cX4_sortEdges 84 = .ok (.invokestatic 72, 3) := by decide +kernel
theorem dX4_sortEdges_87 : decode cX4_sortEdges 87 = .ok (.lor, 1) := by decide +kernel
theorem dX4_sortEdges_88 : decode cX4_sortEdges 88 = .ok (.invokestatic 38, 3) := by decide +kernel
theorem dX4_sortEdges_91 : decode cX4_sortEdges 91 = .ok (.aload_n 0, 1) := by decide +kernel
theorem dX4_sortEdges_92 : decode cX4_sortEdges 92 = .ok (.iload 4, 2) := by decide +kernel
theorem dX4_sortEdges_94 : decode cX4_sortEdges 94 = .ok (.iload_n 3, 1) := by decide +kernel
theorem dX4_sortEdges_95 : decode cX4_sortEdges 95 = .ok (.invokevirtual 91, 3) := by decide +kernel
theorem dX4_sortEdges_98 : decode cX4_sortEdges 98 = .ok (.ifCond .ne 25, 3) := by decide +kernel
theorem dX4_sortEdges_101 : decode cX4_sortEdges 101 = .ok (.aload_n 0, 1) := by decide +kernel
theorem dX4_sortEdges_102 : decode cX4_sortEdges 102 = .ok (.getfield 21, 3) := by decide +kernel
theorem dX4_sortEdges_105 : decode cX4_sortEdges 105 = .ok (.iload_n 3, 1) := by decide +kernel
theorem dX4_sortEdges_106 : decode cX4_sortEdges 106 = .ok (.aload_n 0, 1) := by decide +kernel
theorem dX4_sortEdges_107 : decode cX4_sortEdges 107 = .ok (.getfield 21, 3) := by decide +kernel
theorem dX4_sortEdges_110 : decode cX4_sortEdges 110 = .ok (.iload_n 3, 1) := by decide +kernel
theorem dX4_sortEdges_111 : decode cX4_sortEdges 111 = .ok (.invokestatic 61, 3) := by decide +kernel
theorem dX4_sortEdges_114 : decode cX4_sortEdges 114 = .ok (.iload 4, 2) := by decide +kernel
theorem dX4_sortEdges_116 : decode cX4_sortEdges 116 = .ok (.invokestatic 72, 3) := by decide +kernel
theorem dX4_sortEdges_119 : decode cX4_sortEdges 119 = .ok (.lor, 1) := by decide +kernel
theorem dX4_sortEdges_120 : decode cX4_sortEdges 120 = .ok (.invokestatic 38, 3) := by decide +kernel
theorem dX4_sortEdges_123 : decode cX4_sortEdges 123 = .ok (.iinc 2 1, 3) := by decide +kernel
theorem dX4_sortEdges_126 : decode cX4_sortEdges 126 = .ok (.goto (-101), 3) := by decide +kernel
theorem dX4_sortEdges_129 : decode cX4_sortEdges 129 = .ok (.return_, 1) := by decide +kernel
theorem mw_125 : Cond.fieldLink RX4 18 "OrielChart$Ranks" "previous" "[J" ∈ GW := gw_mem (inT1 _ (List.mem_of_getElem? (i := 132) rfl)) rfl
theorem mw_126 : Cond.code yX4_rules cX4_rules 3 (some Jvm.ClassFile.FieldType.boolean) ∈ GW := gw_mem (inT2 _ (List.mem_of_getElem? (i := 173) rfl)) rfl
theorem mw_127 : Cond.methodLink RX4 91 yX4_rules ∈ GW := gw_mem (inT2 _ (List.mem_of_getElem? (i := 170) rfl)) rfl
theorem mw_128 : Cond.instanceMethod yX4_rules ∈ GW := gw_mem (inT2 _ (List.mem_of_getElem? (i := 171) rfl)) rfl
theorem mw_129 : Cond.selects RX4 yX4_rules yX4_rules ∈ GW := gw_mem (inT2 _ (List.mem_of_getElem? (i := 172) rfl)) rfl
theorem mw_130 : Cond.initialized RX4 ∈ GW := gw_mem (inT1 _ (List.mem_of_getElem? (i := 4) rfl)) rfl
theorem mw_131 : Cond.fieldLink RX4 21 "OrielChart$Ranks" "onward" "[J" ∈ GW := gw_mem (inT1 _ (List.mem_of_getElem? (i := 133) rfl)) rfl
theorem pdv_X4_rules : yX4_rules.cls = RX4 ∧ yX4_rules.cls ≠ "java/lang/invoke/MethodHandle" ∧ yX4_rules.cls ≠ "java/lang/invoke/VarHandle" ∧ (parseMethodDescriptor yX4_rules.desc).map (fun d => d.parameters.length) = some 2 := by decide +kernel
set_option maxHeartbeats 4000000 in
set_option maxRecDepth 100000 in
theorem c_sortEdges (l : Launch) (D : va_G) (cI cJ : ClassId) (ad : Nat → Nat) (co fl ra li re wa pi : Ob) : CT l D (TY cI cJ) yX4_sortEdges (.code yX4_sortEdges cX4_sortEdges 5 (none : Option FieldType)) 2 0 0 (XW ad cI cJ co fl ra li re wa pi) [.ref (ad 3), .ref (ad 2)] (QV D (TY cI cJ) (fun u => u = (XW ad cI cJ co fl (sortEdges fl ra) li re wa pi))) := by
  refine ent (by decide) (Nat.le_of_ble_eq_true rfl) ?_
  intro p e s m below meth c ls A hx hb hr hg hown hml hlocks hnm hP hK hD hS hA hN hl
  have hl : lv_has ls 5 [(0, .ref (ad 3)), (1, .ref (ad 2))] := hl
  refine lv_iconst (v := 0) hx hb dX4_sortEdges_0 (by decide) ?_
  refine lv_istore_n (lv' := [(2, .int 0), (0, .ref (ad 3)), (1, .ref (ad 2))]) hx hb dX4_sortEdges_1 rfl hl (by decide) rfl (fun ls hl => ?_)
  refine w_loop (σ := Ob) (fun (i_1 : Nat) (p_1 : Ob) (H : Heap) (locs : List Loc) (ls : Array Slot) => p_1 = (lp sortA i_1 ra) ∧ va_P D vwCl (XW ad cI cJ co fl p_1 li re wa pi) H ∧ va_D A (XW ad cI cJ co fl p_1 li re wa pi) ∧ va_S A s.heap H locs ∧ lv_has ls 5 [(0, .ref (ad 3)), (1, .ref (ad 2)), (2, .int (nI i_1))]) (40) (fun p_1 H locs ls hI => ?_) (fun i_1 p_1 H locs ls hi_1 hI ih_1 => ?_) 0 ra (Nat.zero_le _) ⟨(lp_0 _ _), hP, hD, hS, (by rw [nI_0]; exact lv_sub hl [1, 2, 0] rfl)⟩
  · obtain ⟨h_1, hP, hD, hS, hl⟩ := hI
    have h_1 := h_1.symm
    subst h_1
    have hP : va_P D vwCl (XW ad cI cJ co fl ((lp sortA (40) ra)) li re wa pi) H := hP
    have hD : va_D A (XW ad cI cJ co fl ((lp sortA (40) ra)) li re wa pi) := hD
    have hl : lv_has ls 5 [(0, .ref (ad 3)), (1, .ref (ad 2)), (2, .int (nI 40))] := hl
    refine lv_iload_n hx hb dX4_sortEdges_2 rfl (lv_at hl 2 rfl) ?_
    refine lv_bipush (v := 40) hx hb dX4_sortEdges_3 (by decide) ?_
    refine lv_icmp_ge (tgt := 23) hx hb dX4_sortEdges_5 (by decide) (fun _ => ?_) (fun c_5 => absurd (by decide) c_5)
    refine lv_iconst (v := 0) hx hb dX4_sortEdges_23 (by decide) ?_
    refine lv_istore_n (lv' := [(2, .int 0), (0, .ref (ad 3)), (1, .ref (ad 2))]) hx hb dX4_sortEdges_24 rfl hl (by decide) rfl (fun ls hl => ?_)
    refine w_loop (σ := Ob) (fun (i_2 : Nat) (p_2 : Ob) (H : Heap) (locs : List Loc) (ls : Array Slot) => p_2 = (lp (sortB fl) i_2 ((lp sortA (40) ra))) ∧ va_P D vwCl (XW ad cI cJ co fl p_2 li re wa pi) H ∧ va_D A (XW ad cI cJ co fl p_2 li re wa pi) ∧ va_S A s.heap H locs ∧ lv_has ls 5 [(0, .ref (ad 3)), (1, .ref (ad 2)), (2, .int (nI i_2))]) (nN (gi fl 1)) (fun p_2 H locs ls hI => ?_) (fun i_2 p_2 H locs ls hi_2 hI ih_2 => ?_) 0 ((lp sortA (40) ra)) (Nat.zero_le _) ⟨(lp_0 _ _), hP, hD, hS, (by rw [nI_0]; exact lv_sub hl [1, 2, 0] rfl)⟩
    · obtain ⟨h_2, hP, hD, hS, hl⟩ := hI
      have h_2 := h_2.symm
      subst h_2
      have hP : va_P D vwCl (XW ad cI cJ co fl ((lp (sortB fl) (nN (gi fl 1)) ((lp sortA (40) ra)))) li re wa pi) H := hP
      have hD : va_D A (XW ad cI cJ co fl ((lp (sortB fl) (nN (gi fl 1)) ((lp sortA (40) ra)))) li re wa pi) := hD
      have hl : lv_has ls 5 [(0, .ref (ad 3)), (1, .ref (ad 2)), (2, .int (nI ((nN (gi fl 1)))))] := hl
      refine lv_iload_n hx hb dX4_sortEdges_25 rfl (lv_at hl 2 rfl) ?_
      refine lv_aload_n hx hb dX4_sortEdges_26 rfl (lv_at hl 1 rfl) ?_
      refine va_getN (D := D) (ci := 1) (v := .int (gi fl 1)) (C := RX1) (T := TX1) (N := 11) hx hb hg inGX1 hown hK hP 2 xo2 rfl 8 (by decide) (hN.use nw_30) (fun _ h9 => h9) (xvX1_8 rfl) dX4_sortEdges_27 ?_
      refine lv_icmp_ge (tgt := 129) hx hb dX4_sortEdges_30 (by decide) (fun _ => ?_) (fun c_30 => absurd (lp_out _) c_30)
      exact W.vret hx hb hr (fun t ht hW => ⟨⟨(XW ad cI cJ co fl ((lp (sortB fl) (nN (gi fl 1)) ((lp sortA (40) ra)))) li re wa pi), rfl, xw_eq rfl rfl (show ((lp (sortB fl) (nN (gi fl 1)) ((lp sortA (40) ra)))) = (sortEdges fl ra) from (by first | with_reducible rfl | (simp only [sortEdges, gi_sl, gi_sA, gi_sB, gi_si_s, gi_si_n, gl_si, gl_sA, gl_sB, gl_sl_s, gl_sl_n, gA_si, gA_sl, gA_sB, gA_sA_s, gA_sA_n, gB_si, gB_sl, gB_sA, gB_sB_s, gB_sB_n, Nat.reduceBEq, if_true, if_false, eq_self, Bool.false_eq_true, Bool.true_eq_false, not_true_eq_false, not_false_eq_true, decide_true, decide_false, cond_true, cond_false, Bool.true_and, Bool.false_and, Bool.and_true, Bool.and_false, Bool.true_or, Bool.false_or, Bool.or_true, Bool.or_false, b2i_tt, b2i_ff, pr_eta]; done))) rfl rfl rfl rfl, ⟨by rw [ht]; exact hP, va_K.moved hW.alike hK, hD⟩⟩, hS.F ht⟩) hS.2.2 dX4_sortEdges_129
    · obtain ⟨h_2, hP, hD, hS, hl⟩ := hI
      have hP : va_P D vwCl (XW ad cI cJ co fl p_2 li re wa pi) H := hP
      have hD : va_D A (XW ad cI cJ co fl p_2 li re wa pi) := hD
      have hl : lv_has ls 5 [(0, .ref (ad 3)), (1, .ref (ad 2)), (2, .int (nI i_2))] := hl
      refine lv_iload_n hx hb dX4_sortEdges_25 rfl (lv_at hl 2 rfl) ?_
      refine lv_aload_n hx hb dX4_sortEdges_26 rfl (lv_at hl 1 rfl) ?_
      refine va_getN (D := D) (ci := 1) (v := .int (gi fl 1)) (C := RX1) (T := TX1) (N := 11) hx hb hg inGX1 hown hK hP 2 xo2 rfl 8 (by decide) (hN.use nw_30) (fun _ h9 => h9) (xvX1_8 rfl) dX4_sortEdges_27 ?_
      refine lv_icmp_ge (tgt := 129) hx hb dX4_sortEdges_30 (by decide) (fun c_30 => absurd c_30 (lp_in hi_2)) (fun _ => ?_)
      refine lv_aload_n hx hb dX4_sortEdges_33 rfl (lv_at hl 1 rfl) ?_
      refine va_getN (D := D) (ci := 1) (v := .ref (ad 15)) (C := RX1) (T := TX1) (N := 11) hx hb hg inGX1 hown hK hP 2 xo2 rfl 3 (by decide) (hN.use nw_16) (fun _ h9 => h9) xvX1_3 dX4_sortEdges_34 ?_
      refine lv_iload_n hx hb dX4_sortEdges_37 rfl (lv_at hl 2 rfl) ?_
      refine kI (rSN hx hb hml hown hg hN hK hP hD (c_at l D cI cJ (XW ad cI cJ co fl p_2 li re wa pi) 15 (ad 15) 80 (gA fl 3) (nI i_2) (xg15 rfl) (by decide)) mw_84 nw_77 mw_85 mw_77 pd_X7_at ⟨Nat.le_of_ble_eq_true rfl, Nat.le_of_ble_eq_true rfl⟩ rfl hl.1 rfl (Nat.le_of_ble_eq_true rfl) dX4_sortEdges_38 ⟨Nat.le_of_ble_eq_true rfl, Nat.le_of_ble_eq_true rfl⟩) hD hS hA (fun r_3 u_3 H locs hp hP hD hS => ?_)
      obtain ⟨er, eu⟩ := hp
      obtain rfl := er.symm
      obtain rfl := eu.symm
      refine lv_istore_n (lv' := [(3, .int (rd (gA fl 3) 80 (nI i_2))), (0, .ref (ad 3)), (1, .ref (ad 2)), (2, .int (nI i_2))]) hx hb dX4_sortEdges_41 rfl hl (by decide) rfl (fun ls hl => ?_)
      refine lv_aload_n hx hb dX4_sortEdges_42 rfl (lv_at hl 2 rfl) ?_
      refine va_getN (D := D) (ci := 1) (v := .ref (ad 16)) (C := RX1) (T := TX1) (N := 11) hx hb hg inGX1 hown hK hP 2 xo2 rfl 4 (by decide) (hN.use nw_18) (fun _ h9 => h9) xvX1_4 dX4_sortEdges_43 ?_
      refine lv_iload_n hx hb dX4_sortEdges_46 rfl (lv_at hl 3 rfl) ?_
      refine kI (rSN hx hb hml hown hg hN hK hP hD (c_at l D cI cJ (XW ad cI cJ co fl p_2 li re wa pi) 16 (ad 16) 80 (gA fl 4) (nI i_2) (xg16 rfl) (by decide)) mw_84 nw_77 mw_85 mw_77 pd_X7_at ⟨Nat.le_of_ble_eq_true rfl, Nat.le_of_ble_eq_true rfl⟩ rfl hl.1 rfl (Nat.le_of_ble_eq_true rfl) dX4_sortEdges_47 ⟨Nat.le_of_ble_eq_true rfl, Nat.le_of_ble_eq_true rfl⟩) hD hS hA (fun r_4 u_4 H locs hp hP hD hS => ?_)
      obtain ⟨er, eu⟩ := hp
      obtain rfl := er.symm
      obtain rfl := eu.symm
      refine lv_istore (lv' := [(4, .int (rd (gA fl 4) 80 (nI i_2))), (3, .int (rd (gA fl 3) 80 (nI i_2))), (0, .ref (ad 3)), (1, .ref (ad 2)), (2, .int (nI i_2))]) hx hb dX4_sortEdges_50 hl (by decide) rfl (fun ls hl => ?_)
      refine lv_iload hx hb dX4_sortEdges_52 (lv_at hl 0 rfl) ?_
      refine lv_if_lt (tgt := 123) hx hb dX4_sortEdges_54 (by decide) (fun c_54 => ?_) (fun c_54 => ?_)
      · refine lv_iinc (v := (nI (i_2 + 1))) (lv' := [(2, .int (nI (i_2 + 1))), (4, .int (rd (gA fl 4) 80 (nI i_2))), (3, .int (rd (gA fl 3) 80 (nI i_2))), (0, .ref (ad 3)), (1, .ref (ad 2))]) hx hb dX4_sortEdges_123 hl (k := 4) rfl (nI_1 i_2) (by decide) rfl (fun ls hl => ?_)
        refine lv_goto (tgt := 25) hx hb dX4_sortEdges_126 (by decide) ?_
        exact ih_2 p_2 H locs ls ⟨((show p_2 = (sortB fl) i_2 p_2 from (by simp only [sortB, sortD, sortC, rules, eq_true c_54, gi_sl, gi_sA, gi_sB, gi_si_s, gi_si_n, gl_si, gl_sA, gl_sB, gl_sl_s, gl_sl_n, gA_si, gA_sl, gA_sB, gA_sA_s, gA_sA_n, gB_si, gB_sl, gB_sA, gB_sB_s, gB_sB_n, Nat.reduceBEq, if_true, if_false, eq_self, Bool.false_eq_true, Bool.true_eq_false, not_true_eq_false, not_false_eq_true, decide_true, decide_false, cond_true, cond_false, Bool.true_and, Bool.false_and, Bool.and_true, Bool.and_false, Bool.true_or, Bool.false_or, Bool.or_true, Bool.or_false, b2i_tt, b2i_ff, pr_eta]; done)).trans (lp_go h_2)), hP, hD, hS, lv_sub hl [3, 4, 0] rfl⟩
      · refine lv_aload_n hx hb dX4_sortEdges_57 rfl (lv_at hl 3 rfl) ?_
        refine va_getN (D := D) (ci := 1) (v := .long (gl fl 0)) (C := RX1) (T := TX1) (N := 11) hx hb hg inGX1 hown hK hP 2 xo2 rfl 9 (by decide) (hN.use nw_33) (fun _ h9 => h9) (xvX1_9 rfl) dX4_sortEdges_58 ?_
        refine lv_iload_n hx hb dX4_sortEdges_61 rfl (lv_at hl 1 rfl) ?_
        refine kI (rSN hx hb hml hown hg hN hK hP hD (c_has l D cI cJ (XW ad cI cJ co fl p_2 li re wa pi) (gl fl 0) (rd (gA fl 3) 80 (nI i_2))) mw_89 nw_73 mw_90 mw_77 pd_X7_has ⟨Nat.le_of_ble_eq_true rfl, Nat.le_of_ble_eq_true rfl⟩ rfl hl.1 rfl (Nat.le_of_ble_eq_true rfl) dX4_sortEdges_62 ⟨Nat.le_of_ble_eq_true rfl, Nat.le_of_ble_eq_true rfl⟩) hD hS hA (fun r_5 u_5 H locs hp hP hD hS => ?_)
        obtain ⟨er, eu⟩ := hp
        obtain rfl := er.symm
        obtain rfl := eu.symm
        refine lv_if_eq (tgt := 123) hx hb dX4_sortEdges_65 (by decide) (fun c_65 => ?_) (fun c_65 => ?_)
        · have c_65 : ¬ (hs (gl fl 0) (rd (gA fl 3) 80 (nI i_2))) = true := b2i_0 c_65
          refine lv_iinc (v := (nI (i_2 + 1))) (lv' := [(2, .int (nI (i_2 + 1))), (4, .int (rd (gA fl 4) 80 (nI i_2))), (3, .int (rd (gA fl 3) 80 (nI i_2))), (0, .ref (ad 3)), (1, .ref (ad 2))]) hx hb dX4_sortEdges_123 hl (k := 4) rfl (nI_1 i_2) (by decide) rfl (fun ls hl => ?_)
          refine lv_goto (tgt := 25) hx hb dX4_sortEdges_126 (by decide) ?_
          exact ih_2 p_2 H locs ls ⟨((show p_2 = (sortB fl) i_2 p_2 from (by simp only [sortB, sortD, sortC, rules, eq_false c_54, bf_of c_65, gi_sl, gi_sA, gi_sB, gi_si_s, gi_si_n, gl_si, gl_sA, gl_sB, gl_sl_s, gl_sl_n, gA_si, gA_sl, gA_sB, gA_sA_s, gA_sA_n, gB_si, gB_sl, gB_sA, gB_sB_s, gB_sB_n, Nat.reduceBEq, if_true, if_false, eq_self, Bool.false_eq_true, Bool.true_eq_false, not_true_eq_false, not_false_eq_true, decide_true, decide_false, cond_true, cond_false, Bool.true_and, Bool.false_and, Bool.and_true, Bool.and_false, Bool.true_or, Bool.false_or, Bool.or_true, Bool.or_false, b2i_tt, b2i_ff, pr_eta]; done)).trans (lp_go h_2)), hP, hD, hS, lv_sub hl [3, 4, 0] rfl⟩
        · have c_65 : (hs (gl fl 0) (rd (gA fl 3) 80 (nI i_2))) = true := b2i_1 c_65
          refine lv_aload_n hx hb dX4_sortEdges_68 rfl (lv_at hl 2 rfl) ?_
          refine va_get (D := D) (ci := 4) (v := .ref (ad 21)) (C := RX4) (T := TX4) (N := 7) hx hb hg inGX4 hown hK hP 3 xo3 rfl 2 (by decide) (hg _ mw_125) (fun _ h9 => h9) xvX4_2 dX4_sortEdges_69 ?_
          refine lv_iload hx hb dX4_sortEdges_72 (lv_at hl 0 rfl) ?_
          refine lv_aload_n hx hb dX4_sortEdges_74 rfl (lv_at hl 2 rfl) ?_
          refine va_get (D := D) (ci := 4) (v := .ref (ad 21)) (C := RX4) (T := TX4) (N := 7) hx hb hg inGX4 hown hK hP 3 xo3 rfl 2 (by decide) (hg _ mw_125) (fun _ h9 => h9) xvX4_2 dX4_sortEdges_75 ?_
          refine lv_iload hx hb dX4_sortEdges_78 (lv_at hl 0 rfl) ?_
          refine kL (rSN hx hb hml hown hg hN hK hP hD (c_atL l D cI cJ (XW ad cI cJ co fl p_2 li re wa pi) 21 (ad 21) 40 (gB p_2 2) (rd (gA fl 4) 80 (nI i_2)) (xg21 rfl) (by decide)) mw_81 nw_78 mw_83 mw_77 pd_X7_at_ ⟨Nat.le_of_ble_eq_true rfl, Nat.le_of_ble_eq_true rfl⟩ rfl hl.1 rfl (Nat.le_of_ble_eq_true rfl) dX4_sortEdges_80 ⟨Nat.le_of_ble_eq_true rfl, Nat.le_of_ble_eq_true rfl⟩) hD hS hA (fun r_6 u_6 H locs hp hP hD hS => ?_)
          obtain ⟨er, eu⟩ := hp
          obtain rfl := er.symm
          obtain rfl := eu.symm
          refine lv_iload_n hx hb dX4_sortEdges_83 rfl (lv_at hl 1 rfl) ?_
          refine kL (rSN hx hb hml hown hg hN hK hP hD (c_bit l D cI cJ (XW ad cI cJ co fl p_2 li re wa pi) (rd (gA fl 3) 80 (nI i_2))) mw_78 nw_74 mw_80 mw_77 pd_X7_bit ⟨Nat.le_of_ble_eq_true rfl, Nat.le_of_ble_eq_true rfl⟩ rfl hl.1 rfl (Nat.le_of_ble_eq_true rfl) dX4_sortEdges_84 ⟨Nat.le_of_ble_eq_true rfl, Nat.le_of_ble_eq_true rfl⟩) hD hS hA (fun r_7 u_7 H locs hp hP hD hS => ?_)
          obtain ⟨er, eu⟩ := hp
          obtain rfl := er.symm
          obtain rfl := eu.symm
          refine lv_lor hx hb dX4_sortEdges_87 ?_
          refine kV (rSN hx hb hml hown hg hN hK hP hD (c_putL l D cI cJ (XW ad cI cJ co fl p_2 li re wa pi) 21 (ad 21) 40 (gB p_2 2) (rd (gA fl 4) 80 (nI i_2)) ((rdL (gB p_2 2) 40 (rd (gA fl 4) 80 (nI i_2))) ||| (bitL (rd (gA fl 3) 80 (nI i_2)))) (xg21 rfl) (by decide)) mw_97 nw_76 mw_98 mw_77 pd_X7_put_ ⟨Nat.le_of_ble_eq_true rfl, Nat.le_of_ble_eq_true rfl⟩ rfl hl.1 rfl (Nat.le_of_ble_eq_true rfl) dX4_sortEdges_88 ⟨Nat.le_of_ble_eq_true rfl, Nat.le_of_ble_eq_true rfl⟩) hD hS hA (fun u_8 H locs hp hP hD hS => ?_)
          obtain rfl := hp.symm
          have hP : va_P D vwCl (XW ad cI cJ co fl (sB p_2 2 (wrL (gB p_2 2) 40 (rd (gA fl 4) 80 (nI i_2)) ((rdL (gB p_2 2) 40 (rd (gA fl 4) 80 (nI i_2))) ||| (bitL (rd (gA fl 3) 80 (nI i_2)))))) li re wa pi) H := cgP xs21 hP
          have hD : va_D A (XW ad cI cJ co fl (sB p_2 2 (wrL (gB p_2 2) 40 (rd (gA fl 4) 80 (nI i_2)) ((rdL (gB p_2 2) 40 (rd (gA fl 4) 80 (nI i_2))) ||| (bitL (rd (gA fl 3) 80 (nI i_2)))))) li re wa pi) := cgD xs21 hD
          refine lv_aload_n hx hb dX4_sortEdges_91 rfl (lv_at hl 2 rfl) ?_
          refine lv_iload hx hb dX4_sortEdges_92 (lv_at hl 0 rfl) ?_
          refine lv_iload_n hx hb dX4_sortEdges_94 rfl (lv_at hl 1 rfl) ?_
          refine kI (rV (q0 := 3) (ci := 4) hx hb hml hown hg hN hK hP hD (c_rules l D cI cJ ad co fl (sB p_2 2 (wrL (gB p_2 2) 40 (rd (gA fl 4) 80 (nI i_2)) ((rdL (gB p_2 2) 40 (rd (gA fl 4) 80 (nI i_2))) ||| (bitL (rd (gA fl 3) 80 (nI i_2)))))) li re wa pi (rd (gA fl 4) 80 (nI i_2)) (rd (gA fl 3) 80 (nI i_2))) mw_126 mw_127 mw_128 mw_129 mw_130 pdv_X4_rules ⟨Nat.le_of_ble_eq_true rfl, Nat.le_of_ble_eq_true rfl⟩ rfl xo3 rfl hl.1 rfl (Nat.le_of_ble_eq_true rfl) dX4_sortEdges_95 ⟨Nat.le_of_ble_eq_true rfl, Nat.le_of_ble_eq_true rfl⟩) hD hS hA (fun r_9 u_9 H locs hp hP hD hS => ?_)
          obtain ⟨er, eu⟩ := hp
          obtain rfl := er.symm
          obtain rfl := eu.symm
          refine lv_if_ne (tgt := 123) hx hb dX4_sortEdges_98 (by decide) (fun c_98 => ?_) (fun c_98 => ?_)
          · have c_98 : (hs (rdL (gB (sB p_2 2 (wrL (gB p_2 2) 40 (rd (gA fl 4) 80 (nI i_2)) ((rdL (gB p_2 2) 40 (rd (gA fl 4) 80 (nI i_2))) ||| (bitL (rd (gA fl 3) 80 (nI i_2)))))) 0) 40 (rd (gA fl 4) 80 (nI i_2))) (rd (gA fl 3) 80 (nI i_2))) = true := b2i_1 c_98
            try simp only [gi_sl, gi_sA, gi_sB, gi_si_s, gi_si_n, gl_si, gl_sA, gl_sB, gl_sl_s, gl_sl_n, gA_si, gA_sl, gA_sB, gA_sA_s, gA_sA_n, gB_si, gB_sl, gB_sA, gB_sB_s, gB_sB_n, Nat.reduceBEq] at c_98
            refine lv_iinc (v := (nI (i_2 + 1))) (lv' := [(2, .int (nI (i_2 + 1))), (4, .int (rd (gA fl 4) 80 (nI i_2))), (3, .int (rd (gA fl 3) 80 (nI i_2))), (0, .ref (ad 3)), (1, .ref (ad 2))]) hx hb dX4_sortEdges_123 hl (k := 4) rfl (nI_1 i_2) (by decide) rfl (fun ls hl => ?_)
            refine lv_goto (tgt := 25) hx hb dX4_sortEdges_126 (by decide) ?_
            exact ih_2 (sB p_2 2 (wrL (gB p_2 2) 40 (rd (gA fl 4) 80 (nI i_2)) ((rdL (gB p_2 2) 40 (rd (gA fl 4) 80 (nI i_2))) ||| (bitL (rd (gA fl 3) 80 (nI i_2)))))) H locs ls ⟨((show (sB p_2 2 (wrL (gB p_2 2) 40 (rd (gA fl 4) 80 (nI i_2)) ((rdL (gB p_2 2) 40 (rd (gA fl 4) 80 (nI i_2))) ||| (bitL (rd (gA fl 3) 80 (nI i_2)))))) = (sortB fl) i_2 p_2 from (by simp only [sortB, sortD, sortC, rules, eq_false c_54, c_65, c_98, gi_sl, gi_sA, gi_sB, gi_si_s, gi_si_n, gl_si, gl_sA, gl_sB, gl_sl_s, gl_sl_n, gA_si, gA_sl, gA_sB, gA_sA_s, gA_sA_n, gB_si, gB_sl, gB_sA, gB_sB_s, gB_sB_n, Nat.reduceBEq, if_true, if_false, eq_self, Bool.false_eq_true, Bool.true_eq_false, not_true_eq_false, not_false_eq_true, decide_true, decide_false, cond_true, cond_false, Bool.true_and, Bool.false_and, Bool.and_true, Bool.and_false, Bool.true_or, Bool.false_or, Bool.or_true, Bool.or_false, b2i_tt, b2i_ff, pr_eta]; done)).trans (lp_go h_2)), hP, hD, hS, lv_sub hl [3, 4, 0] rfl⟩
          · have c_98 : ¬ (hs (rdL (gB (sB p_2 2 (wrL (gB p_2 2) 40 (rd (gA fl 4) 80 (nI i_2)) ((rdL (gB p_2 2) 40 (rd (gA fl 4) 80 (nI i_2))) ||| (bitL (rd (gA fl 3) 80 (nI i_2)))))) 0) 40 (rd (gA fl 4) 80 (nI i_2))) (rd (gA fl 3) 80 (nI i_2))) = true := b2i_0 c_98
            try simp only [gi_sl, gi_sA, gi_sB, gi_si_s, gi_si_n, gl_si, gl_sA, gl_sB, gl_sl_s, gl_sl_n, gA_si, gA_sl, gA_sB, gA_sA_s, gA_sA_n, gB_si, gB_sl, gB_sA, gB_sB_s, gB_sB_n, Nat.reduceBEq] at c_98
            refine lv_aload_n hx hb dX4_sortEdges_101 rfl (lv_at hl 2 rfl) ?_
            refine va_get (D := D) (ci := 4) (v := .ref (ad 22)) (C := RX4) (T := TX4) (N := 7) hx hb hg inGX4 hown hK hP 3 xo3 rfl 3 (by decide) (hg _ mw_131) (fun _ h9 => h9) xvX4_3 dX4_sortEdges_102 ?_
            refine lv_iload_n hx hb dX4_sortEdges_105 rfl (lv_at hl 1 rfl) ?_
            refine lv_aload_n hx hb dX4_sortEdges_106 rfl (lv_at hl 2 rfl) ?_
            refine va_get (D := D) (ci := 4) (v := .ref (ad 22)) (C := RX4) (T := TX4) (N := 7) hx hb hg inGX4 hown hK hP 3 xo3 rfl 3 (by decide) (hg _ mw_131) (fun _ h9 => h9) xvX4_3 dX4_sortEdges_107 ?_
            refine lv_iload_n hx hb dX4_sortEdges_110 rfl (lv_at hl 1 rfl) ?_
            refine kL (rSN hx hb hml hown hg hN hK hP hD (c_atL l D cI cJ (XW ad cI cJ co fl (sB p_2 2 (wrL (gB p_2 2) 40 (rd (gA fl 4) 80 (nI i_2)) ((rdL (gB p_2 2) 40 (rd (gA fl 4) 80 (nI i_2))) ||| (bitL (rd (gA fl 3) 80 (nI i_2)))))) li re wa pi) 22 (ad 22) 40 (gB p_2 3) (rd (gA fl 3) 80 (nI i_2)) (xg22 (by simp only [gi_sl, gi_sA, gi_sB, gi_si_s, gi_si_n, gl_si, gl_sA, gl_sB, gl_sl_s, gl_sl_n, gA_si, gA_sl, gA_sB, gA_sA_s, gA_sA_n, gB_si, gB_sl, gB_sA, gB_sB_s, gB_sB_n, Nat.reduceBEq])) (by decide)) mw_81 nw_78 mw_83 mw_77 pd_X7_at_ ⟨Nat.le_of_ble_eq_true rfl, Nat.le_of_ble_eq_true rfl⟩ rfl hl.1 rfl (Nat.le_of_ble_eq_true rfl) dX4_sortEdges_111 ⟨Nat.le_of_ble_eq_true rfl, Nat.le_of_ble_eq_true rfl⟩) hD hS hA (fun r_10 u_10 H locs hp hP hD hS => ?_)
            obtain ⟨er, eu⟩ := hp
            obtain rfl := er.symm
            obtain rfl := eu.symm
            refine lv_iload hx hb dX4_sortEdges_114 (lv_at hl 0 rfl) ?_
            refine kL (rSN hx hb hml hown hg hN hK hP hD (c_bit l D cI cJ (XW ad cI cJ co fl (sB p_2 2 (wrL (gB p_2 2) 40 (rd (gA fl 4) 80 (nI i_2)) ((rdL (gB p_2 2) 40 (rd (gA fl 4) 80 (nI i_2))) ||| (bitL (rd (gA fl 3) 80 (nI i_2)))))) li re wa pi) (rd (gA fl 4) 80 (nI i_2))) mw_78 nw_74 mw_80 mw_77 pd_X7_bit ⟨Nat.le_of_ble_eq_true rfl, Nat.le_of_ble_eq_true rfl⟩ rfl hl.1 rfl (Nat.le_of_ble_eq_true rfl) dX4_sortEdges_116 ⟨Nat.le_of_ble_eq_true rfl, Nat.le_of_ble_eq_true rfl⟩) hD hS hA (fun r_11 u_11 H locs hp hP hD hS => ?_)
            obtain ⟨er, eu⟩ := hp
            obtain rfl := er.symm
            obtain rfl := eu.symm
            refine lv_lor hx hb dX4_sortEdges_119 ?_
            refine kV (rSN hx hb hml hown hg hN hK hP hD (c_putL l D cI cJ (XW ad cI cJ co fl (sB p_2 2 (wrL (gB p_2 2) 40 (rd (gA fl 4) 80 (nI i_2)) ((rdL (gB p_2 2) 40 (rd (gA fl 4) 80 (nI i_2))) ||| (bitL (rd (gA fl 3) 80 (nI i_2)))))) li re wa pi) 22 (ad 22) 40 (gB p_2 3) (rd (gA fl 3) 80 (nI i_2)) ((rdL (gB p_2 3) 40 (rd (gA fl 3) 80 (nI i_2))) ||| (bitL (rd (gA fl 4) 80 (nI i_2)))) (xg22 (by simp only [gi_sl, gi_sA, gi_sB, gi_si_s, gi_si_n, gl_si, gl_sA, gl_sB, gl_sl_s, gl_sl_n, gA_si, gA_sl, gA_sB, gA_sA_s, gA_sA_n, gB_si, gB_sl, gB_sA, gB_sB_s, gB_sB_n, Nat.reduceBEq])) (by decide)) mw_97 nw_76 mw_98 mw_77 pd_X7_put_ ⟨Nat.le_of_ble_eq_true rfl, Nat.le_of_ble_eq_true rfl⟩ rfl hl.1 rfl (Nat.le_of_ble_eq_true rfl) dX4_sortEdges_120 ⟨Nat.le_of_ble_eq_true rfl, Nat.le_of_ble_eq_true rfl⟩) hD hS hA (fun u_12 H locs hp hP hD hS => ?_)
            obtain rfl := hp.symm
            have hP : va_P D vwCl (XW ad cI cJ co fl (sB (sB p_2 2 (wrL (gB p_2 2) 40 (rd (gA fl 4) 80 (nI i_2)) ((rdL (gB p_2 2) 40 (rd (gA fl 4) 80 (nI i_2))) ||| (bitL (rd (gA fl 3) 80 (nI i_2)))))) 3 (wrL (gB p_2 3) 40 (rd (gA fl 3) 80 (nI i_2)) ((rdL (gB p_2 3) 40 (rd (gA fl 3) 80 (nI i_2))) ||| (bitL (rd (gA fl 4) 80 (nI i_2)))))) li re wa pi) H := cgP xs22 hP
            have hD : va_D A (XW ad cI cJ co fl (sB (sB p_2 2 (wrL (gB p_2 2) 40 (rd (gA fl 4) 80 (nI i_2)) ((rdL (gB p_2 2) 40 (rd (gA fl 4) 80 (nI i_2))) ||| (bitL (rd (gA fl 3) 80 (nI i_2)))))) 3 (wrL (gB p_2 3) 40 (rd (gA fl 3) 80 (nI i_2)) ((rdL (gB p_2 3) 40 (rd (gA fl 3) 80 (nI i_2))) ||| (bitL (rd (gA fl 4) 80 (nI i_2)))))) li re wa pi) := cgD xs22 hD
            refine lv_iinc (v := (nI (i_2 + 1))) (lv' := [(2, .int (nI (i_2 + 1))), (4, .int (rd (gA fl 4) 80 (nI i_2))), (3, .int (rd (gA fl 3) 80 (nI i_2))), (0, .ref (ad 3)), (1, .ref (ad 2))]) hx hb dX4_sortEdges_123 hl (k := 4) rfl (nI_1 i_2) (by decide) rfl (fun ls hl => ?_)
            refine lv_goto (tgt := 25) hx hb dX4_sortEdges_126 (by decide) ?_
            exact ih_2 (sB (sB p_2 2 (wrL (gB p_2 2) 40 (rd (gA fl 4) 80 (nI i_2)) ((rdL (gB p_2 2) 40 (rd (gA fl 4) 80 (nI i_2))) ||| (bitL (rd (gA fl 3) 80 (nI i_2)))))) 3 (wrL (gB p_2 3) 40 (rd (gA fl 3) 80 (nI i_2)) ((rdL (gB p_2 3) 40 (rd (gA fl 3) 80 (nI i_2))) ||| (bitL (rd (gA fl 4) 80 (nI i_2)))))) H locs ls ⟨((show (sB (sB p_2 2 (wrL (gB p_2 2) 40 (rd (gA fl 4) 80 (nI i_2)) ((rdL (gB p_2 2) 40 (rd (gA fl 4) 80 (nI i_2))) ||| (bitL (rd (gA fl 3) 80 (nI i_2)))))) 3 (wrL (gB p_2 3) 40 (rd (gA fl 3) 80 (nI i_2)) ((rdL (gB p_2 3) 40 (rd (gA fl 3) 80 (nI i_2))) ||| (bitL (rd (gA fl 4) 80 (nI i_2)))))) = (sortB fl) i_2 p_2 from (by simp only [sortB, sortD, sortC, rules, eq_false c_54, c_65, bf_of c_98, gi_sl, gi_sA, gi_sB, gi_si_s, gi_si_n, gl_si, gl_sA, gl_sB, gl_sl_s, gl_sl_n, gA_si, gA_sl, gA_sB, gA_sA_s, gA_sA_n, gB_si, gB_sl, gB_sA, gB_sB_s, gB_sB_n, Nat.reduceBEq, if_true, if_false, eq_self, Bool.false_eq_true, Bool.true_eq_false, not_true_eq_false, not_false_eq_true, decide_true, decide_false, cond_true, cond_false, Bool.true_and, Bool.false_and, Bool.and_true, Bool.and_false, Bool.true_or, Bool.false_or, Bool.or_true, Bool.or_false, b2i_tt, b2i_ff, pr_eta]; done)).trans (lp_go h_2)), hP, hD, hS, lv_sub hl [3, 4, 0] rfl⟩
  · obtain ⟨h_1, hP, hD, hS, hl⟩ := hI
    have hP : va_P D vwCl (XW ad cI cJ co fl p_1 li re wa pi) H := hP
    have hD : va_D A (XW ad cI cJ co fl p_1 li re wa pi) := hD
    have hl : lv_has ls 5 [(0, .ref (ad 3)), (1, .ref (ad 2)), (2, .int (nI i_1))] := hl
    refine lv_iload_n hx hb dX4_sortEdges_2 rfl (lv_at hl 2 rfl) ?_
    refine lv_bipush (v := 40) hx hb dX4_sortEdges_3 (by decide) ?_
    refine lv_icmp_ge (tgt := 23) hx hb dX4_sortEdges_5 (by decide) (fun c_5 => absurd c_5 (nI_ge hi_1 (by decide))) (fun _ => ?_)
    refine lv_aload_n hx hb dX4_sortEdges_8 rfl (lv_at hl 0 rfl) ?_
    refine va_get (D := D) (ci := 4) (v := .ref (ad 22)) (C := RX4) (T := TX4) (N := 7) hx hb hg inGX4 hown hK hP 3 xo3 rfl 3 (by decide) (hg _ mw_131) (fun _ h9 => h9) xvX4_3 dX4_sortEdges_9 ?_
    refine lv_iload_n hx hb dX4_sortEdges_12 rfl (lv_at hl 2 rfl) ?_
    refine lv_lconst (v := 0) hx hb dX4_sortEdges_13 (by decide) ?_
    refine kV (rSN hx hb hml hown hg hN hK hP hD (c_putL l D cI cJ (XW ad cI cJ co fl p_1 li re wa pi) 22 (ad 22) 40 (gB p_1 3) (nI i_1) 0 (xg22 rfl) (by decide)) mw_97 nw_76 mw_98 mw_77 pd_X7_put_ ⟨Nat.le_of_ble_eq_true rfl, Nat.le_of_ble_eq_true rfl⟩ rfl hl.1 rfl (Nat.le_of_ble_eq_true rfl) dX4_sortEdges_14 ⟨Nat.le_of_ble_eq_true rfl, Nat.le_of_ble_eq_true rfl⟩) hD hS hA (fun u_13 H locs hp hP hD hS => ?_)
    obtain rfl := hp.symm
    have hP : va_P D vwCl (XW ad cI cJ co fl (sB p_1 3 (wrL (gB p_1 3) 40 (nI i_1) 0)) li re wa pi) H := cgP xs22 hP
    have hD : va_D A (XW ad cI cJ co fl (sB p_1 3 (wrL (gB p_1 3) 40 (nI i_1) 0)) li re wa pi) := cgD xs22 hD
    refine lv_iinc (v := (nI (i_1 + 1))) (lv' := [(2, .int (nI (i_1 + 1))), (0, .ref (ad 3)), (1, .ref (ad 2))]) hx hb dX4_sortEdges_17 hl (k := 2) rfl (nI_1 i_1) (by decide) rfl (fun ls hl => ?_)
    refine lv_goto (tgt := 2) hx hb dX4_sortEdges_20 (by decide) ?_
    exact ih_1 (sB p_1 3 (wrL (gB p_1 3) 40 (nI i_1) 0)) H locs ls ⟨((show (sB p_1 3 (wrL (gB p_1 3) 40 (nI i_1) 0)) = sortA i_1 p_1 from (by first | with_reducible rfl | (simp only [sortA, gi_sl, gi_sA, gi_sB, gi_si_s, gi_si_n, gl_si, gl_sA, gl_sB, gl_sl_s, gl_sl_n, gA_si, gA_sl, gA_sB, gA_sA_s, gA_sA_n, gB_si, gB_sl, gB_sA, gB_sB_s, gB_sB_n, Nat.reduceBEq, if_true, if_false, eq_self, Bool.false_eq_true, Bool.true_eq_false, not_true_eq_false, not_false_eq_true, decide_true, decide_false, cond_true, cond_false, Bool.true_and, Bool.false_and, Bool.and_true, Bool.and_false, Bool.true_or, Bool.false_or, Bool.or_true, Bool.or_false, b2i_tt, b2i_ff, pr_eta]; done))).trans (lp_go h_1)), hP, hD, hS, lv_sub hl [1, 2, 0] rfl⟩
