theorem dX2_passUp_0 : decode cX2_passUp 0 = .ok (.iconst 0, 1) := by decide +kernel
theorem dX2_passUp_1 : decode cX2_passUp 1 = .ok (.istore_n 3, 1) := by decide +kernel
theorem dX2_passUp_2 : decode cX2_passUp 2 = .ok (.aload_n 2, 1) := by decide +kernel
theorem dX2_passUp_3 : decode cX2_passUp 3 = .ok (.getfield 27, 3) := by decide +kernel
theorem dX2_passUp_6 : decode cX2_passUp 6 = .ok (.iconst 1, 1) := by decide +kernel
theorem dX2_passUp_7 : decode cX2_passUp 7 = .ok (.isub, 1) := by decide +kernel
theorem dX2_passUp_8 : decode cX2_passUp 8 = .ok (.istore 4, 2) := by decide +kernel
theorem dX2_passUp_10 : decode cX2_passUp 10 = .ok (.iload 4, 2) := by decide +kernel
theorem dX2_passUp_12 : decode cX2_passUp 12 = .ok (.ifCond .lt 106, 3) := by decide +kernel
theorem dX2_passUp_15 : decode cX2_passUp 15 = .ok (.aload_n 2, 1) := by decide +kernel
theorem dX2_passUp_16 : decode cX2_passUp 16 = .ok (.getfield 32, 3) := by decide +kernel
theorem dX2_passUp_19 : decode cX2_passUp 19 = .ok (.iload 4, 2) := by decide +kernel
theorem dX2_passUp_21 : decode cX2_passUp 21 = .ok (.invokestatic 36, 3) := by decide +kernel
theorem dX2_passUp_24 : decode cX2_passUp 24 = .ok (.ifCond .eq 88, 3) := by decide +kernel
theorem dX2_passUp_27 : decode cX2_passUp 27 = .ok (.aload_n 0, 1) := by decide +kernel
theorem dX2_passUp_28 : decode cX2_passUp 28 = .ok (.aload_n 2, 1) := by decide +kernel
theorem dX2_passUp_29 : decode cX2_passUp 29 = .ok (.iload 4, 2) := by decide +kernel
theorem dX2_passUp_31 : decode cX2_passUp 31 = .ok (.invokevirtual 44, 3) := by decide +kernel
theorem dX2_passUp_34 : decode cX2_passUp 34 = .ok (.istore 5, 2) := by decide +kernel
theorem dX2_passUp_36 : decode cX2_passUp 36 = .ok (.aload_n 2, 1) := by decide +kernel
theorem dX2_passUp_37 : decode cX2_passUp 37 = .ok (.getfield 48, 3) := by decide +kernel
theorem dX2_passUp_40 : decode cX2_passUp 40 = .ok (.iload 4, 2) := by decide +kernel
theorem dX2_passUp_42 : decode cX2_passUp 42 = .ok (.invokestatic 51, 3) := by decide +kernel
theorem dX2_passUp_45 : decode cX2_passUp 45 = .ok (.istore 6, 2) := by decide +kernel
theorem dX2_passUp_47 : decode cX2_passUp 47 = .ok (.iload 6, 2) := by decide +kernel
theorem dX2_passUp_49 : decode cX2_passUp 49 = .ok (.aload_n 2, 1) := by decide +kernel
theorem dX2_passUp_50 : decode cX2_passUp 50 = .ok (.getfield 55, 3) := by decide +kernel
theorem dX2_passUp_53 : decode cX2_passUp 53 = .ok (.iload 4, 2) := by decide +kernel
theorem dX2_passUp_55 : decode cX2_passUp 55 = .ok (.invokestatic 51, 3) := by decide +kernel
theorem dX2_passUp_58 : decode cX2_passUp 58 = .ok (.if_icmp .lt 19, 3) := by decide +kernel
theorem dX2_passUp_61 : decode cX2_passUp 61 = .ok (.aload_n 1, 1) := by decide +kernel
theorem dX2_passUp_62 : decode cX2_passUp 62 = .ok (.iload 6, 2) := by decide +kernel
theorem dX2_passUp_64 : decode cX2_passUp 64 = .ok (.iload 5, 2) := by decide +kernel
theorem dX2_passUp_66 : decode cX2_passUp 66 = .ok (.invokestatic 58, 3) := by decide +kernel
theorem dX2_passUp_69 : decode cX2_passUp 69 = .ok (.istore 5, 2) := by decide +kernel
theorem dX2_passUp_71 : decode cX2_passUp 71 = .ok (.iinc 6 (-1), 3) := by decide +kernel
theorem dX2_passUp_74 : decode cX2_passUp 74 = .ok (.goto (-27), 3) := by decide +kernel
theorem dX2_passUp_77 : decode cX2_passUp 77 = .ok (.iload_n 3, 1) := by decide +kernel
theorem dX2_passUp_78 : decode cX2_passUp 78 = .ok (.ifCond .ne 17, 3) := by decide +kernel
theorem dX2_passUp_81 : decode cX2_passUp 81 = .ok (.iload 5, 2) := by decide +kernel
theorem dX2_passUp_83 : decode cX2_passUp 83 = .ok (.aload_n 0, 1) := by decide +kernel
theorem dX2_passUp_84 : decode cX2_passUp 84 = .ok (.getfield 9, 3) := by decide +kernel
theorem dX2_passUp_87 : decode cX2_passUp 87 = .ok (.iload 4, 2) := by decide +kernel
theorem dX2_passUp_89 : decode cX2_passUp 89 = .ok (.invokestatic 51, 3) := by decide +kernel
theorem dX2_passUp_92 : decode cX2_passUp 92 = .ok (.if_icmp .eq 7, 3) := by decide +kernel
theorem dX2_passUp_95 : decode cX2_passUp 95 = .ok (.iconst 1, 1) := by decide +kernel
theorem dX2_passUp_96 : decode cX2_passUp 96 = .ok (.goto 4, 3) := by decide +kernel
theorem dX2_passUp_99 : decode cX2_passUp 99 = .ok (.iconst 0, 1) := by decide +kernel
theorem dX2_passUp_100 : decode cX2_passUp 100 = .ok (.istore_n 3, 1) := by decide +kernel
theorem dX2_passUp_101 : decode cX2_passUp 101 = .ok (.aload_n 0, 1) := by decide +kernel
theorem dX2_passUp_102 : decode cX2_passUp 102 = .ok (.getfield 9, 3) := by decide +kernel
theorem dX2_passUp_105 : decode cX2_passUp 105 = .ok (.iload 4, 2) := by decide +kernel
theorem dX2_passUp_107 : decode cX2_passUp 107 = .ok (.iload 5, 2) := by decide +kernel
theorem dX2_passUp_109 : decode cX2_passUp 109 = .ok (.invokestatic 15, 3) := by decide +kernel
theorem dX2_passUp_112 : decode cX2_passUp 112 = .ok (.iinc 4 (-1), 3) := by decide +kernel
theorem dX2_passUp_115 : decode cX2_passUp 115 = .ok (.goto (-105), 3) := by decide +kernel
theorem dX2_passUp_118 : decode cX2_passUp 118 = .ok (.iload_n 3, 1) := by decide +kernel
theorem dX2_passUp_119 : decode cX2_passUp 119 = .ok (.ireturn, 1) := by decide +kernel
theorem mw_148 : Cond.code yX2_behind cX2_behind 7 (some Jvm.ClassFile.FieldType.int) ∈ GW := gw_mem (inT2 _ (List.mem_of_getElem? (i := 195) rfl)) rfl
theorem mw_149 : Cond.methodLink RX2 44 yX2_behind ∈ GW := gw_mem (inT2 _ (List.mem_of_getElem? (i := 192) rfl)) rfl
theorem mw_150 : Cond.instanceMethod yX2_behind ∈ GW := gw_mem (inT2 _ (List.mem_of_getElem? (i := 194) rfl)) rfl
theorem mw_151 : Cond.selects RX2 yX2_behind yX2_behind ∈ GW := gw_mem (inTp (q := (yX2_behind, 3)) (List.mem_of_getElem? (i := 9) rfl)) rfl
theorem mw_152 : Cond.initialized RX2 ∈ GW := gw_mem (inT1 _ (List.mem_of_getElem? (i := 5) rfl)) rfl
theorem mw_153 : Cond.code yX2_ahead cX2_ahead 5 (some Jvm.ClassFile.FieldType.int) ∈ GW := gw_mem (inT2 _ (List.mem_of_getElem? (i := 200) rfl)) rfl
theorem mw_154 : Cond.methodLink RX2 58 yX2_ahead ∈ GW := gw_mem (inT2 _ (List.mem_of_getElem? (i := 198) rfl)) rfl
theorem mw_155 : Cond.static yX2_ahead ∈ GW := gw_mem (inT2 _ (List.mem_of_getElem? (i := 199) rfl)) rfl
theorem pdv_X2_behind : yX2_behind.cls = RX2 ∧ yX2_behind.cls ≠ "java/lang/invoke/MethodHandle" ∧ yX2_behind.cls ≠ "java/lang/invoke/VarHandle" ∧ (parseMethodDescriptor yX2_behind.desc).map (fun d => d.parameters.length) = some 2 := by decide +kernel
theorem pd_X2_ahead : yX2_ahead.cls ≠ "java/lang/invoke/MethodHandle" ∧ yX2_ahead.cls ≠ "java/lang/invoke/VarHandle" ∧ (parseMethodDescriptor yX2_ahead.desc).map (fun d => d.parameters.length) = some 3 := by decide +kernel
set_option maxHeartbeats 4000000 in
set_option maxRecDepth 100000 in
theorem c_passUp (l : Launch) (D : va_G) (cI cJ : ClassId) (ad : Nat → Nat) (co fl ra li re wa pi : Ob) (hlo : FlowLo fl) : CT l D (TY cI cJ) yX2_passUp (.code yX2_passUp cX2_passUp 7 (some Jvm.ClassFile.FieldType.boolean)) 2 0 0 (XW ad cI cJ co fl ra li re wa pi) [.ref (ad 4), .ref (ad 1), .ref (ad 2)] (QI D (TY cI cJ) (fun r u => r = (b2i (passUp co fl li).2) ∧ u = (XW ad cI cJ co fl ra (passUp co fl li).1 re wa pi))) := by
  refine ent (by decide) (Nat.le_of_ble_eq_true rfl) ?_
  intro p e s m below meth c ls A hx hb hr hg hown hml hlocks hnm hP hK hD hS hA hN hl
  have hl : lv_has ls 7 [(0, .ref (ad 4)), (1, .ref (ad 1)), (2, .ref (ad 2))] := hl
  refine lv_iconst (v := 0) hx hb dX2_passUp_0 (by decide) ?_
  refine lv_istore_n (lv' := [(3, .int 0), (0, .ref (ad 4)), (1, .ref (ad 1)), (2, .ref (ad 2))]) hx hb dX2_passUp_1 rfl hl (by decide) rfl (fun ls hl => ?_)
  refine lv_aload_n hx hb dX2_passUp_2 rfl (lv_at hl 3 rfl) ?_
  refine va_getN (D := D) (ci := 1) (v := .int (gi fl 0)) (C := RX1) (T := TX1) (N := 11) hx hb hg inGX1 hown hK hP 2 xo2 rfl 7 (by decide) (hN.use nw_26) (fun _ h9 => h9) (xvX1_7 rfl) dX2_passUp_3 ?_
  refine lv_iconst (v := 1) hx hb dX2_passUp_6 (by decide) ?_
  refine lv_isub hx hb dX2_passUp_7 ?_
  refine lv_istore (lv' := [(4, .int ((gi fl 0) - 1)), (3, .int 0), (0, .ref (ad 4)), (1, .ref (ad 1)), (2, .ref (ad 2))]) hx hb dX2_passUp_8 hl (by decide) rfl (fun ls hl => ?_)
  refine w_loop (σ := Ob × Bool) (fun (i_1 : Nat) (p_1 : Ob × Bool) (H : Heap) (locs : List Loc) (ls : Array Slot) => p_1 = (lp (passStep co fl) i_1 (li, false)) ∧ va_P D vwCl (XW ad cI cJ co fl ra p_1.1 re wa pi) H ∧ va_D A (XW ad cI cJ co fl ra p_1.1 re wa pi) ∧ va_S A s.heap H locs ∧ lv_has ls 7 [(0, .ref (ad 4)), (1, .ref (ad 1)), (2, .ref (ad 2)), (3, .int (b2i p_1.2)), (4, .int ((gi fl 0) - 1 - nI i_1))]) (nN (gi fl 0)) (fun p_1 H locs ls hI => ?_) (fun i_1 p_1 H locs ls hi_1 hI ih_1 => ?_) 0 (li, false) (Nat.zero_le _) ⟨(lp_0 _ _), hP, hD, hS, (by rw [sub_nI0]; exact lv_sub hl [2, 3, 4, 1, 0] rfl)⟩
  · obtain ⟨h_1, hP, hD, hS, hl⟩ := hI
    have h_1 := h_1.symm
    subst h_1
    have hP : va_P D vwCl (XW ad cI cJ co fl ra ((lp (passStep co fl) (nN (gi fl 0)) (li, false)).1) re wa pi) H := hP
    have hD : va_D A (XW ad cI cJ co fl ra ((lp (passStep co fl) (nN (gi fl 0)) (li, false)).1) re wa pi) := hD
    have hl : lv_has ls 7 [(0, .ref (ad 4)), (1, .ref (ad 1)), (2, .ref (ad 2)), (3, .int (b2i (lp (passStep co fl) (nN (gi fl 0)) (li, false)).2)), (4, .int ((gi fl 0) - 1 - nI ((nN (gi fl 0)))))] := hl
    refine lv_iload hx hb dX2_passUp_10 (lv_at hl 4 rfl) ?_
    refine lv_if_lt (tgt := 118) hx hb dX2_passUp_12 (by decide) (fun _ => ?_) (fun c_12 => absurd (dn_out hlo.1) c_12)
    refine lv_iload_n hx hb dX2_passUp_118 rfl (lv_at hl 3 rfl) ?_
    exact W.zret (v := (b2i (lp (passStep co fl) (nN (gi fl 0)) (li, false)).2)) hx hb hr nar_b2i (fun t ht hW => ⟨⟨(b2i (lp (passStep co fl) (nN (gi fl 0)) (li, false)).2), (XW ad cI cJ co fl ra ((lp (passStep co fl) (nN (gi fl 0)) (li, false)).1) re wa pi), rfl, ⟨(show ((b2i (lp (passStep co fl) (nN (gi fl 0)) (li, false)).2) : Int32) = (b2i (passUp co fl li).2) from (by first | with_reducible rfl | (simp only [passUp, gi_sl, gi_sA, gi_sB, gi_si_s, gi_si_n, gl_si, gl_sA, gl_sB, gl_sl_s, gl_sl_n, gA_si, gA_sl, gA_sB, gA_sA_s, gA_sA_n, gB_si, gB_sl, gB_sA, gB_sB_s, gB_sB_n, Nat.reduceBEq, if_true, if_false, eq_self, Bool.false_eq_true, Bool.true_eq_false, not_true_eq_false, not_false_eq_true, decide_true, decide_false, cond_true, cond_false, Bool.true_and, Bool.false_and, Bool.and_true, Bool.and_false, Bool.true_or, Bool.false_or, Bool.or_true, Bool.or_false, b2i_tt, b2i_ff, pr_eta]; done))), xw_eq rfl rfl rfl (show ((lp (passStep co fl) (nN (gi fl 0)) (li, false)).1) = (passUp co fl li).1 from (by first | with_reducible rfl | (simp only [passUp, gi_sl, gi_sA, gi_sB, gi_si_s, gi_si_n, gl_si, gl_sA, gl_sB, gl_sl_s, gl_sl_n, gA_si, gA_sl, gA_sB, gA_sA_s, gA_sA_n, gB_si, gB_sl, gB_sA, gB_sB_s, gB_sB_n, Nat.reduceBEq, if_true, if_false, eq_self, Bool.false_eq_true, Bool.true_eq_false, not_true_eq_false, not_false_eq_true, decide_true, decide_false, cond_true, cond_false, Bool.true_and, Bool.false_and, Bool.and_true, Bool.and_false, Bool.true_or, Bool.false_or, Bool.or_true, Bool.or_false, b2i_tt, b2i_ff, pr_eta]; done))) rfl rfl rfl⟩, ⟨by rw [ht]; exact hP, va_K.moved hW.alike hK, hD⟩⟩, hS.F ht⟩) hS.2.2 dX2_passUp_119
  · obtain ⟨h_1, hP, hD, hS, hl⟩ := hI
    have hP : va_P D vwCl (XW ad cI cJ co fl ra p_1.1 re wa pi) H := hP
    have hD : va_D A (XW ad cI cJ co fl ra p_1.1 re wa pi) := hD
    have hl : lv_has ls 7 [(0, .ref (ad 4)), (1, .ref (ad 1)), (2, .ref (ad 2)), (3, .int (b2i p_1.2)), (4, .int ((gi fl 0) - 1 - nI i_1))] := hl
    refine lv_iload hx hb dX2_passUp_10 (lv_at hl 4 rfl) ?_
    refine lv_if_lt (tgt := 118) hx hb dX2_passUp_12 (by decide) (fun c_12 => absurd c_12 (dn_in hi_1)) (fun _ => ?_)
    refine lv_aload_n hx hb dX2_passUp_15 rfl (lv_at hl 2 rfl) ?_
    refine va_getN (D := D) (ci := 1) (v := .long (gl fl 0)) (C := RX1) (T := TX1) (N := 11) hx hb hg inGX1 hown hK hP 2 xo2 rfl 9 (by decide) (hN.use nw_34) (fun _ h9 => h9) (xvX1_9 rfl) dX2_passUp_16 ?_
    refine lv_iload hx hb dX2_passUp_19 (lv_at hl 4 rfl) ?_
    refine kI (rSN hx hb hml hown hg hN hK hP hD (c_has l D cI cJ (XW ad cI cJ co fl ra p_1.1 re wa pi) (gl fl 0) ((gi fl 0) - 1 - nI i_1)) mw_89 nw_80 mw_90 mw_77 pd_X7_has ⟨Nat.le_of_ble_eq_true rfl, Nat.le_of_ble_eq_true rfl⟩ rfl hl.1 rfl (Nat.le_of_ble_eq_true rfl) dX2_passUp_21 ⟨Nat.le_of_ble_eq_true rfl, Nat.le_of_ble_eq_true rfl⟩) hD hS hA (fun r_2 u_2 H locs hp hP hD hS => ?_)
    obtain ⟨er, eu⟩ := hp
    obtain rfl := er.symm
    obtain rfl := eu.symm
    refine lv_if_eq (tgt := 112) hx hb dX2_passUp_24 (by decide) (fun c_24 => ?_) (fun c_24 => ?_)
    · have c_24 : ¬ (hs (gl fl 0) ((gi fl 0) - 1 - nI i_1)) = true := b2i_0 c_24
      refine lv_iinc (v := ((gi fl 0) - 1 - nI (i_1 + 1))) (lv' := [(4, .int ((gi fl 0) - 1 - nI (i_1 + 1))), (0, .ref (ad 4)), (1, .ref (ad 1)), (2, .ref (ad 2)), (3, .int (b2i p_1.2))]) hx hb dX2_passUp_112 hl (k := 4) rfl (sub_nI1 _ i_1) (by decide) rfl (fun ls hl => ?_)
      refine lv_goto (tgt := 10) hx hb dX2_passUp_115 (by decide) ?_
      exact ih_1 (p_1.1, p_1.2) H locs ls ⟨((show (p_1.1, p_1.2) = (passStep co fl) i_1 p_1 from (by simp only [passStep, passB, scan, bf_of c_24, gi_sl, gi_sA, gi_sB, gi_si_s, gi_si_n, gl_si, gl_sA, gl_sB, gl_sl_s, gl_sl_n, gA_si, gA_sl, gA_sB, gA_sA_s, gA_sA_n, gB_si, gB_sl, gB_sA, gB_sB_s, gB_sB_n, Nat.reduceBEq, if_true, if_false, eq_self, Bool.false_eq_true, Bool.true_eq_false, not_true_eq_false, not_false_eq_true, decide_true, decide_false, cond_true, cond_false, Bool.true_and, Bool.false_and, Bool.and_true, Bool.and_false, Bool.true_or, Bool.false_or, Bool.or_true, Bool.or_false, b2i_tt, b2i_ff, pr_eta]; done)).trans (lp_go h_1)), hP, hD, hS, lv_sub hl [1, 2, 3, 4, 0] rfl⟩
    · have c_24 : (hs (gl fl 0) ((gi fl 0) - 1 - nI i_1)) = true := b2i_1 c_24
      refine lv_aload_n hx hb dX2_passUp_27 rfl (lv_at hl 0 rfl) ?_
      refine lv_aload_n hx hb dX2_passUp_28 rfl (lv_at hl 2 rfl) ?_
      refine lv_iload hx hb dX2_passUp_29 (lv_at hl 4 rfl) ?_
      refine kI (rV (q0 := 4) (ci := 2) hx hb hml hown hg hN hK hP hD (c_behind l D cI cJ ad co fl ra p_1.1 re wa pi ((gi fl 0) - 1 - nI i_1)) mw_148 mw_149 mw_150 mw_151 mw_152 pdv_X2_behind ⟨Nat.le_of_ble_eq_true rfl, Nat.le_of_ble_eq_true rfl⟩ rfl xo4 rfl hl.1 rfl (Nat.le_of_ble_eq_true rfl) dX2_passUp_31 ⟨Nat.le_of_ble_eq_true rfl, Nat.le_of_ble_eq_true rfl⟩) hD hS hA (fun r_3 u_3 H locs hp hP hD hS => ?_)
      obtain ⟨er, eu⟩ := hp
      obtain rfl := er.symm
      obtain rfl := eu.symm
      refine lv_istore (lv' := [(5, .int (behind fl p_1.1 ((gi fl 0) - 1 - nI i_1))), (0, .ref (ad 4)), (1, .ref (ad 1)), (2, .ref (ad 2)), (3, .int (b2i p_1.2)), (4, .int ((gi fl 0) - 1 - nI i_1))]) hx hb dX2_passUp_34 hl (by decide) rfl (fun ls hl => ?_)
      refine lv_aload_n hx hb dX2_passUp_36 rfl (lv_at hl 3 rfl) ?_
      refine va_getN (D := D) (ci := 1) (v := .ref (ad 14)) (C := RX1) (T := TX1) (N := 11) hx hb hg inGX1 hown hK hP 2 xo2 rfl 2 (by decide) (hN.use nw_15) (fun _ h9 => h9) xvX1_2 dX2_passUp_37 ?_
      refine lv_iload hx hb dX2_passUp_40 (lv_at hl 5 rfl) ?_
      refine kI (rSN hx hb hml hown hg hN hK hP hD (c_at l D cI cJ (XW ad cI cJ co fl ra p_1.1 re wa pi) 14 (ad 14) 40 (gA fl 2) ((gi fl 0) - 1 - nI i_1) (xg14 rfl) (by decide)) mw_84 nw_82 mw_85 mw_77 pd_X7_at ⟨Nat.le_of_ble_eq_true rfl, Nat.le_of_ble_eq_true rfl⟩ rfl hl.1 rfl (Nat.le_of_ble_eq_true rfl) dX2_passUp_42 ⟨Nat.le_of_ble_eq_true rfl, Nat.le_of_ble_eq_true rfl⟩) hD hS hA (fun r_4 u_4 H locs hp hP hD hS => ?_)
      obtain ⟨er, eu⟩ := hp
      obtain rfl := er.symm
      obtain rfl := eu.symm
      refine lv_istore (lv' := [(6, .int (rd (gA fl 2) 40 ((gi fl 0) - 1 - nI i_1))), (5, .int (behind fl p_1.1 ((gi fl 0) - 1 - nI i_1))), (0, .ref (ad 4)), (1, .ref (ad 1)), (2, .ref (ad 2)), (3, .int (b2i p_1.2)), (4, .int ((gi fl 0) - 1 - nI i_1))]) hx hb dX2_passUp_45 hl (by decide) rfl (fun ls hl => ?_)
      refine w_loop (σ := Int32) (fun (i_5 : Nat) (p_5 : Int32) (H : Heap) (locs : List Loc) (ls : Array Slot) => p_5 = (lp (fun j now => ahead co ((rd (gA fl 2) 40 ((gi fl 0) - 1 - nI i_1)) - nI j) now) i_5 (behind fl p_1.1 ((gi fl 0) - 1 - nI i_1))) ∧ va_P D vwCl (XW ad cI cJ co fl ra p_1.1 re wa pi) H ∧ va_D A (XW ad cI cJ co fl ra p_1.1 re wa pi) ∧ va_S A s.heap H locs ∧ lv_has ls 7 [(0, .ref (ad 4)), (1, .ref (ad 1)), (2, .ref (ad 2)), (3, .int (b2i p_1.2)), (4, .int ((gi fl 0) - 1 - nI i_1)), (5, .int p_5), (6, .int ((rd (gA fl 2) 40 ((gi fl 0) - 1 - nI i_1)) - nI i_5))]) ((scanN fl ((gi fl 0) - 1 - nI i_1))) (fun p_5 H locs ls hI => ?_) (fun i_5 p_5 H locs ls hi_5 hI ih_5 => ?_) 0 (behind fl p_1.1 ((gi fl 0) - 1 - nI i_1)) (Nat.zero_le _) ⟨(lp_0 _ _), hP, hD, hS, (by rw [sub_nI0]; exact lv_sub hl [2, 3, 4, 5, 6, 1, 0] rfl)⟩
      · obtain ⟨h_5, hP, hD, hS, hl⟩ := hI
        have h_5 := h_5.symm
        subst h_5
        have hP : va_P D vwCl (XW ad cI cJ co fl ra p_1.1 re wa pi) H := hP
        have hD : va_D A (XW ad cI cJ co fl ra p_1.1 re wa pi) := hD
        have hl : lv_has ls 7 [(0, .ref (ad 4)), (1, .ref (ad 1)), (2, .ref (ad 2)), (3, .int (b2i p_1.2)), (4, .int ((gi fl 0) - 1 - nI i_1)), (5, .int ((lp (fun j now => ahead co ((rd (gA fl 2) 40 ((gi fl 0) - 1 - nI i_1)) - nI j) now) ((scanN fl ((gi fl 0) - 1 - nI i_1))) (behind fl p_1.1 ((gi fl 0) - 1 - nI i_1))))), (6, .int ((rd (gA fl 2) 40 ((gi fl 0) - 1 - nI i_1)) - nI (((scanN fl ((gi fl 0) - 1 - nI i_1))))))] := hl
        refine lv_iload hx hb dX2_passUp_47 (lv_at hl 6 rfl) ?_
        refine lv_aload_n hx hb dX2_passUp_49 rfl (lv_at hl 2 rfl) ?_
        refine va_getN (D := D) (ci := 1) (v := .ref (ad 13)) (C := RX1) (T := TX1) (N := 11) hx hb hg inGX1 hown hK hP 2 xo2 rfl 1 (by decide) (hN.use nw_13) (fun _ h9 => h9) xvX1_1 dX2_passUp_50 ?_
        refine lv_iload hx hb dX2_passUp_53 (lv_at hl 4 rfl) ?_
        refine kI (rSN hx hb hml hown hg hN hK hP hD (c_at l D cI cJ (XW ad cI cJ co fl ra p_1.1 re wa pi) 13 (ad 13) 40 (gA fl 1) ((gi fl 0) - 1 - nI i_1) (xg13 rfl) (by decide)) mw_84 nw_82 mw_85 mw_77 pd_X7_at ⟨Nat.le_of_ble_eq_true rfl, Nat.le_of_ble_eq_true rfl⟩ rfl hl.1 rfl (Nat.le_of_ble_eq_true rfl) dX2_passUp_55 ⟨Nat.le_of_ble_eq_true rfl, Nat.le_of_ble_eq_true rfl⟩) hD hS hA (fun r_6 u_6 H locs hp hP hD hS => ?_)
        obtain ⟨er, eu⟩ := hp
        obtain rfl := er.symm
        obtain rfl := eu.symm
        refine lv_icmp_lt (tgt := 77) hx hb dX2_passUp_58 (by decide) (fun _ => ?_) (fun c_58 => absurd (sc_out (FlowLo.at hlo hi_1)) c_58)
        refine lv_iload_n hx hb dX2_passUp_77 rfl (lv_at hl 3 rfl) ?_
        refine lv_if_ne (tgt := 95) hx hb dX2_passUp_78 (by decide) (fun c_78 => ?_) (fun c_78 => ?_)
        · have c_78 : p_1.2 = true := b2i_1 c_78
          refine lv_iconst (v := 1) hx hb dX2_passUp_95 (by decide) ?_
          refine lv_goto (tgt := 100) hx hb dX2_passUp_96 (by decide) ?_
          refine lv_istore_n (lv' := [(3, .int 1), (0, .ref (ad 4)), (1, .ref (ad 1)), (2, .ref (ad 2)), (4, .int ((gi fl 0) - 1 - nI i_1)), (5, .int ((lp (fun j now => ahead co ((rd (gA fl 2) 40 ((gi fl 0) - 1 - nI i_1)) - nI j) now) ((scanN fl ((gi fl 0) - 1 - nI i_1))) (behind fl p_1.1 ((gi fl 0) - 1 - nI i_1))))), (6, .int ((rd (gA fl 2) 40 ((gi fl 0) - 1 - nI i_1)) - nI (((scanN fl ((gi fl 0) - 1 - nI i_1))))))]) hx hb dX2_passUp_100 rfl hl (by decide) rfl (fun ls hl => ?_)
          refine lv_aload_n hx hb dX2_passUp_101 rfl (lv_at hl 1 rfl) ?_
          refine va_get (D := D) (ci := 2) (v := .ref (ad 23)) (C := RX2) (T := TX2) (N := 3) hx hb hg inGX2 hown hK hP 4 xo4 rfl 0 (by decide) (hg _ mw_147) (fun _ h9 => h9) xvX2_0 dX2_passUp_102 ?_
          refine lv_iload hx hb dX2_passUp_105 (lv_at hl 4 rfl) ?_
          refine lv_iload hx hb dX2_passUp_107 (lv_at hl 5 rfl) ?_
          refine kV (rSN hx hb hml hown hg hN hK hP hD (c_put l D cI cJ (XW ad cI cJ co fl ra p_1.1 re wa pi) 23 (ad 23) 40 (gA p_1.1 0) ((gi fl 0) - 1 - nI i_1) ((lp (fun j now => ahead co ((rd (gA fl 2) 40 ((gi fl 0) - 1 - nI i_1)) - nI j) now) ((scanN fl ((gi fl 0) - 1 - nI i_1))) (behind fl p_1.1 ((gi fl 0) - 1 - nI i_1)))) (xg23 rfl) (by decide)) mw_92 nw_79 mw_93 mw_77 pd_X7_put ⟨Nat.le_of_ble_eq_true rfl, Nat.le_of_ble_eq_true rfl⟩ rfl hl.1 rfl (Nat.le_of_ble_eq_true rfl) dX2_passUp_109 ⟨Nat.le_of_ble_eq_true rfl, Nat.le_of_ble_eq_true rfl⟩) hD hS hA (fun u_7 H locs hp hP hD hS => ?_)
          obtain rfl := hp.symm
          have hP : va_P D vwCl (XW ad cI cJ co fl ra (sA p_1.1 0 (wr (gA p_1.1 0) 40 ((gi fl 0) - 1 - nI i_1) ((lp (fun j now => ahead co ((rd (gA fl 2) 40 ((gi fl 0) - 1 - nI i_1)) - nI j) now) ((scanN fl ((gi fl 0) - 1 - nI i_1))) (behind fl p_1.1 ((gi fl 0) - 1 - nI i_1)))))) re wa pi) H := cgP xs23 hP
          have hD : va_D A (XW ad cI cJ co fl ra (sA p_1.1 0 (wr (gA p_1.1 0) 40 ((gi fl 0) - 1 - nI i_1) ((lp (fun j now => ahead co ((rd (gA fl 2) 40 ((gi fl 0) - 1 - nI i_1)) - nI j) now) ((scanN fl ((gi fl 0) - 1 - nI i_1))) (behind fl p_1.1 ((gi fl 0) - 1 - nI i_1)))))) re wa pi) := cgD xs23 hD
          refine lv_iinc (v := ((gi fl 0) - 1 - nI (i_1 + 1))) (lv' := [(4, .int ((gi fl 0) - 1 - nI (i_1 + 1))), (3, .int 1), (0, .ref (ad 4)), (1, .ref (ad 1)), (2, .ref (ad 2)), (5, .int ((lp (fun j now => ahead co ((rd (gA fl 2) 40 ((gi fl 0) - 1 - nI i_1)) - nI j) now) ((scanN fl ((gi fl 0) - 1 - nI i_1))) (behind fl p_1.1 ((gi fl 0) - 1 - nI i_1))))), (6, .int ((rd (gA fl 2) 40 ((gi fl 0) - 1 - nI i_1)) - nI (((scanN fl ((gi fl 0) - 1 - nI i_1))))))]) hx hb dX2_passUp_112 hl (k := 4) rfl (sub_nI1 _ i_1) (by decide) rfl (fun ls hl => ?_)
          refine lv_goto (tgt := 10) hx hb dX2_passUp_115 (by decide) ?_
          exact ih_1 ((sA p_1.1 0 (wr (gA p_1.1 0) 40 ((gi fl 0) - 1 - nI i_1) ((lp (fun j now => ahead co ((rd (gA fl 2) 40 ((gi fl 0) - 1 - nI i_1)) - nI j) now) ((scanN fl ((gi fl 0) - 1 - nI i_1))) (behind fl p_1.1 ((gi fl 0) - 1 - nI i_1)))))), true) H locs ls ⟨((show ((sA p_1.1 0 (wr (gA p_1.1 0) 40 ((gi fl 0) - 1 - nI i_1) ((lp (fun j now => ahead co ((rd (gA fl 2) 40 ((gi fl 0) - 1 - nI i_1)) - nI j) now) ((scanN fl ((gi fl 0) - 1 - nI i_1))) (behind fl p_1.1 ((gi fl 0) - 1 - nI i_1)))))), true) = (passStep co fl) i_1 p_1 from (by simp only [passStep, passB, scan, c_24, c_78, gi_sl, gi_sA, gi_sB, gi_si_s, gi_si_n, gl_si, gl_sA, gl_sB, gl_sl_s, gl_sl_n, gA_si, gA_sl, gA_sB, gA_sA_s, gA_sA_n, gB_si, gB_sl, gB_sA, gB_sB_s, gB_sB_n, Nat.reduceBEq, if_true, if_false, eq_self, Bool.false_eq_true, Bool.true_eq_false, not_true_eq_false, not_false_eq_true, decide_true, decide_false, cond_true, cond_false, Bool.true_and, Bool.false_and, Bool.and_true, Bool.and_false, Bool.true_or, Bool.false_or, Bool.or_true, Bool.or_false, b2i_tt, b2i_ff, pr_eta]; done)).trans (lp_go h_1)), hP, hD, hS, lv_sub hl [2, 3, 4, 1, 0] rfl⟩
        · have c_78 : ¬ p_1.2 = true := b2i_0 c_78
          refine lv_iload hx hb dX2_passUp_81 (lv_at hl 5 rfl) ?_
          refine lv_aload_n hx hb dX2_passUp_83 rfl (lv_at hl 0 rfl) ?_
          refine va_get (D := D) (ci := 2) (v := .ref (ad 23)) (C := RX2) (T := TX2) (N := 3) hx hb hg inGX2 hown hK hP 4 xo4 rfl 0 (by decide) (hg _ mw_147) (fun _ h9 => h9) xvX2_0 dX2_passUp_84 ?_
          refine lv_iload hx hb dX2_passUp_87 (lv_at hl 4 rfl) ?_
          refine kI (rSN hx hb hml hown hg hN hK hP hD (c_at l D cI cJ (XW ad cI cJ co fl ra p_1.1 re wa pi) 23 (ad 23) 40 (gA p_1.1 0) ((gi fl 0) - 1 - nI i_1) (xg23 rfl) (by decide)) mw_84 nw_82 mw_85 mw_77 pd_X7_at ⟨Nat.le_of_ble_eq_true rfl, Nat.le_of_ble_eq_true rfl⟩ rfl hl.1 rfl (Nat.le_of_ble_eq_true rfl) dX2_passUp_89 ⟨Nat.le_of_ble_eq_true rfl, Nat.le_of_ble_eq_true rfl⟩) hD hS hA (fun r_8 u_8 H locs hp hP hD hS => ?_)
          obtain ⟨er, eu⟩ := hp
          obtain rfl := er.symm
          obtain rfl := eu.symm
          refine lv_icmp_eq (tgt := 99) hx hb dX2_passUp_92 (by decide) (fun c_92 => ?_) (fun c_92 => ?_)
          · refine lv_iconst (v := 0) hx hb dX2_passUp_99 (by decide) ?_
            refine lv_istore_n (lv' := [(3, .int 0), (0, .ref (ad 4)), (1, .ref (ad 1)), (2, .ref (ad 2)), (4, .int ((gi fl 0) - 1 - nI i_1)), (5, .int ((lp (fun j now => ahead co ((rd (gA fl 2) 40 ((gi fl 0) - 1 - nI i_1)) - nI j) now) ((scanN fl ((gi fl 0) - 1 - nI i_1))) (behind fl p_1.1 ((gi fl 0) - 1 - nI i_1))))), (6, .int ((rd (gA fl 2) 40 ((gi fl 0) - 1 - nI i_1)) - nI (((scanN fl ((gi fl 0) - 1 - nI i_1))))))]) hx hb dX2_passUp_100 rfl hl (by decide) rfl (fun ls hl => ?_)
            refine lv_aload_n hx hb dX2_passUp_101 rfl (lv_at hl 1 rfl) ?_
            refine va_get (D := D) (ci := 2) (v := .ref (ad 23)) (C := RX2) (T := TX2) (N := 3) hx hb hg inGX2 hown hK hP 4 xo4 rfl 0 (by decide) (hg _ mw_147) (fun _ h9 => h9) xvX2_0 dX2_passUp_102 ?_
            refine lv_iload hx hb dX2_passUp_105 (lv_at hl 4 rfl) ?_
            refine lv_iload hx hb dX2_passUp_107 (lv_at hl 5 rfl) ?_
            refine kV (rSN hx hb hml hown hg hN hK hP hD (c_put l D cI cJ (XW ad cI cJ co fl ra p_1.1 re wa pi) 23 (ad 23) 40 (gA p_1.1 0) ((gi fl 0) - 1 - nI i_1) ((lp (fun j now => ahead co ((rd (gA fl 2) 40 ((gi fl 0) - 1 - nI i_1)) - nI j) now) ((scanN fl ((gi fl 0) - 1 - nI i_1))) (behind fl p_1.1 ((gi fl 0) - 1 - nI i_1)))) (xg23 rfl) (by decide)) mw_92 nw_79 mw_93 mw_77 pd_X7_put ⟨Nat.le_of_ble_eq_true rfl, Nat.le_of_ble_eq_true rfl⟩ rfl hl.1 rfl (Nat.le_of_ble_eq_true rfl) dX2_passUp_109 ⟨Nat.le_of_ble_eq_true rfl, Nat.le_of_ble_eq_true rfl⟩) hD hS hA (fun u_9 H locs hp hP hD hS => ?_)
            obtain rfl := hp.symm
            have hP : va_P D vwCl (XW ad cI cJ co fl ra (sA p_1.1 0 (wr (gA p_1.1 0) 40 ((gi fl 0) - 1 - nI i_1) ((lp (fun j now => ahead co ((rd (gA fl 2) 40 ((gi fl 0) - 1 - nI i_1)) - nI j) now) ((scanN fl ((gi fl 0) - 1 - nI i_1))) (behind fl p_1.1 ((gi fl 0) - 1 - nI i_1)))))) re wa pi) H := cgP xs23 hP
            have hD : va_D A (XW ad cI cJ co fl ra (sA p_1.1 0 (wr (gA p_1.1 0) 40 ((gi fl 0) - 1 - nI i_1) ((lp (fun j now => ahead co ((rd (gA fl 2) 40 ((gi fl 0) - 1 - nI i_1)) - nI j) now) ((scanN fl ((gi fl 0) - 1 - nI i_1))) (behind fl p_1.1 ((gi fl 0) - 1 - nI i_1)))))) re wa pi) := cgD xs23 hD
            refine lv_iinc (v := ((gi fl 0) - 1 - nI (i_1 + 1))) (lv' := [(4, .int ((gi fl 0) - 1 - nI (i_1 + 1))), (3, .int 0), (0, .ref (ad 4)), (1, .ref (ad 1)), (2, .ref (ad 2)), (5, .int ((lp (fun j now => ahead co ((rd (gA fl 2) 40 ((gi fl 0) - 1 - nI i_1)) - nI j) now) ((scanN fl ((gi fl 0) - 1 - nI i_1))) (behind fl p_1.1 ((gi fl 0) - 1 - nI i_1))))), (6, .int ((rd (gA fl 2) 40 ((gi fl 0) - 1 - nI i_1)) - nI (((scanN fl ((gi fl 0) - 1 - nI i_1))))))]) hx hb dX2_passUp_112 hl (k := 4) rfl (sub_nI1 _ i_1) (by decide) rfl (fun ls hl => ?_)
            refine lv_goto (tgt := 10) hx hb dX2_passUp_115 (by decide) ?_
            exact ih_1 ((sA p_1.1 0 (wr (gA p_1.1 0) 40 ((gi fl 0) - 1 - nI i_1) ((lp (fun j now => ahead co ((rd (gA fl 2) 40 ((gi fl 0) - 1 - nI i_1)) - nI j) now) ((scanN fl ((gi fl 0) - 1 - nI i_1))) (behind fl p_1.1 ((gi fl 0) - 1 - nI i_1)))))), false) H locs ls ⟨((show ((sA p_1.1 0 (wr (gA p_1.1 0) 40 ((gi fl 0) - 1 - nI i_1) ((lp (fun j now => ahead co ((rd (gA fl 2) 40 ((gi fl 0) - 1 - nI i_1)) - nI j) now) ((scanN fl ((gi fl 0) - 1 - nI i_1))) (behind fl p_1.1 ((gi fl 0) - 1 - nI i_1)))))), false) = (passStep co fl) i_1 p_1 from (by simp only [passStep, passB, scan, c_24, bf_of c_78, eq_true c_92, gi_sl, gi_sA, gi_sB, gi_si_s, gi_si_n, gl_si, gl_sA, gl_sB, gl_sl_s, gl_sl_n, gA_si, gA_sl, gA_sB, gA_sA_s, gA_sA_n, gB_si, gB_sl, gB_sA, gB_sB_s, gB_sB_n, Nat.reduceBEq, if_true, if_false, eq_self, Bool.false_eq_true, Bool.true_eq_false, not_true_eq_false, not_false_eq_true, decide_true, decide_false, cond_true, cond_false, Bool.true_and, Bool.false_and, Bool.and_true, Bool.and_false, Bool.true_or, Bool.false_or, Bool.or_true, Bool.or_false, b2i_tt, b2i_ff, pr_eta]; done)).trans (lp_go h_1)), hP, hD, hS, lv_sub hl [2, 3, 4, 1, 0] rfl⟩
          · refine lv_iconst (v := 1) hx hb dX2_passUp_95 (by decide) ?_
            refine lv_goto (tgt := 100) hx hb dX2_passUp_96 (by decide) ?_
            refine lv_istore_n (lv' := [(3, .int 1), (0, .ref (ad 4)), (1, .ref (ad 1)), (2, .ref (ad 2)), (4, .int ((gi fl 0) - 1 - nI i_1)), (5, .int ((lp (fun j now => ahead co ((rd (gA fl 2) 40 ((gi fl 0) - 1 - nI i_1)) - nI j) now) ((scanN fl ((gi fl 0) - 1 - nI i_1))) (behind fl p_1.1 ((gi fl 0) - 1 - nI i_1))))), (6, .int ((rd (gA fl 2) 40 ((gi fl 0) - 1 - nI i_1)) - nI (((scanN fl ((gi fl 0) - 1 - nI i_1))))))]) hx hb dX2_passUp_100 rfl hl (by decide) rfl (fun ls hl => ?_)
            refine lv_aload_n hx hb dX2_passUp_101 rfl (lv_at hl 1 rfl) ?_
            refine va_get (D := D) (ci := 2) (v := .ref (ad 23)) (C := RX2) (T := TX2) (N := 3) hx hb hg inGX2 hown hK hP 4 xo4 rfl 0 (by decide) (hg _ mw_147) (fun _ h9 => h9) xvX2_0 dX2_passUp_102 ?_
            refine lv_iload hx hb dX2_passUp_105 (lv_at hl 4 rfl) ?_
            refine lv_iload hx hb dX2_passUp_107 (lv_at hl 5 rfl) ?_
            refine kV (rSN hx hb hml hown hg hN hK hP hD (c_put l D cI cJ (XW ad cI cJ co fl ra p_1.1 re wa pi) 23 (ad 23) 40 (gA p_1.1 0) ((gi fl 0) - 1 - nI i_1) ((lp (fun j now => ahead co ((rd (gA fl 2) 40 ((gi fl 0) - 1 - nI i_1)) - nI j) now) ((scanN fl ((gi fl 0) - 1 - nI i_1))) (behind fl p_1.1 ((gi fl 0) - 1 - nI i_1)))) (xg23 rfl) (by decide)) mw_92 nw_79 mw_93 mw_77 pd_X7_put ⟨Nat.le_of_ble_eq_true rfl, Nat.le_of_ble_eq_true rfl⟩ rfl hl.1 rfl (Nat.le_of_ble_eq_true rfl) dX2_passUp_109 ⟨Nat.le_of_ble_eq_true rfl, Nat.le_of_ble_eq_true rfl⟩) hD hS hA (fun u_10 H locs hp hP hD hS => ?_)
            obtain rfl := hp.symm
            have hP : va_P D vwCl (XW ad cI cJ co fl ra (sA p_1.1 0 (wr (gA p_1.1 0) 40 ((gi fl 0) - 1 - nI i_1) ((lp (fun j now => ahead co ((rd (gA fl 2) 40 ((gi fl 0) - 1 - nI i_1)) - nI j) now) ((scanN fl ((gi fl 0) - 1 - nI i_1))) (behind fl p_1.1 ((gi fl 0) - 1 - nI i_1)))))) re wa pi) H := cgP xs23 hP
            have hD : va_D A (XW ad cI cJ co fl ra (sA p_1.1 0 (wr (gA p_1.1 0) 40 ((gi fl 0) - 1 - nI i_1) ((lp (fun j now => ahead co ((rd (gA fl 2) 40 ((gi fl 0) - 1 - nI i_1)) - nI j) now) ((scanN fl ((gi fl 0) - 1 - nI i_1))) (behind fl p_1.1 ((gi fl 0) - 1 - nI i_1)))))) re wa pi) := cgD xs23 hD
            refine lv_iinc (v := ((gi fl 0) - 1 - nI (i_1 + 1))) (lv' := [(4, .int ((gi fl 0) - 1 - nI (i_1 + 1))), (3, .int 1), (0, .ref (ad 4)), (1, .ref (ad 1)), (2, .ref (ad 2)), (5, .int ((lp (fun j now => ahead co ((rd (gA fl 2) 40 ((gi fl 0) - 1 - nI i_1)) - nI j) now) ((scanN fl ((gi fl 0) - 1 - nI i_1))) (behind fl p_1.1 ((gi fl 0) - 1 - nI i_1))))), (6, .int ((rd (gA fl 2) 40 ((gi fl 0) - 1 - nI i_1)) - nI (((scanN fl ((gi fl 0) - 1 - nI i_1))))))]) hx hb dX2_passUp_112 hl (k := 4) rfl (sub_nI1 _ i_1) (by decide) rfl (fun ls hl => ?_)
            refine lv_goto (tgt := 10) hx hb dX2_passUp_115 (by decide) ?_
            exact ih_1 ((sA p_1.1 0 (wr (gA p_1.1 0) 40 ((gi fl 0) - 1 - nI i_1) ((lp (fun j now => ahead co ((rd (gA fl 2) 40 ((gi fl 0) - 1 - nI i_1)) - nI j) now) ((scanN fl ((gi fl 0) - 1 - nI i_1))) (behind fl p_1.1 ((gi fl 0) - 1 - nI i_1)))))), true) H locs ls ⟨((show ((sA p_1.1 0 (wr (gA p_1.1 0) 40 ((gi fl 0) - 1 - nI i_1) ((lp (fun j now => ahead co ((rd (gA fl 2) 40 ((gi fl 0) - 1 - nI i_1)) - nI j) now) ((scanN fl ((gi fl 0) - 1 - nI i_1))) (behind fl p_1.1 ((gi fl 0) - 1 - nI i_1)))))), true) = (passStep co fl) i_1 p_1 from (by simp only [passStep, passB, scan, c_24, bf_of c_78, eq_false c_92, gi_sl, gi_sA, gi_sB, gi_si_s, gi_si_n, gl_si, gl_sA, gl_sB, gl_sl_s, gl_sl_n, gA_si, gA_sl, gA_sB, gA_sA_s, gA_sA_n, gB_si, gB_sl, gB_sA, gB_sB_s, gB_sB_n, Nat.reduceBEq, if_true, if_false, eq_self, Bool.false_eq_true, Bool.true_eq_false, not_true_eq_false, not_false_eq_true, decide_true, decide_false, cond_true, cond_false, Bool.true_and, Bool.false_and, Bool.and_true, Bool.and_false, Bool.true_or, Bool.false_or, Bool.or_true, Bool.or_false, b2i_tt, b2i_ff, pr_eta]; done)).trans (lp_go h_1)), hP, hD, hS, lv_sub hl [2, 3, 4, 1, 0] rfl⟩
      · obtain ⟨h_5, hP, hD, hS, hl⟩ := hI
        have hP : va_P D vwCl (XW ad cI cJ co fl ra p_1.1 re wa pi) H := hP
        have hD : va_D A (XW ad cI cJ co fl ra p_1.1 re wa pi) := hD
        have hl : lv_has ls 7 [(0, .ref (ad 4)), (1, .ref (ad 1)), (2, .ref (ad 2)), (3, .int (b2i p_1.2)), (4, .int ((gi fl 0) - 1 - nI i_1)), (5, .int p_5), (6, .int ((rd (gA fl 2) 40 ((gi fl 0) - 1 - nI i_1)) - nI i_5))] := hl
        refine lv_iload hx hb dX2_passUp_47 (lv_at hl 6 rfl) ?_
        refine lv_aload_n hx hb dX2_passUp_49 rfl (lv_at hl 2 rfl) ?_
        refine va_getN (D := D) (ci := 1) (v := .ref (ad 13)) (C := RX1) (T := TX1) (N := 11) hx hb hg inGX1 hown hK hP 2 xo2 rfl 1 (by decide) (hN.use nw_13) (fun _ h9 => h9) xvX1_1 dX2_passUp_50 ?_
        refine lv_iload hx hb dX2_passUp_53 (lv_at hl 4 rfl) ?_
        refine kI (rSN hx hb hml hown hg hN hK hP hD (c_at l D cI cJ (XW ad cI cJ co fl ra p_1.1 re wa pi) 13 (ad 13) 40 (gA fl 1) ((gi fl 0) - 1 - nI i_1) (xg13 rfl) (by decide)) mw_84 nw_82 mw_85 mw_77 pd_X7_at ⟨Nat.le_of_ble_eq_true rfl, Nat.le_of_ble_eq_true rfl⟩ rfl hl.1 rfl (Nat.le_of_ble_eq_true rfl) dX2_passUp_55 ⟨Nat.le_of_ble_eq_true rfl, Nat.le_of_ble_eq_true rfl⟩) hD hS hA (fun r_11 u_11 H locs hp hP hD hS => ?_)
        obtain ⟨er, eu⟩ := hp
        obtain rfl := er.symm
        obtain rfl := eu.symm
        refine lv_icmp_lt (tgt := 77) hx hb dX2_passUp_58 (by decide) (fun c_58 => absurd c_58 (sc_in (FlowLo.at hlo hi_1) hi_5)) (fun _ => ?_)
        refine lv_aload_n hx hb dX2_passUp_61 rfl (lv_at hl 1 rfl) ?_
        refine lv_iload hx hb dX2_passUp_62 (lv_at hl 6 rfl) ?_
        refine lv_iload hx hb dX2_passUp_64 (lv_at hl 5 rfl) ?_
        refine kI (rS hx hb hml hown hg hN hK hP hD (c_ahead l D cI cJ ad co fl ra p_1.1 re wa pi ((rd (gA fl 2) 40 ((gi fl 0) - 1 - nI i_1)) - nI i_5) p_5) mw_153 mw_154 mw_155 mw_152 pd_X2_ahead ⟨Nat.le_of_ble_eq_true rfl, Nat.le_of_ble_eq_true rfl⟩ rfl hl.1 rfl (Nat.le_of_ble_eq_true rfl) dX2_passUp_66 ⟨Nat.le_of_ble_eq_true rfl, Nat.le_of_ble_eq_true rfl⟩) hD hS hA (fun r_12 u_12 H locs hp hP hD hS => ?_)
        obtain ⟨er, eu⟩ := hp
        obtain rfl := er.symm
        obtain rfl := eu.symm
        refine lv_istore (lv' := [(5, .int (ahead co ((rd (gA fl 2) 40 ((gi fl 0) - 1 - nI i_1)) - nI i_5) p_5)), (0, .ref (ad 4)), (1, .ref (ad 1)), (2, .ref (ad 2)), (3, .int (b2i p_1.2)), (4, .int ((gi fl 0) - 1 - nI i_1)), (6, .int ((rd (gA fl 2) 40 ((gi fl 0) - 1 - nI i_1)) - nI i_5))]) hx hb dX2_passUp_69 hl (by decide) rfl (fun ls hl => ?_)
        refine lv_iinc (v := ((rd (gA fl 2) 40 ((gi fl 0) - 1 - nI i_1)) - nI (i_5 + 1))) (lv' := [(6, .int ((rd (gA fl 2) 40 ((gi fl 0) - 1 - nI i_1)) - nI (i_5 + 1))), (5, .int (ahead co ((rd (gA fl 2) 40 ((gi fl 0) - 1 - nI i_1)) - nI i_5) p_5)), (0, .ref (ad 4)), (1, .ref (ad 1)), (2, .ref (ad 2)), (3, .int (b2i p_1.2)), (4, .int ((gi fl 0) - 1 - nI i_1))]) hx hb dX2_passUp_71 hl (k := 6) rfl (sub_nI1 _ i_5) (by decide) rfl (fun ls hl => ?_)
        refine lv_goto (tgt := 47) hx hb dX2_passUp_74 (by decide) ?_
        exact ih_5 (ahead co ((rd (gA fl 2) 40 ((gi fl 0) - 1 - nI i_1)) - nI i_5) p_5) H locs ls ⟨((show (ahead co ((rd (gA fl 2) 40 ((gi fl 0) - 1 - nI i_1)) - nI i_5) p_5) = (fun j now => ahead co ((rd (gA fl 2) 40 ((gi fl 0) - 1 - nI i_1)) - nI j) now) i_5 p_5 from (by simp only [c_24, gi_sl, gi_sA, gi_sB, gi_si_s, gi_si_n, gl_si, gl_sA, gl_sB, gl_sl_s, gl_sl_n, gA_si, gA_sl, gA_sB, gA_sA_s, gA_sA_n, gB_si, gB_sl, gB_sA, gB_sB_s, gB_sB_n, Nat.reduceBEq, if_true, if_false, eq_self, Bool.false_eq_true, Bool.true_eq_false, not_true_eq_false, not_false_eq_true, decide_true, decide_false, cond_true, cond_false, Bool.true_and, Bool.false_and, Bool.and_true, Bool.and_false, Bool.true_or, Bool.false_or, Bool.or_true, Bool.or_false, b2i_tt, b2i_ff, pr_eta]; done)).trans (lp_go h_5)), hP, hD, hS, lv_sub hl [2, 3, 4, 5, 6, 1, 0] rfl⟩
