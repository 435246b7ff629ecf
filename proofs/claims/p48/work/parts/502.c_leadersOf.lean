theorem dX1_leadersOf_0 : decode cX1_leadersOf 0 = .ok (.lconst 1, 1) := by decide +kernel
theorem dX1_leadersOf_1 : decode cX1_leadersOf 1 = .ok (.lstore_n 1, 1) := by decide +kernel
theorem dX1_leadersOf_2 : decode cX1_leadersOf 2 = .ok (.iconst 0, 1) := by decide +kernel
theorem dX1_leadersOf_3 : decode cX1_leadersOf 3 = .ok (.istore_n 3, 1) := by decide +kernel
theorem dX1_leadersOf_4 : decode cX1_leadersOf 4 = .ok (.iload_n 3, 1) := by decide +kernel
theorem dX1_leadersOf_5 : decode cX1_leadersOf 5 = .ok (.aload_n 0, 1) := by decide +kernel
theorem dX1_leadersOf_6 : decode cX1_leadersOf 6 = .ok (.getfield 34, 3) := by decide +kernel
theorem dX1_leadersOf_9 : decode cX1_leadersOf 9 = .ok (.if_icmp .ge 55, 3) := by decide +kernel
theorem dX1_leadersOf_12 : decode cX1_leadersOf 12 = .ok (.aload_n 0, 1) := by decide +kernel
theorem dX1_leadersOf_13 : decode cX1_leadersOf 13 = .ok (.getfield 77, 3) := by decide +kernel
theorem dX1_leadersOf_16 : decode cX1_leadersOf 16 = .ok (.iload_n 3, 1) := by decide +kernel
theorem dX1_leadersOf_17 : decode cX1_leadersOf 17 = .ok (.invokestatic 80, 3) := by decide +kernel
theorem dX1_leadersOf_20 : decode cX1_leadersOf 20 = .ok (.istore 4, 2) := by decide +kernel
theorem dX1_leadersOf_22 : decode cX1_leadersOf 22 = .ok (.iload 4, 2) := by decide +kernel
theorem dX1_leadersOf_24 : decode cX1_leadersOf 24 = .ok (.ifCond .eq 12, 3) := by decide +kernel
theorem dX1_leadersOf_27 : decode cX1_leadersOf 27 = .ok (.lload_n 1, 1) := by decide +kernel
theorem dX1_leadersOf_28 : decode cX1_leadersOf 28 = .ok (.iload_n 3, 1) := by decide +kernel
theorem dX1_leadersOf_29 : decode cX1_leadersOf 29 = .ok (.iconst 1, 1) := by decide +kernel
theorem dX1_leadersOf_30 : decode cX1_leadersOf 30 = .ok (.iadd, 1) := by decide +kernel
theorem dX1_leadersOf_31 : decode cX1_leadersOf 31 = .ok (.invokestatic 65, 3) := by decide +kernel
theorem dX1_leadersOf_34 : decode cX1_leadersOf 34 = .ok (.lor, 1) := by decide +kernel
theorem dX1_leadersOf_35 : decode cX1_leadersOf 35 = .ok (.lstore_n 1, 1) := by decide +kernel
theorem dX1_leadersOf_36 : decode cX1_leadersOf 36 = .ok (.iload 4, 2) := by decide +kernel
theorem dX1_leadersOf_38 : decode cX1_leadersOf 38 = .ok (.invokestatic 84, 3) := by decide +kernel
theorem dX1_leadersOf_41 : decode cX1_leadersOf 41 = .ok (.ifCond .eq 17, 3) := by decide +kernel
theorem dX1_leadersOf_44 : decode cX1_leadersOf 44 = .ok (.lload_n 1, 1) := by decide +kernel
theorem dX1_leadersOf_45 : decode cX1_leadersOf 45 = .ok (.aload_n 0, 1) := by decide +kernel
theorem dX1_leadersOf_46 : decode cX1_leadersOf 46 = .ok (.getfield 88, 3) := by decide +kernel
theorem dX1_leadersOf_49 : decode cX1_leadersOf 49 = .ok (.iload_n 3, 1) := by decide +kernel
theorem dX1_leadersOf_50 : decode cX1_leadersOf 50 = .ok (.invokestatic 80, 3) := by decide +kernel
theorem dX1_leadersOf_53 : decode cX1_leadersOf 53 = .ok (.invokestatic 65, 3) := by decide +kernel
theorem dX1_leadersOf_56 : decode cX1_leadersOf 56 = .ok (.lor, 1) := by decide +kernel
theorem dX1_leadersOf_57 : decode cX1_leadersOf 57 = .ok (.lstore_n 1, 1) := by decide +kernel
theorem dX1_leadersOf_58 : decode cX1_leadersOf 58 = .ok (.iinc 3 1, 3) := by decide +kernel
theorem dX1_leadersOf_61 : decode cX1_leadersOf 61 = .ok (.goto (-57), 3) := by decide +kernel
theorem dX1_leadersOf_64 : decode cX1_leadersOf 64 = .ok (.lload_n 1, 1) := by decide +kernel
theorem dX1_leadersOf_65 : decode cX1_leadersOf 65 = .ok (.lreturn, 1) := by decide +kernel
theorem mw_84 : Cond.code yX7_at cX7_at 2 (some Jvm.ClassFile.FieldType.int) ∈ GW := gw_mem (inT2 _ (List.mem_of_getElem? (i := 106) rfl)) rfl
theorem mw_85 : Cond.static yX7_at ∈ GW := gw_mem (inT2 _ (List.mem_of_getElem? (i := 105) rfl)) rfl
theorem mw_86 : Cond.code yX7_jumps cX7_jumps 1 (some Jvm.ClassFile.FieldType.boolean) ∈ GW := gw_mem (inT2 _ (List.mem_of_getElem? (i := 112) rfl)) rfl
theorem mw_87 : Cond.static yX7_jumps ∈ GW := gw_mem (inT2 _ (List.mem_of_getElem? (i := 111) rfl)) rfl
theorem pd_X7_at : yX7_at.cls ≠ "java/lang/invoke/MethodHandle" ∧ yX7_at.cls ≠ "java/lang/invoke/VarHandle" ∧ (parseMethodDescriptor yX7_at.desc).map (fun d => d.parameters.length) = some 2 := by decide +kernel
theorem pd_X7_jumps : yX7_jumps.cls ≠ "java/lang/invoke/MethodHandle" ∧ yX7_jumps.cls ≠ "java/lang/invoke/VarHandle" ∧ (parseMethodDescriptor yX7_jumps.desc).map (fun d => d.parameters.length) = some 1 := by decide +kernel
set_option maxHeartbeats 4000000 in
set_option maxRecDepth 100000 in
theorem c_leadersOf (l : Launch) (D : va_G) (cI cJ : ClassId) (ad : Nat → Nat) (co fl ra li re wa pi : Ob) : CT l D (TY cI cJ) yX1_leadersOf (.code yX1_leadersOf cX1_leadersOf 5 (some Jvm.ClassFile.FieldType.long)) 1 0 0 (XW ad cI cJ co fl ra li re wa pi) [.ref (ad 1)] (QL D (TY cI cJ) (fun r u => r = (leaders co) ∧ u = (XW ad cI cJ co fl ra li re wa pi))) := by
  refine ent (by decide) (Nat.le_of_ble_eq_true rfl) ?_
  intro p e s m below meth c ls A hx hb hr hg hown hml hlocks hnm hP hK hD hS hA hN hl
  have hl : lv_has ls 5 [(0, .ref (ad 1))] := hl
  refine lv_lconst (v := 1) hx hb dX1_leadersOf_0 (by decide) ?_
  refine lv_lstore_n (lv' := [(1, .long 1), (0, .ref (ad 1))]) hx hb dX1_leadersOf_1 rfl hl (by decide) rfl (fun ls hl => ?_)
  refine lv_iconst (v := 0) hx hb dX1_leadersOf_2 (by decide) ?_
  refine lv_istore_n (lv' := [(3, .int 0), (1, .long 1), (0, .ref (ad 1))]) hx hb dX1_leadersOf_3 rfl hl (by decide) rfl (fun ls hl => ?_)
  refine w_loop (σ := Int64) (fun (i_1 : Nat) (p_1 : Int64) (H : Heap) (locs : List Loc) (ls : Array Slot) => p_1 = (lp (leadStep co) i_1 1) ∧ va_P D vwCl (XW ad cI cJ co fl ra li re wa pi) H ∧ va_D A (XW ad cI cJ co fl ra li re wa pi) ∧ va_S A s.heap H locs ∧ lv_has ls 5 [(0, .ref (ad 1)), (1, .long p_1), (3, .int (nI i_1))]) (nN (gi co 0)) (fun p_1 H locs ls hI => ?_) (fun i_1 p_1 H locs ls hi_1 hI ih_1 => ?_) 0 1 (Nat.zero_le _) ⟨(lp_0 _ _), hP, hD, hS, (by rw [nI_0]; exact lv_sub hl [2, 1, 0] rfl)⟩
  · obtain ⟨h_1, hP, hD, hS, hl⟩ := hI
    have h_1 := h_1.symm
    subst h_1
    have hP : va_P D vwCl (XW ad cI cJ co fl ra li re wa pi) H := hP
    have hD : va_D A (XW ad cI cJ co fl ra li re wa pi) := hD
    have hl : lv_has ls 5 [(0, .ref (ad 1)), (1, .long ((lp (leadStep co) (nN (gi co 0)) 1))), (3, .int (nI ((nN (gi co 0)))))] := hl
    refine lv_iload_n hx hb dX1_leadersOf_4 rfl (lv_at hl 2 rfl) ?_
    refine lv_aload_n hx hb dX1_leadersOf_5 rfl (lv_at hl 0 rfl) ?_
    refine va_getN (D := D) (ci := 0) (v := .int (gi co 0)) (C := RX0) (T := TX0) (N := 5) hx hb hg inGX0 hown hK hP 1 xo1 rfl 4 (by decide) (hN.use nw_9) (fun _ h9 => h9) (xvX0_4 rfl) dX1_leadersOf_6 ?_
    refine lv_icmp_ge (tgt := 64) hx hb dX1_leadersOf_9 (by decide) (fun _ => ?_) (fun c_9 => absurd (lp_out _) c_9)
    refine lv_lload_n hx hb dX1_leadersOf_64 rfl (lv_at hl 1 rfl) ?_
    exact W.lret (v := ((lp (leadStep co) (nN (gi co 0)) 1))) hx hb hr (fun t ht hW => ⟨⟨((lp (leadStep co) (nN (gi co 0)) 1)), (XW ad cI cJ co fl ra li re wa pi), rfl, ⟨(show (((lp (leadStep co) (nN (gi co 0)) 1)) : Int64) = (leaders co) from (by first | with_reducible rfl | (simp only [leaders, gi_sl, gi_sA, gi_sB, gi_si_s, gi_si_n, gl_si, gl_sA, gl_sB, gl_sl_s, gl_sl_n, gA_si, gA_sl, gA_sB, gA_sA_s, gA_sA_n, gB_si, gB_sl, gB_sA, gB_sB_s, gB_sB_n, Nat.reduceBEq, if_true, if_false, eq_self, Bool.false_eq_true, Bool.true_eq_false, not_true_eq_false, not_false_eq_true, decide_true, decide_false, cond_true, cond_false, Bool.true_and, Bool.false_and, Bool.and_true, Bool.and_false, Bool.true_or, Bool.false_or, Bool.or_true, Bool.or_false, b2i_tt, b2i_ff, pr_eta]; done))), xw_eq rfl rfl rfl rfl rfl rfl rfl⟩, ⟨by rw [ht]; exact hP, va_K.moved hW.alike hK, hD⟩⟩, hS.F ht⟩) hS.2.2 dX1_leadersOf_65
  · obtain ⟨h_1, hP, hD, hS, hl⟩ := hI
    have hP : va_P D vwCl (XW ad cI cJ co fl ra li re wa pi) H := hP
    have hD : va_D A (XW ad cI cJ co fl ra li re wa pi) := hD
    have hl : lv_has ls 5 [(0, .ref (ad 1)), (1, .long p_1), (3, .int (nI i_1))] := hl
    refine lv_iload_n hx hb dX1_leadersOf_4 rfl (lv_at hl 2 rfl) ?_
    refine lv_aload_n hx hb dX1_leadersOf_5 rfl (lv_at hl 0 rfl) ?_
    refine va_getN (D := D) (ci := 0) (v := .int (gi co 0)) (C := RX0) (T := TX0) (N := 5) hx hb hg inGX0 hown hK hP 1 xo1 rfl 4 (by decide) (hN.use nw_9) (fun _ h9 => h9) (xvX0_4 rfl) dX1_leadersOf_6 ?_
    refine lv_icmp_ge (tgt := 64) hx hb dX1_leadersOf_9 (by decide) (fun c_9 => absurd c_9 (lp_in hi_1)) (fun _ => ?_)
    refine lv_aload_n hx hb dX1_leadersOf_12 rfl (lv_at hl 0 rfl) ?_
    refine va_getN (D := D) (ci := 0) (v := .ref (ad 8)) (C := RX0) (T := TX0) (N := 5) hx hb hg inGX0 hown hK hP 1 xo1 rfl 0 (by decide) (hN.use nw_1) (fun _ h9 => h9) xvX0_0 dX1_leadersOf_13 ?_
    refine lv_iload_n hx hb dX1_leadersOf_16 rfl (lv_at hl 2 rfl) ?_
    refine kI (rSN hx hb hml hown hg hN hK hP hD (c_at l D cI cJ (XW ad cI cJ co fl ra li re wa pi) 8 (ad 8) 40 (gA co 0) (nI i_1) (xg8 rfl) (by decide)) mw_84 nw_65 mw_85 mw_77 pd_X7_at ⟨Nat.le_of_ble_eq_true rfl, Nat.le_of_ble_eq_true rfl⟩ rfl hl.1 rfl (Nat.le_of_ble_eq_true rfl) dX1_leadersOf_17 ⟨Nat.le_of_ble_eq_true rfl, Nat.le_of_ble_eq_true rfl⟩) hD hS hA (fun r_2 u_2 H locs hp hP hD hS => ?_)
    obtain ⟨er, eu⟩ := hp
    obtain rfl := er.symm
    obtain rfl := eu.symm
    refine lv_istore (lv' := [(4, .int (rd (gA co 0) 40 (nI i_1))), (0, .ref (ad 1)), (1, .long p_1), (3, .int (nI i_1))]) hx hb dX1_leadersOf_20 hl (by decide) rfl (fun ls hl => ?_)
    refine lv_iload hx hb dX1_leadersOf_22 (lv_at hl 0 rfl) ?_
    refine lv_if_eq (tgt := 36) hx hb dX1_leadersOf_24 (by decide) (fun c_24 => ?_) (fun c_24 => ?_)
    · refine lv_iload hx hb dX1_leadersOf_36 (lv_at hl 0 rfl) ?_
      refine kI (rSN hx hb hml hown hg hN hK hP hD (c_jumps l D cI cJ (XW ad cI cJ co fl ra li re wa pi) (rd (gA co 0) 40 (nI i_1))) mw_86 nw_67 mw_87 mw_77 pd_X7_jumps ⟨Nat.le_of_ble_eq_true rfl, Nat.le_of_ble_eq_true rfl⟩ rfl hl.1 rfl (Nat.le_of_ble_eq_true rfl) dX1_leadersOf_38 ⟨Nat.le_of_ble_eq_true rfl, Nat.le_of_ble_eq_true rfl⟩) hD hS hA (fun r_3 u_3 H locs hp hP hD hS => ?_)
      obtain ⟨er, eu⟩ := hp
      obtain rfl := er.symm
      obtain rfl := eu.symm
      refine lv_if_eq (tgt := 58) hx hb dX1_leadersOf_41 (by decide) (fun c_41 => ?_) (fun c_41 => ?_)
      · have c_41 : ¬ (jmp (rd (gA co 0) 40 (nI i_1))) = true := b2i_0 c_41
        refine lv_iinc (v := (nI (i_1 + 1))) (lv' := [(3, .int (nI (i_1 + 1))), (4, .int (rd (gA co 0) 40 (nI i_1))), (0, .ref (ad 1)), (1, .long p_1)]) hx hb dX1_leadersOf_58 hl (k := 3) rfl (nI_1 i_1) (by decide) rfl (fun ls hl => ?_)
        refine lv_goto (tgt := 4) hx hb dX1_leadersOf_61 (by decide) ?_
        exact ih_1 p_1 H locs ls ⟨((show p_1 = (leadStep co) i_1 p_1 from (by simp only [leadStep, leadA, eq_true c_24, bf_of c_41, gi_sl, gi_sA, gi_sB, gi_si_s, gi_si_n, gl_si, gl_sA, gl_sB, gl_sl_s, gl_sl_n, gA_si, gA_sl, gA_sB, gA_sA_s, gA_sA_n, gB_si, gB_sl, gB_sA, gB_sB_s, gB_sB_n, Nat.reduceBEq, if_true, if_false, eq_self, Bool.false_eq_true, Bool.true_eq_false, not_true_eq_false, not_false_eq_true, decide_true, decide_false, cond_true, cond_false, Bool.true_and, Bool.false_and, Bool.and_true, Bool.and_false, Bool.true_or, Bool.false_or, Bool.or_true, Bool.or_false, b2i_tt, b2i_ff, pr_eta]; done)).trans (lp_go h_1)), hP, hD, hS, lv_sub hl [2, 3, 0] rfl⟩
      · have c_41 : (jmp (rd (gA co 0) 40 (nI i_1))) = true := b2i_1 c_41
        refine lv_lload_n hx hb dX1_leadersOf_44 rfl (lv_at hl 2 rfl) ?_
        refine lv_aload_n hx hb dX1_leadersOf_45 rfl (lv_at hl 1 rfl) ?_
        refine va_getN (D := D) (ci := 0) (v := .ref (ad 9)) (C := RX0) (T := TX0) (N := 5) hx hb hg inGX0 hown hK hP 1 xo1 rfl 1 (by decide) (hN.use nw_3) (fun _ h9 => h9) xvX0_1 dX1_leadersOf_46 ?_
        refine lv_iload_n hx hb dX1_leadersOf_49 rfl (lv_at hl 3 rfl) ?_
        refine kI (rSN hx hb hml hown hg hN hK hP hD (c_at l D cI cJ (XW ad cI cJ co fl ra li re wa pi) 9 (ad 9) 40 (gA co 1) (nI i_1) (xg9 rfl) (by decide)) mw_84 nw_65 mw_85 mw_77 pd_X7_at ⟨Nat.le_of_ble_eq_true rfl, Nat.le_of_ble_eq_true rfl⟩ rfl hl.1 rfl (Nat.le_of_ble_eq_true rfl) dX1_leadersOf_50 ⟨Nat.le_of_ble_eq_true rfl, Nat.le_of_ble_eq_true rfl⟩) hD hS hA (fun r_4 u_4 H locs hp hP hD hS => ?_)
        obtain ⟨er, eu⟩ := hp
        obtain rfl := er.symm
        obtain rfl := eu.symm
        refine kL (rSN hx hb hml hown hg hN hK hP hD (c_bit l D cI cJ (XW ad cI cJ co fl ra li re wa pi) (rd (gA co 1) 40 (nI i_1))) mw_78 nw_66 mw_80 mw_77 pd_X7_bit ⟨Nat.le_of_ble_eq_true rfl, Nat.le_of_ble_eq_true rfl⟩ rfl hl.1 rfl (Nat.le_of_ble_eq_true rfl) dX1_leadersOf_53 ⟨Nat.le_of_ble_eq_true rfl, Nat.le_of_ble_eq_true rfl⟩) hD hS hA (fun r_5 u_5 H locs hp hP hD hS => ?_)
        obtain ⟨er, eu⟩ := hp
        obtain rfl := er.symm
        obtain rfl := eu.symm
        refine lv_lor hx hb dX1_leadersOf_56 ?_
        refine lv_lstore_n (lv' := [(1, .long (p_1 ||| (bitL (rd (gA co 1) 40 (nI i_1))))), (4, .int (rd (gA co 0) 40 (nI i_1))), (0, .ref (ad 1)), (3, .int (nI i_1))]) hx hb dX1_leadersOf_57 rfl hl (by decide) rfl (fun ls hl => ?_)
        refine lv_iinc (v := (nI (i_1 + 1))) (lv' := [(3, .int (nI (i_1 + 1))), (1, .long (p_1 ||| (bitL (rd (gA co 1) 40 (nI i_1))))), (4, .int (rd (gA co 0) 40 (nI i_1))), (0, .ref (ad 1))]) hx hb dX1_leadersOf_58 hl (k := 3) rfl (nI_1 i_1) (by decide) rfl (fun ls hl => ?_)
        refine lv_goto (tgt := 4) hx hb dX1_leadersOf_61 (by decide) ?_
        exact ih_1 (p_1 ||| (bitL (rd (gA co 1) 40 (nI i_1)))) H locs ls ⟨((show (p_1 ||| (bitL (rd (gA co 1) 40 (nI i_1)))) = (leadStep co) i_1 p_1 from (by simp only [leadStep, leadA, eq_true c_24, c_41, gi_sl, gi_sA, gi_sB, gi_si_s, gi_si_n, gl_si, gl_sA, gl_sB, gl_sl_s, gl_sl_n, gA_si, gA_sl, gA_sB, gA_sA_s, gA_sA_n, gB_si, gB_sl, gB_sA, gB_sB_s, gB_sB_n, Nat.reduceBEq, if_true, if_false, eq_self, Bool.false_eq_true, Bool.true_eq_false, not_true_eq_false, not_false_eq_true, decide_true, decide_false, cond_true, cond_false, Bool.true_and, Bool.false_and, Bool.and_true, Bool.and_false, Bool.true_or, Bool.false_or, Bool.or_true, Bool.or_false, b2i_tt, b2i_ff, pr_eta]; done)).trans (lp_go h_1)), hP, hD, hS, lv_sub hl [3, 1, 0] rfl⟩
    · refine lv_lload_n hx hb dX1_leadersOf_27 rfl (lv_at hl 2 rfl) ?_
      refine lv_iload_n hx hb dX1_leadersOf_28 rfl (lv_at hl 3 rfl) ?_
      refine lv_iconst (v := 1) hx hb dX1_leadersOf_29 (by decide) ?_
      refine lv_iadd hx hb dX1_leadersOf_30 ?_
      refine kL (rSN hx hb hml hown hg hN hK hP hD (c_bit l D cI cJ (XW ad cI cJ co fl ra li re wa pi) ((nI i_1) + 1)) mw_78 nw_66 mw_80 mw_77 pd_X7_bit ⟨Nat.le_of_ble_eq_true rfl, Nat.le_of_ble_eq_true rfl⟩ rfl hl.1 rfl (Nat.le_of_ble_eq_true rfl) dX1_leadersOf_31 ⟨Nat.le_of_ble_eq_true rfl, Nat.le_of_ble_eq_true rfl⟩) hD hS hA (fun r_6 u_6 H locs hp hP hD hS => ?_)
      obtain ⟨er, eu⟩ := hp
      obtain rfl := er.symm
      obtain rfl := eu.symm
      refine lv_lor hx hb dX1_leadersOf_34 ?_
      refine lv_lstore_n (lv' := [(1, .long (p_1 ||| (bitL ((nI i_1) + 1)))), (4, .int (rd (gA co 0) 40 (nI i_1))), (0, .ref (ad 1)), (3, .int (nI i_1))]) hx hb dX1_leadersOf_35 rfl hl (by decide) rfl (fun ls hl => ?_)
      refine lv_iload hx hb dX1_leadersOf_36 (lv_at hl 1 rfl) ?_
      refine kI (rSN hx hb hml hown hg hN hK hP hD (c_jumps l D cI cJ (XW ad cI cJ co fl ra li re wa pi) (rd (gA co 0) 40 (nI i_1))) mw_86 nw_67 mw_87 mw_77 pd_X7_jumps ⟨Nat.le_of_ble_eq_true rfl, Nat.le_of_ble_eq_true rfl⟩ rfl hl.1 rfl (Nat.le_of_ble_eq_true rfl) dX1_leadersOf_38 ⟨Nat.le_of_ble_eq_true rfl, Nat.le_of_ble_eq_true rfl⟩) hD hS hA (fun r_7 u_7 H locs hp hP hD hS => ?_)
      obtain ⟨er, eu⟩ := hp
      obtain rfl := er.symm
      obtain rfl := eu.symm
      refine lv_if_eq (tgt := 58) hx hb dX1_leadersOf_41 (by decide) (fun c_41 => ?_) (fun c_41 => ?_)
      · have c_41 : ¬ (jmp (rd (gA co 0) 40 (nI i_1))) = true := b2i_0 c_41
        refine lv_iinc (v := (nI (i_1 + 1))) (lv' := [(3, .int (nI (i_1 + 1))), (1, .long (p_1 ||| (bitL ((nI i_1) + 1)))), (4, .int (rd (gA co 0) 40 (nI i_1))), (0, .ref (ad 1))]) hx hb dX1_leadersOf_58 hl (k := 3) rfl (nI_1 i_1) (by decide) rfl (fun ls hl => ?_)
        refine lv_goto (tgt := 4) hx hb dX1_leadersOf_61 (by decide) ?_
        exact ih_1 (p_1 ||| (bitL ((nI i_1) + 1))) H locs ls ⟨((show (p_1 ||| (bitL ((nI i_1) + 1))) = (leadStep co) i_1 p_1 from (by simp only [leadStep, leadA, eq_false c_24, bf_of c_41, gi_sl, gi_sA, gi_sB, gi_si_s, gi_si_n, gl_si, gl_sA, gl_sB, gl_sl_s, gl_sl_n, gA_si, gA_sl, gA_sB, gA_sA_s, gA_sA_n, gB_si, gB_sl, gB_sA, gB_sB_s, gB_sB_n, Nat.reduceBEq, if_true, if_false, eq_self, Bool.false_eq_true, Bool.true_eq_false, not_true_eq_false, not_false_eq_true, decide_true, decide_false, cond_true, cond_false, Bool.true_and, Bool.false_and, Bool.and_true, Bool.and_false, Bool.true_or, Bool.false_or, Bool.or_true, Bool.or_false, b2i_tt, b2i_ff, pr_eta]; done)).trans (lp_go h_1)), hP, hD, hS, lv_sub hl [3, 1, 0] rfl⟩
      · have c_41 : (jmp (rd (gA co 0) 40 (nI i_1))) = true := b2i_1 c_41
        refine lv_lload_n hx hb dX1_leadersOf_44 rfl (lv_at hl 0 rfl) ?_
        refine lv_aload_n hx hb dX1_leadersOf_45 rfl (lv_at hl 2 rfl) ?_
        refine va_getN (D := D) (ci := 0) (v := .ref (ad 9)) (C := RX0) (T := TX0) (N := 5) hx hb hg inGX0 hown hK hP 1 xo1 rfl 1 (by decide) (hN.use nw_3) (fun _ h9 => h9) xvX0_1 dX1_leadersOf_46 ?_
        refine lv_iload_n hx hb dX1_leadersOf_49 rfl (lv_at hl 3 rfl) ?_
        refine kI (rSN hx hb hml hown hg hN hK hP hD (c_at l D cI cJ (XW ad cI cJ co fl ra li re wa pi) 9 (ad 9) 40 (gA co 1) (nI i_1) (xg9 rfl) (by decide)) mw_84 nw_65 mw_85 mw_77 pd_X7_at ⟨Nat.le_of_ble_eq_true rfl, Nat.le_of_ble_eq_true rfl⟩ rfl hl.1 rfl (Nat.le_of_ble_eq_true rfl) dX1_leadersOf_50 ⟨Nat.le_of_ble_eq_true rfl, Nat.le_of_ble_eq_true rfl⟩) hD hS hA (fun r_8 u_8 H locs hp hP hD hS => ?_)
        obtain ⟨er, eu⟩ := hp
        obtain rfl := er.symm
        obtain rfl := eu.symm
        refine kL (rSN hx hb hml hown hg hN hK hP hD (c_bit l D cI cJ (XW ad cI cJ co fl ra li re wa pi) (rd (gA co 1) 40 (nI i_1))) mw_78 nw_66 mw_80 mw_77 pd_X7_bit ⟨Nat.le_of_ble_eq_true rfl, Nat.le_of_ble_eq_true rfl⟩ rfl hl.1 rfl (Nat.le_of_ble_eq_true rfl) dX1_leadersOf_53 ⟨Nat.le_of_ble_eq_true rfl, Nat.le_of_ble_eq_true rfl⟩) hD hS hA (fun r_9 u_9 H locs hp hP hD hS => ?_)
        obtain ⟨er, eu⟩ := hp
        obtain rfl := er.symm
        obtain rfl := eu.symm
        refine lv_lor hx hb dX1_leadersOf_56 ?_
        refine lv_lstore_n (lv' := [(1, .long ((p_1 ||| (bitL ((nI i_1) + 1))) ||| (bitL (rd (gA co 1) 40 (nI i_1))))), (4, .int (rd (gA co 0) 40 (nI i_1))), (0, .ref (ad 1)), (3, .int (nI i_1))]) hx hb dX1_leadersOf_57 rfl hl (by decide) rfl (fun ls hl => ?_)
        refine lv_iinc (v := (nI (i_1 + 1))) (lv' := [(3, .int (nI (i_1 + 1))), (1, .long ((p_1 ||| (bitL ((nI i_1) + 1))) ||| (bitL (rd (gA co 1) 40 (nI i_1))))), (4, .int (rd (gA co 0) 40 (nI i_1))), (0, .ref (ad 1))]) hx hb dX1_leadersOf_58 hl (k := 3) rfl (nI_1 i_1) (by decide) rfl (fun ls hl => ?_)
        refine lv_goto (tgt := 4) hx hb dX1_leadersOf_61 (by decide) ?_
        exact ih_1 ((p_1 ||| (bitL ((nI i_1) + 1))) ||| (bitL (rd (gA co 1) 40 (nI i_1)))) H locs ls ⟨((show ((p_1 ||| (bitL ((nI i_1) + 1))) ||| (bitL (rd (gA co 1) 40 (nI i_1)))) = (leadStep co) i_1 p_1 from (by simp only [leadStep, leadA, eq_false c_24, c_41, gi_sl, gi_sA, gi_sB, gi_si_s, gi_si_n, gl_si, gl_sA, gl_sB, gl_sl_s, gl_sl_n, gA_si, gA_sl, gA_sB, gA_sA_s, gA_sA_n, gB_si, gB_sl, gB_sA, gB_sB_s, gB_sB_n, Nat.reduceBEq, if_true, if_false, eq_self, Bool.false_eq_true, Bool.true_eq_false, not_true_eq_false, not_false_eq_true, decide_true, decide_false, cond_true, cond_false, Bool.true_and, Bool.false_and, Bool.and_true, Bool.and_false, Bool.true_or, Bool.false_or, Bool.or_true, Bool.or_false, b2i_tt, b2i_ff, pr_eta]; done)).trans (lp_go h_1)), hP, hD, hS, lv_sub hl [3, 1, 0] rfl⟩
