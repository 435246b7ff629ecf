theorem dX3_numberBends_0 : decode cX3_numberBends 0 = .ok (.bipush 40, 2) := by decide +kernel
theorem dX3_numberBends_2 : decode cX3_numberBends 2 = .ok (.istore_n 1, 1) := by decide +kernel
theorem dX3_numberBends_3 : decode cX3_numberBends 3 = .ok (.iconst 0, 1) := by decide +kernel
theorem dX3_numberBends_4 : decode cX3_numberBends 4 = .ok (.istore_n 2, 1) := by decide +kernel
theorem dX3_numberBends_5 : decode cX3_numberBends 5 = .ok (.iload_n 2, 1) := by decide +kernel
theorem dX3_numberBends_6 : decode cX3_numberBends 6 = .ok (.aload_n 0, 1) := by decide +kernel
theorem dX3_numberBends_7 : decode cX3_numberBends 7 = .ok (.getfield 58, 3) := by decide +kernel
theorem dX3_numberBends_10 : decode cX3_numberBends 10 = .ok (.if_icmp .ge 51, 3) := by decide +kernel
theorem dX3_numberBends_13 : decode cX3_numberBends 13 = .ok (.aload_n 0, 1) := by decide +kernel
theorem dX3_numberBends_14 : decode cX3_numberBends 14 = .ok (.getfield 25, 3) := by decide +kernel
theorem dX3_numberBends_17 : decode cX3_numberBends 17 = .ok (.iload_n 2, 1) := by decide +kernel
theorem dX3_numberBends_18 : decode cX3_numberBends 18 = .ok (.iload_n 1, 1) := by decide +kernel
theorem dX3_numberBends_19 : decode cX3_numberBends 19 = .ok (.invokestatic 75, 3) := by decide +kernel
theorem dX3_numberBends_22 : decode cX3_numberBends 22 = .ok (.aload_n 0, 1) := by decide +kernel
theorem dX3_numberBends_23 : decode cX3_numberBends 23 = .ok (.iload_n 2, 1) := by decide +kernel
theorem dX3_numberBends_24 : decode cX3_numberBends 24 = .ok (.invokevirtual 118, 3) := by decide +kernel
theorem dX3_numberBends_27 : decode cX3_numberBends 27 = .ok (.istore_n 3, 1) := by decide +kernel
theorem dX3_numberBends_28 : decode cX3_numberBends 28 = .ok (.iconst 0, 1) := by decide +kernel
theorem dX3_numberBends_29 : decode cX3_numberBends 29 = .ok (.istore 4, 2) := by decide +kernel
theorem dX3_numberBends_31 : decode cX3_numberBends 31 = .ok (.iload 4, 2) := by decide +kernel
theorem dX3_numberBends_33 : decode cX3_numberBends 33 = .ok (.iload_n 3, 1) := by decide +kernel
theorem dX3_numberBends_34 : decode cX3_numberBends 34 = .ok (.if_icmp .ge 21, 3) := by decide +kernel
theorem dX3_numberBends_37 : decode cX3_numberBends 37 = .ok (.aload_n 0, 1) := by decide +kernel
theorem dX3_numberBends_38 : decode cX3_numberBends 38 = .ok (.getfield 28, 3) := by decide +kernel
theorem dX3_numberBends_41 : decode cX3_numberBends 41 = .ok (.iload_n 1, 1) := by decide +kernel
theorem dX3_numberBends_42 : decode cX3_numberBends 42 = .ok (.iload_n 2, 1) := by decide +kernel
theorem dX3_numberBends_43 : decode cX3_numberBends 43 = .ok (.invokestatic 75, 3) := by decide +kernel
theorem dX3_numberBends_46 : decode cX3_numberBends 46 = .ok (.iinc 1 1, 3) := by decide +kernel
theorem dX3_numberBends_49 : decode cX3_numberBends 49 = .ok (.iinc 4 1, 3) := by decide +kernel
theorem dX3_numberBends_52 : decode cX3_numberBends 52 = .ok (.goto (-21), 3) := by decide +kernel
theorem dX3_numberBends_55 : decode cX3_numberBends 55 = .ok (.iinc 2 1, 3) := by decide +kernel
theorem dX3_numberBends_58 : decode cX3_numberBends 58 = .ok (.goto (-53), 3) := by decide +kernel
theorem dX3_numberBends_61 : decode cX3_numberBends 61 = .ok (.return_, 1) := by decide +kernel
theorem mw_248 : Cond.fieldLink RX3 25 "OrielChart$Picture" "firstBend" "[I" ∈ GW := gw_mem (inT2 _ (List.mem_of_getElem? (i := 18) rfl)) rfl
theorem mw_249 : Cond.code yX3_bendCount cX3_bendCount 2 (some Jvm.ClassFile.FieldType.int) ∈ GW := gw_mem (inT3 _ (List.mem_of_getElem? (i := 64) rfl)) rfl
theorem mw_250 : Cond.methodLink RX3 118 yX3_bendCount ∈ GW := gw_mem (inT3 _ (List.mem_of_getElem? (i := 61) rfl)) rfl
theorem mw_251 : Cond.instanceMethod yX3_bendCount ∈ GW := gw_mem (inT3 _ (List.mem_of_getElem? (i := 62) rfl)) rfl
theorem mw_252 : Cond.selects RX3 yX3_bendCount yX3_bendCount ∈ GW := gw_mem (inT3 _ (List.mem_of_getElem? (i := 63) rfl)) rfl
theorem mw_253 : Cond.fieldLink RX3 28 "OrielChart$Picture" "edgeOf" "[I" ∈ GW := gw_mem (inT2 _ (List.mem_of_getElem? (i := 19) rfl)) rfl
theorem pdv_X3_bendCount : yX3_bendCount.cls = RX3 ∧ yX3_bendCount.cls ≠ "java/lang/invoke/MethodHandle" ∧ yX3_bendCount.cls ≠ "java/lang/invoke/VarHandle" ∧ (parseMethodDescriptor yX3_bendCount.desc).map (fun d => d.parameters.length) = some 1 := by decide +kernel
set_option maxHeartbeats 4000000 in
set_option maxRecDepth 100000 in
theorem c_numberBends (l : Launch) (D : va_G) (cI cJ : ClassId) (ad : Nat → Nat) (co fl ra li re wa pi : Ob) : CT l D (TY cI cJ) yX3_numberBends (.code yX3_numberBends cX3_numberBends 5 (none : Option FieldType)) 3 0 0 (XW ad cI cJ co fl ra li re wa pi) [.ref (ad 6)] (QV D (TY cI cJ) (fun u => u = (XW ad cI cJ co fl ra li re wa (numberBends wa pi)))) := by
  refine ent (by decide) (Nat.le_of_ble_eq_true rfl) ?_
  intro p e s m below meth c ls A hx hb hr hg hown hml hlocks hnm hP hK hD hS hA hN hl
  have hl : lv_has ls 5 [(0, .ref (ad 6))] := hl
  refine lv_bipush (v := 40) hx hb dX3_numberBends_0 (by decide) ?_
  refine lv_istore_n (lv' := [(1, .int 40), (0, .ref (ad 6))]) hx hb dX3_numberBends_2 rfl hl (by decide) rfl (fun ls hl => ?_)
  refine lv_iconst (v := 0) hx hb dX3_numberBends_3 (by decide) ?_
  refine lv_istore_n (lv' := [(2, .int 0), (1, .int 40), (0, .ref (ad 6))]) hx hb dX3_numberBends_4 rfl hl (by decide) rfl (fun ls hl => ?_)
  refine w_loop (σ := Ob × Int32) (fun (i_1 : Nat) (p_1 : Ob × Int32) (H : Heap) (locs : List Loc) (ls : Array Slot) => p_1 = (lp (nbStep wa) i_1 (pi, 40)) ∧ va_P D vwCl (XW ad cI cJ co fl ra li re wa p_1.1) H ∧ va_D A (XW ad cI cJ co fl ra li re wa p_1.1) ∧ va_S A s.heap H locs ∧ lv_has ls 5 [(0, .ref (ad 6)), (1, .int p_1.2), (2, .int (nI i_1))]) (nN (gi pi 0)) (fun p_1 H locs ls hI => ?_) (fun i_1 p_1 H locs ls hi_1 hI ih_1 => ?_) 0 (pi, 40) (Nat.zero_le _) ⟨(lp_0 _ _), hP, hD, hS, (by rw [nI_0]; exact lv_sub hl [2, 1, 0] rfl)⟩
  · obtain ⟨h_1, hP, hD, hS, hl⟩ := hI
    have h_1 := h_1.symm
    subst h_1
    have hP : va_P D vwCl (XW ad cI cJ co fl ra li re wa ((lp (nbStep wa) (nN (gi pi 0)) (pi, 40)).1)) H := hP
    have hD : va_D A (XW ad cI cJ co fl ra li re wa ((lp (nbStep wa) (nN (gi pi 0)) (pi, 40)).1)) := hD
    have hl : lv_has ls 5 [(0, .ref (ad 6)), (1, .int ((lp (nbStep wa) (nN (gi pi 0)) (pi, 40)).2)), (2, .int (nI ((nN (gi pi 0)))))] := hl
    refine lv_iload_n hx hb dX3_numberBends_5 rfl (lv_at hl 2 rfl) ?_
    refine lv_aload_n hx hb dX3_numberBends_6 rfl (lv_at hl 0 rfl) ?_
    refine va_get (D := D) (ci := 3) (v := .int (gi ((lp (nbStep wa) (nN (gi pi 0)) (pi, 40)).1) 0)) (C := RX3) (T := TX3) (N := 16) hx hb hg inGX3 hown hK hP 6 xo6 rfl 12 (by decide) (hg _ mw_228) (fun _ h9 => h9) (xvX3_12 rfl) dX3_numberBends_7 ?_
    refine lv_icmp_ge (tgt := 61) hx hb dX3_numberBends_10 (by decide) (fun _ => ?_) (fun c_10 => absurd (by rw [k_nbL]; exact lp_out _) c_10)
    exact W.vret hx hb hr (fun t ht hW => ⟨⟨(XW ad cI cJ co fl ra li re wa ((lp (nbStep wa) (nN (gi pi 0)) (pi, 40)).1)), rfl, xw_eq rfl rfl rfl rfl rfl rfl (show ((lp (nbStep wa) (nN (gi pi 0)) (pi, 40)).1) = (numberBends wa pi) from (by first | with_reducible rfl | (simp only [numberBends, gi_sl, gi_sA, gi_sB, gi_si_s, gi_si_n, gl_si, gl_sA, gl_sB, gl_sl_s, gl_sl_n, gA_si, gA_sl, gA_sB, gA_sA_s, gA_sA_n, gB_si, gB_sl, gB_sA, gB_sB_s, gB_sB_n, Nat.reduceBEq, if_true, if_false, eq_self, Bool.false_eq_true, Bool.true_eq_false, not_true_eq_false, not_false_eq_true, decide_true, decide_false, cond_true, cond_false, Bool.true_and, Bool.false_and, Bool.and_true, Bool.and_false, Bool.true_or, Bool.false_or, Bool.or_true, Bool.or_false, b2i_tt, b2i_ff, pr_eta]; done))), ⟨by rw [ht]; exact hP, va_K.moved hW.alike hK, hD⟩⟩, hS.F ht⟩) hS.2.2 dX3_numberBends_61
  · obtain ⟨h_1, hP, hD, hS, hl⟩ := hI
    have hP : va_P D vwCl (XW ad cI cJ co fl ra li re wa p_1.1) H := hP
    have hD : va_D A (XW ad cI cJ co fl ra li re wa p_1.1) := hD
    have hl : lv_has ls 5 [(0, .ref (ad 6)), (1, .int p_1.2), (2, .int (nI i_1))] := hl
    refine lv_iload_n hx hb dX3_numberBends_5 rfl (lv_at hl 2 rfl) ?_
    refine lv_aload_n hx hb dX3_numberBends_6 rfl (lv_at hl 0 rfl) ?_
    refine va_get (D := D) (ci := 3) (v := .int (gi p_1.1 0)) (C := RX3) (T := TX3) (N := 16) hx hb hg inGX3 hown hK hP 6 xo6 rfl 12 (by decide) (hg _ mw_228) (fun _ h9 => h9) (xvX3_12 rfl) dX3_numberBends_7 ?_
    refine lv_icmp_ge (tgt := 61) hx hb dX3_numberBends_10 (by decide) (fun c_10 => absurd c_10 (by rw [h_1, k_nbL]; exact lp_in hi_1)) (fun _ => ?_)
    refine lv_aload_n hx hb dX3_numberBends_13 rfl (lv_at hl 0 rfl) ?_
    refine va_get (D := D) (ci := 3) (v := .ref (ad 36)) (C := RX3) (T := TX3) (N := 16) hx hb hg inGX3 hown hK hP 6 xo6 rfl 3 (by decide) (hg _ mw_248) (fun _ h9 => h9) xvX3_3 dX3_numberBends_14 ?_
    refine lv_iload_n hx hb dX3_numberBends_17 rfl (lv_at hl 2 rfl) ?_
    refine lv_iload_n hx hb dX3_numberBends_18 rfl (lv_at hl 1 rfl) ?_
    refine kV (rSN hx hb hml hown hg hN hK hP hD (c_put l D cI cJ (XW ad cI cJ co fl ra li re wa p_1.1) 36 (ad 36) 80 (gA p_1.1 2) (nI i_1) p_1.2 (xg36 rfl) (by decide)) mw_92 nw_95 mw_93 mw_77 pd_X7_put ⟨Nat.le_of_ble_eq_true rfl, Nat.le_of_ble_eq_true rfl⟩ rfl hl.1 rfl (Nat.le_of_ble_eq_true rfl) dX3_numberBends_19 ⟨Nat.le_of_ble_eq_true rfl, Nat.le_of_ble_eq_true rfl⟩) hD hS hA (fun u_2 H locs hp hP hD hS => ?_)
    obtain rfl := hp.symm
    have hP : va_P D vwCl (XW ad cI cJ co fl ra li re wa (sA p_1.1 2 (wr (gA p_1.1 2) 80 (nI i_1) p_1.2))) H := cgP xs36 hP
    have hD : va_D A (XW ad cI cJ co fl ra li re wa (sA p_1.1 2 (wr (gA p_1.1 2) 80 (nI i_1) p_1.2))) := cgD xs36 hD
    refine lv_aload_n hx hb dX3_numberBends_22 rfl (lv_at hl 0 rfl) ?_
    refine lv_iload_n hx hb dX3_numberBends_23 rfl (lv_at hl 2 rfl) ?_
    refine kI (rV (q0 := 6) (ci := 3) hx hb hml hown hg hN hK hP hD (c_bendCount l D cI cJ ad co fl ra li re wa (sA p_1.1 2 (wr (gA p_1.1 2) 80 (nI i_1) p_1.2)) (nI i_1)) mw_249 mw_250 mw_251 mw_252 mw_234 pdv_X3_bendCount ⟨Nat.le_of_ble_eq_true rfl, Nat.le_of_ble_eq_true rfl⟩ rfl xo6 rfl hl.1 rfl (Nat.le_of_ble_eq_true rfl) dX3_numberBends_24 ⟨Nat.le_of_ble_eq_true rfl, Nat.le_of_ble_eq_true rfl⟩) hD hS hA (fun r_3 u_3 H locs hp hP hD hS => ?_)
    obtain ⟨er, eu⟩ := hp
    obtain rfl := er.symm
    obtain rfl := eu.symm
    refine lv_istore_n (lv' := [(3, .int (bendCount wa (sA p_1.1 2 (wr (gA p_1.1 2) 80 (nI i_1) p_1.2)) (nI i_1))), (0, .ref (ad 6)), (1, .int p_1.2), (2, .int (nI i_1))]) hx hb dX3_numberBends_27 rfl hl (by decide) rfl (fun ls hl => ?_)
    refine lv_iconst (v := 0) hx hb dX3_numberBends_28 (by decide) ?_
    refine lv_istore (lv' := [(4, .int 0), (3, .int (bendCount wa (sA p_1.1 2 (wr (gA p_1.1 2) 80 (nI i_1) p_1.2)) (nI i_1))), (0, .ref (ad 6)), (1, .int p_1.2), (2, .int (nI i_1))]) hx hb dX3_numberBends_29 hl (by decide) rfl (fun ls hl => ?_)
    refine w_loop (σ := Ob × Int32) (fun (i_4 : Nat) (p_4 : Ob × Int32) (H : Heap) (locs : List Loc) (ls : Array Slot) => p_4 = (lp (nbIn i_1) i_4 ((sA p_1.1 2 (wr (gA p_1.1 2) 80 (nI i_1) p_1.2)), p_1.2)) ∧ va_P D vwCl (XW ad cI cJ co fl ra li re wa p_4.1) H ∧ va_D A (XW ad cI cJ co fl ra li re wa p_4.1) ∧ va_S A s.heap H locs ∧ lv_has ls 5 [(0, .ref (ad 6)), (1, .int p_4.2), (2, .int (nI i_1)), (3, .int (bendCount wa (sA p_1.1 2 (wr (gA p_1.1 2) 80 (nI i_1) p_1.2)) (nI i_1))), (4, .int (nI i_4))]) (nN (bendCount wa (sA p_1.1 2 (wr (gA p_1.1 2) 80 (nI i_1) p_1.2)) (nI i_1))) (fun p_4 H locs ls hI => ?_) (fun i_4 p_4 H locs ls hi_4 hI ih_4 => ?_) 0 ((sA p_1.1 2 (wr (gA p_1.1 2) 80 (nI i_1) p_1.2)), p_1.2) (Nat.zero_le _) ⟨(lp_0 _ _), hP, hD, hS, (by rw [nI_0]; exact lv_sub hl [2, 3, 4, 1, 0] rfl)⟩
    · obtain ⟨h_4, hP, hD, hS, hl⟩ := hI
      have h_4 := h_4.symm
      subst h_4
      have hP : va_P D vwCl (XW ad cI cJ co fl ra li re wa ((lp (nbIn i_1) (nN (bendCount wa (sA p_1.1 2 (wr (gA p_1.1 2) 80 (nI i_1) p_1.2)) (nI i_1))) ((sA p_1.1 2 (wr (gA p_1.1 2) 80 (nI i_1) p_1.2)), p_1.2)).1)) H := hP
      have hD : va_D A (XW ad cI cJ co fl ra li re wa ((lp (nbIn i_1) (nN (bendCount wa (sA p_1.1 2 (wr (gA p_1.1 2) 80 (nI i_1) p_1.2)) (nI i_1))) ((sA p_1.1 2 (wr (gA p_1.1 2) 80 (nI i_1) p_1.2)), p_1.2)).1)) := hD
      have hl : lv_has ls 5 [(0, .ref (ad 6)), (1, .int ((lp (nbIn i_1) (nN (bendCount wa (sA p_1.1 2 (wr (gA p_1.1 2) 80 (nI i_1) p_1.2)) (nI i_1))) ((sA p_1.1 2 (wr (gA p_1.1 2) 80 (nI i_1) p_1.2)), p_1.2)).2)), (2, .int (nI i_1)), (3, .int (bendCount wa (sA p_1.1 2 (wr (gA p_1.1 2) 80 (nI i_1) p_1.2)) (nI i_1))), (4, .int (nI ((nN (bendCount wa (sA p_1.1 2 (wr (gA p_1.1 2) 80 (nI i_1) p_1.2)) (nI i_1))))))] := hl
      refine lv_iload hx hb dX3_numberBends_31 (lv_at hl 4 rfl) ?_
      refine lv_iload_n hx hb dX3_numberBends_33 rfl (lv_at hl 3 rfl) ?_
      refine lv_icmp_ge (tgt := 55) hx hb dX3_numberBends_34 (by decide) (fun _ => ?_) (fun c_34 => absurd (lp_out _) c_34)
      refine lv_iinc (v := (nI (i_1 + 1))) (lv' := [(2, .int (nI (i_1 + 1))), (0, .ref (ad 6)), (1, .int ((lp (nbIn i_1) (nN (bendCount wa (sA p_1.1 2 (wr (gA p_1.1 2) 80 (nI i_1) p_1.2)) (nI i_1))) ((sA p_1.1 2 (wr (gA p_1.1 2) 80 (nI i_1) p_1.2)), p_1.2)).2)), (3, .int (bendCount wa (sA p_1.1 2 (wr (gA p_1.1 2) 80 (nI i_1) p_1.2)) (nI i_1))), (4, .int (nI ((nN (bendCount wa (sA p_1.1 2 (wr (gA p_1.1 2) 80 (nI i_1) p_1.2)) (nI i_1))))))]) hx hb dX3_numberBends_55 hl (k := 2) rfl (nI_1 i_1) (by decide) rfl (fun ls hl => ?_)
      refine lv_goto (tgt := 5) hx hb dX3_numberBends_58 (by decide) ?_
      exact ih_1 (((lp (nbIn i_1) (nN (bendCount wa (sA p_1.1 2 (wr (gA p_1.1 2) 80 (nI i_1) p_1.2)) (nI i_1))) ((sA p_1.1 2 (wr (gA p_1.1 2) 80 (nI i_1) p_1.2)), p_1.2)).1), ((lp (nbIn i_1) (nN (bendCount wa (sA p_1.1 2 (wr (gA p_1.1 2) 80 (nI i_1) p_1.2)) (nI i_1))) ((sA p_1.1 2 (wr (gA p_1.1 2) 80 (nI i_1) p_1.2)), p_1.2)).2)) H locs ls ⟨((show (((lp (nbIn i_1) (nN (bendCount wa (sA p_1.1 2 (wr (gA p_1.1 2) 80 (nI i_1) p_1.2)) (nI i_1))) ((sA p_1.1 2 (wr (gA p_1.1 2) 80 (nI i_1) p_1.2)), p_1.2)).1), ((lp (nbIn i_1) (nN (bendCount wa (sA p_1.1 2 (wr (gA p_1.1 2) 80 (nI i_1) p_1.2)) (nI i_1))) ((sA p_1.1 2 (wr (gA p_1.1 2) 80 (nI i_1) p_1.2)), p_1.2)).2)) = (nbStep wa) i_1 p_1 from (by first | with_reducible rfl | (simp only [nbStep, nbPut, gi_sl, gi_sA, gi_sB, gi_si_s, gi_si_n, gl_si, gl_sA, gl_sB, gl_sl_s, gl_sl_n, gA_si, gA_sl, gA_sB, gA_sA_s, gA_sA_n, gB_si, gB_sl, gB_sA, gB_sB_s, gB_sB_n, Nat.reduceBEq, if_true, if_false, eq_self, Bool.false_eq_true, Bool.true_eq_false, not_true_eq_false, not_false_eq_true, decide_true, decide_false, cond_true, cond_false, Bool.true_and, Bool.false_and, Bool.and_true, Bool.and_false, Bool.true_or, Bool.false_or, Bool.or_true, Bool.or_false, b2i_tt, b2i_ff, pr_eta]; done))).trans (lp_go h_1)), hP, hD, hS, lv_sub hl [1, 2, 0] rfl⟩
    · obtain ⟨h_4, hP, hD, hS, hl⟩ := hI
      have hP : va_P D vwCl (XW ad cI cJ co fl ra li re wa p_4.1) H := hP
      have hD : va_D A (XW ad cI cJ co fl ra li re wa p_4.1) := hD
      have hl : lv_has ls 5 [(0, .ref (ad 6)), (1, .int p_4.2), (2, .int (nI i_1)), (3, .int (bendCount wa (sA p_1.1 2 (wr (gA p_1.1 2) 80 (nI i_1) p_1.2)) (nI i_1))), (4, .int (nI i_4))] := hl
      refine lv_iload hx hb dX3_numberBends_31 (lv_at hl 4 rfl) ?_
      refine lv_iload_n hx hb dX3_numberBends_33 rfl (lv_at hl 3 rfl) ?_
      refine lv_icmp_ge (tgt := 55) hx hb dX3_numberBends_34 (by decide) (fun c_34 => absurd c_34 (lp_in hi_4)) (fun _ => ?_)
      refine lv_aload_n hx hb dX3_numberBends_37 rfl (lv_at hl 0 rfl) ?_
      refine va_get (D := D) (ci := 3) (v := .ref (ad 37)) (C := RX3) (T := TX3) (N := 16) hx hb hg inGX3 hown hK hP 6 xo6 rfl 4 (by decide) (hg _ mw_253) (fun _ h9 => h9) xvX3_4 dX3_numberBends_38 ?_
      refine lv_iload_n hx hb dX3_numberBends_41 rfl (lv_at hl 1 rfl) ?_
      refine lv_iload_n hx hb dX3_numberBends_42 rfl (lv_at hl 2 rfl) ?_
      refine kV (rSN hx hb hml hown hg hN hK hP hD (c_put l D cI cJ (XW ad cI cJ co fl ra li re wa p_4.1) 37 (ad 37) 1600 (gA p_4.1 3) p_4.2 (nI i_1) (xg37 rfl) (by decide)) mw_92 nw_95 mw_93 mw_77 pd_X7_put ⟨Nat.le_of_ble_eq_true rfl, Nat.le_of_ble_eq_true rfl⟩ rfl hl.1 rfl (Nat.le_of_ble_eq_true rfl) dX3_numberBends_43 ⟨Nat.le_of_ble_eq_true rfl, Nat.le_of_ble_eq_true rfl⟩) hD hS hA (fun u_5 H locs hp hP hD hS => ?_)
      obtain rfl := hp.symm
      have hP : va_P D vwCl (XW ad cI cJ co fl ra li re wa (sA p_4.1 3 (wr (gA p_4.1 3) 1600 p_4.2 (nI i_1)))) H := cgP xs37 hP
      have hD : va_D A (XW ad cI cJ co fl ra li re wa (sA p_4.1 3 (wr (gA p_4.1 3) 1600 p_4.2 (nI i_1)))) := cgD xs37 hD
      refine lv_iinc (v := (p_4.2 + 1)) (lv' := [(1, .int (p_4.2 + 1)), (0, .ref (ad 6)), (2, .int (nI i_1)), (3, .int (bendCount wa (sA p_1.1 2 (wr (gA p_1.1 2) 80 (nI i_1) p_1.2)) (nI i_1))), (4, .int (nI i_4))]) hx hb dX3_numberBends_46 hl (k := 1) rfl rfl (by decide) rfl (fun ls hl => ?_)
      refine lv_iinc (v := (nI (i_4 + 1))) (lv' := [(4, .int (nI (i_4 + 1))), (1, .int (p_4.2 + 1)), (0, .ref (ad 6)), (2, .int (nI i_1)), (3, .int (bendCount wa (sA p_1.1 2 (wr (gA p_1.1 2) 80 (nI i_1) p_1.2)) (nI i_1)))]) hx hb dX3_numberBends_49 hl (k := 4) rfl (nI_1 i_4) (by decide) rfl (fun ls hl => ?_)
      refine lv_goto (tgt := 31) hx hb dX3_numberBends_52 (by decide) ?_
      exact ih_4 ((sA p_4.1 3 (wr (gA p_4.1 3) 1600 p_4.2 (nI i_1))), (p_4.2 + 1)) H locs ls ⟨((show ((sA p_4.1 3 (wr (gA p_4.1 3) 1600 p_4.2 (nI i_1))), (p_4.2 + 1)) = (nbIn i_1) i_4 p_4 from (by first | with_reducible rfl | (simp only [nbIn, gi_sl, gi_sA, gi_sB, gi_si_s, gi_si_n, gl_si, gl_sA, gl_sB, gl_sl_s, gl_sl_n, gA_si, gA_sl, gA_sB, gA_sA_s, gA_sA_n, gB_si, gB_sl, gB_sA, gB_sB_s, gB_sB_n, Nat.reduceBEq, if_true, if_false, eq_self, Bool.false_eq_true, Bool.true_eq_false, not_true_eq_false, not_false_eq_true, decide_true, decide_false, cond_true, cond_false, Bool.true_and, Bool.false_and, Bool.and_true, Bool.and_false, Bool.true_or, Bool.false_or, Bool.or_true, Bool.or_false, b2i_tt, b2i_ff, pr_eta]; done))).trans (lp_go h_4)), hP, hD, hS, lv_sub hl [2, 1, 3, 4, 0] rfl⟩
