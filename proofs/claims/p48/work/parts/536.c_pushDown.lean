theorem dX3_pushDown_0 : decode cX3_pushDown 0 = .ok (.iconst 0, 1) := by decide +kernel
theorem dX3_pushDown_1 : decode cX3_pushDown 1 = .ok (.istore_n 1, 1) := by decide +kernel
theorem dX3_pushDown_2 : decode cX3_pushDown 2 = .ok (.iconst 0, 1) := by decide +kernel
theorem dX3_pushDown_3 : decode cX3_pushDown 3 = .ok (.istore_n 2, 1) := by decide +kernel
theorem dX3_pushDown_4 : decode cX3_pushDown 4 = .ok (.iload_n 2, 1) := by decide +kernel
theorem dX3_pushDown_5 : decode cX3_pushDown 5 = .ok (.aload_n 0, 1) := by decide +kernel
theorem dX3_pushDown_6 : decode cX3_pushDown 6 = .ok (.getfield 58, 3) := by decide +kernel
theorem dX3_pushDown_9 : decode cX3_pushDown 9 = .ok (.if_icmp .ge 73, 3) := by decide +kernel
theorem dX3_pushDown_12 : decode cX3_pushDown 12 = .ok (.aload_n 0, 1) := by decide +kernel
theorem dX3_pushDown_13 : decode cX3_pushDown 13 = .ok (.getfield 12, 3) := by decide +kernel
theorem dX3_pushDown_16 : decode cX3_pushDown 16 = .ok (.iload_n 2, 1) := by decide +kernel
theorem dX3_pushDown_17 : decode cX3_pushDown 17 = .ok (.invokevirtual 104, 3) := by decide +kernel
theorem dX3_pushDown_20 : decode cX3_pushDown 20 = .ok (.ifCond .eq 56, 3) := by decide +kernel
theorem dX3_pushDown_23 : decode cX3_pushDown 23 = .ok (.aload_n 0, 1) := by decide +kernel
theorem dX3_pushDown_24 : decode cX3_pushDown 24 = .ok (.getfield 18, 3) := by decide +kernel
theorem dX3_pushDown_27 : decode cX3_pushDown 27 = .ok (.aload_n 0, 1) := by decide +kernel
theorem dX3_pushDown_28 : decode cX3_pushDown 28 = .ok (.getfield 12, 3) := by decide +kernel
theorem dX3_pushDown_31 : decode cX3_pushDown 31 = .ok (.getfield 108, 3) := by decide +kernel
theorem dX3_pushDown_34 : decode cX3_pushDown 34 = .ok (.iload_n 2, 1) := by decide +kernel
theorem dX3_pushDown_35 : decode cX3_pushDown 35 = .ok (.invokestatic 95, 3) := by decide +kernel
theorem dX3_pushDown_38 : decode cX3_pushDown 38 = .ok (.invokestatic 95, 3) := by decide +kernel
theorem dX3_pushDown_41 : decode cX3_pushDown 41 = .ok (.aload_n 0, 1) := by decide +kernel
theorem dX3_pushDown_42 : decode cX3_pushDown 42 = .ok (.iload_n 2, 1) := by decide +kernel
theorem dX3_pushDown_43 : decode cX3_pushDown 43 = .ok (.invokevirtual 111, 3) := by decide +kernel
theorem dX3_pushDown_46 : decode cX3_pushDown 46 = .ok (.if_icmp .gt 30, 3) := by decide +kernel
theorem dX3_pushDown_49 : decode cX3_pushDown 49 = .ok (.aload_n 0, 1) := by decide +kernel
theorem dX3_pushDown_50 : decode cX3_pushDown 50 = .ok (.getfield 18, 3) := by decide +kernel
theorem dX3_pushDown_53 : decode cX3_pushDown 53 = .ok (.aload_n 0, 1) := by decide +kernel
theorem dX3_pushDown_54 : decode cX3_pushDown 54 = .ok (.getfield 12, 3) := by decide +kernel
theorem dX3_pushDown_57 : decode cX3_pushDown 57 = .ok (.getfield 108, 3) := by decide +kernel
theorem dX3_pushDown_60 : decode cX3_pushDown 60 = .ok (.iload_n 2, 1) := by decide +kernel
theorem dX3_pushDown_61 : decode cX3_pushDown 61 = .ok (.invokestatic 95, 3) := by decide +kernel
theorem dX3_pushDown_64 : decode cX3_pushDown 64 = .ok (.aload_n 0, 1) := by decide +kernel
theorem dX3_pushDown_65 : decode cX3_pushDown 65 = .ok (.iload_n 2, 1) := by decide +kernel
theorem dX3_pushDown_66 : decode cX3_pushDown 66 = .ok (.invokevirtual 111, 3) := by decide +kernel
theorem dX3_pushDown_69 : decode cX3_pushDown 69 = .ok (.iconst 1, 1) := by decide +kernel
theorem dX3_pushDown_70 : decode cX3_pushDown 70 = .ok (.iadd, 1) := by decide +kernel
theorem dX3_pushDown_71 : decode cX3_pushDown 71 = .ok (.invokestatic 75, 3) := by decide +kernel
theorem dX3_pushDown_74 : decode cX3_pushDown 74 = .ok (.iconst 1, 1) := by decide +kernel
theorem dX3_pushDown_75 : decode cX3_pushDown 75 = .ok (.istore_n 1, 1) := by decide +kernel
theorem dX3_pushDown_76 : decode cX3_pushDown 76 = .ok (.iinc 2 1, 3) := by decide +kernel
theorem dX3_pushDown_79 : decode cX3_pushDown 79 = .ok (.goto (-75), 3) := by decide +kernel
theorem dX3_pushDown_82 : decode cX3_pushDown 82 = .ok (.iload_n 1, 1) := by decide +kernel
theorem dX3_pushDown_83 : decode cX3_pushDown 83 = .ok (.ireturn, 1) := by decide +kernel
theorem mw_228 : Cond.fieldLink RX3 58 "OrielChart$Picture" "edgeCount" "I" ∈ GW := gw_mem (inT2 _ (List.mem_of_getElem? (i := 27) rfl)) rfl
theorem mw_229 : Cond.methodLink RX3 104 yX6_draws ∈ GW := gw_mem (inT3 _ (List.mem_of_getElem? (i := 45) rfl)) rfl
theorem mw_230 : Cond.code yX3_top cX3_top 2 (some Jvm.ClassFile.FieldType.int) ∈ GW := gw_mem (inT3 _ (List.mem_of_getElem? (i := 53) rfl)) rfl
theorem mw_231 : Cond.methodLink RX3 111 yX3_top ∈ GW := gw_mem (inT3 _ (List.mem_of_getElem? (i := 50) rfl)) rfl
theorem mw_232 : Cond.instanceMethod yX3_top ∈ GW := gw_mem (inT3 _ (List.mem_of_getElem? (i := 52) rfl)) rfl
theorem mw_233 : Cond.selects RX3 yX3_top yX3_top ∈ GW := gw_mem (inTp (q := (yX3_top, 16)) (List.mem_of_getElem? (i := 24) rfl)) rfl
theorem mw_234 : Cond.initialized RX3 ∈ GW := gw_mem (inT1 _ (List.mem_of_getElem? (i := 7) rfl)) rfl
theorem pdv_X3_top : yX3_top.cls = RX3 ∧ yX3_top.cls ≠ "java/lang/invoke/MethodHandle" ∧ yX3_top.cls ≠ "java/lang/invoke/VarHandle" ∧ (parseMethodDescriptor yX3_top.desc).map (fun d => d.parameters.length) = some 1 := by decide +kernel
set_option maxHeartbeats 4000000 in
set_option maxRecDepth 100000 in
theorem c_pushDown (l : Launch) (D : va_G) (cI cJ : ClassId) (ad : Nat → Nat) (co fl ra li re wa pi : Ob) : CT l D (TY cI cJ) yX3_pushDown (.code yX3_pushDown cX3_pushDown 3 (some Jvm.ClassFile.FieldType.boolean)) 2 0 0 (XW ad cI cJ co fl ra li re wa pi) [.ref (ad 6)] (QI D (TY cI cJ) (fun r u => r = (b2i (pushDown wa pi).2) ∧ u = (XW ad cI cJ co fl ra li re wa (pushDown wa pi).1))) := by
  refine ent (by decide) (Nat.le_of_ble_eq_true rfl) ?_
  intro p e s m below meth c ls A hx hb hr hg hown hml hlocks hnm hP hK hD hS hA hN hl
  have hl : lv_has ls 3 [(0, .ref (ad 6))] := hl
  refine lv_iconst (v := 0) hx hb dX3_pushDown_0 (by decide) ?_
  refine lv_istore_n (lv' := [(1, .int 0), (0, .ref (ad 6))]) hx hb dX3_pushDown_1 rfl hl (by decide) rfl (fun ls hl => ?_)
  refine lv_iconst (v := 0) hx hb dX3_pushDown_2 (by decide) ?_
  refine lv_istore_n (lv' := [(2, .int 0), (1, .int 0), (0, .ref (ad 6))]) hx hb dX3_pushDown_3 rfl hl (by decide) rfl (fun ls hl => ?_)
  refine w_loop (σ := Ob × Bool) (fun (i_1 : Nat) (p_1 : Ob × Bool) (H : Heap) (locs : List Loc) (ls : Array Slot) => p_1 = (lp (pdStep wa) i_1 (pi, false)) ∧ va_P D vwCl (XW ad cI cJ co fl ra li re wa p_1.1) H ∧ va_D A (XW ad cI cJ co fl ra li re wa p_1.1) ∧ va_S A s.heap H locs ∧ lv_has ls 3 [(0, .ref (ad 6)), (1, .int (b2i p_1.2)), (2, .int (nI i_1))]) (nN (gi pi 0)) (fun p_1 H locs ls hI => ?_) (fun i_1 p_1 H locs ls hi_1 hI ih_1 => ?_) 0 (pi, false) (Nat.zero_le _) ⟨(lp_0 _ _), hP, hD, hS, (by rw [nI_0]; exact lv_sub hl [2, 1, 0] rfl)⟩
  · obtain ⟨h_1, hP, hD, hS, hl⟩ := hI
    have h_1 := h_1.symm
    subst h_1
    have hP : va_P D vwCl (XW ad cI cJ co fl ra li re wa ((lp (pdStep wa) (nN (gi pi 0)) (pi, false)).1)) H := hP
    have hD : va_D A (XW ad cI cJ co fl ra li re wa ((lp (pdStep wa) (nN (gi pi 0)) (pi, false)).1)) := hD
    have hl : lv_has ls 3 [(0, .ref (ad 6)), (1, .int (b2i (lp (pdStep wa) (nN (gi pi 0)) (pi, false)).2)), (2, .int (nI ((nN (gi pi 0)))))] := hl
    refine lv_iload_n hx hb dX3_pushDown_4 rfl (lv_at hl 2 rfl) ?_
    refine lv_aload_n hx hb dX3_pushDown_5 rfl (lv_at hl 0 rfl) ?_
    refine va_get (D := D) (ci := 3) (v := .int (gi ((lp (pdStep wa) (nN (gi pi 0)) (pi, false)).1) 0)) (C := RX3) (T := TX3) (N := 16) hx hb hg inGX3 hown hK hP 6 xo6 rfl 12 (by decide) (hg _ mw_228) (fun _ h9 => h9) (xvX3_12 rfl) dX3_pushDown_6 ?_
    refine lv_icmp_ge (tgt := 82) hx hb dX3_pushDown_9 (by decide) (fun _ => ?_) (fun c_9 => absurd (by rw [k_pdL]; exact lp_out _) c_9)
    refine lv_iload_n hx hb dX3_pushDown_82 rfl (lv_at hl 1 rfl) ?_
    exact W.zret (v := (b2i (lp (pdStep wa) (nN (gi pi 0)) (pi, false)).2)) hx hb hr nar_b2i (fun t ht hW => ⟨⟨(b2i (lp (pdStep wa) (nN (gi pi 0)) (pi, false)).2), (XW ad cI cJ co fl ra li re wa ((lp (pdStep wa) (nN (gi pi 0)) (pi, false)).1)), rfl, ⟨(show ((b2i (lp (pdStep wa) (nN (gi pi 0)) (pi, false)).2) : Int32) = (b2i (pushDown wa pi).2) from (by first | with_reducible rfl | (simp only [pushDown, gi_sl, gi_sA, gi_sB, gi_si_s, gi_si_n, gl_si, gl_sA, gl_sB, gl_sl_s, gl_sl_n, gA_si, gA_sl, gA_sB, gA_sA_s, gA_sA_n, gB_si, gB_sl, gB_sA, gB_sB_s, gB_sB_n, Nat.reduceBEq, if_true, if_false, eq_self, Bool.false_eq_true, Bool.true_eq_false, not_true_eq_false, not_false_eq_true, decide_true, decide_false, cond_true, cond_false, Bool.true_and, Bool.false_and, Bool.and_true, Bool.and_false, Bool.true_or, Bool.false_or, Bool.or_true, Bool.or_false, b2i_tt, b2i_ff, pr_eta]; done))), xw_eq rfl rfl rfl rfl rfl rfl (show ((lp (pdStep wa) (nN (gi pi 0)) (pi, false)).1) = (pushDown wa pi).1 from (by first | with_reducible rfl | (simp only [pushDown, gi_sl, gi_sA, gi_sB, gi_si_s, gi_si_n, gl_si, gl_sA, gl_sB, gl_sl_s, gl_sl_n, gA_si, gA_sl, gA_sB, gA_sA_s, gA_sA_n, gB_si, gB_sl, gB_sA, gB_sB_s, gB_sB_n, Nat.reduceBEq, if_true, if_false, eq_self, Bool.false_eq_true, Bool.true_eq_false, not_true_eq_false, not_false_eq_true, decide_true, decide_false, cond_true, cond_false, Bool.true_and, Bool.false_and, Bool.and_true, Bool.and_false, Bool.true_or, Bool.false_or, Bool.or_true, Bool.or_false, b2i_tt, b2i_ff, pr_eta]; done)))⟩, ⟨by rw [ht]; exact hP, va_K.moved hW.alike hK, hD⟩⟩, hS.F ht⟩) hS.2.2 dX3_pushDown_83
  · obtain ⟨h_1, hP, hD, hS, hl⟩ := hI
    have hP : va_P D vwCl (XW ad cI cJ co fl ra li re wa p_1.1) H := hP
    have hD : va_D A (XW ad cI cJ co fl ra li re wa p_1.1) := hD
    have hl : lv_has ls 3 [(0, .ref (ad 6)), (1, .int (b2i p_1.2)), (2, .int (nI i_1))] := hl
    refine lv_iload_n hx hb dX3_pushDown_4 rfl (lv_at hl 2 rfl) ?_
    refine lv_aload_n hx hb dX3_pushDown_5 rfl (lv_at hl 0 rfl) ?_
    refine va_get (D := D) (ci := 3) (v := .int (gi p_1.1 0)) (C := RX3) (T := TX3) (N := 16) hx hb hg inGX3 hown hK hP 6 xo6 rfl 12 (by decide) (hg _ mw_228) (fun _ h9 => h9) (xvX3_12 rfl) dX3_pushDown_6 ?_
    refine lv_icmp_ge (tgt := 82) hx hb dX3_pushDown_9 (by decide) (fun c_9 => absurd c_9 (by rw [h_1, k_pdL]; exact lp_in hi_1)) (fun _ => ?_)
    refine lv_aload_n hx hb dX3_pushDown_12 rfl (lv_at hl 0 rfl) ?_
    refine va_get (D := D) (ci := 3) (v := .ref (ad 7)) (C := RX3) (T := TX3) (N := 16) hx hb hg inGX3 hown hK hP 6 xo6 rfl 0 (by decide) (hg _ mw_227) (fun _ h9 => h9) xvX3_0 dX3_pushDown_13 ?_
    refine lv_iload_n hx hb dX3_pushDown_16 rfl (lv_at hl 2 rfl) ?_
    refine kI (rV (q0 := 7) (ci := 6) hx hb hml hown hg hN hK hP hD (c_draws l D cI cJ ad co fl ra li re wa p_1.1 (nI i_1)) mw_204 mw_229 mw_206 mw_207 mw_208 pdv_X6_draws ⟨Nat.le_of_ble_eq_true rfl, Nat.le_of_ble_eq_true rfl⟩ rfl xo7 rfl hl.1 rfl (Nat.le_of_ble_eq_true rfl) dX3_pushDown_17 ⟨Nat.le_of_ble_eq_true rfl, Nat.le_of_ble_eq_true rfl⟩) hD hS hA (fun r_2 u_2 H locs hp hP hD hS => ?_)
    obtain ⟨er, eu⟩ := hp
    obtain rfl := er.symm
    obtain rfl := eu.symm
    refine lv_if_eq (tgt := 76) hx hb dX3_pushDown_20 (by decide) (fun c_20 => ?_) (fun c_20 => ?_)
    · have c_20 : ¬ (draws wa (nI i_1)) = true := b2i_0 c_20
      refine lv_iinc (v := (nI (i_1 + 1))) (lv' := [(2, .int (nI (i_1 + 1))), (0, .ref (ad 6)), (1, .int (b2i p_1.2))]) hx hb dX3_pushDown_76 hl (k := 2) rfl (nI_1 i_1) (by decide) rfl (fun ls hl => ?_)
      refine lv_goto (tgt := 4) hx hb dX3_pushDown_79 (by decide) ?_
      exact ih_1 (p_1.1, p_1.2) H locs ls ⟨((show (p_1.1, p_1.2) = (pdStep wa) i_1 p_1 from (by simp only [pdStep, pdPut, botE, bf_of c_20, gi_sl, gi_sA, gi_sB, gi_si_s, gi_si_n, gl_si, gl_sA, gl_sB, gl_sl_s, gl_sl_n, gA_si, gA_sl, gA_sB, gA_sA_s, gA_sA_n, gB_si, gB_sl, gB_sA, gB_sB_s, gB_sB_n, Nat.reduceBEq, if_true, if_false, eq_self, Bool.false_eq_true, Bool.true_eq_false, not_true_eq_false, not_false_eq_true, decide_true, decide_false, cond_true, cond_false, Bool.true_and, Bool.false_and, Bool.and_true, Bool.and_false, Bool.true_or, Bool.false_or, Bool.or_true, Bool.or_false, b2i_tt, b2i_ff, pr_eta]; done)).trans (lp_go h_1)), hP, hD, hS, lv_sub hl [1, 2, 0] rfl⟩
    · have c_20 : (draws wa (nI i_1)) = true := b2i_1 c_20
      refine lv_aload_n hx hb dX3_pushDown_23 rfl (lv_at hl 0 rfl) ?_
      refine va_get (D := D) (ci := 3) (v := .ref (ad 34)) (C := RX3) (T := TX3) (N := 16) hx hb hg inGX3 hown hK hP 6 xo6 rfl 1 (by decide) (hg _ mw_226) (fun _ h9 => h9) xvX3_1 dX3_pushDown_24 ?_
      refine lv_aload_n hx hb dX3_pushDown_27 rfl (lv_at hl 0 rfl) ?_
      refine va_get (D := D) (ci := 3) (v := .ref (ad 7)) (C := RX3) (T := TX3) (N := 16) hx hb hg inGX3 hown hK hP 6 xo6 rfl 0 (by decide) (hg _ mw_227) (fun _ h9 => h9) xvX3_0 dX3_pushDown_28 ?_
      refine va_getN (D := D) (ci := 6) (v := .ref (ad 31)) (C := RX6) (T := TX6) (N := 9) hx hb hg inGX6 hown hK hP 7 xo7 rfl 2 (by decide) (hN.use nw_57) (fun _ h9 => h9) xvX6_2 dX3_pushDown_31 ?_
      refine lv_iload_n hx hb dX3_pushDown_34 rfl (lv_at hl 2 rfl) ?_
      refine kI (rSN hx hb hml hown hg hN hK hP hD (c_at l D cI cJ (XW ad cI cJ co fl ra li re wa p_1.1) 31 (ad 31) 80 (gA wa 2) (nI i_1) (xg31 rfl) (by decide)) mw_84 nw_96 mw_85 mw_77 pd_X7_at ⟨Nat.le_of_ble_eq_true rfl, Nat.le_of_ble_eq_true rfl⟩ rfl hl.1 rfl (Nat.le_of_ble_eq_true rfl) dX3_pushDown_35 ⟨Nat.le_of_ble_eq_true rfl, Nat.le_of_ble_eq_true rfl⟩) hD hS hA (fun r_3 u_3 H locs hp hP hD hS => ?_)
      obtain ⟨er, eu⟩ := hp
      obtain rfl := er.symm
      obtain rfl := eu.symm
      refine kI (rSN hx hb hml hown hg hN hK hP hD (c_at l D cI cJ (XW ad cI cJ co fl ra li re wa p_1.1) 34 (ad 34) 40 (gA p_1.1 0) (rd (gA wa 2) 80 (nI i_1)) (xg34 rfl) (by decide)) mw_84 nw_96 mw_85 mw_77 pd_X7_at ⟨Nat.le_of_ble_eq_true rfl, Nat.le_of_ble_eq_true rfl⟩ rfl hl.1 rfl (Nat.le_of_ble_eq_true rfl) dX3_pushDown_38 ⟨Nat.le_of_ble_eq_true rfl, Nat.le_of_ble_eq_true rfl⟩) hD hS hA (fun r_4 u_4 H locs hp hP hD hS => ?_)
      obtain ⟨er, eu⟩ := hp
      obtain rfl := er.symm
      obtain rfl := eu.symm
      refine lv_aload_n hx hb dX3_pushDown_41 rfl (lv_at hl 0 rfl) ?_
      refine lv_iload_n hx hb dX3_pushDown_42 rfl (lv_at hl 2 rfl) ?_
      refine kI (rV (q0 := 6) (ci := 3) hx hb hml hown hg hN hK hP hD (c_top l D cI cJ ad co fl ra li re wa p_1.1 (nI i_1)) mw_230 mw_231 mw_232 mw_233 mw_234 pdv_X3_top ⟨Nat.le_of_ble_eq_true rfl, Nat.le_of_ble_eq_true rfl⟩ rfl xo6 rfl hl.1 rfl (Nat.le_of_ble_eq_true rfl) dX3_pushDown_43 ⟨Nat.le_of_ble_eq_true rfl, Nat.le_of_ble_eq_true rfl⟩) hD hS hA (fun r_5 u_5 H locs hp hP hD hS => ?_)
      obtain ⟨er, eu⟩ := hp
      obtain rfl := er.symm
      obtain rfl := eu.symm
      refine lv_icmp_gt (tgt := 76) hx hb dX3_pushDown_46 (by decide) (fun c_46 => ?_) (fun c_46 => ?_)
      · refine lv_iinc (v := (nI (i_1 + 1))) (lv' := [(2, .int (nI (i_1 + 1))), (0, .ref (ad 6)), (1, .int (b2i p_1.2))]) hx hb dX3_pushDown_76 hl (k := 2) rfl (nI_1 i_1) (by decide) rfl (fun ls hl => ?_)
        refine lv_goto (tgt := 4) hx hb dX3_pushDown_79 (by decide) ?_
        exact ih_1 (p_1.1, p_1.2) H locs ls ⟨((show (p_1.1, p_1.2) = (pdStep wa) i_1 p_1 from (by simp only [pdStep, pdPut, botE, c_20, eq_true c_46, gi_sl, gi_sA, gi_sB, gi_si_s, gi_si_n, gl_si, gl_sA, gl_sB, gl_sl_s, gl_sl_n, gA_si, gA_sl, gA_sB, gA_sA_s, gA_sA_n, gB_si, gB_sl, gB_sA, gB_sB_s, gB_sB_n, Nat.reduceBEq, if_true, if_false, eq_self, Bool.false_eq_true, Bool.true_eq_false, not_true_eq_false, not_false_eq_true, decide_true, decide_false, cond_true, cond_false, Bool.true_and, Bool.false_and, Bool.and_true, Bool.and_false, Bool.true_or, Bool.false_or, Bool.or_true, Bool.or_false, b2i_tt, b2i_ff, pr_eta]; done)).trans (lp_go h_1)), hP, hD, hS, lv_sub hl [1, 2, 0] rfl⟩
      · refine lv_aload_n hx hb dX3_pushDown_49 rfl (lv_at hl 0 rfl) ?_
        refine va_get (D := D) (ci := 3) (v := .ref (ad 34)) (C := RX3) (T := TX3) (N := 16) hx hb hg inGX3 hown hK hP 6 xo6 rfl 1 (by decide) (hg _ mw_226) (fun _ h9 => h9) xvX3_1 dX3_pushDown_50 ?_
        refine lv_aload_n hx hb dX3_pushDown_53 rfl (lv_at hl 0 rfl) ?_
        refine va_get (D := D) (ci := 3) (v := .ref (ad 7)) (C := RX3) (T := TX3) (N := 16) hx hb hg inGX3 hown hK hP 6 xo6 rfl 0 (by decide) (hg _ mw_227) (fun _ h9 => h9) xvX3_0 dX3_pushDown_54 ?_
        refine va_getN (D := D) (ci := 6) (v := .ref (ad 31)) (C := RX6) (T := TX6) (N := 9) hx hb hg inGX6 hown hK hP 7 xo7 rfl 2 (by decide) (hN.use nw_57) (fun _ h9 => h9) xvX6_2 dX3_pushDown_57 ?_
        refine lv_iload_n hx hb dX3_pushDown_60 rfl (lv_at hl 2 rfl) ?_
        refine kI (rSN hx hb hml hown hg hN hK hP hD (c_at l D cI cJ (XW ad cI cJ co fl ra li re wa p_1.1) 31 (ad 31) 80 (gA wa 2) (nI i_1) (xg31 rfl) (by decide)) mw_84 nw_96 mw_85 mw_77 pd_X7_at ⟨Nat.le_of_ble_eq_true rfl, Nat.le_of_ble_eq_true rfl⟩ rfl hl.1 rfl (Nat.le_of_ble_eq_true rfl) dX3_pushDown_61 ⟨Nat.le_of_ble_eq_true rfl, Nat.le_of_ble_eq_true rfl⟩) hD hS hA (fun r_6 u_6 H locs hp hP hD hS => ?_)
        obtain ⟨er, eu⟩ := hp
        obtain rfl := er.symm
        obtain rfl := eu.symm
        refine lv_aload_n hx hb dX3_pushDown_64 rfl (lv_at hl 0 rfl) ?_
        refine lv_iload_n hx hb dX3_pushDown_65 rfl (lv_at hl 2 rfl) ?_
        refine kI (rV (q0 := 6) (ci := 3) hx hb hml hown hg hN hK hP hD (c_top l D cI cJ ad co fl ra li re wa p_1.1 (nI i_1)) mw_230 mw_231 mw_232 mw_233 mw_234 pdv_X3_top ⟨Nat.le_of_ble_eq_true rfl, Nat.le_of_ble_eq_true rfl⟩ rfl xo6 rfl hl.1 rfl (Nat.le_of_ble_eq_true rfl) dX3_pushDown_66 ⟨Nat.le_of_ble_eq_true rfl, Nat.le_of_ble_eq_true rfl⟩) hD hS hA (fun r_7 u_7 H locs hp hP hD hS => ?_)
        obtain ⟨er, eu⟩ := hp
        obtain rfl := er.symm
        obtain rfl := eu.symm
        refine lv_iconst (v := 1) hx hb dX3_pushDown_69 (by decide) ?_
        refine lv_iadd hx hb dX3_pushDown_70 ?_
        refine kV (rSN hx hb hml hown hg hN hK hP hD (c_put l D cI cJ (XW ad cI cJ co fl ra li re wa p_1.1) 34 (ad 34) 40 (gA p_1.1 0) (rd (gA wa 2) 80 (nI i_1)) ((topE wa p_1.1 (nI i_1)) + 1) (xg34 rfl) (by decide)) mw_92 nw_95 mw_93 mw_77 pd_X7_put ⟨Nat.le_of_ble_eq_true rfl, Nat.le_of_ble_eq_true rfl⟩ rfl hl.1 rfl (Nat.le_of_ble_eq_true rfl) dX3_pushDown_71 ⟨Nat.le_of_ble_eq_true rfl, Nat.le_of_ble_eq_true rfl⟩) hD hS hA (fun u_8 H locs hp hP hD hS => ?_)
        obtain rfl := hp.symm
        have hP : va_P D vwCl (XW ad cI cJ co fl ra li re wa (sA p_1.1 0 (wr (gA p_1.1 0) 40 (rd (gA wa 2) 80 (nI i_1)) ((topE wa p_1.1 (nI i_1)) + 1)))) H := cgP xs34 hP
        have hD : va_D A (XW ad cI cJ co fl ra li re wa (sA p_1.1 0 (wr (gA p_1.1 0) 40 (rd (gA wa 2) 80 (nI i_1)) ((topE wa p_1.1 (nI i_1)) + 1)))) := cgD xs34 hD
        refine lv_iconst (v := 1) hx hb dX3_pushDown_74 (by decide) ?_
        refine lv_istore_n (lv' := [(1, .int 1), (0, .ref (ad 6)), (2, .int (nI i_1))]) hx hb dX3_pushDown_75 rfl hl (by decide) rfl (fun ls hl => ?_)
        refine lv_iinc (v := (nI (i_1 + 1))) (lv' := [(2, .int (nI (i_1 + 1))), (1, .int 1), (0, .ref (ad 6))]) hx hb dX3_pushDown_76 hl (k := 2) rfl (nI_1 i_1) (by decide) rfl (fun ls hl => ?_)
        refine lv_goto (tgt := 4) hx hb dX3_pushDown_79 (by decide) ?_
        exact ih_1 ((sA p_1.1 0 (wr (gA p_1.1 0) 40 (rd (gA wa 2) 80 (nI i_1)) ((topE wa p_1.1 (nI i_1)) + 1))), true) H locs ls ⟨((show ((sA p_1.1 0 (wr (gA p_1.1 0) 40 (rd (gA wa 2) 80 (nI i_1)) ((topE wa p_1.1 (nI i_1)) + 1))), true) = (pdStep wa) i_1 p_1 from (by simp only [pdStep, pdPut, botE, c_20, eq_false c_46, gi_sl, gi_sA, gi_sB, gi_si_s, gi_si_n, gl_si, gl_sA, gl_sB, gl_sl_s, gl_sl_n, gA_si, gA_sl, gA_sB, gA_sA_s, gA_sA_n, gB_si, gB_sl, gB_sA, gB_sB_s, gB_sB_n, Nat.reduceBEq, if_true, if_false, eq_self, Bool.false_eq_true, Bool.true_eq_false, not_true_eq_false, not_false_eq_true, decide_true, decide_false, cond_true, cond_false, Bool.true_and, Bool.false_and, Bool.and_true, Bool.and_false, Bool.true_or, Bool.false_or, Bool.or_true, Bool.or_false, b2i_tt, b2i_ff, pr_eta]; done)).trans (lp_go h_1)), hP, hD, hS, lv_sub hl [2, 1, 0] rfl⟩
