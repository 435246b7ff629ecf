theorem dX7_freshReduction_0 : decode cX7_freshReduction 0 = .ok (.aload_n 0, 1) := by decide +kernel
theorem dX7_freshReduction_1 : decode cX7_freshReduction 1 = .ok (.getfield 40, 3) := by decide +kernel
theorem dX7_freshReduction_4 : decode cX7_freshReduction 4 = .ok (.getfield 335, 3) := by decide +kernel
theorem dX7_freshReduction_7 : decode cX7_freshReduction 7 = .ok (.ifCond .ne 22, 3) := by decide +kernel
theorem dX7_freshReduction_10 : decode cX7_freshReduction 10 = .ok (.aload_n 0, 1) := by decide +kernel
theorem dX7_freshReduction_11 : decode cX7_freshReduction 11 = .ok (.getfield 40, 3) := by decide +kernel
theorem dX7_freshReduction_14 : decode cX7_freshReduction 14 = .ok (.aload_n 0, 1) := by decide +kernel
theorem dX7_freshReduction_15 : decode cX7_freshReduction 15 = .ok (.invokevirtual 123, 3) := by decide +kernel
theorem dX7_freshReduction_18 : decode cX7_freshReduction 18 = .ok (.invokevirtual 349, 3) := by decide +kernel
theorem dX7_freshReduction_21 : decode cX7_freshReduction 21 = .ok (.aload_n 0, 1) := by decide +kernel
theorem dX7_freshReduction_22 : decode cX7_freshReduction 22 = .ok (.getfield 40, 3) := by decide +kernel
theorem dX7_freshReduction_25 : decode cX7_freshReduction 25 = .ok (.iconst 1, 1) := by decide +kernel
theorem dX7_freshReduction_26 : decode cX7_freshReduction 26 = .ok (.putfield 335, 3) := by decide +kernel
theorem dX7_freshReduction_29 : decode cX7_freshReduction 29 = .ok (.aload_n 0, 1) := by decide +kernel
theorem dX7_freshReduction_30 : decode cX7_freshReduction 30 = .ok (.getfield 40, 3) := by decide +kernel
theorem dX7_freshReduction_33 : decode cX7_freshReduction 33 = .ok (.areturn, 1) := by decide +kernel
theorem mw_342 : Cond.fieldLink RX7 40 "OrielChart" "reduction" "LOrielChart$Reduction;" ∈ GW := gw_mem (inT2 _ (List.mem_of_getElem? (i := 70) rfl)) rfl
theorem mw_343 : Cond.code yX5_reduce cX5_reduce 4 (none : Option FieldType) ∈ GW := gw_mem (inT2 _ (List.mem_of_getElem? (i := 212) rfl)) rfl
theorem mw_344 : Cond.methodLink RX7 349 yX5_reduce ∈ GW := gw_mem (inT2 _ (List.mem_of_getElem? (i := 209) rfl)) rfl
theorem mw_345 : Cond.instanceMethod yX5_reduce ∈ GW := gw_mem (inT2 _ (List.mem_of_getElem? (i := 210) rfl)) rfl
theorem mw_346 : Cond.selects RX5 yX5_reduce yX5_reduce ∈ GW := gw_mem (inT2 _ (List.mem_of_getElem? (i := 211) rfl)) rfl
theorem pdv_X5_reduce : yX5_reduce.cls = RX5 ∧ yX5_reduce.cls ≠ "java/lang/invoke/MethodHandle" ∧ yX5_reduce.cls ≠ "java/lang/invoke/VarHandle" ∧ (parseMethodDescriptor yX5_reduce.desc).map (fun d => d.parameters.length) = some 1 := by decide +kernel
set_option maxHeartbeats 4000000 in
set_option maxRecDepth 100000 in
theorem c_freshRed (l : Launch) (D : va_G) (cI cJ : ClassId) (ad : Nat → Nat) (co fl ra li re wa pi : Ob) : CT l D (TY cI cJ) yX7_freshReduction (.code yX7_freshReduction cX7_freshReduction 1 (some (Jvm.ClassFile.FieldType.object "OrielChart$Reduction"))) 6 0 0 (XW ad cI cJ co fl ra li re wa pi) [.ref (ad 0)] (QR D (TY cI cJ) (fun r u => r = (ad 5) ∧ u = (XW ad cI cJ co (frDf co fl re) ra li (frD co fl re) wa pi))) := by
  refine ent (by decide) (Nat.le_of_ble_eq_true rfl) ?_
  intro p e s m below meth c ls A hx hb hr hg hown hml hlocks hnm hP hK hD hS hA hN hl
  have hl : lv_has ls 1 [(0, .ref (ad 0))] := hl
  refine lv_aload_n hx hb dX7_freshReduction_0 rfl (lv_at hl 0 rfl) ?_
  refine va_get (D := D) (ci := 7) (v := .ref (ad 5)) (C := RX7) (T := TX7) (N := 6) hx hb hg inGX7 hown hK hP 0 xo0 rfl 4 (by decide) (hg _ mw_342) (fun _ h9 => h9) xvX7_4 dX7_freshReduction_1 ?_
  refine va_getN (D := D) (ci := 5) (v := .int (gi re 1)) (C := RX5) (T := TX5) (N := 8) hx hb hg inGX5 hown hK hP 5 xo5 rfl 7 (by decide) (hN.use nw_52) (fun _ h9 => h9) (xvX5_7 rfl) dX7_freshReduction_4 ?_
  refine lv_if_ne (tgt := 29) hx hb dX7_freshReduction_7 (by decide) (fun c_7 => ?_) (fun c_7 => ?_)
  · refine lv_aload_n hx hb dX7_freshReduction_29 rfl (lv_at hl 0 rfl) ?_
    refine va_get (D := D) (ci := 7) (v := .ref (ad 5)) (C := RX7) (T := TX7) (N := 6) hx hb hg inGX7 hown hK hP 0 xo0 rfl 4 (by decide) (hg _ mw_342) (fun _ h9 => h9) xvX7_4 dX7_freshReduction_30 ?_
    exact W.aret (v := .ref (ad 5)) hx hb hr (Or.inl ⟨_, rfl⟩) (Or.inr ⟨_, rfl⟩) (fun t ht hW => ⟨⟨(XW ad cI cJ co fl ra li re wa pi), (ad 5), rfl, trivial, ⟨rfl, xw_eq rfl (show fl = (frDf co fl re) from (by simp only [frDf, frD, eq_false c_7, gi_sl, gi_sA, gi_sB, gi_si_s, gi_si_n, gl_si, gl_sA, gl_sB, gl_sl_s, gl_sl_n, gA_si, gA_sl, gA_sB, gA_sA_s, gA_sA_n, gB_si, gB_sl, gB_sA, gB_sB_s, gB_sB_n, Nat.reduceBEq, if_true, if_false, eq_self, Bool.false_eq_true, Bool.true_eq_false, not_true_eq_false, not_false_eq_true, decide_true, decide_false, cond_true, cond_false, Bool.true_and, Bool.false_and, Bool.and_true, Bool.and_false, Bool.true_or, Bool.false_or, Bool.or_true, Bool.or_false, b2i_tt, b2i_ff, pr_eta]; done)) rfl rfl (show re = (frD co fl re) from (by simp only [frDf, frD, eq_false c_7, gi_sl, gi_sA, gi_sB, gi_si_s, gi_si_n, gl_si, gl_sA, gl_sB, gl_sl_s, gl_sl_n, gA_si, gA_sl, gA_sB, gA_sA_s, gA_sA_n, gB_si, gB_sl, gB_sA, gB_sB_s, gB_sB_n, Nat.reduceBEq, if_true, if_false, eq_self, Bool.false_eq_true, Bool.true_eq_false, not_true_eq_false, not_false_eq_true, decide_true, decide_false, cond_true, cond_false, Bool.true_and, Bool.false_and, Bool.and_true, Bool.and_false, Bool.true_or, Bool.false_or, Bool.or_true, Bool.or_false, b2i_tt, b2i_ff, pr_eta]; done)) rfl rfl⟩, ⟨by rw [ht]; exact hP, va_K.moved hW.alike hK, hD⟩⟩, hS.F ht⟩) hS.2.2 dX7_freshReduction_33
  · refine lv_aload_n hx hb dX7_freshReduction_10 rfl (lv_at hl 0 rfl) ?_
    refine va_get (D := D) (ci := 7) (v := .ref (ad 5)) (C := RX7) (T := TX7) (N := 6) hx hb hg inGX7 hown hK hP 0 xo0 rfl 4 (by decide) (hg _ mw_342) (fun _ h9 => h9) xvX7_4 dX7_freshReduction_11 ?_
    refine lv_aload_n hx hb dX7_freshReduction_14 rfl (lv_at hl 0 rfl) ?_
    refine kR (rV (q0 := 0) (ci := 7) hx hb hml hown hg hN hK hP hD (c_freshFlow l D cI cJ ad co fl ra li re wa pi) mw_329 mw_330 mw_331 mw_332 mw_77 pdv_X7_freshFlow ⟨Nat.le_of_ble_eq_true rfl, Nat.le_of_ble_eq_true rfl⟩ rfl xo0 rfl hl.1 rfl (Nat.le_of_ble_eq_true rfl) dX7_freshReduction_15 ⟨Nat.le_of_ble_eq_true rfl, Nat.le_of_ble_eq_true rfl⟩) hD hS hA (fun r_1 u_1 H locs hp hP hD hS => ?_)
    obtain ⟨er, eu⟩ := hp
    obtain rfl := er.symm
    obtain rfl := eu.symm
    have hP : va_P D vwCl (XW ad cI cJ co (frF co fl) ra li re wa pi) H := hP
    have hD : va_D A (XW ad cI cJ co (frF co fl) ra li re wa pi) := hD
    refine kV (rV (q0 := 5) (ci := 5) hx hb hml hown hg hN hK hP hD (c_reduce l D cI cJ ad co (frF co fl) ra li re wa pi) mw_343 mw_344 mw_345 mw_346 mw_173 pdv_X5_reduce ⟨Nat.le_of_ble_eq_true rfl, Nat.le_of_ble_eq_true rfl⟩ rfl xo5 rfl hl.1 rfl (Nat.le_of_ble_eq_true rfl) dX7_freshReduction_18 ⟨Nat.le_of_ble_eq_true rfl, Nat.le_of_ble_eq_true rfl⟩) hD hS hA (fun u_2 H locs hp hP hD hS => ?_)
    obtain rfl := hp.symm
    have hP : va_P D vwCl (XW ad cI cJ co (frF co fl) ra li (reduce (frF co fl) re) wa pi) H := hP
    have hD : va_D A (XW ad cI cJ co (frF co fl) ra li (reduce (frF co fl) re) wa pi) := hD
    refine lv_aload_n hx hb dX7_freshReduction_21 rfl (lv_at hl 0 rfl) ?_
    refine va_get (D := D) (ci := 7) (v := .ref (ad 5)) (C := RX7) (T := TX7) (N := 6) hx hb hg inGX7 hown hK hP 0 xo0 rfl 4 (by decide) (hg _ mw_342) (fun _ h9 => h9) xvX7_4 dX7_freshReduction_22 ?_
    refine lv_iconst (v := 1) hx hb dX7_freshReduction_25 (by decide) ?_
    refine va_putN (D := D) (ci := 5) (v := .int 1) (C := RX5) (T := TX5) (N := 8) hx hb hg inGX5 tyX5 tyX5_ok nmX5 hown hK hP hD hS 5 xo5 rfl 7 (by decide) (hN.use nw_52) (fun _ h9 => h9) rfl (tyX5_ok 7 (by decide)) rfl rfl (Nat.le_of_ble_eq_true rfl) dX7_freshReduction_26 (fun H locs hP hD hS => ?_)
    have hP : va_P D vwCl (XW ad cI cJ co (frF co fl) ra li (si (reduce (frF co fl) re) 1 1) wa pi) H := cgP xpX5_7 hP
    have hD : va_D A (XW ad cI cJ co (frF co fl) ra li (si (reduce (frF co fl) re) 1 1) wa pi) := cgD xpX5_7 hD
    refine lv_aload_n hx hb dX7_freshReduction_29 rfl (lv_at hl 0 rfl) ?_
    refine va_get (D := D) (ci := 7) (v := .ref (ad 5)) (C := RX7) (T := TX7) (N := 6) hx hb hg inGX7 hown hK hP 0 xo0 rfl 4 (by decide) (hg _ mw_342) (fun _ h9 => h9) xvX7_4 dX7_freshReduction_30 ?_
    exact W.aret (v := .ref (ad 5)) hx hb hr (Or.inl ⟨_, rfl⟩) (Or.inr ⟨_, rfl⟩) (fun t ht hW => ⟨⟨(XW ad cI cJ co (frF co fl) ra li (si (reduce (frF co fl) re) 1 1) wa pi), (ad 5), rfl, trivial, ⟨rfl, xw_eq rfl (show (frF co fl) = (frDf co fl re) from (by simp only [frDf, frD, eq_true c_7, gi_sl, gi_sA, gi_sB, gi_si_s, gi_si_n, gl_si, gl_sA, gl_sB, gl_sl_s, gl_sl_n, gA_si, gA_sl, gA_sB, gA_sA_s, gA_sA_n, gB_si, gB_sl, gB_sA, gB_sB_s, gB_sB_n, Nat.reduceBEq, if_true, if_false, eq_self, Bool.false_eq_true, Bool.true_eq_false, not_true_eq_false, not_false_eq_true, decide_true, decide_false, cond_true, cond_false, Bool.true_and, Bool.false_and, Bool.and_true, Bool.and_false, Bool.true_or, Bool.false_or, Bool.or_true, Bool.or_false, b2i_tt, b2i_ff, pr_eta]; done)) rfl rfl (show (si (reduce (frF co fl) re) 1 1) = (frD co fl re) from (by simp only [frDf, frD, eq_true c_7, gi_sl, gi_sA, gi_sB, gi_si_s, gi_si_n, gl_si, gl_sA, gl_sB, gl_sl_s, gl_sl_n, gA_si, gA_sl, gA_sB, gA_sA_s, gA_sA_n, gB_si, gB_sl, gB_sA, gB_sB_s, gB_sB_n, Nat.reduceBEq, if_true, if_false, eq_self, Bool.false_eq_true, Bool.true_eq_false, not_true_eq_false, not_false_eq_true, decide_true, decide_false, cond_true, cond_false, Bool.true_and, Bool.false_and, Bool.and_true, Bool.and_false, Bool.true_or, Bool.false_or, Bool.or_true, Bool.or_false, b2i_tt, b2i_ff, pr_eta]; done)) rfl rfl⟩, ⟨by rw [ht]; exact hP, va_K.moved hW.alike hK, hD⟩⟩, hS.F ht⟩) hS.2.2 dX7_freshReduction_33
