theorem dX7_freshRanks_0 : decode cX7_freshRanks 0 = .ok (.aload_n 0, 1) := by decide +kernel
theorem dX7_freshRanks_1 : decode cX7_freshRanks 1 = .ok (.getfield 26, 3) := by decide +kernel
theorem dX7_freshRanks_4 : decode cX7_freshRanks 4 = .ok (.getfield 334, 3) := by decide +kernel
theorem dX7_freshRanks_7 : decode cX7_freshRanks 7 = .ok (.ifCond .ne 22, 3) := by decide +kernel
theorem dX7_freshRanks_10 : decode cX7_freshRanks 10 = .ok (.aload_n 0, 1) := by decide +kernel
theorem dX7_freshRanks_11 : decode cX7_freshRanks 11 = .ok (.getfield 26, 3) := by decide +kernel
theorem dX7_freshRanks_14 : decode cX7_freshRanks 14 = .ok (.aload_n 0, 1) := by decide +kernel
theorem dX7_freshRanks_15 : decode cX7_freshRanks 15 = .ok (.invokevirtual 123, 3) := by decide +kernel
theorem dX7_freshRanks_18 : decode cX7_freshRanks 18 = .ok (.invokevirtual 341, 3) := by decide +kernel
theorem dX7_freshRanks_21 : decode cX7_freshRanks 21 = .ok (.aload_n 0, 1) := by decide +kernel
theorem dX7_freshRanks_22 : decode cX7_freshRanks 22 = .ok (.getfield 26, 3) := by decide +kernel
theorem dX7_freshRanks_25 : decode cX7_freshRanks 25 = .ok (.iconst 1, 1) := by decide +kernel
theorem dX7_freshRanks_26 : decode cX7_freshRanks 26 = .ok (.putfield 334, 3) := by decide +kernel
theorem dX7_freshRanks_29 : decode cX7_freshRanks 29 = .ok (.aload_n 0, 1) := by decide +kernel
theorem dX7_freshRanks_30 : decode cX7_freshRanks 30 = .ok (.getfield 26, 3) := by decide +kernel
theorem dX7_freshRanks_33 : decode cX7_freshRanks 33 = .ok (.areturn, 1) := by decide +kernel
theorem mw_328 : Cond.fieldLink RX7 26 "OrielChart" "ranks" "LOrielChart$Ranks;" ∈ GW := gw_mem (inT2 _ (List.mem_of_getElem? (i := 68) rfl)) rfl
theorem mw_329 : Cond.code yX7_freshFlow cX7_freshFlow 1 (some (Jvm.ClassFile.FieldType.object "OrielChart$Flow")) ∈ GW := gw_mem (inT2 _ (List.mem_of_getElem? (i := 96) rfl)) rfl
theorem mw_330 : Cond.methodLink RX7 123 yX7_freshFlow ∈ GW := gw_mem (inT2 _ (List.mem_of_getElem? (i := 93) rfl)) rfl
theorem mw_331 : Cond.instanceMethod yX7_freshFlow ∈ GW := gw_mem (inT2 _ (List.mem_of_getElem? (i := 95) rfl)) rfl
theorem mw_332 : Cond.selects RX7 yX7_freshFlow yX7_freshFlow ∈ GW := gw_mem (inTp (q := (yX7_freshFlow, 6)) (List.mem_of_getElem? (i := 1) rfl)) rfl
theorem mw_333 : Cond.code yX4_rank cX4_rank 3 (none : Option FieldType) ∈ GW := gw_mem (inT2 _ (List.mem_of_getElem? (i := 155) rfl)) rfl
theorem mw_334 : Cond.methodLink RX7 341 yX4_rank ∈ GW := gw_mem (inT2 _ (List.mem_of_getElem? (i := 152) rfl)) rfl
theorem mw_335 : Cond.instanceMethod yX4_rank ∈ GW := gw_mem (inT2 _ (List.mem_of_getElem? (i := 153) rfl)) rfl
theorem mw_336 : Cond.selects RX4 yX4_rank yX4_rank ∈ GW := gw_mem (inT2 _ (List.mem_of_getElem? (i := 154) rfl)) rfl
theorem pdv_X7_freshFlow : yX7_freshFlow.cls = RX7 ∧ yX7_freshFlow.cls ≠ "java/lang/invoke/MethodHandle" ∧ yX7_freshFlow.cls ≠ "java/lang/invoke/VarHandle" ∧ (parseMethodDescriptor yX7_freshFlow.desc).map (fun d => d.parameters.length) = some 0 := by decide +kernel
theorem pdv_X4_rank : yX4_rank.cls = RX4 ∧ yX4_rank.cls ≠ "java/lang/invoke/MethodHandle" ∧ yX4_rank.cls ≠ "java/lang/invoke/VarHandle" ∧ (parseMethodDescriptor yX4_rank.desc).map (fun d => d.parameters.length) = some 1 := by decide +kernel
set_option maxHeartbeats 4000000 in
set_option maxRecDepth 100000 in
theorem c_freshRanks (l : Launch) (D : va_G) (cI cJ : ClassId) (ad : Nat → Nat) (co fl ra li re wa pi : Ob) : CT l D (TY cI cJ) yX7_freshRanks (.code yX7_freshRanks cX7_freshRanks 1 (some (Jvm.ClassFile.FieldType.object "OrielChart$Ranks"))) 5 0 0 (XW ad cI cJ co fl ra li re wa pi) [.ref (ad 0)] (QR D (TY cI cJ) (fun r u => r = (ad 3) ∧ u = (XW ad cI cJ co (frRf co fl ra) (frR co fl ra) li re wa pi))) := by
  refine ent (by decide) (Nat.le_of_ble_eq_true rfl) ?_
  intro p e s m below meth c ls A hx hb hr hg hown hml hlocks hnm hP hK hD hS hA hN hl
  have hl : lv_has ls 1 [(0, .ref (ad 0))] := hl
  refine lv_aload_n hx hb dX7_freshRanks_0 rfl (lv_at hl 0 rfl) ?_
  refine va_get (D := D) (ci := 7) (v := .ref (ad 3)) (C := RX7) (T := TX7) (N := 6) hx hb hg inGX7 hown hK hP 0 xo0 rfl 2 (by decide) (hg _ mw_328) (fun _ h9 => h9) xvX7_2 dX7_freshRanks_1 ?_
  refine va_getN (D := D) (ci := 4) (v := .int (gi ra 2)) (C := RX4) (T := TX4) (N := 7) hx hb hg inGX4 hown hK hP 3 xo3 rfl 6 (by decide) (hN.use nw_41) (fun _ h9 => h9) (xvX4_6 rfl) dX7_freshRanks_4 ?_
  refine lv_if_ne (tgt := 29) hx hb dX7_freshRanks_7 (by decide) (fun c_7 => ?_) (fun c_7 => ?_)
  · refine lv_aload_n hx hb dX7_freshRanks_29 rfl (lv_at hl 0 rfl) ?_
    refine va_get (D := D) (ci := 7) (v := .ref (ad 3)) (C := RX7) (T := TX7) (N := 6) hx hb hg inGX7 hown hK hP 0 xo0 rfl 2 (by decide) (hg _ mw_328) (fun _ h9 => h9) xvX7_2 dX7_freshRanks_30 ?_
    exact W.aret (v := .ref (ad 3)) hx hb hr (Or.inl ⟨_, rfl⟩) (Or.inr ⟨_, rfl⟩) (fun t ht hW => ⟨⟨(XW ad cI cJ co fl ra li re wa pi), (ad 3), rfl, trivial, ⟨rfl, xw_eq rfl (show fl = (frRf co fl ra) from (by simp only [frRf, frR, eq_false c_7, gi_sl, gi_sA, gi_sB, gi_si_s, gi_si_n, gl_si, gl_sA, gl_sB, gl_sl_s, gl_sl_n, gA_si, gA_sl, gA_sB, gA_sA_s, gA_sA_n, gB_si, gB_sl, gB_sA, gB_sB_s, gB_sB_n, Nat.reduceBEq, if_true, if_false, eq_self, Bool.false_eq_true, Bool.true_eq_false, not_true_eq_false, not_false_eq_true, decide_true, decide_false, cond_true, cond_false, Bool.true_and, Bool.false_and, Bool.and_true, Bool.and_false, Bool.true_or, Bool.false_or, Bool.or_true, Bool.or_false, b2i_tt, b2i_ff, pr_eta]; done)) (show ra = (frR co fl ra) from (by simp only [frRf, frR, eq_false c_7, gi_sl, gi_sA, gi_sB, gi_si_s, gi_si_n, gl_si, gl_sA, gl_sB, gl_sl_s, gl_sl_n, gA_si, gA_sl, gA_sB, gA_sA_s, gA_sA_n, gB_si, gB_sl, gB_sA, gB_sB_s, gB_sB_n, Nat.reduceBEq, if_true, if_false, eq_self, Bool.false_eq_true, Bool.true_eq_false, not_true_eq_false, not_false_eq_true, decide_true, decide_false, cond_true, cond_false, Bool.true_and, Bool.false_and, Bool.and_true, Bool.and_false, Bool.true_or, Bool.false_or, Bool.or_true, Bool.or_false, b2i_tt, b2i_ff, pr_eta]; done)) rfl rfl rfl rfl⟩, ⟨by rw [ht]; exact hP, va_K.moved hW.alike hK, hD⟩⟩, hS.F ht⟩) hS.2.2 dX7_freshRanks_33
  · refine lv_aload_n hx hb dX7_freshRanks_10 rfl (lv_at hl 0 rfl) ?_
    refine va_get (D := D) (ci := 7) (v := .ref (ad 3)) (C := RX7) (T := TX7) (N := 6) hx hb hg inGX7 hown hK hP 0 xo0 rfl 2 (by decide) (hg _ mw_328) (fun _ h9 => h9) xvX7_2 dX7_freshRanks_11 ?_
    refine lv_aload_n hx hb dX7_freshRanks_14 rfl (lv_at hl 0 rfl) ?_
    refine kR (rV (q0 := 0) (ci := 7) hx hb hml hown hg hN hK hP hD (c_freshFlow l D cI cJ ad co fl ra li re wa pi) mw_329 mw_330 mw_331 mw_332 mw_77 pdv_X7_freshFlow ⟨Nat.le_of_ble_eq_true rfl, Nat.le_of_ble_eq_true rfl⟩ rfl xo0 rfl hl.1 rfl (Nat.le_of_ble_eq_true rfl) dX7_freshRanks_15 ⟨Nat.le_of_ble_eq_true rfl, Nat.le_of_ble_eq_true rfl⟩) hD hS hA (fun r_1 u_1 H locs hp hP hD hS => ?_)
    obtain ⟨er, eu⟩ := hp
    obtain rfl := er.symm
    obtain rfl := eu.symm
    have hP : va_P D vwCl (XW ad cI cJ co (frF co fl) ra li re wa pi) H := hP
    have hD : va_D A (XW ad cI cJ co (frF co fl) ra li re wa pi) := hD
    refine kV (rV (q0 := 3) (ci := 4) hx hb hml hown hg hN hK hP hD (c_rank l D cI cJ ad co (frF co fl) ra li re wa pi) mw_333 mw_334 mw_335 mw_336 mw_130 pdv_X4_rank ⟨Nat.le_of_ble_eq_true rfl, Nat.le_of_ble_eq_true rfl⟩ rfl xo3 rfl hl.1 rfl (Nat.le_of_ble_eq_true rfl) dX7_freshRanks_18 ⟨Nat.le_of_ble_eq_true rfl, Nat.le_of_ble_eq_true rfl⟩) hD hS hA (fun u_2 H locs hp hP hD hS => ?_)
    obtain rfl := hp.symm
    have hP : va_P D vwCl (XW ad cI cJ co (frF co fl) (rank (frF co fl) ra) li re wa pi) H := hP
    have hD : va_D A (XW ad cI cJ co (frF co fl) (rank (frF co fl) ra) li re wa pi) := hD
    refine lv_aload_n hx hb dX7_freshRanks_21 rfl (lv_at hl 0 rfl) ?_
    refine va_get (D := D) (ci := 7) (v := .ref (ad 3)) (C := RX7) (T := TX7) (N := 6) hx hb hg inGX7 hown hK hP 0 xo0 rfl 2 (by decide) (hg _ mw_328) (fun _ h9 => h9) xvX7_2 dX7_freshRanks_22 ?_
    refine lv_iconst (v := 1) hx hb dX7_freshRanks_25 (by decide) ?_
    refine va_putN (D := D) (ci := 4) (v := .int 1) (C := RX4) (T := TX4) (N := 7) hx hb hg inGX4 tyX4 tyX4_ok nmX4 hown hK hP hD hS 3 xo3 rfl 6 (by decide) (hN.use nw_41) (fun _ h9 => h9) rfl (tyX4_ok 6 (by decide)) rfl rfl (Nat.le_of_ble_eq_true rfl) dX7_freshRanks_26 (fun H locs hP hD hS => ?_)
    have hP : va_P D vwCl (XW ad cI cJ co (frF co fl) (si (rank (frF co fl) ra) 2 1) li re wa pi) H := cgP xpX4_6 hP
    have hD : va_D A (XW ad cI cJ co (frF co fl) (si (rank (frF co fl) ra) 2 1) li re wa pi) := cgD xpX4_6 hD
    refine lv_aload_n hx hb dX7_freshRanks_29 rfl (lv_at hl 0 rfl) ?_
    refine va_get (D := D) (ci := 7) (v := .ref (ad 3)) (C := RX7) (T := TX7) (N := 6) hx hb hg inGX7 hown hK hP 0 xo0 rfl 2 (by decide) (hg _ mw_328) (fun _ h9 => h9) xvX7_2 dX7_freshRanks_30 ?_
    exact W.aret (v := .ref (ad 3)) hx hb hr (Or.inl ⟨_, rfl⟩) (Or.inr ⟨_, rfl⟩) (fun t ht hW => ⟨⟨(XW ad cI cJ co (frF co fl) (si (rank (frF co fl) ra) 2 1) li re wa pi), (ad 3), rfl, trivial, ⟨rfl, xw_eq rfl (show (frF co fl) = (frRf co fl ra) from (by simp only [frRf, frR, eq_true c_7, gi_sl, gi_sA, gi_sB, gi_si_s, gi_si_n, gl_si, gl_sA, gl_sB, gl_sl_s, gl_sl_n, gA_si, gA_sl, gA_sB, gA_sA_s, gA_sA_n, gB_si, gB_sl, gB_sA, gB_sB_s, gB_sB_n, Nat.reduceBEq, if_true, if_false, eq_self, Bool.false_eq_true, Bool.true_eq_false, not_true_eq_false, not_false_eq_true, decide_true, decide_false, cond_true, cond_false, Bool.true_and, Bool.false_and, Bool.and_true, Bool.and_false, Bool.true_or, Bool.false_or, Bool.or_true, Bool.or_false, b2i_tt, b2i_ff, pr_eta]; done)) (show (si (rank (frF co fl) ra) 2 1) = (frR co fl ra) from (by simp only [frRf, frR, eq_true c_7, gi_sl, gi_sA, gi_sB, gi_si_s, gi_si_n, gl_si, gl_sA, gl_sB, gl_sl_s, gl_sl_n, gA_si, gA_sl, gA_sB, gA_sA_s, gA_sA_n, gB_si, gB_sl, gB_sA, gB_sB_s, gB_sB_n, Nat.reduceBEq, if_true, if_false, eq_self, Bool.false_eq_true, Bool.true_eq_false, not_true_eq_false, not_false_eq_true, decide_true, decide_false, cond_true, cond_false, Bool.true_and, Bool.false_and, Bool.and_true, Bool.and_false, Bool.true_or, Bool.false_or, Bool.or_true, Bool.or_false, b2i_tt, b2i_ff, pr_eta]; done)) rfl rfl rfl rfl⟩, ⟨by rw [ht]; exact hP, va_K.moved hW.alike hK, hD⟩⟩, hS.F ht⟩) hS.2.2 dX7_freshRanks_33
