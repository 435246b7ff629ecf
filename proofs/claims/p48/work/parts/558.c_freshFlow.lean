theorem dX7_freshFlow_0 : decode cX7_freshFlow 0 = .ok (.aload_n 0, 1) := by decide +kernel
theorem dX7_freshFlow_1 : decode cX7_freshFlow 1 = .ok (.getfield 19, 3) := by decide +kernel
theorem dX7_freshFlow_4 : decode cX7_freshFlow 4 = .ok (.getfield 333, 3) := by decide +kernel
theorem dX7_freshFlow_7 : decode cX7_freshFlow 7 = .ok (.ifCond .ne 22, 3) := by decide +kernel
theorem dX7_freshFlow_10 : decode cX7_freshFlow 10 = .ok (.aload_n 0, 1) := by decide +kernel
theorem dX7_freshFlow_11 : decode cX7_freshFlow 11 = .ok (.getfield 19, 3) := by decide +kernel
theorem dX7_freshFlow_14 : decode cX7_freshFlow 14 = .ok (.aload_n 0, 1) := by decide +kernel
theorem dX7_freshFlow_15 : decode cX7_freshFlow 15 = .ok (.getfield 10, 3) := by decide +kernel
theorem dX7_freshFlow_18 : decode cX7_freshFlow 18 = .ok (.invokevirtual 337, 3) := by decide +kernel
theorem dX7_freshFlow_21 : decode cX7_freshFlow 21 = .ok (.aload_n 0, 1) := by decide +kernel
theorem dX7_freshFlow_22 : decode cX7_freshFlow 22 = .ok (.getfield 19, 3) := by decide +kernel
theorem dX7_freshFlow_25 : decode cX7_freshFlow 25 = .ok (.iconst 1, 1) := by decide +kernel
theorem dX7_freshFlow_26 : decode cX7_freshFlow 26 = .ok (.putfield 333, 3) := by decide +kernel
theorem dX7_freshFlow_29 : decode cX7_freshFlow 29 = .ok (.aload_n 0, 1) := by decide +kernel
theorem dX7_freshFlow_30 : decode cX7_freshFlow 30 = .ok (.getfield 19, 3) := by decide +kernel
theorem dX7_freshFlow_33 : decode cX7_freshFlow 33 = .ok (.areturn, 1) := by decide +kernel
theorem mw_322 : Cond.fieldLink RX7 19 "OrielChart" "flow" "LOrielChart$Flow;" ∈ GW := gw_mem (inT2 _ (List.mem_of_getElem? (i := 67) rfl)) rfl
theorem mw_323 : Cond.fieldLink RX7 10 "OrielChart" "code" "LOrielChart$Code;" ∈ GW := gw_mem (inT2 _ (List.mem_of_getElem? (i := 66) rfl)) rfl
theorem mw_324 : Cond.code yX1_part cX1_part 3 (none : Option FieldType) ∈ GW := gw_mem (inT2 _ (List.mem_of_getElem? (i := 100) rfl)) rfl
theorem mw_325 : Cond.methodLink RX7 337 yX1_part ∈ GW := gw_mem (inT2 _ (List.mem_of_getElem? (i := 97) rfl)) rfl
theorem mw_326 : Cond.instanceMethod yX1_part ∈ GW := gw_mem (inT2 _ (List.mem_of_getElem? (i := 98) rfl)) rfl
theorem mw_327 : Cond.selects RX1 yX1_part yX1_part ∈ GW := gw_mem (inT2 _ (List.mem_of_getElem? (i := 99) rfl)) rfl
theorem pdv_X1_part : yX1_part.cls = RX1 ∧ yX1_part.cls ≠ "java/lang/invoke/MethodHandle" ∧ yX1_part.cls ≠ "java/lang/invoke/VarHandle" ∧ (parseMethodDescriptor yX1_part.desc).map (fun d => d.parameters.length) = some 1 := by decide +kernel
set_option maxHeartbeats 4000000 in
set_option maxRecDepth 100000 in
theorem c_freshFlow (l : Launch) (D : va_G) (cI cJ : ClassId) (ad : Nat → Nat) (co fl ra li re wa pi : Ob) : CT l D (TY cI cJ) yX7_freshFlow (.code yX7_freshFlow cX7_freshFlow 1 (some (Jvm.ClassFile.FieldType.object "OrielChart$Flow"))) 4 0 0 (XW ad cI cJ co fl ra li re wa pi) [.ref (ad 0)] (QR D (TY cI cJ) (fun r u => r = (ad 2) ∧ u = (XW ad cI cJ co (frF co fl) ra li re wa pi))) := by
  refine ent (by decide) (Nat.le_of_ble_eq_true rfl) ?_
  intro p e s m below meth c ls A hx hb hr hg hown hml hlocks hnm hP hK hD hS hA hN hl
  have hl : lv_has ls 1 [(0, .ref (ad 0))] := hl
  refine lv_aload_n hx hb dX7_freshFlow_0 rfl (lv_at hl 0 rfl) ?_
  refine va_get (D := D) (ci := 7) (v := .ref (ad 2)) (C := RX7) (T := TX7) (N := 6) hx hb hg inGX7 hown hK hP 0 xo0 rfl 1 (by decide) (hg _ mw_322) (fun _ h9 => h9) xvX7_1 dX7_freshFlow_1 ?_
  refine va_getN (D := D) (ci := 1) (v := .int (gi fl 2)) (C := RX1) (T := TX1) (N := 11) hx hb hg inGX1 hown hK hP 2 xo2 rfl 10 (by decide) (hN.use nw_36) (fun _ h9 => h9) (xvX1_10 rfl) dX7_freshFlow_4 ?_
  refine lv_if_ne (tgt := 29) hx hb dX7_freshFlow_7 (by decide) (fun c_7 => ?_) (fun c_7 => ?_)
  · refine lv_aload_n hx hb dX7_freshFlow_29 rfl (lv_at hl 0 rfl) ?_
    refine va_get (D := D) (ci := 7) (v := .ref (ad 2)) (C := RX7) (T := TX7) (N := 6) hx hb hg inGX7 hown hK hP 0 xo0 rfl 1 (by decide) (hg _ mw_322) (fun _ h9 => h9) xvX7_1 dX7_freshFlow_30 ?_
    exact W.aret (v := .ref (ad 2)) hx hb hr (Or.inl ⟨_, rfl⟩) (Or.inr ⟨_, rfl⟩) (fun t ht hW => ⟨⟨(XW ad cI cJ co fl ra li re wa pi), (ad 2), rfl, trivial, ⟨rfl, xw_eq rfl (show fl = (frF co fl) from (by simp only [frF, eq_false c_7, gi_sl, gi_sA, gi_sB, gi_si_s, gi_si_n, gl_si, gl_sA, gl_sB, gl_sl_s, gl_sl_n, gA_si, gA_sl, gA_sB, gA_sA_s, gA_sA_n, gB_si, gB_sl, gB_sA, gB_sB_s, gB_sB_n, Nat.reduceBEq, if_true, if_false, eq_self, Bool.false_eq_true, Bool.true_eq_false, not_true_eq_false, not_false_eq_true, decide_true, decide_false, cond_true, cond_false, Bool.true_and, Bool.false_and, Bool.and_true, Bool.and_false, Bool.true_or, Bool.false_or, Bool.or_true, Bool.or_false, b2i_tt, b2i_ff, pr_eta]; done)) rfl rfl rfl rfl rfl⟩, ⟨by rw [ht]; exact hP, va_K.moved hW.alike hK, hD⟩⟩, hS.F ht⟩) hS.2.2 dX7_freshFlow_33
  · refine lv_aload_n hx hb dX7_freshFlow_10 rfl (lv_at hl 0 rfl) ?_
    refine va_get (D := D) (ci := 7) (v := .ref (ad 2)) (C := RX7) (T := TX7) (N := 6) hx hb hg inGX7 hown hK hP 0 xo0 rfl 1 (by decide) (hg _ mw_322) (fun _ h9 => h9) xvX7_1 dX7_freshFlow_11 ?_
    refine lv_aload_n hx hb dX7_freshFlow_14 rfl (lv_at hl 0 rfl) ?_
    refine va_get (D := D) (ci := 7) (v := .ref (ad 1)) (C := RX7) (T := TX7) (N := 6) hx hb hg inGX7 hown hK hP 0 xo0 rfl 0 (by decide) (hg _ mw_323) (fun _ h9 => h9) xvX7_0 dX7_freshFlow_15 ?_
    refine kV (rV (q0 := 2) (ci := 1) hx hb hml hown hg hN hK hP hD (c_part l D cI cJ ad co fl ra li re wa pi) mw_324 mw_325 mw_326 mw_327 mw_106 pdv_X1_part ⟨Nat.le_of_ble_eq_true rfl, Nat.le_of_ble_eq_true rfl⟩ rfl xo2 rfl hl.1 rfl (Nat.le_of_ble_eq_true rfl) dX7_freshFlow_18 ⟨Nat.le_of_ble_eq_true rfl, Nat.le_of_ble_eq_true rfl⟩) hD hS hA (fun u_1 H locs hp hP hD hS => ?_)
    obtain rfl := hp.symm
    have hP : va_P D vwCl (XW ad cI cJ co (part co fl) ra li re wa pi) H := hP
    have hD : va_D A (XW ad cI cJ co (part co fl) ra li re wa pi) := hD
    refine lv_aload_n hx hb dX7_freshFlow_21 rfl (lv_at hl 0 rfl) ?_
    refine va_get (D := D) (ci := 7) (v := .ref (ad 2)) (C := RX7) (T := TX7) (N := 6) hx hb hg inGX7 hown hK hP 0 xo0 rfl 1 (by decide) (hg _ mw_322) (fun _ h9 => h9) xvX7_1 dX7_freshFlow_22 ?_
    refine lv_iconst (v := 1) hx hb dX7_freshFlow_25 (by decide) ?_
    refine va_putN (D := D) (ci := 1) (v := .int 1) (C := RX1) (T := TX1) (N := 11) hx hb hg inGX1 tyX1 tyX1_ok nmX1 hown hK hP hD hS 2 xo2 rfl 10 (by decide) (hN.use nw_36) (fun _ h9 => h9) rfl (tyX1_ok 10 (by decide)) rfl rfl (Nat.le_of_ble_eq_true rfl) dX7_freshFlow_26 (fun H locs hP hD hS => ?_)
    have hP : va_P D vwCl (XW ad cI cJ co (si (part co fl) 2 1) ra li re wa pi) H := cgP xpX1_10 hP
    have hD : va_D A (XW ad cI cJ co (si (part co fl) 2 1) ra li re wa pi) := cgD xpX1_10 hD
    refine lv_aload_n hx hb dX7_freshFlow_29 rfl (lv_at hl 0 rfl) ?_
    refine va_get (D := D) (ci := 7) (v := .ref (ad 2)) (C := RX7) (T := TX7) (N := 6) hx hb hg inGX7 hown hK hP 0 xo0 rfl 1 (by decide) (hg _ mw_322) (fun _ h9 => h9) xvX7_1 dX7_freshFlow_30 ?_
    exact W.aret (v := .ref (ad 2)) hx hb hr (Or.inl ⟨_, rfl⟩) (Or.inr ⟨_, rfl⟩) (fun t ht hW => ⟨⟨(XW ad cI cJ co (si (part co fl) 2 1) ra li re wa pi), (ad 2), rfl, trivial, ⟨rfl, xw_eq rfl (show (si (part co fl) 2 1) = (frF co fl) from (by simp only [frF, eq_true c_7, gi_sl, gi_sA, gi_sB, gi_si_s, gi_si_n, gl_si, gl_sA, gl_sB, gl_sl_s, gl_sl_n, gA_si, gA_sl, gA_sB, gA_sA_s, gA_sA_n, gB_si, gB_sl, gB_sA, gB_sB_s, gB_sB_n, Nat.reduceBEq, if_true, if_false, eq_self, Bool.false_eq_true, Bool.true_eq_false, not_true_eq_false, not_false_eq_true, decide_true, decide_false, cond_true, cond_false, Bool.true_and, Bool.false_and, Bool.and_true, Bool.and_false, Bool.true_or, Bool.false_or, Bool.or_true, Bool.or_false, b2i_tt, b2i_ff, pr_eta]; done)) rfl rfl rfl rfl rfl⟩, ⟨by rw [ht]; exact hP, va_K.moved hW.alike hK, hD⟩⟩, hS.F ht⟩) hS.2.2 dX7_freshFlow_33
