theorem dX7_freshLives_0 : decode cX7_freshLives 0 = .ok (.aload_n 0, 1) := by decide +kernel
theorem dX7_freshLives_1 : decode cX7_freshLives 1 = .ok (.getfield 33, 3) := by decide +kernel
theorem dX7_freshLives_4 : decode cX7_freshLives 4 = .ok (.getfield 119, 3) := by decide +kernel
theorem dX7_freshLives_7 : decode cX7_freshLives 7 = .ok (.ifCond .ne 26, 3) := by decide +kernel
theorem dX7_freshLives_10 : decode cX7_freshLives 10 = .ok (.aload_n 0, 1) := by decide +kernel
theorem dX7_freshLives_11 : decode cX7_freshLives 11 = .ok (.getfield 33, 3) := by decide +kernel
theorem dX7_freshLives_14 : decode cX7_freshLives 14 = .ok (.aload_n 0, 1) := by decide +kernel
theorem dX7_freshLives_15 : decode cX7_freshLives 15 = .ok (.getfield 10, 3) := by decide +kernel
theorem dX7_freshLives_18 : decode cX7_freshLives 18 = .ok (.aload_n 0, 1) := by decide +kernel
theorem dX7_freshLives_19 : decode cX7_freshLives 19 = .ok (.invokevirtual 123, 3) := by decide +kernel
theorem dX7_freshLives_22 : decode cX7_freshLives 22 = .ok (.invokevirtual 345, 3) := by decide +kernel
theorem dX7_freshLives_25 : decode cX7_freshLives 25 = .ok (.aload_n 0, 1) := by decide +kernel
theorem dX7_freshLives_26 : decode cX7_freshLives 26 = .ok (.getfield 33, 3) := by decide +kernel
theorem dX7_freshLives_29 : decode cX7_freshLives 29 = .ok (.iconst 1, 1) := by decide +kernel
theorem dX7_freshLives_30 : decode cX7_freshLives 30 = .ok (.putfield 119, 3) := by decide +kernel
theorem dX7_freshLives_33 : decode cX7_freshLives 33 = .ok (.aload_n 0, 1) := by decide +kernel
theorem dX7_freshLives_34 : decode cX7_freshLives 34 = .ok (.getfield 33, 3) := by decide +kernel
theorem dX7_freshLives_37 : decode cX7_freshLives 37 = .ok (.areturn, 1) := by decide +kernel
theorem mw_337 : Cond.fieldLink RX7 33 "OrielChart" "lives" "LOrielChart$Lives;" ∈ GW := gw_mem (inT2 _ (List.mem_of_getElem? (i := 69) rfl)) rfl
theorem mw_338 : Cond.code yX2_follow cX2_follow 5 (none : Option FieldType) ∈ GW := gw_mem (inT2 _ (List.mem_of_getElem? (i := 185) rfl)) rfl
theorem mw_339 : Cond.methodLink RX7 345 yX2_follow ∈ GW := gw_mem (inT2 _ (List.mem_of_getElem? (i := 182) rfl)) rfl
theorem mw_340 : Cond.instanceMethod yX2_follow ∈ GW := gw_mem (inT2 _ (List.mem_of_getElem? (i := 183) rfl)) rfl
theorem mw_341 : Cond.selects RX2 yX2_follow yX2_follow ∈ GW := gw_mem (inT2 _ (List.mem_of_getElem? (i := 184) rfl)) rfl
theorem pdv_X2_follow : yX2_follow.cls = RX2 ∧ yX2_follow.cls ≠ "java/lang/invoke/MethodHandle" ∧ yX2_follow.cls ≠ "java/lang/invoke/VarHandle" ∧ (parseMethodDescriptor yX2_follow.desc).map (fun d => d.parameters.length) = some 2 := by decide +kernel
set_option maxHeartbeats 4000000 in
set_option maxRecDepth 100000 in
theorem c_freshLives (l : Launch) (D : va_G) (cI cJ : ClassId) (ad : Nat → Nat) (co fl ra li re wa pi : Ob) (hlo : gi li 1 = 0 → FlowLo (frF co fl)) : CT l D (TY cI cJ) yX7_freshLives (.code yX7_freshLives cX7_freshLives 1 (some (Jvm.ClassFile.FieldType.object "OrielChart$Lives"))) 5 0 0 (XW ad cI cJ co fl ra li re wa pi) [.ref (ad 0)] (QR D (TY cI cJ) (fun r u => r = (ad 4) ∧ u = (XW ad cI cJ co (frLf co fl li) ra (frL co fl li) re wa pi))) := by
  refine ent (by decide) (Nat.le_of_ble_eq_true rfl) ?_
  intro p e s m below meth c ls A hx hb hr hg hown hml hlocks hnm hP hK hD hS hA hN hl
  have hl : lv_has ls 1 [(0, .ref (ad 0))] := hl
  refine lv_aload_n hx hb dX7_freshLives_0 rfl (lv_at hl 0 rfl) ?_
  refine va_get (D := D) (ci := 7) (v := .ref (ad 4)) (C := RX7) (T := TX7) (N := 6) hx hb hg inGX7 hown hK hP 0 xo0 rfl 3 (by decide) (hg _ mw_337) (fun _ h9 => h9) xvX7_3 dX7_freshLives_1 ?_
  refine va_getN (D := D) (ci := 2) (v := .int (gi li 1)) (C := RX2) (T := TX2) (N := 3) hx hb hg inGX2 hown hK hP 4 xo4 rfl 2 (by decide) (hN.use nw_45) (fun _ h9 => h9) (xvX2_2 rfl) dX7_freshLives_4 ?_
  refine lv_if_ne (tgt := 33) hx hb dX7_freshLives_7 (by decide) (fun c_7 => ?_) (fun c_7 => ?_)
  · refine lv_aload_n hx hb dX7_freshLives_33 rfl (lv_at hl 0 rfl) ?_
    refine va_get (D := D) (ci := 7) (v := .ref (ad 4)) (C := RX7) (T := TX7) (N := 6) hx hb hg inGX7 hown hK hP 0 xo0 rfl 3 (by decide) (hg _ mw_337) (fun _ h9 => h9) xvX7_3 dX7_freshLives_34 ?_
    exact W.aret (v := .ref (ad 4)) hx hb hr (Or.inl ⟨_, rfl⟩) (Or.inr ⟨_, rfl⟩) (fun t ht hW => ⟨⟨(XW ad cI cJ co fl ra li re wa pi), (ad 4), rfl, trivial, ⟨rfl, xw_eq rfl (show fl = (frLf co fl li) from (by simp only [frLf, frL, eq_false c_7, gi_sl, gi_sA, gi_sB, gi_si_s, gi_si_n, gl_si, gl_sA, gl_sB, gl_sl_s, gl_sl_n, gA_si, gA_sl, gA_sB, gA_sA_s, gA_sA_n, gB_si, gB_sl, gB_sA, gB_sB_s, gB_sB_n, Nat.reduceBEq, if_true, if_false, eq_self, Bool.false_eq_true, Bool.true_eq_false, not_true_eq_false, not_false_eq_true, decide_true, decide_false, cond_true, cond_false, Bool.true_and, Bool.false_and, Bool.and_true, Bool.and_false, Bool.true_or, Bool.false_or, Bool.or_true, Bool.or_false, b2i_tt, b2i_ff, pr_eta]; done)) rfl (show li = (frL co fl li) from (by simp only [frLf, frL, eq_false c_7, gi_sl, gi_sA, gi_sB, gi_si_s, gi_si_n, gl_si, gl_sA, gl_sB, gl_sl_s, gl_sl_n, gA_si, gA_sl, gA_sB, gA_sA_s, gA_sA_n, gB_si, gB_sl, gB_sA, gB_sB_s, gB_sB_n, Nat.reduceBEq, if_true, if_false, eq_self, Bool.false_eq_true, Bool.true_eq_false, not_true_eq_false, not_false_eq_true, decide_true, decide_false, cond_true, cond_false, Bool.true_and, Bool.false_and, Bool.and_true, Bool.and_false, Bool.true_or, Bool.false_or, Bool.or_true, Bool.or_false, b2i_tt, b2i_ff, pr_eta]; done)) rfl rfl rfl⟩, ⟨by rw [ht]; exact hP, va_K.moved hW.alike hK, hD⟩⟩, hS.F ht⟩) hS.2.2 dX7_freshLives_37
  · refine lv_aload_n hx hb dX7_freshLives_10 rfl (lv_at hl 0 rfl) ?_
    refine va_get (D := D) (ci := 7) (v := .ref (ad 4)) (C := RX7) (T := TX7) (N := 6) hx hb hg inGX7 hown hK hP 0 xo0 rfl 3 (by decide) (hg _ mw_337) (fun _ h9 => h9) xvX7_3 dX7_freshLives_11 ?_
    refine lv_aload_n hx hb dX7_freshLives_14 rfl (lv_at hl 0 rfl) ?_
    refine va_get (D := D) (ci := 7) (v := .ref (ad 1)) (C := RX7) (T := TX7) (N := 6) hx hb hg inGX7 hown hK hP 0 xo0 rfl 0 (by decide) (hg _ mw_323) (fun _ h9 => h9) xvX7_0 dX7_freshLives_15 ?_
    refine lv_aload_n hx hb dX7_freshLives_18 rfl (lv_at hl 0 rfl) ?_
    refine kR (rV (q0 := 0) (ci := 7) hx hb hml hown hg hN hK hP hD (c_freshFlow l D cI cJ ad co fl ra li re wa pi) mw_329 mw_330 mw_331 mw_332 mw_77 pdv_X7_freshFlow ⟨Nat.le_of_ble_eq_true rfl, Nat.le_of_ble_eq_true rfl⟩ rfl xo0 rfl hl.1 rfl (Nat.le_of_ble_eq_true rfl) dX7_freshLives_19 ⟨Nat.le_of_ble_eq_true rfl, Nat.le_of_ble_eq_true rfl⟩) hD hS hA (fun r_1 u_1 H locs hp hP hD hS => ?_)
    obtain ⟨er, eu⟩ := hp
    obtain rfl := er.symm
    obtain rfl := eu.symm
    have hP : va_P D vwCl (XW ad cI cJ co (frF co fl) ra li re wa pi) H := hP
    have hD : va_D A (XW ad cI cJ co (frF co fl) ra li re wa pi) := hD
    refine kV (rV (q0 := 4) (ci := 2) hx hb hml hown hg hN hK hP hD (c_follow l D cI cJ ad co (frF co fl) ra li re wa pi (hlo c_7)) mw_338 mw_339 mw_340 mw_341 mw_152 pdv_X2_follow ⟨Nat.le_of_ble_eq_true rfl, Nat.le_of_ble_eq_true rfl⟩ rfl xo4 rfl hl.1 rfl (Nat.le_of_ble_eq_true rfl) dX7_freshLives_22 ⟨Nat.le_of_ble_eq_true rfl, Nat.le_of_ble_eq_true rfl⟩) hD hS hA (fun u_2 H locs hp hP hD hS => ?_)
    obtain rfl := hp.symm
    have hP : va_P D vwCl (XW ad cI cJ co (frF co fl) ra (follow co (frF co fl) li) re wa pi) H := hP
    have hD : va_D A (XW ad cI cJ co (frF co fl) ra (follow co (frF co fl) li) re wa pi) := hD
    refine lv_aload_n hx hb dX7_freshLives_25 rfl (lv_at hl 0 rfl) ?_
    refine va_get (D := D) (ci := 7) (v := .ref (ad 4)) (C := RX7) (T := TX7) (N := 6) hx hb hg inGX7 hown hK hP 0 xo0 rfl 3 (by decide) (hg _ mw_337) (fun _ h9 => h9) xvX7_3 dX7_freshLives_26 ?_
    refine lv_iconst (v := 1) hx hb dX7_freshLives_29 (by decide) ?_
    refine va_putN (D := D) (ci := 2) (v := .int 1) (C := RX2) (T := TX2) (N := 3) hx hb hg inGX2 tyX2 tyX2_ok nmX2 hown hK hP hD hS 4 xo4 rfl 2 (by decide) (hN.use nw_45) (fun _ h9 => h9) rfl (tyX2_ok 2 (by decide)) rfl rfl (Nat.le_of_ble_eq_true rfl) dX7_freshLives_30 (fun H locs hP hD hS => ?_)
    have hP : va_P D vwCl (XW ad cI cJ co (frF co fl) ra (si (follow co (frF co fl) li) 1 1) re wa pi) H := cgP xpX2_2 hP
    have hD : va_D A (XW ad cI cJ co (frF co fl) ra (si (follow co (frF co fl) li) 1 1) re wa pi) := cgD xpX2_2 hD
    refine lv_aload_n hx hb dX7_freshLives_33 rfl (lv_at hl 0 rfl) ?_
    refine va_get (D := D) (ci := 7) (v := .ref (ad 4)) (C := RX7) (T := TX7) (N := 6) hx hb hg inGX7 hown hK hP 0 xo0 rfl 3 (by decide) (hg _ mw_337) (fun _ h9 => h9) xvX7_3 dX7_freshLives_34 ?_
    exact W.aret (v := .ref (ad 4)) hx hb hr (Or.inl ⟨_, rfl⟩) (Or.inr ⟨_, rfl⟩) (fun t ht hW => ⟨⟨(XW ad cI cJ co (frF co fl) ra (si (follow co (frF co fl) li) 1 1) re wa pi), (ad 4), rfl, trivial, ⟨rfl, xw_eq rfl (show (frF co fl) = (frLf co fl li) from (by simp only [frLf, frL, eq_true c_7, gi_sl, gi_sA, gi_sB, gi_si_s, gi_si_n, gl_si, gl_sA, gl_sB, gl_sl_s, gl_sl_n, gA_si, gA_sl, gA_sB, gA_sA_s, gA_sA_n, gB_si, gB_sl, gB_sA, gB_sB_s, gB_sB_n, Nat.reduceBEq, if_true, if_false, eq_self, Bool.false_eq_true, Bool.true_eq_false, not_true_eq_false, not_false_eq_true, decide_true, decide_false, cond_true, cond_false, Bool.true_and, Bool.false_and, Bool.and_true, Bool.and_false, Bool.true_or, Bool.false_or, Bool.or_true, Bool.or_false, b2i_tt, b2i_ff, pr_eta]; done)) rfl (show (si (follow co (frF co fl) li) 1 1) = (frL co fl li) from (by simp only [frLf, frL, eq_true c_7, gi_sl, gi_sA, gi_sB, gi_si_s, gi_si_n, gl_si, gl_sA, gl_sB, gl_sl_s, gl_sl_n, gA_si, gA_sl, gA_sB, gA_sA_s, gA_sA_n, gB_si, gB_sl, gB_sA, gB_sB_s, gB_sB_n, Nat.reduceBEq, if_true, if_false, eq_self, Bool.false_eq_true, Bool.true_eq_false, not_true_eq_false, not_false_eq_true, decide_true, decide_false, cond_true, cond_false, Bool.true_and, Bool.false_and, Bool.and_true, Bool.and_false, Bool.true_or, Bool.false_or, Bool.or_true, Bool.or_false, b2i_tt, b2i_ff, pr_eta]; done)) rfl rfl rfl⟩, ⟨by rw [ht]; exact hP, va_K.moved hW.alike hK, hD⟩⟩, hS.F ht⟩) hS.2.2 dX7_freshLives_37
