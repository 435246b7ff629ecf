theorem dX7_freshPicture_0 : decode cX7_freshPicture 0 = .ok (.aload_n 0, 1) := by decide +kernel
theorem dX7_freshPicture_1 : decode cX7_freshPicture 1 = .ok (.getfield 47, 3) := by decide +kernel
theorem dX7_freshPicture_4 : decode cX7_freshPicture 4 = .ok (.getfield 336, 3) := by decide +kernel
theorem dX7_freshPicture_7 : decode cX7_freshPicture 7 = .ok (.ifCond .ne 22, 3) := by decide +kernel
theorem dX7_freshPicture_10 : decode cX7_freshPicture 10 = .ok (.aload_n 0, 1) := by decide +kernel
theorem dX7_freshPicture_11 : decode cX7_freshPicture 11 = .ok (.getfield 47, 3) := by decide +kernel
theorem dX7_freshPicture_14 : decode cX7_freshPicture 14 = .ok (.aload_n 0, 1) := by decide +kernel
theorem dX7_freshPicture_15 : decode cX7_freshPicture 15 = .ok (.invokevirtual 123, 3) := by decide +kernel
theorem dX7_freshPicture_18 : decode cX7_freshPicture 18 = .ok (.invokevirtual 352, 3) := by decide +kernel
theorem dX7_freshPicture_21 : decode cX7_freshPicture 21 = .ok (.aload_n 0, 1) := by decide +kernel
theorem dX7_freshPicture_22 : decode cX7_freshPicture 22 = .ok (.getfield 47, 3) := by decide +kernel
theorem dX7_freshPicture_25 : decode cX7_freshPicture 25 = .ok (.iconst 1, 1) := by decide +kernel
theorem dX7_freshPicture_26 : decode cX7_freshPicture 26 = .ok (.putfield 336, 3) := by decide +kernel
theorem dX7_freshPicture_29 : decode cX7_freshPicture 29 = .ok (.aload_n 0, 1) := by decide +kernel
theorem dX7_freshPicture_30 : decode cX7_freshPicture 30 = .ok (.getfield 47, 3) := by decide +kernel
theorem dX7_freshPicture_33 : decode cX7_freshPicture 33 = .ok (.areturn, 1) := by decide +kernel
theorem mw_347 : Cond.fieldLink RX7 47 "OrielChart" "picture" "LOrielChart$Picture;" ∈ GW := gw_mem (inT2 _ (List.mem_of_getElem? (i := 71) rfl)) rfl
theorem mw_348 : Cond.code yX3_draw cX3_draw 4 (none : Option FieldType) ∈ GW := gw_mem (inT3 _ (List.mem_of_getElem? (i := 17) rfl)) rfl
theorem mw_349 : Cond.methodLink RX7 352 yX3_draw ∈ GW := gw_mem (inT3 _ (List.mem_of_getElem? (i := 14) rfl)) rfl
theorem mw_350 : Cond.instanceMethod yX3_draw ∈ GW := gw_mem (inT3 _ (List.mem_of_getElem? (i := 15) rfl)) rfl
theorem mw_351 : Cond.selects RX3 yX3_draw yX3_draw ∈ GW := gw_mem (inT3 _ (List.mem_of_getElem? (i := 16) rfl)) rfl
theorem pdv_X3_draw : yX3_draw.cls = RX3 ∧ yX3_draw.cls ≠ "java/lang/invoke/MethodHandle" ∧ yX3_draw.cls ≠ "java/lang/invoke/VarHandle" ∧ (parseMethodDescriptor yX3_draw.desc).map (fun d => d.parameters.length) = some 1 := by decide +kernel
set_option maxHeartbeats 4000000 in
set_option maxRecDepth 100000 in
theorem c_freshPic (l : Launch) (D : va_G) (cI cJ : ClassId) (ad : Nat → Nat) (co fl ra li re wa pi : Ob) : CT l D (TY cI cJ) yX7_freshPicture (.code yX7_freshPicture cX7_freshPicture 1 (some (Jvm.ClassFile.FieldType.object "OrielChart$Picture"))) 6 0 0 (XW ad cI cJ co fl ra li re wa pi) [.ref (ad 0)] (QR D (TY cI cJ) (fun r u => r = (ad 6) ∧ u = (XW ad cI cJ co (frPf co fl pi) ra li re (frPw co fl wa pi) (frP co fl wa pi)))) := by
  refine ent (by decide) (Nat.le_of_ble_eq_true rfl) ?_
  intro p e s m below meth c ls A hx hb hr hg hown hml hlocks hnm hP hK hD hS hA hN hl
  have hl : lv_has ls 1 [(0, .ref (ad 0))] := hl
  refine lv_aload_n hx hb dX7_freshPicture_0 rfl (lv_at hl 0 rfl) ?_
  refine va_get (D := D) (ci := 7) (v := .ref (ad 6)) (C := RX7) (T := TX7) (N := 6) hx hb hg inGX7 hown hK hP 0 xo0 rfl 5 (by decide) (hg _ mw_347) (fun _ h9 => h9) xvX7_5 dX7_freshPicture_1 ?_
  refine va_getN (D := D) (ci := 3) (v := .int (gi pi 3)) (C := RX3) (T := TX3) (N := 16) hx hb hg inGX3 hown hK hP 6 xo6 rfl 15 (by decide) (hN.use nw_64) (fun _ h9 => h9) (xvX3_15 rfl) dX7_freshPicture_4 ?_
  refine lv_if_ne (tgt := 29) hx hb dX7_freshPicture_7 (by decide) (fun c_7 => ?_) (fun c_7 => ?_)
  · refine lv_aload_n hx hb dX7_freshPicture_29 rfl (lv_at hl 0 rfl) ?_
    refine va_get (D := D) (ci := 7) (v := .ref (ad 6)) (C := RX7) (T := TX7) (N := 6) hx hb hg inGX7 hown hK hP 0 xo0 rfl 5 (by decide) (hg _ mw_347) (fun _ h9 => h9) xvX7_5 dX7_freshPicture_30 ?_
    exact W.aret (v := .ref (ad 6)) hx hb hr (Or.inl ⟨_, rfl⟩) (Or.inr ⟨_, rfl⟩) (fun t ht hW => ⟨⟨(XW ad cI cJ co fl ra li re wa pi), (ad 6), rfl, trivial, ⟨rfl, xw_eq rfl (show fl = (frPf co fl pi) from (by simp only [frPf, frPw, frP, eq_false c_7, gi_sl, gi_sA, gi_sB, gi_si_s, gi_si_n, gl_si, gl_sA, gl_sB, gl_sl_s, gl_sl_n, gA_si, gA_sl, gA_sB, gA_sA_s, gA_sA_n, gB_si, gB_sl, gB_sA, gB_sB_s, gB_sB_n, Nat.reduceBEq, if_true, if_false, eq_self, Bool.false_eq_true, Bool.true_eq_false, not_true_eq_false, not_false_eq_true, decide_true, decide_false, cond_true, cond_false, Bool.true_and, Bool.false_and, Bool.and_true, Bool.and_false, Bool.true_or, Bool.false_or, Bool.or_true, Bool.or_false, b2i_tt, b2i_ff, pr_eta]; done)) rfl rfl rfl (show wa = (frPw co fl wa pi) from (by simp only [frPf, frPw, frP, eq_false c_7, gi_sl, gi_sA, gi_sB, gi_si_s, gi_si_n, gl_si, gl_sA, gl_sB, gl_sl_s, gl_sl_n, gA_si, gA_sl, gA_sB, gA_sA_s, gA_sA_n, gB_si, gB_sl, gB_sA, gB_sB_s, gB_sB_n, Nat.reduceBEq, if_true, if_false, eq_self, Bool.false_eq_true, Bool.true_eq_false, not_true_eq_false, not_false_eq_true, decide_true, decide_false, cond_true, cond_false, Bool.true_and, Bool.false_and, Bool.and_true, Bool.and_false, Bool.true_or, Bool.false_or, Bool.or_true, Bool.or_false, b2i_tt, b2i_ff, pr_eta]; done)) (show pi = (frP co fl wa pi) from (by simp only [frPf, frPw, frP, eq_false c_7, gi_sl, gi_sA, gi_sB, gi_si_s, gi_si_n, gl_si, gl_sA, gl_sB, gl_sl_s, gl_sl_n, gA_si, gA_sl, gA_sB, gA_sA_s, gA_sA_n, gB_si, gB_sl, gB_sA, gB_sB_s, gB_sB_n, Nat.reduceBEq, if_true, if_false, eq_self, Bool.false_eq_true, Bool.true_eq_false, not_true_eq_false, not_false_eq_true, decide_true, decide_false, cond_true, cond_false, Bool.true_and, Bool.false_and, Bool.and_true, Bool.and_false, Bool.true_or, Bool.false_or, Bool.or_true, Bool.or_false, b2i_tt, b2i_ff, pr_eta]; done))⟩, ⟨by rw [ht]; exact hP, va_K.moved hW.alike hK, hD⟩⟩, hS.F ht⟩) hS.2.2 dX7_freshPicture_33
  · refine lv_aload_n hx hb dX7_freshPicture_10 rfl (lv_at hl 0 rfl) ?_
    refine va_get (D := D) (ci := 7) (v := .ref (ad 6)) (C := RX7) (T := TX7) (N := 6) hx hb hg inGX7 hown hK hP 0 xo0 rfl 5 (by decide) (hg _ mw_347) (fun _ h9 => h9) xvX7_5 dX7_freshPicture_11 ?_
    refine lv_aload_n hx hb dX7_freshPicture_14 rfl (lv_at hl 0 rfl) ?_
    refine kR (rV (q0 := 0) (ci := 7) hx hb hml hown hg hN hK hP hD (c_freshFlow l D cI cJ ad co fl ra li re wa pi) mw_329 mw_330 mw_331 mw_332 mw_77 pdv_X7_freshFlow ⟨Nat.le_of_ble_eq_true rfl, Nat.le_of_ble_eq_true rfl⟩ rfl xo0 rfl hl.1 rfl (Nat.le_of_ble_eq_true rfl) dX7_freshPicture_15 ⟨Nat.le_of_ble_eq_true rfl, Nat.le_of_ble_eq_true rfl⟩) hD hS hA (fun r_1 u_1 H locs hp hP hD hS => ?_)
    obtain ⟨er, eu⟩ := hp
    obtain rfl := er.symm
    obtain rfl := eu.symm
    have hP : va_P D vwCl (XW ad cI cJ co (frF co fl) ra li re wa pi) H := hP
    have hD : va_D A (XW ad cI cJ co (frF co fl) ra li re wa pi) := hD
    refine kV (rV (q0 := 6) (ci := 3) hx hb hml hown hg hN hK hP hD (c_draw l D cI cJ ad co (frF co fl) ra li re wa pi) mw_348 mw_349 mw_350 mw_351 mw_234 pdv_X3_draw ⟨Nat.le_of_ble_eq_true rfl, Nat.le_of_ble_eq_true rfl⟩ rfl xo6 rfl hl.1 rfl (Nat.le_of_ble_eq_true rfl) dX7_freshPicture_18 ⟨Nat.le_of_ble_eq_true rfl, Nat.le_of_ble_eq_true rfl⟩) hD hS hA (fun u_2 H locs hp hP hD hS => ?_)
    obtain rfl := hp.symm
    have hP : va_P D vwCl (XW ad cI cJ co (frF co fl) ra li re (goThrough (frF co fl) wa) (draw (frF co fl) wa pi)) H := hP
    have hD : va_D A (XW ad cI cJ co (frF co fl) ra li re (goThrough (frF co fl) wa) (draw (frF co fl) wa pi)) := hD
    refine lv_aload_n hx hb dX7_freshPicture_21 rfl (lv_at hl 0 rfl) ?_
    refine va_get (D := D) (ci := 7) (v := .ref (ad 6)) (C := RX7) (T := TX7) (N := 6) hx hb hg inGX7 hown hK hP 0 xo0 rfl 5 (by decide) (hg _ mw_347) (fun _ h9 => h9) xvX7_5 dX7_freshPicture_22 ?_
    refine lv_iconst (v := 1) hx hb dX7_freshPicture_25 (by decide) ?_
    refine va_putN (D := D) (ci := 3) (v := .int 1) (C := RX3) (T := TX3) (N := 16) hx hb hg inGX3 tyX3 tyX3_ok nmX3 hown hK hP hD hS 6 xo6 rfl 15 (by decide) (hN.use nw_64) (fun _ h9 => h9) rfl (tyX3_ok 15 (by decide)) rfl rfl (Nat.le_of_ble_eq_true rfl) dX7_freshPicture_26 (fun H locs hP hD hS => ?_)
    have hP : va_P D vwCl (XW ad cI cJ co (frF co fl) ra li re (goThrough (frF co fl) wa) (si (draw (frF co fl) wa pi) 3 1)) H := cgP xpX3_15 hP
    have hD : va_D A (XW ad cI cJ co (frF co fl) ra li re (goThrough (frF co fl) wa) (si (draw (frF co fl) wa pi) 3 1)) := cgD xpX3_15 hD
    refine lv_aload_n hx hb dX7_freshPicture_29 rfl (lv_at hl 0 rfl) ?_
    refine va_get (D := D) (ci := 7) (v := .ref (ad 6)) (C := RX7) (T := TX7) (N := 6) hx hb hg inGX7 hown hK hP 0 xo0 rfl 5 (by decide) (hg _ mw_347) (fun _ h9 => h9) xvX7_5 dX7_freshPicture_30 ?_
    exact W.aret (v := .ref (ad 6)) hx hb hr (Or.inl ⟨_, rfl⟩) (Or.inr ⟨_, rfl⟩) (fun t ht hW => ⟨⟨(XW ad cI cJ co (frF co fl) ra li re (goThrough (frF co fl) wa) (si (draw (frF co fl) wa pi) 3 1)), (ad 6), rfl, trivial, ⟨rfl, xw_eq rfl (show (frF co fl) = (frPf co fl pi) from (by simp only [frPf, frPw, frP, eq_true c_7, gi_sl, gi_sA, gi_sB, gi_si_s, gi_si_n, gl_si, gl_sA, gl_sB, gl_sl_s, gl_sl_n, gA_si, gA_sl, gA_sB, gA_sA_s, gA_sA_n, gB_si, gB_sl, gB_sA, gB_sB_s, gB_sB_n, Nat.reduceBEq, if_true, if_false, eq_self, Bool.false_eq_true, Bool.true_eq_false, not_true_eq_false, not_false_eq_true, decide_true, decide_false, cond_true, cond_false, Bool.true_and, Bool.false_and, Bool.and_true, Bool.and_false, Bool.true_or, Bool.false_or, Bool.or_true, Bool.or_false, b2i_tt, b2i_ff, pr_eta]; done)) rfl rfl rfl (show (goThrough (frF co fl) wa) = (frPw co fl wa pi) from (by simp only [frPf, frPw, frP, eq_true c_7, gi_sl, gi_sA, gi_sB, gi_si_s, gi_si_n, gl_si, gl_sA, gl_sB, gl_sl_s, gl_sl_n, gA_si, gA_sl, gA_sB, gA_sA_s, gA_sA_n, gB_si, gB_sl, gB_sA, gB_sB_s, gB_sB_n, Nat.reduceBEq, if_true, if_false, eq_self, Bool.false_eq_true, Bool.true_eq_false, not_true_eq_false, not_false_eq_true, decide_true, decide_false, cond_true, cond_false, Bool.true_and, Bool.false_and, Bool.and_true, Bool.and_false, Bool.true_or, Bool.false_or, Bool.or_true, Bool.or_false, b2i_tt, b2i_ff, pr_eta]; done)) (show (si (draw (frF co fl) wa pi) 3 1) = (frP co fl wa pi) from (by simp only [frPf, frPw, frP, eq_true c_7, gi_sl, gi_sA, gi_sB, gi_si_s, gi_si_n, gl_si, gl_sA, gl_sB, gl_sl_s, gl_sl_n, gA_si, gA_sl, gA_sB, gA_sA_s, gA_sA_n, gB_si, gB_sl, gB_sA, gB_sB_s, gB_sB_n, Nat.reduceBEq, if_true, if_false, eq_self, Bool.false_eq_true, Bool.true_eq_false, not_true_eq_false, not_false_eq_true, decide_true, decide_false, cond_true, cond_false, Bool.true_and, Bool.false_and, Bool.and_true, Bool.and_false, Bool.true_or, Bool.false_or, Bool.or_true, Bool.or_false, b2i_tt, b2i_ff, pr_eta]; done))⟩, ⟨by rw [ht]; exact hP, va_K.moved hW.alike hK, hD⟩⟩, hS.F ht⟩) hS.2.2 dX7_freshPicture_33
