theorem dX3_bendCount_0 : decode cX3_bendCount 0 = .ok (.aload_n 0, 1) := by decide +kernel
theorem dX3_bendCount_1 : decode cX3_bendCount 1 = .ok (.getfield 12, 3) := by decide +kernel
theorem dX3_bendCount_4 : decode cX3_bendCount 4 = .ok (.iload_n 1, 1) := by decide +kernel
theorem dX3_bendCount_5 : decode cX3_bendCount 5 = .ok (.invokevirtual 104, 3) := by decide +kernel
theorem dX3_bendCount_8 : decode cX3_bendCount 8 = .ok (.ifCond .eq 19, 3) := by decide +kernel
theorem dX3_bendCount_11 : decode cX3_bendCount 11 = .ok (.aload_n 0, 1) := by decide +kernel
theorem dX3_bendCount_12 : decode cX3_bendCount 12 = .ok (.iload_n 1, 1) := by decide +kernel
theorem dX3_bendCount_13 : decode cX3_bendCount 13 = .ok (.invokevirtual 131, 3) := by decide +kernel
theorem dX3_bendCount_16 : decode cX3_bendCount 16 = .ok (.aload_n 0, 1) := by decide +kernel
theorem dX3_bendCount_17 : decode cX3_bendCount 17 = .ok (.iload_n 1, 1) := by decide +kernel
theorem dX3_bendCount_18 : decode cX3_bendCount 18 = .ok (.invokevirtual 111, 3) := by decide +kernel
theorem dX3_bendCount_21 : decode cX3_bendCount 21 = .ok (.isub, 1) := by decide +kernel
theorem dX3_bendCount_22 : decode cX3_bendCount 22 = .ok (.iconst 1, 1) := by decide +kernel
theorem dX3_bendCount_23 : decode cX3_bendCount 23 = .ok (.isub, 1) := by decide +kernel
theorem dX3_bendCount_24 : decode cX3_bendCount 24 = .ok (.goto 4, 3) := by decide +kernel
theorem dX3_bendCount_27 : decode cX3_bendCount 27 = .ok (.iconst (-1), 1) := by decide +kernel
theorem dX3_bendCount_28 : decode cX3_bendCount 28 = .ok (.ireturn, 1) := by decide +kernel
theorem mw_244 : Cond.code yX3_bottom cX3_bottom 2 (some Jvm.ClassFile.FieldType.int) ∈ GW := gw_mem (inT3 _ (List.mem_of_getElem? (i := 68) rfl)) rfl
theorem mw_245 : Cond.methodLink RX3 131 yX3_bottom ∈ GW := gw_mem (inT3 _ (List.mem_of_getElem? (i := 65) rfl)) rfl
theorem mw_246 : Cond.instanceMethod yX3_bottom ∈ GW := gw_mem (inT3 _ (List.mem_of_getElem? (i := 67) rfl)) rfl
theorem mw_247 : Cond.selects RX3 yX3_bottom yX3_bottom ∈ GW := gw_mem (inTp (q := (yX3_bottom, 16)) (List.mem_of_getElem? (i := 26) rfl)) rfl
theorem pdv_X3_bottom : yX3_bottom.cls = RX3 ∧ yX3_bottom.cls ≠ "java/lang/invoke/MethodHandle" ∧ yX3_bottom.cls ≠ "java/lang/invoke/VarHandle" ∧ (parseMethodDescriptor yX3_bottom.desc).map (fun d => d.parameters.length) = some 1 := by decide +kernel
set_option maxHeartbeats 4000000 in
set_option maxRecDepth 100000 in
theorem c_bendCount (l : Launch) (D : va_G) (cI cJ : ClassId) (ad : Nat → Nat) (co fl ra li re wa pi : Ob) (k1 : Int32) : CT l D (TY cI cJ) yX3_bendCount (.code yX3_bendCount cX3_bendCount 2 (some Jvm.ClassFile.FieldType.int)) 2 0 0 (XW ad cI cJ co fl ra li re wa pi) [.ref (ad 6), .int k1] (QI D (TY cI cJ) (fun r u => r = (bendCount wa pi k1) ∧ u = (XW ad cI cJ co fl ra li re wa pi))) := by
  refine ent (by decide) (Nat.le_of_ble_eq_true rfl) ?_
  intro p e s m below meth c ls A hx hb hr hg hown hml hlocks hnm hP hK hD hS hA hN hl
  have hl : lv_has ls 2 [(0, .ref (ad 6)), (1, .int k1)] := hl
  refine lv_aload_n hx hb dX3_bendCount_0 rfl (lv_at hl 0 rfl) ?_
  refine va_get (D := D) (ci := 3) (v := .ref (ad 7)) (C := RX3) (T := TX3) (N := 16) hx hb hg inGX3 hown hK hP 6 xo6 rfl 0 (by decide) (hg _ mw_227) (fun _ h9 => h9) xvX3_0 dX3_bendCount_1 ?_
  refine lv_iload_n hx hb dX3_bendCount_4 rfl (lv_at hl 1 rfl) ?_
  refine kI (rV (q0 := 7) (ci := 6) hx hb hml hown hg hN hK hP hD (c_draws l D cI cJ ad co fl ra li re wa pi k1) mw_204 mw_229 mw_206 mw_207 mw_208 pdv_X6_draws ⟨Nat.le_of_ble_eq_true rfl, Nat.le_of_ble_eq_true rfl⟩ rfl xo7 rfl hl.1 rfl (Nat.le_of_ble_eq_true rfl) dX3_bendCount_5 ⟨Nat.le_of_ble_eq_true rfl, Nat.le_of_ble_eq_true rfl⟩) hD hS hA (fun r_1 u_1 H locs hp hP hD hS => ?_)
  obtain ⟨er, eu⟩ := hp
  obtain rfl := er.symm
  obtain rfl := eu.symm
  refine lv_if_eq (tgt := 27) hx hb dX3_bendCount_8 (by decide) (fun c_8 => ?_) (fun c_8 => ?_)
  · have c_8 : ¬ (draws wa k1) = true := b2i_0 c_8
    refine lv_iconst (v := (-1)) hx hb dX3_bendCount_27 (by decide) ?_
    exact W.iret (v := (-1)) hx hb hr (fun t ht hW => ⟨⟨(-1), (XW ad cI cJ co fl ra li re wa pi), rfl, ⟨(show ((-1) : Int32) = (bendCount wa pi k1) from (by simp only [bendCount, bf_of c_8, gi_sl, gi_sA, gi_sB, gi_si_s, gi_si_n, gl_si, gl_sA, gl_sB, gl_sl_s, gl_sl_n, gA_si, gA_sl, gA_sB, gA_sA_s, gA_sA_n, gB_si, gB_sl, gB_sA, gB_sB_s, gB_sB_n, Nat.reduceBEq, if_true, if_false, eq_self, Bool.false_eq_true, Bool.true_eq_false, not_true_eq_false, not_false_eq_true, decide_true, decide_false, cond_true, cond_false, Bool.true_and, Bool.false_and, Bool.and_true, Bool.and_false, Bool.true_or, Bool.false_or, Bool.or_true, Bool.or_false, b2i_tt, b2i_ff, pr_eta]; done)), xw_eq rfl rfl rfl rfl rfl rfl rfl⟩, ⟨by rw [ht]; exact hP, va_K.moved hW.alike hK, hD⟩⟩, hS.F ht⟩) hS.2.2 dX3_bendCount_28
  · have c_8 : (draws wa k1) = true := b2i_1 c_8
    refine lv_aload_n hx hb dX3_bendCount_11 rfl (lv_at hl 0 rfl) ?_
    refine lv_iload_n hx hb dX3_bendCount_12 rfl (lv_at hl 1 rfl) ?_
    refine kI (rV (q0 := 6) (ci := 3) hx hb hml hown hg hN hK hP hD (c_bottom l D cI cJ ad co fl ra li re wa pi k1) mw_244 mw_245 mw_246 mw_247 mw_234 pdv_X3_bottom ⟨Nat.le_of_ble_eq_true rfl, Nat.le_of_ble_eq_true rfl⟩ rfl xo6 rfl hl.1 rfl (Nat.le_of_ble_eq_true rfl) dX3_bendCount_13 ⟨Nat.le_of_ble_eq_true rfl, Nat.le_of_ble_eq_true rfl⟩) hD hS hA (fun r_2 u_2 H locs hp hP hD hS => ?_)
    obtain ⟨er, eu⟩ := hp
    obtain rfl := er.symm
    obtain rfl := eu.symm
    refine lv_aload_n hx hb dX3_bendCount_16 rfl (lv_at hl 0 rfl) ?_
    refine lv_iload_n hx hb dX3_bendCount_17 rfl (lv_at hl 1 rfl) ?_
    refine kI (rV (q0 := 6) (ci := 3) hx hb hml hown hg hN hK hP hD (c_top l D cI cJ ad co fl ra li re wa pi k1) mw_230 mw_231 mw_232 mw_233 mw_234 pdv_X3_top ⟨Nat.le_of_ble_eq_true rfl, Nat.le_of_ble_eq_true rfl⟩ rfl xo6 rfl hl.1 rfl (Nat.le_of_ble_eq_true rfl) dX3_bendCount_18 ⟨Nat.le_of_ble_eq_true rfl, Nat.le_of_ble_eq_true rfl⟩) hD hS hA (fun r_3 u_3 H locs hp hP hD hS => ?_)
    obtain ⟨er, eu⟩ := hp
    obtain rfl := er.symm
    obtain rfl := eu.symm
    refine lv_isub hx hb dX3_bendCount_21 ?_
    refine lv_iconst (v := 1) hx hb dX3_bendCount_22 (by decide) ?_
    refine lv_isub hx hb dX3_bendCount_23 ?_
    refine lv_goto (tgt := 28) hx hb dX3_bendCount_24 (by decide) ?_
    exact W.iret (v := (((botE wa pi k1) - (topE wa pi k1)) - 1)) hx hb hr (fun t ht hW => ⟨⟨(((botE wa pi k1) - (topE wa pi k1)) - 1), (XW ad cI cJ co fl ra li re wa pi), rfl, ⟨(show ((((botE wa pi k1) - (topE wa pi k1)) - 1) : Int32) = (bendCount wa pi k1) from (by simp only [bendCount, c_8, gi_sl, gi_sA, gi_sB, gi_si_s, gi_si_n, gl_si, gl_sA, gl_sB, gl_sl_s, gl_sl_n, gA_si, gA_sl, gA_sB, gA_sA_s, gA_sA_n, gB_si, gB_sl, gB_sA, gB_sB_s, gB_sB_n, Nat.reduceBEq, if_true, if_false, eq_self, Bool.false_eq_true, Bool.true_eq_false, not_true_eq_false, not_false_eq_true, decide_true, decide_false, cond_true, cond_false, Bool.true_and, Bool.false_and, Bool.and_true, Bool.and_false, Bool.true_or, Bool.false_or, Bool.or_true, Bool.or_false, b2i_tt, b2i_ff, pr_eta]; done)), xw_eq rfl rfl rfl rfl rfl rfl rfl⟩, ⟨by rw [ht]; exact hP, va_K.moved hW.alike hK, hD⟩⟩, hS.F ht⟩) hS.2.2 dX3_bendCount_28
