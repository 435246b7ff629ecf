theorem dX3_pointOn_0 : decode cX3_pointOn 0 = .ok (.iload_n 2, 1) := by decide +kernel
theorem dX3_pointOn_1 : decode cX3_pointOn 1 = .ok (.aload_n 0, 1) := by decide +kernel
theorem dX3_pointOn_2 : decode cX3_pointOn 2 = .ok (.iload_n 1, 1) := by decide +kernel
theorem dX3_pointOn_3 : decode cX3_pointOn 3 = .ok (.invokevirtual 111, 3) := by decide +kernel
theorem dX3_pointOn_6 : decode cX3_pointOn 6 = .ok (.if_icmp .ne 15, 3) := by decide +kernel
theorem dX3_pointOn_9 : decode cX3_pointOn 9 = .ok (.aload_n 0, 1) := by decide +kernel
theorem dX3_pointOn_10 : decode cX3_pointOn 10 = .ok (.getfield 12, 3) := by decide +kernel
theorem dX3_pointOn_13 : decode cX3_pointOn 13 = .ok (.getfield 115, 3) := by decide +kernel
theorem dX3_pointOn_16 : decode cX3_pointOn 16 = .ok (.iload_n 1, 1) := by decide +kernel
theorem dX3_pointOn_17 : decode cX3_pointOn 17 = .ok (.invokestatic 95, 3) := by decide +kernel
theorem dX3_pointOn_20 : decode cX3_pointOn 20 = .ok (.ireturn, 1) := by decide +kernel
theorem dX3_pointOn_21 : decode cX3_pointOn 21 = .ok (.iload_n 2, 1) := by decide +kernel
theorem dX3_pointOn_22 : decode cX3_pointOn 22 = .ok (.aload_n 0, 1) := by decide +kernel
theorem dX3_pointOn_23 : decode cX3_pointOn 23 = .ok (.iload_n 1, 1) := by decide +kernel
theorem dX3_pointOn_24 : decode cX3_pointOn 24 = .ok (.invokevirtual 131, 3) := by decide +kernel
theorem dX3_pointOn_27 : decode cX3_pointOn 27 = .ok (.if_icmp .ne 15, 3) := by decide +kernel
theorem dX3_pointOn_30 : decode cX3_pointOn 30 = .ok (.aload_n 0, 1) := by decide +kernel
theorem dX3_pointOn_31 : decode cX3_pointOn 31 = .ok (.getfield 12, 3) := by decide +kernel
theorem dX3_pointOn_34 : decode cX3_pointOn 34 = .ok (.getfield 108, 3) := by decide +kernel
theorem dX3_pointOn_37 : decode cX3_pointOn 37 = .ok (.iload_n 1, 1) := by decide +kernel
theorem dX3_pointOn_38 : decode cX3_pointOn 38 = .ok (.invokestatic 95, 3) := by decide +kernel
theorem dX3_pointOn_41 : decode cX3_pointOn 41 = .ok (.ireturn, 1) := by decide +kernel
theorem dX3_pointOn_42 : decode cX3_pointOn 42 = .ok (.aload_n 0, 1) := by decide +kernel
theorem dX3_pointOn_43 : decode cX3_pointOn 43 = .ok (.getfield 25, 3) := by decide +kernel
theorem dX3_pointOn_46 : decode cX3_pointOn 46 = .ok (.iload_n 1, 1) := by decide +kernel
theorem dX3_pointOn_47 : decode cX3_pointOn 47 = .ok (.invokestatic 95, 3) := by decide +kernel
theorem dX3_pointOn_50 : decode cX3_pointOn 50 = .ok (.iload_n 2, 1) := by decide +kernel
theorem dX3_pointOn_51 : decode cX3_pointOn 51 = .ok (.iadd, 1) := by decide +kernel
theorem dX3_pointOn_52 : decode cX3_pointOn 52 = .ok (.aload_n 0, 1) := by decide +kernel
theorem dX3_pointOn_53 : decode cX3_pointOn 53 = .ok (.iload_n 1, 1) := by decide +kernel
theorem dX3_pointOn_54 : decode cX3_pointOn 54 = .ok (.invokevirtual 111, 3) := by decide +kernel
theorem dX3_pointOn_57 : decode cX3_pointOn 57 = .ok (.isub, 1) := by decide +kernel
theorem dX3_pointOn_58 : decode cX3_pointOn 58 = .ok (.iconst 1, 1) := by decide +kernel
theorem dX3_pointOn_59 : decode cX3_pointOn 59 = .ok (.isub, 1) := by decide +kernel
theorem dX3_pointOn_60 : decode cX3_pointOn 60 = .ok (.ireturn, 1) := by decide +kernel
set_option maxHeartbeats 4000000 in
set_option maxRecDepth 100000 in
theorem c_pointOn (l : Launch) (D : va_G) (cI cJ : ClassId) (ad : Nat → Nat) (co fl ra li re wa pi : Ob) (k1 : Int32) (k2 : Int32) : CT l D (TY cI cJ) yX3_pointOn (.code yX3_pointOn cX3_pointOn 3 (some Jvm.ClassFile.FieldType.int)) 2 0 0 (XW ad cI cJ co fl ra li re wa pi) [.ref (ad 6), .int k1, .int k2] (QI D (TY cI cJ) (fun r u => r = (pointOn wa pi k1 k2) ∧ u = (XW ad cI cJ co fl ra li re wa pi))) := by
  refine ent (by decide) (Nat.le_of_ble_eq_true rfl) ?_
  intro p e s m below meth c ls A hx hb hr hg hown hml hlocks hnm hP hK hD hS hA hN hl
  have hl : lv_has ls 3 [(0, .ref (ad 6)), (1, .int k1), (2, .int k2)] := hl
  refine lv_iload_n hx hb dX3_pointOn_0 rfl (lv_at hl 2 rfl) ?_
  refine lv_aload_n hx hb dX3_pointOn_1 rfl (lv_at hl 0 rfl) ?_
  refine lv_iload_n hx hb dX3_pointOn_2 rfl (lv_at hl 1 rfl) ?_
  refine kI (rV (q0 := 6) (ci := 3) hx hb hml hown hg hN hK hP hD (c_top l D cI cJ ad co fl ra li re wa pi k1) mw_230 mw_231 mw_232 mw_233 mw_234 pdv_X3_top ⟨Nat.le_of_ble_eq_true rfl, Nat.le_of_ble_eq_true rfl⟩ rfl xo6 rfl hl.1 rfl (Nat.le_of_ble_eq_true rfl) dX3_pointOn_3 ⟨Nat.le_of_ble_eq_true rfl, Nat.le_of_ble_eq_true rfl⟩) hD hS hA (fun r_1 u_1 H locs hp hP hD hS => ?_)
  obtain ⟨er, eu⟩ := hp
  obtain rfl := er.symm
  obtain rfl := eu.symm
  refine lv_icmp_ne (tgt := 21) hx hb dX3_pointOn_6 (by decide) (fun c_6 => ?_) (fun c_6 => ?_)
  · refine lv_iload_n hx hb dX3_pointOn_21 rfl (lv_at hl 2 rfl) ?_
    refine lv_aload_n hx hb dX3_pointOn_22 rfl (lv_at hl 0 rfl) ?_
    refine lv_iload_n hx hb dX3_pointOn_23 rfl (lv_at hl 1 rfl) ?_
    refine kI (rV (q0 := 6) (ci := 3) hx hb hml hown hg hN hK hP hD (c_bottom l D cI cJ ad co fl ra li re wa pi k1) mw_244 mw_245 mw_246 mw_247 mw_234 pdv_X3_bottom ⟨Nat.le_of_ble_eq_true rfl, Nat.le_of_ble_eq_true rfl⟩ rfl xo6 rfl hl.1 rfl (Nat.le_of_ble_eq_true rfl) dX3_pointOn_24 ⟨Nat.le_of_ble_eq_true rfl, Nat.le_of_ble_eq_true rfl⟩) hD hS hA (fun r_2 u_2 H locs hp hP hD hS => ?_)
    obtain ⟨er, eu⟩ := hp
    obtain rfl := er.symm
    obtain rfl := eu.symm
    refine lv_icmp_ne (tgt := 42) hx hb dX3_pointOn_27 (by decide) (fun c_27 => ?_) (fun c_27 => ?_)
    · refine lv_aload_n hx hb dX3_pointOn_42 rfl (lv_at hl 0 rfl) ?_
      refine va_get (D := D) (ci := 3) (v := .ref (ad 36)) (C := RX3) (T := TX3) (N := 16) hx hb hg inGX3 hown hK hP 6 xo6 rfl 3 (by decide) (hg _ mw_248) (fun _ h9 => h9) xvX3_3 dX3_pointOn_43 ?_
      refine lv_iload_n hx hb dX3_pointOn_46 rfl (lv_at hl 1 rfl) ?_
      refine kI (rSN hx hb hml hown hg hN hK hP hD (c_at l D cI cJ (XW ad cI cJ co fl ra li re wa pi) 36 (ad 36) 80 (gA pi 2) k1 (xg36 rfl) (by decide)) mw_84 nw_96 mw_85 mw_77 pd_X7_at ⟨Nat.le_of_ble_eq_true rfl, Nat.le_of_ble_eq_true rfl⟩ rfl hl.1 rfl (Nat.le_of_ble_eq_true rfl) dX3_pointOn_47 ⟨Nat.le_of_ble_eq_true rfl, Nat.le_of_ble_eq_true rfl⟩) hD hS hA (fun r_3 u_3 H locs hp hP hD hS => ?_)
      obtain ⟨er, eu⟩ := hp
      obtain rfl := er.symm
      obtain rfl := eu.symm
      refine lv_iload_n hx hb dX3_pointOn_50 rfl (lv_at hl 2 rfl) ?_
      refine lv_iadd hx hb dX3_pointOn_51 ?_
      refine lv_aload_n hx hb dX3_pointOn_52 rfl (lv_at hl 0 rfl) ?_
      refine lv_iload_n hx hb dX3_pointOn_53 rfl (lv_at hl 1 rfl) ?_
      refine kI (rV (q0 := 6) (ci := 3) hx hb hml hown hg hN hK hP hD (c_top l D cI cJ ad co fl ra li re wa pi k1) mw_230 mw_231 mw_232 mw_233 mw_234 pdv_X3_top ⟨Nat.le_of_ble_eq_true rfl, Nat.le_of_ble_eq_true rfl⟩ rfl xo6 rfl hl.1 rfl (Nat.le_of_ble_eq_true rfl) dX3_pointOn_54 ⟨Nat.le_of_ble_eq_true rfl, Nat.le_of_ble_eq_true rfl⟩) hD hS hA (fun r_4 u_4 H locs hp hP hD hS => ?_)
      obtain ⟨er, eu⟩ := hp
      obtain rfl := er.symm
      obtain rfl := eu.symm
      refine lv_isub hx hb dX3_pointOn_57 ?_
      refine lv_iconst (v := 1) hx hb dX3_pointOn_58 (by decide) ?_
      refine lv_isub hx hb dX3_pointOn_59 ?_
      exact W.iret (v := ((((rd (gA pi 2) 80 k1) + k2) - (topE wa pi k1)) - 1)) hx hb hr (fun t ht hW => ⟨⟨((((rd (gA pi 2) 80 k1) + k2) - (topE wa pi k1)) - 1), (XW ad cI cJ co fl ra li re wa pi), rfl, ⟨(show (((((rd (gA pi 2) 80 k1) + k2) - (topE wa pi k1)) - 1) : Int32) = (pointOn wa pi k1 k2) from (by simp only [pointOn, eq_false c_6, eq_false c_27, gi_sl, gi_sA, gi_sB, gi_si_s, gi_si_n, gl_si, gl_sA, gl_sB, gl_sl_s, gl_sl_n, gA_si, gA_sl, gA_sB, gA_sA_s, gA_sA_n, gB_si, gB_sl, gB_sA, gB_sB_s, gB_sB_n, Nat.reduceBEq, if_true, if_false, eq_self, Bool.false_eq_true, Bool.true_eq_false, not_true_eq_false, not_false_eq_true, decide_true, decide_false, cond_true, cond_false, Bool.true_and, Bool.false_and, Bool.and_true, Bool.and_false, Bool.true_or, Bool.false_or, Bool.or_true, Bool.or_false, b2i_tt, b2i_ff, pr_eta]; done)), xw_eq rfl rfl rfl rfl rfl rfl rfl⟩, ⟨by rw [ht]; exact hP, va_K.moved hW.alike hK, hD⟩⟩, hS.F ht⟩) hS.2.2 dX3_pointOn_60
    · refine lv_aload_n hx hb dX3_pointOn_30 rfl (lv_at hl 0 rfl) ?_
      refine va_get (D := D) (ci := 3) (v := .ref (ad 7)) (C := RX3) (T := TX3) (N := 16) hx hb hg inGX3 hown hK hP 6 xo6 rfl 0 (by decide) (hg _ mw_227) (fun _ h9 => h9) xvX3_0 dX3_pointOn_31 ?_
      refine va_getN (D := D) (ci := 6) (v := .ref (ad 31)) (C := RX6) (T := TX6) (N := 9) hx hb hg inGX6 hown hK hP 7 xo7 rfl 2 (by decide) (hN.use nw_57) (fun _ h9 => h9) xvX6_2 dX3_pointOn_34 ?_
      refine lv_iload_n hx hb dX3_pointOn_37 rfl (lv_at hl 1 rfl) ?_
      refine kI (rSN hx hb hml hown hg hN hK hP hD (c_at l D cI cJ (XW ad cI cJ co fl ra li re wa pi) 31 (ad 31) 80 (gA wa 2) k1 (xg31 rfl) (by decide)) mw_84 nw_96 mw_85 mw_77 pd_X7_at ⟨Nat.le_of_ble_eq_true rfl, Nat.le_of_ble_eq_true rfl⟩ rfl hl.1 rfl (Nat.le_of_ble_eq_true rfl) dX3_pointOn_38 ⟨Nat.le_of_ble_eq_true rfl, Nat.le_of_ble_eq_true rfl⟩) hD hS hA (fun r_5 u_5 H locs hp hP hD hS => ?_)
      obtain ⟨er, eu⟩ := hp
      obtain rfl := er.symm
      obtain rfl := eu.symm
      exact W.iret (v := (rd (gA wa 2) 80 k1)) hx hb hr (fun t ht hW => ⟨⟨(rd (gA wa 2) 80 k1), (XW ad cI cJ co fl ra li re wa pi), rfl, ⟨(show ((rd (gA wa 2) 80 k1) : Int32) = (pointOn wa pi k1 k2) from (by simp only [pointOn, eq_false c_6, eq_true c_27, gi_sl, gi_sA, gi_sB, gi_si_s, gi_si_n, gl_si, gl_sA, gl_sB, gl_sl_s, gl_sl_n, gA_si, gA_sl, gA_sB, gA_sA_s, gA_sA_n, gB_si, gB_sl, gB_sA, gB_sB_s, gB_sB_n, Nat.reduceBEq, if_true, if_false, eq_self, Bool.false_eq_true, Bool.true_eq_false, not_true_eq_false, not_false_eq_true, decide_true, decide_false, cond_true, cond_false, Bool.true_and, Bool.false_and, Bool.and_true, Bool.and_false, Bool.true_or, Bool.false_or, Bool.or_true, Bool.or_false, b2i_tt, b2i_ff, pr_eta]; done)), xw_eq rfl rfl rfl rfl rfl rfl rfl⟩, ⟨by rw [ht]; exact hP, va_K.moved hW.alike hK, hD⟩⟩, hS.F ht⟩) hS.2.2 dX3_pointOn_41
  · refine lv_aload_n hx hb dX3_pointOn_9 rfl (lv_at hl 0 rfl) ?_
    refine va_get (D := D) (ci := 3) (v := .ref (ad 7)) (C := RX3) (T := TX3) (N := 16) hx hb hg inGX3 hown hK hP 6 xo6 rfl 0 (by decide) (hg _ mw_227) (fun _ h9 => h9) xvX3_0 dX3_pointOn_10 ?_
    refine va_getN (D := D) (ci := 6) (v := .ref (ad 30)) (C := RX6) (T := TX6) (N := 9) hx hb hg inGX6 hown hK hP 7 xo7 rfl 1 (by decide) (hN.use nw_56) (fun _ h9 => h9) xvX6_1 dX3_pointOn_13 ?_
    refine lv_iload_n hx hb dX3_pointOn_16 rfl (lv_at hl 1 rfl) ?_
    refine kI (rSN hx hb hml hown hg hN hK hP hD (c_at l D cI cJ (XW ad cI cJ co fl ra li re wa pi) 30 (ad 30) 80 (gA wa 1) k1 (xg30 rfl) (by decide)) mw_84 nw_96 mw_85 mw_77 pd_X7_at ⟨Nat.le_of_ble_eq_true rfl, Nat.le_of_ble_eq_true rfl⟩ rfl hl.1 rfl (Nat.le_of_ble_eq_true rfl) dX3_pointOn_17 ⟨Nat.le_of_ble_eq_true rfl, Nat.le_of_ble_eq_true rfl⟩) hD hS hA (fun r_6 u_6 H locs hp hP hD hS => ?_)
    obtain ⟨er, eu⟩ := hp
    obtain rfl := er.symm
    obtain rfl := eu.symm
    exact W.iret (v := (rd (gA wa 1) 80 k1)) hx hb hr (fun t ht hW => ⟨⟨(rd (gA wa 1) 80 k1), (XW ad cI cJ co fl ra li re wa pi), rfl, ⟨(show ((rd (gA wa 1) 80 k1) : Int32) = (pointOn wa pi k1 k2) from (by simp only [pointOn, eq_true c_6, gi_sl, gi_sA, gi_sB, gi_si_s, gi_si_n, gl_si, gl_sA, gl_sB, gl_sl_s, gl_sl_n, gA_si, gA_sl, gA_sB, gA_sA_s, gA_sA_n, gB_si, gB_sl, gB_sA, gB_sB_s, gB_sB_n, Nat.reduceBEq, if_true, if_false, eq_self, Bool.false_eq_true, Bool.true_eq_false, not_true_eq_false, not_false_eq_true, decide_true, decide_false, cond_true, cond_false, Bool.true_and, Bool.false_and, Bool.and_true, Bool.and_false, Bool.true_or, Bool.false_or, Bool.or_true, Bool.or_false, b2i_tt, b2i_ff, pr_eta]; done)), xw_eq rfl rfl rfl rfl rfl rfl rfl⟩, ⟨by rw [ht]; exact hP, va_K.moved hW.alike hK, hD⟩⟩, hS.F ht⟩) hS.2.2 dX3_pointOn_20
