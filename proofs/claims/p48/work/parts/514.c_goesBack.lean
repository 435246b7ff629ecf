theorem dX4_goesBack_0 : decode cX4_goesBack 0 = .ok (.aload_n 1, 1) := by decide +kernel
theorem dX4_goesBack_1 : decode cX4_goesBack 1 = .ok (.getfield 88, 3) := by decide +kernel
theorem dX4_goesBack_4 : decode cX4_goesBack 4 = .ok (.iload_n 2, 1) := by decide +kernel
theorem dX4_goesBack_5 : decode cX4_goesBack 5 = .ok (.invokestatic 85, 3) := by decide +kernel
theorem dX4_goesBack_8 : decode cX4_goesBack 8 = .ok (.istore_n 3, 1) := by decide +kernel
theorem dX4_goesBack_9 : decode cX4_goesBack 9 = .ok (.iload_n 3, 1) := by decide +kernel
theorem dX4_goesBack_10 : decode cX4_goesBack 10 = .ok (.ifCond .lt 23, 3) := by decide +kernel
theorem dX4_goesBack_13 : decode cX4_goesBack 13 = .ok (.aload_n 0, 1) := by decide +kernel
theorem dX4_goesBack_14 : decode cX4_goesBack 14 = .ok (.iload_n 3, 1) := by decide +kernel
theorem dX4_goesBack_15 : decode cX4_goesBack 15 = .ok (.aload_n 1, 1) := by decide +kernel
theorem dX4_goesBack_16 : decode cX4_goesBack 16 = .ok (.getfield 81, 3) := by decide +kernel
theorem dX4_goesBack_19 : decode cX4_goesBack 19 = .ok (.iload_n 2, 1) := by decide +kernel
theorem dX4_goesBack_20 : decode cX4_goesBack 20 = .ok (.invokestatic 85, 3) := by decide +kernel
theorem dX4_goesBack_23 : decode cX4_goesBack 23 = .ok (.invokevirtual 91, 3) := by decide +kernel
theorem dX4_goesBack_26 : decode cX4_goesBack 26 = .ok (.ifCond .eq 7, 3) := by decide +kernel
theorem dX4_goesBack_29 : decode cX4_goesBack 29 = .ok (.iconst 1, 1) := by decide +kernel
theorem dX4_goesBack_30 : decode cX4_goesBack 30 = .ok (.goto 4, 3) := by decide +kernel
theorem dX4_goesBack_33 : decode cX4_goesBack 33 = .ok (.iconst 0, 1) := by decide +kernel
theorem dX4_goesBack_34 : decode cX4_goesBack 34 = .ok (.ireturn, 1) := by decide +kernel
set_option maxHeartbeats 4000000 in
set_option maxRecDepth 100000 in
theorem c_goesBack (l : Launch) (D : va_G) (cI cJ : ClassId) (ad : Nat → Nat) (co fl ra li re wa pi : Ob) (k1 : Int32) : CT l D (TY cI cJ) yX4_goesBack (.code yX4_goesBack cX4_goesBack 4 (some Jvm.ClassFile.FieldType.boolean)) 2 0 0 (XW ad cI cJ co fl ra li re wa pi) [.ref (ad 3), .ref (ad 2), .int k1] (QI D (TY cI cJ) (fun r u => r = (b2i (goesBack ra fl k1)) ∧ u = (XW ad cI cJ co fl ra li re wa pi))) := by
  refine ent (by decide) (Nat.le_of_ble_eq_true rfl) ?_
  intro p e s m below meth c ls A hx hb hr hg hown hml hlocks hnm hP hK hD hS hA hN hl
  have hl : lv_has ls 4 [(0, .ref (ad 3)), (1, .ref (ad 2)), (2, .int k1)] := hl
  refine lv_aload_n hx hb dX4_goesBack_0 rfl (lv_at hl 1 rfl) ?_
  refine va_getN (D := D) (ci := 1) (v := .ref (ad 16)) (C := RX1) (T := TX1) (N := 11) hx hb hg inGX1 hown hK hP 2 xo2 rfl 4 (by decide) (hN.use nw_18) (fun _ h9 => h9) xvX1_4 dX4_goesBack_1 ?_
  refine lv_iload_n hx hb dX4_goesBack_4 rfl (lv_at hl 2 rfl) ?_
  refine kI (rSN hx hb hml hown hg hN hK hP hD (c_at l D cI cJ (XW ad cI cJ co fl ra li re wa pi) 16 (ad 16) 80 (gA fl 4) k1 (xg16 rfl) (by decide)) mw_84 nw_77 mw_85 mw_77 pd_X7_at ⟨Nat.le_of_ble_eq_true rfl, Nat.le_of_ble_eq_true rfl⟩ rfl hl.1 rfl (Nat.le_of_ble_eq_true rfl) dX4_goesBack_5 ⟨Nat.le_of_ble_eq_true rfl, Nat.le_of_ble_eq_true rfl⟩) hD hS hA (fun r_1 u_1 H locs hp hP hD hS => ?_)
  obtain ⟨er, eu⟩ := hp
  obtain rfl := er.symm
  obtain rfl := eu.symm
  refine lv_istore_n (lv' := [(3, .int (rd (gA fl 4) 80 k1)), (0, .ref (ad 3)), (1, .ref (ad 2)), (2, .int k1)]) hx hb dX4_goesBack_8 rfl hl (by decide) rfl (fun ls hl => ?_)
  refine lv_iload_n hx hb dX4_goesBack_9 rfl (lv_at hl 0 rfl) ?_
  refine lv_if_lt (tgt := 33) hx hb dX4_goesBack_10 (by decide) (fun c_10 => ?_) (fun c_10 => ?_)
  · refine lv_iconst (v := 0) hx hb dX4_goesBack_33 (by decide) ?_
    exact W.zret (v := 0) hx hb hr rfl (fun t ht hW => ⟨⟨0, (XW ad cI cJ co fl ra li re wa pi), rfl, ⟨(show (0 : Int32) = (b2i (goesBack ra fl k1)) from (by simp only [goesBack, rules, eq_true c_10, gi_sl, gi_sA, gi_sB, gi_si_s, gi_si_n, gl_si, gl_sA, gl_sB, gl_sl_s, gl_sl_n, gA_si, gA_sl, gA_sB, gA_sA_s, gA_sA_n, gB_si, gB_sl, gB_sA, gB_sB_s, gB_sB_n, Nat.reduceBEq, if_true, if_false, eq_self, Bool.false_eq_true, Bool.true_eq_false, not_true_eq_false, not_false_eq_true, decide_true, decide_false, cond_true, cond_false, Bool.true_and, Bool.false_and, Bool.and_true, Bool.and_false, Bool.true_or, Bool.false_or, Bool.or_true, Bool.or_false, b2i_tt, b2i_ff, pr_eta]; done)), xw_eq rfl rfl rfl rfl rfl rfl rfl⟩, ⟨by rw [ht]; exact hP, va_K.moved hW.alike hK, hD⟩⟩, hS.F ht⟩) hS.2.2 dX4_goesBack_34
  · refine lv_aload_n hx hb dX4_goesBack_13 rfl (lv_at hl 1 rfl) ?_
    refine lv_iload_n hx hb dX4_goesBack_14 rfl (lv_at hl 0 rfl) ?_
    refine lv_aload_n hx hb dX4_goesBack_15 rfl (lv_at hl 2 rfl) ?_
    refine va_getN (D := D) (ci := 1) (v := .ref (ad 15)) (C := RX1) (T := TX1) (N := 11) hx hb hg inGX1 hown hK hP 2 xo2 rfl 3 (by decide) (hN.use nw_16) (fun _ h9 => h9) xvX1_3 dX4_goesBack_16 ?_
    refine lv_iload_n hx hb dX4_goesBack_19 rfl (lv_at hl 3 rfl) ?_
    refine kI (rSN hx hb hml hown hg hN hK hP hD (c_at l D cI cJ (XW ad cI cJ co fl ra li re wa pi) 15 (ad 15) 80 (gA fl 3) k1 (xg15 rfl) (by decide)) mw_84 nw_77 mw_85 mw_77 pd_X7_at ⟨Nat.le_of_ble_eq_true rfl, Nat.le_of_ble_eq_true rfl⟩ rfl hl.1 rfl (Nat.le_of_ble_eq_true rfl) dX4_goesBack_20 ⟨Nat.le_of_ble_eq_true rfl, Nat.le_of_ble_eq_true rfl⟩) hD hS hA (fun r_2 u_2 H locs hp hP hD hS => ?_)
    obtain ⟨er, eu⟩ := hp
    obtain rfl := er.symm
    obtain rfl := eu.symm
    refine kI (rV (q0 := 3) (ci := 4) hx hb hml hown hg hN hK hP hD (c_rules l D cI cJ ad co fl ra li re wa pi (rd (gA fl 4) 80 k1) (rd (gA fl 3) 80 k1)) mw_126 mw_127 mw_128 mw_129 mw_130 pdv_X4_rules ⟨Nat.le_of_ble_eq_true rfl, Nat.le_of_ble_eq_true rfl⟩ rfl xo3 rfl hl.1 rfl (Nat.le_of_ble_eq_true rfl) dX4_goesBack_23 ⟨Nat.le_of_ble_eq_true rfl, Nat.le_of_ble_eq_true rfl⟩) hD hS hA (fun r_3 u_3 H locs hp hP hD hS => ?_)
    obtain ⟨er, eu⟩ := hp
    obtain rfl := er.symm
    obtain rfl := eu.symm
    refine lv_if_eq (tgt := 33) hx hb dX4_goesBack_26 (by decide) (fun c_26 => ?_) (fun c_26 => ?_)
    · have c_26 : ¬ (hs (rdL (gB ra 0) 40 (rd (gA fl 4) 80 k1)) (rd (gA fl 3) 80 k1)) = true := b2i_0 c_26
      refine lv_iconst (v := 0) hx hb dX4_goesBack_33 (by decide) ?_
      exact W.zret (v := 0) hx hb hr rfl (fun t ht hW => ⟨⟨0, (XW ad cI cJ co fl ra li re wa pi), rfl, ⟨(show (0 : Int32) = (b2i (goesBack ra fl k1)) from (by simp only [goesBack, rules, eq_false c_10, bf_of c_26, gi_sl, gi_sA, gi_sB, gi_si_s, gi_si_n, gl_si, gl_sA, gl_sB, gl_sl_s, gl_sl_n, gA_si, gA_sl, gA_sB, gA_sA_s, gA_sA_n, gB_si, gB_sl, gB_sA, gB_sB_s, gB_sB_n, Nat.reduceBEq, if_true, if_false, eq_self, Bool.false_eq_true, Bool.true_eq_false, not_true_eq_false, not_false_eq_true, decide_true, decide_false, cond_true, cond_false, Bool.true_and, Bool.false_and, Bool.and_true, Bool.and_false, Bool.true_or, Bool.false_or, Bool.or_true, Bool.or_false, b2i_tt, b2i_ff, pr_eta]; done)), xw_eq rfl rfl rfl rfl rfl rfl rfl⟩, ⟨by rw [ht]; exact hP, va_K.moved hW.alike hK, hD⟩⟩, hS.F ht⟩) hS.2.2 dX4_goesBack_34
    · have c_26 : (hs (rdL (gB ra 0) 40 (rd (gA fl 4) 80 k1)) (rd (gA fl 3) 80 k1)) = true := b2i_1 c_26
      refine lv_iconst (v := 1) hx hb dX4_goesBack_29 (by decide) ?_
      refine lv_goto (tgt := 34) hx hb dX4_goesBack_30 (by decide) ?_
      exact W.zret (v := 1) hx hb hr rfl (fun t ht hW => ⟨⟨1, (XW ad cI cJ co fl ra li re wa pi), rfl, ⟨(show (1 : Int32) = (b2i (goesBack ra fl k1)) from (by simp only [goesBack, rules, eq_false c_10, c_26, gi_sl, gi_sA, gi_sB, gi_si_s, gi_si_n, gl_si, gl_sA, gl_sB, gl_sl_s, gl_sl_n, gA_si, gA_sl, gA_sB, gA_sA_s, gA_sA_n, gB_si, gB_sl, gB_sA, gB_sB_s, gB_sB_n, Nat.reduceBEq, if_true, if_false, eq_self, Bool.false_eq_true, Bool.true_eq_false, not_true_eq_false, not_false_eq_true, decide_true, decide_false, cond_true, cond_false, Bool.true_and, Bool.false_and, Bool.and_true, Bool.and_false, Bool.true_or, Bool.false_or, Bool.or_true, Bool.or_false, b2i_tt, b2i_ff, pr_eta]; done)), xw_eq rfl rfl rfl rfl rfl rfl rfl⟩, ⟨by rw [ht]; exact hP, va_K.moved hW.alike hK, hD⟩⟩, hS.F ht⟩) hS.2.2 dX4_goesBack_34
