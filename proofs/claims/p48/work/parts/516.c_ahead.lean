theorem dX2_ahead_0 : decode cX2_ahead 0 = .ok (.aload_n 0, 1) := by decide +kernel
theorem dX2_ahead_1 : decode cX2_ahead 1 = .ok (.getfield 62, 3) := by decide +kernel
theorem dX2_ahead_4 : decode cX2_ahead 4 = .ok (.iload_n 1, 1) := by decide +kernel
theorem dX2_ahead_5 : decode cX2_ahead 5 = .ok (.invokestatic 51, 3) := by decide +kernel
theorem dX2_ahead_8 : decode cX2_ahead 8 = .ok (.istore_n 3, 1) := by decide +kernel
theorem dX2_ahead_9 : decode cX2_ahead 9 = .ok (.iload_n 3, 1) := by decide +kernel
theorem dX2_ahead_10 : decode cX2_ahead 10 = .ok (.ifCond .lt 13, 3) := by decide +kernel
theorem dX2_ahead_13 : decode cX2_ahead 13 = .ok (.iload_n 2, 1) := by decide +kernel
theorem dX2_ahead_14 : decode cX2_ahead 14 = .ok (.iconst 1, 1) := by decide +kernel
theorem dX2_ahead_15 : decode cX2_ahead 15 = .ok (.iload_n 3, 1) := by decide +kernel
theorem dX2_ahead_16 : decode cX2_ahead 16 = .ok (.ishl, 1) := by decide +kernel
theorem dX2_ahead_17 : decode cX2_ahead 17 = .ok (.iconst (-1), 1) := by decide +kernel
theorem dX2_ahead_18 : decode cX2_ahead 18 = .ok (.ixor, 1) := by decide +kernel
theorem dX2_ahead_19 : decode cX2_ahead 19 = .ok (.iand, 1) := by decide +kernel
theorem dX2_ahead_20 : decode cX2_ahead 20 = .ok (.goto 4, 3) := by decide +kernel
theorem dX2_ahead_23 : decode cX2_ahead 23 = .ok (.iload_n 2, 1) := by decide +kernel
theorem dX2_ahead_24 : decode cX2_ahead 24 = .ok (.istore 4, 2) := by decide +kernel
theorem dX2_ahead_26 : decode cX2_ahead 26 = .ok (.iload 4, 2) := by decide +kernel
theorem dX2_ahead_28 : decode cX2_ahead 28 = .ok (.aload_n 0, 1) := by decide +kernel
theorem dX2_ahead_29 : decode cX2_ahead 29 = .ok (.getfield 74, 3) := by decide +kernel
theorem dX2_ahead_32 : decode cX2_ahead 32 = .ok (.iload_n 1, 1) := by decide +kernel
theorem dX2_ahead_33 : decode cX2_ahead 33 = .ok (.invokestatic 51, 3) := by decide +kernel
theorem dX2_ahead_36 : decode cX2_ahead 36 = .ok (.ior, 1) := by decide +kernel
theorem dX2_ahead_37 : decode cX2_ahead 37 = .ok (.ireturn, 1) := by decide +kernel
set_option maxHeartbeats 4000000 in
set_option maxRecDepth 100000 in
theorem c_ahead (l : Launch) (D : va_G) (cI cJ : ClassId) (ad : Nat → Nat) (co fl ra li re wa pi : Ob) (k1 : Int32) (k2 : Int32) : CT l D (TY cI cJ) yX2_ahead (.code yX2_ahead cX2_ahead 5 (some Jvm.ClassFile.FieldType.int)) 1 0 0 (XW ad cI cJ co fl ra li re wa pi) [.ref (ad 1), .int k1, .int k2] (QI D (TY cI cJ) (fun r u => r = (ahead co k1 k2) ∧ u = (XW ad cI cJ co fl ra li re wa pi))) := by
  refine ent (by decide) (Nat.le_of_ble_eq_true rfl) ?_
  intro p e s m below meth c ls A hx hb hr hg hown hml hlocks hnm hP hK hD hS hA hN hl
  have hl : lv_has ls 5 [(0, .ref (ad 1)), (1, .int k1), (2, .int k2)] := hl
  refine lv_aload_n hx hb dX2_ahead_0 rfl (lv_at hl 0 rfl) ?_
  refine va_getN (D := D) (ci := 0) (v := .ref (ad 10)) (C := RX0) (T := TX0) (N := 5) hx hb hg inGX0 hown hK hP 1 xo1 rfl 2 (by decide) (hN.use nw_5) (fun _ h9 => h9) xvX0_2 dX2_ahead_1 ?_
  refine lv_iload_n hx hb dX2_ahead_4 rfl (lv_at hl 1 rfl) ?_
  refine kI (rSN hx hb hml hown hg hN hK hP hD (c_at l D cI cJ (XW ad cI cJ co fl ra li re wa pi) 10 (ad 10) 40 (gA co 2) k1 (xg10 rfl) (by decide)) mw_84 nw_82 mw_85 mw_77 pd_X7_at ⟨Nat.le_of_ble_eq_true rfl, Nat.le_of_ble_eq_true rfl⟩ rfl hl.1 rfl (Nat.le_of_ble_eq_true rfl) dX2_ahead_5 ⟨Nat.le_of_ble_eq_true rfl, Nat.le_of_ble_eq_true rfl⟩) hD hS hA (fun r_1 u_1 H locs hp hP hD hS => ?_)
  obtain ⟨er, eu⟩ := hp
  obtain rfl := er.symm
  obtain rfl := eu.symm
  refine lv_istore_n (lv' := [(3, .int (rd (gA co 2) 40 k1)), (0, .ref (ad 1)), (1, .int k1), (2, .int k2)]) hx hb dX2_ahead_8 rfl hl (by decide) rfl (fun ls hl => ?_)
  refine lv_iload_n hx hb dX2_ahead_9 rfl (lv_at hl 0 rfl) ?_
  refine lv_if_lt (tgt := 23) hx hb dX2_ahead_10 (by decide) (fun c_10 => ?_) (fun c_10 => ?_)
  · refine lv_iload_n hx hb dX2_ahead_23 rfl (lv_at hl 3 rfl) ?_
    refine lv_istore (lv' := [(4, .int k2), (3, .int (rd (gA co 2) 40 k1)), (0, .ref (ad 1)), (1, .int k1), (2, .int k2)]) hx hb dX2_ahead_24 hl (by decide) rfl (fun ls hl => ?_)
    refine lv_iload hx hb dX2_ahead_26 (lv_at hl 0 rfl) ?_
    refine lv_aload_n hx hb dX2_ahead_28 rfl (lv_at hl 2 rfl) ?_
    refine va_getN (D := D) (ci := 0) (v := .ref (ad 11)) (C := RX0) (T := TX0) (N := 5) hx hb hg inGX0 hown hK hP 1 xo1 rfl 3 (by decide) (hN.use nw_8) (fun _ h9 => h9) xvX0_3 dX2_ahead_29 ?_
    refine lv_iload_n hx hb dX2_ahead_32 rfl (lv_at hl 3 rfl) ?_
    refine kI (rSN hx hb hml hown hg hN hK hP hD (c_at l D cI cJ (XW ad cI cJ co fl ra li re wa pi) 11 (ad 11) 40 (gA co 3) k1 (xg11 rfl) (by decide)) mw_84 nw_82 mw_85 mw_77 pd_X7_at ⟨Nat.le_of_ble_eq_true rfl, Nat.le_of_ble_eq_true rfl⟩ rfl hl.1 rfl (Nat.le_of_ble_eq_true rfl) dX2_ahead_33 ⟨Nat.le_of_ble_eq_true rfl, Nat.le_of_ble_eq_true rfl⟩) hD hS hA (fun r_2 u_2 H locs hp hP hD hS => ?_)
    obtain ⟨er, eu⟩ := hp
    obtain rfl := er.symm
    obtain rfl := eu.symm
    refine lv_ior hx hb dX2_ahead_36 ?_
    exact W.iret (v := (k2 ||| (rd (gA co 3) 40 k1))) hx hb hr (fun t ht hW => ⟨⟨(k2 ||| (rd (gA co 3) 40 k1)), (XW ad cI cJ co fl ra li re wa pi), rfl, ⟨(show ((k2 ||| (rd (gA co 3) 40 k1)) : Int32) = (ahead co k1 k2) from (by simp only [ahead, eq_true c_10, gi_sl, gi_sA, gi_sB, gi_si_s, gi_si_n, gl_si, gl_sA, gl_sB, gl_sl_s, gl_sl_n, gA_si, gA_sl, gA_sB, gA_sA_s, gA_sA_n, gB_si, gB_sl, gB_sA, gB_sB_s, gB_sB_n, Nat.reduceBEq, if_true, if_false, eq_self, Bool.false_eq_true, Bool.true_eq_false, not_true_eq_false, not_false_eq_true, decide_true, decide_false, cond_true, cond_false, Bool.true_and, Bool.false_and, Bool.and_true, Bool.and_false, Bool.true_or, Bool.false_or, Bool.or_true, Bool.or_false, b2i_tt, b2i_ff, pr_eta]; done)), xw_eq rfl rfl rfl rfl rfl rfl rfl⟩, ⟨by rw [ht]; exact hP, va_K.moved hW.alike hK, hD⟩⟩, hS.F ht⟩) hS.2.2 dX2_ahead_37
  · refine lv_iload_n hx hb dX2_ahead_13 rfl (lv_at hl 3 rfl) ?_
    refine lv_iconst (v := 1) hx hb dX2_ahead_14 (by decide) ?_
    refine lv_iload_n hx hb dX2_ahead_15 rfl (lv_at hl 0 rfl) ?_
    refine lv_ishl hx hb dX2_ahead_16 ?_
    refine lv_iconst (v := (-1)) hx hb dX2_ahead_17 (by decide) ?_
    refine lv_ixor hx hb dX2_ahead_18 ?_
    refine lv_iand hx hb dX2_ahead_19 ?_
    refine lv_goto (tgt := 24) hx hb dX2_ahead_20 (by decide) ?_
    refine lv_istore (lv' := [(4, .int (k2 &&& ((1 <<< ((rd (gA co 2) 40 k1) &&& 31)) ^^^ (-1)))), (3, .int (rd (gA co 2) 40 k1)), (0, .ref (ad 1)), (1, .int k1), (2, .int k2)]) hx hb dX2_ahead_24 hl (by decide) rfl (fun ls hl => ?_)
    refine lv_iload hx hb dX2_ahead_26 (lv_at hl 0 rfl) ?_
    refine lv_aload_n hx hb dX2_ahead_28 rfl (lv_at hl 2 rfl) ?_
    refine va_getN (D := D) (ci := 0) (v := .ref (ad 11)) (C := RX0) (T := TX0) (N := 5) hx hb hg inGX0 hown hK hP 1 xo1 rfl 3 (by decide) (hN.use nw_8) (fun _ h9 => h9) xvX0_3 dX2_ahead_29 ?_
    refine lv_iload_n hx hb dX2_ahead_32 rfl (lv_at hl 3 rfl) ?_
    refine kI (rSN hx hb hml hown hg hN hK hP hD (c_at l D cI cJ (XW ad cI cJ co fl ra li re wa pi) 11 (ad 11) 40 (gA co 3) k1 (xg11 rfl) (by decide)) mw_84 nw_82 mw_85 mw_77 pd_X7_at ⟨Nat.le_of_ble_eq_true rfl, Nat.le_of_ble_eq_true rfl⟩ rfl hl.1 rfl (Nat.le_of_ble_eq_true rfl) dX2_ahead_33 ⟨Nat.le_of_ble_eq_true rfl, Nat.le_of_ble_eq_true rfl⟩) hD hS hA (fun r_3 u_3 H locs hp hP hD hS => ?_)
    obtain ⟨er, eu⟩ := hp
    obtain rfl := er.symm
    obtain rfl := eu.symm
    refine lv_ior hx hb dX2_ahead_36 ?_
    exact W.iret (v := ((k2 &&& ((1 <<< ((rd (gA co 2) 40 k1) &&& 31)) ^^^ (-1))) ||| (rd (gA co 3) 40 k1))) hx hb hr (fun t ht hW => ⟨⟨((k2 &&& ((1 <<< ((rd (gA co 2) 40 k1) &&& 31)) ^^^ (-1))) ||| (rd (gA co 3) 40 k1)), (XW ad cI cJ co fl ra li re wa pi), rfl, ⟨(show (((k2 &&& ((1 <<< ((rd (gA co 2) 40 k1) &&& 31)) ^^^ (-1))) ||| (rd (gA co 3) 40 k1)) : Int32) = (ahead co k1 k2) from (by simp only [ahead, eq_false c_10, gi_sl, gi_sA, gi_sB, gi_si_s, gi_si_n, gl_si, gl_sA, gl_sB, gl_sl_s, gl_sl_n, gA_si, gA_sl, gA_sB, gA_sA_s, gA_sA_n, gB_si, gB_sl, gB_sA, gB_sB_s, gB_sB_n, Nat.reduceBEq, if_true, if_false, eq_self, Bool.false_eq_true, Bool.true_eq_false, not_true_eq_false, not_false_eq_true, decide_true, decide_false, cond_true, cond_false, Bool.true_and, Bool.false_and, Bool.and_true, Bool.and_false, Bool.true_or, Bool.false_or, Bool.or_true, Bool.or_false, b2i_tt, b2i_ff, pr_eta]; done)), xw_eq rfl rfl rfl rfl rfl rfl rfl⟩, ⟨by rw [ht]; exact hP, va_K.moved hW.alike hK, hD⟩⟩, hS.F ht⟩) hS.2.2 dX2_ahead_37
