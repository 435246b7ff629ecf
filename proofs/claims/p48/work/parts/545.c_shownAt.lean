theorem dX3_shownAt_0 : decode cX3_shownAt 0 = .ok (.aload_n 0, 1) := by decide +kernel
theorem dX3_shownAt_1 : decode cX3_shownAt 1 = .ok (.getfield 31, 3) := by decide +kernel
theorem dX3_shownAt_4 : decode cX3_shownAt 4 = .ok (.aload_n 0, 1) := by decide +kernel
theorem dX3_shownAt_5 : decode cX3_shownAt 5 = .ok (.getfield 22, 3) := by decide +kernel
theorem dX3_shownAt_8 : decode cX3_shownAt 8 = .ok (.iload_n 1, 1) := by decide +kernel
theorem dX3_shownAt_9 : decode cX3_shownAt 9 = .ok (.invokestatic 95, 3) := by decide +kernel
theorem dX3_shownAt_12 : decode cX3_shownAt 12 = .ok (.iload_n 2, 1) := by decide +kernel
theorem dX3_shownAt_13 : decode cX3_shownAt 13 = .ok (.iadd, 1) := by decide +kernel
theorem dX3_shownAt_14 : decode cX3_shownAt 14 = .ok (.invokestatic 95, 3) := by decide +kernel
theorem dX3_shownAt_17 : decode cX3_shownAt 17 = .ok (.istore_n 3, 1) := by decide +kernel
theorem dX3_shownAt_18 : decode cX3_shownAt 18 = .ok (.iload_n 3, 1) := by decide +kernel
theorem dX3_shownAt_19 : decode cX3_shownAt 19 = .ok (.bipush 40, 2) := by decide +kernel
theorem dX3_shownAt_21 : decode cX3_shownAt 21 = .ok (.if_icmp .ge 7, 3) := by decide +kernel
theorem dX3_shownAt_24 : decode cX3_shownAt 24 = .ok (.iload_n 3, 1) := by decide +kernel
theorem dX3_shownAt_25 : decode cX3_shownAt 25 = .ok (.goto 13, 3) := by decide +kernel
theorem dX3_shownAt_28 : decode cX3_shownAt 28 = .ok (.iconst (-1), 1) := by decide +kernel
theorem dX3_shownAt_29 : decode cX3_shownAt 29 = .ok (.aload_n 0, 1) := by decide +kernel
theorem dX3_shownAt_30 : decode cX3_shownAt 30 = .ok (.getfield 28, 3) := by decide +kernel
theorem dX3_shownAt_33 : decode cX3_shownAt 33 = .ok (.iload_n 3, 1) := by decide +kernel
theorem dX3_shownAt_34 : decode cX3_shownAt 34 = .ok (.invokestatic 95, 3) := by decide +kernel
theorem dX3_shownAt_37 : decode cX3_shownAt 37 = .ok (.isub, 1) := by decide +kernel
theorem dX3_shownAt_38 : decode cX3_shownAt 38 = .ok (.ireturn, 1) := by decide +kernel
set_option maxHeartbeats 4000000 in
set_option maxRecDepth 100000 in
theorem c_shownAt (l : Launch) (D : va_G) (cI cJ : ClassId) (ad : Nat → Nat) (co fl ra li re wa pi : Ob) (k1 : Int32) (k2 : Int32) : CT l D (TY cI cJ) yX3_shownAt (.code yX3_shownAt cX3_shownAt 4 (some Jvm.ClassFile.FieldType.int)) 1 0 0 (XW ad cI cJ co fl ra li re wa pi) [.ref (ad 6), .int k1, .int k2] (QI D (TY cI cJ) (fun r u => r = (shownAt pi k1 k2) ∧ u = (XW ad cI cJ co fl ra li re wa pi))) := by
  refine ent (by decide) (Nat.le_of_ble_eq_true rfl) ?_
  intro p e s m below meth c ls A hx hb hr hg hown hml hlocks hnm hP hK hD hS hA hN hl
  have hl : lv_has ls 4 [(0, .ref (ad 6)), (1, .int k1), (2, .int k2)] := hl
  refine lv_aload_n hx hb dX3_shownAt_0 rfl (lv_at hl 0 rfl) ?_
  refine va_get (D := D) (ci := 3) (v := .ref (ad 38)) (C := RX3) (T := TX3) (N := 16) hx hb hg inGX3 hown hK hP 6 xo6 rfl 5 (by decide) (hg _ mw_254) (fun _ h9 => h9) xvX3_5 dX3_shownAt_1 ?_
  refine lv_aload_n hx hb dX3_shownAt_4 rfl (lv_at hl 0 rfl) ?_
  refine va_get (D := D) (ci := 3) (v := .ref (ad 35)) (C := RX3) (T := TX3) (N := 16) hx hb hg inGX3 hown hK hP 6 xo6 rfl 2 (by decide) (hg _ mw_256) (fun _ h9 => h9) xvX3_2 dX3_shownAt_5 ?_
  refine lv_iload_n hx hb dX3_shownAt_8 rfl (lv_at hl 1 rfl) ?_
  refine kI (rSN hx hb hml hown hg hN hK hP hD (c_at l D cI cJ (XW ad cI cJ co fl ra li re wa pi) 35 (ad 35) 41 (gA pi 1) k1 (xg35 rfl) (by decide)) mw_84 nw_96 mw_85 mw_77 pd_X7_at ⟨Nat.le_of_ble_eq_true rfl, Nat.le_of_ble_eq_true rfl⟩ rfl hl.1 rfl (Nat.le_of_ble_eq_true rfl) dX3_shownAt_9 ⟨Nat.le_of_ble_eq_true rfl, Nat.le_of_ble_eq_true rfl⟩) hD hS hA (fun r_1 u_1 H locs hp hP hD hS => ?_)
  obtain ⟨er, eu⟩ := hp
  obtain rfl := er.symm
  obtain rfl := eu.symm
  refine lv_iload_n hx hb dX3_shownAt_12 rfl (lv_at hl 2 rfl) ?_
  refine lv_iadd hx hb dX3_shownAt_13 ?_
  refine kI (rSN hx hb hml hown hg hN hK hP hD (c_at l D cI cJ (XW ad cI cJ co fl ra li re wa pi) 38 (ad 38) 1600 (gA pi 4) ((rd (gA pi 1) 41 k1) + k2) (xg38 rfl) (by decide)) mw_84 nw_96 mw_85 mw_77 pd_X7_at ⟨Nat.le_of_ble_eq_true rfl, Nat.le_of_ble_eq_true rfl⟩ rfl hl.1 rfl (Nat.le_of_ble_eq_true rfl) dX3_shownAt_14 ⟨Nat.le_of_ble_eq_true rfl, Nat.le_of_ble_eq_true rfl⟩) hD hS hA (fun r_2 u_2 H locs hp hP hD hS => ?_)
  obtain ⟨er, eu⟩ := hp
  obtain rfl := er.symm
  obtain rfl := eu.symm
  refine lv_istore_n (lv' := [(3, .int (rd (gA pi 4) 1600 ((rd (gA pi 1) 41 k1) + k2))), (0, .ref (ad 6)), (1, .int k1), (2, .int k2)]) hx hb dX3_shownAt_17 rfl hl (by decide) rfl (fun ls hl => ?_)
  refine lv_iload_n hx hb dX3_shownAt_18 rfl (lv_at hl 0 rfl) ?_
  refine lv_bipush (v := 40) hx hb dX3_shownAt_19 (by decide) ?_
  refine lv_icmp_ge (tgt := 28) hx hb dX3_shownAt_21 (by decide) (fun c_21 => ?_) (fun c_21 => ?_)
  · have c_21 : ¬ (rd (gA pi 4) 1600 ((rd (gA pi 1) 41 k1) + k2)) < 40 := i_ge c_21
    refine lv_iconst (v := (-1)) hx hb dX3_shownAt_28 (by decide) ?_
    refine lv_aload_n hx hb dX3_shownAt_29 rfl (lv_at hl 1 rfl) ?_
    refine va_get (D := D) (ci := 3) (v := .ref (ad 37)) (C := RX3) (T := TX3) (N := 16) hx hb hg inGX3 hown hK hP 6 xo6 rfl 4 (by decide) (hg _ mw_253) (fun _ h9 => h9) xvX3_4 dX3_shownAt_30 ?_
    refine lv_iload_n hx hb dX3_shownAt_33 rfl (lv_at hl 0 rfl) ?_
    refine kI (rSN hx hb hml hown hg hN hK hP hD (c_at l D cI cJ (XW ad cI cJ co fl ra li re wa pi) 37 (ad 37) 1600 (gA pi 3) (rd (gA pi 4) 1600 ((rd (gA pi 1) 41 k1) + k2)) (xg37 rfl) (by decide)) mw_84 nw_96 mw_85 mw_77 pd_X7_at ⟨Nat.le_of_ble_eq_true rfl, Nat.le_of_ble_eq_true rfl⟩ rfl hl.1 rfl (Nat.le_of_ble_eq_true rfl) dX3_shownAt_34 ⟨Nat.le_of_ble_eq_true rfl, Nat.le_of_ble_eq_true rfl⟩) hD hS hA (fun r_3 u_3 H locs hp hP hD hS => ?_)
    obtain ⟨er, eu⟩ := hp
    obtain rfl := er.symm
    obtain rfl := eu.symm
    refine lv_isub hx hb dX3_shownAt_37 ?_
    exact W.iret (v := ((-1) - (rd (gA pi 3) 1600 (rd (gA pi 4) 1600 ((rd (gA pi 1) 41 k1) + k2))))) hx hb hr (fun t ht hW => ⟨⟨((-1) - (rd (gA pi 3) 1600 (rd (gA pi 4) 1600 ((rd (gA pi 1) 41 k1) + k2)))), (XW ad cI cJ co fl ra li re wa pi), rfl, ⟨(show (((-1) - (rd (gA pi 3) 1600 (rd (gA pi 4) 1600 ((rd (gA pi 1) 41 k1) + k2)))) : Int32) = (shownAt pi k1 k2) from (by simp only [shownAt, shPt, eq_false c_21, gi_sl, gi_sA, gi_sB, gi_si_s, gi_si_n, gl_si, gl_sA, gl_sB, gl_sl_s, gl_sl_n, gA_si, gA_sl, gA_sB, gA_sA_s, gA_sA_n, gB_si, gB_sl, gB_sA, gB_sB_s, gB_sB_n, Nat.reduceBEq, if_true, if_false, eq_self, Bool.false_eq_true, Bool.true_eq_false, not_true_eq_false, not_false_eq_true, decide_true, decide_false, cond_true, cond_false, Bool.true_and, Bool.false_and, Bool.and_true, Bool.and_false, Bool.true_or, Bool.false_or, Bool.or_true, Bool.or_false, b2i_tt, b2i_ff, pr_eta]; done)), xw_eq rfl rfl rfl rfl rfl rfl rfl⟩, ⟨by rw [ht]; exact hP, va_K.moved hW.alike hK, hD⟩⟩, hS.F ht⟩) hS.2.2 dX3_shownAt_38
  · have c_21 : (rd (gA pi 4) 1600 ((rd (gA pi 1) 41 k1) + k2)) < 40 := i_nge c_21
    refine lv_iload_n hx hb dX3_shownAt_24 rfl (lv_at hl 0 rfl) ?_
    refine lv_goto (tgt := 38) hx hb dX3_shownAt_25 (by decide) ?_
    exact W.iret (v := (rd (gA pi 4) 1600 ((rd (gA pi 1) 41 k1) + k2))) hx hb hr (fun t ht hW => ⟨⟨(rd (gA pi 4) 1600 ((rd (gA pi 1) 41 k1) + k2)), (XW ad cI cJ co fl ra li re wa pi), rfl, ⟨(show ((rd (gA pi 4) 1600 ((rd (gA pi 1) 41 k1) + k2)) : Int32) = (shownAt pi k1 k2) from (by simp only [shownAt, shPt, eq_true c_21, gi_sl, gi_sA, gi_sB, gi_si_s, gi_si_n, gl_si, gl_sA, gl_sB, gl_sl_s, gl_sl_n, gA_si, gA_sl, gA_sB, gA_sA_s, gA_sA_n, gB_si, gB_sl, gB_sA, gB_sB_s, gB_sB_n, Nat.reduceBEq, if_true, if_false, eq_self, Bool.false_eq_true, Bool.true_eq_false, not_true_eq_false, not_false_eq_true, decide_true, decide_false, cond_true, cond_false, Bool.true_and, Bool.false_and, Bool.and_true, Bool.and_false, Bool.true_or, Bool.false_or, Bool.or_true, Bool.or_false, b2i_tt, b2i_ff, pr_eta]; done)), xw_eq rfl rfl rfl rfl rfl rfl rfl⟩, ⟨by rw [ht]; exact hP, va_K.moved hW.alike hK, hD⟩⟩, hS.F ht⟩) hS.2.2 dX3_shownAt_38
