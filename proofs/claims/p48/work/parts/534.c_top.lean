theorem dX3_top_0 : decode cX3_top 0 = .ok (.aload_n 0, 1) := by decide +kernel
theorem dX3_top_1 : decode cX3_top 1 = .ok (.getfield 18, 3) := by decide +kernel
theorem dX3_top_4 : decode cX3_top 4 = .ok (.aload_n 0, 1) := by decide +kernel
theorem dX3_top_5 : decode cX3_top 5 = .ok (.getfield 12, 3) := by decide +kernel
theorem dX3_top_8 : decode cX3_top 8 = .ok (.getfield 115, 3) := by decide +kernel
theorem dX3_top_11 : decode cX3_top 11 = .ok (.iload_n 1, 1) := by decide +kernel
theorem dX3_top_12 : decode cX3_top 12 = .ok (.invokestatic 95, 3) := by decide +kernel
theorem dX3_top_15 : decode cX3_top 15 = .ok (.invokestatic 95, 3) := by decide +kernel
theorem dX3_top_18 : decode cX3_top 18 = .ok (.ireturn, 1) := by decide +kernel
theorem mw_226 : Cond.fieldLink RX3 18 "OrielChart$Picture" "layer" "[I" ∈ GW := gw_mem (inT2 _ (List.mem_of_getElem? (i := 15) rfl)) rfl
theorem mw_227 : Cond.fieldLink RX3 12 "OrielChart$Picture" "walk" "LOrielChart$Walk;" ∈ GW := gw_mem (inT2 _ (List.mem_of_getElem? (i := 13) rfl)) rfl
set_option maxHeartbeats 4000000 in
set_option maxRecDepth 100000 in
theorem c_top (l : Launch) (D : va_G) (cI cJ : ClassId) (ad : Nat → Nat) (co fl ra li re wa pi : Ob) (k1 : Int32) : CT l D (TY cI cJ) yX3_top (.code yX3_top cX3_top 2 (some Jvm.ClassFile.FieldType.int)) 1 0 0 (XW ad cI cJ co fl ra li re wa pi) [.ref (ad 6), .int k1] (QI D (TY cI cJ) (fun r u => r = (topE wa pi k1) ∧ u = (XW ad cI cJ co fl ra li re wa pi))) := by
  refine ent (by decide) (Nat.le_of_ble_eq_true rfl) ?_
  intro p e s m below meth c ls A hx hb hr hg hown hml hlocks hnm hP hK hD hS hA hN hl
  have hl : lv_has ls 2 [(0, .ref (ad 6)), (1, .int k1)] := hl
  refine lv_aload_n hx hb dX3_top_0 rfl (lv_at hl 0 rfl) ?_
  refine va_get (D := D) (ci := 3) (v := .ref (ad 34)) (C := RX3) (T := TX3) (N := 16) hx hb hg inGX3 hown hK hP 6 xo6 rfl 1 (by decide) (hg _ mw_226) (fun _ h9 => h9) xvX3_1 dX3_top_1 ?_
  refine lv_aload_n hx hb dX3_top_4 rfl (lv_at hl 0 rfl) ?_
  refine va_get (D := D) (ci := 3) (v := .ref (ad 7)) (C := RX3) (T := TX3) (N := 16) hx hb hg inGX3 hown hK hP 6 xo6 rfl 0 (by decide) (hg _ mw_227) (fun _ h9 => h9) xvX3_0 dX3_top_5 ?_
  refine va_getN (D := D) (ci := 6) (v := .ref (ad 30)) (C := RX6) (T := TX6) (N := 9) hx hb hg inGX6 hown hK hP 7 xo7 rfl 1 (by decide) (hN.use nw_56) (fun _ h9 => h9) xvX6_1 dX3_top_8 ?_
  refine lv_iload_n hx hb dX3_top_11 rfl (lv_at hl 1 rfl) ?_
  refine kI (rSN hx hb hml hown hg hN hK hP hD (c_at l D cI cJ (XW ad cI cJ co fl ra li re wa pi) 30 (ad 30) 80 (gA wa 1) k1 (xg30 rfl) (by decide)) mw_84 nw_96 mw_85 mw_77 pd_X7_at ⟨Nat.le_of_ble_eq_true rfl, Nat.le_of_ble_eq_true rfl⟩ rfl hl.1 rfl (Nat.le_of_ble_eq_true rfl) dX3_top_12 ⟨Nat.le_of_ble_eq_true rfl, Nat.le_of_ble_eq_true rfl⟩) hD hS hA (fun r_1 u_1 H locs hp hP hD hS => ?_)
  obtain ⟨er, eu⟩ := hp
  obtain rfl := er.symm
  obtain rfl := eu.symm
  refine kI (rSN hx hb hml hown hg hN hK hP hD (c_at l D cI cJ (XW ad cI cJ co fl ra li re wa pi) 34 (ad 34) 40 (gA pi 0) (rd (gA wa 1) 80 k1) (xg34 rfl) (by decide)) mw_84 nw_96 mw_85 mw_77 pd_X7_at ⟨Nat.le_of_ble_eq_true rfl, Nat.le_of_ble_eq_true rfl⟩ rfl hl.1 rfl (Nat.le_of_ble_eq_true rfl) dX3_top_15 ⟨Nat.le_of_ble_eq_true rfl, Nat.le_of_ble_eq_true rfl⟩) hD hS hA (fun r_2 u_2 H locs hp hP hD hS => ?_)
  obtain ⟨er, eu⟩ := hp
  obtain rfl := er.symm
  obtain rfl := eu.symm
  exact W.iret (v := (rd (gA pi 0) 40 (rd (gA wa 1) 80 k1))) hx hb hr (fun t ht hW => ⟨⟨(rd (gA pi 0) 40 (rd (gA wa 1) 80 k1)), (XW ad cI cJ co fl ra li re wa pi), rfl, ⟨(show ((rd (gA pi 0) 40 (rd (gA wa 1) 80 k1)) : Int32) = (topE wa pi k1) from (by first | with_reducible rfl | (simp only [topE, gi_sl, gi_sA, gi_sB, gi_si_s, gi_si_n, gl_si, gl_sA, gl_sB, gl_sl_s, gl_sl_n, gA_si, gA_sl, gA_sB, gA_sA_s, gA_sA_n, gB_si, gB_sl, gB_sA, gB_sB_s, gB_sB_n, Nat.reduceBEq, if_true, if_false, eq_self, Bool.false_eq_true, Bool.true_eq_false, not_true_eq_false, not_false_eq_true, decide_true, decide_false, cond_true, cond_false, Bool.true_and, Bool.false_and, Bool.and_true, Bool.and_false, Bool.true_or, Bool.false_or, Bool.or_true, Bool.or_false, b2i_tt, b2i_ff, pr_eta]; done))), xw_eq rfl rfl rfl rfl rfl rfl rfl⟩, ⟨by rw [ht]; exact hP, va_K.moved hW.alike hK, hD⟩⟩, hS.F ht⟩) hS.2.2 dX3_top_18
