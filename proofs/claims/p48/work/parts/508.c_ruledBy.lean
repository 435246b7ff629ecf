theorem dX4_ruledBy_0 : decode cX4_ruledBy 0 = .ok (.aload_n 0, 1) := by decide +kernel
theorem dX4_ruledBy_1 : decode cX4_ruledBy 1 = .ok (.getfield 24, 3) := by decide +kernel
theorem dX4_ruledBy_4 : decode cX4_ruledBy 4 = .ok (.aload_n 0, 1) := by decide +kernel
theorem dX4_ruledBy_5 : decode cX4_ruledBy 5 = .ok (.getfield 69, 3) := by decide +kernel
theorem dX4_ruledBy_8 : decode cX4_ruledBy 8 = .ok (.lconst 1, 1) := by decide +kernel
theorem dX4_ruledBy_9 : decode cX4_ruledBy 9 = .ok (.iload_n 1, 1) := by decide +kernel
theorem dX4_ruledBy_10 : decode cX4_ruledBy 10 = .ok (.invokestatic 72, 3) := by decide +kernel
theorem dX4_ruledBy_13 : decode cX4_ruledBy 13 = .ok (.invokestatic 65, 3) := by decide +kernel
theorem dX4_ruledBy_16 : decode cX4_ruledBy 16 = .ok (.ldc2_w 76, 3) := by decide +kernel
theorem dX4_ruledBy_19 : decode cX4_ruledBy 19 = .ok (.lxor, 1) := by decide +kernel
theorem dX4_ruledBy_20 : decode cX4_ruledBy 20 = .ok (.land, 1) := by decide +kernel
theorem dX4_ruledBy_21 : decode cX4_ruledBy 21 = .ok (.lreturn, 1) := by decide +kernel
theorem mw_123 : Cond.constantLong RX4 76 (-1) ∈ GW := gw_mem (inT2 _ (List.mem_of_getElem? (i := 162) rfl)) rfl
set_option maxHeartbeats 4000000 in
set_option maxRecDepth 100000 in
theorem c_ruledBy (l : Launch) (D : va_G) (cI cJ : ClassId) (ad : Nat → Nat) (co fl ra li re wa pi : Ob) (k1 : Int32) : CT l D (TY cI cJ) yX4_ruledBy (.code yX4_ruledBy cX4_ruledBy 2 (some Jvm.ClassFile.FieldType.long)) 3 0 0 (XW ad cI cJ co fl ra li re wa pi) [.ref (ad 2), .int k1] (QL D (TY cI cJ) (fun r u => r = (ruledBy fl k1) ∧ u = (XW ad cI cJ co fl ra li re wa pi))) := by
  refine ent (by decide) (Nat.le_of_ble_eq_true rfl) ?_
  intro p e s m below meth c ls A hx hb hr hg hown hml hlocks hnm hP hK hD hS hA hN hl
  have hl : lv_has ls 2 [(0, .ref (ad 2)), (1, .int k1)] := hl
  refine lv_aload_n hx hb dX4_ruledBy_0 rfl (lv_at hl 0 rfl) ?_
  refine va_getN (D := D) (ci := 1) (v := .long (gl fl 0)) (C := RX1) (T := TX1) (N := 11) hx hb hg inGX1 hown hK hP 2 xo2 rfl 9 (by decide) (hN.use nw_33) (fun _ h9 => h9) (xvX1_9 rfl) dX4_ruledBy_1 ?_
  refine lv_aload_n hx hb dX4_ruledBy_4 rfl (lv_at hl 0 rfl) ?_
  refine va_getN (D := D) (ci := 1) (v := .ref (ad 18)) (C := RX1) (T := TX1) (N := 11) hx hb hg inGX1 hown hK hP 2 xo2 rfl 6 (by decide) (hN.use nw_23) (fun _ h9 => h9) xvX1_6 dX4_ruledBy_5 ?_
  refine lv_lconst (v := 1) hx hb dX4_ruledBy_8 (by decide) ?_
  refine lv_iload_n hx hb dX4_ruledBy_9 rfl (lv_at hl 1 rfl) ?_
  refine kL (rSN hx hb hml hown hg hN hK hP hD (c_bit l D cI cJ (XW ad cI cJ co fl ra li re wa pi) k1) mw_78 nw_74 mw_80 mw_77 pd_X7_bit ⟨Nat.le_of_ble_eq_true rfl, Nat.le_of_ble_eq_true rfl⟩ rfl hl.1 rfl (Nat.le_of_ble_eq_true rfl) dX4_ruledBy_10 ⟨Nat.le_of_ble_eq_true rfl, Nat.le_of_ble_eq_true rfl⟩) hD hS hA (fun r_1 u_1 H locs hp hP hD hS => ?_)
  obtain ⟨er, eu⟩ := hp
  obtain rfl := er.symm
  obtain rfl := eu.symm
  refine kL (rSN hx hb hml hown hg hN hK hP hD (c_spread l D cI cJ (XW ad cI cJ co fl ra li re wa pi) 18 (ad 18) (gB fl 0) 1 (bitL k1) (xg18 rfl)) mw_116 nw_75 mw_117 mw_77 pd_X7_spread ⟨Nat.le_of_ble_eq_true rfl, Nat.le_of_ble_eq_true rfl⟩ rfl hl.1 rfl (Nat.le_of_ble_eq_true rfl) dX4_ruledBy_13 ⟨Nat.le_of_ble_eq_true rfl, Nat.le_of_ble_eq_true rfl⟩) hD hS hA (fun r_2 u_2 H locs hp hP hD hS => ?_)
  obtain ⟨er, eu⟩ := hp
  obtain rfl := er.symm
  obtain rfl := eu.symm
  refine lv_ldc2 (v := (-1)) hx hb hown (hg _ mw_123) dX4_ruledBy_16 ?_
  refine lv_lxor hx hb dX4_ruledBy_19 ?_
  refine lv_land hx hb dX4_ruledBy_20 ?_
  exact W.lret (v := ((gl fl 0) &&& ((spread (gB fl 0) 1 (bitL k1)) ^^^ (-1)))) hx hb hr (fun t ht hW => ⟨⟨((gl fl 0) &&& ((spread (gB fl 0) 1 (bitL k1)) ^^^ (-1))), (XW ad cI cJ co fl ra li re wa pi), rfl, ⟨(show (((gl fl 0) &&& ((spread (gB fl 0) 1 (bitL k1)) ^^^ (-1))) : Int64) = (ruledBy fl k1) from (by first | with_reducible rfl | (simp only [ruledBy, gi_sl, gi_sA, gi_sB, gi_si_s, gi_si_n, gl_si, gl_sA, gl_sB, gl_sl_s, gl_sl_n, gA_si, gA_sl, gA_sB, gA_sA_s, gA_sA_n, gB_si, gB_sl, gB_sA, gB_sB_s, gB_sB_n, Nat.reduceBEq, if_true, if_false, eq_self, Bool.false_eq_true, Bool.true_eq_false, not_true_eq_false, not_false_eq_true, decide_true, decide_false, cond_true, cond_false, Bool.true_and, Bool.false_and, Bool.and_true, Bool.and_false, Bool.true_or, Bool.false_or, Bool.or_true, Bool.or_false, b2i_tt, b2i_ff, pr_eta]; done))), xw_eq rfl rfl rfl rfl rfl rfl rfl⟩, ⟨by rw [ht]; exact hP, va_K.moved hW.alike hK, hD⟩⟩, hS.F ht⟩) hS.2.2 dX4_ruledBy_21
