theorem dX7_isTurned_0 : decode cX7_isTurned 0 = .ok (.aload_n 0, 1) := by decide +kernel
theorem dX7_isTurned_1 : decode cX7_isTurned 1 = .ok (.iload_n 1, 1) := by decide +kernel
theorem dX7_isTurned_2 : decode cX7_isTurned 2 = .ok (.invokevirtual 150, 3) := by decide +kernel
theorem dX7_isTurned_5 : decode cX7_isTurned 5 = .ok (.aload_n 0, 1) := by decide +kernel
theorem dX7_isTurned_6 : decode cX7_isTurned 6 = .ok (.invokevirtual 234, 3) := by decide +kernel
theorem dX7_isTurned_9 : decode cX7_isTurned 9 = .ok (.getfield 244, 3) := by decide +kernel
theorem dX7_isTurned_12 : decode cX7_isTurned 12 = .ok (.aload_n 0, 1) := by decide +kernel
theorem dX7_isTurned_13 : decode cX7_isTurned 13 = .ok (.invokevirtual 123, 3) := by decide +kernel
theorem dX7_isTurned_16 : decode cX7_isTurned 16 = .ok (.iload_n 1, 1) := by decide +kernel
theorem dX7_isTurned_17 : decode cX7_isTurned 17 = .ok (.invokevirtual 248, 3) := by decide +kernel
theorem dX7_isTurned_20 : decode cX7_isTurned 20 = .ok (.ireturn, 1) := by decide +kernel
set_option maxHeartbeats 4000000 in
set_option maxRecDepth 100000 in
theorem a_isTurned (l : Launch) (D : va_G) (cI cJ : ClassId) (ad : Nat → Nat) (co fl ra li re wa pi : Ob) (k1 : Int32) (zf : ¬ gi fl 2 = 0) (zp : ¬ gi pi 3 = 0) (k0 : ¬ k1 < 0) (k1h : k1 < gi fl 1) : CT l D (TY cI cJ) yX7_isTurned (.code yX7_isTurned cX7_isTurned 2 (some Jvm.ClassFile.FieldType.boolean)) 7 0 0 (XW ad cI cJ co fl ra li re wa pi) [.ref (ad 0), .int k1] (QI D (TY cI cJ) (fun r u => r = (b2i (turns fl wa k1)) ∧ u = (XW ad cI cJ co fl ra li re wa pi))) := by
  refine ent (by decide) (Nat.le_of_ble_eq_true rfl) ?_
  intro p e s m below meth c ls A hx hb hr hg hown hml hlocks hnm hP hK hD hS hA hN hl
  have hl : lv_has ls 2 [(0, .ref (ad 0)), (1, .int k1)] := hl
  refine lv_aload_n hx hb dX7_isTurned_0 rfl (lv_at hl 0 rfl) ?_
  refine lv_iload_n hx hb dX7_isTurned_1 rfl (lv_at hl 1 rfl) ?_
  refine kV (rV (q0 := 0) (ci := 7) hx hb hml hown hg hN hK hP hD (c_needE l D cI cJ ad co fl ra li re wa pi k1 zf k0 k1h) mw_480 mw_481 mw_482 mw_483 mw_77 pdv_X7_needEdge ⟨Nat.le_of_ble_eq_true rfl, Nat.le_of_ble_eq_true rfl⟩ rfl xo0 rfl hl.1 rfl (Nat.le_of_ble_eq_true rfl) dX7_isTurned_2 ⟨Nat.le_of_ble_eq_true rfl, Nat.le_of_ble_eq_true rfl⟩) hD hS hA (fun u_1 H locs hp hP hD hS => ?_)
  obtain rfl := hp.symm
  refine lv_aload_n hx hb dX7_isTurned_5 rfl (lv_at hl 0 rfl) ?_
  refine kR (rV (q0 := 0) (ci := 7) hx hb hml hown hg hN hK hP hD (c_freshPic1 l D cI cJ ad co fl ra li re wa pi zp) mw_367 mw_368 mw_369 mw_370 mw_77 pdv_X7_freshPicture ⟨Nat.le_of_ble_eq_true rfl, Nat.le_of_ble_eq_true rfl⟩ rfl xo0 rfl hl.1 rfl (Nat.le_of_ble_eq_true rfl) dX7_isTurned_6 ⟨Nat.le_of_ble_eq_true rfl, Nat.le_of_ble_eq_true rfl⟩) hD hS hA (fun r_2 u_2 H locs hp hP hD hS => ?_)
  obtain ⟨er, eu⟩ := hp
  obtain rfl := er.symm
  obtain rfl := eu.symm
  refine va_getN (D := D) (ci := 3) (v := .ref (ad 7)) (C := RX3) (T := TX3) (N := 16) hx hb hg inGX3 hown hK hP 6 xo6 rfl 0 (by decide) (hN.use nw_60) (fun _ h9 => h9) xvX3_0 dX7_isTurned_9 ?_
  refine lv_aload_n hx hb dX7_isTurned_12 rfl (lv_at hl 0 rfl) ?_
  refine kR (rV (q0 := 0) (ci := 7) hx hb hml hown hg hN hK hP hD (c_freshFlow1 l D cI cJ ad co fl ra li re wa pi zf) mw_329 mw_330 mw_331 mw_332 mw_77 pdv_X7_freshFlow ⟨Nat.le_of_ble_eq_true rfl, Nat.le_of_ble_eq_true rfl⟩ rfl xo0 rfl hl.1 rfl (Nat.le_of_ble_eq_true rfl) dX7_isTurned_13 ⟨Nat.le_of_ble_eq_true rfl, Nat.le_of_ble_eq_true rfl⟩) hD hS hA (fun r_3 u_3 H locs hp hP hD hS => ?_)
  obtain ⟨er, eu⟩ := hp
  obtain rfl := er.symm
  obtain rfl := eu.symm
  refine lv_iload_n hx hb dX7_isTurned_16 rfl (lv_at hl 1 rfl) ?_
  refine kI (rV (q0 := 7) (ci := 6) hx hb hml hown hg hN hK hP hD (c_turns l D cI cJ ad co fl ra li re wa pi k1) mw_395 mw_396 mw_397 mw_398 mw_208 pdv_X6_turns ⟨Nat.le_of_ble_eq_true rfl, Nat.le_of_ble_eq_true rfl⟩ rfl xo7 rfl hl.1 rfl (Nat.le_of_ble_eq_true rfl) dX7_isTurned_17 ⟨Nat.le_of_ble_eq_true rfl, Nat.le_of_ble_eq_true rfl⟩) hD hS hA (fun r_4 u_4 H locs hp hP hD hS => ?_)
  obtain ⟨er, eu⟩ := hp
  obtain rfl := er.symm
  obtain rfl := eu.symm
  exact W.zret (v := (b2i (turns fl wa k1))) hx hb hr nar_b2i (fun t ht hW => ⟨⟨(b2i (turns fl wa k1)), (XW ad cI cJ co fl ra li re wa pi), rfl, ⟨rfl, xw_eq rfl rfl rfl rfl rfl rfl rfl⟩, ⟨by rw [ht]; exact hP, va_K.moved hW.alike hK, hD⟩⟩, hS.F ht⟩) hS.2.2 dX7_isTurned_20
