theorem dX7_layerOf_0 : decode cX7_layerOf 0 = .ok (.aload_n 0, 1) := by decide +kernel
theorem dX7_layerOf_1 : decode cX7_layerOf 1 = .ok (.iload_n 1, 1) := by decide +kernel
theorem dX7_layerOf_2 : decode cX7_layerOf 2 = .ok (.invokevirtual 133, 3) := by decide +kernel
theorem dX7_layerOf_5 : decode cX7_layerOf 5 = .ok (.aload_n 0, 1) := by decide +kernel
theorem dX7_layerOf_6 : decode cX7_layerOf 6 = .ok (.invokevirtual 234, 3) := by decide +kernel
theorem dX7_layerOf_9 : decode cX7_layerOf 9 = .ok (.getfield 241, 3) := by decide +kernel
theorem dX7_layerOf_12 : decode cX7_layerOf 12 = .ok (.iload_n 1, 1) := by decide +kernel
theorem dX7_layerOf_13 : decode cX7_layerOf 13 = .ok (.invokestatic 96, 3) := by decide +kernel
theorem dX7_layerOf_16 : decode cX7_layerOf 16 = .ok (.ireturn, 1) := by decide +kernel
set_option maxHeartbeats 4000000 in
set_option maxRecDepth 100000 in
theorem a_layerOf (l : Launch) (D : va_G) (cI cJ : ClassId) (ad : Nat → Nat) (co fl ra li re wa pi : Ob) (k1 : Int32) (zf : ¬ gi fl 2 = 0) (zp : ¬ gi pi 3 = 0) (k0 : ¬ k1 < 0) (k1h : k1 < gi fl 0) : CT l D (TY cI cJ) yX7_layerOf (.code yX7_layerOf cX7_layerOf 2 (some Jvm.ClassFile.FieldType.int)) 7 0 0 (XW ad cI cJ co fl ra li re wa pi) [.ref (ad 0), .int k1] (QI D (TY cI cJ) (fun r u => r = (rd (gA pi 0) 40 k1) ∧ u = (XW ad cI cJ co fl ra li re wa pi))) := by
  refine ent (by decide) (Nat.le_of_ble_eq_true rfl) ?_
  intro p e s m below meth c ls A hx hb hr hg hown hml hlocks hnm hP hK hD hS hA hN hl
  have hl : lv_has ls 2 [(0, .ref (ad 0)), (1, .int k1)] := hl
  refine lv_aload_n hx hb dX7_layerOf_0 rfl (lv_at hl 0 rfl) ?_
  refine lv_iload_n hx hb dX7_layerOf_1 rfl (lv_at hl 1 rfl) ?_
  refine kV (rV (q0 := 0) (ci := 7) hx hb hml hown hg hN hK hP hD (c_needB l D cI cJ ad co fl ra li re wa pi k1 zf k0 k1h) mw_476 mw_477 mw_478 mw_479 mw_77 pdv_X7_needBlock ⟨Nat.le_of_ble_eq_true rfl, Nat.le_of_ble_eq_true rfl⟩ rfl xo0 rfl hl.1 rfl (Nat.le_of_ble_eq_true rfl) dX7_layerOf_2 ⟨Nat.le_of_ble_eq_true rfl, Nat.le_of_ble_eq_true rfl⟩) hD hS hA (fun u_1 H locs hp hP hD hS => ?_)
  obtain rfl := hp.symm
  refine lv_aload_n hx hb dX7_layerOf_5 rfl (lv_at hl 0 rfl) ?_
  refine kR (rV (q0 := 0) (ci := 7) hx hb hml hown hg hN hK hP hD (c_freshPic1 l D cI cJ ad co fl ra li re wa pi zp) mw_367 mw_368 mw_369 mw_370 mw_77 pdv_X7_freshPicture ⟨Nat.le_of_ble_eq_true rfl, Nat.le_of_ble_eq_true rfl⟩ rfl xo0 rfl hl.1 rfl (Nat.le_of_ble_eq_true rfl) dX7_layerOf_6 ⟨Nat.le_of_ble_eq_true rfl, Nat.le_of_ble_eq_true rfl⟩) hD hS hA (fun r_2 u_2 H locs hp hP hD hS => ?_)
  obtain ⟨er, eu⟩ := hp
  obtain rfl := er.symm
  obtain rfl := eu.symm
  refine va_getN (D := D) (ci := 3) (v := .ref (ad 34)) (C := RX3) (T := TX3) (N := 16) hx hb hg inGX3 hown hK hP 6 xo6 rfl 1 (by decide) (hN.use nw_61) (fun _ h9 => h9) xvX3_1 dX7_layerOf_9 ?_
  refine lv_iload_n hx hb dX7_layerOf_12 rfl (lv_at hl 1 rfl) ?_
  refine kI (rS hx hb hml hown hg hN hK hP hD (c_at l D cI cJ (XW ad cI cJ co fl ra li re wa pi) 34 (ad 34) 40 (gA pi 0) k1 (xg34 rfl) (by decide)) mw_84 mw_374 mw_85 mw_77 pd_X7_at ⟨Nat.le_of_ble_eq_true rfl, Nat.le_of_ble_eq_true rfl⟩ rfl hl.1 rfl (Nat.le_of_ble_eq_true rfl) dX7_layerOf_13 ⟨Nat.le_of_ble_eq_true rfl, Nat.le_of_ble_eq_true rfl⟩) hD hS hA (fun r_3 u_3 H locs hp hP hD hS => ?_)
  obtain ⟨er, eu⟩ := hp
  obtain rfl := er.symm
  obtain rfl := eu.symm
  exact W.iret (v := (rd (gA pi 0) 40 k1)) hx hb hr (fun t ht hW => ⟨⟨(rd (gA pi 0) 40 k1), (XW ad cI cJ co fl ra li re wa pi), rfl, ⟨rfl, xw_eq rfl rfl rfl rfl rfl rfl rfl⟩, ⟨by rw [ht]; exact hP, va_K.moved hW.alike hK, hD⟩⟩, hS.F ht⟩) hS.2.2 dX7_layerOf_16
