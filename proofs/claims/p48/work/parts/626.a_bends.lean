theorem dX7_bends_0 : decode cX7_bends 0 = .ok (.aload_n 0, 1) := by decide +kernel
theorem dX7_bends_1 : decode cX7_bends 1 = .ok (.iload_n 1, 1) := by decide +kernel
theorem dX7_bends_2 : decode cX7_bends 2 = .ok (.invokevirtual 150, 3) := by decide +kernel
theorem dX7_bends_5 : decode cX7_bends 5 = .ok (.aload_n 0, 1) := by decide +kernel
theorem dX7_bends_6 : decode cX7_bends 6 = .ok (.invokevirtual 234, 3) := by decide +kernel
theorem dX7_bends_9 : decode cX7_bends 9 = .ok (.iload_n 1, 1) := by decide +kernel
theorem dX7_bends_10 : decode cX7_bends 10 = .ok (.invokevirtual 269, 3) := by decide +kernel
theorem dX7_bends_13 : decode cX7_bends 13 = .ok (.ireturn, 1) := by decide +kernel
set_option maxHeartbeats 4000000 in
set_option maxRecDepth 100000 in
theorem a_bends (l : Launch) (D : va_G) (cI cJ : ClassId) (ad : Nat → Nat) (co fl ra li re wa pi : Ob) (k1 : Int32) (zf : ¬ gi fl 2 = 0) (zp : ¬ gi pi 3 = 0) (k0 : ¬ k1 < 0) (k1h : k1 < gi fl 1) : CT l D (TY cI cJ) yX7_bends (.code yX7_bends cX7_bends 2 (some Jvm.ClassFile.FieldType.int)) 7 0 0 (XW ad cI cJ co fl ra li re wa pi) [.ref (ad 0), .int k1] (QI D (TY cI cJ) (fun r u => r = (bendCount wa pi k1) ∧ u = (XW ad cI cJ co fl ra li re wa pi))) := by
  refine ent (by decide) (Nat.le_of_ble_eq_true rfl) ?_
  intro p e s m below meth c ls A hx hb hr hg hown hml hlocks hnm hP hK hD hS hA hN hl
  have hl : lv_has ls 2 [(0, .ref (ad 0)), (1, .int k1)] := hl
  refine lv_aload_n hx hb dX7_bends_0 rfl (lv_at hl 0 rfl) ?_
  refine lv_iload_n hx hb dX7_bends_1 rfl (lv_at hl 1 rfl) ?_
  refine kV (rV (q0 := 0) (ci := 7) hx hb hml hown hg hN hK hP hD (c_needE l D cI cJ ad co fl ra li re wa pi k1 zf k0 k1h) mw_480 mw_481 mw_482 mw_483 mw_77 pdv_X7_needEdge ⟨Nat.le_of_ble_eq_true rfl, Nat.le_of_ble_eq_true rfl⟩ rfl xo0 rfl hl.1 rfl (Nat.le_of_ble_eq_true rfl) dX7_bends_2 ⟨Nat.le_of_ble_eq_true rfl, Nat.le_of_ble_eq_true rfl⟩) hD hS hA (fun u_1 H locs hp hP hD hS => ?_)
  obtain rfl := hp.symm
  refine lv_aload_n hx hb dX7_bends_5 rfl (lv_at hl 0 rfl) ?_
  refine kR (rV (q0 := 0) (ci := 7) hx hb hml hown hg hN hK hP hD (c_freshPic1 l D cI cJ ad co fl ra li re wa pi zp) mw_367 mw_368 mw_369 mw_370 mw_77 pdv_X7_freshPicture ⟨Nat.le_of_ble_eq_true rfl, Nat.le_of_ble_eq_true rfl⟩ rfl xo0 rfl hl.1 rfl (Nat.le_of_ble_eq_true rfl) dX7_bends_6 ⟨Nat.le_of_ble_eq_true rfl, Nat.le_of_ble_eq_true rfl⟩) hD hS hA (fun r_2 u_2 H locs hp hP hD hS => ?_)
  obtain ⟨er, eu⟩ := hp
  obtain rfl := er.symm
  obtain rfl := eu.symm
  refine lv_iload_n hx hb dX7_bends_9 rfl (lv_at hl 1 rfl) ?_
  refine kI (rV (q0 := 6) (ci := 3) hx hb hml hown hg hN hK hP hD (c_bendCount l D cI cJ ad co fl ra li re wa pi k1) mw_249 mw_399 mw_251 mw_252 mw_234 pdv_X3_bendCount ⟨Nat.le_of_ble_eq_true rfl, Nat.le_of_ble_eq_true rfl⟩ rfl xo6 rfl hl.1 rfl (Nat.le_of_ble_eq_true rfl) dX7_bends_10 ⟨Nat.le_of_ble_eq_true rfl, Nat.le_of_ble_eq_true rfl⟩) hD hS hA (fun r_3 u_3 H locs hp hP hD hS => ?_)
  obtain ⟨er, eu⟩ := hp
  obtain rfl := er.symm
  obtain rfl := eu.symm
  exact W.iret (v := (bendCount wa pi k1)) hx hb hr (fun t ht hW => ⟨⟨(bendCount wa pi k1), (XW ad cI cJ co fl ra li re wa pi), rfl, ⟨rfl, xw_eq rfl rfl rfl rfl rfl rfl rfl⟩, ⟨by rw [ht]; exact hP, va_K.moved hW.alike hK, hD⟩⟩, hS.F ht⟩) hS.2.2 dX7_bends_13
