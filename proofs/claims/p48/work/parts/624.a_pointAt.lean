theorem dX7_pointAt_0 : decode cX7_pointAt 0 = .ok (.aload_n 0, 1) := by decide +kernel
theorem dX7_pointAt_1 : decode cX7_pointAt 1 = .ok (.iload_n 1, 1) := by decide +kernel
theorem dX7_pointAt_2 : decode cX7_pointAt 2 = .ok (.invokevirtual 253, 3) := by decide +kernel
theorem dX7_pointAt_5 : decode cX7_pointAt 5 = .ok (.iload_n 2, 1) := by decide +kernel
theorem dX7_pointAt_6 : decode cX7_pointAt 6 = .ok (.ifCond .lt 15, 3) := by decide +kernel
theorem dX7_pointAt_9 : decode cX7_pointAt 9 = .ok (.iload_n 2, 1) := by decide +kernel
theorem dX7_pointAt_10 : decode cX7_pointAt 10 = .ok (.aload_n 0, 1) := by decide +kernel
theorem dX7_pointAt_11 : decode cX7_pointAt 11 = .ok (.invokevirtual 234, 3) := by decide +kernel
theorem dX7_pointAt_14 : decode cX7_pointAt 14 = .ok (.iload_n 1, 1) := by decide +kernel
theorem dX7_pointAt_15 : decode cX7_pointAt 15 = .ok (.invokevirtual 256, 3) := by decide +kernel
theorem dX7_pointAt_18 : decode cX7_pointAt 18 = .ok (.if_icmp .lt 13, 3) := by decide +kernel
theorem dX7_pointAt_31 : decode cX7_pointAt 31 = .ok (.aload_n 0, 1) := by decide +kernel
theorem dX7_pointAt_32 : decode cX7_pointAt 32 = .ok (.invokevirtual 234, 3) := by decide +kernel
theorem dX7_pointAt_35 : decode cX7_pointAt 35 = .ok (.iload_n 1, 1) := by decide +kernel
theorem dX7_pointAt_36 : decode cX7_pointAt 36 = .ok (.iload_n 2, 1) := by decide +kernel
theorem dX7_pointAt_37 : decode cX7_pointAt 37 = .ok (.invokevirtual 262, 3) := by decide +kernel
theorem dX7_pointAt_40 : decode cX7_pointAt 40 = .ok (.ireturn, 1) := by decide +kernel
set_option maxHeartbeats 4000000 in
set_option maxRecDepth 100000 in
theorem a_pointAt (l : Launch) (D : va_G) (cI cJ : ClassId) (ad : Nat → Nat) (co fl ra li re wa pi : Ob) (k1 : Int32) (k2 : Int32) (zp : ¬ gi pi 3 = 0) (k0 : ¬ k1 < 0) (k1h : k1 < gi pi 1) (k20 : ¬ k2 < 0) (k2h : k2 < sizeOf pi k1) : CT l D (TY cI cJ) yX7_pointAt (.code yX7_pointAt cX7_pointAt 3 (some Jvm.ClassFile.FieldType.int)) 7 0 0 (XW ad cI cJ co fl ra li re wa pi) [.ref (ad 0), .int k1, .int k2] (QI D (TY cI cJ) (fun r u => r = (shownAt pi k1 k2) ∧ u = (XW ad cI cJ co fl ra li re wa pi))) := by
  refine ent (by decide) (Nat.le_of_ble_eq_true rfl) ?_
  intro p e s m below meth c ls A hx hb hr hg hown hml hlocks hnm hP hK hD hS hA hN hl
  have hl : lv_has ls 3 [(0, .ref (ad 0)), (1, .int k1), (2, .int k2)] := hl
  refine lv_aload_n hx hb dX7_pointAt_0 rfl (lv_at hl 0 rfl) ?_
  refine lv_iload_n hx hb dX7_pointAt_1 rfl (lv_at hl 1 rfl) ?_
  refine kV (rV (q0 := 0) (ci := 7) hx hb hml hown hg hN hK hP hD (c_needL l D cI cJ ad co fl ra li re wa pi k1 zp k0 k1h) mw_485 mw_486 mw_487 mw_488 mw_77 pdv_X7_needLayer ⟨Nat.le_of_ble_eq_true rfl, Nat.le_of_ble_eq_true rfl⟩ rfl xo0 rfl hl.1 rfl (Nat.le_of_ble_eq_true rfl) dX7_pointAt_2 ⟨Nat.le_of_ble_eq_true rfl, Nat.le_of_ble_eq_true rfl⟩) hD hS hA (fun u_1 H locs hp hP hD hS => ?_)
  obtain rfl := hp.symm
  refine lv_iload_n hx hb dX7_pointAt_5 rfl (lv_at hl 2 rfl) ?_
  refine lv_if_lt (tgt := 21) hx hb dX7_pointAt_6 (by decide) (fun c_6 => absurd c_6 k20) (fun _ => ?_)
  refine lv_iload_n hx hb dX7_pointAt_9 rfl (lv_at hl 2 rfl) ?_
  refine lv_aload_n hx hb dX7_pointAt_10 rfl (lv_at hl 0 rfl) ?_
  refine kR (rV (q0 := 0) (ci := 7) hx hb hml hown hg hN hK hP hD (c_freshPic1 l D cI cJ ad co fl ra li re wa pi zp) mw_367 mw_368 mw_369 mw_370 mw_77 pdv_X7_freshPicture ⟨Nat.le_of_ble_eq_true rfl, Nat.le_of_ble_eq_true rfl⟩ rfl xo0 rfl hl.1 rfl (Nat.le_of_ble_eq_true rfl) dX7_pointAt_11 ⟨Nat.le_of_ble_eq_true rfl, Nat.le_of_ble_eq_true rfl⟩) hD hS hA (fun r_2 u_2 H locs hp hP hD hS => ?_)
  obtain ⟨er, eu⟩ := hp
  obtain rfl := er.symm
  obtain rfl := eu.symm
  refine lv_iload_n hx hb dX7_pointAt_14 rfl (lv_at hl 1 rfl) ?_
  refine kI (rV (q0 := 6) (ci := 3) hx hb hml hown hg hN hK hP hD (c_sizeOf l D cI cJ ad co fl ra li re wa pi k1) mw_297 mw_400 mw_299 mw_300 mw_234 pdv_X3_sizeOf ⟨Nat.le_of_ble_eq_true rfl, Nat.le_of_ble_eq_true rfl⟩ rfl xo6 rfl hl.1 rfl (Nat.le_of_ble_eq_true rfl) dX7_pointAt_15 ⟨Nat.le_of_ble_eq_true rfl, Nat.le_of_ble_eq_true rfl⟩) hD hS hA (fun r_3 u_3 H locs hp hP hD hS => ?_)
  obtain ⟨er, eu⟩ := hp
  obtain rfl := er.symm
  obtain rfl := eu.symm
  refine lv_icmp_lt (tgt := 31) hx hb dX7_pointAt_18 (by decide) (fun _ => ?_) (fun c_18 => absurd k2h c_18)
  refine lv_aload_n hx hb dX7_pointAt_31 rfl (lv_at hl 0 rfl) ?_
  refine kR (rV (q0 := 0) (ci := 7) hx hb hml hown hg hN hK hP hD (c_freshPic1 l D cI cJ ad co fl ra li re wa pi zp) mw_367 mw_368 mw_369 mw_370 mw_77 pdv_X7_freshPicture ⟨Nat.le_of_ble_eq_true rfl, Nat.le_of_ble_eq_true rfl⟩ rfl xo0 rfl hl.1 rfl (Nat.le_of_ble_eq_true rfl) dX7_pointAt_32 ⟨Nat.le_of_ble_eq_true rfl, Nat.le_of_ble_eq_true rfl⟩) hD hS hA (fun r_4 u_4 H locs hp hP hD hS => ?_)
  obtain ⟨er, eu⟩ := hp
  obtain rfl := er.symm
  obtain rfl := eu.symm
  refine lv_iload_n hx hb dX7_pointAt_35 rfl (lv_at hl 1 rfl) ?_
  refine lv_iload_n hx hb dX7_pointAt_36 rfl (lv_at hl 2 rfl) ?_
  refine kI (rV (q0 := 6) (ci := 3) hx hb hml hown hg hN hK hP hD (c_shownAt l D cI cJ ad co fl ra li re wa pi k1 k2) mw_401 mw_402 mw_403 mw_404 mw_234 pdv_X3_shownAt ⟨Nat.le_of_ble_eq_true rfl, Nat.le_of_ble_eq_true rfl⟩ rfl xo6 rfl hl.1 rfl (Nat.le_of_ble_eq_true rfl) dX7_pointAt_37 ⟨Nat.le_of_ble_eq_true rfl, Nat.le_of_ble_eq_true rfl⟩) hD hS hA (fun r_5 u_5 H locs hp hP hD hS => ?_)
  obtain ⟨er, eu⟩ := hp
  obtain rfl := er.symm
  obtain rfl := eu.symm
  exact W.iret (v := (shownAt pi k1 k2)) hx hb hr (fun t ht hW => ⟨⟨(shownAt pi k1 k2), (XW ad cI cJ co fl ra li re wa pi), rfl, ⟨rfl, xw_eq rfl rfl rfl rfl rfl rfl rfl⟩, ⟨by rw [ht]; exact hP, va_K.moved hW.alike hK, hD⟩⟩, hS.F ht⟩) hS.2.2 dX7_pointAt_40
