theorem dX7_points_0 : decode cX7_points 0 = .ok (.aload_n 0, 1) := by decide +kernel
theorem dX7_points_1 : decode cX7_points 1 = .ok (.iload_n 1, 1) := by decide +kernel
theorem dX7_points_2 : decode cX7_points 2 = .ok (.invokevirtual 253, 3) := by decide +kernel
theorem dX7_points_5 : decode cX7_points 5 = .ok (.aload_n 0, 1) := by decide +kernel
theorem dX7_points_6 : decode cX7_points 6 = .ok (.invokevirtual 234, 3) := by decide +kernel
theorem dX7_points_9 : decode cX7_points 9 = .ok (.iload_n 1, 1) := by decide +kernel
theorem dX7_points_10 : decode cX7_points 10 = .ok (.invokevirtual 256, 3) := by decide +kernel
theorem dX7_points_13 : decode cX7_points 13 = .ok (.ireturn, 1) := by decide +kernel
theorem mw_485 : Cond.code yX7_needLayer cX7_needLayer 2 (none : Option FieldType) ∈ GW := gw_mem (inT5 _ (List.mem_of_getElem? (i := 13) rfl)) rfl
theorem mw_486 : Cond.methodLink RX7 253 yX7_needLayer ∈ GW := gw_mem (inT5 _ (List.mem_of_getElem? (i := 10) rfl)) rfl
theorem mw_487 : Cond.instanceMethod yX7_needLayer ∈ GW := gw_mem (inT5 _ (List.mem_of_getElem? (i := 12) rfl)) rfl
theorem mw_488 : Cond.selects RX7 yX7_needLayer yX7_needLayer ∈ GW := gw_mem (inTp (q := (yX7_needLayer, 6)) (List.mem_of_getElem? (i := 47) rfl)) rfl
theorem pdv_X7_needLayer : yX7_needLayer.cls = RX7 ∧ yX7_needLayer.cls ≠ "java/lang/invoke/MethodHandle" ∧ yX7_needLayer.cls ≠ "java/lang/invoke/VarHandle" ∧ (parseMethodDescriptor yX7_needLayer.desc).map (fun d => d.parameters.length) = some 1 := by decide +kernel
set_option maxHeartbeats 4000000 in
set_option maxRecDepth 100000 in
theorem a_points (l : Launch) (D : va_G) (cI cJ : ClassId) (ad : Nat → Nat) (co fl ra li re wa pi : Ob) (k1 : Int32) (zp : ¬ gi pi 3 = 0) (k0 : ¬ k1 < 0) (k1h : k1 < gi pi 1) : CT l D (TY cI cJ) yX7_points (.code yX7_points cX7_points 2 (some Jvm.ClassFile.FieldType.int)) 7 0 0 (XW ad cI cJ co fl ra li re wa pi) [.ref (ad 0), .int k1] (QI D (TY cI cJ) (fun r u => r = (sizeOf pi k1) ∧ u = (XW ad cI cJ co fl ra li re wa pi))) := by
  refine ent (by decide) (Nat.le_of_ble_eq_true rfl) ?_
  intro p e s m below meth c ls A hx hb hr hg hown hml hlocks hnm hP hK hD hS hA hN hl
  have hl : lv_has ls 2 [(0, .ref (ad 0)), (1, .int k1)] := hl
  refine lv_aload_n hx hb dX7_points_0 rfl (lv_at hl 0 rfl) ?_
  refine lv_iload_n hx hb dX7_points_1 rfl (lv_at hl 1 rfl) ?_
  refine kV (rV (q0 := 0) (ci := 7) hx hb hml hown hg hN hK hP hD (c_needL l D cI cJ ad co fl ra li re wa pi k1 zp k0 k1h) mw_485 mw_486 mw_487 mw_488 mw_77 pdv_X7_needLayer ⟨Nat.le_of_ble_eq_true rfl, Nat.le_of_ble_eq_true rfl⟩ rfl xo0 rfl hl.1 rfl (Nat.le_of_ble_eq_true rfl) dX7_points_2 ⟨Nat.le_of_ble_eq_true rfl, Nat.le_of_ble_eq_true rfl⟩) hD hS hA (fun u_1 H locs hp hP hD hS => ?_)
  obtain rfl := hp.symm
  refine lv_aload_n hx hb dX7_points_5 rfl (lv_at hl 0 rfl) ?_
  refine kR (rV (q0 := 0) (ci := 7) hx hb hml hown hg hN hK hP hD (c_freshPic1 l D cI cJ ad co fl ra li re wa pi zp) mw_367 mw_368 mw_369 mw_370 mw_77 pdv_X7_freshPicture ⟨Nat.le_of_ble_eq_true rfl, Nat.le_of_ble_eq_true rfl⟩ rfl xo0 rfl hl.1 rfl (Nat.le_of_ble_eq_true rfl) dX7_points_6 ⟨Nat.le_of_ble_eq_true rfl, Nat.le_of_ble_eq_true rfl⟩) hD hS hA (fun r_2 u_2 H locs hp hP hD hS => ?_)
  obtain ⟨er, eu⟩ := hp
  obtain rfl := er.symm
  obtain rfl := eu.symm
  refine lv_iload_n hx hb dX7_points_9 rfl (lv_at hl 1 rfl) ?_
  refine kI (rV (q0 := 6) (ci := 3) hx hb hml hown hg hN hK hP hD (c_sizeOf l D cI cJ ad co fl ra li re wa pi k1) mw_297 mw_400 mw_299 mw_300 mw_234 pdv_X3_sizeOf ⟨Nat.le_of_ble_eq_true rfl, Nat.le_of_ble_eq_true rfl⟩ rfl xo6 rfl hl.1 rfl (Nat.le_of_ble_eq_true rfl) dX7_points_10 ⟨Nat.le_of_ble_eq_true rfl, Nat.le_of_ble_eq_true rfl⟩) hD hS hA (fun r_3 u_3 H locs hp hP hD hS => ?_)
  obtain ⟨er, eu⟩ := hp
  obtain rfl := er.symm
  obtain rfl := eu.symm
  exact W.iret (v := (sizeOf pi k1)) hx hb hr (fun t ht hW => ⟨⟨(sizeOf pi k1), (XW ad cI cJ co fl ra li re wa pi), rfl, ⟨rfl, xw_eq rfl rfl rfl rfl rfl rfl rfl⟩, ⟨by rw [ht]; exact hP, va_K.moved hW.alike hK, hD⟩⟩, hS.F ht⟩) hS.2.2 dX7_points_13
