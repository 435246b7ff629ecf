theorem dX7_bendAt_0 : decode cX7_bendAt 0 = .ok (.aload_n 0, 1) := by decide +kernel
theorem dX7_bendAt_1 : decode cX7_bendAt 1 = .ok (.iload_n 1, 1) := by decide +kernel
theorem dX7_bendAt_2 : decode cX7_bendAt 2 = .ok (.invokevirtual 150, 3) := by decide +kernel
theorem dX7_bendAt_5 : decode cX7_bendAt 5 = .ok (.iload_n 2, 1) := by decide +kernel
theorem dX7_bendAt_6 : decode cX7_bendAt 6 = .ok (.ifCond .lt 15, 3) := by decide +kernel
theorem dX7_bendAt_9 : decode cX7_bendAt 9 = .ok (.iload_n 2, 1) := by decide +kernel
theorem dX7_bendAt_10 : decode cX7_bendAt 10 = .ok (.aload_n 0, 1) := by decide +kernel
theorem dX7_bendAt_11 : decode cX7_bendAt 11 = .ok (.invokevirtual 234, 3) := by decide +kernel
theorem dX7_bendAt_14 : decode cX7_bendAt 14 = .ok (.iload_n 1, 1) := by decide +kernel
theorem dX7_bendAt_15 : decode cX7_bendAt 15 = .ok (.invokevirtual 269, 3) := by decide +kernel
theorem dX7_bendAt_18 : decode cX7_bendAt 18 = .ok (.if_icmp .lt 14, 3) := by decide +kernel
theorem dX7_bendAt_32 : decode cX7_bendAt 32 = .ok (.aload_n 0, 1) := by decide +kernel
theorem dX7_bendAt_33 : decode cX7_bendAt 33 = .ok (.invokevirtual 234, 3) := by decide +kernel
theorem dX7_bendAt_36 : decode cX7_bendAt 36 = .ok (.iload_n 1, 1) := by decide +kernel
theorem dX7_bendAt_37 : decode cX7_bendAt 37 = .ok (.iload_n 2, 1) := by decide +kernel
theorem dX7_bendAt_38 : decode cX7_bendAt 38 = .ok (.invokevirtual 274, 3) := by decide +kernel
theorem dX7_bendAt_41 : decode cX7_bendAt 41 = .ok (.ireturn, 1) := by decide +kernel
theorem mw_489 : Cond.code yX3_placeOfBend cX3_placeOfBend 3 (some Jvm.ClassFile.FieldType.int) ∈ GW := gw_mem (inT5 _ (List.mem_of_getElem? (i := 35) rfl)) rfl
theorem mw_490 : Cond.methodLink RX7 274 yX3_placeOfBend ∈ GW := gw_mem (inT5 _ (List.mem_of_getElem? (i := 32) rfl)) rfl
theorem mw_491 : Cond.instanceMethod yX3_placeOfBend ∈ GW := gw_mem (inT5 _ (List.mem_of_getElem? (i := 33) rfl)) rfl
theorem mw_492 : Cond.selects RX3 yX3_placeOfBend yX3_placeOfBend ∈ GW := gw_mem (inT5 _ (List.mem_of_getElem? (i := 34) rfl)) rfl
theorem pdv_X3_placeOfBend : yX3_placeOfBend.cls = RX3 ∧ yX3_placeOfBend.cls ≠ "java/lang/invoke/MethodHandle" ∧ yX3_placeOfBend.cls ≠ "java/lang/invoke/VarHandle" ∧ (parseMethodDescriptor yX3_placeOfBend.desc).map (fun d => d.parameters.length) = some 2 := by decide +kernel
set_option maxHeartbeats 4000000 in
set_option maxRecDepth 100000 in
theorem a_bendAt (l : Launch) (D : va_G) (cI cJ : ClassId) (ad : Nat → Nat) (co fl ra li re wa pi : Ob) (k1 : Int32) (k2 : Int32) (zf : ¬ gi fl 2 = 0) (zp : ¬ gi pi 3 = 0) (k0 : ¬ k1 < 0) (k1h : k1 < gi fl 1) (k20 : ¬ k2 < 0) (k2h : k2 < bendCount wa pi k1) : CT l D (TY cI cJ) yX7_bendAt (.code yX7_bendAt cX7_bendAt 3 (some Jvm.ClassFile.FieldType.int)) 7 0 0 (XW ad cI cJ co fl ra li re wa pi) [.ref (ad 0), .int k1, .int k2] (QI D (TY cI cJ) (fun r u => r = (placeBend pi k1 k2) ∧ u = (XW ad cI cJ co fl ra li re wa pi))) := by
  refine ent (by decide) (Nat.le_of_ble_eq_true rfl) ?_
  intro p e s m below meth c ls A hx hb hr hg hown hml hlocks hnm hP hK hD hS hA hN hl
  have hl : lv_has ls 3 [(0, .ref (ad 0)), (1, .int k1), (2, .int k2)] := hl
  refine lv_aload_n hx hb dX7_bendAt_0 rfl (lv_at hl 0 rfl) ?_
  refine lv_iload_n hx hb dX7_bendAt_1 rfl (lv_at hl 1 rfl) ?_
  refine kV (rV (q0 := 0) (ci := 7) hx hb hml hown hg hN hK hP hD (c_needE l D cI cJ ad co fl ra li re wa pi k1 zf k0 k1h) mw_480 mw_481 mw_482 mw_483 mw_77 pdv_X7_needEdge ⟨Nat.le_of_ble_eq_true rfl, Nat.le_of_ble_eq_true rfl⟩ rfl xo0 rfl hl.1 rfl (Nat.le_of_ble_eq_true rfl) dX7_bendAt_2 ⟨Nat.le_of_ble_eq_true rfl, Nat.le_of_ble_eq_true rfl⟩) hD hS hA (fun u_1 H locs hp hP hD hS => ?_)
  obtain rfl := hp.symm
  refine lv_iload_n hx hb dX7_bendAt_5 rfl (lv_at hl 2 rfl) ?_
  refine lv_if_lt (tgt := 21) hx hb dX7_bendAt_6 (by decide) (fun c_6 => absurd c_6 k20) (fun _ => ?_)
  refine lv_iload_n hx hb dX7_bendAt_9 rfl (lv_at hl 2 rfl) ?_
  refine lv_aload_n hx hb dX7_bendAt_10 rfl (lv_at hl 0 rfl) ?_
  refine kR (rV (q0 := 0) (ci := 7) hx hb hml hown hg hN hK hP hD (c_freshPic1 l D cI cJ ad co fl ra li re wa pi zp) mw_367 mw_368 mw_369 mw_370 mw_77 pdv_X7_freshPicture ⟨Nat.le_of_ble_eq_true rfl, Nat.le_of_ble_eq_true rfl⟩ rfl xo0 rfl hl.1 rfl (Nat.le_of_ble_eq_true rfl) dX7_bendAt_11 ⟨Nat.le_of_ble_eq_true rfl, Nat.le_of_ble_eq_true rfl⟩) hD hS hA (fun r_2 u_2 H locs hp hP hD hS => ?_)
  obtain ⟨er, eu⟩ := hp
  obtain rfl := er.symm
  obtain rfl := eu.symm
  refine lv_iload_n hx hb dX7_bendAt_14 rfl (lv_at hl 1 rfl) ?_
  refine kI (rV (q0 := 6) (ci := 3) hx hb hml hown hg hN hK hP hD (c_bendCount l D cI cJ ad co fl ra li re wa pi k1) mw_249 mw_399 mw_251 mw_252 mw_234 pdv_X3_bendCount ⟨Nat.le_of_ble_eq_true rfl, Nat.le_of_ble_eq_true rfl⟩ rfl xo6 rfl hl.1 rfl (Nat.le_of_ble_eq_true rfl) dX7_bendAt_15 ⟨Nat.le_of_ble_eq_true rfl, Nat.le_of_ble_eq_true rfl⟩) hD hS hA (fun r_3 u_3 H locs hp hP hD hS => ?_)
  obtain ⟨er, eu⟩ := hp
  obtain rfl := er.symm
  obtain rfl := eu.symm
  refine lv_icmp_lt (tgt := 32) hx hb dX7_bendAt_18 (by decide) (fun _ => ?_) (fun c_18 => absurd k2h c_18)
  refine lv_aload_n hx hb dX7_bendAt_32 rfl (lv_at hl 0 rfl) ?_
  refine kR (rV (q0 := 0) (ci := 7) hx hb hml hown hg hN hK hP hD (c_freshPic1 l D cI cJ ad co fl ra li re wa pi zp) mw_367 mw_368 mw_369 mw_370 mw_77 pdv_X7_freshPicture ⟨Nat.le_of_ble_eq_true rfl, Nat.le_of_ble_eq_true rfl⟩ rfl xo0 rfl hl.1 rfl (Nat.le_of_ble_eq_true rfl) dX7_bendAt_33 ⟨Nat.le_of_ble_eq_true rfl, Nat.le_of_ble_eq_true rfl⟩) hD hS hA (fun r_4 u_4 H locs hp hP hD hS => ?_)
  obtain ⟨er, eu⟩ := hp
  obtain rfl := er.symm
  obtain rfl := eu.symm
  refine lv_iload_n hx hb dX7_bendAt_36 rfl (lv_at hl 1 rfl) ?_
  refine lv_iload_n hx hb dX7_bendAt_37 rfl (lv_at hl 2 rfl) ?_
  refine kI (rV (q0 := 6) (ci := 3) hx hb hml hown hg hN hK hP hD (c_placeBend l D cI cJ ad co fl ra li re wa pi k1 k2) mw_489 mw_490 mw_491 mw_492 mw_234 pdv_X3_placeOfBend ⟨Nat.le_of_ble_eq_true rfl, Nat.le_of_ble_eq_true rfl⟩ rfl xo6 rfl hl.1 rfl (Nat.le_of_ble_eq_true rfl) dX7_bendAt_38 ⟨Nat.le_of_ble_eq_true rfl, Nat.le_of_ble_eq_true rfl⟩) hD hS hA (fun r_5 u_5 H locs hp hP hD hS => ?_)
  obtain ⟨er, eu⟩ := hp
  obtain rfl := er.symm
  obtain rfl := eu.symm
  exact W.iret (v := (placeBend pi k1 k2)) hx hb hr (fun t ht hW => ⟨⟨(placeBend pi k1 k2), (XW ad cI cJ co fl ra li re wa pi), rfl, ⟨rfl, xw_eq rfl rfl rfl rfl rfl rfl rfl⟩, ⟨by rw [ht]; exact hP, va_K.moved hW.alike hK, hD⟩⟩, hS.F ht⟩) hS.2.2 dX7_bendAt_41
