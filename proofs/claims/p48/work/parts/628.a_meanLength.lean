theorem dX7_meanLength_0 : decode cX7_meanLength 0 = .ok (.aload_n 0, 1) := by decide +kernel
theorem dX7_meanLength_1 : decode cX7_meanLength 1 = .ok (.invokevirtual 234, 3) := by decide +kernel
theorem dX7_meanLength_4 : decode cX7_meanLength 4 = .ok (.invokevirtual 292, 3) := by decide +kernel
theorem dX7_meanLength_7 : decode cX7_meanLength 7 = .ok (.dreturn, 1) := by decide +kernel
theorem mw_493 : Cond.code yX3_meanSpan cX3_meanSpan 4 (some Jvm.ClassFile.FieldType.double) ∈ GW := gw_mem (inT5 _ (List.mem_of_getElem? (i := 43) rfl)) rfl
theorem mw_494 : Cond.methodLink RX7 292 yX3_meanSpan ∈ GW := gw_mem (inT5 _ (List.mem_of_getElem? (i := 40) rfl)) rfl
theorem mw_495 : Cond.instanceMethod yX3_meanSpan ∈ GW := gw_mem (inT5 _ (List.mem_of_getElem? (i := 41) rfl)) rfl
theorem mw_496 : Cond.selects RX3 yX3_meanSpan yX3_meanSpan ∈ GW := gw_mem (inT5 _ (List.mem_of_getElem? (i := 42) rfl)) rfl
theorem pdv_X3_meanSpan : yX3_meanSpan.cls = RX3 ∧ yX3_meanSpan.cls ≠ "java/lang/invoke/MethodHandle" ∧ yX3_meanSpan.cls ≠ "java/lang/invoke/VarHandle" ∧ (parseMethodDescriptor yX3_meanSpan.desc).map (fun d => d.parameters.length) = some 0 := by decide +kernel
set_option maxHeartbeats 4000000 in
set_option maxRecDepth 100000 in
theorem a_meanLength (l : Launch) (D : va_G) (cI cJ : ClassId) (ad : Nat → Nat) (co fl ra li re wa pi : Ob) (zp : ¬ gi pi 3 = 0) (hnan : 0 < (msAll wa pi).1 → vf_n64 (FP.ddiv (FP.i2d (msAll wa pi).2) (FP.i2d (msAll wa pi).1))) : CT l D (TY cI cJ) yX7_meanLength (.code yX7_meanLength cX7_meanLength 1 (some Jvm.ClassFile.FieldType.double)) 7 0 0 (XW ad cI cJ co fl ra li re wa pi) [.ref (ad 0)] (QD D (TY cI cJ) (fun r u => r = (meanD wa pi) ∧ u = (XW ad cI cJ co fl ra li re wa pi))) := by
  refine ent (by decide) (Nat.le_of_ble_eq_true rfl) ?_
  intro p e s m below meth c ls A hx hb hr hg hown hml hlocks hnm hP hK hD hS hA hN hl
  have hl : lv_has ls 1 [(0, .ref (ad 0))] := hl
  refine lv_aload_n hx hb dX7_meanLength_0 rfl (lv_at hl 0 rfl) ?_
  refine kR (rV (q0 := 0) (ci := 7) hx hb hml hown hg hN hK hP hD (c_freshPic1 l D cI cJ ad co fl ra li re wa pi zp) mw_367 mw_368 mw_369 mw_370 mw_77 pdv_X7_freshPicture ⟨Nat.le_of_ble_eq_true rfl, Nat.le_of_ble_eq_true rfl⟩ rfl xo0 rfl hl.1 rfl (Nat.le_of_ble_eq_true rfl) dX7_meanLength_1 ⟨Nat.le_of_ble_eq_true rfl, Nat.le_of_ble_eq_true rfl⟩) hD hS hA (fun r_1 u_1 H locs hp hP hD hS => ?_)
  obtain ⟨er, eu⟩ := hp
  obtain rfl := er.symm
  obtain rfl := eu.symm
  refine kD (rV (q0 := 6) (ci := 3) hx hb hml hown hg hN hK hP hD (c_meanSpan l D cI cJ ad co fl ra li re wa pi hnan) mw_493 mw_494 mw_495 mw_496 mw_234 pdv_X3_meanSpan ⟨Nat.le_of_ble_eq_true rfl, Nat.le_of_ble_eq_true rfl⟩ rfl xo6 rfl hl.1 rfl (Nat.le_of_ble_eq_true rfl) dX7_meanLength_4 ⟨Nat.le_of_ble_eq_true rfl, Nat.le_of_ble_eq_true rfl⟩) hD hS hA (fun r_2 u_2 H locs hp hP hD hS => ?_)
  obtain ⟨er, eu⟩ := hp
  obtain rfl := er.symm
  obtain rfl := eu.symm
  exact W.dret (v := (meanD wa pi)) hx hb hr (fun t ht hW => ⟨⟨(meanD wa pi), (XW ad cI cJ co fl ra li re wa pi), rfl, ⟨rfl, xw_eq rfl rfl rfl rfl rfl rfl rfl⟩, ⟨by rw [ht]; exact hP, va_K.moved hW.alike hK, hD⟩⟩, hS.F ht⟩) hS.2.2 dX7_meanLength_7
