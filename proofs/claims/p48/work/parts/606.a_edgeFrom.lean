theorem dX7_edgeFrom_0 : decode cX7_edgeFrom 0 = .ok (.aload_n 0, 1) := by decide +kernel
theorem dX7_edgeFrom_1 : decode cX7_edgeFrom 1 = .ok (.iload_n 1, 1) := by decide +kernel
theorem dX7_edgeFrom_2 : decode cX7_edgeFrom 2 = .ok (.invokevirtual 150, 3) := by decide +kernel
theorem dX7_edgeFrom_5 : decode cX7_edgeFrom 5 = .ok (.aload_n 0, 1) := by decide +kernel
theorem dX7_edgeFrom_6 : decode cX7_edgeFrom 6 = .ok (.invokevirtual 123, 3) := by decide +kernel
theorem dX7_edgeFrom_9 : decode cX7_edgeFrom 9 = .ok (.getfield 153, 3) := by decide +kernel
theorem dX7_edgeFrom_12 : decode cX7_edgeFrom 12 = .ok (.iload_n 1, 1) := by decide +kernel
theorem dX7_edgeFrom_13 : decode cX7_edgeFrom 13 = .ok (.invokestatic 96, 3) := by decide +kernel
theorem dX7_edgeFrom_16 : decode cX7_edgeFrom 16 = .ok (.ireturn, 1) := by decide +kernel
theorem mw_480 : Cond.code yX7_needEdge cX7_needEdge 2 (none : Option FieldType) ∈ GW := gw_mem (inT4 _ (List.mem_of_getElem? (i := 213) rfl)) rfl
theorem mw_481 : Cond.methodLink RX7 150 yX7_needEdge ∈ GW := gw_mem (inT4 _ (List.mem_of_getElem? (i := 210) rfl)) rfl
theorem mw_482 : Cond.instanceMethod yX7_needEdge ∈ GW := gw_mem (inT4 _ (List.mem_of_getElem? (i := 212) rfl)) rfl
theorem mw_483 : Cond.selects RX7 yX7_needEdge yX7_needEdge ∈ GW := gw_mem (inTp (q := (yX7_needEdge, 6)) (List.mem_of_getElem? (i := 46) rfl)) rfl
theorem pdv_X7_needEdge : yX7_needEdge.cls = RX7 ∧ yX7_needEdge.cls ≠ "java/lang/invoke/MethodHandle" ∧ yX7_needEdge.cls ≠ "java/lang/invoke/VarHandle" ∧ (parseMethodDescriptor yX7_needEdge.desc).map (fun d => d.parameters.length) = some 1 := by decide +kernel
set_option maxHeartbeats 4000000 in
set_option maxRecDepth 100000 in
theorem a_edgeFrom (l : Launch) (D : va_G) (cI cJ : ClassId) (ad : Nat → Nat) (co fl ra li re wa pi : Ob) (k1 : Int32) (zf : ¬ gi fl 2 = 0) (k0 : ¬ k1 < 0) (k1h : k1 < gi fl 1) : CT l D (TY cI cJ) yX7_edgeFrom (.code yX7_edgeFrom cX7_edgeFrom 2 (some Jvm.ClassFile.FieldType.int)) 7 0 0 (XW ad cI cJ co fl ra li re wa pi) [.ref (ad 0), .int k1] (QI D (TY cI cJ) (fun r u => r = (rd (gA fl 3) 80 k1) ∧ u = (XW ad cI cJ co fl ra li re wa pi))) := by
  refine ent (by decide) (Nat.le_of_ble_eq_true rfl) ?_
  intro p e s m below meth c ls A hx hb hr hg hown hml hlocks hnm hP hK hD hS hA hN hl
  have hl : lv_has ls 2 [(0, .ref (ad 0)), (1, .int k1)] := hl
  refine lv_aload_n hx hb dX7_edgeFrom_0 rfl (lv_at hl 0 rfl) ?_
  refine lv_iload_n hx hb dX7_edgeFrom_1 rfl (lv_at hl 1 rfl) ?_
  refine kV (rV (q0 := 0) (ci := 7) hx hb hml hown hg hN hK hP hD (c_needE l D cI cJ ad co fl ra li re wa pi k1 zf k0 k1h) mw_480 mw_481 mw_482 mw_483 mw_77 pdv_X7_needEdge ⟨Nat.le_of_ble_eq_true rfl, Nat.le_of_ble_eq_true rfl⟩ rfl xo0 rfl hl.1 rfl (Nat.le_of_ble_eq_true rfl) dX7_edgeFrom_2 ⟨Nat.le_of_ble_eq_true rfl, Nat.le_of_ble_eq_true rfl⟩) hD hS hA (fun u_1 H locs hp hP hD hS => ?_)
  obtain rfl := hp.symm
  refine lv_aload_n hx hb dX7_edgeFrom_5 rfl (lv_at hl 0 rfl) ?_
  refine kR (rV (q0 := 0) (ci := 7) hx hb hml hown hg hN hK hP hD (c_freshFlow1 l D cI cJ ad co fl ra li re wa pi zf) mw_329 mw_330 mw_331 mw_332 mw_77 pdv_X7_freshFlow ⟨Nat.le_of_ble_eq_true rfl, Nat.le_of_ble_eq_true rfl⟩ rfl xo0 rfl hl.1 rfl (Nat.le_of_ble_eq_true rfl) dX7_edgeFrom_6 ⟨Nat.le_of_ble_eq_true rfl, Nat.le_of_ble_eq_true rfl⟩) hD hS hA (fun r_2 u_2 H locs hp hP hD hS => ?_)
  obtain ⟨er, eu⟩ := hp
  obtain rfl := er.symm
  obtain rfl := eu.symm
  refine va_getN (D := D) (ci := 1) (v := .ref (ad 15)) (C := RX1) (T := TX1) (N := 11) hx hb hg inGX1 hown hK hP 2 xo2 rfl 3 (by decide) (hN.use nw_17) (fun _ h9 => h9) xvX1_3 dX7_edgeFrom_9 ?_
  refine lv_iload_n hx hb dX7_edgeFrom_12 rfl (lv_at hl 1 rfl) ?_
  refine kI (rS hx hb hml hown hg hN hK hP hD (c_at l D cI cJ (XW ad cI cJ co fl ra li re wa pi) 15 (ad 15) 80 (gA fl 3) k1 (xg15 rfl) (by decide)) mw_84 mw_374 mw_85 mw_77 pd_X7_at ⟨Nat.le_of_ble_eq_true rfl, Nat.le_of_ble_eq_true rfl⟩ rfl hl.1 rfl (Nat.le_of_ble_eq_true rfl) dX7_edgeFrom_13 ⟨Nat.le_of_ble_eq_true rfl, Nat.le_of_ble_eq_true rfl⟩) hD hS hA (fun r_3 u_3 H locs hp hP hD hS => ?_)
  obtain ⟨er, eu⟩ := hp
  obtain rfl := er.symm
  obtain rfl := eu.symm
  exact W.iret (v := (rd (gA fl 3) 80 k1)) hx hb hr (fun t ht hW => ⟨⟨(rd (gA fl 3) 80 k1), (XW ad cI cJ co fl ra li re wa pi), rfl, ⟨rfl, xw_eq rfl rfl rfl rfl rfl rfl rfl⟩, ⟨by rw [ht]; exact hP, va_K.moved hW.alike hK, hD⟩⟩, hS.F ht⟩) hS.2.2 dX7_edgeFrom_16
