theorem dX7_windings_0 : decode cX7_windings 0 = .ok (.aload_n 0, 1) := by decide +kernel
theorem dX7_windings_1 : decode cX7_windings 1 = .ok (.invokevirtual 123, 3) := by decide +kernel
theorem dX7_windings_4 : decode cX7_windings 4 = .ok (.invokevirtual 210, 3) := by decide +kernel
theorem dX7_windings_7 : decode cX7_windings 7 = .ok (.ireturn, 1) := by decide +kernel
set_option maxHeartbeats 4000000 in
set_option maxRecDepth 100000 in
theorem a_windings (l : Launch) (D : va_G) (cI cJ : ClassId) (ad : Nat → Nat) (co fl ra li re wa pi : Ob) (zf : ¬ gi fl 2 = 0) : CT l D (TY cI cJ) yX7_windings (.code yX7_windings cX7_windings 1 (some Jvm.ClassFile.FieldType.int)) 7 0 0 (XW ad cI cJ co fl ra li re wa pi) [.ref (ad 0)] (QI D (TY cI cJ) (fun r u => r = (windings fl) ∧ u = (XW ad cI cJ co fl ra li re wa pi))) := by
  refine ent (by decide) (Nat.le_of_ble_eq_true rfl) ?_
  intro p e s m below meth c ls A hx hb hr hg hown hml hlocks hnm hP hK hD hS hA hN hl
  have hl : lv_has ls 1 [(0, .ref (ad 0))] := hl
  refine lv_aload_n hx hb dX7_windings_0 rfl (lv_at hl 0 rfl) ?_
  refine kR (rV (q0 := 0) (ci := 7) hx hb hml hown hg hN hK hP hD (c_freshFlow1 l D cI cJ ad co fl ra li re wa pi zf) mw_329 mw_330 mw_331 mw_332 mw_77 pdv_X7_freshFlow ⟨Nat.le_of_ble_eq_true rfl, Nat.le_of_ble_eq_true rfl⟩ rfl xo0 rfl hl.1 rfl (Nat.le_of_ble_eq_true rfl) dX7_windings_1 ⟨Nat.le_of_ble_eq_true rfl, Nat.le_of_ble_eq_true rfl⟩) hD hS hA (fun r_1 u_1 H locs hp hP hD hS => ?_)
  obtain ⟨er, eu⟩ := hp
  obtain rfl := er.symm
  obtain rfl := eu.symm
  refine kI (rV (q0 := 2) (ci := 1) hx hb hml hown hg hN hK hP hD (c_countWindings l D cI cJ ad co fl ra li re wa pi) mw_430 mw_431 mw_432 mw_433 mw_106 pdv_X1_countWindings ⟨Nat.le_of_ble_eq_true rfl, Nat.le_of_ble_eq_true rfl⟩ rfl xo2 rfl hl.1 rfl (Nat.le_of_ble_eq_true rfl) dX7_windings_4 ⟨Nat.le_of_ble_eq_true rfl, Nat.le_of_ble_eq_true rfl⟩) hD hS hA (fun r_2 u_2 H locs hp hP hD hS => ?_)
  obtain ⟨er, eu⟩ := hp
  obtain rfl := er.symm
  obtain rfl := eu.symm
  exact W.iret (v := (windings fl)) hx hb hr (fun t ht hW => ⟨⟨(windings fl), (XW ad cI cJ co fl ra li re wa pi), rfl, ⟨rfl, xw_eq rfl rfl rfl rfl rfl rfl rfl⟩, ⟨by rw [ht]; exact hP, va_K.moved hW.alike hK, hD⟩⟩, hS.F ht⟩) hS.2.2 dX7_windings_7
