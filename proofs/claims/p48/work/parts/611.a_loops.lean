theorem dX7_loops_0 : decode cX7_loops 0 = .ok (.aload_n 0, 1) := by decide +kernel
theorem dX7_loops_1 : decode cX7_loops 1 = .ok (.invokevirtual 159, 3) := by decide +kernel
theorem dX7_loops_4 : decode cX7_loops 4 = .ok (.getfield 178, 3) := by decide +kernel
theorem dX7_loops_7 : decode cX7_loops 7 = .ok (.ireturn, 1) := by decide +kernel
set_option maxHeartbeats 4000000 in
set_option maxRecDepth 100000 in
theorem a_loops (l : Launch) (D : va_G) (cI cJ : ClassId) (ad : Nat → Nat) (co fl ra li re wa pi : Ob) (zr : ¬ gi ra 2 = 0) : CT l D (TY cI cJ) yX7_loops (.code yX7_loops cX7_loops 1 (some Jvm.ClassFile.FieldType.int)) 7 0 0 (XW ad cI cJ co fl ra li re wa pi) [.ref (ad 0)] (QI D (TY cI cJ) (fun r u => r = (gi ra 0) ∧ u = (XW ad cI cJ co fl ra li re wa pi))) := by
  refine ent (by decide) (Nat.le_of_ble_eq_true rfl) ?_
  intro p e s m below meth c ls A hx hb hr hg hown hml hlocks hnm hP hK hD hS hA hN hl
  have hl : lv_has ls 1 [(0, .ref (ad 0))] := hl
  refine lv_aload_n hx hb dX7_loops_0 rfl (lv_at hl 0 rfl) ?_
  refine kR (rV (q0 := 0) (ci := 7) hx hb hml hown hg hN hK hP hD (c_freshRanks1 l D cI cJ ad co fl ra li re wa pi zr) mw_405 mw_406 mw_407 mw_408 mw_77 pdv_X7_freshRanks ⟨Nat.le_of_ble_eq_true rfl, Nat.le_of_ble_eq_true rfl⟩ rfl xo0 rfl hl.1 rfl (Nat.le_of_ble_eq_true rfl) dX7_loops_1 ⟨Nat.le_of_ble_eq_true rfl, Nat.le_of_ble_eq_true rfl⟩) hD hS hA (fun r_1 u_1 H locs hp hP hD hS => ?_)
  obtain ⟨er, eu⟩ := hp
  obtain rfl := er.symm
  obtain rfl := eu.symm
  refine va_getN (D := D) (ci := 4) (v := .int (gi ra 0)) (C := RX4) (T := TX4) (N := 7) hx hb hg inGX4 hown hK hP 3 xo3 rfl 4 (by decide) (hN.use nw_39) (fun _ h9 => h9) (xvX4_4 rfl) dX7_loops_4 ?_
  exact W.iret (v := (gi ra 0)) hx hb hr (fun t ht hW => ⟨⟨(gi ra 0), (XW ad cI cJ co fl ra li re wa pi), rfl, ⟨rfl, xw_eq rfl rfl rfl rfl rfl rfl rfl⟩, ⟨by rw [ht]; exact hP, va_K.moved hW.alike hK, hD⟩⟩, hS.F ht⟩) hS.2.2 dX7_loops_7
