theorem dX7_left_0 : decode cX7_left 0 = .ok (.aload_n 0, 1) := by decide +kernel
theorem dX7_left_1 : decode cX7_left 1 = .ok (.invokevirtual 214, 3) := by decide +kernel
theorem dX7_left_4 : decode cX7_left 4 = .ok (.getfield 230, 3) := by decide +kernel
theorem dX7_left_7 : decode cX7_left 7 = .ok (.invokestatic 188, 3) := by decide +kernel
theorem dX7_left_10 : decode cX7_left 10 = .ok (.ireturn, 1) := by decide +kernel
set_option maxHeartbeats 4000000 in
set_option maxRecDepth 100000 in
theorem a_left (l : Launch) (D : va_G) (cI cJ : ClassId) (ad : Nat → Nat) (co fl ra li re wa pi : Ob) (zd : ¬ gi re 1 = 0) : CT l D (TY cI cJ) yX7_left (.code yX7_left cX7_left 1 (some Jvm.ClassFile.FieldType.int)) 7 0 0 (XW ad cI cJ co fl ra li re wa pi) [.ref (ad 0)] (QI D (TY cI cJ) (fun r u => r = (bc (gl re 0)) ∧ u = (XW ad cI cJ co fl ra li re wa pi))) := by
  refine ent (by decide) (Nat.le_of_ble_eq_true rfl) ?_
  intro p e s m below meth c ls A hx hb hr hg hown hml hlocks hnm hP hK hD hS hA hN hl
  have hl : lv_has ls 1 [(0, .ref (ad 0))] := hl
  refine lv_aload_n hx hb dX7_left_0 rfl (lv_at hl 0 rfl) ?_
  refine kR (rV (q0 := 0) (ci := 7) hx hb hml hown hg hN hK hP hD (c_freshRed1 l D cI cJ ad co fl ra li re wa pi zd) mw_413 mw_414 mw_415 mw_416 mw_77 pdv_X7_freshReduction ⟨Nat.le_of_ble_eq_true rfl, Nat.le_of_ble_eq_true rfl⟩ rfl xo0 rfl hl.1 rfl (Nat.le_of_ble_eq_true rfl) dX7_left_1 ⟨Nat.le_of_ble_eq_true rfl, Nat.le_of_ble_eq_true rfl⟩) hD hS hA (fun r_1 u_1 H locs hp hP hD hS => ?_)
  obtain ⟨er, eu⟩ := hp
  obtain rfl := er.symm
  obtain rfl := eu.symm
  refine va_getN (D := D) (ci := 5) (v := .long (gl re 0)) (C := RX5) (T := TX5) (N := 8) hx hb hg inGX5 hown hK hP 5 xo5 rfl 5 (by decide) (hN.use nw_50) (fun _ h9 => h9) (xvX5_5 rfl) dX7_left_4 ?_
  refine kI (rS hx hb hml hown hg hN hK hP hD (c_bitCount l D cI cJ (XW ad cI cJ co fl ra li re wa pi) (gl re 0)) mw_68 mw_69 mw_70 mw_71 pd_J13_bitCount_95d88 ⟨Nat.le_of_ble_eq_true rfl, Nat.le_of_ble_eq_true rfl⟩ rfl hl.1 rfl (Nat.le_of_ble_eq_true rfl) dX7_left_7 ⟨Nat.le_of_ble_eq_true rfl, Nat.le_of_ble_eq_true rfl⟩) hD hS hA (fun r_2 u_2 H locs hp hP hD hS => ?_)
  obtain ⟨er, eu⟩ := hp
  obtain rfl := er.symm
  obtain rfl := eu.symm
  exact W.iret (v := (bc (gl re 0))) hx hb hr (fun t ht hW => ⟨⟨(bc (gl re 0)), (XW ad cI cJ co fl ra li re wa pi), rfl, ⟨rfl, xw_eq rfl rfl rfl rfl rfl rfl rfl⟩, ⟨by rw [ht]; exact hP, va_K.moved hW.alike hK, hD⟩⟩, hS.F ht⟩) hS.2.2 dX7_left_10
