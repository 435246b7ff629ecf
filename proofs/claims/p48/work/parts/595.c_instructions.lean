theorem dX7_instructions_0 : decode cX7_instructions 0 = .ok (.aload_n 0, 1) := by decide +kernel
theorem dX7_instructions_1 : decode cX7_instructions 1 = .ok (.getfield 10, 3) := by decide +kernel
theorem dX7_instructions_4 : decode cX7_instructions 4 = .ok (.getfield 51, 3) := by decide +kernel
theorem dX7_instructions_7 : decode cX7_instructions 7 = .ok (.ireturn, 1) := by decide +kernel
set_option maxHeartbeats 4000000 in
set_option maxRecDepth 100000 in
theorem c_instructions (l : Launch) (D : va_G) (cI cJ : ClassId) (ad : Nat → Nat) (co fl ra li re wa pi : Ob) : CT l D (TY cI cJ) yX7_instructions (.code yX7_instructions cX7_instructions 1 (some Jvm.ClassFile.FieldType.int)) 1 0 0 (XW ad cI cJ co fl ra li re wa pi) [.ref (ad 0)] (QI D (TY cI cJ) (fun r u => r = (gi co 0) ∧ u = (XW ad cI cJ co fl ra li re wa pi))) := by
  refine ent (by decide) (Nat.le_of_ble_eq_true rfl) ?_
  intro p e s m below meth c ls A hx hb hr hg hown hml hlocks hnm hP hK hD hS hA hN hl
  have hl : lv_has ls 1 [(0, .ref (ad 0))] := hl
  refine lv_aload_n hx hb dX7_instructions_0 rfl (lv_at hl 0 rfl) ?_
  refine va_get (D := D) (ci := 7) (v := .ref (ad 1)) (C := RX7) (T := TX7) (N := 6) hx hb hg inGX7 hown hK hP 0 xo0 rfl 0 (by decide) (hg _ mw_323) (fun _ h9 => h9) xvX7_0 dX7_instructions_1 ?_
  refine va_getN (D := D) (ci := 0) (v := .int (gi co 0)) (C := RX0) (T := TX0) (N := 5) hx hb hg inGX0 hown hK hP 1 xo1 rfl 4 (by decide) (hN.use nw_10) (fun _ h9 => h9) (xvX0_4 rfl) dX7_instructions_4 ?_
  exact W.iret (v := (gi co 0)) hx hb hr (fun t ht hW => ⟨⟨(gi co 0), (XW ad cI cJ co fl ra li re wa pi), rfl, ⟨rfl, xw_eq rfl rfl rfl rfl rfl rfl rfl⟩, ⟨by rw [ht]; exact hP, va_K.moved hW.alike hK, hD⟩⟩, hS.F ht⟩) hS.2.2 dX7_instructions_7
