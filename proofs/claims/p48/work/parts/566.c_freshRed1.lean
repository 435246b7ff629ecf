set_option maxHeartbeats 4000000 in
set_option maxRecDepth 100000 in
theorem c_freshRed1 (l : Launch) (D : va_G) (cI cJ : ClassId) (ad : Nat → Nat) (co fl ra li re wa pi : Ob) (zd : ¬ gi re 1 = 0) : CT l D (TY cI cJ) yX7_freshReduction (.code yX7_freshReduction cX7_freshReduction 1 (some (Jvm.ClassFile.FieldType.object "OrielChart$Reduction"))) 1 0 0 (XW ad cI cJ co fl ra li re wa pi) [.ref (ad 0)] (QR D (TY cI cJ) (fun r u => r = (ad 5) ∧ u = (XW ad cI cJ co fl ra li re wa pi))) := by
  refine ent (by decide) (Nat.le_of_ble_eq_true rfl) ?_
  intro p e s m below meth c ls A hx hb hr hg hown hml hlocks hnm hP hK hD hS hA hN hl
  have hl : lv_has ls 1 [(0, .ref (ad 0))] := hl
  refine lv_aload_n hx hb dX7_freshReduction_0 rfl (lv_at hl 0 rfl) ?_
  refine va_get (D := D) (ci := 7) (v := .ref (ad 5)) (C := RX7) (T := TX7) (N := 6) hx hb hg inGX7 hown hK hP 0 xo0 rfl 4 (by decide) (hg _ mw_342) (fun _ h9 => h9) xvX7_4 dX7_freshReduction_1 ?_
  refine va_getN (D := D) (ci := 5) (v := .int (gi re 1)) (C := RX5) (T := TX5) (N := 8) hx hb hg inGX5 hown hK hP 5 xo5 rfl 7 (by decide) (hN.use nw_52) (fun _ h9 => h9) (xvX5_7 rfl) dX7_freshReduction_4 ?_
  refine lv_if_ne (tgt := 29) hx hb dX7_freshReduction_7 (by decide) (fun _ => ?_) (fun c_7 => absurd c_7 zd)
  refine lv_aload_n hx hb dX7_freshReduction_29 rfl (lv_at hl 0 rfl) ?_
  refine va_get (D := D) (ci := 7) (v := .ref (ad 5)) (C := RX7) (T := TX7) (N := 6) hx hb hg inGX7 hown hK hP 0 xo0 rfl 4 (by decide) (hg _ mw_342) (fun _ h9 => h9) xvX7_4 dX7_freshReduction_30 ?_
  exact W.aret (v := .ref (ad 5)) hx hb hr (Or.inl ⟨_, rfl⟩) (Or.inr ⟨_, rfl⟩) (fun t ht hW => ⟨⟨(XW ad cI cJ co fl ra li re wa pi), (ad 5), rfl, trivial, ⟨rfl, xw_eq rfl rfl rfl rfl rfl rfl rfl⟩, ⟨by rw [ht]; exact hP, va_K.moved hW.alike hK, hD⟩⟩, hS.F ht⟩) hS.2.2 dX7_freshReduction_33
