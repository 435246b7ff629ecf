set_option maxHeartbeats 4000000 in
set_option maxRecDepth 100000 in
theorem c_freshLives1 (l : Launch) (D : va_G) (cI cJ : ClassId) (ad : Nat → Nat) (co fl ra li re wa pi : Ob) (zl : ¬ gi li 1 = 0) : CT l D (TY cI cJ) yX7_freshLives (.code yX7_freshLives cX7_freshLives 1 (some (Jvm.ClassFile.FieldType.object "OrielChart$Lives"))) 1 0 0 (XW ad cI cJ co fl ra li re wa pi) [.ref (ad 0)] (QR D (TY cI cJ) (fun r u => r = (ad 4) ∧ u = (XW ad cI cJ co fl ra li re wa pi))) := by
  refine ent (by decide) (Nat.le_of_ble_eq_true rfl) ?_
  intro p e s m below meth c ls A hx hb hr hg hown hml hlocks hnm hP hK hD hS hA hN hl
  have hl : lv_has ls 1 [(0, .ref (ad 0))] := hl
  refine lv_aload_n hx hb dX7_freshLives_0 rfl (lv_at hl 0 rfl) ?_
  refine va_get (D := D) (ci := 7) (v := .ref (ad 4)) (C := RX7) (T := TX7) (N := 6) hx hb hg inGX7 hown hK hP 0 xo0 rfl 3 (by decide) (hg _ mw_337) (fun _ h9 => h9) xvX7_3 dX7_freshLives_1 ?_
  refine va_getN (D := D) (ci := 2) (v := .int (gi li 1)) (C := RX2) (T := TX2) (N := 3) hx hb hg inGX2 hown hK hP 4 xo4 rfl 2 (by decide) (hN.use nw_45) (fun _ h9 => h9) (xvX2_2 rfl) dX7_freshLives_4 ?_
  refine lv_if_ne (tgt := 33) hx hb dX7_freshLives_7 (by decide) (fun _ => ?_) (fun c_7 => absurd c_7 zl)
  refine lv_aload_n hx hb dX7_freshLives_33 rfl (lv_at hl 0 rfl) ?_
  refine va_get (D := D) (ci := 7) (v := .ref (ad 4)) (C := RX7) (T := TX7) (N := 6) hx hb hg inGX7 hown hK hP 0 xo0 rfl 3 (by decide) (hg _ mw_337) (fun _ h9 => h9) xvX7_3 dX7_freshLives_34 ?_
  exact W.aret (v := .ref (ad 4)) hx hb hr (Or.inl ⟨_, rfl⟩) (Or.inr ⟨_, rfl⟩) (fun t ht hW => ⟨⟨(XW ad cI cJ co fl ra li re wa pi), (ad 4), rfl, trivial, ⟨rfl, xw_eq rfl rfl rfl rfl rfl rfl rfl⟩, ⟨by rw [ht]; exact hP, va_K.moved hW.alike hK, hD⟩⟩, hS.F ht⟩) hS.2.2 dX7_freshLives_37
