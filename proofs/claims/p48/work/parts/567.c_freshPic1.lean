set_option maxHeartbeats 4000000 in
set_option maxRecDepth 100000 in
theorem c_freshPic1 (l : Launch) (D : va_G) (cI cJ : ClassId) (ad : Nat → Nat) (co fl ra li re wa pi : Ob) (zp : ¬ gi pi 3 = 0) : CT l D (TY cI cJ) yX7_freshPicture (.code yX7_freshPicture cX7_freshPicture 1 (some (Jvm.ClassFile.FieldType.object "OrielChart$Picture"))) 1 0 0 (XW ad cI cJ co fl ra li re wa pi) [.ref (ad 0)] (QR D (TY cI cJ) (fun r u => r = (ad 6) ∧ u = (XW ad cI cJ co fl ra li re wa pi))) := by
  refine ent (by decide) (Nat.le_of_ble_eq_true rfl) ?_
  intro p e s m below meth c ls A hx hb hr hg hown hml hlocks hnm hP hK hD hS hA hN hl
  have hl : lv_has ls 1 [(0, .ref (ad 0))] := hl
  refine lv_aload_n hx hb dX7_freshPicture_0 rfl (lv_at hl 0 rfl) ?_
  refine va_get (D := D) (ci := 7) (v := .ref (ad 6)) (C := RX7) (T := TX7) (N := 6) hx hb hg inGX7 hown hK hP 0 xo0 rfl 5 (by decide) (hg _ mw_347) (fun _ h9 => h9) xvX7_5 dX7_freshPicture_1 ?_
  refine va_getN (D := D) (ci := 3) (v := .int (gi pi 3)) (C := RX3) (T := TX3) (N := 16) hx hb hg inGX3 hown hK hP 6 xo6 rfl 15 (by decide) (hN.use nw_64) (fun _ h9 => h9) (xvX3_15 rfl) dX7_freshPicture_4 ?_
  refine lv_if_ne (tgt := 29) hx hb dX7_freshPicture_7 (by decide) (fun _ => ?_) (fun c_7 => absurd c_7 zp)
  refine lv_aload_n hx hb dX7_freshPicture_29 rfl (lv_at hl 0 rfl) ?_
  refine va_get (D := D) (ci := 7) (v := .ref (ad 6)) (C := RX7) (T := TX7) (N := 6) hx hb hg inGX7 hown hK hP 0 xo0 rfl 5 (by decide) (hg _ mw_347) (fun _ h9 => h9) xvX7_5 dX7_freshPicture_30 ?_
  exact W.aret (v := .ref (ad 6)) hx hb hr (Or.inl ⟨_, rfl⟩) (Or.inr ⟨_, rfl⟩) (fun t ht hW => ⟨⟨(XW ad cI cJ co fl ra li re wa pi), (ad 6), rfl, trivial, ⟨rfl, xw_eq rfl rfl rfl rfl rfl rfl rfl⟩, ⟨by rw [ht]; exact hP, va_K.moved hW.alike hK, hD⟩⟩, hS.F ht⟩) hS.2.2 dX7_freshPicture_33
