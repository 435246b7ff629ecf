theorem dX7_needInstruction_0 : decode cX7_needInstruction 0 = .ok (.iload_n 1, 1) := by decide +kernel
theorem dX7_needInstruction_1 : decode cX7_needInstruction 1 = .ok (.ifCond .lt 14, 3) := by decide +kernel
theorem dX7_needInstruction_4 : decode cX7_needInstruction 4 = .ok (.iload_n 1, 1) := by decide +kernel
theorem dX7_needInstruction_5 : decode cX7_needInstruction 5 = .ok (.aload_n 0, 1) := by decide +kernel
theorem dX7_needInstruction_6 : decode cX7_needInstruction 6 = .ok (.getfield 10, 3) := by decide +kernel
theorem dX7_needInstruction_9 : decode cX7_needInstruction 9 = .ok (.getfield 51, 3) := by decide +kernel
theorem dX7_needInstruction_12 : decode cX7_needInstruction 12 = .ok (.if_icmp .lt 14, 3) := by decide +kernel
theorem dX7_needInstruction_26 : decode cX7_needInstruction 26 = .ok (.return_, 1) := by decide +kernel
set_option maxHeartbeats 4000000 in
set_option maxRecDepth 100000 in
theorem c_needI (l : Launch) (D : va_G) (cI cJ : ClassId) (ad : Nat → Nat) (co fl ra li re wa pi : Ob) (k1 : Int32) (k0 : ¬ k1 < 0) (k1h : k1 < gi co 0) : CT l D (TY cI cJ) yX7_needInstruction (.code yX7_needInstruction cX7_needInstruction 2 (none : Option FieldType)) 1 0 0 (XW ad cI cJ co fl ra li re wa pi) [.ref (ad 0), .int k1] (QV D (TY cI cJ) (fun u => u = (XW ad cI cJ co fl ra li re wa pi))) := by
  refine ent (by decide) (Nat.le_of_ble_eq_true rfl) ?_
  intro p e s m below meth c ls A hx hb hr hg hown hml hlocks hnm hP hK hD hS hA hN hl
  have hl : lv_has ls 2 [(0, .ref (ad 0)), (1, .int k1)] := hl
  refine lv_iload_n hx hb dX7_needInstruction_0 rfl (lv_at hl 1 rfl) ?_
  refine lv_if_lt (tgt := 15) hx hb dX7_needInstruction_1 (by decide) (fun c_1 => absurd c_1 k0) (fun _ => ?_)
  refine lv_iload_n hx hb dX7_needInstruction_4 rfl (lv_at hl 1 rfl) ?_
  refine lv_aload_n hx hb dX7_needInstruction_5 rfl (lv_at hl 0 rfl) ?_
  refine va_get (D := D) (ci := 7) (v := .ref (ad 1)) (C := RX7) (T := TX7) (N := 6) hx hb hg inGX7 hown hK hP 0 xo0 rfl 0 (by decide) (hg _ mw_323) (fun _ h9 => h9) xvX7_0 dX7_needInstruction_6 ?_
  refine va_getN (D := D) (ci := 0) (v := .int (gi co 0)) (C := RX0) (T := TX0) (N := 5) hx hb hg inGX0 hown hK hP 1 xo1 rfl 4 (by decide) (hN.use nw_10) (fun _ h9 => h9) (xvX0_4 rfl) dX7_needInstruction_9 ?_
  refine lv_icmp_lt (tgt := 26) hx hb dX7_needInstruction_12 (by decide) (fun _ => ?_) (fun c_12 => absurd k1h c_12)
  exact W.vret hx hb hr (fun t ht hW => ⟨⟨(XW ad cI cJ co fl ra li re wa pi), rfl, xw_eq rfl rfl rfl rfl rfl rfl rfl, ⟨by rw [ht]; exact hP, va_K.moved hW.alike hK, hD⟩⟩, hS.F ht⟩) hS.2.2 dX7_needInstruction_26
