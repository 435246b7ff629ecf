theorem dX7_needInstruction_15 : decode cX7_needInstruction 15 = .ok (.new 259, 3) := by decide +kernel
theorem dX7_needInstruction_18 : decode cX7_needInstruction 18 = .ok (.dup, 1) := by decide +kernel
theorem dX7_needInstruction_19 : decode cX7_needInstruction 19 = .ok (.ldc_w 321, 3) := by decide +kernel
theorem dX7_needInstruction_22 : decode cX7_needInstruction 22 = .ok (.invokespecial 261, 3) := by decide +kernel
theorem dX7_needInstruction_25 : decode cX7_needInstruction 25 = .ok (.athrow, 1) := by decide +kernel
theorem mw_443 : Cond.classLink RX7 259 "java/lang/IndexOutOfBoundsException" ∈ GW := gw_mem (inT4 _ (List.mem_of_getElem? (i := 64) rfl)) rfl
theorem mw_444 : Cond.initialized "java/lang/IndexOutOfBoundsException" ∈ GW := gw_mem (inT1 _ (List.mem_of_getElem? (i := 16) rfl)) rfl
set_option maxHeartbeats 4000000 in
set_option maxRecDepth 100000 in
theorem x_needI (l : Launch) (hfl : l.stackTraces = false) (D : va_G) (cI cJ : ClassId) (ad : Nat → Nat) (co fl ra li re wa pi : Ob) (k1 : Int32) (k0 : ¬ k1 < 0) (kn : ¬ k1 < gi co 0) : CX l D (TY cI cJ) yX7_needInstruction (.code yX7_needInstruction cX7_needInstruction 2 (none : Option FieldType)) 6 1 6 (XW ad cI cJ co fl ra li re wa pi) [.ref (ad 0), .int k1] (QV D (TY cI cJ) (fun u => False)) EIOB (True) := by
  refine entX (by decide) (Nat.le_of_ble_eq_true rfl) ?_
  intro p e s m below meth c ls A hx hb hr hg hown hml hlocks hnm hP hK hD hS hA hN hl hE hST hSR hAw
  have hl : lv_has ls 2 [(0, .ref (ad 0)), (1, .int k1)] := hl
  refine lv_iload_n hx hb dX7_needInstruction_0 rfl (lv_at hl 1 rfl) ?_
  refine lv_if_lt (tgt := 15) hx hb dX7_needInstruction_1 (by decide) (fun c_1 => absurd c_1 k0) (fun _ => ?_)
  refine lv_iload_n hx hb dX7_needInstruction_4 rfl (lv_at hl 1 rfl) ?_
  refine lv_aload_n hx hb dX7_needInstruction_5 rfl (lv_at hl 0 rfl) ?_
  refine va_get (D := D) (ci := 7) (v := .ref (ad 1)) (C := RX7) (T := TX7) (N := 6) hx hb hg inGX7 hown hK hP 0 xo0 rfl 0 (by decide) (hg _ mw_323) (fun _ h9 => h9) xvX7_0 dX7_needInstruction_6 ?_
  refine va_getN (D := D) (ci := 0) (v := .int (gi co 0)) (C := RX0) (T := TX0) (N := 5) hx hb hg inGX0 hown hK hP 1 xo1 rfl 4 (by decide) (hN.use nw_10) (fun _ h9 => h9) (xvX0_4 rfl) dX7_needInstruction_9 ?_
  refine lv_icmp_lt (tgt := 26) hx hb dX7_needInstruction_12 (by decide) (fun c_12 => absurd c_12 kn) (fun _ => ?_)
  obtain ⟨sa9, hsa9⟩ := hSR.1 (321, "no such instruction") (List.mem_of_getElem? (i := 1) rfl)
  exact vx_throwSW (names := ENM) (cls := EIOB) hx hb hfl hown fitE.2.1 fitE.2.2 (hg _ mw_443) (hg _ mw_444) hsa9 (hat_of at2a at2b hg hN) gd2 hST.1 hST.2 hS (by rw [hml]; exact hl.1) dX7_needInstruction_15 dX7_needInstruction_18 dX7_needInstruction_19 dX7_needInstruction_22 dX7_needInstruction_25 (fun x hx9 => (hE x hx9).elim) (Nat.le_of_ble_eq_true rfl) (Nat.le_of_ble_eq_true rfl) (Nat.le_of_ble_eq_true rfl) (Nat.le_of_ble_eq_true rfl) hlocks (xE rfl trivial hP hK hD hS) hS.2.2 (Nat.le_of_ble_eq_true rfl) (Nat.le_of_ble_eq_true rfl)
