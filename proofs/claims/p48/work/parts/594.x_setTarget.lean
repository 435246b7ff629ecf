theorem dX7_setTarget_22 : decode cX7_setTarget 22 = .ok (.new 55, 3) := by decide +kernel
theorem dX7_setTarget_25 : decode cX7_setTarget 25 = .ok (.dup, 1) := by decide +kernel
theorem dX7_setTarget_26 : decode cX7_setTarget 26 = .ok (.ldc 100, 2) := by decide +kernel
theorem dX7_setTarget_28 : decode cX7_setTarget 28 = .ok (.invokespecial 59, 3) := by decide +kernel
theorem dX7_setTarget_31 : decode cX7_setTarget 31 = .ok (.athrow, 1) := by decide +kernel
theorem mw_466 : Cond.classLink RX7 55 "java/lang/IllegalArgumentException" ∈ GW := gw_mem (inT3 _ (List.mem_of_getElem? (i := 185) rfl)) rfl
theorem mw_467 : Cond.initialized "java/lang/IllegalArgumentException" ∈ GW := gw_mem (inT1 _ (List.mem_of_getElem? (i := 14) rfl)) rfl
set_option maxHeartbeats 4000000 in
set_option maxRecDepth 100000 in
theorem x_setTarget (l : Launch) (hfl : l.stackTraces = false) (D : va_G) (cI cJ : ClassId) (ad : Nat → Nat) (co fl ra li re wa pi : Ob) (k1 : Int32) (k2 : Int32) (k0 : ¬ k1 < 0) (k1h : k1 < gi co 0) (hj : ¬ jmp (rd (gA co 0) 40 k1) = true) : CX l D (TY cI cJ) yX7_setTarget (.code yX7_setTarget cX7_setTarget 4 (some Jvm.ClassFile.FieldType.int)) 7 1 6 (XW ad cI cJ co fl ra li re wa pi) [.ref (ad 0), .int k1, .int k2] (QI D (TY cI cJ) (fun r u => False)) EIAE (True) := by
  refine entX (by decide) (Nat.le_of_ble_eq_true rfl) ?_
  intro p e s m below meth c ls A hx hb hr hg hown hml hlocks hnm hP hK hD hS hA hN hl hE hST hSR hAw
  have hl : lv_has ls 4 [(0, .ref (ad 0)), (1, .int k1), (2, .int k2)] := hl
  refine lv_aload_n hx hb dX7_setTarget_0 rfl (lv_at hl 0 rfl) ?_
  refine lv_iload_n hx hb dX7_setTarget_1 rfl (lv_at hl 1 rfl) ?_
  refine kV (rV (q0 := 0) (ci := 7) hx hb hml hown hg hN hK hP hD (c_needI l D cI cJ ad co fl ra li re wa pi k1 k0 k1h) mw_457 mw_458 mw_459 mw_460 mw_77 pdv_X7_needInstruction ⟨Nat.le_of_ble_eq_true rfl, Nat.le_of_ble_eq_true rfl⟩ rfl xo0 rfl hl.1 rfl (Nat.le_of_ble_eq_true rfl) dX7_setTarget_2 ⟨Nat.le_of_ble_eq_true rfl, Nat.le_of_ble_eq_true rfl⟩) hD hS hA (fun u_1 H locs hp hP hD hS => ?_)
  obtain rfl := hp.symm
  refine lv_aload_n hx hb dX7_setTarget_5 rfl (lv_at hl 0 rfl) ?_
  refine va_get (D := D) (ci := 7) (v := .ref (ad 1)) (C := RX7) (T := TX7) (N := 6) hx hb hg inGX7 hown hK hP 0 xo0 rfl 0 (by decide) (hg _ mw_323) (fun _ h9 => h9) xvX7_0 dX7_setTarget_6 ?_
  refine va_getN (D := D) (ci := 0) (v := .ref (ad 8)) (C := RX0) (T := TX0) (N := 5) hx hb hg inGX0 hown hK hP 1 xo1 rfl 0 (by decide) (hN.use nw_2) (fun _ h9 => h9) xvX0_0 dX7_setTarget_9 ?_
  refine lv_iload_n hx hb dX7_setTarget_12 rfl (lv_at hl 1 rfl) ?_
  refine kI (rS hx hb hml hown hg hN hK hP hD (c_at l D cI cJ (XW ad cI cJ co fl ra li re wa pi) 8 (ad 8) 40 (gA co 0) k1 (xg8 rfl) (by decide)) mw_84 mw_374 mw_85 mw_77 pd_X7_at ⟨Nat.le_of_ble_eq_true rfl, Nat.le_of_ble_eq_true rfl⟩ rfl hl.1 rfl (Nat.le_of_ble_eq_true rfl) dX7_setTarget_13 ⟨Nat.le_of_ble_eq_true rfl, Nat.le_of_ble_eq_true rfl⟩) hD hS hA (fun r_2 u_2 H locs hp hP hD hS => ?_)
  obtain ⟨er, eu⟩ := hp
  obtain rfl := er.symm
  obtain rfl := eu.symm
  refine kI (rS hx hb hml hown hg hN hK hP hD (c_jumps l D cI cJ (XW ad cI cJ co fl ra li re wa pi) (rd (gA co 0) 40 k1)) mw_86 mw_445 mw_87 mw_77 pd_X7_jumps ⟨Nat.le_of_ble_eq_true rfl, Nat.le_of_ble_eq_true rfl⟩ rfl hl.1 rfl (Nat.le_of_ble_eq_true rfl) dX7_setTarget_16 ⟨Nat.le_of_ble_eq_true rfl, Nat.le_of_ble_eq_true rfl⟩) hD hS hA (fun r_3 u_3 H locs hp hP hD hS => ?_)
  obtain ⟨er, eu⟩ := hp
  obtain rfl := er.symm
  obtain rfl := eu.symm
  refine lv_if_ne (tgt := 32) hx hb dX7_setTarget_19 (by decide) (fun c_19 => absurd (b2i_f hj) c_19) (fun _ => ?_)
  obtain ⟨sa9, hsa9⟩ := hSR.1 (100, "neither an IF nor a GO") (List.mem_of_getElem? (i := 0) rfl)
  exact vx_throwS (names := ENM) (cls := EIAE) hx hb hfl hown fitE.1 fitE.2.2 (hg _ mw_466) (hg _ mw_467) hsa9 (hat_of at1a at1b hg hN) gd1 hST.1 hST.2 hS (by rw [hml]; exact hl.1) dX7_setTarget_22 dX7_setTarget_25 dX7_setTarget_26 dX7_setTarget_28 dX7_setTarget_31 (fun x hx9 => (hE x hx9).elim) (Nat.le_of_ble_eq_true rfl) (Nat.le_of_ble_eq_true rfl) (Nat.le_of_ble_eq_true rfl) (Nat.le_of_ble_eq_true rfl) hlocks (xE rfl trivial hP hK hD hS) hS.2.2 (Nat.le_of_ble_eq_true rfl) (Nat.le_of_ble_eq_true rfl)
