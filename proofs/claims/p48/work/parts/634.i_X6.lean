theorem dX6_init_0 : decode cX6_init 0 = .ok (.aload_n 0, 1) := by decide +kernel
theorem dX6_init_1 : decode cX6_init 1 = .ok (.invokespecial 3, 3) := by decide +kernel
theorem dX6_init_4 : decode cX6_init 4 = .ok (.aload_n 0, 1) := by decide +kernel
theorem dX6_init_5 : decode cX6_init 5 = .ok (.bipush 40, 2) := by decide +kernel
theorem dX6_init_7 : decode cX6_init 7 = .ok (.newarray .int, 2) := by decide +kernel
theorem dX6_init_9 : decode cX6_init 9 = .ok (.putfield 9, 3) := by decide +kernel
theorem dX6_init_12 : decode cX6_init 12 = .ok (.aload_n 0, 1) := by decide +kernel
theorem dX6_init_13 : decode cX6_init 13 = .ok (.bipush 80, 2) := by decide +kernel
theorem dX6_init_15 : decode cX6_init 15 = .ok (.newarray .int, 2) := by decide +kernel
theorem dX6_init_17 : decode cX6_init 17 = .ok (.putfield 15, 3) := by decide +kernel
theorem dX6_init_20 : decode cX6_init 20 = .ok (.aload_n 0, 1) := by decide +kernel
theorem dX6_init_21 : decode cX6_init 21 = .ok (.bipush 80, 2) := by decide +kernel
theorem dX6_init_23 : decode cX6_init 23 = .ok (.newarray .int, 2) := by decide +kernel
theorem dX6_init_25 : decode cX6_init 25 = .ok (.putfield 18, 3) := by decide +kernel
theorem dX6_init_28 : decode cX6_init 28 = .ok (.aload_n 0, 1) := by decide +kernel
theorem dX6_init_29 : decode cX6_init 29 = .ok (.bipush 40, 2) := by decide +kernel
theorem dX6_init_31 : decode cX6_init 31 = .ok (.newarray .int, 2) := by decide +kernel
theorem dX6_init_33 : decode cX6_init 33 = .ok (.putfield 21, 3) := by decide +kernel
theorem dX6_init_36 : decode cX6_init 36 = .ok (.aload_n 0, 1) := by decide +kernel
theorem dX6_init_37 : decode cX6_init 37 = .ok (.bipush 40, 2) := by decide +kernel
theorem dX6_init_39 : decode cX6_init 39 = .ok (.newarray .int, 2) := by decide +kernel
theorem dX6_init_41 : decode cX6_init 41 = .ok (.putfield 24, 3) := by decide +kernel
theorem dX6_init_44 : decode cX6_init 44 = .ok (.return_, 1) := by decide +kernel
theorem mw_506 : Cond.methodLink RX6 3 objectInit ∈ GW := gw_mem (inT1 _ (List.mem_of_getElem? (i := 219) rfl)) rfl
set_option maxHeartbeats 4000000 in
set_option maxRecDepth 100000 in
theorem i_X6 (l : Launch) (D : va_G) (cI cJ : ClassId) (h0 : Nat) (R : va_W) : CT l D (TY cI cJ) yX6_init (.code yX6_init cX6_init 1 (none : Option FieldType)) 2 5 280 ((h0, .inr (6, [.null, .null, .null, .null, .null, .int 0, .int 0, .long 0, .long 0])) :: R) [.ref h0] (QV D (TY cI cJ) (fun u => ∃ a0 a1 a2 a3 a4, u = ((a0, .inl (cI, 40, .inl (fun _ => 0))) :: ((a1, .inl (cI, 40, .inl (fun _ => 0))) :: ((a2, .inl (cI, 80, .inl (fun _ => 0))) :: ((a3, .inl (cI, 80, .inl (fun _ => 0))) :: ((a4, .inl (cI, 40, .inl (fun _ => 0))) :: ((h0, .inr (6, [.ref a4, .ref a3, .ref a2, .ref a1, .ref a0, .int 0, .int 0, .long 0, .long 0])) :: R)))))))) := by
  refine ent (by decide) (Nat.le_of_ble_eq_true rfl) ?_
  intro p e s m below meth c ls A hx hb hr hg hown hml hlocks hnm hP hK hD hS hA hN hl
  have hl : lv_has ls 1 [(0, .ref h0)] := hl
  refine lv_aload_n hx hb dX6_init_0 rfl (lv_at hl 0 rfl) ?_
  refine W.objInit hx hb hown (hg _ mw_506) (hg _ mw_498) (hg _ mw_499) rfl (by rw [hml]; exact hl.1) rfl dX6_init_1 (Nat.le_of_ble_eq_true rfl) (Nat.le_of_ble_eq_true rfl) ?_
  refine W.eq (g2 := F0 m 4 ls []) rfl ?_
  refine lv_aload_n hx hb dX6_init_4 rfl (lv_at hl 0 rfl) ?_
  refine lv_bipush (v := 40) hx hb dX6_init_5 (by decide) ?_
  refine my_newa (atype := .int) (ty := .int) (N' := 40) (a0 := (40, .inl (fun _ => 0))) hx hb (hg _ mw_500) rfl hK hP hD hS hA 0 rfl (fun _ h => h) (fun _ => rfl) (by decide) (by decide) (Nat.le_of_ble_eq_true rfl) (Nat.le_of_ble_eq_true rfl) (Nat.le_of_ble_eq_true rfl) dX6_init_7 (fun q_1 H hP hD hS => ?_)
  have hP : va_P D vwCl ((q_1, .inl (cI, 40, .inl (fun _ => 0))) :: ((h0, .inr (6, [.null, .null, .null, .null, .null, .int 0, .int 0, .long 0, .long 0])) :: R)) H := mvP hP
  have hD : va_D A ((q_1, .inl (cI, 40, .inl (fun _ => 0))) :: ((h0, .inr (6, [.null, .null, .null, .null, .null, .int 0, .int 0, .long 0, .long 0])) :: R)) := mvD hD
  refine va_putF (D := D) (ci := 6) (v := .ref q_1) (C := RX6) (T := TX6) (N := 9) hx hb hg inGX6 tyX6 tyX6_ok nmX6 hown hK hP hD hS 1 rfl rfl 0 (by decide) (hg _ mw_209) (fun _ h9 => h9) rfl hnm rfl (tyX6_ok 0 (by decide)) rfl rfl (Nat.le_of_ble_eq_true rfl) dX6_init_9 (fun H locs hP hD hS => ?_)
  have hP : va_P D vwCl ((q_1, .inl (cI, 40, .inl (fun _ => 0))) :: ((h0, .inr (6, [.ref q_1, .null, .null, .null, .null, .int 0, .int 0, .long 0, .long 0])) :: R)) H := hP
  have hD : va_D A ((q_1, .inl (cI, 40, .inl (fun _ => 0))) :: ((h0, .inr (6, [.ref q_1, .null, .null, .null, .null, .int 0, .int 0, .long 0, .long 0])) :: R)) := hD
  refine lv_aload_n hx hb dX6_init_12 rfl (lv_at hl 0 rfl) ?_
  refine lv_bipush (v := 80) hx hb dX6_init_13 (by decide) ?_
  refine my_newa (atype := .int) (ty := .int) (N' := 80) (a0 := (80, .inl (fun _ => 0))) hx hb (hg _ mw_500) rfl hK hP hD hS hA 0 rfl (fun _ h => h) (fun _ => rfl) (by decide) (by decide) (Nat.le_of_ble_eq_true rfl) (Nat.le_of_ble_eq_true rfl) (Nat.le_of_ble_eq_true rfl) dX6_init_15 (fun q_2 H hP hD hS => ?_)
  have hP : va_P D vwCl ((q_2, .inl (cI, 80, .inl (fun _ => 0))) :: ((q_1, .inl (cI, 40, .inl (fun _ => 0))) :: ((h0, .inr (6, [.ref q_1, .null, .null, .null, .null, .int 0, .int 0, .long 0, .long 0])) :: R))) H := mvP hP
  have hD : va_D A ((q_2, .inl (cI, 80, .inl (fun _ => 0))) :: ((q_1, .inl (cI, 40, .inl (fun _ => 0))) :: ((h0, .inr (6, [.ref q_1, .null, .null, .null, .null, .int 0, .int 0, .long 0, .long 0])) :: R))) := mvD hD
  refine va_putF (D := D) (ci := 6) (v := .ref q_2) (C := RX6) (T := TX6) (N := 9) hx hb hg inGX6 tyX6 tyX6_ok nmX6 hown hK hP hD hS 2 rfl rfl 1 (by decide) (hg _ mw_203) (fun _ h9 => h9) rfl hnm rfl (tyX6_ok 1 (by decide)) rfl rfl (Nat.le_of_ble_eq_true rfl) dX6_init_17 (fun H locs hP hD hS => ?_)
  have hP : va_P D vwCl ((q_2, .inl (cI, 80, .inl (fun _ => 0))) :: ((q_1, .inl (cI, 40, .inl (fun _ => 0))) :: ((h0, .inr (6, [.ref q_1, .ref q_2, .null, .null, .null, .int 0, .int 0, .long 0, .long 0])) :: R))) H := hP
  have hD : va_D A ((q_2, .inl (cI, 80, .inl (fun _ => 0))) :: ((q_1, .inl (cI, 40, .inl (fun _ => 0))) :: ((h0, .inr (6, [.ref q_1, .ref q_2, .null, .null, .null, .int 0, .int 0, .long 0, .long 0])) :: R))) := hD
  refine lv_aload_n hx hb dX6_init_20 rfl (lv_at hl 0 rfl) ?_
  refine lv_bipush (v := 80) hx hb dX6_init_21 (by decide) ?_
  refine my_newa (atype := .int) (ty := .int) (N' := 80) (a0 := (80, .inl (fun _ => 0))) hx hb (hg _ mw_500) rfl hK hP hD hS hA 0 rfl (fun _ h => h) (fun _ => rfl) (by decide) (by decide) (Nat.le_of_ble_eq_true rfl) (Nat.le_of_ble_eq_true rfl) (Nat.le_of_ble_eq_true rfl) dX6_init_23 (fun q_3 H hP hD hS => ?_)
  have hP : va_P D vwCl ((q_3, .inl (cI, 80, .inl (fun _ => 0))) :: ((q_2, .inl (cI, 80, .inl (fun _ => 0))) :: ((q_1, .inl (cI, 40, .inl (fun _ => 0))) :: ((h0, .inr (6, [.ref q_1, .ref q_2, .null, .null, .null, .int 0, .int 0, .long 0, .long 0])) :: R)))) H := mvP hP
  have hD : va_D A ((q_3, .inl (cI, 80, .inl (fun _ => 0))) :: ((q_2, .inl (cI, 80, .inl (fun _ => 0))) :: ((q_1, .inl (cI, 40, .inl (fun _ => 0))) :: ((h0, .inr (6, [.ref q_1, .ref q_2, .null, .null, .null, .int 0, .int 0, .long 0, .long 0])) :: R)))) := mvD hD
  refine va_putF (D := D) (ci := 6) (v := .ref q_3) (C := RX6) (T := TX6) (N := 9) hx hb hg inGX6 tyX6 tyX6_ok nmX6 hown hK hP hD hS 3 rfl rfl 2 (by decide) (hg _ mw_216) (fun _ h9 => h9) rfl hnm rfl (tyX6_ok 2 (by decide)) rfl rfl (Nat.le_of_ble_eq_true rfl) dX6_init_25 (fun H locs hP hD hS => ?_)
  have hP : va_P D vwCl ((q_3, .inl (cI, 80, .inl (fun _ => 0))) :: ((q_2, .inl (cI, 80, .inl (fun _ => 0))) :: ((q_1, .inl (cI, 40, .inl (fun _ => 0))) :: ((h0, .inr (6, [.ref q_1, .ref q_2, .ref q_3, .null, .null, .int 0, .int 0, .long 0, .long 0])) :: R)))) H := hP
  have hD : va_D A ((q_3, .inl (cI, 80, .inl (fun _ => 0))) :: ((q_2, .inl (cI, 80, .inl (fun _ => 0))) :: ((q_1, .inl (cI, 40, .inl (fun _ => 0))) :: ((h0, .inr (6, [.ref q_1, .ref q_2, .ref q_3, .null, .null, .int 0, .int 0, .long 0, .long 0])) :: R)))) := hD
  refine lv_aload_n hx hb dX6_init_28 rfl (lv_at hl 0 rfl) ?_
  refine lv_bipush (v := 40) hx hb dX6_init_29 (by decide) ?_
  refine my_newa (atype := .int) (ty := .int) (N' := 40) (a0 := (40, .inl (fun _ => 0))) hx hb (hg _ mw_500) rfl hK hP hD hS hA 0 rfl (fun _ h => h) (fun _ => rfl) (by decide) (by decide) (Nat.le_of_ble_eq_true rfl) (Nat.le_of_ble_eq_true rfl) (Nat.le_of_ble_eq_true rfl) dX6_init_31 (fun q_4 H hP hD hS => ?_)
  have hP : va_P D vwCl ((q_4, .inl (cI, 40, .inl (fun _ => 0))) :: ((q_3, .inl (cI, 80, .inl (fun _ => 0))) :: ((q_2, .inl (cI, 80, .inl (fun _ => 0))) :: ((q_1, .inl (cI, 40, .inl (fun _ => 0))) :: ((h0, .inr (6, [.ref q_1, .ref q_2, .ref q_3, .null, .null, .int 0, .int 0, .long 0, .long 0])) :: R))))) H := mvP hP
  have hD : va_D A ((q_4, .inl (cI, 40, .inl (fun _ => 0))) :: ((q_3, .inl (cI, 80, .inl (fun _ => 0))) :: ((q_2, .inl (cI, 80, .inl (fun _ => 0))) :: ((q_1, .inl (cI, 40, .inl (fun _ => 0))) :: ((h0, .inr (6, [.ref q_1, .ref q_2, .ref q_3, .null, .null, .int 0, .int 0, .long 0, .long 0])) :: R))))) := mvD hD
  refine va_putF (D := D) (ci := 6) (v := .ref q_4) (C := RX6) (T := TX6) (N := 9) hx hb hg inGX6 tyX6 tyX6_ok nmX6 hown hK hP hD hS 4 rfl rfl 3 (by decide) (hg _ mw_211) (fun _ h9 => h9) rfl hnm rfl (tyX6_ok 3 (by decide)) rfl rfl (Nat.le_of_ble_eq_true rfl) dX6_init_33 (fun H locs hP hD hS => ?_)
  have hP : va_P D vwCl ((q_4, .inl (cI, 40, .inl (fun _ => 0))) :: ((q_3, .inl (cI, 80, .inl (fun _ => 0))) :: ((q_2, .inl (cI, 80, .inl (fun _ => 0))) :: ((q_1, .inl (cI, 40, .inl (fun _ => 0))) :: ((h0, .inr (6, [.ref q_1, .ref q_2, .ref q_3, .ref q_4, .null, .int 0, .int 0, .long 0, .long 0])) :: R))))) H := hP
  have hD : va_D A ((q_4, .inl (cI, 40, .inl (fun _ => 0))) :: ((q_3, .inl (cI, 80, .inl (fun _ => 0))) :: ((q_2, .inl (cI, 80, .inl (fun _ => 0))) :: ((q_1, .inl (cI, 40, .inl (fun _ => 0))) :: ((h0, .inr (6, [.ref q_1, .ref q_2, .ref q_3, .ref q_4, .null, .int 0, .int 0, .long 0, .long 0])) :: R))))) := hD
  refine lv_aload_n hx hb dX6_init_36 rfl (lv_at hl 0 rfl) ?_
  refine lv_bipush (v := 40) hx hb dX6_init_37 (by decide) ?_
  refine my_newa (atype := .int) (ty := .int) (N' := 40) (a0 := (40, .inl (fun _ => 0))) hx hb (hg _ mw_500) rfl hK hP hD hS hA 0 rfl (fun _ h => h) (fun _ => rfl) (by decide) (by decide) (Nat.le_of_ble_eq_true rfl) (Nat.le_of_ble_eq_true rfl) (Nat.le_of_ble_eq_true rfl) dX6_init_39 (fun q_5 H hP hD hS => ?_)
  have hP : va_P D vwCl ((q_5, .inl (cI, 40, .inl (fun _ => 0))) :: ((q_4, .inl (cI, 40, .inl (fun _ => 0))) :: ((q_3, .inl (cI, 80, .inl (fun _ => 0))) :: ((q_2, .inl (cI, 80, .inl (fun _ => 0))) :: ((q_1, .inl (cI, 40, .inl (fun _ => 0))) :: ((h0, .inr (6, [.ref q_1, .ref q_2, .ref q_3, .ref q_4, .null, .int 0, .int 0, .long 0, .long 0])) :: R)))))) H := mvP hP
  have hD : va_D A ((q_5, .inl (cI, 40, .inl (fun _ => 0))) :: ((q_4, .inl (cI, 40, .inl (fun _ => 0))) :: ((q_3, .inl (cI, 80, .inl (fun _ => 0))) :: ((q_2, .inl (cI, 80, .inl (fun _ => 0))) :: ((q_1, .inl (cI, 40, .inl (fun _ => 0))) :: ((h0, .inr (6, [.ref q_1, .ref q_2, .ref q_3, .ref q_4, .null, .int 0, .int 0, .long 0, .long 0])) :: R)))))) := mvD hD
  refine va_putF (D := D) (ci := 6) (v := .ref q_5) (C := RX6) (T := TX6) (N := 9) hx hb hg inGX6 tyX6 tyX6_ok nmX6 hown hK hP hD hS 5 rfl rfl 4 (by decide) (hg _ mw_213) (fun _ h9 => h9) rfl hnm rfl (tyX6_ok 4 (by decide)) rfl rfl (Nat.le_of_ble_eq_true rfl) dX6_init_41 (fun H locs hP hD hS => ?_)
  have hP : va_P D vwCl ((q_5, .inl (cI, 40, .inl (fun _ => 0))) :: ((q_4, .inl (cI, 40, .inl (fun _ => 0))) :: ((q_3, .inl (cI, 80, .inl (fun _ => 0))) :: ((q_2, .inl (cI, 80, .inl (fun _ => 0))) :: ((q_1, .inl (cI, 40, .inl (fun _ => 0))) :: ((h0, .inr (6, [.ref q_1, .ref q_2, .ref q_3, .ref q_4, .ref q_5, .int 0, .int 0, .long 0, .long 0])) :: R)))))) H := hP
  have hD : va_D A ((q_5, .inl (cI, 40, .inl (fun _ => 0))) :: ((q_4, .inl (cI, 40, .inl (fun _ => 0))) :: ((q_3, .inl (cI, 80, .inl (fun _ => 0))) :: ((q_2, .inl (cI, 80, .inl (fun _ => 0))) :: ((q_1, .inl (cI, 40, .inl (fun _ => 0))) :: ((h0, .inr (6, [.ref q_1, .ref q_2, .ref q_3, .ref q_4, .ref q_5, .int 0, .int 0, .long 0, .long 0])) :: R)))))) := hD
  exact W.vret hx hb hr (fun t ht hW => ⟨⟨((q_5, .inl (cI, 40, .inl (fun _ => 0))) :: ((q_4, .inl (cI, 40, .inl (fun _ => 0))) :: ((q_3, .inl (cI, 80, .inl (fun _ => 0))) :: ((q_2, .inl (cI, 80, .inl (fun _ => 0))) :: ((q_1, .inl (cI, 40, .inl (fun _ => 0))) :: ((h0, .inr (6, [.ref q_1, .ref q_2, .ref q_3, .ref q_4, .ref q_5, .int 0, .int 0, .long 0, .long 0])) :: R)))))), rfl, ⟨q_5, q_4, q_3, q_2, q_1, rfl⟩, ⟨by rw [ht]; exact hP, va_K.moved hW.alike hK, hD⟩⟩, hS.F ht⟩) hS.2.2 dX6_init_44
