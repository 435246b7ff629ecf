theorem dX1_init_0 : decode cX1_init 0 = .ok (.aload_n 0, 1) := by decide +kernel
theorem dX1_init_1 : decode cX1_init 1 = .ok (.invokespecial 3, 3) := by decide +kernel
theorem dX1_init_4 : decode cX1_init 4 = .ok (.aload_n 0, 1) := by decide +kernel
theorem dX1_init_5 : decode cX1_init 5 = .ok (.bipush 40, 2) := by decide +kernel
theorem dX1_init_7 : decode cX1_init 7 = .ok (.newarray .int, 2) := by decide +kernel
theorem dX1_init_9 : decode cX1_init 9 = .ok (.putfield 9, 3) := by decide +kernel
theorem dX1_init_12 : decode cX1_init 12 = .ok (.aload_n 0, 1) := by decide +kernel
theorem dX1_init_13 : decode cX1_init 13 = .ok (.bipush 40, 2) := by decide +kernel
theorem dX1_init_15 : decode cX1_init 15 = .ok (.newarray .int, 2) := by decide +kernel
theorem dX1_init_17 : decode cX1_init 17 = .ok (.putfield 15, 3) := by decide +kernel
theorem dX1_init_20 : decode cX1_init 20 = .ok (.aload_n 0, 1) := by decide +kernel
theorem dX1_init_21 : decode cX1_init 21 = .ok (.bipush 40, 2) := by decide +kernel
theorem dX1_init_23 : decode cX1_init 23 = .ok (.newarray .int, 2) := by decide +kernel
theorem dX1_init_25 : decode cX1_init 25 = .ok (.putfield 18, 3) := by decide +kernel
theorem dX1_init_28 : decode cX1_init 28 = .ok (.aload_n 0, 1) := by decide +kernel
theorem dX1_init_29 : decode cX1_init 29 = .ok (.bipush 80, 2) := by decide +kernel
theorem dX1_init_31 : decode cX1_init 31 = .ok (.newarray .int, 2) := by decide +kernel
theorem dX1_init_33 : decode cX1_init 33 = .ok (.putfield 21, 3) := by decide +kernel
theorem dX1_init_36 : decode cX1_init 36 = .ok (.aload_n 0, 1) := by decide +kernel
theorem dX1_init_37 : decode cX1_init 37 = .ok (.bipush 80, 2) := by decide +kernel
theorem dX1_init_39 : decode cX1_init 39 = .ok (.newarray .int, 2) := by decide +kernel
theorem dX1_init_41 : decode cX1_init 41 = .ok (.putfield 24, 3) := by decide +kernel
theorem dX1_init_44 : decode cX1_init 44 = .ok (.aload_n 0, 1) := by decide +kernel
theorem dX1_init_45 : decode cX1_init 45 = .ok (.bipush 41, 2) := by decide +kernel
theorem dX1_init_47 : decode cX1_init 47 = .ok (.newarray .int, 2) := by decide +kernel
theorem dX1_init_49 : decode cX1_init 49 = .ok (.putfield 27, 3) := by decide +kernel
theorem dX1_init_52 : decode cX1_init 52 = .ok (.aload_n 0, 1) := by decide +kernel
theorem dX1_init_53 : decode cX1_init 53 = .ok (.bipush 40, 2) := by decide +kernel
theorem dX1_init_55 : decode cX1_init 55 = .ok (.newarray .long, 2) := by decide +kernel
theorem dX1_init_57 : decode cX1_init 57 = .ok (.putfield 30, 3) := by decide +kernel
theorem dX1_init_60 : decode cX1_init 60 = .ok (.return_, 1) := by decide +kernel
theorem mw_501 : Cond.methodLink RX1 3 objectInit ∈ GW := gw_mem (inT1 _ (List.mem_of_getElem? (i := 63) rfl)) rfl
theorem mw_502 : Cond.arrayClass .long ∈ GW := gw_mem (inT1 _ (List.mem_of_getElem? (i := 122) rfl)) rfl
set_option maxHeartbeats 4000000 in
set_option maxRecDepth 100000 in
theorem i_X1 (l : Launch) (D : va_G) (cI cJ : ClassId) (h0 : Nat) (R : va_W) : CT l D (TY cI cJ) yX1_init (.code yX1_init cX1_init 1 (none : Option FieldType)) 2 7 361 ((h0, .inr (1, [.null, .null, .null, .null, .null, .null, .null, .int 0, .int 0, .long 0, .int 0])) :: R) [.ref h0] (QV D (TY cI cJ) (fun u => ∃ a0 a1 a2 a3 a4 a5 a6, u = ((a0, .inl (cJ, 40, .inr (.inl (fun _ => 0)))) :: ((a1, .inl (cI, 41, .inl (fun _ => 0))) :: ((a2, .inl (cI, 80, .inl (fun _ => 0))) :: ((a3, .inl (cI, 80, .inl (fun _ => 0))) :: ((a4, .inl (cI, 40, .inl (fun _ => 0))) :: ((a5, .inl (cI, 40, .inl (fun _ => 0))) :: ((a6, .inl (cI, 40, .inl (fun _ => 0))) :: ((h0, .inr (1, [.ref a6, .ref a5, .ref a4, .ref a3, .ref a2, .ref a1, .ref a0, .int 0, .int 0, .long 0, .int 0])) :: R)))))))))) := by
  refine ent (by decide) (Nat.le_of_ble_eq_true rfl) ?_
  intro p e s m below meth c ls A hx hb hr hg hown hml hlocks hnm hP hK hD hS hA hN hl
  have hl : lv_has ls 1 [(0, .ref h0)] := hl
  refine lv_aload_n hx hb dX1_init_0 rfl (lv_at hl 0 rfl) ?_
  refine W.objInit hx hb hown (hg _ mw_501) (hg _ mw_498) (hg _ mw_499) rfl (by rw [hml]; exact hl.1) rfl dX1_init_1 (Nat.le_of_ble_eq_true rfl) (Nat.le_of_ble_eq_true rfl) ?_
  refine W.eq (g2 := F0 m 4 ls []) rfl ?_
  refine lv_aload_n hx hb dX1_init_4 rfl (lv_at hl 0 rfl) ?_
  refine lv_bipush (v := 40) hx hb dX1_init_5 (by decide) ?_
  refine my_newa (atype := .int) (ty := .int) (N' := 40) (a0 := (40, .inl (fun _ => 0))) hx hb (hg _ mw_500) rfl hK hP hD hS hA 0 rfl (fun _ h => h) (fun _ => rfl) (by decide) (by decide) (Nat.le_of_ble_eq_true rfl) (Nat.le_of_ble_eq_true rfl) (Nat.le_of_ble_eq_true rfl) dX1_init_7 (fun q_1 H hP hD hS => ?_)
  have hP : va_P D vwCl ((q_1, .inl (cI, 40, .inl (fun _ => 0))) :: ((h0, .inr (1, [.null, .null, .null, .null, .null, .null, .null, .int 0, .int 0, .long 0, .int 0])) :: R)) H := mvP hP
  have hD : va_D A ((q_1, .inl (cI, 40, .inl (fun _ => 0))) :: ((h0, .inr (1, [.null, .null, .null, .null, .null, .null, .null, .int 0, .int 0, .long 0, .int 0])) :: R)) := mvD hD
  refine va_putF (D := D) (ci := 1) (v := .ref q_1) (C := RX1) (T := TX1) (N := 11) hx hb hg inGX1 tyX1 tyX1_ok nmX1 hown hK hP hD hS 1 rfl rfl 0 (by decide) (hg _ mw_91) (fun _ h9 => h9) rfl hnm rfl (tyX1_ok 0 (by decide)) rfl rfl (Nat.le_of_ble_eq_true rfl) dX1_init_9 (fun H locs hP hD hS => ?_)
  have hP : va_P D vwCl ((q_1, .inl (cI, 40, .inl (fun _ => 0))) :: ((h0, .inr (1, [.ref q_1, .null, .null, .null, .null, .null, .null, .int 0, .int 0, .long 0, .int 0])) :: R)) H := hP
  have hD : va_D A ((q_1, .inl (cI, 40, .inl (fun _ => 0))) :: ((h0, .inr (1, [.ref q_1, .null, .null, .null, .null, .null, .null, .int 0, .int 0, .long 0, .int 0])) :: R)) := hD
  refine lv_aload_n hx hb dX1_init_12 rfl (lv_at hl 0 rfl) ?_
  refine lv_bipush (v := 40) hx hb dX1_init_13 (by decide) ?_
  refine my_newa (atype := .int) (ty := .int) (N' := 40) (a0 := (40, .inl (fun _ => 0))) hx hb (hg _ mw_500) rfl hK hP hD hS hA 0 rfl (fun _ h => h) (fun _ => rfl) (by decide) (by decide) (Nat.le_of_ble_eq_true rfl) (Nat.le_of_ble_eq_true rfl) (Nat.le_of_ble_eq_true rfl) dX1_init_15 (fun q_2 H hP hD hS => ?_)
  have hP : va_P D vwCl ((q_2, .inl (cI, 40, .inl (fun _ => 0))) :: ((q_1, .inl (cI, 40, .inl (fun _ => 0))) :: ((h0, .inr (1, [.ref q_1, .null, .null, .null, .null, .null, .null, .int 0, .int 0, .long 0, .int 0])) :: R))) H := mvP hP
  have hD : va_D A ((q_2, .inl (cI, 40, .inl (fun _ => 0))) :: ((q_1, .inl (cI, 40, .inl (fun _ => 0))) :: ((h0, .inr (1, [.ref q_1, .null, .null, .null, .null, .null, .null, .int 0, .int 0, .long 0, .int 0])) :: R))) := mvD hD
  refine va_putF (D := D) (ci := 1) (v := .ref q_2) (C := RX1) (T := TX1) (N := 11) hx hb hg inGX1 tyX1 tyX1_ok nmX1 hown hK hP hD hS 2 rfl rfl 1 (by decide) (hg _ mw_95) (fun _ h9 => h9) rfl hnm rfl (tyX1_ok 1 (by decide)) rfl rfl (Nat.le_of_ble_eq_true rfl) dX1_init_17 (fun H locs hP hD hS => ?_)
  have hP : va_P D vwCl ((q_2, .inl (cI, 40, .inl (fun _ => 0))) :: ((q_1, .inl (cI, 40, .inl (fun _ => 0))) :: ((h0, .inr (1, [.ref q_1, .ref q_2, .null, .null, .null, .null, .null, .int 0, .int 0, .long 0, .int 0])) :: R))) H := hP
  have hD : va_D A ((q_2, .inl (cI, 40, .inl (fun _ => 0))) :: ((q_1, .inl (cI, 40, .inl (fun _ => 0))) :: ((h0, .inr (1, [.ref q_1, .ref q_2, .null, .null, .null, .null, .null, .int 0, .int 0, .long 0, .int 0])) :: R))) := hD
  refine lv_aload_n hx hb dX1_init_20 rfl (lv_at hl 0 rfl) ?_
  refine lv_bipush (v := 40) hx hb dX1_init_21 (by decide) ?_
  refine my_newa (atype := .int) (ty := .int) (N' := 40) (a0 := (40, .inl (fun _ => 0))) hx hb (hg _ mw_500) rfl hK hP hD hS hA 0 rfl (fun _ h => h) (fun _ => rfl) (by decide) (by decide) (Nat.le_of_ble_eq_true rfl) (Nat.le_of_ble_eq_true rfl) (Nat.le_of_ble_eq_true rfl) dX1_init_23 (fun q_3 H hP hD hS => ?_)
  have hP : va_P D vwCl ((q_3, .inl (cI, 40, .inl (fun _ => 0))) :: ((q_2, .inl (cI, 40, .inl (fun _ => 0))) :: ((q_1, .inl (cI, 40, .inl (fun _ => 0))) :: ((h0, .inr (1, [.ref q_1, .ref q_2, .null, .null, .null, .null, .null, .int 0, .int 0, .long 0, .int 0])) :: R)))) H := mvP hP
  have hD : va_D A ((q_3, .inl (cI, 40, .inl (fun _ => 0))) :: ((q_2, .inl (cI, 40, .inl (fun _ => 0))) :: ((q_1, .inl (cI, 40, .inl (fun _ => 0))) :: ((h0, .inr (1, [.ref q_1, .ref q_2, .null, .null, .null, .null, .null, .int 0, .int 0, .long 0, .int 0])) :: R)))) := mvD hD
  refine va_putF (D := D) (ci := 1) (v := .ref q_3) (C := RX1) (T := TX1) (N := 11) hx hb hg inGX1 tyX1 tyX1_ok nmX1 hown hK hP hD hS 3 rfl rfl 2 (by decide) (hg _ mw_94) (fun _ h9 => h9) rfl hnm rfl (tyX1_ok 2 (by decide)) rfl rfl (Nat.le_of_ble_eq_true rfl) dX1_init_25 (fun H locs hP hD hS => ?_)
  have hP : va_P D vwCl ((q_3, .inl (cI, 40, .inl (fun _ => 0))) :: ((q_2, .inl (cI, 40, .inl (fun _ => 0))) :: ((q_1, .inl (cI, 40, .inl (fun _ => 0))) :: ((h0, .inr (1, [.ref q_1, .ref q_2, .ref q_3, .null, .null, .null, .null, .int 0, .int 0, .long 0, .int 0])) :: R)))) H := hP
  have hD : va_D A ((q_3, .inl (cI, 40, .inl (fun _ => 0))) :: ((q_2, .inl (cI, 40, .inl (fun _ => 0))) :: ((q_1, .inl (cI, 40, .inl (fun _ => 0))) :: ((h0, .inr (1, [.ref q_1, .ref q_2, .ref q_3, .null, .null, .null, .null, .int 0, .int 0, .long 0, .int 0])) :: R)))) := hD
  refine lv_aload_n hx hb dX1_init_28 rfl (lv_at hl 0 rfl) ?_
  refine lv_bipush (v := 80) hx hb dX1_init_29 (by decide) ?_
  refine my_newa (atype := .int) (ty := .int) (N' := 80) (a0 := (80, .inl (fun _ => 0))) hx hb (hg _ mw_500) rfl hK hP hD hS hA 0 rfl (fun _ h => h) (fun _ => rfl) (by decide) (by decide) (Nat.le_of_ble_eq_true rfl) (Nat.le_of_ble_eq_true rfl) (Nat.le_of_ble_eq_true rfl) dX1_init_31 (fun q_4 H hP hD hS => ?_)
  have hP : va_P D vwCl ((q_4, .inl (cI, 80, .inl (fun _ => 0))) :: ((q_3, .inl (cI, 40, .inl (fun _ => 0))) :: ((q_2, .inl (cI, 40, .inl (fun _ => 0))) :: ((q_1, .inl (cI, 40, .inl (fun _ => 0))) :: ((h0, .inr (1, [.ref q_1, .ref q_2, .ref q_3, .null, .null, .null, .null, .int 0, .int 0, .long 0, .int 0])) :: R))))) H := mvP hP
  have hD : va_D A ((q_4, .inl (cI, 80, .inl (fun _ => 0))) :: ((q_3, .inl (cI, 40, .inl (fun _ => 0))) :: ((q_2, .inl (cI, 40, .inl (fun _ => 0))) :: ((q_1, .inl (cI, 40, .inl (fun _ => 0))) :: ((h0, .inr (1, [.ref q_1, .ref q_2, .ref q_3, .null, .null, .null, .null, .int 0, .int 0, .long 0, .int 0])) :: R))))) := mvD hD
  refine va_putF (D := D) (ci := 1) (v := .ref q_4) (C := RX1) (T := TX1) (N := 11) hx hb hg inGX1 tyX1 tyX1_ok nmX1 hown hK hP hD hS 4 rfl rfl 3 (by decide) (hg _ mw_99) (fun _ h9 => h9) rfl hnm rfl (tyX1_ok 3 (by decide)) rfl rfl (Nat.le_of_ble_eq_true rfl) dX1_init_33 (fun H locs hP hD hS => ?_)
  have hP : va_P D vwCl ((q_4, .inl (cI, 80, .inl (fun _ => 0))) :: ((q_3, .inl (cI, 40, .inl (fun _ => 0))) :: ((q_2, .inl (cI, 40, .inl (fun _ => 0))) :: ((q_1, .inl (cI, 40, .inl (fun _ => 0))) :: ((h0, .inr (1, [.ref q_1, .ref q_2, .ref q_3, .ref q_4, .null, .null, .null, .int 0, .int 0, .long 0, .int 0])) :: R))))) H := hP
  have hD : va_D A ((q_4, .inl (cI, 80, .inl (fun _ => 0))) :: ((q_3, .inl (cI, 40, .inl (fun _ => 0))) :: ((q_2, .inl (cI, 40, .inl (fun _ => 0))) :: ((q_1, .inl (cI, 40, .inl (fun _ => 0))) :: ((h0, .inr (1, [.ref q_1, .ref q_2, .ref q_3, .ref q_4, .null, .null, .null, .int 0, .int 0, .long 0, .int 0])) :: R))))) := hD
  refine lv_aload_n hx hb dX1_init_36 rfl (lv_at hl 0 rfl) ?_
  refine lv_bipush (v := 80) hx hb dX1_init_37 (by decide) ?_
  refine my_newa (atype := .int) (ty := .int) (N' := 80) (a0 := (80, .inl (fun _ => 0))) hx hb (hg _ mw_500) rfl hK hP hD hS hA 0 rfl (fun _ h => h) (fun _ => rfl) (by decide) (by decide) (Nat.le_of_ble_eq_true rfl) (Nat.le_of_ble_eq_true rfl) (Nat.le_of_ble_eq_true rfl) dX1_init_39 (fun q_5 H hP hD hS => ?_)
  have hP : va_P D vwCl ((q_5, .inl (cI, 80, .inl (fun _ => 0))) :: ((q_4, .inl (cI, 80, .inl (fun _ => 0))) :: ((q_3, .inl (cI, 40, .inl (fun _ => 0))) :: ((q_2, .inl (cI, 40, .inl (fun _ => 0))) :: ((q_1, .inl (cI, 40, .inl (fun _ => 0))) :: ((h0, .inr (1, [.ref q_1, .ref q_2, .ref q_3, .ref q_4, .null, .null, .null, .int 0, .int 0, .long 0, .int 0])) :: R)))))) H := mvP hP
  have hD : va_D A ((q_5, .inl (cI, 80, .inl (fun _ => 0))) :: ((q_4, .inl (cI, 80, .inl (fun _ => 0))) :: ((q_3, .inl (cI, 40, .inl (fun _ => 0))) :: ((q_2, .inl (cI, 40, .inl (fun _ => 0))) :: ((q_1, .inl (cI, 40, .inl (fun _ => 0))) :: ((h0, .inr (1, [.ref q_1, .ref q_2, .ref q_3, .ref q_4, .null, .null, .null, .int 0, .int 0, .long 0, .int 0])) :: R)))))) := mvD hD
  refine va_putF (D := D) (ci := 1) (v := .ref q_5) (C := RX1) (T := TX1) (N := 11) hx hb hg inGX1 tyX1 tyX1_ok nmX1 hown hK hP hD hS 5 rfl rfl 4 (by decide) (hg _ mw_101) (fun _ h9 => h9) rfl hnm rfl (tyX1_ok 4 (by decide)) rfl rfl (Nat.le_of_ble_eq_true rfl) dX1_init_41 (fun H locs hP hD hS => ?_)
  have hP : va_P D vwCl ((q_5, .inl (cI, 80, .inl (fun _ => 0))) :: ((q_4, .inl (cI, 80, .inl (fun _ => 0))) :: ((q_3, .inl (cI, 40, .inl (fun _ => 0))) :: ((q_2, .inl (cI, 40, .inl (fun _ => 0))) :: ((q_1, .inl (cI, 40, .inl (fun _ => 0))) :: ((h0, .inr (1, [.ref q_1, .ref q_2, .ref q_3, .ref q_4, .ref q_5, .null, .null, .int 0, .int 0, .long 0, .int 0])) :: R)))))) H := hP
  have hD : va_D A ((q_5, .inl (cI, 80, .inl (fun _ => 0))) :: ((q_4, .inl (cI, 80, .inl (fun _ => 0))) :: ((q_3, .inl (cI, 40, .inl (fun _ => 0))) :: ((q_2, .inl (cI, 40, .inl (fun _ => 0))) :: ((q_1, .inl (cI, 40, .inl (fun _ => 0))) :: ((h0, .inr (1, [.ref q_1, .ref q_2, .ref q_3, .ref q_4, .ref q_5, .null, .null, .int 0, .int 0, .long 0, .int 0])) :: R)))))) := hD
  refine lv_aload_n hx hb dX1_init_44 rfl (lv_at hl 0 rfl) ?_
  refine lv_bipush (v := 41) hx hb dX1_init_45 (by decide) ?_
  refine my_newa (atype := .int) (ty := .int) (N' := 41) (a0 := (41, .inl (fun _ => 0))) hx hb (hg _ mw_500) rfl hK hP hD hS hA 0 rfl (fun _ h => h) (fun _ => rfl) (by decide) (by decide) (Nat.le_of_ble_eq_true rfl) (Nat.le_of_ble_eq_true rfl) (Nat.le_of_ble_eq_true rfl) dX1_init_47 (fun q_6 H hP hD hS => ?_)
  have hP : va_P D vwCl ((q_6, .inl (cI, 41, .inl (fun _ => 0))) :: ((q_5, .inl (cI, 80, .inl (fun _ => 0))) :: ((q_4, .inl (cI, 80, .inl (fun _ => 0))) :: ((q_3, .inl (cI, 40, .inl (fun _ => 0))) :: ((q_2, .inl (cI, 40, .inl (fun _ => 0))) :: ((q_1, .inl (cI, 40, .inl (fun _ => 0))) :: ((h0, .inr (1, [.ref q_1, .ref q_2, .ref q_3, .ref q_4, .ref q_5, .null, .null, .int 0, .int 0, .long 0, .int 0])) :: R))))))) H := mvP hP
  have hD : va_D A ((q_6, .inl (cI, 41, .inl (fun _ => 0))) :: ((q_5, .inl (cI, 80, .inl (fun _ => 0))) :: ((q_4, .inl (cI, 80, .inl (fun _ => 0))) :: ((q_3, .inl (cI, 40, .inl (fun _ => 0))) :: ((q_2, .inl (cI, 40, .inl (fun _ => 0))) :: ((q_1, .inl (cI, 40, .inl (fun _ => 0))) :: ((h0, .inr (1, [.ref q_1, .ref q_2, .ref q_3, .ref q_4, .ref q_5, .null, .null, .int 0, .int 0, .long 0, .int 0])) :: R))))))) := mvD hD
  refine va_putF (D := D) (ci := 1) (v := .ref q_6) (C := RX1) (T := TX1) (N := 11) hx hb hg inGX1 tyX1 tyX1_ok nmX1 hown hK hP hD hS 6 rfl rfl 5 (by decide) (hg _ mw_114) (fun _ h9 => h9) rfl hnm rfl (tyX1_ok 5 (by decide)) rfl rfl (Nat.le_of_ble_eq_true rfl) dX1_init_49 (fun H locs hP hD hS => ?_)
  have hP : va_P D vwCl ((q_6, .inl (cI, 41, .inl (fun _ => 0))) :: ((q_5, .inl (cI, 80, .inl (fun _ => 0))) :: ((q_4, .inl (cI, 80, .inl (fun _ => 0))) :: ((q_3, .inl (cI, 40, .inl (fun _ => 0))) :: ((q_2, .inl (cI, 40, .inl (fun _ => 0))) :: ((q_1, .inl (cI, 40, .inl (fun _ => 0))) :: ((h0, .inr (1, [.ref q_1, .ref q_2, .ref q_3, .ref q_4, .ref q_5, .ref q_6, .null, .int 0, .int 0, .long 0, .int 0])) :: R))))))) H := hP
  have hD : va_D A ((q_6, .inl (cI, 41, .inl (fun _ => 0))) :: ((q_5, .inl (cI, 80, .inl (fun _ => 0))) :: ((q_4, .inl (cI, 80, .inl (fun _ => 0))) :: ((q_3, .inl (cI, 40, .inl (fun _ => 0))) :: ((q_2, .inl (cI, 40, .inl (fun _ => 0))) :: ((q_1, .inl (cI, 40, .inl (fun _ => 0))) :: ((h0, .inr (1, [.ref q_1, .ref q_2, .ref q_3, .ref q_4, .ref q_5, .ref q_6, .null, .int 0, .int 0, .long 0, .int 0])) :: R))))))) := hD
  refine lv_aload_n hx hb dX1_init_52 rfl (lv_at hl 0 rfl) ?_
  refine lv_bipush (v := 40) hx hb dX1_init_53 (by decide) ?_
  refine my_newa (atype := .long) (ty := .long) (N' := 40) (a0 := (40, .inr (.inl (fun _ => 0)))) hx hb (hg _ mw_502) rfl hK hP hD hS hA 1 rfl (fun _ h => h) (fun _ => rfl) (by decide) (by decide) (Nat.le_of_ble_eq_true rfl) (Nat.le_of_ble_eq_true rfl) (Nat.le_of_ble_eq_true rfl) dX1_init_55 (fun q_7 H hP hD hS => ?_)
  have hP : va_P D vwCl ((q_7, .inl (cJ, 40, .inr (.inl (fun _ => 0)))) :: ((q_6, .inl (cI, 41, .inl (fun _ => 0))) :: ((q_5, .inl (cI, 80, .inl (fun _ => 0))) :: ((q_4, .inl (cI, 80, .inl (fun _ => 0))) :: ((q_3, .inl (cI, 40, .inl (fun _ => 0))) :: ((q_2, .inl (cI, 40, .inl (fun _ => 0))) :: ((q_1, .inl (cI, 40, .inl (fun _ => 0))) :: ((h0, .inr (1, [.ref q_1, .ref q_2, .ref q_3, .ref q_4, .ref q_5, .ref q_6, .null, .int 0, .int 0, .long 0, .int 0])) :: R)))))))) H := mvP hP
  have hD : va_D A ((q_7, .inl (cJ, 40, .inr (.inl (fun _ => 0)))) :: ((q_6, .inl (cI, 41, .inl (fun _ => 0))) :: ((q_5, .inl (cI, 80, .inl (fun _ => 0))) :: ((q_4, .inl (cI, 80, .inl (fun _ => 0))) :: ((q_3, .inl (cI, 40, .inl (fun _ => 0))) :: ((q_2, .inl (cI, 40, .inl (fun _ => 0))) :: ((q_1, .inl (cI, 40, .inl (fun _ => 0))) :: ((h0, .inr (1, [.ref q_1, .ref q_2, .ref q_3, .ref q_4, .ref q_5, .ref q_6, .null, .int 0, .int 0, .long 0, .int 0])) :: R)))))))) := mvD hD
  refine va_putF (D := D) (ci := 1) (v := .ref q_7) (C := RX1) (T := TX1) (N := 11) hx hb hg inGX1 tyX1 tyX1_ok nmX1 hown hK hP hD hS 7 rfl rfl 6 (by decide) (hg _ mw_96) (fun _ h9 => h9) rfl hnm rfl (tyX1_ok 6 (by decide)) rfl rfl (Nat.le_of_ble_eq_true rfl) dX1_init_57 (fun H locs hP hD hS => ?_)
  have hP : va_P D vwCl ((q_7, .inl (cJ, 40, .inr (.inl (fun _ => 0)))) :: ((q_6, .inl (cI, 41, .inl (fun _ => 0))) :: ((q_5, .inl (cI, 80, .inl (fun _ => 0))) :: ((q_4, .inl (cI, 80, .inl (fun _ => 0))) :: ((q_3, .inl (cI, 40, .inl (fun _ => 0))) :: ((q_2, .inl (cI, 40, .inl (fun _ => 0))) :: ((q_1, .inl (cI, 40, .inl (fun _ => 0))) :: ((h0, .inr (1, [.ref q_1, .ref q_2, .ref q_3, .ref q_4, .ref q_5, .ref q_6, .ref q_7, .int 0, .int 0, .long 0, .int 0])) :: R)))))))) H := hP
  have hD : va_D A ((q_7, .inl (cJ, 40, .inr (.inl (fun _ => 0)))) :: ((q_6, .inl (cI, 41, .inl (fun _ => 0))) :: ((q_5, .inl (cI, 80, .inl (fun _ => 0))) :: ((q_4, .inl (cI, 80, .inl (fun _ => 0))) :: ((q_3, .inl (cI, 40, .inl (fun _ => 0))) :: ((q_2, .inl (cI, 40, .inl (fun _ => 0))) :: ((q_1, .inl (cI, 40, .inl (fun _ => 0))) :: ((h0, .inr (1, [.ref q_1, .ref q_2, .ref q_3, .ref q_4, .ref q_5, .ref q_6, .ref q_7, .int 0, .int 0, .long 0, .int 0])) :: R)))))))) := hD
  exact W.vret hx hb hr (fun t ht hW => ⟨⟨((q_7, .inl (cJ, 40, .inr (.inl (fun _ => 0)))) :: ((q_6, .inl (cI, 41, .inl (fun _ => 0))) :: ((q_5, .inl (cI, 80, .inl (fun _ => 0))) :: ((q_4, .inl (cI, 80, .inl (fun _ => 0))) :: ((q_3, .inl (cI, 40, .inl (fun _ => 0))) :: ((q_2, .inl (cI, 40, .inl (fun _ => 0))) :: ((q_1, .inl (cI, 40, .inl (fun _ => 0))) :: ((h0, .inr (1, [.ref q_1, .ref q_2, .ref q_3, .ref q_4, .ref q_5, .ref q_6, .ref q_7, .int 0, .int 0, .long 0, .int 0])) :: R)))))))), rfl, ⟨q_7, q_6, q_5, q_4, q_3, q_2, q_1, rfl⟩, ⟨by rw [ht]; exact hP, va_K.moved hW.alike hK, hD⟩⟩, hS.F ht⟩) hS.2.2 dX1_init_60
