theorem dX2_init_0 : decode cX2_init 0 = .ok (.aload_n 0, 1) := by decide +kernel
theorem dX2_init_1 : decode cX2_init 1 = .ok (.invokespecial 3, 3) := by decide +kernel
theorem dX2_init_4 : decode cX2_init 4 = .ok (.aload_n 0, 1) := by decide +kernel
theorem dX2_init_5 : decode cX2_init 5 = .ok (.bipush 40, 2) := by decide +kernel
theorem dX2_init_7 : decode cX2_init 7 = .ok (.newarray .int, 2) := by decide +kernel
theorem dX2_init_9 : decode cX2_init 9 = .ok (.putfield 9, 3) := by decide +kernel
theorem dX2_init_12 : decode cX2_init 12 = .ok (.return_, 1) := by decide +kernel
theorem mw_504 : Cond.methodLink RX2 3 objectInit ∈ GW := gw_mem (inT1 _ (List.mem_of_getElem? (i := 159) rfl)) rfl
set_option maxHeartbeats 4000000 in
set_option maxRecDepth 100000 in
theorem i_X2 (l : Launch) (D : va_G) (cI cJ : ClassId) (h0 : Nat) (R : va_W) : CT l D (TY cI cJ) yX2_init (.code yX2_init cX2_init 1 (none : Option FieldType)) 2 1 40 ((h0, .inr (2, [.null, .int 0, .int 0])) :: R) [.ref h0] (QV D (TY cI cJ) (fun u => ∃ a0, u = ((a0, .inl (cI, 40, .inl (fun _ => 0))) :: ((h0, .inr (2, [.ref a0, .int 0, .int 0])) :: R)))) := by
  refine ent (by decide) (Nat.le_of_ble_eq_true rfl) ?_
  intro p e s m below meth c ls A hx hb hr hg hown hml hlocks hnm hP hK hD hS hA hN hl
  have hl : lv_has ls 1 [(0, .ref h0)] := hl
  refine lv_aload_n hx hb dX2_init_0 rfl (lv_at hl 0 rfl) ?_
  refine W.objInit hx hb hown (hg _ mw_504) (hg _ mw_498) (hg _ mw_499) rfl (by rw [hml]; exact hl.1) rfl dX2_init_1 (Nat.le_of_ble_eq_true rfl) (Nat.le_of_ble_eq_true rfl) ?_
  refine W.eq (g2 := F0 m 4 ls []) rfl ?_
  refine lv_aload_n hx hb dX2_init_4 rfl (lv_at hl 0 rfl) ?_
  refine lv_bipush (v := 40) hx hb dX2_init_5 (by decide) ?_
  refine my_newa (atype := .int) (ty := .int) (N' := 40) (a0 := (40, .inl (fun _ => 0))) hx hb (hg _ mw_500) rfl hK hP hD hS hA 0 rfl (fun _ h => h) (fun _ => rfl) (by decide) (by decide) (Nat.le_of_ble_eq_true rfl) (Nat.le_of_ble_eq_true rfl) (Nat.le_of_ble_eq_true rfl) dX2_init_7 (fun q_1 H hP hD hS => ?_)
  have hP : va_P D vwCl ((q_1, .inl (cI, 40, .inl (fun _ => 0))) :: ((h0, .inr (2, [.null, .int 0, .int 0])) :: R)) H := mvP hP
  have hD : va_D A ((q_1, .inl (cI, 40, .inl (fun _ => 0))) :: ((h0, .inr (2, [.null, .int 0, .int 0])) :: R)) := mvD hD
  refine va_putF (D := D) (ci := 2) (v := .ref q_1) (C := RX2) (T := TX2) (N := 3) hx hb hg inGX2 tyX2 tyX2_ok nmX2 hown hK hP hD hS 1 rfl rfl 0 (by decide) (hg _ mw_147) (fun _ h9 => h9) rfl hnm rfl (tyX2_ok 0 (by decide)) rfl rfl (Nat.le_of_ble_eq_true rfl) dX2_init_9 (fun H locs hP hD hS => ?_)
  have hP : va_P D vwCl ((q_1, .inl (cI, 40, .inl (fun _ => 0))) :: ((h0, .inr (2, [.ref q_1, .int 0, .int 0])) :: R)) H := hP
  have hD : va_D A ((q_1, .inl (cI, 40, .inl (fun _ => 0))) :: ((h0, .inr (2, [.ref q_1, .int 0, .int 0])) :: R)) := hD
  exact W.vret hx hb hr (fun t ht hW => ⟨⟨((q_1, .inl (cI, 40, .inl (fun _ => 0))) :: ((h0, .inr (2, [.ref q_1, .int 0, .int 0])) :: R)), rfl, ⟨q_1, rfl⟩, ⟨by rw [ht]; exact hP, va_K.moved hW.alike hK, hD⟩⟩, hS.F ht⟩) hS.2.2 dX2_init_12
