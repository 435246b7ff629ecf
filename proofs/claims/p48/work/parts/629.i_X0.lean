theorem dX0_init_0 : decode cX0_init 0 = .ok (.aload_n 0, 1) := by decide +kernel
theorem dX0_init_1 : decode cX0_init 1 = .ok (.invokespecial 3, 3) := by decide +kernel
theorem dX0_init_4 : decode cX0_init 4 = .ok (.aload_n 0, 1) := by decide +kernel
theorem dX0_init_5 : decode cX0_init 5 = .ok (.bipush 40, 2) := by decide +kernel
theorem dX0_init_7 : decode cX0_init 7 = .ok (.newarray .int, 2) := by decide +kernel
theorem dX0_init_9 : decode cX0_init 9 = .ok (.putfield 9, 3) := by decide +kernel
theorem dX0_init_12 : decode cX0_init 12 = .ok (.aload_n 0, 1) := by decide +kernel
theorem dX0_init_13 : decode cX0_init 13 = .ok (.bipush 40, 2) := by decide +kernel
theorem dX0_init_15 : decode cX0_init 15 = .ok (.newarray .int, 2) := by decide +kernel
theorem dX0_init_17 : decode cX0_init 17 = .ok (.putfield 15, 3) := by decide +kernel
theorem dX0_init_20 : decode cX0_init 20 = .ok (.aload_n 0, 1) := by decide +kernel
theorem dX0_init_21 : decode cX0_init 21 = .ok (.bipush 40, 2) := by decide +kernel
theorem dX0_init_23 : decode cX0_init 23 = .ok (.newarray .int, 2) := by decide +kernel
theorem dX0_init_25 : decode cX0_init 25 = .ok (.putfield 18, 3) := by decide +kernel
theorem dX0_init_28 : decode cX0_init 28 = .ok (.aload_n 0, 1) := by decide +kernel
theorem dX0_init_29 : decode cX0_init 29 = .ok (.bipush 40, 2) := by decide +kernel
theorem dX0_init_31 : decode cX0_init 31 = .ok (.newarray .int, 2) := by decide +kernel
theorem dX0_init_33 : decode cX0_init 33 = .ok (.putfield 21, 3) := by decide +kernel
theorem dX0_init_36 : decode cX0_init 36 = .ok (.return_, 1) := by decide +kernel
theorem mw_497 : Cond.methodLink RX0 3 objectInit ∈ GW := gw_mem (inT1 _ (List.mem_of_getElem? (i := 30) rfl)) rfl
theorem mw_498 : Cond.instanceMethod objectInit ∈ GW := gw_mem (inT1 _ (List.mem_of_getElem? (i := 23) rfl)) rfl
theorem mw_499 : Cond.code objectInit ⟨#[0xb1]⟩ 1 (none : Option FieldType) ∈ GW := gw_mem (inT1 _ (List.mem_of_getElem? (i := 24) rfl)) rfl
theorem mw_500 : Cond.arrayClass .int ∈ GW := gw_mem (inT1 _ (List.mem_of_getElem? (i := 57) rfl)) rfl
theorem mvP {D : va_G} {cl : List vw_C} {w : va_W} {e : Nat × va_E} {H : Heap} (h : va_P D cl (w ++ [e]) H) : va_P D cl (e :: w) H := by
  intro k q hk
  have hq : q ∈ w ++ [e] := by
    have := List.mem_of_getElem? hk
    rcases List.mem_cons.mp this with h1 | h1
    · exact List.mem_append_right _ (by rw [h1]; exact List.mem_cons_self)
    · exact List.mem_append_left _ h1
  obtain ⟨i, hi⟩ := List.getElem?_of_mem hq
  exact h i q hi
theorem mvD {A : Nat → Prop} {w : va_W} {e : Nat × va_E} (h : va_D A (w ++ [e])) : va_D A (e :: w) := by
  have key : ∀ (k : Nat) (q : Nat × va_E), (e :: w)[k]? = some q → (k = 0 ∧ (w ++ [e])[w.length]? = some q) ∨ (∃ j, k = j + 1 ∧ j < w.length ∧ (w ++ [e])[j]? = some q) := by
    intro k q hk
    cases k with
    | zero =>
      rw [List.getElem?_cons_zero] at hk
      exact Or.inl ⟨rfl, by rw [← hk]; simp⟩
    | succ j =>
      rw [List.getElem?_cons_succ] at hk
      have hj := (List.getElem?_eq_some_iff.mp hk).1
      exact Or.inr ⟨j, rfl, hj, by rw [List.getElem?_append_left hj]; exact hk⟩
  refine ⟨fun i j p q hi hj hpq => ?_, fun k q hk => ?_⟩
  · rcases key i p hi with ⟨a1, a2⟩ | ⟨a, a1, a2, a3⟩ <;> rcases key j q hj with ⟨b1, b2⟩ | ⟨b, b1, b2, b3⟩
    · omega
    · have := h.1 _ _ p q a2 b3 hpq; omega
    · have := h.1 _ _ p q a3 b2 hpq; omega
    · have := h.1 _ _ p q a3 b3 hpq; omega
  · rcases key k q hk with ⟨-, a2⟩ | ⟨a, -, -, a3⟩
    · exact h.2 _ q a2
    · exact h.2 _ q a3
def z9 : Ob := (fun _ => 0, fun _ => 0, fun _ _ => 0, fun _ _ => 0)
theorem df_X0 : ∀ j, j < 5 → defaultValue (tyX0 j) = vp_V [.null, .null, .null, .null, .int 0] j := fun j hj => match j, hj with
  | 0, _ => rfl
  | 1, _ => rfl
  | 2, _ => rfl
  | 3, _ => rfl
  | 4, _ => rfl
  | k + 5, h => absurd h (by omega)
theorem df_X1 : ∀ j, j < 11 → defaultValue (tyX1 j) = vp_V [.null, .null, .null, .null, .null, .null, .null, .int 0, .int 0, .long 0, .int 0] j := fun j hj => match j, hj with
  | 0, _ => rfl
  | 1, _ => rfl
  | 2, _ => rfl
  | 3, _ => rfl
  | 4, _ => rfl
  | 5, _ => rfl
  | 6, _ => rfl
  | 7, _ => rfl
  | 8, _ => rfl
  | 9, _ => rfl
  | 10, _ => rfl
  | k + 11, h => absurd h (by omega)
theorem df_X2 : ∀ j, j < 3 → defaultValue (tyX2 j) = vp_V [.null, .int 0, .int 0] j := fun j hj => match j, hj with
  | 0, _ => rfl
  | 1, _ => rfl
  | 2, _ => rfl
  | k + 3, h => absurd h (by omega)
theorem df_X3 : ∀ j, j < 16 → defaultValue (tyX3 j) = vp_V [.null, .null, .null, .null, .null, .null, .null, .null, .null, .null, .null, .null, .int 0, .int 0, .int 0, .int 0] j := fun j hj => match j, hj with
  | 0, _ => rfl
  | 1, _ => rfl
  | 2, _ => rfl
  | 3, _ => rfl
  | 4, _ => rfl
  | 5, _ => rfl
  | 6, _ => rfl
  | 7, _ => rfl
  | 8, _ => rfl
  | 9, _ => rfl
  | 10, _ => rfl
  | 11, _ => rfl
  | 12, _ => rfl
  | 13, _ => rfl
  | 14, _ => rfl
  | 15, _ => rfl
  | k + 16, h => absurd h (by omega)
theorem df_X4 : ∀ j, j < 7 → defaultValue (tyX4 j) = vp_V [.null, .null, .null, .null, .int 0, .int 0, .int 0] j := fun j hj => match j, hj with
  | 0, _ => rfl
  | 1, _ => rfl
  | 2, _ => rfl
  | 3, _ => rfl
  | 4, _ => rfl
  | 5, _ => rfl
  | 6, _ => rfl
  | k + 7, h => absurd h (by omega)
theorem df_X5 : ∀ j, j < 8 → defaultValue (tyX5 j) = vp_V [.null, .null, .null, .null, .null, .long 0, .int 0, .int 0] j := fun j hj => match j, hj with
  | 0, _ => rfl
  | 1, _ => rfl
  | 2, _ => rfl
  | 3, _ => rfl
  | 4, _ => rfl
  | 5, _ => rfl
  | 6, _ => rfl
  | 7, _ => rfl
  | k + 8, h => absurd h (by omega)
theorem df_X6 : ∀ j, j < 9 → defaultValue (tyX6 j) = vp_V [.null, .null, .null, .null, .null, .int 0, .int 0, .long 0, .long 0] j := fun j hj => match j, hj with
  | 0, _ => rfl
  | 1, _ => rfl
  | 2, _ => rfl
  | 3, _ => rfl
  | 4, _ => rfl
  | 5, _ => rfl
  | 6, _ => rfl
  | 7, _ => rfl
  | 8, _ => rfl
  | k + 9, h => absurd h (by omega)
theorem df_X7 : ∀ j, j < 6 → defaultValue (tyX7 j) = vp_V [.null, .null, .null, .null, .null, .null] j := fun j hj => match j, hj with
  | 0, _ => rfl
  | 1, _ => rfl
  | 2, _ => rfl
  | 3, _ => rfl
  | 4, _ => rfl
  | 5, _ => rfl
  | k + 6, h => absurd h (by omega)
set_option maxHeartbeats 4000000 in
set_option maxRecDepth 100000 in
theorem i_X0 (l : Launch) (D : va_G) (cI cJ : ClassId) (h0 : Nat) (R : va_W) : CT l D (TY cI cJ) yX0_init (.code yX0_init cX0_init 1 (none : Option FieldType)) 2 4 160 ((h0, .inr (0, [.null, .null, .null, .null, .int 0])) :: R) [.ref h0] (QV D (TY cI cJ) (fun u => ∃ a0 a1 a2 a3, u = ((a0, .inl (cI, 40, .inl (fun _ => 0))) :: ((a1, .inl (cI, 40, .inl (fun _ => 0))) :: ((a2, .inl (cI, 40, .inl (fun _ => 0))) :: ((a3, .inl (cI, 40, .inl (fun _ => 0))) :: ((h0, .inr (0, [.ref a3, .ref a2, .ref a1, .ref a0, .int 0])) :: R))))))) := by
  refine ent (by decide) (Nat.le_of_ble_eq_true rfl) ?_
  intro p e s m below meth c ls A hx hb hr hg hown hml hlocks hnm hP hK hD hS hA hN hl
  have hl : lv_has ls 1 [(0, .ref h0)] := hl
  refine lv_aload_n hx hb dX0_init_0 rfl (lv_at hl 0 rfl) ?_
  refine W.objInit hx hb hown (hg _ mw_497) (hg _ mw_498) (hg _ mw_499) rfl (by rw [hml]; exact hl.1) rfl dX0_init_1 (Nat.le_of_ble_eq_true rfl) (Nat.le_of_ble_eq_true rfl) ?_
  refine W.eq (g2 := F0 m 4 ls []) rfl ?_
  refine lv_aload_n hx hb dX0_init_4 rfl (lv_at hl 0 rfl) ?_
  refine lv_bipush (v := 40) hx hb dX0_init_5 (by decide) ?_
  refine my_newa (atype := .int) (ty := .int) (N' := 40) (a0 := (40, .inl (fun _ => 0))) hx hb (hg _ mw_500) rfl hK hP hD hS hA 0 rfl (fun _ h => h) (fun _ => rfl) (by decide) (by decide) (Nat.le_of_ble_eq_true rfl) (Nat.le_of_ble_eq_true rfl) (Nat.le_of_ble_eq_true rfl) dX0_init_7 (fun q_1 H hP hD hS => ?_)
  have hP : va_P D vwCl ((q_1, .inl (cI, 40, .inl (fun _ => 0))) :: ((h0, .inr (0, [.null, .null, .null, .null, .int 0])) :: R)) H := mvP hP
  have hD : va_D A ((q_1, .inl (cI, 40, .inl (fun _ => 0))) :: ((h0, .inr (0, [.null, .null, .null, .null, .int 0])) :: R)) := mvD hD
  refine va_putF (D := D) (ci := 0) (v := .ref q_1) (C := RX0) (T := TX0) (N := 5) hx hb hg inGX0 tyX0 tyX0_ok nmX0 hown hK hP hD hS 1 rfl rfl 0 (by decide) (hg _ mw_355) (fun _ h9 => h9) rfl hnm rfl (tyX0_ok 0 (by decide)) rfl rfl (Nat.le_of_ble_eq_true rfl) dX0_init_9 (fun H locs hP hD hS => ?_)
  have hP : va_P D vwCl ((q_1, .inl (cI, 40, .inl (fun _ => 0))) :: ((h0, .inr (0, [.ref q_1, .null, .null, .null, .int 0])) :: R)) H := hP
  have hD : va_D A ((q_1, .inl (cI, 40, .inl (fun _ => 0))) :: ((h0, .inr (0, [.ref q_1, .null, .null, .null, .int 0])) :: R)) := hD
  refine lv_aload_n hx hb dX0_init_12 rfl (lv_at hl 0 rfl) ?_
  refine lv_bipush (v := 40) hx hb dX0_init_13 (by decide) ?_
  refine my_newa (atype := .int) (ty := .int) (N' := 40) (a0 := (40, .inl (fun _ => 0))) hx hb (hg _ mw_500) rfl hK hP hD hS hA 0 rfl (fun _ h => h) (fun _ => rfl) (by decide) (by decide) (Nat.le_of_ble_eq_true rfl) (Nat.le_of_ble_eq_true rfl) (Nat.le_of_ble_eq_true rfl) dX0_init_15 (fun q_2 H hP hD hS => ?_)
  have hP : va_P D vwCl ((q_2, .inl (cI, 40, .inl (fun _ => 0))) :: ((q_1, .inl (cI, 40, .inl (fun _ => 0))) :: ((h0, .inr (0, [.ref q_1, .null, .null, .null, .int 0])) :: R))) H := mvP hP
  have hD : va_D A ((q_2, .inl (cI, 40, .inl (fun _ => 0))) :: ((q_1, .inl (cI, 40, .inl (fun _ => 0))) :: ((h0, .inr (0, [.ref q_1, .null, .null, .null, .int 0])) :: R))) := mvD hD
  refine va_putF (D := D) (ci := 0) (v := .ref q_2) (C := RX0) (T := TX0) (N := 5) hx hb hg inGX0 tyX0 tyX0_ok nmX0 hown hK hP hD hS 2 rfl rfl 1 (by decide) (hg _ mw_353) (fun _ h9 => h9) rfl hnm rfl (tyX0_ok 1 (by decide)) rfl rfl (Nat.le_of_ble_eq_true rfl) dX0_init_17 (fun H locs hP hD hS => ?_)
  have hP : va_P D vwCl ((q_2, .inl (cI, 40, .inl (fun _ => 0))) :: ((q_1, .inl (cI, 40, .inl (fun _ => 0))) :: ((h0, .inr (0, [.ref q_1, .ref q_2, .null, .null, .int 0])) :: R))) H := hP
  have hD : va_D A ((q_2, .inl (cI, 40, .inl (fun _ => 0))) :: ((q_1, .inl (cI, 40, .inl (fun _ => 0))) :: ((h0, .inr (0, [.ref q_1, .ref q_2, .null, .null, .int 0])) :: R))) := hD
  refine lv_aload_n hx hb dX0_init_20 rfl (lv_at hl 0 rfl) ?_
  refine lv_bipush (v := 40) hx hb dX0_init_21 (by decide) ?_
  refine my_newa (atype := .int) (ty := .int) (N' := 40) (a0 := (40, .inl (fun _ => 0))) hx hb (hg _ mw_500) rfl hK hP hD hS hA 0 rfl (fun _ h => h) (fun _ => rfl) (by decide) (by decide) (Nat.le_of_ble_eq_true rfl) (Nat.le_of_ble_eq_true rfl) (Nat.le_of_ble_eq_true rfl) dX0_init_23 (fun q_3 H hP hD hS => ?_)
  have hP : va_P D vwCl ((q_3, .inl (cI, 40, .inl (fun _ => 0))) :: ((q_2, .inl (cI, 40, .inl (fun _ => 0))) :: ((q_1, .inl (cI, 40, .inl (fun _ => 0))) :: ((h0, .inr (0, [.ref q_1, .ref q_2, .null, .null, .int 0])) :: R)))) H := mvP hP
  have hD : va_D A ((q_3, .inl (cI, 40, .inl (fun _ => 0))) :: ((q_2, .inl (cI, 40, .inl (fun _ => 0))) :: ((q_1, .inl (cI, 40, .inl (fun _ => 0))) :: ((h0, .inr (0, [.ref q_1, .ref q_2, .null, .null, .int 0])) :: R)))) := mvD hD
  refine va_putF (D := D) (ci := 0) (v := .ref q_3) (C := RX0) (T := TX0) (N := 5) hx hb hg inGX0 tyX0 tyX0_ok nmX0 hown hK hP hD hS 3 rfl rfl 2 (by decide) (hg _ mw_356) (fun _ h9 => h9) rfl hnm rfl (tyX0_ok 2 (by decide)) rfl rfl (Nat.le_of_ble_eq_true rfl) dX0_init_25 (fun H locs hP hD hS => ?_)
  have hP : va_P D vwCl ((q_3, .inl (cI, 40, .inl (fun _ => 0))) :: ((q_2, .inl (cI, 40, .inl (fun _ => 0))) :: ((q_1, .inl (cI, 40, .inl (fun _ => 0))) :: ((h0, .inr (0, [.ref q_1, .ref q_2, .ref q_3, .null, .int 0])) :: R)))) H := hP
  have hD : va_D A ((q_3, .inl (cI, 40, .inl (fun _ => 0))) :: ((q_2, .inl (cI, 40, .inl (fun _ => 0))) :: ((q_1, .inl (cI, 40, .inl (fun _ => 0))) :: ((h0, .inr (0, [.ref q_1, .ref q_2, .ref q_3, .null, .int 0])) :: R)))) := hD
  refine lv_aload_n hx hb dX0_init_28 rfl (lv_at hl 0 rfl) ?_
  refine lv_bipush (v := 40) hx hb dX0_init_29 (by decide) ?_
  refine my_newa (atype := .int) (ty := .int) (N' := 40) (a0 := (40, .inl (fun _ => 0))) hx hb (hg _ mw_500) rfl hK hP hD hS hA 0 rfl (fun _ h => h) (fun _ => rfl) (by decide) (by decide) (Nat.le_of_ble_eq_true rfl) (Nat.le_of_ble_eq_true rfl) (Nat.le_of_ble_eq_true rfl) dX0_init_31 (fun q_4 H hP hD hS => ?_)
  have hP : va_P D vwCl ((q_4, .inl (cI, 40, .inl (fun _ => 0))) :: ((q_3, .inl (cI, 40, .inl (fun _ => 0))) :: ((q_2, .inl (cI, 40, .inl (fun _ => 0))) :: ((q_1, .inl (cI, 40, .inl (fun _ => 0))) :: ((h0, .inr (0, [.ref q_1, .ref q_2, .ref q_3, .null, .int 0])) :: R))))) H := mvP hP
  have hD : va_D A ((q_4, .inl (cI, 40, .inl (fun _ => 0))) :: ((q_3, .inl (cI, 40, .inl (fun _ => 0))) :: ((q_2, .inl (cI, 40, .inl (fun _ => 0))) :: ((q_1, .inl (cI, 40, .inl (fun _ => 0))) :: ((h0, .inr (0, [.ref q_1, .ref q_2, .ref q_3, .null, .int 0])) :: R))))) := mvD hD
  refine va_putF (D := D) (ci := 0) (v := .ref q_4) (C := RX0) (T := TX0) (N := 5) hx hb hg inGX0 tyX0 tyX0_ok nmX0 hown hK hP hD hS 4 rfl rfl 3 (by decide) (hg _ mw_357) (fun _ h9 => h9) rfl hnm rfl (tyX0_ok 3 (by decide)) rfl rfl (Nat.le_of_ble_eq_true rfl) dX0_init_33 (fun H locs hP hD hS => ?_)
  have hP : va_P D vwCl ((q_4, .inl (cI, 40, .inl (fun _ => 0))) :: ((q_3, .inl (cI, 40, .inl (fun _ => 0))) :: ((q_2, .inl (cI, 40, .inl (fun _ => 0))) :: ((q_1, .inl (cI, 40, .inl (fun _ => 0))) :: ((h0, .inr (0, [.ref q_1, .ref q_2, .ref q_3, .ref q_4, .int 0])) :: R))))) H := hP
  have hD : va_D A ((q_4, .inl (cI, 40, .inl (fun _ => 0))) :: ((q_3, .inl (cI, 40, .inl (fun _ => 0))) :: ((q_2, .inl (cI, 40, .inl (fun _ => 0))) :: ((q_1, .inl (cI, 40, .inl (fun _ => 0))) :: ((h0, .inr (0, [.ref q_1, .ref q_2, .ref q_3, .ref q_4, .int 0])) :: R))))) := hD
  exact W.vret hx hb hr (fun t ht hW => ⟨⟨((q_4, .inl (cI, 40, .inl (fun _ => 0))) :: ((q_3, .inl (cI, 40, .inl (fun _ => 0))) :: ((q_2, .inl (cI, 40, .inl (fun _ => 0))) :: ((q_1, .inl (cI, 40, .inl (fun _ => 0))) :: ((h0, .inr (0, [.ref q_1, .ref q_2, .ref q_3, .ref q_4, .int 0])) :: R))))), rfl, ⟨q_4, q_3, q_2, q_1, rfl⟩, ⟨by rw [ht]; exact hP, va_K.moved hW.alike hK, hD⟩⟩, hS.F ht⟩) hS.2.2 dX0_init_36
