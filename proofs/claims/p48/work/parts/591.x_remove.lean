set_option maxHeartbeats 4000000 in
set_option maxRecDepth 100000 in
theorem x_remove (l : Launch) (hfl : l.stackTraces = false) (D : va_G) (cI cJ : ClassId) (ad : Nat → Nat) (co fl ra li re wa pi : Ob) (k1 : Int32) (k0 : ¬ k1 < 0) (kn : ¬ k1 < gi co 0) : CX l D (TY cI cJ) yX7_remove (.code yX7_remove cX7_remove 2 (some Jvm.ClassFile.FieldType.int)) 7 1 6 (XW ad cI cJ co fl ra li re wa pi) [.ref (ad 0), .int k1] (QI D (TY cI cJ) (fun r u => False)) EIOB (True) := by
  refine entX (by decide) (Nat.le_of_ble_eq_true rfl) ?_
  intro p e s m below meth c ls A hx hb hr hg hown hml hlocks hnm hP hK hD hS hA hN hl hE hST hSR hAw
  have hl : lv_has ls 2 [(0, .ref (ad 0)), (1, .int k1)] := hl
  refine lv_aload_n hx hb dX7_remove_0 rfl (lv_at hl 0 rfl) ?_
  refine lv_iload_n hx hb dX7_remove_1 rfl (lv_at hl 1 rfl) ?_
  refine kXV (rXV (q0 := 0) (ci := 7) hx hb hml hown hg hN hK hP hD hST hSR hS hA (x_needI l hfl D cI cJ ad co fl ra li re wa pi k1 k0 kn) mw_457 mw_458 mw_459 mw_460 mw_77 pdv_X7_needInstruction ⟨Nat.le_of_ble_eq_true rfl, Nat.le_of_ble_eq_true rfl⟩ rfl xo0 rfl hl.1 rfl (Nat.le_of_ble_eq_true rfl) dX7_remove_2 ⟨Nat.le_of_ble_eq_true rfl, Nat.le_of_ble_eq_true rfl⟩) hD hS hA (fun ce q9 H locs hpx hP hD hS h1 h2 h3 => xout hpx hP hK hD hE hlocks hS h1 h2 h3 (Nat.le_of_ble_eq_true rfl) (Nat.le_of_ble_eq_true rfl)) (fun u_1 H locs hp hP hD hS => ?_)
  exact hp.elim
