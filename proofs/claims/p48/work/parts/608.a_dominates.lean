theorem dX7_dominates_0 : decode cX7_dominates 0 = .ok (.aload_n 0, 1) := by decide +kernel
theorem dX7_dominates_1 : decode cX7_dominates 1 = .ok (.iload_n 1, 1) := by decide +kernel
theorem dX7_dominates_2 : decode cX7_dominates 2 = .ok (.invokevirtual 133, 3) := by decide +kernel
theorem dX7_dominates_5 : decode cX7_dominates 5 = .ok (.aload_n 0, 1) := by decide +kernel
theorem dX7_dominates_6 : decode cX7_dominates 6 = .ok (.iload_n 2, 1) := by decide +kernel
theorem dX7_dominates_7 : decode cX7_dominates 7 = .ok (.invokevirtual 133, 3) := by decide +kernel
theorem dX7_dominates_10 : decode cX7_dominates 10 = .ok (.aload_n 0, 1) := by decide +kernel
theorem dX7_dominates_11 : decode cX7_dominates 11 = .ok (.invokevirtual 159, 3) := by decide +kernel
theorem dX7_dominates_14 : decode cX7_dominates 14 = .ok (.iload_n 1, 1) := by decide +kernel
theorem dX7_dominates_15 : decode cX7_dominates 15 = .ok (.iload_n 2, 1) := by decide +kernel
theorem dX7_dominates_16 : decode cX7_dominates 16 = .ok (.invokevirtual 163, 3) := by decide +kernel
theorem dX7_dominates_19 : decode cX7_dominates 19 = .ok (.ireturn, 1) := by decide +kernel
theorem mw_484 : Cond.methodLink RX7 163 yX4_rules ∈ GW := gw_mem (inT4 _ (List.mem_of_getElem? (i := 181) rfl)) rfl
set_option maxHeartbeats 4000000 in
set_option maxRecDepth 100000 in
theorem a_dominates (l : Launch) (D : va_G) (cI cJ : ClassId) (ad : Nat → Nat) (co fl ra li re wa pi : Ob) (k1 : Int32) (k2 : Int32) (zf : ¬ gi fl 2 = 0) (zr : ¬ gi ra 2 = 0) (k0 : ¬ k1 < 0) (k1h : k1 < gi fl 0) (k20 : ¬ k2 < 0) (k2h : k2 < gi fl 0) : CT l D (TY cI cJ) yX7_dominates (.code yX7_dominates cX7_dominates 3 (some Jvm.ClassFile.FieldType.boolean)) 7 0 0 (XW ad cI cJ co fl ra li re wa pi) [.ref (ad 0), .int k1, .int k2] (QI D (TY cI cJ) (fun r u => r = (b2i (hs (rdL (gB ra 0) 40 k1) k2)) ∧ u = (XW ad cI cJ co fl ra li re wa pi))) := by
  refine ent (by decide) (Nat.le_of_ble_eq_true rfl) ?_
  intro p e s m below meth c ls A hx hb hr hg hown hml hlocks hnm hP hK hD hS hA hN hl
  have hl : lv_has ls 3 [(0, .ref (ad 0)), (1, .int k1), (2, .int k2)] := hl
  refine lv_aload_n hx hb dX7_dominates_0 rfl (lv_at hl 0 rfl) ?_
  refine lv_iload_n hx hb dX7_dominates_1 rfl (lv_at hl 1 rfl) ?_
  refine kV (rV (q0 := 0) (ci := 7) hx hb hml hown hg hN hK hP hD (c_needB l D cI cJ ad co fl ra li re wa pi k1 zf k0 k1h) mw_476 mw_477 mw_478 mw_479 mw_77 pdv_X7_needBlock ⟨Nat.le_of_ble_eq_true rfl, Nat.le_of_ble_eq_true rfl⟩ rfl xo0 rfl hl.1 rfl (Nat.le_of_ble_eq_true rfl) dX7_dominates_2 ⟨Nat.le_of_ble_eq_true rfl, Nat.le_of_ble_eq_true rfl⟩) hD hS hA (fun u_1 H locs hp hP hD hS => ?_)
  obtain rfl := hp.symm
  refine lv_aload_n hx hb dX7_dominates_5 rfl (lv_at hl 0 rfl) ?_
  refine lv_iload_n hx hb dX7_dominates_6 rfl (lv_at hl 2 rfl) ?_
  refine kV (rV (q0 := 0) (ci := 7) hx hb hml hown hg hN hK hP hD (c_needB l D cI cJ ad co fl ra li re wa pi k2 zf k20 k2h) mw_476 mw_477 mw_478 mw_479 mw_77 pdv_X7_needBlock ⟨Nat.le_of_ble_eq_true rfl, Nat.le_of_ble_eq_true rfl⟩ rfl xo0 rfl hl.1 rfl (Nat.le_of_ble_eq_true rfl) dX7_dominates_7 ⟨Nat.le_of_ble_eq_true rfl, Nat.le_of_ble_eq_true rfl⟩) hD hS hA (fun u_2 H locs hp hP hD hS => ?_)
  obtain rfl := hp.symm
  refine lv_aload_n hx hb dX7_dominates_10 rfl (lv_at hl 0 rfl) ?_
  refine kR (rV (q0 := 0) (ci := 7) hx hb hml hown hg hN hK hP hD (c_freshRanks1 l D cI cJ ad co fl ra li re wa pi zr) mw_405 mw_406 mw_407 mw_408 mw_77 pdv_X7_freshRanks ⟨Nat.le_of_ble_eq_true rfl, Nat.le_of_ble_eq_true rfl⟩ rfl xo0 rfl hl.1 rfl (Nat.le_of_ble_eq_true rfl) dX7_dominates_11 ⟨Nat.le_of_ble_eq_true rfl, Nat.le_of_ble_eq_true rfl⟩) hD hS hA (fun r_3 u_3 H locs hp hP hD hS => ?_)
  obtain ⟨er, eu⟩ := hp
  obtain rfl := er.symm
  obtain rfl := eu.symm
  refine lv_iload_n hx hb dX7_dominates_14 rfl (lv_at hl 1 rfl) ?_
  refine lv_iload_n hx hb dX7_dominates_15 rfl (lv_at hl 2 rfl) ?_
  refine kI (rV (q0 := 3) (ci := 4) hx hb hml hown hg hN hK hP hD (c_rules l D cI cJ ad co fl ra li re wa pi k1 k2) mw_126 mw_484 mw_128 mw_129 mw_130 pdv_X4_rules ⟨Nat.le_of_ble_eq_true rfl, Nat.le_of_ble_eq_true rfl⟩ rfl xo3 rfl hl.1 rfl (Nat.le_of_ble_eq_true rfl) dX7_dominates_16 ⟨Nat.le_of_ble_eq_true rfl, Nat.le_of_ble_eq_true rfl⟩) hD hS hA (fun r_4 u_4 H locs hp hP hD hS => ?_)
  obtain ⟨er, eu⟩ := hp
  obtain rfl := er.symm
  obtain rfl := eu.symm
  exact W.zret (v := (b2i (hs (rdL (gB ra 0) 40 k1) k2))) hx hb hr nar_b2i (fun t ht hW => ⟨⟨(b2i (hs (rdL (gB ra 0) 40 k1) k2)), (XW ad cI cJ co fl ra li re wa pi), rfl, ⟨rfl, xw_eq rfl rfl rfl rfl rfl rfl rfl⟩, ⟨by rw [ht]; exact hP, va_K.moved hW.alike hK, hD⟩⟩, hS.F ht⟩) hS.2.2 dX7_dominates_19
