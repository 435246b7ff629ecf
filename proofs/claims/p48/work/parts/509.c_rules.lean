theorem dX4_rules_0 : decode cX4_rules 0 = .ok (.aload_n 0, 1) := by decide +kernel
theorem dX4_rules_1 : decode cX4_rules 1 = .ok (.getfield 9, 3) := by decide +kernel
theorem dX4_rules_4 : decode cX4_rules 4 = .ok (.iload_n 1, 1) := by decide +kernel
theorem dX4_rules_5 : decode cX4_rules 5 = .ok (.invokestatic 61, 3) := by decide +kernel
theorem dX4_rules_8 : decode cX4_rules 8 = .ok (.iload_n 2, 1) := by decide +kernel
theorem dX4_rules_9 : decode cX4_rules 9 = .ok (.invokestatic 30, 3) := by decide +kernel
theorem dX4_rules_12 : decode cX4_rules 12 = .ok (.ireturn, 1) := by decide +kernel
theorem mw_124 : Cond.fieldLink RX4 9 "OrielChart$Ranks" "ruled" "[J" ∈ GW := gw_mem (inT1 _ (List.mem_of_getElem? (i := 129) rfl)) rfl
set_option maxHeartbeats 4000000 in
set_option maxRecDepth 100000 in
theorem c_rules (l : Launch) (D : va_G) (cI cJ : ClassId) (ad : Nat → Nat) (co fl ra li re wa pi : Ob) (k1 : Int32) (k2 : Int32) : CT l D (TY cI cJ) yX4_rules (.code yX4_rules cX4_rules 3 (some Jvm.ClassFile.FieldType.boolean)) 1 0 0 (XW ad cI cJ co fl ra li re wa pi) [.ref (ad 3), .int k1, .int k2] (QI D (TY cI cJ) (fun r u => r = (b2i (hs (rdL (gB ra 0) 40 k1) k2)) ∧ u = (XW ad cI cJ co fl ra li re wa pi))) := by
  refine ent (by decide) (Nat.le_of_ble_eq_true rfl) ?_
  intro p e s m below meth c ls A hx hb hr hg hown hml hlocks hnm hP hK hD hS hA hN hl
  have hl : lv_has ls 3 [(0, .ref (ad 3)), (1, .int k1), (2, .int k2)] := hl
  refine lv_aload_n hx hb dX4_rules_0 rfl (lv_at hl 0 rfl) ?_
  refine va_get (D := D) (ci := 4) (v := .ref (ad 19)) (C := RX4) (T := TX4) (N := 7) hx hb hg inGX4 hown hK hP 3 xo3 rfl 0 (by decide) (hg _ mw_124) (fun _ h9 => h9) xvX4_0 dX4_rules_1 ?_
  refine lv_iload_n hx hb dX4_rules_4 rfl (lv_at hl 1 rfl) ?_
  refine kL (rSN hx hb hml hown hg hN hK hP hD (c_atL l D cI cJ (XW ad cI cJ co fl ra li re wa pi) 19 (ad 19) 40 (gB ra 0) k1 (xg19 rfl) (by decide)) mw_81 nw_78 mw_83 mw_77 pd_X7_at_ ⟨Nat.le_of_ble_eq_true rfl, Nat.le_of_ble_eq_true rfl⟩ rfl hl.1 rfl (Nat.le_of_ble_eq_true rfl) dX4_rules_5 ⟨Nat.le_of_ble_eq_true rfl, Nat.le_of_ble_eq_true rfl⟩) hD hS hA (fun r_1 u_1 H locs hp hP hD hS => ?_)
  obtain ⟨er, eu⟩ := hp
  obtain rfl := er.symm
  obtain rfl := eu.symm
  refine lv_iload_n hx hb dX4_rules_8 rfl (lv_at hl 2 rfl) ?_
  refine kI (rSN hx hb hml hown hg hN hK hP hD (c_has l D cI cJ (XW ad cI cJ co fl ra li re wa pi) (rdL (gB ra 0) 40 k1) k2) mw_89 nw_73 mw_90 mw_77 pd_X7_has ⟨Nat.le_of_ble_eq_true rfl, Nat.le_of_ble_eq_true rfl⟩ rfl hl.1 rfl (Nat.le_of_ble_eq_true rfl) dX4_rules_9 ⟨Nat.le_of_ble_eq_true rfl, Nat.le_of_ble_eq_true rfl⟩) hD hS hA (fun r_2 u_2 H locs hp hP hD hS => ?_)
  obtain ⟨er, eu⟩ := hp
  obtain rfl := er.symm
  obtain rfl := eu.symm
  exact W.zret (v := (b2i (hs (rdL (gB ra 0) 40 k1) k2))) hx hb hr nar_b2i (fun t ht hW => ⟨⟨(b2i (hs (rdL (gB ra 0) 40 k1) k2)), (XW ad cI cJ co fl ra li re wa pi), rfl, ⟨rfl, xw_eq rfl rfl rfl rfl rfl rfl rfl⟩, ⟨by rw [ht]; exact hP, va_K.moved hW.alike hK, hD⟩⟩, hS.F ht⟩) hS.2.2 dX4_rules_12
