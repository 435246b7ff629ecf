theorem dX7_wouldCross_0 : decode cX7_wouldCross 0 = .ok (.iload_n 1, 1) := by decide +kernel
theorem dX7_wouldCross_1 : decode cX7_wouldCross 1 = .ok (.invokestatic 280, 3) := by decide +kernel
theorem dX7_wouldCross_4 : decode cX7_wouldCross 4 = .ok (.aload_n 0, 1) := by decide +kernel
theorem dX7_wouldCross_5 : decode cX7_wouldCross 5 = .ok (.invokevirtual 234, 3) := by decide +kernel
theorem dX7_wouldCross_8 : decode cX7_wouldCross 8 = .ok (.iload_n 1, 1) := by decide +kernel
theorem dX7_wouldCross_9 : decode cX7_wouldCross 9 = .ok (.invokevirtual 286, 3) := by decide +kernel
theorem dX7_wouldCross_12 : decode cX7_wouldCross 12 = .ok (.ireturn, 1) := by decide +kernel
theorem mw_468 : Cond.code yX7_needSweeps cX7_needSweeps 1 (none : Option FieldType) ∈ GW := gw_mem (inT4 _ (List.mem_of_getElem? (i := 106) rfl)) rfl
theorem mw_469 : Cond.methodLink RX7 280 yX7_needSweeps ∈ GW := gw_mem (inT4 _ (List.mem_of_getElem? (i := 104) rfl)) rfl
theorem mw_470 : Cond.static yX7_needSweeps ∈ GW := gw_mem (inT4 _ (List.mem_of_getElem? (i := 105) rfl)) rfl
theorem mw_471 : Cond.code yX3_tryOut cX3_tryOut 7 (some Jvm.ClassFile.FieldType.int) ∈ GW := gw_mem (inT4 _ (List.mem_of_getElem? (i := 111) rfl)) rfl
theorem mw_472 : Cond.methodLink RX7 286 yX3_tryOut ∈ GW := gw_mem (inT4 _ (List.mem_of_getElem? (i := 108) rfl)) rfl
theorem mw_473 : Cond.instanceMethod yX3_tryOut ∈ GW := gw_mem (inT4 _ (List.mem_of_getElem? (i := 109) rfl)) rfl
theorem mw_474 : Cond.selects RX3 yX3_tryOut yX3_tryOut ∈ GW := gw_mem (inT4 _ (List.mem_of_getElem? (i := 110) rfl)) rfl
theorem pd_X7_needSweeps : yX7_needSweeps.cls ≠ "java/lang/invoke/MethodHandle" ∧ yX7_needSweeps.cls ≠ "java/lang/invoke/VarHandle" ∧ (parseMethodDescriptor yX7_needSweeps.desc).map (fun d => d.parameters.length) = some 1 := by decide +kernel
theorem pdv_X3_tryOut : yX3_tryOut.cls = RX3 ∧ yX3_tryOut.cls ≠ "java/lang/invoke/MethodHandle" ∧ yX3_tryOut.cls ≠ "java/lang/invoke/VarHandle" ∧ (parseMethodDescriptor yX3_tryOut.desc).map (fun d => d.parameters.length) = some 1 := by decide +kernel
set_option maxHeartbeats 4000000 in
set_option maxRecDepth 100000 in
theorem a_wouldCross (l : Launch) (D : va_G) (cI cJ : ClassId) (ad : Nat → Nat) (co fl ra li re wa pi : Ob) (k1 : Int32) (zp : ¬ gi pi 3 = 0) (s0 : ¬ k1 < 1) (s1 : ¬ 20 < k1) : CT l D (TY cI cJ) yX7_wouldCross (.code yX7_wouldCross cX7_wouldCross 2 (some Jvm.ClassFile.FieldType.int)) 7 0 0 (XW ad cI cJ co fl ra li re wa pi) [.ref (ad 0), .int k1] (QI D (TY cI cJ) (fun r u => r = (toQ wa pi k1).2 ∧ u = (XW ad cI cJ co fl ra li re wa (tryOut wa pi k1)))) := by
  refine ent (by decide) (Nat.le_of_ble_eq_true rfl) ?_
  intro p e s m below meth c ls A hx hb hr hg hown hml hlocks hnm hP hK hD hS hA hN hl
  have hl : lv_has ls 2 [(0, .ref (ad 0)), (1, .int k1)] := hl
  refine lv_iload_n hx hb dX7_wouldCross_0 rfl (lv_at hl 1 rfl) ?_
  refine kV (rS hx hb hml hown hg hN hK hP hD (c_needS l D cI cJ ad co fl ra li re wa pi k1 s0 s1) mw_468 mw_469 mw_470 mw_77 pd_X7_needSweeps ⟨Nat.le_of_ble_eq_true rfl, Nat.le_of_ble_eq_true rfl⟩ rfl hl.1 rfl (Nat.le_of_ble_eq_true rfl) dX7_wouldCross_1 ⟨Nat.le_of_ble_eq_true rfl, Nat.le_of_ble_eq_true rfl⟩) hD hS hA (fun u_1 H locs hp hP hD hS => ?_)
  obtain rfl := hp.symm
  refine lv_aload_n hx hb dX7_wouldCross_4 rfl (lv_at hl 0 rfl) ?_
  refine kR (rV (q0 := 0) (ci := 7) hx hb hml hown hg hN hK hP hD (c_freshPic1 l D cI cJ ad co fl ra li re wa pi zp) mw_367 mw_368 mw_369 mw_370 mw_77 pdv_X7_freshPicture ⟨Nat.le_of_ble_eq_true rfl, Nat.le_of_ble_eq_true rfl⟩ rfl xo0 rfl hl.1 rfl (Nat.le_of_ble_eq_true rfl) dX7_wouldCross_5 ⟨Nat.le_of_ble_eq_true rfl, Nat.le_of_ble_eq_true rfl⟩) hD hS hA (fun r_2 u_2 H locs hp hP hD hS => ?_)
  obtain ⟨er, eu⟩ := hp
  obtain rfl := er.symm
  obtain rfl := eu.symm
  refine lv_iload_n hx hb dX7_wouldCross_8 rfl (lv_at hl 1 rfl) ?_
  refine kI (rV (q0 := 6) (ci := 3) hx hb hml hown hg hN hK hP hD (c_tryOut l D cI cJ ad co fl ra li re wa pi k1) mw_471 mw_472 mw_473 mw_474 mw_234 pdv_X3_tryOut ⟨Nat.le_of_ble_eq_true rfl, Nat.le_of_ble_eq_true rfl⟩ rfl xo6 rfl hl.1 rfl (Nat.le_of_ble_eq_true rfl) dX7_wouldCross_9 ⟨Nat.le_of_ble_eq_true rfl, Nat.le_of_ble_eq_true rfl⟩) hD hS hA (fun r_3 u_3 H locs hp hP hD hS => ?_)
  obtain ⟨er, eu⟩ := hp
  obtain rfl := er.symm
  obtain rfl := eu.symm
  have hP : va_P D vwCl (XW ad cI cJ co fl ra li re wa (tryOut wa pi k1)) H := hP
  have hD : va_D A (XW ad cI cJ co fl ra li re wa (tryOut wa pi k1)) := hD
  exact W.iret (v := (toQ wa pi k1).2) hx hb hr (fun t ht hW => ⟨⟨(toQ wa pi k1).2, (XW ad cI cJ co fl ra li re wa (tryOut wa pi k1)), rfl, ⟨rfl, xw_eq rfl rfl rfl rfl rfl rfl (show (tryOut wa pi k1) = (tryOut wa pi k1) from (by first | with_reducible rfl | (simp only [gi_sl, gi_sA, gi_sB, gi_si_s, gi_si_n, gl_si, gl_sA, gl_sB, gl_sl_s, gl_sl_n, gA_si, gA_sl, gA_sB, gA_sA_s, gA_sA_n, gB_si, gB_sl, gB_sA, gB_sB_s, gB_sB_n, Nat.reduceBEq, if_true, if_false, eq_self, Bool.false_eq_true, Bool.true_eq_false, not_true_eq_false, not_false_eq_true, decide_true, decide_false, cond_true, cond_false, Bool.true_and, Bool.false_and, Bool.and_true, Bool.and_false, Bool.true_or, Bool.false_or, Bool.or_true, Bool.or_false, b2i_tt, b2i_ff, pr_eta]; done)))⟩, ⟨by rw [ht]; exact hP, va_K.moved hW.alike hK, hD⟩⟩, hS.F ht⟩) hS.2.2 dX7_wouldCross_12
