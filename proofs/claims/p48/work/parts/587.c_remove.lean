theorem dX7_remove_0 : decode cX7_remove 0 = .ok (.aload_n 0, 1) := by decide +kernel
theorem dX7_remove_1 : decode cX7_remove 1 = .ok (.iload_n 1, 1) := by decide +kernel
theorem dX7_remove_2 : decode cX7_remove 2 = .ok (.invokevirtual 85, 3) := by decide +kernel
theorem dX7_remove_5 : decode cX7_remove 5 = .ok (.aload_n 0, 1) := by decide +kernel
theorem dX7_remove_6 : decode cX7_remove 6 = .ok (.getfield 10, 3) := by decide +kernel
theorem dX7_remove_9 : decode cX7_remove 9 = .ok (.iload_n 1, 1) := by decide +kernel
theorem dX7_remove_10 : decode cX7_remove 10 = .ok (.invokevirtual 89, 3) := by decide +kernel
theorem dX7_remove_13 : decode cX7_remove 13 = .ok (.aload_n 0, 1) := by decide +kernel
theorem dX7_remove_14 : decode cX7_remove 14 = .ok (.invokevirtual 82, 3) := by decide +kernel
theorem dX7_remove_17 : decode cX7_remove 17 = .ok (.aload_n 0, 1) := by decide +kernel
theorem dX7_remove_18 : decode cX7_remove 18 = .ok (.getfield 10, 3) := by decide +kernel
theorem dX7_remove_21 : decode cX7_remove 21 = .ok (.getfield 51, 3) := by decide +kernel
theorem dX7_remove_24 : decode cX7_remove 24 = .ok (.ireturn, 1) := by decide +kernel
theorem mw_457 : Cond.code yX7_needInstruction cX7_needInstruction 2 (none : Option FieldType) ∈ GW := gw_mem (inT4 _ (List.mem_of_getElem? (i := 63) rfl)) rfl
theorem mw_458 : Cond.methodLink RX7 85 yX7_needInstruction ∈ GW := gw_mem (inT4 _ (List.mem_of_getElem? (i := 60) rfl)) rfl
theorem mw_459 : Cond.instanceMethod yX7_needInstruction ∈ GW := gw_mem (inT4 _ (List.mem_of_getElem? (i := 62) rfl)) rfl
theorem mw_460 : Cond.selects RX7 yX7_needInstruction yX7_needInstruction ∈ GW := gw_mem (inTp (q := (yX7_needInstruction, 6)) (List.mem_of_getElem? (i := 41) rfl)) rfl
theorem mw_461 : Cond.code yX0_drop cX0_drop 3 (none : Option FieldType) ∈ GW := gw_mem (inT4 _ (List.mem_of_getElem? (i := 83) rfl)) rfl
theorem mw_462 : Cond.methodLink RX7 89 yX0_drop ∈ GW := gw_mem (inT4 _ (List.mem_of_getElem? (i := 80) rfl)) rfl
theorem mw_463 : Cond.instanceMethod yX0_drop ∈ GW := gw_mem (inT4 _ (List.mem_of_getElem? (i := 81) rfl)) rfl
theorem mw_464 : Cond.selects RX0 yX0_drop yX0_drop ∈ GW := gw_mem (inT4 _ (List.mem_of_getElem? (i := 82) rfl)) rfl
theorem pdv_X7_needInstruction : yX7_needInstruction.cls = RX7 ∧ yX7_needInstruction.cls ≠ "java/lang/invoke/MethodHandle" ∧ yX7_needInstruction.cls ≠ "java/lang/invoke/VarHandle" ∧ (parseMethodDescriptor yX7_needInstruction.desc).map (fun d => d.parameters.length) = some 1 := by decide +kernel
theorem pdv_X0_drop : yX0_drop.cls = RX0 ∧ yX0_drop.cls ≠ "java/lang/invoke/MethodHandle" ∧ yX0_drop.cls ≠ "java/lang/invoke/VarHandle" ∧ (parseMethodDescriptor yX0_drop.desc).map (fun d => d.parameters.length) = some 1 := by decide +kernel
set_option maxHeartbeats 4000000 in
set_option maxRecDepth 100000 in
theorem c_remove (l : Launch) (D : va_G) (cI cJ : ClassId) (ad : Nat → Nat) (co fl ra li re wa pi : Ob) (k1 : Int32) (k0 : ¬ k1 < 0) (k1h : k1 < gi co 0) : CT l D (TY cI cJ) yX7_remove (.code yX7_remove cX7_remove 2 (some Jvm.ClassFile.FieldType.int)) 3 0 0 (XW ad cI cJ co fl ra li re wa pi) [.ref (ad 0), .int k1] (QI D (TY cI cJ) (fun r u => r = (gi (coDrop co k1) 0) ∧ u = (XW ad cI cJ (coDrop co k1) (si fl 2 0) (si ra 2 0) (si li 1 0) (si re 1 0) wa (si pi 3 0)))) := by
  refine ent (by decide) (Nat.le_of_ble_eq_true rfl) ?_
  intro p e s m below meth c ls A hx hb hr hg hown hml hlocks hnm hP hK hD hS hA hN hl
  have hl : lv_has ls 2 [(0, .ref (ad 0)), (1, .int k1)] := hl
  refine lv_aload_n hx hb dX7_remove_0 rfl (lv_at hl 0 rfl) ?_
  refine lv_iload_n hx hb dX7_remove_1 rfl (lv_at hl 1 rfl) ?_
  refine kV (rV (q0 := 0) (ci := 7) hx hb hml hown hg hN hK hP hD (c_needI l D cI cJ ad co fl ra li re wa pi k1 k0 k1h) mw_457 mw_458 mw_459 mw_460 mw_77 pdv_X7_needInstruction ⟨Nat.le_of_ble_eq_true rfl, Nat.le_of_ble_eq_true rfl⟩ rfl xo0 rfl hl.1 rfl (Nat.le_of_ble_eq_true rfl) dX7_remove_2 ⟨Nat.le_of_ble_eq_true rfl, Nat.le_of_ble_eq_true rfl⟩) hD hS hA (fun u_1 H locs hp hP hD hS => ?_)
  obtain rfl := hp.symm
  refine lv_aload_n hx hb dX7_remove_5 rfl (lv_at hl 0 rfl) ?_
  refine va_get (D := D) (ci := 7) (v := .ref (ad 1)) (C := RX7) (T := TX7) (N := 6) hx hb hg inGX7 hown hK hP 0 xo0 rfl 0 (by decide) (hg _ mw_323) (fun _ h9 => h9) xvX7_0 dX7_remove_6 ?_
  refine lv_iload_n hx hb dX7_remove_9 rfl (lv_at hl 1 rfl) ?_
  refine kV (rV (q0 := 1) (ci := 0) hx hb hml hown hg hN hK hP hD (c_drop l D cI cJ ad co fl ra li re wa pi k1) mw_461 mw_462 mw_463 mw_464 mw_362 pdv_X0_drop ⟨Nat.le_of_ble_eq_true rfl, Nat.le_of_ble_eq_true rfl⟩ rfl xo1 rfl hl.1 rfl (Nat.le_of_ble_eq_true rfl) dX7_remove_10 ⟨Nat.le_of_ble_eq_true rfl, Nat.le_of_ble_eq_true rfl⟩) hD hS hA (fun u_2 H locs hp hP hD hS => ?_)
  obtain rfl := hp.symm
  have hP : va_P D vwCl (XW ad cI cJ (coDrop co k1) fl ra li re wa pi) H := hP
  have hD : va_D A (XW ad cI cJ (coDrop co k1) fl ra li re wa pi) := hD
  refine lv_aload_n hx hb dX7_remove_13 rfl (lv_at hl 0 rfl) ?_
  refine kV (rV (q0 := 0) (ci := 7) hx hb hml hown hg hN hK hP hD (c_forget l D cI cJ ad (coDrop co k1) fl ra li re wa pi) mw_450 mw_451 mw_452 mw_453 mw_77 pdv_X7_forget ⟨Nat.le_of_ble_eq_true rfl, Nat.le_of_ble_eq_true rfl⟩ rfl xo0 rfl hl.1 rfl (Nat.le_of_ble_eq_true rfl) dX7_remove_14 ⟨Nat.le_of_ble_eq_true rfl, Nat.le_of_ble_eq_true rfl⟩) hD hS hA (fun u_3 H locs hp hP hD hS => ?_)
  obtain rfl := hp.symm
  have hP : va_P D vwCl (XW ad cI cJ (coDrop co k1) (si fl 2 0) (si ra 2 0) (si li 1 0) (si re 1 0) wa (si pi 3 0)) H := hP
  have hD : va_D A (XW ad cI cJ (coDrop co k1) (si fl 2 0) (si ra 2 0) (si li 1 0) (si re 1 0) wa (si pi 3 0)) := hD
  refine lv_aload_n hx hb dX7_remove_17 rfl (lv_at hl 0 rfl) ?_
  refine va_get (D := D) (ci := 7) (v := .ref (ad 1)) (C := RX7) (T := TX7) (N := 6) hx hb hg inGX7 hown hK hP 0 xo0 rfl 0 (by decide) (hg _ mw_323) (fun _ h9 => h9) xvX7_0 dX7_remove_18 ?_
  refine va_getN (D := D) (ci := 0) (v := .int (gi (coDrop co k1) 0)) (C := RX0) (T := TX0) (N := 5) hx hb hg inGX0 hown hK hP 1 xo1 rfl 4 (by decide) (hN.use nw_10) (fun _ h9 => h9) (xvX0_4 rfl) dX7_remove_21 ?_
  exact W.iret (v := (gi (coDrop co k1) 0)) hx hb hr (fun t ht hW => ⟨⟨(gi (coDrop co k1) 0), (XW ad cI cJ (coDrop co k1) (si fl 2 0) (si ra 2 0) (si li 1 0) (si re 1 0) wa (si pi 3 0)), rfl, ⟨rfl, xw_eq (show (coDrop co k1) = (coDrop co k1) from (by first | with_reducible rfl | (simp only [gi_sl, gi_sA, gi_sB, gi_si_s, gi_si_n, gl_si, gl_sA, gl_sB, gl_sl_s, gl_sl_n, gA_si, gA_sl, gA_sB, gA_sA_s, gA_sA_n, gB_si, gB_sl, gB_sA, gB_sB_s, gB_sB_n, Nat.reduceBEq, if_true, if_false, eq_self, Bool.false_eq_true, Bool.true_eq_false, not_true_eq_false, not_false_eq_true, decide_true, decide_false, cond_true, cond_false, Bool.true_and, Bool.false_and, Bool.and_true, Bool.and_false, Bool.true_or, Bool.false_or, Bool.or_true, Bool.or_false, b2i_tt, b2i_ff, pr_eta]; done))) (show (si fl 2 0) = (si fl 2 0) from (by first | with_reducible rfl | (simp only [gi_sl, gi_sA, gi_sB, gi_si_s, gi_si_n, gl_si, gl_sA, gl_sB, gl_sl_s, gl_sl_n, gA_si, gA_sl, gA_sB, gA_sA_s, gA_sA_n, gB_si, gB_sl, gB_sA, gB_sB_s, gB_sB_n, Nat.reduceBEq, if_true, if_false, eq_self, Bool.false_eq_true, Bool.true_eq_false, not_true_eq_false, not_false_eq_true, decide_true, decide_false, cond_true, cond_false, Bool.true_and, Bool.false_and, Bool.and_true, Bool.and_false, Bool.true_or, Bool.false_or, Bool.or_true, Bool.or_false, b2i_tt, b2i_ff, pr_eta]; done))) (show (si ra 2 0) = (si ra 2 0) from (by first | with_reducible rfl | (simp only [gi_sl, gi_sA, gi_sB, gi_si_s, gi_si_n, gl_si, gl_sA, gl_sB, gl_sl_s, gl_sl_n, gA_si, gA_sl, gA_sB, gA_sA_s, gA_sA_n, gB_si, gB_sl, gB_sA, gB_sB_s, gB_sB_n, Nat.reduceBEq, if_true, if_false, eq_self, Bool.false_eq_true, Bool.true_eq_false, not_true_eq_false, not_false_eq_true, decide_true, decide_false, cond_true, cond_false, Bool.true_and, Bool.false_and, Bool.and_true, Bool.and_false, Bool.true_or, Bool.false_or, Bool.or_true, Bool.or_false, b2i_tt, b2i_ff, pr_eta]; done))) (show (si li 1 0) = (si li 1 0) from (by first | with_reducible rfl | (simp only [gi_sl, gi_sA, gi_sB, gi_si_s, gi_si_n, gl_si, gl_sA, gl_sB, gl_sl_s, gl_sl_n, gA_si, gA_sl, gA_sB, gA_sA_s, gA_sA_n, gB_si, gB_sl, gB_sA, gB_sB_s, gB_sB_n, Nat.reduceBEq, if_true, if_false, eq_self, Bool.false_eq_true, Bool.true_eq_false, not_true_eq_false, not_false_eq_true, decide_true, decide_false, cond_true, cond_false, Bool.true_and, Bool.false_and, Bool.and_true, Bool.and_false, Bool.true_or, Bool.false_or, Bool.or_true, Bool.or_false, b2i_tt, b2i_ff, pr_eta]; done))) (show (si re 1 0) = (si re 1 0) from (by first | with_reducible rfl | (simp only [gi_sl, gi_sA, gi_sB, gi_si_s, gi_si_n, gl_si, gl_sA, gl_sB, gl_sl_s, gl_sl_n, gA_si, gA_sl, gA_sB, gA_sA_s, gA_sA_n, gB_si, gB_sl, gB_sA, gB_sB_s, gB_sB_n, Nat.reduceBEq, if_true, if_false, eq_self, Bool.false_eq_true, Bool.true_eq_false, not_true_eq_false, not_false_eq_true, decide_true, decide_false, cond_true, cond_false, Bool.true_and, Bool.false_and, Bool.and_true, Bool.and_false, Bool.true_or, Bool.false_or, Bool.or_true, Bool.or_false, b2i_tt, b2i_ff, pr_eta]; done))) rfl (show (si pi 3 0) = (si pi 3 0) from (by first | with_reducible rfl | (simp only [gi_sl, gi_sA, gi_sB, gi_si_s, gi_si_n, gl_si, gl_sA, gl_sB, gl_sl_s, gl_sl_n, gA_si, gA_sl, gA_sB, gA_sA_s, gA_sA_n, gB_si, gB_sl, gB_sA, gB_sB_s, gB_sB_n, Nat.reduceBEq, if_true, if_false, eq_self, Bool.false_eq_true, Bool.true_eq_false, not_true_eq_false, not_false_eq_true, decide_true, decide_false, cond_true, cond_false, Bool.true_and, Bool.false_and, Bool.and_true, Bool.and_false, Bool.true_or, Bool.false_or, Bool.or_true, Bool.or_false, b2i_tt, b2i_ff, pr_eta]; done)))⟩, ⟨by rw [ht]; exact hP, va_K.moved hW.alike hK, hD⟩⟩, hS.F ht⟩) hS.2.2 dX7_remove_24
