theorem dX3_isAhead_0 : decode cX3_isAhead 0 = .ok (.aload_n 0, 1) := by decide +kernel
theorem dX3_isAhead_1 : decode cX3_isAhead 1 = .ok (.getfield 34, 3) := by decide +kernel
theorem dX3_isAhead_4 : decode cX3_isAhead 4 = .ok (.iload_n 1, 1) := by decide +kernel
theorem dX3_isAhead_5 : decode cX3_isAhead 5 = .ok (.invokestatic 95, 3) := by decide +kernel
theorem dX3_isAhead_8 : decode cX3_isAhead 8 = .ok (.istore_n 3, 1) := by decide +kernel
theorem dX3_isAhead_9 : decode cX3_isAhead 9 = .ok (.aload_n 0, 1) := by decide +kernel
theorem dX3_isAhead_10 : decode cX3_isAhead 10 = .ok (.getfield 34, 3) := by decide +kernel
theorem dX3_isAhead_13 : decode cX3_isAhead 13 = .ok (.iload_n 2, 1) := by decide +kernel
theorem dX3_isAhead_14 : decode cX3_isAhead 14 = .ok (.invokestatic 95, 3) := by decide +kernel
theorem dX3_isAhead_17 : decode cX3_isAhead 17 = .ok (.istore 4, 2) := by decide +kernel
theorem dX3_isAhead_19 : decode cX3_isAhead 19 = .ok (.aload_n 0, 1) := by decide +kernel
theorem dX3_isAhead_20 : decode cX3_isAhead 20 = .ok (.getfield 40, 3) := by decide +kernel
theorem dX3_isAhead_23 : decode cX3_isAhead 23 = .ok (.iload_n 3, 1) := by decide +kernel
theorem dX3_isAhead_24 : decode cX3_isAhead 24 = .ok (.invokestatic 95, 3) := by decide +kernel
theorem dX3_isAhead_27 : decode cX3_isAhead 27 = .ok (.aload_n 0, 1) := by decide +kernel
theorem dX3_isAhead_28 : decode cX3_isAhead 28 = .ok (.getfield 43, 3) := by decide +kernel
theorem dX3_isAhead_31 : decode cX3_isAhead 31 = .ok (.iload 4, 2) := by decide +kernel
theorem dX3_isAhead_33 : decode cX3_isAhead 33 = .ok (.invokestatic 95, 3) := by decide +kernel
theorem dX3_isAhead_36 : decode cX3_isAhead 36 = .ok (.imul, 1) := by decide +kernel
theorem dX3_isAhead_37 : decode cX3_isAhead 37 = .ok (.aload_n 0, 1) := by decide +kernel
theorem dX3_isAhead_38 : decode cX3_isAhead 38 = .ok (.getfield 40, 3) := by decide +kernel
theorem dX3_isAhead_41 : decode cX3_isAhead 41 = .ok (.iload 4, 2) := by decide +kernel
theorem dX3_isAhead_43 : decode cX3_isAhead 43 = .ok (.invokestatic 95, 3) := by decide +kernel
theorem dX3_isAhead_46 : decode cX3_isAhead 46 = .ok (.aload_n 0, 1) := by decide +kernel
theorem dX3_isAhead_47 : decode cX3_isAhead 47 = .ok (.getfield 43, 3) := by decide +kernel
theorem dX3_isAhead_50 : decode cX3_isAhead 50 = .ok (.iload_n 3, 1) := by decide +kernel
theorem dX3_isAhead_51 : decode cX3_isAhead 51 = .ok (.invokestatic 95, 3) := by decide +kernel
theorem dX3_isAhead_54 : decode cX3_isAhead 54 = .ok (.imul, 1) := by decide +kernel
theorem dX3_isAhead_55 : decode cX3_isAhead 55 = .ok (.if_icmp .ge 7, 3) := by decide +kernel
theorem dX3_isAhead_58 : decode cX3_isAhead 58 = .ok (.iconst 1, 1) := by decide +kernel
theorem dX3_isAhead_59 : decode cX3_isAhead 59 = .ok (.goto 4, 3) := by decide +kernel
theorem dX3_isAhead_62 : decode cX3_isAhead 62 = .ok (.iconst 0, 1) := by decide +kernel
theorem dX3_isAhead_63 : decode cX3_isAhead 63 = .ok (.ireturn, 1) := by decide +kernel
theorem mw_292 : Cond.fieldLink RX3 40 "OrielChart$Picture" "sum" "[I" ∈ GW := gw_mem (inT2 _ (List.mem_of_getElem? (i := 23) rfl)) rfl
theorem mw_293 : Cond.fieldLink RX3 43 "OrielChart$Picture" "lines" "[I" ∈ GW := gw_mem (inT2 _ (List.mem_of_getElem? (i := 24) rfl)) rfl
set_option maxHeartbeats 4000000 in
set_option maxRecDepth 100000 in
theorem c_isAhead (l : Launch) (D : va_G) (cI cJ : ClassId) (ad : Nat → Nat) (co fl ra li re wa pi : Ob) (k1 : Int32) (k2 : Int32) : CT l D (TY cI cJ) yX3_isAhead (.code yX3_isAhead cX3_isAhead 5 (some Jvm.ClassFile.FieldType.boolean)) 1 0 0 (XW ad cI cJ co fl ra li re wa pi) [.ref (ad 6), .int k1, .int k2] (QI D (TY cI cJ) (fun r u => r = (b2i (isAhead pi k1 k2)) ∧ u = (XW ad cI cJ co fl ra li re wa pi))) := by
  refine ent (by decide) (Nat.le_of_ble_eq_true rfl) ?_
  intro p e s m below meth c ls A hx hb hr hg hown hml hlocks hnm hP hK hD hS hA hN hl
  have hl : lv_has ls 5 [(0, .ref (ad 6)), (1, .int k1), (2, .int k2)] := hl
  refine lv_aload_n hx hb dX3_isAhead_0 rfl (lv_at hl 0 rfl) ?_
  refine va_get (D := D) (ci := 3) (v := .ref (ad 39)) (C := RX3) (T := TX3) (N := 16) hx hb hg inGX3 hown hK hP 6 xo6 rfl 6 (by decide) (hg _ mw_255) (fun _ h9 => h9) xvX3_6 dX3_isAhead_1 ?_
  refine lv_iload_n hx hb dX3_isAhead_4 rfl (lv_at hl 1 rfl) ?_
  refine kI (rSN hx hb hml hown hg hN hK hP hD (c_at l D cI cJ (XW ad cI cJ co fl ra li re wa pi) 39 (ad 39) 1600 (gA pi 5) k1 (xg39 rfl) (by decide)) mw_84 nw_96 mw_85 mw_77 pd_X7_at ⟨Nat.le_of_ble_eq_true rfl, Nat.le_of_ble_eq_true rfl⟩ rfl hl.1 rfl (Nat.le_of_ble_eq_true rfl) dX3_isAhead_5 ⟨Nat.le_of_ble_eq_true rfl, Nat.le_of_ble_eq_true rfl⟩) hD hS hA (fun r_1 u_1 H locs hp hP hD hS => ?_)
  obtain ⟨er, eu⟩ := hp
  obtain rfl := er.symm
  obtain rfl := eu.symm
  refine lv_istore_n (lv' := [(3, .int (rd (gA pi 5) 1600 k1)), (0, .ref (ad 6)), (1, .int k1), (2, .int k2)]) hx hb dX3_isAhead_8 rfl hl (by decide) rfl (fun ls hl => ?_)
  refine lv_aload_n hx hb dX3_isAhead_9 rfl (lv_at hl 1 rfl) ?_
  refine va_get (D := D) (ci := 3) (v := .ref (ad 39)) (C := RX3) (T := TX3) (N := 16) hx hb hg inGX3 hown hK hP 6 xo6 rfl 6 (by decide) (hg _ mw_255) (fun _ h9 => h9) xvX3_6 dX3_isAhead_10 ?_
  refine lv_iload_n hx hb dX3_isAhead_13 rfl (lv_at hl 3 rfl) ?_
  refine kI (rSN hx hb hml hown hg hN hK hP hD (c_at l D cI cJ (XW ad cI cJ co fl ra li re wa pi) 39 (ad 39) 1600 (gA pi 5) k2 (xg39 rfl) (by decide)) mw_84 nw_96 mw_85 mw_77 pd_X7_at ⟨Nat.le_of_ble_eq_true rfl, Nat.le_of_ble_eq_true rfl⟩ rfl hl.1 rfl (Nat.le_of_ble_eq_true rfl) dX3_isAhead_14 ⟨Nat.le_of_ble_eq_true rfl, Nat.le_of_ble_eq_true rfl⟩) hD hS hA (fun r_2 u_2 H locs hp hP hD hS => ?_)
  obtain ⟨er, eu⟩ := hp
  obtain rfl := er.symm
  obtain rfl := eu.symm
  refine lv_istore (lv' := [(4, .int (rd (gA pi 5) 1600 k2)), (3, .int (rd (gA pi 5) 1600 k1)), (0, .ref (ad 6)), (1, .int k1), (2, .int k2)]) hx hb dX3_isAhead_17 hl (by decide) rfl (fun ls hl => ?_)
  refine lv_aload_n hx hb dX3_isAhead_19 rfl (lv_at hl 2 rfl) ?_
  refine va_get (D := D) (ci := 3) (v := .ref (ad 41)) (C := RX3) (T := TX3) (N := 16) hx hb hg inGX3 hown hK hP 6 xo6 rfl 8 (by decide) (hg _ mw_292) (fun _ h9 => h9) xvX3_8 dX3_isAhead_20 ?_
  refine lv_iload_n hx hb dX3_isAhead_23 rfl (lv_at hl 1 rfl) ?_
  refine kI (rSN hx hb hml hown hg hN hK hP hD (c_at l D cI cJ (XW ad cI cJ co fl ra li re wa pi) 41 (ad 41) 120 (gA pi 7) (rd (gA pi 5) 1600 k1) (xg41 rfl) (by decide)) mw_84 nw_96 mw_85 mw_77 pd_X7_at ⟨Nat.le_of_ble_eq_true rfl, Nat.le_of_ble_eq_true rfl⟩ rfl hl.1 rfl (Nat.le_of_ble_eq_true rfl) dX3_isAhead_24 ⟨Nat.le_of_ble_eq_true rfl, Nat.le_of_ble_eq_true rfl⟩) hD hS hA (fun r_3 u_3 H locs hp hP hD hS => ?_)
  obtain ⟨er, eu⟩ := hp
  obtain rfl := er.symm
  obtain rfl := eu.symm
  refine lv_aload_n hx hb dX3_isAhead_27 rfl (lv_at hl 2 rfl) ?_
  refine va_get (D := D) (ci := 3) (v := .ref (ad 42)) (C := RX3) (T := TX3) (N := 16) hx hb hg inGX3 hown hK hP 6 xo6 rfl 9 (by decide) (hg _ mw_293) (fun _ h9 => h9) xvX3_9 dX3_isAhead_28 ?_
  refine lv_iload hx hb dX3_isAhead_31 (lv_at hl 0 rfl) ?_
  refine kI (rSN hx hb hml hown hg hN hK hP hD (c_at l D cI cJ (XW ad cI cJ co fl ra li re wa pi) 42 (ad 42) 120 (gA pi 8) (rd (gA pi 5) 1600 k2) (xg42 rfl) (by decide)) mw_84 nw_96 mw_85 mw_77 pd_X7_at ⟨Nat.le_of_ble_eq_true rfl, Nat.le_of_ble_eq_true rfl⟩ rfl hl.1 rfl (Nat.le_of_ble_eq_true rfl) dX3_isAhead_33 ⟨Nat.le_of_ble_eq_true rfl, Nat.le_of_ble_eq_true rfl⟩) hD hS hA (fun r_4 u_4 H locs hp hP hD hS => ?_)
  obtain ⟨er, eu⟩ := hp
  obtain rfl := er.symm
  obtain rfl := eu.symm
  refine lv_imul hx hb dX3_isAhead_36 ?_
  refine lv_aload_n hx hb dX3_isAhead_37 rfl (lv_at hl 2 rfl) ?_
  refine va_get (D := D) (ci := 3) (v := .ref (ad 41)) (C := RX3) (T := TX3) (N := 16) hx hb hg inGX3 hown hK hP 6 xo6 rfl 8 (by decide) (hg _ mw_292) (fun _ h9 => h9) xvX3_8 dX3_isAhead_38 ?_
  refine lv_iload hx hb dX3_isAhead_41 (lv_at hl 0 rfl) ?_
  refine kI (rSN hx hb hml hown hg hN hK hP hD (c_at l D cI cJ (XW ad cI cJ co fl ra li re wa pi) 41 (ad 41) 120 (gA pi 7) (rd (gA pi 5) 1600 k2) (xg41 rfl) (by decide)) mw_84 nw_96 mw_85 mw_77 pd_X7_at ⟨Nat.le_of_ble_eq_true rfl, Nat.le_of_ble_eq_true rfl⟩ rfl hl.1 rfl (Nat.le_of_ble_eq_true rfl) dX3_isAhead_43 ⟨Nat.le_of_ble_eq_true rfl, Nat.le_of_ble_eq_true rfl⟩) hD hS hA (fun r_5 u_5 H locs hp hP hD hS => ?_)
  obtain ⟨er, eu⟩ := hp
  obtain rfl := er.symm
  obtain rfl := eu.symm
  refine lv_aload_n hx hb dX3_isAhead_46 rfl (lv_at hl 2 rfl) ?_
  refine va_get (D := D) (ci := 3) (v := .ref (ad 42)) (C := RX3) (T := TX3) (N := 16) hx hb hg inGX3 hown hK hP 6 xo6 rfl 9 (by decide) (hg _ mw_293) (fun _ h9 => h9) xvX3_9 dX3_isAhead_47 ?_
  refine lv_iload_n hx hb dX3_isAhead_50 rfl (lv_at hl 1 rfl) ?_
  refine kI (rSN hx hb hml hown hg hN hK hP hD (c_at l D cI cJ (XW ad cI cJ co fl ra li re wa pi) 42 (ad 42) 120 (gA pi 8) (rd (gA pi 5) 1600 k1) (xg42 rfl) (by decide)) mw_84 nw_96 mw_85 mw_77 pd_X7_at ⟨Nat.le_of_ble_eq_true rfl, Nat.le_of_ble_eq_true rfl⟩ rfl hl.1 rfl (Nat.le_of_ble_eq_true rfl) dX3_isAhead_51 ⟨Nat.le_of_ble_eq_true rfl, Nat.le_of_ble_eq_true rfl⟩) hD hS hA (fun r_6 u_6 H locs hp hP hD hS => ?_)
  obtain ⟨er, eu⟩ := hp
  obtain rfl := er.symm
  obtain rfl := eu.symm
  refine lv_imul hx hb dX3_isAhead_54 ?_
  refine lv_icmp_ge (tgt := 62) hx hb dX3_isAhead_55 (by decide) (fun c_55 => ?_) (fun c_55 => ?_)
  · have c_55 : ¬ ((rd (gA pi 7) 120 (rd (gA pi 5) 1600 k1)) * (rd (gA pi 8) 120 (rd (gA pi 5) 1600 k2))) < ((rd (gA pi 7) 120 (rd (gA pi 5) 1600 k2)) * (rd (gA pi 8) 120 (rd (gA pi 5) 1600 k1))) := i_ge c_55
    refine lv_iconst (v := 0) hx hb dX3_isAhead_62 (by decide) ?_
    exact W.zret (v := 0) hx hb hr rfl (fun t ht hW => ⟨⟨0, (XW ad cI cJ co fl ra li re wa pi), rfl, ⟨(show (0 : Int32) = (b2i (isAhead pi k1 k2)) from (by simp only [isAhead, eq_false c_55, gi_sl, gi_sA, gi_sB, gi_si_s, gi_si_n, gl_si, gl_sA, gl_sB, gl_sl_s, gl_sl_n, gA_si, gA_sl, gA_sB, gA_sA_s, gA_sA_n, gB_si, gB_sl, gB_sA, gB_sB_s, gB_sB_n, Nat.reduceBEq, if_true, if_false, eq_self, Bool.false_eq_true, Bool.true_eq_false, not_true_eq_false, not_false_eq_true, decide_true, decide_false, cond_true, cond_false, Bool.true_and, Bool.false_and, Bool.and_true, Bool.and_false, Bool.true_or, Bool.false_or, Bool.or_true, Bool.or_false, b2i_tt, b2i_ff, pr_eta]; done)), xw_eq rfl rfl rfl rfl rfl rfl rfl⟩, ⟨by rw [ht]; exact hP, va_K.moved hW.alike hK, hD⟩⟩, hS.F ht⟩) hS.2.2 dX3_isAhead_63
  · have c_55 : ((rd (gA pi 7) 120 (rd (gA pi 5) 1600 k1)) * (rd (gA pi 8) 120 (rd (gA pi 5) 1600 k2))) < ((rd (gA pi 7) 120 (rd (gA pi 5) 1600 k2)) * (rd (gA pi 8) 120 (rd (gA pi 5) 1600 k1))) := i_nge c_55
    refine lv_iconst (v := 1) hx hb dX3_isAhead_58 (by decide) ?_
    refine lv_goto (tgt := 63) hx hb dX3_isAhead_59 (by decide) ?_
    exact W.zret (v := 1) hx hb hr rfl (fun t ht hW => ⟨⟨1, (XW ad cI cJ co fl ra li re wa pi), rfl, ⟨(show (1 : Int32) = (b2i (isAhead pi k1 k2)) from (by simp only [isAhead, eq_true c_55, gi_sl, gi_sA, gi_sB, gi_si_s, gi_si_n, gl_si, gl_sA, gl_sB, gl_sl_s, gl_sl_n, gA_si, gA_sl, gA_sB, gA_sA_s, gA_sA_n, gB_si, gB_sl, gB_sA, gB_sB_s, gB_sB_n, Nat.reduceBEq, if_true, if_false, eq_self, Bool.false_eq_true, Bool.true_eq_false, not_true_eq_false, not_false_eq_true, decide_true, decide_false, cond_true, cond_false, Bool.true_and, Bool.false_and, Bool.and_true, Bool.and_false, Bool.true_or, Bool.false_or, Bool.or_true, Bool.or_false, b2i_tt, b2i_ff, pr_eta]; done)), xw_eq rfl rfl rfl rfl rfl rfl rfl⟩, ⟨by rw [ht]; exact hP, va_K.moved hW.alike hK, hD⟩⟩, hS.F ht⟩) hS.2.2 dX3_isAhead_63
