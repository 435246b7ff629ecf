theorem dX3_putPoint_0 : decode cX3_putPoint 0 = .ok (.aload_n 0, 1) := by decide +kernel
theorem dX3_putPoint_1 : decode cX3_putPoint 1 = .ok (.getfield 31, 3) := by decide +kernel
theorem dX3_putPoint_4 : decode cX3_putPoint 4 = .ok (.iload_n 2, 1) := by decide +kernel
theorem dX3_putPoint_5 : decode cX3_putPoint 5 = .ok (.iload_n 3, 1) := by decide +kernel
theorem dX3_putPoint_6 : decode cX3_putPoint 6 = .ok (.invokestatic 75, 3) := by decide +kernel
theorem dX3_putPoint_9 : decode cX3_putPoint 9 = .ok (.aload_n 0, 1) := by decide +kernel
theorem dX3_putPoint_10 : decode cX3_putPoint 10 = .ok (.getfield 34, 3) := by decide +kernel
theorem dX3_putPoint_13 : decode cX3_putPoint 13 = .ok (.iload_n 3, 1) := by decide +kernel
theorem dX3_putPoint_14 : decode cX3_putPoint 14 = .ok (.iload_n 2, 1) := by decide +kernel
theorem dX3_putPoint_15 : decode cX3_putPoint 15 = .ok (.aload_n 0, 1) := by decide +kernel
theorem dX3_putPoint_16 : decode cX3_putPoint 16 = .ok (.getfield 22, 3) := by decide +kernel
theorem dX3_putPoint_19 : decode cX3_putPoint 19 = .ok (.iload_n 1, 1) := by decide +kernel
theorem dX3_putPoint_20 : decode cX3_putPoint 20 = .ok (.invokestatic 95, 3) := by decide +kernel
theorem dX3_putPoint_23 : decode cX3_putPoint 23 = .ok (.isub, 1) := by decide +kernel
theorem dX3_putPoint_24 : decode cX3_putPoint 24 = .ok (.invokestatic 75, 3) := by decide +kernel
theorem dX3_putPoint_27 : decode cX3_putPoint 27 = .ok (.return_, 1) := by decide +kernel
theorem mw_254 : Cond.fieldLink RX3 31 "OrielChart$Picture" "order" "[I" ∈ GW := gw_mem (inT2 _ (List.mem_of_getElem? (i := 20) rfl)) rfl
theorem mw_255 : Cond.fieldLink RX3 34 "OrielChart$Picture" "place" "[I" ∈ GW := gw_mem (inT2 _ (List.mem_of_getElem? (i := 21) rfl)) rfl
theorem mw_256 : Cond.fieldLink RX3 22 "OrielChart$Picture" "start" "[I" ∈ GW := gw_mem (inT2 _ (List.mem_of_getElem? (i := 17) rfl)) rfl
set_option maxHeartbeats 4000000 in
set_option maxRecDepth 100000 in
theorem c_putPoint (l : Launch) (D : va_G) (cI cJ : ClassId) (ad : Nat → Nat) (co fl ra li re wa pi : Ob) (k1 : Int32) (k2 : Int32) (k3 : Int32) : CT l D (TY cI cJ) yX3_putPoint (.code yX3_putPoint cX3_putPoint 4 (none : Option FieldType)) 1 0 0 (XW ad cI cJ co fl ra li re wa pi) [.ref (ad 6), .int k1, .int k2, .int k3] (QV D (TY cI cJ) (fun u => u = (XW ad cI cJ co fl ra li re wa (putPoint pi k1 k2 k3)))) := by
  refine ent (by decide) (Nat.le_of_ble_eq_true rfl) ?_
  intro p e s m below meth c ls A hx hb hr hg hown hml hlocks hnm hP hK hD hS hA hN hl
  have hl : lv_has ls 4 [(0, .ref (ad 6)), (1, .int k1), (2, .int k2), (3, .int k3)] := hl
  refine lv_aload_n hx hb dX3_putPoint_0 rfl (lv_at hl 0 rfl) ?_
  refine va_get (D := D) (ci := 3) (v := .ref (ad 38)) (C := RX3) (T := TX3) (N := 16) hx hb hg inGX3 hown hK hP 6 xo6 rfl 5 (by decide) (hg _ mw_254) (fun _ h9 => h9) xvX3_5 dX3_putPoint_1 ?_
  refine lv_iload_n hx hb dX3_putPoint_4 rfl (lv_at hl 2 rfl) ?_
  refine lv_iload_n hx hb dX3_putPoint_5 rfl (lv_at hl 3 rfl) ?_
  refine kV (rSN hx hb hml hown hg hN hK hP hD (c_put l D cI cJ (XW ad cI cJ co fl ra li re wa pi) 38 (ad 38) 1600 (gA pi 4) k2 k3 (xg38 rfl) (by decide)) mw_92 nw_95 mw_93 mw_77 pd_X7_put ⟨Nat.le_of_ble_eq_true rfl, Nat.le_of_ble_eq_true rfl⟩ rfl hl.1 rfl (Nat.le_of_ble_eq_true rfl) dX3_putPoint_6 ⟨Nat.le_of_ble_eq_true rfl, Nat.le_of_ble_eq_true rfl⟩) hD hS hA (fun u_1 H locs hp hP hD hS => ?_)
  obtain rfl := hp.symm
  have hP : va_P D vwCl (XW ad cI cJ co fl ra li re wa (sA pi 4 (wr (gA pi 4) 1600 k2 k3))) H := cgP xs38 hP
  have hD : va_D A (XW ad cI cJ co fl ra li re wa (sA pi 4 (wr (gA pi 4) 1600 k2 k3))) := cgD xs38 hD
  refine lv_aload_n hx hb dX3_putPoint_9 rfl (lv_at hl 0 rfl) ?_
  refine va_get (D := D) (ci := 3) (v := .ref (ad 39)) (C := RX3) (T := TX3) (N := 16) hx hb hg inGX3 hown hK hP 6 xo6 rfl 6 (by decide) (hg _ mw_255) (fun _ h9 => h9) xvX3_6 dX3_putPoint_10 ?_
  refine lv_iload_n hx hb dX3_putPoint_13 rfl (lv_at hl 3 rfl) ?_
  refine lv_iload_n hx hb dX3_putPoint_14 rfl (lv_at hl 2 rfl) ?_
  refine lv_aload_n hx hb dX3_putPoint_15 rfl (lv_at hl 0 rfl) ?_
  refine va_get (D := D) (ci := 3) (v := .ref (ad 35)) (C := RX3) (T := TX3) (N := 16) hx hb hg inGX3 hown hK hP 6 xo6 rfl 2 (by decide) (hg _ mw_256) (fun _ h9 => h9) xvX3_2 dX3_putPoint_16 ?_
  refine lv_iload_n hx hb dX3_putPoint_19 rfl (lv_at hl 1 rfl) ?_
  refine kI (rSN hx hb hml hown hg hN hK hP hD (c_at l D cI cJ (XW ad cI cJ co fl ra li re wa (sA pi 4 (wr (gA pi 4) 1600 k2 k3))) 35 (ad 35) 41 (gA pi 1) k1 (xg35 (by simp only [gi_sl, gi_sA, gi_sB, gi_si_s, gi_si_n, gl_si, gl_sA, gl_sB, gl_sl_s, gl_sl_n, gA_si, gA_sl, gA_sB, gA_sA_s, gA_sA_n, gB_si, gB_sl, gB_sA, gB_sB_s, gB_sB_n, Nat.reduceBEq])) (by decide)) mw_84 nw_96 mw_85 mw_77 pd_X7_at ⟨Nat.le_of_ble_eq_true rfl, Nat.le_of_ble_eq_true rfl⟩ rfl hl.1 rfl (Nat.le_of_ble_eq_true rfl) dX3_putPoint_20 ⟨Nat.le_of_ble_eq_true rfl, Nat.le_of_ble_eq_true rfl⟩) hD hS hA (fun r_2 u_2 H locs hp hP hD hS => ?_)
  obtain ⟨er, eu⟩ := hp
  obtain rfl := er.symm
  obtain rfl := eu.symm
  refine lv_isub hx hb dX3_putPoint_23 ?_
  refine kV (rSN hx hb hml hown hg hN hK hP hD (c_put l D cI cJ (XW ad cI cJ co fl ra li re wa (sA pi 4 (wr (gA pi 4) 1600 k2 k3))) 39 (ad 39) 1600 (gA pi 5) k3 (k2 - (rd (gA pi 1) 41 k1)) (xg39 (by simp only [gi_sl, gi_sA, gi_sB, gi_si_s, gi_si_n, gl_si, gl_sA, gl_sB, gl_sl_s, gl_sl_n, gA_si, gA_sl, gA_sB, gA_sA_s, gA_sA_n, gB_si, gB_sl, gB_sA, gB_sB_s, gB_sB_n, Nat.reduceBEq])) (by decide)) mw_92 nw_95 mw_93 mw_77 pd_X7_put ⟨Nat.le_of_ble_eq_true rfl, Nat.le_of_ble_eq_true rfl⟩ rfl hl.1 rfl (Nat.le_of_ble_eq_true rfl) dX3_putPoint_24 ⟨Nat.le_of_ble_eq_true rfl, Nat.le_of_ble_eq_true rfl⟩) hD hS hA (fun u_3 H locs hp hP hD hS => ?_)
  obtain rfl := hp.symm
  have hP : va_P D vwCl (XW ad cI cJ co fl ra li re wa (sA (sA pi 4 (wr (gA pi 4) 1600 k2 k3)) 5 (wr (gA pi 5) 1600 k3 (k2 - (rd (gA pi 1) 41 k1))))) H := cgP xs39 hP
  have hD : va_D A (XW ad cI cJ co fl ra li re wa (sA (sA pi 4 (wr (gA pi 4) 1600 k2 k3)) 5 (wr (gA pi 5) 1600 k3 (k2 - (rd (gA pi 1) 41 k1))))) := cgD xs39 hD
  exact W.vret hx hb hr (fun t ht hW => ⟨⟨(XW ad cI cJ co fl ra li re wa (sA (sA pi 4 (wr (gA pi 4) 1600 k2 k3)) 5 (wr (gA pi 5) 1600 k3 (k2 - (rd (gA pi 1) 41 k1))))), rfl, xw_eq rfl rfl rfl rfl rfl rfl (show (sA (sA pi 4 (wr (gA pi 4) 1600 k2 k3)) 5 (wr (gA pi 5) 1600 k3 (k2 - (rd (gA pi 1) 41 k1)))) = (putPoint pi k1 k2 k3) from (by first | with_reducible rfl | (simp only [putPoint, gi_sl, gi_sA, gi_sB, gi_si_s, gi_si_n, gl_si, gl_sA, gl_sB, gl_sl_s, gl_sl_n, gA_si, gA_sl, gA_sB, gA_sA_s, gA_sA_n, gB_si, gB_sl, gB_sA, gB_sB_s, gB_sB_n, Nat.reduceBEq, if_true, if_false, eq_self, Bool.false_eq_true, Bool.true_eq_false, not_true_eq_false, not_false_eq_true, decide_true, decide_false, cond_true, cond_false, Bool.true_and, Bool.false_and, Bool.and_true, Bool.and_false, Bool.true_or, Bool.false_or, Bool.or_true, Bool.or_false, b2i_tt, b2i_ff, pr_eta]; done))), ⟨by rw [ht]; exact hP, va_K.moved hW.alike hK, hD⟩⟩, hS.F ht⟩) hS.2.2 dX3_putPoint_27
