theorem dX0_copy_0 : decode cX0_copy 0 = .ok (.aload_n 0, 1) := by decide +kernel
theorem dX0_copy_1 : decode cX0_copy 1 = .ok (.getfield 9, 3) := by decide +kernel
theorem dX0_copy_4 : decode cX0_copy 4 = .ok (.iload_n 2, 1) := by decide +kernel
theorem dX0_copy_5 : decode cX0_copy 5 = .ok (.aload_n 0, 1) := by decide +kernel
theorem dX0_copy_6 : decode cX0_copy 6 = .ok (.getfield 9, 3) := by decide +kernel
theorem dX0_copy_9 : decode cX0_copy 9 = .ok (.iload_n 1, 1) := by decide +kernel
theorem dX0_copy_10 : decode cX0_copy 10 = .ok (.invokestatic 39, 3) := by decide +kernel
theorem dX0_copy_13 : decode cX0_copy 13 = .ok (.invokestatic 35, 3) := by decide +kernel
theorem dX0_copy_16 : decode cX0_copy 16 = .ok (.aload_n 0, 1) := by decide +kernel
theorem dX0_copy_17 : decode cX0_copy 17 = .ok (.getfield 15, 3) := by decide +kernel
theorem dX0_copy_20 : decode cX0_copy 20 = .ok (.iload_n 2, 1) := by decide +kernel
theorem dX0_copy_21 : decode cX0_copy 21 = .ok (.aload_n 0, 1) := by decide +kernel
theorem dX0_copy_22 : decode cX0_copy 22 = .ok (.getfield 15, 3) := by decide +kernel
theorem dX0_copy_25 : decode cX0_copy 25 = .ok (.iload_n 1, 1) := by decide +kernel
theorem dX0_copy_26 : decode cX0_copy 26 = .ok (.invokestatic 39, 3) := by decide +kernel
theorem dX0_copy_29 : decode cX0_copy 29 = .ok (.invokestatic 35, 3) := by decide +kernel
theorem dX0_copy_32 : decode cX0_copy 32 = .ok (.aload_n 0, 1) := by decide +kernel
theorem dX0_copy_33 : decode cX0_copy 33 = .ok (.getfield 18, 3) := by decide +kernel
theorem dX0_copy_36 : decode cX0_copy 36 = .ok (.iload_n 2, 1) := by decide +kernel
theorem dX0_copy_37 : decode cX0_copy 37 = .ok (.aload_n 0, 1) := by decide +kernel
theorem dX0_copy_38 : decode cX0_copy 38 = .ok (.getfield 18, 3) := by decide +kernel
theorem dX0_copy_41 : decode cX0_copy 41 = .ok (.iload_n 1, 1) := by decide +kernel
theorem dX0_copy_42 : decode cX0_copy 42 = .ok (.invokestatic 39, 3) := by decide +kernel
theorem dX0_copy_45 : decode cX0_copy 45 = .ok (.invokestatic 35, 3) := by decide +kernel
theorem dX0_copy_48 : decode cX0_copy 48 = .ok (.aload_n 0, 1) := by decide +kernel
theorem dX0_copy_49 : decode cX0_copy 49 = .ok (.getfield 21, 3) := by decide +kernel
theorem dX0_copy_52 : decode cX0_copy 52 = .ok (.iload_n 2, 1) := by decide +kernel
theorem dX0_copy_53 : decode cX0_copy 53 = .ok (.aload_n 0, 1) := by decide +kernel
theorem dX0_copy_54 : decode cX0_copy 54 = .ok (.getfield 21, 3) := by decide +kernel
theorem dX0_copy_57 : decode cX0_copy 57 = .ok (.iload_n 1, 1) := by decide +kernel
theorem dX0_copy_58 : decode cX0_copy 58 = .ok (.invokestatic 39, 3) := by decide +kernel
theorem dX0_copy_61 : decode cX0_copy 61 = .ok (.invokestatic 35, 3) := by decide +kernel
theorem dX0_copy_64 : decode cX0_copy 64 = .ok (.return_, 1) := by decide +kernel
theorem mw_355 : Cond.fieldLink RX0 9 "OrielChart$Code" "kind" "[I" ∈ GW := gw_mem (inT1 _ (List.mem_of_getElem? (i := 31) rfl)) rfl
theorem mw_356 : Cond.fieldLink RX0 18 "OrielChart$Code" "sets" "[I" ∈ GW := gw_mem (inT1 _ (List.mem_of_getElem? (i := 37) rfl)) rfl
theorem mw_357 : Cond.fieldLink RX0 21 "OrielChart$Code" "uses" "[I" ∈ GW := gw_mem (inT1 _ (List.mem_of_getElem? (i := 40) rfl)) rfl
set_option maxHeartbeats 4000000 in
set_option maxRecDepth 100000 in
theorem c_copy (l : Launch) (D : va_G) (cI cJ : ClassId) (ad : Nat → Nat) (co fl ra li re wa pi : Ob) (k1 : Int32) (k2 : Int32) : CT l D (TY cI cJ) yX0_copy (.code yX0_copy cX0_copy 3 (none : Option FieldType)) 1 0 0 (XW ad cI cJ co fl ra li re wa pi) [.ref (ad 1), .int k1, .int k2] (QV D (TY cI cJ) (fun u => u = (XW ad cI cJ (coCopy co k1 k2) fl ra li re wa pi))) := by
  refine ent (by decide) (Nat.le_of_ble_eq_true rfl) ?_
  intro p e s m below meth c ls A hx hb hr hg hown hml hlocks hnm hP hK hD hS hA hN hl
  have hl : lv_has ls 3 [(0, .ref (ad 1)), (1, .int k1), (2, .int k2)] := hl
  refine lv_aload_n hx hb dX0_copy_0 rfl (lv_at hl 0 rfl) ?_
  refine va_get (D := D) (ci := 0) (v := .ref (ad 8)) (C := RX0) (T := TX0) (N := 5) hx hb hg inGX0 hown hK hP 1 xo1 rfl 0 (by decide) (hg _ mw_355) (fun _ h9 => h9) xvX0_0 dX0_copy_1 ?_
  refine lv_iload_n hx hb dX0_copy_4 rfl (lv_at hl 2 rfl) ?_
  refine lv_aload_n hx hb dX0_copy_5 rfl (lv_at hl 0 rfl) ?_
  refine va_get (D := D) (ci := 0) (v := .ref (ad 8)) (C := RX0) (T := TX0) (N := 5) hx hb hg inGX0 hown hK hP 1 xo1 rfl 0 (by decide) (hg _ mw_355) (fun _ h9 => h9) xvX0_0 dX0_copy_6 ?_
  refine lv_iload_n hx hb dX0_copy_9 rfl (lv_at hl 1 rfl) ?_
  refine kI (rSN hx hb hml hown hg hN hK hP hD (c_at l D cI cJ (XW ad cI cJ co fl ra li re wa pi) 8 (ad 8) 40 (gA co 0) k1 (xg8 rfl) (by decide)) mw_84 nw_97 mw_85 mw_77 pd_X7_at ⟨Nat.le_of_ble_eq_true rfl, Nat.le_of_ble_eq_true rfl⟩ rfl hl.1 rfl (Nat.le_of_ble_eq_true rfl) dX0_copy_10 ⟨Nat.le_of_ble_eq_true rfl, Nat.le_of_ble_eq_true rfl⟩) hD hS hA (fun r_1 u_1 H locs hp hP hD hS => ?_)
  obtain ⟨er, eu⟩ := hp
  obtain rfl := er.symm
  obtain rfl := eu.symm
  refine kV (rSN hx hb hml hown hg hN hK hP hD (c_put l D cI cJ (XW ad cI cJ co fl ra li re wa pi) 8 (ad 8) 40 (gA co 0) k2 (rd (gA co 0) 40 k1) (xg8 rfl) (by decide)) mw_92 nw_98 mw_93 mw_77 pd_X7_put ⟨Nat.le_of_ble_eq_true rfl, Nat.le_of_ble_eq_true rfl⟩ rfl hl.1 rfl (Nat.le_of_ble_eq_true rfl) dX0_copy_13 ⟨Nat.le_of_ble_eq_true rfl, Nat.le_of_ble_eq_true rfl⟩) hD hS hA (fun u_2 H locs hp hP hD hS => ?_)
  obtain rfl := hp.symm
  have hP : va_P D vwCl (XW ad cI cJ (sA co 0 (wr (gA co 0) 40 k2 (rd (gA co 0) 40 k1))) fl ra li re wa pi) H := cgP xs8 hP
  have hD : va_D A (XW ad cI cJ (sA co 0 (wr (gA co 0) 40 k2 (rd (gA co 0) 40 k1))) fl ra li re wa pi) := cgD xs8 hD
  refine lv_aload_n hx hb dX0_copy_16 rfl (lv_at hl 0 rfl) ?_
  refine va_get (D := D) (ci := 0) (v := .ref (ad 9)) (C := RX0) (T := TX0) (N := 5) hx hb hg inGX0 hown hK hP 1 xo1 rfl 1 (by decide) (hg _ mw_353) (fun _ h9 => h9) xvX0_1 dX0_copy_17 ?_
  refine lv_iload_n hx hb dX0_copy_20 rfl (lv_at hl 2 rfl) ?_
  refine lv_aload_n hx hb dX0_copy_21 rfl (lv_at hl 0 rfl) ?_
  refine va_get (D := D) (ci := 0) (v := .ref (ad 9)) (C := RX0) (T := TX0) (N := 5) hx hb hg inGX0 hown hK hP 1 xo1 rfl 1 (by decide) (hg _ mw_353) (fun _ h9 => h9) xvX0_1 dX0_copy_22 ?_
  refine lv_iload_n hx hb dX0_copy_25 rfl (lv_at hl 1 rfl) ?_
  refine kI (rSN hx hb hml hown hg hN hK hP hD (c_at l D cI cJ (XW ad cI cJ (sA co 0 (wr (gA co 0) 40 k2 (rd (gA co 0) 40 k1))) fl ra li re wa pi) 9 (ad 9) 40 (gA co 1) k1 (xg9 (by simp only [gi_sl, gi_sA, gi_sB, gi_si_s, gi_si_n, gl_si, gl_sA, gl_sB, gl_sl_s, gl_sl_n, gA_si, gA_sl, gA_sB, gA_sA_s, gA_sA_n, gB_si, gB_sl, gB_sA, gB_sB_s, gB_sB_n, Nat.reduceBEq])) (by decide)) mw_84 nw_97 mw_85 mw_77 pd_X7_at ⟨Nat.le_of_ble_eq_true rfl, Nat.le_of_ble_eq_true rfl⟩ rfl hl.1 rfl (Nat.le_of_ble_eq_true rfl) dX0_copy_26 ⟨Nat.le_of_ble_eq_true rfl, Nat.le_of_ble_eq_true rfl⟩) hD hS hA (fun r_3 u_3 H locs hp hP hD hS => ?_)
  obtain ⟨er, eu⟩ := hp
  obtain rfl := er.symm
  obtain rfl := eu.symm
  refine kV (rSN hx hb hml hown hg hN hK hP hD (c_put l D cI cJ (XW ad cI cJ (sA co 0 (wr (gA co 0) 40 k2 (rd (gA co 0) 40 k1))) fl ra li re wa pi) 9 (ad 9) 40 (gA co 1) k2 (rd (gA co 1) 40 k1) (xg9 (by simp only [gi_sl, gi_sA, gi_sB, gi_si_s, gi_si_n, gl_si, gl_sA, gl_sB, gl_sl_s, gl_sl_n, gA_si, gA_sl, gA_sB, gA_sA_s, gA_sA_n, gB_si, gB_sl, gB_sA, gB_sB_s, gB_sB_n, Nat.reduceBEq])) (by decide)) mw_92 nw_98 mw_93 mw_77 pd_X7_put ⟨Nat.le_of_ble_eq_true rfl, Nat.le_of_ble_eq_true rfl⟩ rfl hl.1 rfl (Nat.le_of_ble_eq_true rfl) dX0_copy_29 ⟨Nat.le_of_ble_eq_true rfl, Nat.le_of_ble_eq_true rfl⟩) hD hS hA (fun u_4 H locs hp hP hD hS => ?_)
  obtain rfl := hp.symm
  have hP : va_P D vwCl (XW ad cI cJ (sA (sA co 0 (wr (gA co 0) 40 k2 (rd (gA co 0) 40 k1))) 1 (wr (gA co 1) 40 k2 (rd (gA co 1) 40 k1))) fl ra li re wa pi) H := cgP xs9 hP
  have hD : va_D A (XW ad cI cJ (sA (sA co 0 (wr (gA co 0) 40 k2 (rd (gA co 0) 40 k1))) 1 (wr (gA co 1) 40 k2 (rd (gA co 1) 40 k1))) fl ra li re wa pi) := cgD xs9 hD
  refine lv_aload_n hx hb dX0_copy_32 rfl (lv_at hl 0 rfl) ?_
  refine va_get (D := D) (ci := 0) (v := .ref (ad 10)) (C := RX0) (T := TX0) (N := 5) hx hb hg inGX0 hown hK hP 1 xo1 rfl 2 (by decide) (hg _ mw_356) (fun _ h9 => h9) xvX0_2 dX0_copy_33 ?_
  refine lv_iload_n hx hb dX0_copy_36 rfl (lv_at hl 2 rfl) ?_
  refine lv_aload_n hx hb dX0_copy_37 rfl (lv_at hl 0 rfl) ?_
  refine va_get (D := D) (ci := 0) (v := .ref (ad 10)) (C := RX0) (T := TX0) (N := 5) hx hb hg inGX0 hown hK hP 1 xo1 rfl 2 (by decide) (hg _ mw_356) (fun _ h9 => h9) xvX0_2 dX0_copy_38 ?_
  refine lv_iload_n hx hb dX0_copy_41 rfl (lv_at hl 1 rfl) ?_
  refine kI (rSN hx hb hml hown hg hN hK hP hD (c_at l D cI cJ (XW ad cI cJ (sA (sA co 0 (wr (gA co 0) 40 k2 (rd (gA co 0) 40 k1))) 1 (wr (gA co 1) 40 k2 (rd (gA co 1) 40 k1))) fl ra li re wa pi) 10 (ad 10) 40 (gA co 2) k1 (xg10 (by simp only [gi_sl, gi_sA, gi_sB, gi_si_s, gi_si_n, gl_si, gl_sA, gl_sB, gl_sl_s, gl_sl_n, gA_si, gA_sl, gA_sB, gA_sA_s, gA_sA_n, gB_si, gB_sl, gB_sA, gB_sB_s, gB_sB_n, Nat.reduceBEq])) (by decide)) mw_84 nw_97 mw_85 mw_77 pd_X7_at ⟨Nat.le_of_ble_eq_true rfl, Nat.le_of_ble_eq_true rfl⟩ rfl hl.1 rfl (Nat.le_of_ble_eq_true rfl) dX0_copy_42 ⟨Nat.le_of_ble_eq_true rfl, Nat.le_of_ble_eq_true rfl⟩) hD hS hA (fun r_5 u_5 H locs hp hP hD hS => ?_)
  obtain ⟨er, eu⟩ := hp
  obtain rfl := er.symm
  obtain rfl := eu.symm
  refine kV (rSN hx hb hml hown hg hN hK hP hD (c_put l D cI cJ (XW ad cI cJ (sA (sA co 0 (wr (gA co 0) 40 k2 (rd (gA co 0) 40 k1))) 1 (wr (gA co 1) 40 k2 (rd (gA co 1) 40 k1))) fl ra li re wa pi) 10 (ad 10) 40 (gA co 2) k2 (rd (gA co 2) 40 k1) (xg10 (by simp only [gi_sl, gi_sA, gi_sB, gi_si_s, gi_si_n, gl_si, gl_sA, gl_sB, gl_sl_s, gl_sl_n, gA_si, gA_sl, gA_sB, gA_sA_s, gA_sA_n, gB_si, gB_sl, gB_sA, gB_sB_s, gB_sB_n, Nat.reduceBEq])) (by decide)) mw_92 nw_98 mw_93 mw_77 pd_X7_put ⟨Nat.le_of_ble_eq_true rfl, Nat.le_of_ble_eq_true rfl⟩ rfl hl.1 rfl (Nat.le_of_ble_eq_true rfl) dX0_copy_45 ⟨Nat.le_of_ble_eq_true rfl, Nat.le_of_ble_eq_true rfl⟩) hD hS hA (fun u_6 H locs hp hP hD hS => ?_)
  obtain rfl := hp.symm
  have hP : va_P D vwCl (XW ad cI cJ (sA (sA (sA co 0 (wr (gA co 0) 40 k2 (rd (gA co 0) 40 k1))) 1 (wr (gA co 1) 40 k2 (rd (gA co 1) 40 k1))) 2 (wr (gA co 2) 40 k2 (rd (gA co 2) 40 k1))) fl ra li re wa pi) H := cgP xs10 hP
  have hD : va_D A (XW ad cI cJ (sA (sA (sA co 0 (wr (gA co 0) 40 k2 (rd (gA co 0) 40 k1))) 1 (wr (gA co 1) 40 k2 (rd (gA co 1) 40 k1))) 2 (wr (gA co 2) 40 k2 (rd (gA co 2) 40 k1))) fl ra li re wa pi) := cgD xs10 hD
  refine lv_aload_n hx hb dX0_copy_48 rfl (lv_at hl 0 rfl) ?_
  refine va_get (D := D) (ci := 0) (v := .ref (ad 11)) (C := RX0) (T := TX0) (N := 5) hx hb hg inGX0 hown hK hP 1 xo1 rfl 3 (by decide) (hg _ mw_357) (fun _ h9 => h9) xvX0_3 dX0_copy_49 ?_
  refine lv_iload_n hx hb dX0_copy_52 rfl (lv_at hl 2 rfl) ?_
  refine lv_aload_n hx hb dX0_copy_53 rfl (lv_at hl 0 rfl) ?_
  refine va_get (D := D) (ci := 0) (v := .ref (ad 11)) (C := RX0) (T := TX0) (N := 5) hx hb hg inGX0 hown hK hP 1 xo1 rfl 3 (by decide) (hg _ mw_357) (fun _ h9 => h9) xvX0_3 dX0_copy_54 ?_
  refine lv_iload_n hx hb dX0_copy_57 rfl (lv_at hl 1 rfl) ?_
  refine kI (rSN hx hb hml hown hg hN hK hP hD (c_at l D cI cJ (XW ad cI cJ (sA (sA (sA co 0 (wr (gA co 0) 40 k2 (rd (gA co 0) 40 k1))) 1 (wr (gA co 1) 40 k2 (rd (gA co 1) 40 k1))) 2 (wr (gA co 2) 40 k2 (rd (gA co 2) 40 k1))) fl ra li re wa pi) 11 (ad 11) 40 (gA co 3) k1 (xg11 (by simp only [gi_sl, gi_sA, gi_sB, gi_si_s, gi_si_n, gl_si, gl_sA, gl_sB, gl_sl_s, gl_sl_n, gA_si, gA_sl, gA_sB, gA_sA_s, gA_sA_n, gB_si, gB_sl, gB_sA, gB_sB_s, gB_sB_n, Nat.reduceBEq])) (by decide)) mw_84 nw_97 mw_85 mw_77 pd_X7_at ⟨Nat.le_of_ble_eq_true rfl, Nat.le_of_ble_eq_true rfl⟩ rfl hl.1 rfl (Nat.le_of_ble_eq_true rfl) dX0_copy_58 ⟨Nat.le_of_ble_eq_true rfl, Nat.le_of_ble_eq_true rfl⟩) hD hS hA (fun r_7 u_7 H locs hp hP hD hS => ?_)
  obtain ⟨er, eu⟩ := hp
  obtain rfl := er.symm
  obtain rfl := eu.symm
  refine kV (rSN hx hb hml hown hg hN hK hP hD (c_put l D cI cJ (XW ad cI cJ (sA (sA (sA co 0 (wr (gA co 0) 40 k2 (rd (gA co 0) 40 k1))) 1 (wr (gA co 1) 40 k2 (rd (gA co 1) 40 k1))) 2 (wr (gA co 2) 40 k2 (rd (gA co 2) 40 k1))) fl ra li re wa pi) 11 (ad 11) 40 (gA co 3) k2 (rd (gA co 3) 40 k1) (xg11 (by simp only [gi_sl, gi_sA, gi_sB, gi_si_s, gi_si_n, gl_si, gl_sA, gl_sB, gl_sl_s, gl_sl_n, gA_si, gA_sl, gA_sB, gA_sA_s, gA_sA_n, gB_si, gB_sl, gB_sA, gB_sB_s, gB_sB_n, Nat.reduceBEq])) (by decide)) mw_92 nw_98 mw_93 mw_77 pd_X7_put ⟨Nat.le_of_ble_eq_true rfl, Nat.le_of_ble_eq_true rfl⟩ rfl hl.1 rfl (Nat.le_of_ble_eq_true rfl) dX0_copy_61 ⟨Nat.le_of_ble_eq_true rfl, Nat.le_of_ble_eq_true rfl⟩) hD hS hA (fun u_8 H locs hp hP hD hS => ?_)
  obtain rfl := hp.symm
  have hP : va_P D vwCl (XW ad cI cJ (sA (sA (sA (sA co 0 (wr (gA co 0) 40 k2 (rd (gA co 0) 40 k1))) 1 (wr (gA co 1) 40 k2 (rd (gA co 1) 40 k1))) 2 (wr (gA co 2) 40 k2 (rd (gA co 2) 40 k1))) 3 (wr (gA co 3) 40 k2 (rd (gA co 3) 40 k1))) fl ra li re wa pi) H := cgP xs11 hP
  have hD : va_D A (XW ad cI cJ (sA (sA (sA (sA co 0 (wr (gA co 0) 40 k2 (rd (gA co 0) 40 k1))) 1 (wr (gA co 1) 40 k2 (rd (gA co 1) 40 k1))) 2 (wr (gA co 2) 40 k2 (rd (gA co 2) 40 k1))) 3 (wr (gA co 3) 40 k2 (rd (gA co 3) 40 k1))) fl ra li re wa pi) := cgD xs11 hD
  exact W.vret hx hb hr (fun t ht hW => ⟨⟨(XW ad cI cJ (sA (sA (sA (sA co 0 (wr (gA co 0) 40 k2 (rd (gA co 0) 40 k1))) 1 (wr (gA co 1) 40 k2 (rd (gA co 1) 40 k1))) 2 (wr (gA co 2) 40 k2 (rd (gA co 2) 40 k1))) 3 (wr (gA co 3) 40 k2 (rd (gA co 3) 40 k1))) fl ra li re wa pi), rfl, xw_eq (show (sA (sA (sA (sA co 0 (wr (gA co 0) 40 k2 (rd (gA co 0) 40 k1))) 1 (wr (gA co 1) 40 k2 (rd (gA co 1) 40 k1))) 2 (wr (gA co 2) 40 k2 (rd (gA co 2) 40 k1))) 3 (wr (gA co 3) 40 k2 (rd (gA co 3) 40 k1))) = (coCopy co k1 k2) from (by first | with_reducible rfl | (simp only [coCopy, gi_sl, gi_sA, gi_sB, gi_si_s, gi_si_n, gl_si, gl_sA, gl_sB, gl_sl_s, gl_sl_n, gA_si, gA_sl, gA_sB, gA_sA_s, gA_sA_n, gB_si, gB_sl, gB_sA, gB_sB_s, gB_sB_n, Nat.reduceBEq, if_true, if_false, eq_self, Bool.false_eq_true, Bool.true_eq_false, not_true_eq_false, not_false_eq_true, decide_true, decide_false, cond_true, cond_false, Bool.true_and, Bool.false_and, Bool.and_true, Bool.and_false, Bool.true_or, Bool.false_or, Bool.or_true, Bool.or_false, b2i_tt, b2i_ff, pr_eta]; done))) rfl rfl rfl rfl rfl rfl, ⟨by rw [ht]; exact hP, va_K.moved hW.alike hK, hD⟩⟩, hS.F ht⟩) hS.2.2 dX0_copy_64
