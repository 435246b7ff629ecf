theorem dX6_enter_0 : decode cX6_enter 0 = .ok (.aload_n 0, 1) := by decide +kernel
theorem dX6_enter_1 : decode cX6_enter 1 = .ok (.getfield 9, 3) := by decide +kernel
theorem dX6_enter_4 : decode cX6_enter 4 = .ok (.aload_n 0, 1) := by decide +kernel
theorem dX6_enter_5 : decode cX6_enter 5 = .ok (.getfield 27, 3) := by decide +kernel
theorem dX6_enter_8 : decode cX6_enter 8 = .ok (.iload_n 2, 1) := by decide +kernel
theorem dX6_enter_9 : decode cX6_enter 9 = .ok (.invokestatic 41, 3) := by decide +kernel
theorem dX6_enter_12 : decode cX6_enter 12 = .ok (.aload_n 0, 1) := by decide +kernel
theorem dX6_enter_13 : decode cX6_enter 13 = .ok (.dup, 1) := by decide +kernel
theorem dX6_enter_14 : decode cX6_enter 14 = .ok (.getfield 27, 3) := by decide +kernel
theorem dX6_enter_17 : decode cX6_enter 17 = .ok (.iconst 1, 1) := by decide +kernel
theorem dX6_enter_18 : decode cX6_enter 18 = .ok (.iadd, 1) := by decide +kernel
theorem dX6_enter_19 : decode cX6_enter 19 = .ok (.putfield 27, 3) := by decide +kernel
theorem dX6_enter_22 : decode cX6_enter 22 = .ok (.aload_n 0, 1) := by decide +kernel
theorem dX6_enter_23 : decode cX6_enter 23 = .ok (.getfield 21, 3) := by decide +kernel
theorem dX6_enter_26 : decode cX6_enter 26 = .ok (.aload_n 0, 1) := by decide +kernel
theorem dX6_enter_27 : decode cX6_enter 27 = .ok (.getfield 31, 3) := by decide +kernel
theorem dX6_enter_30 : decode cX6_enter 30 = .ok (.iload_n 2, 1) := by decide +kernel
theorem dX6_enter_31 : decode cX6_enter 31 = .ok (.invokestatic 41, 3) := by decide +kernel
theorem dX6_enter_34 : decode cX6_enter 34 = .ok (.aload_n 0, 1) := by decide +kernel
theorem dX6_enter_35 : decode cX6_enter 35 = .ok (.dup, 1) := by decide +kernel
theorem dX6_enter_36 : decode cX6_enter 36 = .ok (.getfield 31, 3) := by decide +kernel
theorem dX6_enter_39 : decode cX6_enter 39 = .ok (.iconst 1, 1) := by decide +kernel
theorem dX6_enter_40 : decode cX6_enter 40 = .ok (.iadd, 1) := by decide +kernel
theorem dX6_enter_41 : decode cX6_enter 41 = .ok (.putfield 31, 3) := by decide +kernel
theorem dX6_enter_44 : decode cX6_enter 44 = .ok (.aload_n 0, 1) := by decide +kernel
theorem dX6_enter_45 : decode cX6_enter 45 = .ok (.getfield 24, 3) := by decide +kernel
theorem dX6_enter_48 : decode cX6_enter 48 = .ok (.iload_n 2, 1) := by decide +kernel
theorem dX6_enter_49 : decode cX6_enter 49 = .ok (.aload_n 1, 1) := by decide +kernel
theorem dX6_enter_50 : decode cX6_enter 50 = .ok (.getfield 61, 3) := by decide +kernel
theorem dX6_enter_53 : decode cX6_enter 53 = .ok (.iload_n 2, 1) := by decide +kernel
theorem dX6_enter_54 : decode cX6_enter 54 = .ok (.invokestatic 54, 3) := by decide +kernel
theorem dX6_enter_57 : decode cX6_enter 57 = .ok (.invokestatic 41, 3) := by decide +kernel
theorem dX6_enter_60 : decode cX6_enter 60 = .ok (.aload_n 0, 1) := by decide +kernel
theorem dX6_enter_61 : decode cX6_enter 61 = .ok (.dup, 1) := by decide +kernel
theorem dX6_enter_62 : decode cX6_enter 62 = .ok (.getfield 34, 3) := by decide +kernel
theorem dX6_enter_65 : decode cX6_enter 65 = .ok (.iload_n 2, 1) := by decide +kernel
theorem dX6_enter_66 : decode cX6_enter 66 = .ok (.invokestatic 64, 3) := by decide +kernel
theorem dX6_enter_69 : decode cX6_enter 69 = .ok (.lor, 1) := by decide +kernel
theorem dX6_enter_70 : decode cX6_enter 70 = .ok (.putfield 34, 3) := by decide +kernel
theorem dX6_enter_73 : decode cX6_enter 73 = .ok (.aload_n 0, 1) := by decide +kernel
theorem dX6_enter_74 : decode cX6_enter 74 = .ok (.dup, 1) := by decide +kernel
theorem dX6_enter_75 : decode cX6_enter 75 = .ok (.getfield 38, 3) := by decide +kernel
theorem dX6_enter_78 : decode cX6_enter 78 = .ok (.iload_n 2, 1) := by decide +kernel
theorem dX6_enter_79 : decode cX6_enter 79 = .ok (.invokestatic 64, 3) := by decide +kernel
theorem dX6_enter_82 : decode cX6_enter 82 = .ok (.lor, 1) := by decide +kernel
theorem dX6_enter_83 : decode cX6_enter 83 = .ok (.putfield 38, 3) := by decide +kernel
theorem dX6_enter_86 : decode cX6_enter 86 = .ok (.return_, 1) := by decide +kernel
theorem mw_209 : Cond.fieldLink RX6 9 "OrielChart$Walk" "came" "[I" ∈ GW := gw_mem (inT1 _ (List.mem_of_getElem? (i := 220) rfl)) rfl
theorem mw_210 : Cond.fieldLink RX6 27 "OrielChart$Walk" "cameCount" "I" ∈ GW := gw_mem (inT1 _ (List.mem_of_getElem? (i := 228) rfl)) rfl
theorem mw_211 : Cond.fieldLink RX6 21 "OrielChart$Walk" "open" "[I" ∈ GW := gw_mem (inT1 _ (List.mem_of_getElem? (i := 226) rfl)) rfl
theorem mw_212 : Cond.fieldLink RX6 31 "OrielChart$Walk" "openCount" "I" ∈ GW := gw_mem (inT1 _ (List.mem_of_getElem? (i := 230) rfl)) rfl
theorem mw_213 : Cond.fieldLink RX6 24 "OrielChart$Walk" "edge" "[I" ∈ GW := gw_mem (inT1 _ (List.mem_of_getElem? (i := 227) rfl)) rfl
theorem mw_214 : Cond.fieldLink RX6 34 "OrielChart$Walk" "seen" "J" ∈ GW := gw_mem (inT1 _ (List.mem_of_getElem? (i := 231) rfl)) rfl
theorem mw_215 : Cond.fieldLink RX6 38 "OrielChart$Walk" "stillGoing" "J" ∈ GW := gw_mem (inT1 _ (List.mem_of_getElem? (i := 233) rfl)) rfl
set_option maxHeartbeats 4000000 in
set_option maxRecDepth 100000 in
theorem c_enter (l : Launch) (D : va_G) (cI cJ : ClassId) (ad : Nat → Nat) (co fl ra li re wa pi : Ob) (k1 : Int32) : CT l D (TY cI cJ) yX6_enter (.code yX6_enter cX6_enter 3 (none : Option FieldType)) 1 0 0 (XW ad cI cJ co fl ra li re wa pi) [.ref (ad 7), .ref (ad 2), .int k1] (QV D (TY cI cJ) (fun u => u = (XW ad cI cJ co fl ra li re (enter fl wa k1) pi))) := by
  refine ent (by decide) (Nat.le_of_ble_eq_true rfl) ?_
  intro p e s m below meth c ls A hx hb hr hg hown hml hlocks hnm hP hK hD hS hA hN hl
  have hl : lv_has ls 3 [(0, .ref (ad 7)), (1, .ref (ad 2)), (2, .int k1)] := hl
  refine lv_aload_n hx hb dX6_enter_0 rfl (lv_at hl 0 rfl) ?_
  refine va_get (D := D) (ci := 6) (v := .ref (ad 29)) (C := RX6) (T := TX6) (N := 9) hx hb hg inGX6 hown hK hP 7 xo7 rfl 0 (by decide) (hg _ mw_209) (fun _ h9 => h9) xvX6_0 dX6_enter_1 ?_
  refine lv_aload_n hx hb dX6_enter_4 rfl (lv_at hl 0 rfl) ?_
  refine va_get (D := D) (ci := 6) (v := .int (gi wa 0)) (C := RX6) (T := TX6) (N := 9) hx hb hg inGX6 hown hK hP 7 xo7 rfl 5 (by decide) (hg _ mw_210) (fun _ h9 => h9) (xvX6_5 rfl) dX6_enter_5 ?_
  refine lv_iload_n hx hb dX6_enter_8 rfl (lv_at hl 2 rfl) ?_
  refine kV (rSN hx hb hml hown hg hN hK hP hD (c_put l D cI cJ (XW ad cI cJ co fl ra li re wa pi) 29 (ad 29) 40 (gA wa 0) (gi wa 0) k1 (xg29 rfl) (by decide)) mw_92 nw_90 mw_93 mw_77 pd_X7_put ⟨Nat.le_of_ble_eq_true rfl, Nat.le_of_ble_eq_true rfl⟩ rfl hl.1 rfl (Nat.le_of_ble_eq_true rfl) dX6_enter_9 ⟨Nat.le_of_ble_eq_true rfl, Nat.le_of_ble_eq_true rfl⟩) hD hS hA (fun u_1 H locs hp hP hD hS => ?_)
  obtain rfl := hp.symm
  have hP : va_P D vwCl (XW ad cI cJ co fl ra li re (sA wa 0 (wr (gA wa 0) 40 (gi wa 0) k1)) pi) H := cgP xs29 hP
  have hD : va_D A (XW ad cI cJ co fl ra li re (sA wa 0 (wr (gA wa 0) 40 (gi wa 0) k1)) pi) := cgD xs29 hD
  refine lv_aload_n hx hb dX6_enter_12 rfl (lv_at hl 0 rfl) ?_
  refine lv_dup hx hb dX6_enter_13 rfl ?_
  refine va_get (D := D) (ci := 6) (v := .int (gi wa 0)) (C := RX6) (T := TX6) (N := 9) hx hb hg inGX6 hown hK hP 7 xo7 rfl 5 (by decide) (hg _ mw_210) (fun _ h9 => h9) (xvX6_5 (by simp only [gi_sl, gi_sA, gi_sB, gi_si_s, gi_si_n, gl_si, gl_sA, gl_sB, gl_sl_s, gl_sl_n, gA_si, gA_sl, gA_sB, gA_sA_s, gA_sA_n, gB_si, gB_sl, gB_sA, gB_sB_s, gB_sB_n, Nat.reduceBEq])) dX6_enter_14 ?_
  refine lv_iconst (v := 1) hx hb dX6_enter_17 (by decide) ?_
  refine lv_iadd hx hb dX6_enter_18 ?_
  refine va_put (D := D) (ci := 6) (v := .int ((gi wa 0) + 1)) (C := RX6) (T := TX6) (N := 9) hx hb hg inGX6 tyX6 tyX6_ok nmX6 hown hK hP hD hS 7 xo7 rfl 5 (by decide) (hg _ mw_210) (fun _ h9 => h9) rfl (tyX6_ok 5 (by decide)) rfl rfl (Nat.le_of_ble_eq_true rfl) dX6_enter_19 (fun H locs hP hD hS => ?_)
  have hP : va_P D vwCl (XW ad cI cJ co fl ra li re (si (sA wa 0 (wr (gA wa 0) 40 (gi wa 0) k1)) 0 ((gi wa 0) + 1)) pi) H := cgP xpX6_5 hP
  have hD : va_D A (XW ad cI cJ co fl ra li re (si (sA wa 0 (wr (gA wa 0) 40 (gi wa 0) k1)) 0 ((gi wa 0) + 1)) pi) := cgD xpX6_5 hD
  refine lv_aload_n hx hb dX6_enter_22 rfl (lv_at hl 0 rfl) ?_
  refine va_get (D := D) (ci := 6) (v := .ref (ad 32)) (C := RX6) (T := TX6) (N := 9) hx hb hg inGX6 hown hK hP 7 xo7 rfl 3 (by decide) (hg _ mw_211) (fun _ h9 => h9) xvX6_3 dX6_enter_23 ?_
  refine lv_aload_n hx hb dX6_enter_26 rfl (lv_at hl 0 rfl) ?_
  refine va_get (D := D) (ci := 6) (v := .int (gi wa 1)) (C := RX6) (T := TX6) (N := 9) hx hb hg inGX6 hown hK hP 7 xo7 rfl 6 (by decide) (hg _ mw_212) (fun _ h9 => h9) (xvX6_6 (by simp only [gi_sl, gi_sA, gi_sB, gi_si_s, gi_si_n, gl_si, gl_sA, gl_sB, gl_sl_s, gl_sl_n, gA_si, gA_sl, gA_sB, gA_sA_s, gA_sA_n, gB_si, gB_sl, gB_sA, gB_sB_s, gB_sB_n, Nat.reduceBEq])) dX6_enter_27 ?_
  refine lv_iload_n hx hb dX6_enter_30 rfl (lv_at hl 2 rfl) ?_
  refine kV (rSN hx hb hml hown hg hN hK hP hD (c_put l D cI cJ (XW ad cI cJ co fl ra li re (si (sA wa 0 (wr (gA wa 0) 40 (gi wa 0) k1)) 0 ((gi wa 0) + 1)) pi) 32 (ad 32) 40 (gA wa 3) (gi wa 1) k1 (xg32 (by simp only [gi_sl, gi_sA, gi_sB, gi_si_s, gi_si_n, gl_si, gl_sA, gl_sB, gl_sl_s, gl_sl_n, gA_si, gA_sl, gA_sB, gA_sA_s, gA_sA_n, gB_si, gB_sl, gB_sA, gB_sB_s, gB_sB_n, Nat.reduceBEq])) (by decide)) mw_92 nw_90 mw_93 mw_77 pd_X7_put ⟨Nat.le_of_ble_eq_true rfl, Nat.le_of_ble_eq_true rfl⟩ rfl hl.1 rfl (Nat.le_of_ble_eq_true rfl) dX6_enter_31 ⟨Nat.le_of_ble_eq_true rfl, Nat.le_of_ble_eq_true rfl⟩) hD hS hA (fun u_2 H locs hp hP hD hS => ?_)
  obtain rfl := hp.symm
  have hP : va_P D vwCl (XW ad cI cJ co fl ra li re (sA (si (sA wa 0 (wr (gA wa 0) 40 (gi wa 0) k1)) 0 ((gi wa 0) + 1)) 3 (wr (gA wa 3) 40 (gi wa 1) k1)) pi) H := cgP xs32 hP
  have hD : va_D A (XW ad cI cJ co fl ra li re (sA (si (sA wa 0 (wr (gA wa 0) 40 (gi wa 0) k1)) 0 ((gi wa 0) + 1)) 3 (wr (gA wa 3) 40 (gi wa 1) k1)) pi) := cgD xs32 hD
  refine lv_aload_n hx hb dX6_enter_34 rfl (lv_at hl 0 rfl) ?_
  refine lv_dup hx hb dX6_enter_35 rfl ?_
  refine va_get (D := D) (ci := 6) (v := .int (gi wa 1)) (C := RX6) (T := TX6) (N := 9) hx hb hg inGX6 hown hK hP 7 xo7 rfl 6 (by decide) (hg _ mw_212) (fun _ h9 => h9) (xvX6_6 (by simp only [gi_sl, gi_sA, gi_sB, gi_si_s, gi_si_n, gl_si, gl_sA, gl_sB, gl_sl_s, gl_sl_n, gA_si, gA_sl, gA_sB, gA_sA_s, gA_sA_n, gB_si, gB_sl, gB_sA, gB_sB_s, gB_sB_n, Nat.reduceBEq])) dX6_enter_36 ?_
  refine lv_iconst (v := 1) hx hb dX6_enter_39 (by decide) ?_
  refine lv_iadd hx hb dX6_enter_40 ?_
  refine va_put (D := D) (ci := 6) (v := .int ((gi wa 1) + 1)) (C := RX6) (T := TX6) (N := 9) hx hb hg inGX6 tyX6 tyX6_ok nmX6 hown hK hP hD hS 7 xo7 rfl 6 (by decide) (hg _ mw_212) (fun _ h9 => h9) rfl (tyX6_ok 6 (by decide)) rfl rfl (Nat.le_of_ble_eq_true rfl) dX6_enter_41 (fun H locs hP hD hS => ?_)
  have hP : va_P D vwCl (XW ad cI cJ co fl ra li re (si (sA (si (sA wa 0 (wr (gA wa 0) 40 (gi wa 0) k1)) 0 ((gi wa 0) + 1)) 3 (wr (gA wa 3) 40 (gi wa 1) k1)) 1 ((gi wa 1) + 1)) pi) H := cgP xpX6_6 hP
  have hD : va_D A (XW ad cI cJ co fl ra li re (si (sA (si (sA wa 0 (wr (gA wa 0) 40 (gi wa 0) k1)) 0 ((gi wa 0) + 1)) 3 (wr (gA wa 3) 40 (gi wa 1) k1)) 1 ((gi wa 1) + 1)) pi) := cgD xpX6_6 hD
  refine lv_aload_n hx hb dX6_enter_44 rfl (lv_at hl 0 rfl) ?_
  refine va_get (D := D) (ci := 6) (v := .ref (ad 33)) (C := RX6) (T := TX6) (N := 9) hx hb hg inGX6 hown hK hP 7 xo7 rfl 4 (by decide) (hg _ mw_213) (fun _ h9 => h9) xvX6_4 dX6_enter_45 ?_
  refine lv_iload_n hx hb dX6_enter_48 rfl (lv_at hl 2 rfl) ?_
  refine lv_aload_n hx hb dX6_enter_49 rfl (lv_at hl 1 rfl) ?_
  refine va_getN (D := D) (ci := 1) (v := .ref (ad 17)) (C := RX1) (T := TX1) (N := 11) hx hb hg inGX1 hown hK hP 2 xo2 rfl 5 (by decide) (hN.use nw_21) (fun _ h9 => h9) xvX1_5 dX6_enter_50 ?_
  refine lv_iload_n hx hb dX6_enter_53 rfl (lv_at hl 2 rfl) ?_
  refine kI (rSN hx hb hml hown hg hN hK hP hD (c_at l D cI cJ (XW ad cI cJ co fl ra li re (si (sA (si (sA wa 0 (wr (gA wa 0) 40 (gi wa 0) k1)) 0 ((gi wa 0) + 1)) 3 (wr (gA wa 3) 40 (gi wa 1) k1)) 1 ((gi wa 1) + 1)) pi) 17 (ad 17) 41 (gA fl 5) k1 (xg17 rfl) (by decide)) mw_84 nw_91 mw_85 mw_77 pd_X7_at ⟨Nat.le_of_ble_eq_true rfl, Nat.le_of_ble_eq_true rfl⟩ rfl hl.1 rfl (Nat.le_of_ble_eq_true rfl) dX6_enter_54 ⟨Nat.le_of_ble_eq_true rfl, Nat.le_of_ble_eq_true rfl⟩) hD hS hA (fun r_3 u_3 H locs hp hP hD hS => ?_)
  obtain ⟨er, eu⟩ := hp
  obtain rfl := er.symm
  obtain rfl := eu.symm
  refine kV (rSN hx hb hml hown hg hN hK hP hD (c_put l D cI cJ (XW ad cI cJ co fl ra li re (si (sA (si (sA wa 0 (wr (gA wa 0) 40 (gi wa 0) k1)) 0 ((gi wa 0) + 1)) 3 (wr (gA wa 3) 40 (gi wa 1) k1)) 1 ((gi wa 1) + 1)) pi) 33 (ad 33) 40 (gA wa 4) k1 (rd (gA fl 5) 41 k1) (xg33 (by simp only [gi_sl, gi_sA, gi_sB, gi_si_s, gi_si_n, gl_si, gl_sA, gl_sB, gl_sl_s, gl_sl_n, gA_si, gA_sl, gA_sB, gA_sA_s, gA_sA_n, gB_si, gB_sl, gB_sA, gB_sB_s, gB_sB_n, Nat.reduceBEq])) (by decide)) mw_92 nw_90 mw_93 mw_77 pd_X7_put ⟨Nat.le_of_ble_eq_true rfl, Nat.le_of_ble_eq_true rfl⟩ rfl hl.1 rfl (Nat.le_of_ble_eq_true rfl) dX6_enter_57 ⟨Nat.le_of_ble_eq_true rfl, Nat.le_of_ble_eq_true rfl⟩) hD hS hA (fun u_4 H locs hp hP hD hS => ?_)
  obtain rfl := hp.symm
  have hP : va_P D vwCl (XW ad cI cJ co fl ra li re (sA (si (sA (si (sA wa 0 (wr (gA wa 0) 40 (gi wa 0) k1)) 0 ((gi wa 0) + 1)) 3 (wr (gA wa 3) 40 (gi wa 1) k1)) 1 ((gi wa 1) + 1)) 4 (wr (gA wa 4) 40 k1 (rd (gA fl 5) 41 k1))) pi) H := cgP xs33 hP
  have hD : va_D A (XW ad cI cJ co fl ra li re (sA (si (sA (si (sA wa 0 (wr (gA wa 0) 40 (gi wa 0) k1)) 0 ((gi wa 0) + 1)) 3 (wr (gA wa 3) 40 (gi wa 1) k1)) 1 ((gi wa 1) + 1)) 4 (wr (gA wa 4) 40 k1 (rd (gA fl 5) 41 k1))) pi) := cgD xs33 hD
  refine lv_aload_n hx hb dX6_enter_60 rfl (lv_at hl 0 rfl) ?_
  refine lv_dup hx hb dX6_enter_61 rfl ?_
  refine va_get (D := D) (ci := 6) (v := .long (gl wa 0)) (C := RX6) (T := TX6) (N := 9) hx hb hg inGX6 hown hK hP 7 xo7 rfl 7 (by decide) (hg _ mw_214) (fun _ h9 => h9) (xvX6_7 (by simp only [gi_sl, gi_sA, gi_sB, gi_si_s, gi_si_n, gl_si, gl_sA, gl_sB, gl_sl_s, gl_sl_n, gA_si, gA_sl, gA_sB, gA_sA_s, gA_sA_n, gB_si, gB_sl, gB_sA, gB_sB_s, gB_sB_n, Nat.reduceBEq])) dX6_enter_62 ?_
  refine lv_iload_n hx hb dX6_enter_65 rfl (lv_at hl 2 rfl) ?_
  refine kL (rSN hx hb hml hown hg hN hK hP hD (c_bit l D cI cJ (XW ad cI cJ co fl ra li re (sA (si (sA (si (sA wa 0 (wr (gA wa 0) 40 (gi wa 0) k1)) 0 ((gi wa 0) + 1)) 3 (wr (gA wa 3) 40 (gi wa 1) k1)) 1 ((gi wa 1) + 1)) 4 (wr (gA wa 4) 40 k1 (rd (gA fl 5) 41 k1))) pi) k1) mw_78 nw_92 mw_80 mw_77 pd_X7_bit ⟨Nat.le_of_ble_eq_true rfl, Nat.le_of_ble_eq_true rfl⟩ rfl hl.1 rfl (Nat.le_of_ble_eq_true rfl) dX6_enter_66 ⟨Nat.le_of_ble_eq_true rfl, Nat.le_of_ble_eq_true rfl⟩) hD hS hA (fun r_5 u_5 H locs hp hP hD hS => ?_)
  obtain ⟨er, eu⟩ := hp
  obtain rfl := er.symm
  obtain rfl := eu.symm
  refine lv_lor hx hb dX6_enter_69 ?_
  refine va_put (D := D) (ci := 6) (v := .long ((gl wa 0) ||| (bitL k1))) (C := RX6) (T := TX6) (N := 9) hx hb hg inGX6 tyX6 tyX6_ok nmX6 hown hK hP hD hS 7 xo7 rfl 7 (by decide) (hg _ mw_214) (fun _ h9 => h9) rfl (tyX6_ok 7 (by decide)) rfl rfl (Nat.le_of_ble_eq_true rfl) dX6_enter_70 (fun H locs hP hD hS => ?_)
  have hP : va_P D vwCl (XW ad cI cJ co fl ra li re (sl (sA (si (sA (si (sA wa 0 (wr (gA wa 0) 40 (gi wa 0) k1)) 0 ((gi wa 0) + 1)) 3 (wr (gA wa 3) 40 (gi wa 1) k1)) 1 ((gi wa 1) + 1)) 4 (wr (gA wa 4) 40 k1 (rd (gA fl 5) 41 k1))) 0 ((gl wa 0) ||| (bitL k1))) pi) H := cgP xpX6_7 hP
  have hD : va_D A (XW ad cI cJ co fl ra li re (sl (sA (si (sA (si (sA wa 0 (wr (gA wa 0) 40 (gi wa 0) k1)) 0 ((gi wa 0) + 1)) 3 (wr (gA wa 3) 40 (gi wa 1) k1)) 1 ((gi wa 1) + 1)) 4 (wr (gA wa 4) 40 k1 (rd (gA fl 5) 41 k1))) 0 ((gl wa 0) ||| (bitL k1))) pi) := cgD xpX6_7 hD
  refine lv_aload_n hx hb dX6_enter_73 rfl (lv_at hl 0 rfl) ?_
  refine lv_dup hx hb dX6_enter_74 rfl ?_
  refine va_get (D := D) (ci := 6) (v := .long (gl wa 1)) (C := RX6) (T := TX6) (N := 9) hx hb hg inGX6 hown hK hP 7 xo7 rfl 8 (by decide) (hg _ mw_215) (fun _ h9 => h9) (xvX6_8 (by simp only [gi_sl, gi_sA, gi_sB, gi_si_s, gi_si_n, gl_si, gl_sA, gl_sB, gl_sl_s, gl_sl_n, gA_si, gA_sl, gA_sB, gA_sA_s, gA_sA_n, gB_si, gB_sl, gB_sA, gB_sB_s, gB_sB_n, Nat.reduceBEq])) dX6_enter_75 ?_
  refine lv_iload_n hx hb dX6_enter_78 rfl (lv_at hl 2 rfl) ?_
  refine kL (rSN hx hb hml hown hg hN hK hP hD (c_bit l D cI cJ (XW ad cI cJ co fl ra li re (sl (sA (si (sA (si (sA wa 0 (wr (gA wa 0) 40 (gi wa 0) k1)) 0 ((gi wa 0) + 1)) 3 (wr (gA wa 3) 40 (gi wa 1) k1)) 1 ((gi wa 1) + 1)) 4 (wr (gA wa 4) 40 k1 (rd (gA fl 5) 41 k1))) 0 ((gl wa 0) ||| (bitL k1))) pi) k1) mw_78 nw_92 mw_80 mw_77 pd_X7_bit ⟨Nat.le_of_ble_eq_true rfl, Nat.le_of_ble_eq_true rfl⟩ rfl hl.1 rfl (Nat.le_of_ble_eq_true rfl) dX6_enter_79 ⟨Nat.le_of_ble_eq_true rfl, Nat.le_of_ble_eq_true rfl⟩) hD hS hA (fun r_6 u_6 H locs hp hP hD hS => ?_)
  obtain ⟨er, eu⟩ := hp
  obtain rfl := er.symm
  obtain rfl := eu.symm
  refine lv_lor hx hb dX6_enter_82 ?_
  refine va_put (D := D) (ci := 6) (v := .long ((gl wa 1) ||| (bitL k1))) (C := RX6) (T := TX6) (N := 9) hx hb hg inGX6 tyX6 tyX6_ok nmX6 hown hK hP hD hS 7 xo7 rfl 8 (by decide) (hg _ mw_215) (fun _ h9 => h9) rfl (tyX6_ok 8 (by decide)) rfl rfl (Nat.le_of_ble_eq_true rfl) dX6_enter_83 (fun H locs hP hD hS => ?_)
  have hP : va_P D vwCl (XW ad cI cJ co fl ra li re (sl (sl (sA (si (sA (si (sA wa 0 (wr (gA wa 0) 40 (gi wa 0) k1)) 0 ((gi wa 0) + 1)) 3 (wr (gA wa 3) 40 (gi wa 1) k1)) 1 ((gi wa 1) + 1)) 4 (wr (gA wa 4) 40 k1 (rd (gA fl 5) 41 k1))) 0 ((gl wa 0) ||| (bitL k1))) 1 ((gl wa 1) ||| (bitL k1))) pi) H := cgP xpX6_8 hP
  have hD : va_D A (XW ad cI cJ co fl ra li re (sl (sl (sA (si (sA (si (sA wa 0 (wr (gA wa 0) 40 (gi wa 0) k1)) 0 ((gi wa 0) + 1)) 3 (wr (gA wa 3) 40 (gi wa 1) k1)) 1 ((gi wa 1) + 1)) 4 (wr (gA wa 4) 40 k1 (rd (gA fl 5) 41 k1))) 0 ((gl wa 0) ||| (bitL k1))) 1 ((gl wa 1) ||| (bitL k1))) pi) := cgD xpX6_8 hD
  exact W.vret hx hb hr (fun t ht hW => ⟨⟨(XW ad cI cJ co fl ra li re (sl (sl (sA (si (sA (si (sA wa 0 (wr (gA wa 0) 40 (gi wa 0) k1)) 0 ((gi wa 0) + 1)) 3 (wr (gA wa 3) 40 (gi wa 1) k1)) 1 ((gi wa 1) + 1)) 4 (wr (gA wa 4) 40 k1 (rd (gA fl 5) 41 k1))) 0 ((gl wa 0) ||| (bitL k1))) 1 ((gl wa 1) ||| (bitL k1))) pi), rfl, xw_eq rfl rfl rfl rfl rfl (show (sl (sl (sA (si (sA (si (sA wa 0 (wr (gA wa 0) 40 (gi wa 0) k1)) 0 ((gi wa 0) + 1)) 3 (wr (gA wa 3) 40 (gi wa 1) k1)) 1 ((gi wa 1) + 1)) 4 (wr (gA wa 4) 40 k1 (rd (gA fl 5) 41 k1))) 0 ((gl wa 0) ||| (bitL k1))) 1 ((gl wa 1) ||| (bitL k1))) = (enter fl wa k1) from (by first | with_reducible rfl | (simp only [enter, gi_sl, gi_sA, gi_sB, gi_si_s, gi_si_n, gl_si, gl_sA, gl_sB, gl_sl_s, gl_sl_n, gA_si, gA_sl, gA_sB, gA_sA_s, gA_sA_n, gB_si, gB_sl, gB_sA, gB_sB_s, gB_sB_n, Nat.reduceBEq, if_true, if_false, eq_self, Bool.false_eq_true, Bool.true_eq_false, not_true_eq_false, not_false_eq_true, decide_true, decide_false, cond_true, cond_false, Bool.true_and, Bool.false_and, Bool.and_true, Bool.and_false, Bool.true_or, Bool.false_or, Bool.or_true, Bool.or_false, b2i_tt, b2i_ff, pr_eta]; done))) rfl, ⟨by rw [ht]; exact hP, va_K.moved hW.alike hK, hD⟩⟩, hS.F ht⟩) hS.2.2 dX6_enter_86
