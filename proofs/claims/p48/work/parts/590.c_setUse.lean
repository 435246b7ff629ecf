theorem dX7_setUse_0 : decode cX7_setUse 0 = .ok (.aload_n 0, 1) := by decide +kernel
theorem dX7_setUse_1 : decode cX7_setUse 1 = .ok (.iload_n 1, 1) := by decide +kernel
theorem dX7_setUse_2 : decode cX7_setUse 2 = .ok (.invokevirtual 85, 3) := by decide +kernel
theorem dX7_setUse_5 : decode cX7_setUse 5 = .ok (.iload_n 2, 1) := by decide +kernel
theorem dX7_setUse_6 : decode cX7_setUse 6 = .ok (.iconst (-1), 1) := by decide +kernel
theorem dX7_setUse_7 : decode cX7_setUse 7 = .ok (.if_icmp .lt 9, 3) := by decide +kernel
theorem dX7_setUse_10 : decode cX7_setUse 10 = .ok (.iload_n 2, 1) := by decide +kernel
theorem dX7_setUse_11 : decode cX7_setUse 11 = .ok (.bipush 7, 2) := by decide +kernel
theorem dX7_setUse_13 : decode cX7_setUse 13 = .ok (.if_icmp .le 13, 3) := by decide +kernel
theorem dX7_setUse_26 : decode cX7_setUse 26 = .ok (.iload_n 3, 1) := by decide +kernel
theorem dX7_setUse_27 : decode cX7_setUse 27 = .ok (.ifCond .lt 10, 3) := by decide +kernel
theorem dX7_setUse_30 : decode cX7_setUse 30 = .ok (.iload_n 3, 1) := by decide +kernel
theorem dX7_setUse_31 : decode cX7_setUse 31 = .ok (.sipush 255, 3) := by decide +kernel
theorem dX7_setUse_34 : decode cX7_setUse 34 = .ok (.if_icmp .le 13, 3) := by decide +kernel
theorem dX7_setUse_47 : decode cX7_setUse 47 = .ok (.aload_n 0, 1) := by decide +kernel
theorem dX7_setUse_48 : decode cX7_setUse 48 = .ok (.getfield 10, 3) := by decide +kernel
theorem dX7_setUse_51 : decode cX7_setUse 51 = .ok (.getfield 113, 3) := by decide +kernel
theorem dX7_setUse_54 : decode cX7_setUse 54 = .ok (.iload_n 1, 1) := by decide +kernel
theorem dX7_setUse_55 : decode cX7_setUse 55 = .ok (.invokestatic 96, 3) := by decide +kernel
theorem dX7_setUse_58 : decode cX7_setUse 58 = .ok (.istore 4, 2) := by decide +kernel
theorem dX7_setUse_60 : decode cX7_setUse 60 = .ok (.aload_n 0, 1) := by decide +kernel
theorem dX7_setUse_61 : decode cX7_setUse 61 = .ok (.getfield 10, 3) := by decide +kernel
theorem dX7_setUse_64 : decode cX7_setUse 64 = .ok (.getfield 116, 3) := by decide +kernel
theorem dX7_setUse_67 : decode cX7_setUse 67 = .ok (.iload_n 1, 1) := by decide +kernel
theorem dX7_setUse_68 : decode cX7_setUse 68 = .ok (.iload_n 2, 1) := by decide +kernel
theorem dX7_setUse_69 : decode cX7_setUse 69 = .ok (.invokestatic 105, 3) := by decide +kernel
theorem dX7_setUse_72 : decode cX7_setUse 72 = .ok (.aload_n 0, 1) := by decide +kernel
theorem dX7_setUse_73 : decode cX7_setUse 73 = .ok (.getfield 10, 3) := by decide +kernel
theorem dX7_setUse_76 : decode cX7_setUse 76 = .ok (.getfield 113, 3) := by decide +kernel
theorem dX7_setUse_79 : decode cX7_setUse 79 = .ok (.iload_n 1, 1) := by decide +kernel
theorem dX7_setUse_80 : decode cX7_setUse 80 = .ok (.iload_n 3, 1) := by decide +kernel
theorem dX7_setUse_81 : decode cX7_setUse 81 = .ok (.invokestatic 105, 3) := by decide +kernel
theorem dX7_setUse_84 : decode cX7_setUse 84 = .ok (.aload_n 0, 1) := by decide +kernel
theorem dX7_setUse_85 : decode cX7_setUse 85 = .ok (.getfield 33, 3) := by decide +kernel
theorem dX7_setUse_88 : decode cX7_setUse 88 = .ok (.iconst 0, 1) := by decide +kernel
theorem dX7_setUse_89 : decode cX7_setUse 89 = .ok (.putfield 119, 3) := by decide +kernel
theorem dX7_setUse_92 : decode cX7_setUse 92 = .ok (.iload 4, 2) := by decide +kernel
theorem dX7_setUse_94 : decode cX7_setUse 94 = .ok (.ireturn, 1) := by decide +kernel
set_option maxHeartbeats 4000000 in
set_option maxRecDepth 100000 in
theorem c_setUse (l : Launch) (D : va_G) (cI cJ : ClassId) (ad : Nat → Nat) (co fl ra li re wa pi : Ob) (k1 : Int32) (k2 : Int32) (k3 : Int32) (k0 : ¬ k1 < 0) (k1h : k1 < gi co 0) (u0 : ¬ k2 < -1) (u1 : ¬ 7 < k2) (u2 : ¬ k3 < 0) (u3 : ¬ 255 < k3) : CT l D (TY cI cJ) yX7_setUse (.code yX7_setUse cX7_setUse 5 (some Jvm.ClassFile.FieldType.int)) 2 0 0 (XW ad cI cJ co fl ra li re wa pi) [.ref (ad 0), .int k1, .int k2, .int k3] (QI D (TY cI cJ) (fun r u => r = (rd (gA co 3) 40 k1) ∧ u = (XW ad cI cJ (sA (sA co 2 (wr (gA co 2) 40 k1 k2)) 3 (wr (gA co 3) 40 k1 k3)) fl ra (si li 1 0) re wa pi))) := by
  refine ent (by decide) (Nat.le_of_ble_eq_true rfl) ?_
  intro p e s m below meth c ls A hx hb hr hg hown hml hlocks hnm hP hK hD hS hA hN hl
  have hl : lv_has ls 5 [(0, .ref (ad 0)), (1, .int k1), (2, .int k2), (3, .int k3)] := hl
  refine lv_aload_n hx hb dX7_setUse_0 rfl (lv_at hl 0 rfl) ?_
  refine lv_iload_n hx hb dX7_setUse_1 rfl (lv_at hl 1 rfl) ?_
  refine kV (rV (q0 := 0) (ci := 7) hx hb hml hown hg hN hK hP hD (c_needI l D cI cJ ad co fl ra li re wa pi k1 k0 k1h) mw_457 mw_458 mw_459 mw_460 mw_77 pdv_X7_needInstruction ⟨Nat.le_of_ble_eq_true rfl, Nat.le_of_ble_eq_true rfl⟩ rfl xo0 rfl hl.1 rfl (Nat.le_of_ble_eq_true rfl) dX7_setUse_2 ⟨Nat.le_of_ble_eq_true rfl, Nat.le_of_ble_eq_true rfl⟩) hD hS hA (fun u_1 H locs hp hP hD hS => ?_)
  obtain rfl := hp.symm
  refine lv_iload_n hx hb dX7_setUse_5 rfl (lv_at hl 2 rfl) ?_
  refine lv_iconst (v := (-1)) hx hb dX7_setUse_6 (by decide) ?_
  refine lv_icmp_lt (tgt := 16) hx hb dX7_setUse_7 (by decide) (fun c_7 => absurd c_7 u0) (fun _ => ?_)
  refine lv_iload_n hx hb dX7_setUse_10 rfl (lv_at hl 2 rfl) ?_
  refine lv_bipush (v := 7) hx hb dX7_setUse_11 (by decide) ?_
  refine lv_icmp_le (tgt := 26) hx hb dX7_setUse_13 (by decide) (fun _ => ?_) (fun c_13 => absurd (i_ge' u1) c_13)
  refine lv_iload_n hx hb dX7_setUse_26 rfl (lv_at hl 3 rfl) ?_
  refine lv_if_lt (tgt := 37) hx hb dX7_setUse_27 (by decide) (fun c_27 => absurd c_27 u2) (fun _ => ?_)
  refine lv_iload_n hx hb dX7_setUse_30 rfl (lv_at hl 3 rfl) ?_
  refine lv_sipush (v := 255) hx hb dX7_setUse_31 (by decide) ?_
  refine lv_icmp_le (tgt := 47) hx hb dX7_setUse_34 (by decide) (fun _ => ?_) (fun c_34 => absurd (i_ge' u3) c_34)
  refine lv_aload_n hx hb dX7_setUse_47 rfl (lv_at hl 0 rfl) ?_
  refine va_get (D := D) (ci := 7) (v := .ref (ad 1)) (C := RX7) (T := TX7) (N := 6) hx hb hg inGX7 hown hK hP 0 xo0 rfl 0 (by decide) (hg _ mw_323) (fun _ h9 => h9) xvX7_0 dX7_setUse_48 ?_
  refine va_getN (D := D) (ci := 0) (v := .ref (ad 11)) (C := RX0) (T := TX0) (N := 5) hx hb hg inGX0 hown hK hP 1 xo1 rfl 3 (by decide) (hN.use nw_7) (fun _ h9 => h9) xvX0_3 dX7_setUse_51 ?_
  refine lv_iload_n hx hb dX7_setUse_54 rfl (lv_at hl 1 rfl) ?_
  refine kI (rS hx hb hml hown hg hN hK hP hD (c_at l D cI cJ (XW ad cI cJ co fl ra li re wa pi) 11 (ad 11) 40 (gA co 3) k1 (xg11 rfl) (by decide)) mw_84 mw_374 mw_85 mw_77 pd_X7_at ⟨Nat.le_of_ble_eq_true rfl, Nat.le_of_ble_eq_true rfl⟩ rfl hl.1 rfl (Nat.le_of_ble_eq_true rfl) dX7_setUse_55 ⟨Nat.le_of_ble_eq_true rfl, Nat.le_of_ble_eq_true rfl⟩) hD hS hA (fun r_2 u_2 H locs hp hP hD hS => ?_)
  obtain ⟨er, eu⟩ := hp
  obtain rfl := er.symm
  obtain rfl := eu.symm
  refine lv_istore (lv' := [(4, .int (rd (gA co 3) 40 k1)), (0, .ref (ad 0)), (1, .int k1), (2, .int k2), (3, .int k3)]) hx hb dX7_setUse_58 hl (by decide) rfl (fun ls hl => ?_)
  refine lv_aload_n hx hb dX7_setUse_60 rfl (lv_at hl 1 rfl) ?_
  refine va_get (D := D) (ci := 7) (v := .ref (ad 1)) (C := RX7) (T := TX7) (N := 6) hx hb hg inGX7 hown hK hP 0 xo0 rfl 0 (by decide) (hg _ mw_323) (fun _ h9 => h9) xvX7_0 dX7_setUse_61 ?_
  refine va_getN (D := D) (ci := 0) (v := .ref (ad 10)) (C := RX0) (T := TX0) (N := 5) hx hb hg inGX0 hown hK hP 1 xo1 rfl 2 (by decide) (hN.use nw_6) (fun _ h9 => h9) xvX0_2 dX7_setUse_64 ?_
  refine lv_iload_n hx hb dX7_setUse_67 rfl (lv_at hl 2 rfl) ?_
  refine lv_iload_n hx hb dX7_setUse_68 rfl (lv_at hl 3 rfl) ?_
  refine kV (rS hx hb hml hown hg hN hK hP hD (c_put l D cI cJ (XW ad cI cJ co fl ra li re wa pi) 10 (ad 10) 40 (gA co 2) k1 k2 (xg10 rfl) (by decide)) mw_92 mw_465 mw_93 mw_77 pd_X7_put ⟨Nat.le_of_ble_eq_true rfl, Nat.le_of_ble_eq_true rfl⟩ rfl hl.1 rfl (Nat.le_of_ble_eq_true rfl) dX7_setUse_69 ⟨Nat.le_of_ble_eq_true rfl, Nat.le_of_ble_eq_true rfl⟩) hD hS hA (fun u_3 H locs hp hP hD hS => ?_)
  obtain rfl := hp.symm
  have hP : va_P D vwCl (XW ad cI cJ (sA co 2 (wr (gA co 2) 40 k1 k2)) fl ra li re wa pi) H := cgP xs10 hP
  have hD : va_D A (XW ad cI cJ (sA co 2 (wr (gA co 2) 40 k1 k2)) fl ra li re wa pi) := cgD xs10 hD
  refine lv_aload_n hx hb dX7_setUse_72 rfl (lv_at hl 1 rfl) ?_
  refine va_get (D := D) (ci := 7) (v := .ref (ad 1)) (C := RX7) (T := TX7) (N := 6) hx hb hg inGX7 hown hK hP 0 xo0 rfl 0 (by decide) (hg _ mw_323) (fun _ h9 => h9) xvX7_0 dX7_setUse_73 ?_
  refine va_getN (D := D) (ci := 0) (v := .ref (ad 11)) (C := RX0) (T := TX0) (N := 5) hx hb hg inGX0 hown hK hP 1 xo1 rfl 3 (by decide) (hN.use nw_7) (fun _ h9 => h9) xvX0_3 dX7_setUse_76 ?_
  refine lv_iload_n hx hb dX7_setUse_79 rfl (lv_at hl 2 rfl) ?_
  refine lv_iload_n hx hb dX7_setUse_80 rfl (lv_at hl 4 rfl) ?_
  refine kV (rS hx hb hml hown hg hN hK hP hD (c_put l D cI cJ (XW ad cI cJ (sA co 2 (wr (gA co 2) 40 k1 k2)) fl ra li re wa pi) 11 (ad 11) 40 (gA co 3) k1 k3 (xg11 (by simp only [gi_sl, gi_sA, gi_sB, gi_si_s, gi_si_n, gl_si, gl_sA, gl_sB, gl_sl_s, gl_sl_n, gA_si, gA_sl, gA_sB, gA_sA_s, gA_sA_n, gB_si, gB_sl, gB_sA, gB_sB_s, gB_sB_n, Nat.reduceBEq])) (by decide)) mw_92 mw_465 mw_93 mw_77 pd_X7_put ⟨Nat.le_of_ble_eq_true rfl, Nat.le_of_ble_eq_true rfl⟩ rfl hl.1 rfl (Nat.le_of_ble_eq_true rfl) dX7_setUse_81 ⟨Nat.le_of_ble_eq_true rfl, Nat.le_of_ble_eq_true rfl⟩) hD hS hA (fun u_4 H locs hp hP hD hS => ?_)
  obtain rfl := hp.symm
  have hP : va_P D vwCl (XW ad cI cJ (sA (sA co 2 (wr (gA co 2) 40 k1 k2)) 3 (wr (gA co 3) 40 k1 k3)) fl ra li re wa pi) H := cgP xs11 hP
  have hD : va_D A (XW ad cI cJ (sA (sA co 2 (wr (gA co 2) 40 k1 k2)) 3 (wr (gA co 3) 40 k1 k3)) fl ra li re wa pi) := cgD xs11 hD
  refine lv_aload_n hx hb dX7_setUse_84 rfl (lv_at hl 1 rfl) ?_
  refine va_get (D := D) (ci := 7) (v := .ref (ad 4)) (C := RX7) (T := TX7) (N := 6) hx hb hg inGX7 hown hK hP 0 xo0 rfl 3 (by decide) (hg _ mw_337) (fun _ h9 => h9) xvX7_3 dX7_setUse_85 ?_
  refine lv_iconst (v := 0) hx hb dX7_setUse_88 (by decide) ?_
  refine va_putN (D := D) (ci := 2) (v := .int 0) (C := RX2) (T := TX2) (N := 3) hx hb hg inGX2 tyX2 tyX2_ok nmX2 hown hK hP hD hS 4 xo4 rfl 2 (by decide) (hN.use nw_45) (fun _ h9 => h9) rfl (tyX2_ok 2 (by decide)) rfl rfl (Nat.le_of_ble_eq_true rfl) dX7_setUse_89 (fun H locs hP hD hS => ?_)
  have hP : va_P D vwCl (XW ad cI cJ (sA (sA co 2 (wr (gA co 2) 40 k1 k2)) 3 (wr (gA co 3) 40 k1 k3)) fl ra (si li 1 0) re wa pi) H := cgP xpX2_2 hP
  have hD : va_D A (XW ad cI cJ (sA (sA co 2 (wr (gA co 2) 40 k1 k2)) 3 (wr (gA co 3) 40 k1 k3)) fl ra (si li 1 0) re wa pi) := cgD xpX2_2 hD
  refine lv_iload hx hb dX7_setUse_92 (lv_at hl 0 rfl) ?_
  exact W.iret (v := (rd (gA co 3) 40 k1)) hx hb hr (fun t ht hW => ⟨⟨(rd (gA co 3) 40 k1), (XW ad cI cJ (sA (sA co 2 (wr (gA co 2) 40 k1 k2)) 3 (wr (gA co 3) 40 k1 k3)) fl ra (si li 1 0) re wa pi), rfl, ⟨rfl, xw_eq (show (sA (sA co 2 (wr (gA co 2) 40 k1 k2)) 3 (wr (gA co 3) 40 k1 k3)) = (sA (sA co 2 (wr (gA co 2) 40 k1 k2)) 3 (wr (gA co 3) 40 k1 k3)) from (by first | with_reducible rfl | (simp only [gi_sl, gi_sA, gi_sB, gi_si_s, gi_si_n, gl_si, gl_sA, gl_sB, gl_sl_s, gl_sl_n, gA_si, gA_sl, gA_sB, gA_sA_s, gA_sA_n, gB_si, gB_sl, gB_sA, gB_sB_s, gB_sB_n, Nat.reduceBEq, if_true, if_false, eq_self, Bool.false_eq_true, Bool.true_eq_false, not_true_eq_false, not_false_eq_true, decide_true, decide_false, cond_true, cond_false, Bool.true_and, Bool.false_and, Bool.and_true, Bool.and_false, Bool.true_or, Bool.false_or, Bool.or_true, Bool.or_false, b2i_tt, b2i_ff, pr_eta]; done))) rfl rfl (show (si li 1 0) = (si li 1 0) from (by first | with_reducible rfl | (simp only [gi_sl, gi_sA, gi_sB, gi_si_s, gi_si_n, gl_si, gl_sA, gl_sB, gl_sl_s, gl_sl_n, gA_si, gA_sl, gA_sB, gA_sA_s, gA_sA_n, gB_si, gB_sl, gB_sA, gB_sB_s, gB_sB_n, Nat.reduceBEq, if_true, if_false, eq_self, Bool.false_eq_true, Bool.true_eq_false, not_true_eq_false, not_false_eq_true, decide_true, decide_false, cond_true, cond_false, Bool.true_and, Bool.false_and, Bool.and_true, Bool.and_false, Bool.true_or, Bool.false_or, Bool.or_true, Bool.or_false, b2i_tt, b2i_ff, pr_eta]; done))) rfl rfl rfl⟩, ⟨by rw [ht]; exact hP, va_K.moved hW.alike hK, hD⟩⟩, hS.F ht⟩) hS.2.2 dX7_setUse_94
