theorem dX4_closeLoop_0 : decode cX4_closeLoop 0 = .ok (.aload_n 0, 1) := by decide +kernel
theorem dX4_closeLoop_1 : decode cX4_closeLoop 1 = .ok (.getfield 18, 3) := by decide +kernel
theorem dX4_closeLoop_4 : decode cX4_closeLoop 4 = .ok (.iload_n 1, 1) := by decide +kernel
theorem dX4_closeLoop_5 : decode cX4_closeLoop 5 = .ok (.invokestatic 61, 3) := by decide +kernel
theorem dX4_closeLoop_8 : decode cX4_closeLoop 8 = .ok (.aload_n 0, 1) := by decide +kernel
theorem dX4_closeLoop_9 : decode cX4_closeLoop 9 = .ok (.getfield 9, 3) := by decide +kernel
theorem dX4_closeLoop_12 : decode cX4_closeLoop 12 = .ok (.iload_n 1, 1) := by decide +kernel
theorem dX4_closeLoop_13 : decode cX4_closeLoop 13 = .ok (.invokestatic 61, 3) := by decide +kernel
theorem dX4_closeLoop_16 : decode cX4_closeLoop 16 = .ok (.land, 1) := by decide +kernel
theorem dX4_closeLoop_17 : decode cX4_closeLoop 17 = .ok (.lstore_n 2, 1) := by decide +kernel
theorem dX4_closeLoop_18 : decode cX4_closeLoop 18 = .ok (.lload_n 2, 1) := by decide +kernel
theorem dX4_closeLoop_19 : decode cX4_closeLoop 19 = .ok (.lconst 0, 1) := by decide +kernel
theorem dX4_closeLoop_20 : decode cX4_closeLoop 20 = .ok (.lcmp, 1) := by decide +kernel
theorem dX4_closeLoop_21 : decode cX4_closeLoop 21 = .ok (.ifCond .eq 38, 3) := by decide +kernel
theorem dX4_closeLoop_24 : decode cX4_closeLoop 24 = .ok (.aload_n 0, 1) := by decide +kernel
theorem dX4_closeLoop_25 : decode cX4_closeLoop 25 = .ok (.getfield 15, 3) := by decide +kernel
theorem dX4_closeLoop_28 : decode cX4_closeLoop 28 = .ok (.iload_n 1, 1) := by decide +kernel
theorem dX4_closeLoop_29 : decode cX4_closeLoop 29 = .ok (.iload_n 1, 1) := by decide +kernel
theorem dX4_closeLoop_30 : decode cX4_closeLoop 30 = .ok (.invokestatic 72, 3) := by decide +kernel
theorem dX4_closeLoop_33 : decode cX4_closeLoop 33 = .ok (.aload_n 0, 1) := by decide +kernel
theorem dX4_closeLoop_34 : decode cX4_closeLoop 34 = .ok (.getfield 18, 3) := by decide +kernel
theorem dX4_closeLoop_37 : decode cX4_closeLoop 37 = .ok (.lload_n 2, 1) := by decide +kernel
theorem dX4_closeLoop_38 : decode cX4_closeLoop 38 = .ok (.iload_n 1, 1) := by decide +kernel
theorem dX4_closeLoop_39 : decode cX4_closeLoop 39 = .ok (.invokestatic 72, 3) := by decide +kernel
theorem dX4_closeLoop_42 : decode cX4_closeLoop 42 = .ok (.invokestatic 65, 3) := by decide +kernel
theorem dX4_closeLoop_45 : decode cX4_closeLoop 45 = .ok (.lor, 1) := by decide +kernel
theorem dX4_closeLoop_46 : decode cX4_closeLoop 46 = .ok (.invokestatic 38, 3) := by decide +kernel
theorem dX4_closeLoop_49 : decode cX4_closeLoop 49 = .ok (.aload_n 0, 1) := by decide +kernel
theorem dX4_closeLoop_50 : decode cX4_closeLoop 50 = .ok (.dup, 1) := by decide +kernel
theorem dX4_closeLoop_51 : decode cX4_closeLoop 51 = .ok (.getfield 46, 3) := by decide +kernel
theorem dX4_closeLoop_54 : decode cX4_closeLoop 54 = .ok (.iconst 1, 1) := by decide +kernel
theorem dX4_closeLoop_55 : decode cX4_closeLoop 55 = .ok (.iadd, 1) := by decide +kernel
theorem dX4_closeLoop_56 : decode cX4_closeLoop 56 = .ok (.putfield 46, 3) := by decide +kernel
theorem dX4_closeLoop_59 : decode cX4_closeLoop 59 = .ok (.return_, 1) := by decide +kernel
theorem mw_132 : Cond.fieldLink RX4 15 "OrielChart$Ranks" "loop" "[J" ∈ GW := gw_mem (inT1 _ (List.mem_of_getElem? (i := 130) rfl)) rfl
theorem mw_133 : Cond.fieldLink RX4 46 "OrielChart$Ranks" "loopCount" "I" ∈ GW := gw_mem (inT1 _ (List.mem_of_getElem? (i := 134) rfl)) rfl
set_option maxHeartbeats 4000000 in
set_option maxRecDepth 100000 in
theorem c_closeLoop (l : Launch) (D : va_G) (cI cJ : ClassId) (ad : Nat → Nat) (co fl ra li re wa pi : Ob) (k1 : Int32) : CT l D (TY cI cJ) yX4_closeLoop (.code yX4_closeLoop cX4_closeLoop 4 (none : Option FieldType)) 3 0 0 (XW ad cI cJ co fl ra li re wa pi) [.ref (ad 3), .int k1] (QV D (TY cI cJ) (fun u => u = (XW ad cI cJ co fl (closeLoop ra k1) li re wa pi))) := by
  refine ent (by decide) (Nat.le_of_ble_eq_true rfl) ?_
  intro p e s m below meth c ls A hx hb hr hg hown hml hlocks hnm hP hK hD hS hA hN hl
  have hl : lv_has ls 4 [(0, .ref (ad 3)), (1, .int k1)] := hl
  refine lv_aload_n hx hb dX4_closeLoop_0 rfl (lv_at hl 0 rfl) ?_
  refine va_get (D := D) (ci := 4) (v := .ref (ad 21)) (C := RX4) (T := TX4) (N := 7) hx hb hg inGX4 hown hK hP 3 xo3 rfl 2 (by decide) (hg _ mw_125) (fun _ h9 => h9) xvX4_2 dX4_closeLoop_1 ?_
  refine lv_iload_n hx hb dX4_closeLoop_4 rfl (lv_at hl 1 rfl) ?_
  refine kL (rSN hx hb hml hown hg hN hK hP hD (c_atL l D cI cJ (XW ad cI cJ co fl ra li re wa pi) 21 (ad 21) 40 (gB ra 2) k1 (xg21 rfl) (by decide)) mw_81 nw_78 mw_83 mw_77 pd_X7_at_ ⟨Nat.le_of_ble_eq_true rfl, Nat.le_of_ble_eq_true rfl⟩ rfl hl.1 rfl (Nat.le_of_ble_eq_true rfl) dX4_closeLoop_5 ⟨Nat.le_of_ble_eq_true rfl, Nat.le_of_ble_eq_true rfl⟩) hD hS hA (fun r_1 u_1 H locs hp hP hD hS => ?_)
  obtain ⟨er, eu⟩ := hp
  obtain rfl := er.symm
  obtain rfl := eu.symm
  refine lv_aload_n hx hb dX4_closeLoop_8 rfl (lv_at hl 0 rfl) ?_
  refine va_get (D := D) (ci := 4) (v := .ref (ad 19)) (C := RX4) (T := TX4) (N := 7) hx hb hg inGX4 hown hK hP 3 xo3 rfl 0 (by decide) (hg _ mw_124) (fun _ h9 => h9) xvX4_0 dX4_closeLoop_9 ?_
  refine lv_iload_n hx hb dX4_closeLoop_12 rfl (lv_at hl 1 rfl) ?_
  refine kL (rSN hx hb hml hown hg hN hK hP hD (c_atL l D cI cJ (XW ad cI cJ co fl ra li re wa pi) 19 (ad 19) 40 (gB ra 0) k1 (xg19 rfl) (by decide)) mw_81 nw_78 mw_83 mw_77 pd_X7_at_ ⟨Nat.le_of_ble_eq_true rfl, Nat.le_of_ble_eq_true rfl⟩ rfl hl.1 rfl (Nat.le_of_ble_eq_true rfl) dX4_closeLoop_13 ⟨Nat.le_of_ble_eq_true rfl, Nat.le_of_ble_eq_true rfl⟩) hD hS hA (fun r_2 u_2 H locs hp hP hD hS => ?_)
  obtain ⟨er, eu⟩ := hp
  obtain rfl := er.symm
  obtain rfl := eu.symm
  refine lv_land hx hb dX4_closeLoop_16 ?_
  refine lv_lstore_n (lv' := [(2, .long ((rdL (gB ra 2) 40 k1) &&& (rdL (gB ra 0) 40 k1))), (0, .ref (ad 3)), (1, .int k1)]) hx hb dX4_closeLoop_17 rfl hl (by decide) rfl (fun ls hl => ?_)
  refine lv_lload_n hx hb dX4_closeLoop_18 rfl (lv_at hl 0 rfl) ?_
  refine lv_lconst (v := 0) hx hb dX4_closeLoop_19 (by decide) ?_
  refine W.lcmp hx hb dX4_closeLoop_20 ?_
  refine lv_if_eq (tgt := 59) hx hb dX4_closeLoop_21 (by decide) (fun c_21 => ?_) (fun c_21 => ?_)
  · have c_21 : ((rdL (gB ra 2) 40 k1) &&& (rdL (gB ra 0) 40 k1)) = 0 := lcmp_0 c_21
    exact W.vret hx hb hr (fun t ht hW => ⟨⟨(XW ad cI cJ co fl ra li re wa pi), rfl, xw_eq rfl rfl (show ra = (closeLoop ra k1) from (by simp only [closeLoop, clEnds, eq_true c_21, gi_sl, gi_sA, gi_sB, gi_si_s, gi_si_n, gl_si, gl_sA, gl_sB, gl_sl_s, gl_sl_n, gA_si, gA_sl, gA_sB, gA_sA_s, gA_sA_n, gB_si, gB_sl, gB_sA, gB_sB_s, gB_sB_n, Nat.reduceBEq, if_true, if_false, eq_self, Bool.false_eq_true, Bool.true_eq_false, not_true_eq_false, not_false_eq_true, decide_true, decide_false, cond_true, cond_false, Bool.true_and, Bool.false_and, Bool.and_true, Bool.and_false, Bool.true_or, Bool.false_or, Bool.or_true, Bool.or_false, b2i_tt, b2i_ff, pr_eta]; done)) rfl rfl rfl rfl, ⟨by rw [ht]; exact hP, va_K.moved hW.alike hK, hD⟩⟩, hS.F ht⟩) hS.2.2 dX4_closeLoop_59
  · have c_21 : ¬ ((rdL (gB ra 2) 40 k1) &&& (rdL (gB ra 0) 40 k1)) = 0 := lcmp_1 c_21
    refine lv_aload_n hx hb dX4_closeLoop_24 rfl (lv_at hl 1 rfl) ?_
    refine va_get (D := D) (ci := 4) (v := .ref (ad 20)) (C := RX4) (T := TX4) (N := 7) hx hb hg inGX4 hown hK hP 3 xo3 rfl 1 (by decide) (hg _ mw_132) (fun _ h9 => h9) xvX4_1 dX4_closeLoop_25 ?_
    refine lv_iload_n hx hb dX4_closeLoop_28 rfl (lv_at hl 2 rfl) ?_
    refine lv_iload_n hx hb dX4_closeLoop_29 rfl (lv_at hl 2 rfl) ?_
    refine kL (rSN hx hb hml hown hg hN hK hP hD (c_bit l D cI cJ (XW ad cI cJ co fl ra li re wa pi) k1) mw_78 nw_74 mw_80 mw_77 pd_X7_bit ⟨Nat.le_of_ble_eq_true rfl, Nat.le_of_ble_eq_true rfl⟩ rfl hl.1 rfl (Nat.le_of_ble_eq_true rfl) dX4_closeLoop_30 ⟨Nat.le_of_ble_eq_true rfl, Nat.le_of_ble_eq_true rfl⟩) hD hS hA (fun r_3 u_3 H locs hp hP hD hS => ?_)
    obtain ⟨er, eu⟩ := hp
    obtain rfl := er.symm
    obtain rfl := eu.symm
    refine lv_aload_n hx hb dX4_closeLoop_33 rfl (lv_at hl 1 rfl) ?_
    refine va_get (D := D) (ci := 4) (v := .ref (ad 21)) (C := RX4) (T := TX4) (N := 7) hx hb hg inGX4 hown hK hP 3 xo3 rfl 2 (by decide) (hg _ mw_125) (fun _ h9 => h9) xvX4_2 dX4_closeLoop_34 ?_
    refine lv_lload_n hx hb dX4_closeLoop_37 rfl (lv_at hl 0 rfl) ?_
    refine lv_iload_n hx hb dX4_closeLoop_38 rfl (lv_at hl 2 rfl) ?_
    refine kL (rSN hx hb hml hown hg hN hK hP hD (c_bit l D cI cJ (XW ad cI cJ co fl ra li re wa pi) k1) mw_78 nw_74 mw_80 mw_77 pd_X7_bit ⟨Nat.le_of_ble_eq_true rfl, Nat.le_of_ble_eq_true rfl⟩ rfl hl.1 rfl (Nat.le_of_ble_eq_true rfl) dX4_closeLoop_39 ⟨Nat.le_of_ble_eq_true rfl, Nat.le_of_ble_eq_true rfl⟩) hD hS hA (fun r_4 u_4 H locs hp hP hD hS => ?_)
    obtain ⟨er, eu⟩ := hp
    obtain rfl := er.symm
    obtain rfl := eu.symm
    refine kL (rSN hx hb hml hown hg hN hK hP hD (c_spread l D cI cJ (XW ad cI cJ co fl ra li re wa pi) 21 (ad 21) (gB ra 2) ((rdL (gB ra 2) 40 k1) &&& (rdL (gB ra 0) 40 k1)) (bitL k1) (xg21 rfl)) mw_116 nw_75 mw_117 mw_77 pd_X7_spread ⟨Nat.le_of_ble_eq_true rfl, Nat.le_of_ble_eq_true rfl⟩ rfl hl.1 rfl (Nat.le_of_ble_eq_true rfl) dX4_closeLoop_42 ⟨Nat.le_of_ble_eq_true rfl, Nat.le_of_ble_eq_true rfl⟩) hD hS hA (fun r_5 u_5 H locs hp hP hD hS => ?_)
    obtain ⟨er, eu⟩ := hp
    obtain rfl := er.symm
    obtain rfl := eu.symm
    refine lv_lor hx hb dX4_closeLoop_45 ?_
    refine kV (rSN hx hb hml hown hg hN hK hP hD (c_putL l D cI cJ (XW ad cI cJ co fl ra li re wa pi) 20 (ad 20) 40 (gB ra 1) k1 ((bitL k1) ||| (spread (gB ra 2) ((rdL (gB ra 2) 40 k1) &&& (rdL (gB ra 0) 40 k1)) (bitL k1))) (xg20 rfl) (by decide)) mw_97 nw_76 mw_98 mw_77 pd_X7_put_ ⟨Nat.le_of_ble_eq_true rfl, Nat.le_of_ble_eq_true rfl⟩ rfl hl.1 rfl (Nat.le_of_ble_eq_true rfl) dX4_closeLoop_46 ⟨Nat.le_of_ble_eq_true rfl, Nat.le_of_ble_eq_true rfl⟩) hD hS hA (fun u_6 H locs hp hP hD hS => ?_)
    obtain rfl := hp.symm
    have hP : va_P D vwCl (XW ad cI cJ co fl (sB ra 1 (wrL (gB ra 1) 40 k1 ((bitL k1) ||| (spread (gB ra 2) ((rdL (gB ra 2) 40 k1) &&& (rdL (gB ra 0) 40 k1)) (bitL k1))))) li re wa pi) H := cgP xs20 hP
    have hD : va_D A (XW ad cI cJ co fl (sB ra 1 (wrL (gB ra 1) 40 k1 ((bitL k1) ||| (spread (gB ra 2) ((rdL (gB ra 2) 40 k1) &&& (rdL (gB ra 0) 40 k1)) (bitL k1))))) li re wa pi) := cgD xs20 hD
    refine lv_aload_n hx hb dX4_closeLoop_49 rfl (lv_at hl 1 rfl) ?_
    refine lv_dup hx hb dX4_closeLoop_50 rfl ?_
    refine va_get (D := D) (ci := 4) (v := .int (gi ra 0)) (C := RX4) (T := TX4) (N := 7) hx hb hg inGX4 hown hK hP 3 xo3 rfl 4 (by decide) (hg _ mw_133) (fun _ h9 => h9) (xvX4_4 (by simp only [gi_sl, gi_sA, gi_sB, gi_si_s, gi_si_n, gl_si, gl_sA, gl_sB, gl_sl_s, gl_sl_n, gA_si, gA_sl, gA_sB, gA_sA_s, gA_sA_n, gB_si, gB_sl, gB_sA, gB_sB_s, gB_sB_n, Nat.reduceBEq])) dX4_closeLoop_51 ?_
    refine lv_iconst (v := 1) hx hb dX4_closeLoop_54 (by decide) ?_
    refine lv_iadd hx hb dX4_closeLoop_55 ?_
    refine va_put (D := D) (ci := 4) (v := .int ((gi ra 0) + 1)) (C := RX4) (T := TX4) (N := 7) hx hb hg inGX4 tyX4 tyX4_ok nmX4 hown hK hP hD hS 3 xo3 rfl 4 (by decide) (hg _ mw_133) (fun _ h9 => h9) rfl (tyX4_ok 4 (by decide)) rfl rfl (Nat.le_of_ble_eq_true rfl) dX4_closeLoop_56 (fun H locs hP hD hS => ?_)
    have hP : va_P D vwCl (XW ad cI cJ co fl (si (sB ra 1 (wrL (gB ra 1) 40 k1 ((bitL k1) ||| (spread (gB ra 2) ((rdL (gB ra 2) 40 k1) &&& (rdL (gB ra 0) 40 k1)) (bitL k1))))) 0 ((gi ra 0) + 1)) li re wa pi) H := cgP xpX4_4 hP
    have hD : va_D A (XW ad cI cJ co fl (si (sB ra 1 (wrL (gB ra 1) 40 k1 ((bitL k1) ||| (spread (gB ra 2) ((rdL (gB ra 2) 40 k1) &&& (rdL (gB ra 0) 40 k1)) (bitL k1))))) 0 ((gi ra 0) + 1)) li re wa pi) := cgD xpX4_4 hD
    exact W.vret hx hb hr (fun t ht hW => ⟨⟨(XW ad cI cJ co fl (si (sB ra 1 (wrL (gB ra 1) 40 k1 ((bitL k1) ||| (spread (gB ra 2) ((rdL (gB ra 2) 40 k1) &&& (rdL (gB ra 0) 40 k1)) (bitL k1))))) 0 ((gi ra 0) + 1)) li re wa pi), rfl, xw_eq rfl rfl (show (si (sB ra 1 (wrL (gB ra 1) 40 k1 ((bitL k1) ||| (spread (gB ra 2) ((rdL (gB ra 2) 40 k1) &&& (rdL (gB ra 0) 40 k1)) (bitL k1))))) 0 ((gi ra 0) + 1)) = (closeLoop ra k1) from (by simp only [closeLoop, clEnds, eq_false c_21, gi_sl, gi_sA, gi_sB, gi_si_s, gi_si_n, gl_si, gl_sA, gl_sB, gl_sl_s, gl_sl_n, gA_si, gA_sl, gA_sB, gA_sA_s, gA_sA_n, gB_si, gB_sl, gB_sA, gB_sB_s, gB_sB_n, Nat.reduceBEq, if_true, if_false, eq_self, Bool.false_eq_true, Bool.true_eq_false, not_true_eq_false, not_false_eq_true, decide_true, decide_false, cond_true, cond_false, Bool.true_and, Bool.false_and, Bool.and_true, Bool.and_false, Bool.true_or, Bool.false_or, Bool.or_true, Bool.or_false, b2i_tt, b2i_ff, pr_eta]; done)) rfl rfl rfl rfl, ⟨by rw [ht]; exact hP, va_K.moved hW.alike hK, hD⟩⟩, hS.F ht⟩) hS.2.2 dX4_closeLoop_59
