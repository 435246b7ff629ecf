theorem dX5_isSingle_0 : decode cX5_isSingle 0 = .ok (.aload_n 0, 1) := by decide +kernel
theorem dX5_isSingle_1 : decode cX5_isSingle 1 = .ok (.getfield 25, 3) := by decide +kernel
theorem dX5_isSingle_4 : decode cX5_isSingle 4 = .ok (.iload_n 2, 1) := by decide +kernel
theorem dX5_isSingle_5 : decode cX5_isSingle 5 = .ok (.invokestatic 87, 3) := by decide +kernel
theorem dX5_isSingle_8 : decode cX5_isSingle 8 = .ok (.iload_n 1, 1) := by decide +kernel
theorem dX5_isSingle_9 : decode cX5_isSingle 9 = .ok (.if_icmp .ne 23, 3) := by decide +kernel
theorem dX5_isSingle_12 : decode cX5_isSingle 12 = .ok (.aload_n 0, 1) := by decide +kernel
theorem dX5_isSingle_13 : decode cX5_isSingle 13 = .ok (.getfield 9, 3) := by decide +kernel
theorem dX5_isSingle_16 : decode cX5_isSingle 16 = .ok (.iload_n 2, 1) := by decide +kernel
theorem dX5_isSingle_17 : decode cX5_isSingle 17 = .ok (.invokestatic 46, 3) := by decide +kernel
theorem dX5_isSingle_20 : decode cX5_isSingle 20 = .ok (.iload_n 3, 1) := by decide +kernel
theorem dX5_isSingle_21 : decode cX5_isSingle 21 = .ok (.invokestatic 72, 3) := by decide +kernel
theorem dX5_isSingle_24 : decode cX5_isSingle 24 = .ok (.lcmp, 1) := by decide +kernel
theorem dX5_isSingle_25 : decode cX5_isSingle 25 = .ok (.ifCond .ne 7, 3) := by decide +kernel
theorem dX5_isSingle_28 : decode cX5_isSingle 28 = .ok (.iconst 1, 1) := by decide +kernel
theorem dX5_isSingle_29 : decode cX5_isSingle 29 = .ok (.goto 4, 3) := by decide +kernel
theorem dX5_isSingle_32 : decode cX5_isSingle 32 = .ok (.iconst 0, 1) := by decide +kernel
theorem dX5_isSingle_33 : decode cX5_isSingle 33 = .ok (.ireturn, 1) := by decide +kernel
theorem mw_165 : Cond.fieldLink RX5 25 "OrielChart$Reduction" "entry" "[I" ∈ GW := gw_mem (inT1 _ (List.mem_of_getElem? (i := 185) rfl)) rfl
theorem mw_166 : Cond.fieldLink RX5 9 "OrielChart$Reduction" "next" "[J" ∈ GW := gw_mem (inT1 _ (List.mem_of_getElem? (i := 178) rfl)) rfl
set_option maxHeartbeats 4000000 in
set_option maxRecDepth 100000 in
theorem c_isSingle (l : Launch) (D : va_G) (cI cJ : ClassId) (ad : Nat → Nat) (co fl ra li re wa pi : Ob) (k1 : Int32) (k2 : Int32) (k3 : Int32) : CT l D (TY cI cJ) yX5_isSingle (.code yX5_isSingle cX5_isSingle 4 (some Jvm.ClassFile.FieldType.boolean)) 1 0 0 (XW ad cI cJ co fl ra li re wa pi) [.ref (ad 5), .int k1, .int k2, .int k3] (QI D (TY cI cJ) (fun r u => r = (b2i (isSingle re k1 k2 k3)) ∧ u = (XW ad cI cJ co fl ra li re wa pi))) := by
  refine ent (by decide) (Nat.le_of_ble_eq_true rfl) ?_
  intro p e s m below meth c ls A hx hb hr hg hown hml hlocks hnm hP hK hD hS hA hN hl
  have hl : lv_has ls 4 [(0, .ref (ad 5)), (1, .int k1), (2, .int k2), (3, .int k3)] := hl
  refine lv_aload_n hx hb dX5_isSingle_0 rfl (lv_at hl 0 rfl) ?_
  refine va_get (D := D) (ci := 5) (v := .ref (ad 28)) (C := RX5) (T := TX5) (N := 8) hx hb hg inGX5 hown hK hP 5 xo5 rfl 4 (by decide) (hg _ mw_165) (fun _ h9 => h9) xvX5_4 dX5_isSingle_1 ?_
  refine lv_iload_n hx hb dX5_isSingle_4 rfl (lv_at hl 2 rfl) ?_
  refine kI (rSN hx hb hml hown hg hN hK hP hD (c_at l D cI cJ (XW ad cI cJ co fl ra li re wa pi) 28 (ad 28) 41 (gA re 3) k2 (xg28 rfl) (by decide)) mw_84 nw_89 mw_85 mw_77 pd_X7_at ⟨Nat.le_of_ble_eq_true rfl, Nat.le_of_ble_eq_true rfl⟩ rfl hl.1 rfl (Nat.le_of_ble_eq_true rfl) dX5_isSingle_5 ⟨Nat.le_of_ble_eq_true rfl, Nat.le_of_ble_eq_true rfl⟩) hD hS hA (fun r_1 u_1 H locs hp hP hD hS => ?_)
  obtain ⟨er, eu⟩ := hp
  obtain rfl := er.symm
  obtain rfl := eu.symm
  refine lv_iload_n hx hb dX5_isSingle_8 rfl (lv_at hl 1 rfl) ?_
  refine lv_icmp_ne (tgt := 32) hx hb dX5_isSingle_9 (by decide) (fun c_9 => ?_) (fun c_9 => ?_)
  · refine lv_iconst (v := 0) hx hb dX5_isSingle_32 (by decide) ?_
    exact W.zret (v := 0) hx hb hr rfl (fun t ht hW => ⟨⟨0, (XW ad cI cJ co fl ra li re wa pi), rfl, ⟨(show (0 : Int32) = (b2i (isSingle re k1 k2 k3)) from (by simp only [isSingle, eq_false c_9, gi_sl, gi_sA, gi_sB, gi_si_s, gi_si_n, gl_si, gl_sA, gl_sB, gl_sl_s, gl_sl_n, gA_si, gA_sl, gA_sB, gA_sA_s, gA_sA_n, gB_si, gB_sl, gB_sA, gB_sB_s, gB_sB_n, Nat.reduceBEq, if_true, if_false, eq_self, Bool.false_eq_true, Bool.true_eq_false, not_true_eq_false, not_false_eq_true, decide_true, decide_false, cond_true, cond_false, Bool.true_and, Bool.false_and, Bool.and_true, Bool.and_false, Bool.true_or, Bool.false_or, Bool.or_true, Bool.or_false, b2i_tt, b2i_ff, pr_eta]; done)), xw_eq rfl rfl rfl rfl rfl rfl rfl⟩, ⟨by rw [ht]; exact hP, va_K.moved hW.alike hK, hD⟩⟩, hS.F ht⟩) hS.2.2 dX5_isSingle_33
  · refine lv_aload_n hx hb dX5_isSingle_12 rfl (lv_at hl 0 rfl) ?_
    refine va_get (D := D) (ci := 5) (v := .ref (ad 24)) (C := RX5) (T := TX5) (N := 8) hx hb hg inGX5 hown hK hP 5 xo5 rfl 0 (by decide) (hg _ mw_166) (fun _ h9 => h9) xvX5_0 dX5_isSingle_13 ?_
    refine lv_iload_n hx hb dX5_isSingle_16 rfl (lv_at hl 2 rfl) ?_
    refine kL (rSN hx hb hml hown hg hN hK hP hD (c_atL l D cI cJ (XW ad cI cJ co fl ra li re wa pi) 24 (ad 24) 40 (gB re 0) k2 (xg24 rfl) (by decide)) mw_81 nw_84 mw_83 mw_77 pd_X7_at_ ⟨Nat.le_of_ble_eq_true rfl, Nat.le_of_ble_eq_true rfl⟩ rfl hl.1 rfl (Nat.le_of_ble_eq_true rfl) dX5_isSingle_17 ⟨Nat.le_of_ble_eq_true rfl, Nat.le_of_ble_eq_true rfl⟩) hD hS hA (fun r_2 u_2 H locs hp hP hD hS => ?_)
    obtain ⟨er, eu⟩ := hp
    obtain rfl := er.symm
    obtain rfl := eu.symm
    refine lv_iload_n hx hb dX5_isSingle_20 rfl (lv_at hl 3 rfl) ?_
    refine kL (rSN hx hb hml hown hg hN hK hP hD (c_bit l D cI cJ (XW ad cI cJ co fl ra li re wa pi) k3) mw_78 nw_87 mw_80 mw_77 pd_X7_bit ⟨Nat.le_of_ble_eq_true rfl, Nat.le_of_ble_eq_true rfl⟩ rfl hl.1 rfl (Nat.le_of_ble_eq_true rfl) dX5_isSingle_21 ⟨Nat.le_of_ble_eq_true rfl, Nat.le_of_ble_eq_true rfl⟩) hD hS hA (fun r_3 u_3 H locs hp hP hD hS => ?_)
    obtain ⟨er, eu⟩ := hp
    obtain rfl := er.symm
    obtain rfl := eu.symm
    refine W.lcmp hx hb dX5_isSingle_24 ?_
    refine lv_if_ne (tgt := 32) hx hb dX5_isSingle_25 (by decide) (fun c_25 => ?_) (fun c_25 => ?_)
    · have c_25 : ¬ (rdL (gB re 0) 40 k2) = (bitL k3) := lcmp_1 c_25
      refine lv_iconst (v := 0) hx hb dX5_isSingle_32 (by decide) ?_
      exact W.zret (v := 0) hx hb hr rfl (fun t ht hW => ⟨⟨0, (XW ad cI cJ co fl ra li re wa pi), rfl, ⟨(show (0 : Int32) = (b2i (isSingle re k1 k2 k3)) from (by simp only [isSingle, eq_true c_9, eq_false c_25, gi_sl, gi_sA, gi_sB, gi_si_s, gi_si_n, gl_si, gl_sA, gl_sB, gl_sl_s, gl_sl_n, gA_si, gA_sl, gA_sB, gA_sA_s, gA_sA_n, gB_si, gB_sl, gB_sA, gB_sB_s, gB_sB_n, Nat.reduceBEq, if_true, if_false, eq_self, Bool.false_eq_true, Bool.true_eq_false, not_true_eq_false, not_false_eq_true, decide_true, decide_false, cond_true, cond_false, Bool.true_and, Bool.false_and, Bool.and_true, Bool.and_false, Bool.true_or, Bool.false_or, Bool.or_true, Bool.or_false, b2i_tt, b2i_ff, pr_eta]; done)), xw_eq rfl rfl rfl rfl rfl rfl rfl⟩, ⟨by rw [ht]; exact hP, va_K.moved hW.alike hK, hD⟩⟩, hS.F ht⟩) hS.2.2 dX5_isSingle_33
    · have c_25 : (rdL (gB re 0) 40 k2) = (bitL k3) := lcmp_0 c_25
      refine lv_iconst (v := 1) hx hb dX5_isSingle_28 (by decide) ?_
      refine lv_goto (tgt := 33) hx hb dX5_isSingle_29 (by decide) ?_
      exact W.zret (v := 1) hx hb hr rfl (fun t ht hW => ⟨⟨1, (XW ad cI cJ co fl ra li re wa pi), rfl, ⟨(show (1 : Int32) = (b2i (isSingle re k1 k2 k3)) from (by simp only [isSingle, eq_true c_9, eq_true c_25, gi_sl, gi_sA, gi_sB, gi_si_s, gi_si_n, gl_si, gl_sA, gl_sB, gl_sl_s, gl_sl_n, gA_si, gA_sl, gA_sB, gA_sA_s, gA_sA_n, gB_si, gB_sl, gB_sA, gB_sB_s, gB_sB_n, Nat.reduceBEq, if_true, if_false, eq_self, Bool.false_eq_true, Bool.true_eq_false, not_true_eq_false, not_false_eq_true, decide_true, decide_false, cond_true, cond_false, Bool.true_and, Bool.false_and, Bool.and_true, Bool.and_false, Bool.true_or, Bool.false_or, Bool.or_true, Bool.or_false, b2i_tt, b2i_ff, pr_eta]; done)), xw_eq rfl rfl rfl rfl rfl rfl rfl⟩, ⟨by rw [ht]; exact hP, va_K.moved hW.alike hK, hD⟩⟩, hS.F ht⟩) hS.2.2 dX5_isSingle_33
