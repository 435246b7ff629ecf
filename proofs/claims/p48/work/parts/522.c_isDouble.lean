theorem dX5_isDouble_0 : decode cX5_isDouble 0 = .ok (.aload_n 0, 1) := by decide +kernel
theorem dX5_isDouble_1 : decode cX5_isDouble 1 = .ok (.getfield 9, 3) := by decide +kernel
theorem dX5_isDouble_4 : decode cX5_isDouble 4 = .ok (.iload_n 2, 1) := by decide +kernel
theorem dX5_isDouble_5 : decode cX5_isDouble 5 = .ok (.invokestatic 46, 3) := by decide +kernel
theorem dX5_isDouble_8 : decode cX5_isDouble 8 = .ok (.lstore 4, 2) := by decide +kernel
theorem dX5_isDouble_10 : decode cX5_isDouble 10 = .ok (.aload_n 0, 1) := by decide +kernel
theorem dX5_isDouble_11 : decode cX5_isDouble 11 = .ok (.getfield 25, 3) := by decide +kernel
theorem dX5_isDouble_14 : decode cX5_isDouble 14 = .ok (.iload_n 2, 1) := by decide +kernel
theorem dX5_isDouble_15 : decode cX5_isDouble 15 = .ok (.invokestatic 87, 3) := by decide +kernel
theorem dX5_isDouble_18 : decode cX5_isDouble 18 = .ok (.iload_n 1, 1) := by decide +kernel
theorem dX5_isDouble_19 : decode cX5_isDouble 19 = .ok (.if_icmp .ne 64, 3) := by decide +kernel
theorem dX5_isDouble_22 : decode cX5_isDouble 22 = .ok (.aload_n 0, 1) := by decide +kernel
theorem dX5_isDouble_23 : decode cX5_isDouble 23 = .ok (.getfield 25, 3) := by decide +kernel
theorem dX5_isDouble_26 : decode cX5_isDouble 26 = .ok (.iload_n 3, 1) := by decide +kernel
theorem dX5_isDouble_27 : decode cX5_isDouble 27 = .ok (.invokestatic 87, 3) := by decide +kernel
theorem dX5_isDouble_30 : decode cX5_isDouble 30 = .ok (.iload_n 1, 1) := by decide +kernel
theorem dX5_isDouble_31 : decode cX5_isDouble 31 = .ok (.if_icmp .ne 52, 3) := by decide +kernel
theorem dX5_isDouble_34 : decode cX5_isDouble 34 = .ok (.lload 4, 2) := by decide +kernel
theorem dX5_isDouble_36 : decode cX5_isDouble 36 = .ok (.invokestatic 78, 3) := by decide +kernel
theorem dX5_isDouble_39 : decode cX5_isDouble 39 = .ok (.iconst 1, 1) := by decide +kernel
theorem dX5_isDouble_40 : decode cX5_isDouble 40 = .ok (.if_icmp .ne 43, 3) := by decide +kernel
theorem dX5_isDouble_43 : decode cX5_isDouble 43 = .ok (.lload 4, 2) := by decide +kernel
theorem dX5_isDouble_45 : decode cX5_isDouble 45 = .ok (.aload_n 0, 1) := by decide +kernel
theorem dX5_isDouble_46 : decode cX5_isDouble 46 = .ok (.getfield 9, 3) := by decide +kernel
theorem dX5_isDouble_49 : decode cX5_isDouble 49 = .ok (.iload_n 3, 1) := by decide +kernel
theorem dX5_isDouble_50 : decode cX5_isDouble 50 = .ok (.invokestatic 46, 3) := by decide +kernel
theorem dX5_isDouble_53 : decode cX5_isDouble 53 = .ok (.lcmp, 1) := by decide +kernel
theorem dX5_isDouble_54 : decode cX5_isDouble 54 = .ok (.ifCond .ne 29, 3) := by decide +kernel
theorem dX5_isDouble_57 : decode cX5_isDouble 57 = .ok (.lload 4, 2) := by decide +kernel
theorem dX5_isDouble_59 : decode cX5_isDouble 59 = .ok (.iload_n 1, 1) := by decide +kernel
theorem dX5_isDouble_60 : decode cX5_isDouble 60 = .ok (.invokestatic 72, 3) := by decide +kernel
theorem dX5_isDouble_63 : decode cX5_isDouble 63 = .ok (.iload_n 2, 1) := by decide +kernel
theorem dX5_isDouble_64 : decode cX5_isDouble 64 = .ok (.invokestatic 72, 3) := by decide +kernel
theorem dX5_isDouble_67 : decode cX5_isDouble 67 = .ok (.lor, 1) := by decide +kernel
theorem dX5_isDouble_68 : decode cX5_isDouble 68 = .ok (.iload_n 3, 1) := by decide +kernel
theorem dX5_isDouble_69 : decode cX5_isDouble 69 = .ok (.invokestatic 72, 3) := by decide +kernel
theorem dX5_isDouble_72 : decode cX5_isDouble 72 = .ok (.lor, 1) := by decide +kernel
theorem dX5_isDouble_73 : decode cX5_isDouble 73 = .ok (.land, 1) := by decide +kernel
theorem dX5_isDouble_74 : decode cX5_isDouble 74 = .ok (.lconst 0, 1) := by decide +kernel
theorem dX5_isDouble_75 : decode cX5_isDouble 75 = .ok (.lcmp, 1) := by decide +kernel
theorem dX5_isDouble_76 : decode cX5_isDouble 76 = .ok (.ifCond .ne 7, 3) := by decide +kernel
theorem dX5_isDouble_79 : decode cX5_isDouble 79 = .ok (.iconst 1, 1) := by decide +kernel
theorem dX5_isDouble_80 : decode cX5_isDouble 80 = .ok (.goto 4, 3) := by decide +kernel
theorem dX5_isDouble_83 : decode cX5_isDouble 83 = .ok (.iconst 0, 1) := by decide +kernel
theorem dX5_isDouble_84 : decode cX5_isDouble 84 = .ok (.ireturn, 1) := by decide +kernel
theorem mw_167 : Cond.methodLink RX5 78 yJ13_bitCount_95d88 ∈ GW := gw_mem (inT2 _ (List.mem_of_getElem? (i := 231) rfl)) rfl
set_option maxHeartbeats 4000000 in
set_option maxRecDepth 100000 in
theorem c_isDouble (l : Launch) (D : va_G) (cI cJ : ClassId) (ad : Nat → Nat) (co fl ra li re wa pi : Ob) (k1 : Int32) (k2 : Int32) (k3 : Int32) : CT l D (TY cI cJ) yX5_isDouble (.code yX5_isDouble cX5_isDouble 6 (some Jvm.ClassFile.FieldType.boolean)) 1 0 0 (XW ad cI cJ co fl ra li re wa pi) [.ref (ad 5), .int k1, .int k2, .int k3] (QI D (TY cI cJ) (fun r u => r = (b2i (isDouble re k1 k2 k3)) ∧ u = (XW ad cI cJ co fl ra li re wa pi))) := by
  refine ent (by decide) (Nat.le_of_ble_eq_true rfl) ?_
  intro p e s m below meth c ls A hx hb hr hg hown hml hlocks hnm hP hK hD hS hA hN hl
  have hl : lv_has ls 6 [(0, .ref (ad 5)), (1, .int k1), (2, .int k2), (3, .int k3)] := hl
  refine lv_aload_n hx hb dX5_isDouble_0 rfl (lv_at hl 0 rfl) ?_
  refine va_get (D := D) (ci := 5) (v := .ref (ad 24)) (C := RX5) (T := TX5) (N := 8) hx hb hg inGX5 hown hK hP 5 xo5 rfl 0 (by decide) (hg _ mw_166) (fun _ h9 => h9) xvX5_0 dX5_isDouble_1 ?_
  refine lv_iload_n hx hb dX5_isDouble_4 rfl (lv_at hl 2 rfl) ?_
  refine kL (rSN hx hb hml hown hg hN hK hP hD (c_atL l D cI cJ (XW ad cI cJ co fl ra li re wa pi) 24 (ad 24) 40 (gB re 0) k2 (xg24 rfl) (by decide)) mw_81 nw_84 mw_83 mw_77 pd_X7_at_ ⟨Nat.le_of_ble_eq_true rfl, Nat.le_of_ble_eq_true rfl⟩ rfl hl.1 rfl (Nat.le_of_ble_eq_true rfl) dX5_isDouble_5 ⟨Nat.le_of_ble_eq_true rfl, Nat.le_of_ble_eq_true rfl⟩) hD hS hA (fun r_1 u_1 H locs hp hP hD hS => ?_)
  obtain ⟨er, eu⟩ := hp
  obtain rfl := er.symm
  obtain rfl := eu.symm
  refine lv_lstore (lv' := [(4, .long (rdL (gB re 0) 40 k2)), (0, .ref (ad 5)), (1, .int k1), (2, .int k2), (3, .int k3)]) hx hb dX5_isDouble_8 hl (by decide) rfl (fun ls hl => ?_)
  refine lv_aload_n hx hb dX5_isDouble_10 rfl (lv_at hl 1 rfl) ?_
  refine va_get (D := D) (ci := 5) (v := .ref (ad 28)) (C := RX5) (T := TX5) (N := 8) hx hb hg inGX5 hown hK hP 5 xo5 rfl 4 (by decide) (hg _ mw_165) (fun _ h9 => h9) xvX5_4 dX5_isDouble_11 ?_
  refine lv_iload_n hx hb dX5_isDouble_14 rfl (lv_at hl 3 rfl) ?_
  refine kI (rSN hx hb hml hown hg hN hK hP hD (c_at l D cI cJ (XW ad cI cJ co fl ra li re wa pi) 28 (ad 28) 41 (gA re 3) k2 (xg28 rfl) (by decide)) mw_84 nw_89 mw_85 mw_77 pd_X7_at ⟨Nat.le_of_ble_eq_true rfl, Nat.le_of_ble_eq_true rfl⟩ rfl hl.1 rfl (Nat.le_of_ble_eq_true rfl) dX5_isDouble_15 ⟨Nat.le_of_ble_eq_true rfl, Nat.le_of_ble_eq_true rfl⟩) hD hS hA (fun r_2 u_2 H locs hp hP hD hS => ?_)
  obtain ⟨er, eu⟩ := hp
  obtain rfl := er.symm
  obtain rfl := eu.symm
  refine lv_iload_n hx hb dX5_isDouble_18 rfl (lv_at hl 2 rfl) ?_
  refine lv_icmp_ne (tgt := 83) hx hb dX5_isDouble_19 (by decide) (fun c_19 => ?_) (fun c_19 => ?_)
  · refine lv_iconst (v := 0) hx hb dX5_isDouble_83 (by decide) ?_
    exact W.zret (v := 0) hx hb hr rfl (fun t ht hW => ⟨⟨0, (XW ad cI cJ co fl ra li re wa pi), rfl, ⟨(show (0 : Int32) = (b2i (isDouble re k1 k2 k3)) from (by simp only [isDouble, eq_false c_19, gi_sl, gi_sA, gi_sB, gi_si_s, gi_si_n, gl_si, gl_sA, gl_sB, gl_sl_s, gl_sl_n, gA_si, gA_sl, gA_sB, gA_sA_s, gA_sA_n, gB_si, gB_sl, gB_sA, gB_sB_s, gB_sB_n, Nat.reduceBEq, if_true, if_false, eq_self, Bool.false_eq_true, Bool.true_eq_false, not_true_eq_false, not_false_eq_true, decide_true, decide_false, cond_true, cond_false, Bool.true_and, Bool.false_and, Bool.and_true, Bool.and_false, Bool.true_or, Bool.false_or, Bool.or_true, Bool.or_false, b2i_tt, b2i_ff, pr_eta]; done)), xw_eq rfl rfl rfl rfl rfl rfl rfl⟩, ⟨by rw [ht]; exact hP, va_K.moved hW.alike hK, hD⟩⟩, hS.F ht⟩) hS.2.2 dX5_isDouble_84
  · refine lv_aload_n hx hb dX5_isDouble_22 rfl (lv_at hl 1 rfl) ?_
    refine va_get (D := D) (ci := 5) (v := .ref (ad 28)) (C := RX5) (T := TX5) (N := 8) hx hb hg inGX5 hown hK hP 5 xo5 rfl 4 (by decide) (hg _ mw_165) (fun _ h9 => h9) xvX5_4 dX5_isDouble_23 ?_
    refine lv_iload_n hx hb dX5_isDouble_26 rfl (lv_at hl 4 rfl) ?_
    refine kI (rSN hx hb hml hown hg hN hK hP hD (c_at l D cI cJ (XW ad cI cJ co fl ra li re wa pi) 28 (ad 28) 41 (gA re 3) k3 (xg28 rfl) (by decide)) mw_84 nw_89 mw_85 mw_77 pd_X7_at ⟨Nat.le_of_ble_eq_true rfl, Nat.le_of_ble_eq_true rfl⟩ rfl hl.1 rfl (Nat.le_of_ble_eq_true rfl) dX5_isDouble_27 ⟨Nat.le_of_ble_eq_true rfl, Nat.le_of_ble_eq_true rfl⟩) hD hS hA (fun r_3 u_3 H locs hp hP hD hS => ?_)
    obtain ⟨er, eu⟩ := hp
    obtain rfl := er.symm
    obtain rfl := eu.symm
    refine lv_iload_n hx hb dX5_isDouble_30 rfl (lv_at hl 2 rfl) ?_
    refine lv_icmp_ne (tgt := 83) hx hb dX5_isDouble_31 (by decide) (fun c_31 => ?_) (fun c_31 => ?_)
    · refine lv_iconst (v := 0) hx hb dX5_isDouble_83 (by decide) ?_
      exact W.zret (v := 0) hx hb hr rfl (fun t ht hW => ⟨⟨0, (XW ad cI cJ co fl ra li re wa pi), rfl, ⟨(show (0 : Int32) = (b2i (isDouble re k1 k2 k3)) from (by simp only [isDouble, eq_true c_19, eq_false c_31, gi_sl, gi_sA, gi_sB, gi_si_s, gi_si_n, gl_si, gl_sA, gl_sB, gl_sl_s, gl_sl_n, gA_si, gA_sl, gA_sB, gA_sA_s, gA_sA_n, gB_si, gB_sl, gB_sA, gB_sB_s, gB_sB_n, Nat.reduceBEq, if_true, if_false, eq_self, Bool.false_eq_true, Bool.true_eq_false, not_true_eq_false, not_false_eq_true, decide_true, decide_false, cond_true, cond_false, Bool.true_and, Bool.false_and, Bool.and_true, Bool.and_false, Bool.true_or, Bool.false_or, Bool.or_true, Bool.or_false, b2i_tt, b2i_ff, pr_eta]; done)), xw_eq rfl rfl rfl rfl rfl rfl rfl⟩, ⟨by rw [ht]; exact hP, va_K.moved hW.alike hK, hD⟩⟩, hS.F ht⟩) hS.2.2 dX5_isDouble_84
    · refine lv_lload hx hb dX5_isDouble_34 (lv_at hl 0 rfl) ?_
      refine kI (rS hx hb hml hown hg hN hK hP hD (c_bitCount l D cI cJ (XW ad cI cJ co fl ra li re wa pi) (rdL (gB re 0) 40 k2)) mw_68 mw_167 mw_70 mw_71 pd_J13_bitCount_95d88 ⟨Nat.le_of_ble_eq_true rfl, Nat.le_of_ble_eq_true rfl⟩ rfl hl.1 rfl (Nat.le_of_ble_eq_true rfl) dX5_isDouble_36 ⟨Nat.le_of_ble_eq_true rfl, Nat.le_of_ble_eq_true rfl⟩) hD hS hA (fun r_4 u_4 H locs hp hP hD hS => ?_)
      obtain ⟨er, eu⟩ := hp
      obtain rfl := er.symm
      obtain rfl := eu.symm
      refine lv_iconst (v := 1) hx hb dX5_isDouble_39 (by decide) ?_
      refine lv_icmp_ne (tgt := 83) hx hb dX5_isDouble_40 (by decide) (fun c_40 => ?_) (fun c_40 => ?_)
      · refine lv_iconst (v := 0) hx hb dX5_isDouble_83 (by decide) ?_
        exact W.zret (v := 0) hx hb hr rfl (fun t ht hW => ⟨⟨0, (XW ad cI cJ co fl ra li re wa pi), rfl, ⟨(show (0 : Int32) = (b2i (isDouble re k1 k2 k3)) from (by simp only [isDouble, eq_true c_19, eq_true c_31, eq_false c_40, gi_sl, gi_sA, gi_sB, gi_si_s, gi_si_n, gl_si, gl_sA, gl_sB, gl_sl_s, gl_sl_n, gA_si, gA_sl, gA_sB, gA_sA_s, gA_sA_n, gB_si, gB_sl, gB_sA, gB_sB_s, gB_sB_n, Nat.reduceBEq, if_true, if_false, eq_self, Bool.false_eq_true, Bool.true_eq_false, not_true_eq_false, not_false_eq_true, decide_true, decide_false, cond_true, cond_false, Bool.true_and, Bool.false_and, Bool.and_true, Bool.and_false, Bool.true_or, Bool.false_or, Bool.or_true, Bool.or_false, b2i_tt, b2i_ff, pr_eta]; done)), xw_eq rfl rfl rfl rfl rfl rfl rfl⟩, ⟨by rw [ht]; exact hP, va_K.moved hW.alike hK, hD⟩⟩, hS.F ht⟩) hS.2.2 dX5_isDouble_84
      · refine lv_lload hx hb dX5_isDouble_43 (lv_at hl 0 rfl) ?_
        refine lv_aload_n hx hb dX5_isDouble_45 rfl (lv_at hl 1 rfl) ?_
        refine va_get (D := D) (ci := 5) (v := .ref (ad 24)) (C := RX5) (T := TX5) (N := 8) hx hb hg inGX5 hown hK hP 5 xo5 rfl 0 (by decide) (hg _ mw_166) (fun _ h9 => h9) xvX5_0 dX5_isDouble_46 ?_
        refine lv_iload_n hx hb dX5_isDouble_49 rfl (lv_at hl 4 rfl) ?_
        refine kL (rSN hx hb hml hown hg hN hK hP hD (c_atL l D cI cJ (XW ad cI cJ co fl ra li re wa pi) 24 (ad 24) 40 (gB re 0) k3 (xg24 rfl) (by decide)) mw_81 nw_84 mw_83 mw_77 pd_X7_at_ ⟨Nat.le_of_ble_eq_true rfl, Nat.le_of_ble_eq_true rfl⟩ rfl hl.1 rfl (Nat.le_of_ble_eq_true rfl) dX5_isDouble_50 ⟨Nat.le_of_ble_eq_true rfl, Nat.le_of_ble_eq_true rfl⟩) hD hS hA (fun r_5 u_5 H locs hp hP hD hS => ?_)
        obtain ⟨er, eu⟩ := hp
        obtain rfl := er.symm
        obtain rfl := eu.symm
        refine W.lcmp hx hb dX5_isDouble_53 ?_
        refine lv_if_ne (tgt := 83) hx hb dX5_isDouble_54 (by decide) (fun c_54 => ?_) (fun c_54 => ?_)
        · have c_54 : ¬ (rdL (gB re 0) 40 k2) = (rdL (gB re 0) 40 k3) := lcmp_1 c_54
          refine lv_iconst (v := 0) hx hb dX5_isDouble_83 (by decide) ?_
          exact W.zret (v := 0) hx hb hr rfl (fun t ht hW => ⟨⟨0, (XW ad cI cJ co fl ra li re wa pi), rfl, ⟨(show (0 : Int32) = (b2i (isDouble re k1 k2 k3)) from (by simp only [isDouble, eq_true c_19, eq_true c_31, eq_true c_40, eq_false c_54, gi_sl, gi_sA, gi_sB, gi_si_s, gi_si_n, gl_si, gl_sA, gl_sB, gl_sl_s, gl_sl_n, gA_si, gA_sl, gA_sB, gA_sA_s, gA_sA_n, gB_si, gB_sl, gB_sA, gB_sB_s, gB_sB_n, Nat.reduceBEq, if_true, if_false, eq_self, Bool.false_eq_true, Bool.true_eq_false, not_true_eq_false, not_false_eq_true, decide_true, decide_false, cond_true, cond_false, Bool.true_and, Bool.false_and, Bool.and_true, Bool.and_false, Bool.true_or, Bool.false_or, Bool.or_true, Bool.or_false, b2i_tt, b2i_ff, pr_eta]; done)), xw_eq rfl rfl rfl rfl rfl rfl rfl⟩, ⟨by rw [ht]; exact hP, va_K.moved hW.alike hK, hD⟩⟩, hS.F ht⟩) hS.2.2 dX5_isDouble_84
        · have c_54 : (rdL (gB re 0) 40 k2) = (rdL (gB re 0) 40 k3) := lcmp_0 c_54
          refine lv_lload hx hb dX5_isDouble_57 (lv_at hl 0 rfl) ?_
          refine lv_iload_n hx hb dX5_isDouble_59 rfl (lv_at hl 2 rfl) ?_
          refine kL (rSN hx hb hml hown hg hN hK hP hD (c_bit l D cI cJ (XW ad cI cJ co fl ra li re wa pi) k1) mw_78 nw_87 mw_80 mw_77 pd_X7_bit ⟨Nat.le_of_ble_eq_true rfl, Nat.le_of_ble_eq_true rfl⟩ rfl hl.1 rfl (Nat.le_of_ble_eq_true rfl) dX5_isDouble_60 ⟨Nat.le_of_ble_eq_true rfl, Nat.le_of_ble_eq_true rfl⟩) hD hS hA (fun r_6 u_6 H locs hp hP hD hS => ?_)
          obtain ⟨er, eu⟩ := hp
          obtain rfl := er.symm
          obtain rfl := eu.symm
          refine lv_iload_n hx hb dX5_isDouble_63 rfl (lv_at hl 3 rfl) ?_
          refine kL (rSN hx hb hml hown hg hN hK hP hD (c_bit l D cI cJ (XW ad cI cJ co fl ra li re wa pi) k2) mw_78 nw_87 mw_80 mw_77 pd_X7_bit ⟨Nat.le_of_ble_eq_true rfl, Nat.le_of_ble_eq_true rfl⟩ rfl hl.1 rfl (Nat.le_of_ble_eq_true rfl) dX5_isDouble_64 ⟨Nat.le_of_ble_eq_true rfl, Nat.le_of_ble_eq_true rfl⟩) hD hS hA (fun r_7 u_7 H locs hp hP hD hS => ?_)
          obtain ⟨er, eu⟩ := hp
          obtain rfl := er.symm
          obtain rfl := eu.symm
          refine lv_lor hx hb dX5_isDouble_67 ?_
          refine lv_iload_n hx hb dX5_isDouble_68 rfl (lv_at hl 4 rfl) ?_
          refine kL (rSN hx hb hml hown hg hN hK hP hD (c_bit l D cI cJ (XW ad cI cJ co fl ra li re wa pi) k3) mw_78 nw_87 mw_80 mw_77 pd_X7_bit ⟨Nat.le_of_ble_eq_true rfl, Nat.le_of_ble_eq_true rfl⟩ rfl hl.1 rfl (Nat.le_of_ble_eq_true rfl) dX5_isDouble_69 ⟨Nat.le_of_ble_eq_true rfl, Nat.le_of_ble_eq_true rfl⟩) hD hS hA (fun r_8 u_8 H locs hp hP hD hS => ?_)
          obtain ⟨er, eu⟩ := hp
          obtain rfl := er.symm
          obtain rfl := eu.symm
          refine lv_lor hx hb dX5_isDouble_72 ?_
          refine lv_land hx hb dX5_isDouble_73 ?_
          refine lv_lconst (v := 0) hx hb dX5_isDouble_74 (by decide) ?_
          refine W.lcmp hx hb dX5_isDouble_75 ?_
          refine lv_if_ne (tgt := 83) hx hb dX5_isDouble_76 (by decide) (fun c_76 => ?_) (fun c_76 => ?_)
          · have c_76 : ¬ ((rdL (gB re 0) 40 k2) &&& (((bitL k1) ||| (bitL k2)) ||| (bitL k3))) = 0 := lcmp_1 c_76
            refine lv_iconst (v := 0) hx hb dX5_isDouble_83 (by decide) ?_
            exact W.zret (v := 0) hx hb hr rfl (fun t ht hW => ⟨⟨0, (XW ad cI cJ co fl ra li re wa pi), rfl, ⟨(show (0 : Int32) = (b2i (isDouble re k1 k2 k3)) from (by simp only [isDouble, eq_true c_19, eq_true c_31, eq_true c_40, eq_true c_54, eq_false c_76, gi_sl, gi_sA, gi_sB, gi_si_s, gi_si_n, gl_si, gl_sA, gl_sB, gl_sl_s, gl_sl_n, gA_si, gA_sl, gA_sB, gA_sA_s, gA_sA_n, gB_si, gB_sl, gB_sA, gB_sB_s, gB_sB_n, Nat.reduceBEq, if_true, if_false, eq_self, Bool.false_eq_true, Bool.true_eq_false, not_true_eq_false, not_false_eq_true, decide_true, decide_false, cond_true, cond_false, Bool.true_and, Bool.false_and, Bool.and_true, Bool.and_false, Bool.true_or, Bool.false_or, Bool.or_true, Bool.or_false, b2i_tt, b2i_ff, pr_eta]; done)), xw_eq rfl rfl rfl rfl rfl rfl rfl⟩, ⟨by rw [ht]; exact hP, va_K.moved hW.alike hK, hD⟩⟩, hS.F ht⟩) hS.2.2 dX5_isDouble_84
          · have c_76 : ((rdL (gB re 0) 40 k2) &&& (((bitL k1) ||| (bitL k2)) ||| (bitL k3))) = 0 := lcmp_0 c_76
            refine lv_iconst (v := 1) hx hb dX5_isDouble_79 (by decide) ?_
            refine lv_goto (tgt := 84) hx hb dX5_isDouble_80 (by decide) ?_
            exact W.zret (v := 1) hx hb hr rfl (fun t ht hW => ⟨⟨1, (XW ad cI cJ co fl ra li re wa pi), rfl, ⟨(show (1 : Int32) = (b2i (isDouble re k1 k2 k3)) from (by simp only [isDouble, eq_true c_19, eq_true c_31, eq_true c_40, eq_true c_54, eq_true c_76, gi_sl, gi_sA, gi_sB, gi_si_s, gi_si_n, gl_si, gl_sA, gl_sB, gl_sl_s, gl_sl_n, gA_si, gA_sl, gA_sB, gA_sA_s, gA_sA_n, gB_si, gB_sl, gB_sA, gB_sB_s, gB_sB_n, Nat.reduceBEq, if_true, if_false, eq_self, Bool.false_eq_true, Bool.true_eq_false, not_true_eq_false, not_false_eq_true, decide_true, decide_false, cond_true, cond_false, Bool.true_and, Bool.false_and, Bool.and_true, Bool.and_false, Bool.true_or, Bool.false_or, Bool.or_true, Bool.or_false, b2i_tt, b2i_ff, pr_eta]; done)), xw_eq rfl rfl rfl rfl rfl rfl rfl⟩, ⟨by rw [ht]; exact hP, va_K.moved hW.alike hK, hD⟩⟩, hS.F ht⟩) hS.2.2 dX5_isDouble_84
