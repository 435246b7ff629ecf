theorem dX6_goOn_0 : decode cX6_goOn 0 = .ok (.aload_n 0, 1) := by decide +kernel
theorem dX6_goOn_1 : decode cX6_goOn 1 = .ok (.getfield 24, 3) := by decide +kernel
theorem dX6_goOn_4 : decode cX6_goOn 4 = .ok (.iload_n 2, 1) := by decide +kernel
theorem dX6_goOn_5 : decode cX6_goOn 5 = .ok (.invokestatic 54, 3) := by decide +kernel
theorem dX6_goOn_8 : decode cX6_goOn 8 = .ok (.istore_n 3, 1) := by decide +kernel
theorem dX6_goOn_9 : decode cX6_goOn 9 = .ok (.iload_n 3, 1) := by decide +kernel
theorem dX6_goOn_10 : decode cX6_goOn 10 = .ok (.aload_n 1, 1) := by decide +kernel
theorem dX6_goOn_11 : decode cX6_goOn 11 = .ok (.getfield 61, 3) := by decide +kernel
theorem dX6_goOn_14 : decode cX6_goOn 14 = .ok (.iload_n 2, 1) := by decide +kernel
theorem dX6_goOn_15 : decode cX6_goOn 15 = .ok (.iconst 1, 1) := by decide +kernel
theorem dX6_goOn_16 : decode cX6_goOn 16 = .ok (.iadd, 1) := by decide +kernel
theorem dX6_goOn_17 : decode cX6_goOn 17 = .ok (.invokestatic 54, 3) := by decide +kernel
theorem dX6_goOn_20 : decode cX6_goOn 20 = .ok (.if_icmp .lt 31, 3) := by decide +kernel
theorem dX6_goOn_23 : decode cX6_goOn 23 = .ok (.aload_n 0, 1) := by decide +kernel
theorem dX6_goOn_24 : decode cX6_goOn 24 = .ok (.dup, 1) := by decide +kernel
theorem dX6_goOn_25 : decode cX6_goOn 25 = .ok (.getfield 31, 3) := by decide +kernel
theorem dX6_goOn_28 : decode cX6_goOn 28 = .ok (.iconst 1, 1) := by decide +kernel
theorem dX6_goOn_29 : decode cX6_goOn 29 = .ok (.isub, 1) := by decide +kernel
theorem dX6_goOn_30 : decode cX6_goOn 30 = .ok (.putfield 31, 3) := by decide +kernel
theorem dX6_goOn_33 : decode cX6_goOn 33 = .ok (.aload_n 0, 1) := by decide +kernel
theorem dX6_goOn_34 : decode cX6_goOn 34 = .ok (.dup, 1) := by decide +kernel
theorem dX6_goOn_35 : decode cX6_goOn 35 = .ok (.getfield 38, 3) := by decide +kernel
theorem dX6_goOn_38 : decode cX6_goOn 38 = .ok (.iload_n 2, 1) := by decide +kernel
theorem dX6_goOn_39 : decode cX6_goOn 39 = .ok (.invokestatic 64, 3) := by decide +kernel
theorem dX6_goOn_42 : decode cX6_goOn 42 = .ok (.ldc2_w 68, 3) := by decide +kernel
theorem dX6_goOn_45 : decode cX6_goOn 45 = .ok (.lxor, 1) := by decide +kernel
theorem dX6_goOn_46 : decode cX6_goOn 46 = .ok (.land, 1) := by decide +kernel
theorem dX6_goOn_47 : decode cX6_goOn 47 = .ok (.putfield 38, 3) := by decide +kernel
theorem dX6_goOn_50 : decode cX6_goOn 50 = .ok (.return_, 1) := by decide +kernel
theorem dX6_goOn_51 : decode cX6_goOn 51 = .ok (.aload_n 0, 1) := by decide +kernel
theorem dX6_goOn_52 : decode cX6_goOn 52 = .ok (.getfield 24, 3) := by decide +kernel
theorem dX6_goOn_55 : decode cX6_goOn 55 = .ok (.iload_n 2, 1) := by decide +kernel
theorem dX6_goOn_56 : decode cX6_goOn 56 = .ok (.iload_n 3, 1) := by decide +kernel
theorem dX6_goOn_57 : decode cX6_goOn 57 = .ok (.iconst 1, 1) := by decide +kernel
theorem dX6_goOn_58 : decode cX6_goOn 58 = .ok (.iadd, 1) := by decide +kernel
theorem dX6_goOn_59 : decode cX6_goOn 59 = .ok (.invokestatic 41, 3) := by decide +kernel
theorem dX6_goOn_62 : decode cX6_goOn 62 = .ok (.aload_n 1, 1) := by decide +kernel
theorem dX6_goOn_63 : decode cX6_goOn 63 = .ok (.getfield 70, 3) := by decide +kernel
theorem dX6_goOn_66 : decode cX6_goOn 66 = .ok (.iload_n 3, 1) := by decide +kernel
theorem dX6_goOn_67 : decode cX6_goOn 67 = .ok (.invokestatic 54, 3) := by decide +kernel
theorem dX6_goOn_70 : decode cX6_goOn 70 = .ok (.istore 4, 2) := by decide +kernel
theorem dX6_goOn_72 : decode cX6_goOn 72 = .ok (.iload 4, 2) := by decide +kernel
theorem dX6_goOn_74 : decode cX6_goOn 74 = .ok (.ifCond .lt 9, 3) := by decide +kernel
theorem dX6_goOn_77 : decode cX6_goOn 77 = .ok (.iload 4, 2) := by decide +kernel
theorem dX6_goOn_79 : decode cX6_goOn 79 = .ok (.iload_n 2, 1) := by decide +kernel
theorem dX6_goOn_80 : decode cX6_goOn 80 = .ok (.if_icmp .ne 4, 3) := by decide +kernel
theorem dX6_goOn_83 : decode cX6_goOn 83 = .ok (.return_, 1) := by decide +kernel
theorem dX6_goOn_84 : decode cX6_goOn 84 = .ok (.aload_n 0, 1) := by decide +kernel
theorem dX6_goOn_85 : decode cX6_goOn 85 = .ok (.getfield 38, 3) := by decide +kernel
theorem dX6_goOn_88 : decode cX6_goOn 88 = .ok (.iload 4, 2) := by decide +kernel
theorem dX6_goOn_90 : decode cX6_goOn 90 = .ok (.invokestatic 73, 3) := by decide +kernel
theorem dX6_goOn_93 : decode cX6_goOn 93 = .ok (.istore 5, 2) := by decide +kernel
theorem dX6_goOn_95 : decode cX6_goOn 95 = .ok (.aload_n 0, 1) := by decide +kernel
theorem dX6_goOn_96 : decode cX6_goOn 96 = .ok (.getfield 15, 3) := by decide +kernel
theorem dX6_goOn_99 : decode cX6_goOn 99 = .ok (.iload_n 3, 1) := by decide +kernel
theorem dX6_goOn_100 : decode cX6_goOn 100 = .ok (.iload 5, 2) := by decide +kernel
theorem dX6_goOn_102 : decode cX6_goOn 102 = .ok (.ifCond .eq 8, 3) := by decide +kernel
theorem dX6_goOn_105 : decode cX6_goOn 105 = .ok (.iload 4, 2) := by decide +kernel
theorem dX6_goOn_107 : decode cX6_goOn 107 = .ok (.goto 4, 3) := by decide +kernel
theorem dX6_goOn_110 : decode cX6_goOn 110 = .ok (.iload_n 2, 1) := by decide +kernel
theorem dX6_goOn_111 : decode cX6_goOn 111 = .ok (.invokestatic 41, 3) := by decide +kernel
theorem dX6_goOn_114 : decode cX6_goOn 114 = .ok (.aload_n 0, 1) := by decide +kernel
theorem dX6_goOn_115 : decode cX6_goOn 115 = .ok (.getfield 18, 3) := by decide +kernel
theorem dX6_goOn_118 : decode cX6_goOn 118 = .ok (.iload_n 3, 1) := by decide +kernel
theorem dX6_goOn_119 : decode cX6_goOn 119 = .ok (.iload 5, 2) := by decide +kernel
theorem dX6_goOn_121 : decode cX6_goOn 121 = .ok (.ifCond .eq 7, 3) := by decide +kernel
theorem dX6_goOn_124 : decode cX6_goOn 124 = .ok (.iload_n 2, 1) := by decide +kernel
theorem dX6_goOn_125 : decode cX6_goOn 125 = .ok (.goto 5, 3) := by decide +kernel
theorem dX6_goOn_128 : decode cX6_goOn 128 = .ok (.iload 4, 2) := by decide +kernel
theorem dX6_goOn_130 : decode cX6_goOn 130 = .ok (.invokestatic 41, 3) := by decide +kernel
theorem dX6_goOn_133 : decode cX6_goOn 133 = .ok (.aload_n 0, 1) := by decide +kernel
theorem dX6_goOn_134 : decode cX6_goOn 134 = .ok (.getfield 34, 3) := by decide +kernel
theorem dX6_goOn_137 : decode cX6_goOn 137 = .ok (.iload 4, 2) := by decide +kernel
theorem dX6_goOn_139 : decode cX6_goOn 139 = .ok (.invokestatic 73, 3) := by decide +kernel
theorem dX6_goOn_142 : decode cX6_goOn 142 = .ok (.ifCond .ne 10, 3) := by decide +kernel
theorem dX6_goOn_145 : decode cX6_goOn 145 = .ok (.aload_n 0, 1) := by decide +kernel
theorem dX6_goOn_146 : decode cX6_goOn 146 = .ok (.aload_n 1, 1) := by decide +kernel
theorem dX6_goOn_147 : decode cX6_goOn 147 = .ok (.iload 4, 2) := by decide +kernel
theorem dX6_goOn_149 : decode cX6_goOn 149 = .ok (.invokevirtual 50, 3) := by decide +kernel
theorem dX6_goOn_152 : decode cX6_goOn 152 = .ok (.return_, 1) := by decide +kernel
theorem mw_216 : Cond.fieldLink RX6 18 "OrielChart$Walk" "lower" "[I" ∈ GW := gw_mem (inT1 _ (List.mem_of_getElem? (i := 224) rfl)) rfl
theorem mw_217 : Cond.code yX6_enter cX6_enter 3 (none : Option FieldType) ∈ GW := gw_mem (inT3 _ (List.mem_of_getElem? (i := 26) rfl)) rfl
theorem mw_218 : Cond.methodLink RX6 50 yX6_enter ∈ GW := gw_mem (inT3 _ (List.mem_of_getElem? (i := 23) rfl)) rfl
theorem mw_219 : Cond.instanceMethod yX6_enter ∈ GW := gw_mem (inT3 _ (List.mem_of_getElem? (i := 25) rfl)) rfl
theorem mw_220 : Cond.selects RX6 yX6_enter yX6_enter ∈ GW := gw_mem (inTp (q := (yX6_enter, 9)) (List.mem_of_getElem? (i := 20) rfl)) rfl
theorem mw_221 : Cond.constantLong RX6 68 (-1) ∈ GW := gw_mem (inT3 _ (List.mem_of_getElem? (i := 33) rfl)) rfl
theorem pdv_X6_enter : yX6_enter.cls = RX6 ∧ yX6_enter.cls ≠ "java/lang/invoke/MethodHandle" ∧ yX6_enter.cls ≠ "java/lang/invoke/VarHandle" ∧ (parseMethodDescriptor yX6_enter.desc).map (fun d => d.parameters.length) = some 2 := by decide +kernel
set_option maxHeartbeats 4000000 in
set_option maxRecDepth 100000 in
theorem c_goOn (l : Launch) (D : va_G) (cI cJ : ClassId) (ad : Nat → Nat) (co fl ra li re wa pi : Ob) (k1 : Int32) : CT l D (TY cI cJ) yX6_goOn (.code yX6_goOn cX6_goOn 6 (none : Option FieldType)) 2 0 0 (XW ad cI cJ co fl ra li re wa pi) [.ref (ad 7), .ref (ad 2), .int k1] (QV D (TY cI cJ) (fun u => u = (XW ad cI cJ co fl ra li re (goOn fl wa k1) pi))) := by
  refine ent (by decide) (Nat.le_of_ble_eq_true rfl) ?_
  intro p e s m below meth c ls A hx hb hr hg hown hml hlocks hnm hP hK hD hS hA hN hl
  have hl : lv_has ls 6 [(0, .ref (ad 7)), (1, .ref (ad 2)), (2, .int k1)] := hl
  refine lv_aload_n hx hb dX6_goOn_0 rfl (lv_at hl 0 rfl) ?_
  refine va_get (D := D) (ci := 6) (v := .ref (ad 33)) (C := RX6) (T := TX6) (N := 9) hx hb hg inGX6 hown hK hP 7 xo7 rfl 4 (by decide) (hg _ mw_213) (fun _ h9 => h9) xvX6_4 dX6_goOn_1 ?_
  refine lv_iload_n hx hb dX6_goOn_4 rfl (lv_at hl 2 rfl) ?_
  refine kI (rSN hx hb hml hown hg hN hK hP hD (c_at l D cI cJ (XW ad cI cJ co fl ra li re wa pi) 33 (ad 33) 40 (gA wa 4) k1 (xg33 rfl) (by decide)) mw_84 nw_91 mw_85 mw_77 pd_X7_at ⟨Nat.le_of_ble_eq_true rfl, Nat.le_of_ble_eq_true rfl⟩ rfl hl.1 rfl (Nat.le_of_ble_eq_true rfl) dX6_goOn_5 ⟨Nat.le_of_ble_eq_true rfl, Nat.le_of_ble_eq_true rfl⟩) hD hS hA (fun r_1 u_1 H locs hp hP hD hS => ?_)
  obtain ⟨er, eu⟩ := hp
  obtain rfl := er.symm
  obtain rfl := eu.symm
  refine lv_istore_n (lv' := [(3, .int (rd (gA wa 4) 40 k1)), (0, .ref (ad 7)), (1, .ref (ad 2)), (2, .int k1)]) hx hb dX6_goOn_8 rfl hl (by decide) rfl (fun ls hl => ?_)
  refine lv_iload_n hx hb dX6_goOn_9 rfl (lv_at hl 0 rfl) ?_
  refine lv_aload_n hx hb dX6_goOn_10 rfl (lv_at hl 2 rfl) ?_
  refine va_getN (D := D) (ci := 1) (v := .ref (ad 17)) (C := RX1) (T := TX1) (N := 11) hx hb hg inGX1 hown hK hP 2 xo2 rfl 5 (by decide) (hN.use nw_21) (fun _ h9 => h9) xvX1_5 dX6_goOn_11 ?_
  refine lv_iload_n hx hb dX6_goOn_14 rfl (lv_at hl 3 rfl) ?_
  refine lv_iconst (v := 1) hx hb dX6_goOn_15 (by decide) ?_
  refine lv_iadd hx hb dX6_goOn_16 ?_
  refine kI (rSN hx hb hml hown hg hN hK hP hD (c_at l D cI cJ (XW ad cI cJ co fl ra li re wa pi) 17 (ad 17) 41 (gA fl 5) (k1 + 1) (xg17 rfl) (by decide)) mw_84 nw_91 mw_85 mw_77 pd_X7_at ⟨Nat.le_of_ble_eq_true rfl, Nat.le_of_ble_eq_true rfl⟩ rfl hl.1 rfl (Nat.le_of_ble_eq_true rfl) dX6_goOn_17 ⟨Nat.le_of_ble_eq_true rfl, Nat.le_of_ble_eq_true rfl⟩) hD hS hA (fun r_2 u_2 H locs hp hP hD hS => ?_)
  obtain ⟨er, eu⟩ := hp
  obtain rfl := er.symm
  obtain rfl := eu.symm
  refine lv_icmp_lt (tgt := 51) hx hb dX6_goOn_20 (by decide) (fun c_20 => ?_) (fun c_20 => ?_)
  · refine lv_aload_n hx hb dX6_goOn_51 rfl (lv_at hl 1 rfl) ?_
    refine va_get (D := D) (ci := 6) (v := .ref (ad 33)) (C := RX6) (T := TX6) (N := 9) hx hb hg inGX6 hown hK hP 7 xo7 rfl 4 (by decide) (hg _ mw_213) (fun _ h9 => h9) xvX6_4 dX6_goOn_52 ?_
    refine lv_iload_n hx hb dX6_goOn_55 rfl (lv_at hl 3 rfl) ?_
    refine lv_iload_n hx hb dX6_goOn_56 rfl (lv_at hl 0 rfl) ?_
    refine lv_iconst (v := 1) hx hb dX6_goOn_57 (by decide) ?_
    refine lv_iadd hx hb dX6_goOn_58 ?_
    refine kV (rSN hx hb hml hown hg hN hK hP hD (c_put l D cI cJ (XW ad cI cJ co fl ra li re wa pi) 33 (ad 33) 40 (gA wa 4) k1 ((rd (gA wa 4) 40 k1) + 1) (xg33 rfl) (by decide)) mw_92 nw_90 mw_93 mw_77 pd_X7_put ⟨Nat.le_of_ble_eq_true rfl, Nat.le_of_ble_eq_true rfl⟩ rfl hl.1 rfl (Nat.le_of_ble_eq_true rfl) dX6_goOn_59 ⟨Nat.le_of_ble_eq_true rfl, Nat.le_of_ble_eq_true rfl⟩) hD hS hA (fun u_3 H locs hp hP hD hS => ?_)
    obtain rfl := hp.symm
    have hP : va_P D vwCl (XW ad cI cJ co fl ra li re (sA wa 4 (wr (gA wa 4) 40 k1 ((rd (gA wa 4) 40 k1) + 1))) pi) H := cgP xs33 hP
    have hD : va_D A (XW ad cI cJ co fl ra li re (sA wa 4 (wr (gA wa 4) 40 k1 ((rd (gA wa 4) 40 k1) + 1))) pi) := cgD xs33 hD
    refine lv_aload_n hx hb dX6_goOn_62 rfl (lv_at hl 2 rfl) ?_
    refine va_getN (D := D) (ci := 1) (v := .ref (ad 16)) (C := RX1) (T := TX1) (N := 11) hx hb hg inGX1 hown hK hP 2 xo2 rfl 4 (by decide) (hN.use nw_19) (fun _ h9 => h9) xvX1_4 dX6_goOn_63 ?_
    refine lv_iload_n hx hb dX6_goOn_66 rfl (lv_at hl 0 rfl) ?_
    refine kI (rSN hx hb hml hown hg hN hK hP hD (c_at l D cI cJ (XW ad cI cJ co fl ra li re (sA wa 4 (wr (gA wa 4) 40 k1 ((rd (gA wa 4) 40 k1) + 1))) pi) 16 (ad 16) 80 (gA fl 4) (rd (gA wa 4) 40 k1) (xg16 rfl) (by decide)) mw_84 nw_91 mw_85 mw_77 pd_X7_at ⟨Nat.le_of_ble_eq_true rfl, Nat.le_of_ble_eq_true rfl⟩ rfl hl.1 rfl (Nat.le_of_ble_eq_true rfl) dX6_goOn_67 ⟨Nat.le_of_ble_eq_true rfl, Nat.le_of_ble_eq_true rfl⟩) hD hS hA (fun r_4 u_4 H locs hp hP hD hS => ?_)
    obtain ⟨er, eu⟩ := hp
    obtain rfl := er.symm
    obtain rfl := eu.symm
    refine lv_istore (lv' := [(4, .int (rd (gA fl 4) 80 (rd (gA wa 4) 40 k1))), (3, .int (rd (gA wa 4) 40 k1)), (0, .ref (ad 7)), (1, .ref (ad 2)), (2, .int k1)]) hx hb dX6_goOn_70 hl (by decide) rfl (fun ls hl => ?_)
    refine lv_iload hx hb dX6_goOn_72 (lv_at hl 0 rfl) ?_
    refine lv_if_lt (tgt := 83) hx hb dX6_goOn_74 (by decide) (fun c_74 => ?_) (fun c_74 => ?_)
    · exact W.vret hx hb hr (fun t ht hW => ⟨⟨(XW ad cI cJ co fl ra li re (sA wa 4 (wr (gA wa 4) 40 k1 ((rd (gA wa 4) 40 k1) + 1))) pi), rfl, xw_eq rfl rfl rfl rfl rfl (show (sA wa 4 (wr (gA wa 4) 40 k1 ((rd (gA wa 4) 40 k1) + 1))) = (goOn fl wa k1) from (by simp only [goOn, goE, goF, goD, goM, eq_true c_20, eq_true c_74, gi_sl, gi_sA, gi_sB, gi_si_s, gi_si_n, gl_si, gl_sA, gl_sB, gl_sl_s, gl_sl_n, gA_si, gA_sl, gA_sB, gA_sA_s, gA_sA_n, gB_si, gB_sl, gB_sA, gB_sB_s, gB_sB_n, Nat.reduceBEq, if_true, if_false, eq_self, Bool.false_eq_true, Bool.true_eq_false, not_true_eq_false, not_false_eq_true, decide_true, decide_false, cond_true, cond_false, Bool.true_and, Bool.false_and, Bool.and_true, Bool.and_false, Bool.true_or, Bool.false_or, Bool.or_true, Bool.or_false, b2i_tt, b2i_ff, pr_eta]; done)) rfl, ⟨by rw [ht]; exact hP, va_K.moved hW.alike hK, hD⟩⟩, hS.F ht⟩) hS.2.2 dX6_goOn_83
    · refine lv_iload hx hb dX6_goOn_77 (lv_at hl 0 rfl) ?_
      refine lv_iload_n hx hb dX6_goOn_79 rfl (lv_at hl 4 rfl) ?_
      refine lv_icmp_ne (tgt := 84) hx hb dX6_goOn_80 (by decide) (fun c_80 => ?_) (fun c_80 => ?_)
      · refine lv_aload_n hx hb dX6_goOn_84 rfl (lv_at hl 2 rfl) ?_
        refine va_get (D := D) (ci := 6) (v := .long (gl wa 1)) (C := RX6) (T := TX6) (N := 9) hx hb hg inGX6 hown hK hP 7 xo7 rfl 8 (by decide) (hg _ mw_215) (fun _ h9 => h9) (xvX6_8 (by simp only [gi_sl, gi_sA, gi_sB, gi_si_s, gi_si_n, gl_si, gl_sA, gl_sB, gl_sl_s, gl_sl_n, gA_si, gA_sl, gA_sB, gA_sA_s, gA_sA_n, gB_si, gB_sl, gB_sA, gB_sB_s, gB_sB_n, Nat.reduceBEq])) dX6_goOn_85 ?_
        refine lv_iload hx hb dX6_goOn_88 (lv_at hl 0 rfl) ?_
        refine kI (rSN hx hb hml hown hg hN hK hP hD (c_has l D cI cJ (XW ad cI cJ co fl ra li re (sA wa 4 (wr (gA wa 4) 40 k1 ((rd (gA wa 4) 40 k1) + 1))) pi) (gl wa 1) (rd (gA fl 4) 80 (rd (gA wa 4) 40 k1))) mw_89 nw_93 mw_90 mw_77 pd_X7_has ⟨Nat.le_of_ble_eq_true rfl, Nat.le_of_ble_eq_true rfl⟩ rfl hl.1 rfl (Nat.le_of_ble_eq_true rfl) dX6_goOn_90 ⟨Nat.le_of_ble_eq_true rfl, Nat.le_of_ble_eq_true rfl⟩) hD hS hA (fun r_5 u_5 H locs hp hP hD hS => ?_)
        obtain ⟨er, eu⟩ := hp
        obtain rfl := er.symm
        obtain rfl := eu.symm
        refine lv_istore (lv' := [(5, .int (b2i (hs (gl wa 1) (rd (gA fl 4) 80 (rd (gA wa 4) 40 k1))))), (4, .int (rd (gA fl 4) 80 (rd (gA wa 4) 40 k1))), (3, .int (rd (gA wa 4) 40 k1)), (0, .ref (ad 7)), (1, .ref (ad 2)), (2, .int k1)]) hx hb dX6_goOn_93 hl (by decide) rfl (fun ls hl => ?_)
        refine lv_aload_n hx hb dX6_goOn_95 rfl (lv_at hl 3 rfl) ?_
        refine va_get (D := D) (ci := 6) (v := .ref (ad 30)) (C := RX6) (T := TX6) (N := 9) hx hb hg inGX6 hown hK hP 7 xo7 rfl 1 (by decide) (hg _ mw_203) (fun _ h9 => h9) xvX6_1 dX6_goOn_96 ?_
        refine lv_iload_n hx hb dX6_goOn_99 rfl (lv_at hl 2 rfl) ?_
        refine lv_iload hx hb dX6_goOn_100 (lv_at hl 0 rfl) ?_
        refine lv_if_eq (tgt := 110) hx hb dX6_goOn_102 (by decide) (fun c_102 => ?_) (fun c_102 => ?_)
        · have c_102 : ¬ (hs (gl wa 1) (rd (gA fl 4) 80 (rd (gA wa 4) 40 k1))) = true := b2i_0 c_102
          refine lv_iload_n hx hb dX6_goOn_110 rfl (lv_at hl 5 rfl) ?_
          refine kV (rSN hx hb hml hown hg hN hK hP hD (c_put l D cI cJ (XW ad cI cJ co fl ra li re (sA wa 4 (wr (gA wa 4) 40 k1 ((rd (gA wa 4) 40 k1) + 1))) pi) 30 (ad 30) 80 (gA wa 1) (rd (gA wa 4) 40 k1) k1 (xg30 (by simp only [gi_sl, gi_sA, gi_sB, gi_si_s, gi_si_n, gl_si, gl_sA, gl_sB, gl_sl_s, gl_sl_n, gA_si, gA_sl, gA_sB, gA_sA_s, gA_sA_n, gB_si, gB_sl, gB_sA, gB_sB_s, gB_sB_n, Nat.reduceBEq])) (by decide)) mw_92 nw_90 mw_93 mw_77 pd_X7_put ⟨Nat.le_of_ble_eq_true rfl, Nat.le_of_ble_eq_true rfl⟩ rfl hl.1 rfl (Nat.le_of_ble_eq_true rfl) dX6_goOn_111 ⟨Nat.le_of_ble_eq_true rfl, Nat.le_of_ble_eq_true rfl⟩) hD hS hA (fun u_6 H locs hp hP hD hS => ?_)
          obtain rfl := hp.symm
          have hP : va_P D vwCl (XW ad cI cJ co fl ra li re (sA (sA wa 4 (wr (gA wa 4) 40 k1 ((rd (gA wa 4) 40 k1) + 1))) 1 (wr (gA wa 1) 80 (rd (gA wa 4) 40 k1) k1)) pi) H := cgP xs30 hP
          have hD : va_D A (XW ad cI cJ co fl ra li re (sA (sA wa 4 (wr (gA wa 4) 40 k1 ((rd (gA wa 4) 40 k1) + 1))) 1 (wr (gA wa 1) 80 (rd (gA wa 4) 40 k1) k1)) pi) := cgD xs30 hD
          refine lv_aload_n hx hb dX6_goOn_114 rfl (lv_at hl 3 rfl) ?_
          refine va_get (D := D) (ci := 6) (v := .ref (ad 31)) (C := RX6) (T := TX6) (N := 9) hx hb hg inGX6 hown hK hP 7 xo7 rfl 2 (by decide) (hg _ mw_216) (fun _ h9 => h9) xvX6_2 dX6_goOn_115 ?_
          refine lv_iload_n hx hb dX6_goOn_118 rfl (lv_at hl 2 rfl) ?_
          refine lv_iload hx hb dX6_goOn_119 (lv_at hl 0 rfl) ?_
          refine lv_if_eq (tgt := 128) hx hb dX6_goOn_121 (by decide) (fun _ => ?_) (fun c_121 => absurd (b2i_f c_102) c_121)
          refine lv_iload hx hb dX6_goOn_128 (lv_at hl 1 rfl) ?_
          refine kV (rSN hx hb hml hown hg hN hK hP hD (c_put l D cI cJ (XW ad cI cJ co fl ra li re (sA (sA wa 4 (wr (gA wa 4) 40 k1 ((rd (gA wa 4) 40 k1) + 1))) 1 (wr (gA wa 1) 80 (rd (gA wa 4) 40 k1) k1)) pi) 31 (ad 31) 80 (gA wa 2) (rd (gA wa 4) 40 k1) (rd (gA fl 4) 80 (rd (gA wa 4) 40 k1)) (xg31 (by simp only [gi_sl, gi_sA, gi_sB, gi_si_s, gi_si_n, gl_si, gl_sA, gl_sB, gl_sl_s, gl_sl_n, gA_si, gA_sl, gA_sB, gA_sA_s, gA_sA_n, gB_si, gB_sl, gB_sA, gB_sB_s, gB_sB_n, Nat.reduceBEq])) (by decide)) mw_92 nw_90 mw_93 mw_77 pd_X7_put ⟨Nat.le_of_ble_eq_true rfl, Nat.le_of_ble_eq_true rfl⟩ rfl hl.1 rfl (Nat.le_of_ble_eq_true rfl) dX6_goOn_130 ⟨Nat.le_of_ble_eq_true rfl, Nat.le_of_ble_eq_true rfl⟩) hD hS hA (fun u_7 H locs hp hP hD hS => ?_)
          obtain rfl := hp.symm
          have hP : va_P D vwCl (XW ad cI cJ co fl ra li re (sA (sA (sA wa 4 (wr (gA wa 4) 40 k1 ((rd (gA wa 4) 40 k1) + 1))) 1 (wr (gA wa 1) 80 (rd (gA wa 4) 40 k1) k1)) 2 (wr (gA wa 2) 80 (rd (gA wa 4) 40 k1) (rd (gA fl 4) 80 (rd (gA wa 4) 40 k1)))) pi) H := cgP xs31 hP
          have hD : va_D A (XW ad cI cJ co fl ra li re (sA (sA (sA wa 4 (wr (gA wa 4) 40 k1 ((rd (gA wa 4) 40 k1) + 1))) 1 (wr (gA wa 1) 80 (rd (gA wa 4) 40 k1) k1)) 2 (wr (gA wa 2) 80 (rd (gA wa 4) 40 k1) (rd (gA fl 4) 80 (rd (gA wa 4) 40 k1)))) pi) := cgD xs31 hD
          refine lv_aload_n hx hb dX6_goOn_133 rfl (lv_at hl 3 rfl) ?_
          refine va_get (D := D) (ci := 6) (v := .long (gl wa 0)) (C := RX6) (T := TX6) (N := 9) hx hb hg inGX6 hown hK hP 7 xo7 rfl 7 (by decide) (hg _ mw_214) (fun _ h9 => h9) (xvX6_7 (by simp only [gi_sl, gi_sA, gi_sB, gi_si_s, gi_si_n, gl_si, gl_sA, gl_sB, gl_sl_s, gl_sl_n, gA_si, gA_sl, gA_sB, gA_sA_s, gA_sA_n, gB_si, gB_sl, gB_sA, gB_sB_s, gB_sB_n, Nat.reduceBEq])) dX6_goOn_134 ?_
          refine lv_iload hx hb dX6_goOn_137 (lv_at hl 1 rfl) ?_
          refine kI (rSN hx hb hml hown hg hN hK hP hD (c_has l D cI cJ (XW ad cI cJ co fl ra li re (sA (sA (sA wa 4 (wr (gA wa 4) 40 k1 ((rd (gA wa 4) 40 k1) + 1))) 1 (wr (gA wa 1) 80 (rd (gA wa 4) 40 k1) k1)) 2 (wr (gA wa 2) 80 (rd (gA wa 4) 40 k1) (rd (gA fl 4) 80 (rd (gA wa 4) 40 k1)))) pi) (gl wa 0) (rd (gA fl 4) 80 (rd (gA wa 4) 40 k1))) mw_89 nw_93 mw_90 mw_77 pd_X7_has ⟨Nat.le_of_ble_eq_true rfl, Nat.le_of_ble_eq_true rfl⟩ rfl hl.1 rfl (Nat.le_of_ble_eq_true rfl) dX6_goOn_139 ⟨Nat.le_of_ble_eq_true rfl, Nat.le_of_ble_eq_true rfl⟩) hD hS hA (fun r_8 u_8 H locs hp hP hD hS => ?_)
          obtain ⟨er, eu⟩ := hp
          obtain rfl := er.symm
          obtain rfl := eu.symm
          refine lv_if_ne (tgt := 152) hx hb dX6_goOn_142 (by decide) (fun c_142 => ?_) (fun c_142 => ?_)
          · have c_142 : (hs (gl wa 0) (rd (gA fl 4) 80 (rd (gA wa 4) 40 k1))) = true := b2i_1 c_142
            exact W.vret hx hb hr (fun t ht hW => ⟨⟨(XW ad cI cJ co fl ra li re (sA (sA (sA wa 4 (wr (gA wa 4) 40 k1 ((rd (gA wa 4) 40 k1) + 1))) 1 (wr (gA wa 1) 80 (rd (gA wa 4) 40 k1) k1)) 2 (wr (gA wa 2) 80 (rd (gA wa 4) 40 k1) (rd (gA fl 4) 80 (rd (gA wa 4) 40 k1)))) pi), rfl, xw_eq rfl rfl rfl rfl rfl (show (sA (sA (sA wa 4 (wr (gA wa 4) 40 k1 ((rd (gA wa 4) 40 k1) + 1))) 1 (wr (gA wa 1) 80 (rd (gA wa 4) 40 k1) k1)) 2 (wr (gA wa 2) 80 (rd (gA wa 4) 40 k1) (rd (gA fl 4) 80 (rd (gA wa 4) 40 k1)))) = (goOn fl wa k1) from (by simp only [goOn, goE, goF, goD, goM, eq_true c_20, eq_false c_74, eq_false c_80, bf_of c_102, c_142, gi_sl, gi_sA, gi_sB, gi_si_s, gi_si_n, gl_si, gl_sA, gl_sB, gl_sl_s, gl_sl_n, gA_si, gA_sl, gA_sB, gA_sA_s, gA_sA_n, gB_si, gB_sl, gB_sA, gB_sB_s, gB_sB_n, Nat.reduceBEq, if_true, if_false, eq_self, Bool.false_eq_true, Bool.true_eq_false, not_true_eq_false, not_false_eq_true, decide_true, decide_false, cond_true, cond_false, Bool.true_and, Bool.false_and, Bool.and_true, Bool.and_false, Bool.true_or, Bool.false_or, Bool.or_true, Bool.or_false, b2i_tt, b2i_ff, pr_eta]; done)) rfl, ⟨by rw [ht]; exact hP, va_K.moved hW.alike hK, hD⟩⟩, hS.F ht⟩) hS.2.2 dX6_goOn_152
          · have c_142 : ¬ (hs (gl wa 0) (rd (gA fl 4) 80 (rd (gA wa 4) 40 k1))) = true := b2i_0 c_142
            refine lv_aload_n hx hb dX6_goOn_145 rfl (lv_at hl 3 rfl) ?_
            refine lv_aload_n hx hb dX6_goOn_146 rfl (lv_at hl 4 rfl) ?_
            refine lv_iload hx hb dX6_goOn_147 (lv_at hl 1 rfl) ?_
            refine kV (rV (q0 := 7) (ci := 6) hx hb hml hown hg hN hK hP hD (c_enter l D cI cJ ad co fl ra li re (sA (sA (sA wa 4 (wr (gA wa 4) 40 k1 ((rd (gA wa 4) 40 k1) + 1))) 1 (wr (gA wa 1) 80 (rd (gA wa 4) 40 k1) k1)) 2 (wr (gA wa 2) 80 (rd (gA wa 4) 40 k1) (rd (gA fl 4) 80 (rd (gA wa 4) 40 k1)))) pi (rd (gA fl 4) 80 (rd (gA wa 4) 40 k1))) mw_217 mw_218 mw_219 mw_220 mw_208 pdv_X6_enter ⟨Nat.le_of_ble_eq_true rfl, Nat.le_of_ble_eq_true rfl⟩ rfl xo7 rfl hl.1 rfl (Nat.le_of_ble_eq_true rfl) dX6_goOn_149 ⟨Nat.le_of_ble_eq_true rfl, Nat.le_of_ble_eq_true rfl⟩) hD hS hA (fun u_9 H locs hp hP hD hS => ?_)
            obtain rfl := hp.symm
            have hP : va_P D vwCl (XW ad cI cJ co fl ra li re (enter fl (sA (sA (sA wa 4 (wr (gA wa 4) 40 k1 ((rd (gA wa 4) 40 k1) + 1))) 1 (wr (gA wa 1) 80 (rd (gA wa 4) 40 k1) k1)) 2 (wr (gA wa 2) 80 (rd (gA wa 4) 40 k1) (rd (gA fl 4) 80 (rd (gA wa 4) 40 k1)))) (rd (gA fl 4) 80 (rd (gA wa 4) 40 k1))) pi) H := hP
            have hD : va_D A (XW ad cI cJ co fl ra li re (enter fl (sA (sA (sA wa 4 (wr (gA wa 4) 40 k1 ((rd (gA wa 4) 40 k1) + 1))) 1 (wr (gA wa 1) 80 (rd (gA wa 4) 40 k1) k1)) 2 (wr (gA wa 2) 80 (rd (gA wa 4) 40 k1) (rd (gA fl 4) 80 (rd (gA wa 4) 40 k1)))) (rd (gA fl 4) 80 (rd (gA wa 4) 40 k1))) pi) := hD
            exact W.vret hx hb hr (fun t ht hW => ⟨⟨(XW ad cI cJ co fl ra li re (enter fl (sA (sA (sA wa 4 (wr (gA wa 4) 40 k1 ((rd (gA wa 4) 40 k1) + 1))) 1 (wr (gA wa 1) 80 (rd (gA wa 4) 40 k1) k1)) 2 (wr (gA wa 2) 80 (rd (gA wa 4) 40 k1) (rd (gA fl 4) 80 (rd (gA wa 4) 40 k1)))) (rd (gA fl 4) 80 (rd (gA wa 4) 40 k1))) pi), rfl, xw_eq rfl rfl rfl rfl rfl (show (enter fl (sA (sA (sA wa 4 (wr (gA wa 4) 40 k1 ((rd (gA wa 4) 40 k1) + 1))) 1 (wr (gA wa 1) 80 (rd (gA wa 4) 40 k1) k1)) 2 (wr (gA wa 2) 80 (rd (gA wa 4) 40 k1) (rd (gA fl 4) 80 (rd (gA wa 4) 40 k1)))) (rd (gA fl 4) 80 (rd (gA wa 4) 40 k1))) = (goOn fl wa k1) from (by simp only [goOn, goE, goF, goD, goM, eq_true c_20, eq_false c_74, eq_false c_80, bf_of c_102, bf_of c_142, gi_sl, gi_sA, gi_sB, gi_si_s, gi_si_n, gl_si, gl_sA, gl_sB, gl_sl_s, gl_sl_n, gA_si, gA_sl, gA_sB, gA_sA_s, gA_sA_n, gB_si, gB_sl, gB_sA, gB_sB_s, gB_sB_n, Nat.reduceBEq, if_true, if_false, eq_self, Bool.false_eq_true, Bool.true_eq_false, not_true_eq_false, not_false_eq_true, decide_true, decide_false, cond_true, cond_false, Bool.true_and, Bool.false_and, Bool.and_true, Bool.and_false, Bool.true_or, Bool.false_or, Bool.or_true, Bool.or_false, b2i_tt, b2i_ff, pr_eta]; done)) rfl, ⟨by rw [ht]; exact hP, va_K.moved hW.alike hK, hD⟩⟩, hS.F ht⟩) hS.2.2 dX6_goOn_152
        · have c_102 : (hs (gl wa 1) (rd (gA fl 4) 80 (rd (gA wa 4) 40 k1))) = true := b2i_1 c_102
          refine lv_iload hx hb dX6_goOn_105 (lv_at hl 1 rfl) ?_
          refine lv_goto (tgt := 111) hx hb dX6_goOn_107 (by decide) ?_
          refine kV (rSN hx hb hml hown hg hN hK hP hD (c_put l D cI cJ (XW ad cI cJ co fl ra li re (sA wa 4 (wr (gA wa 4) 40 k1 ((rd (gA wa 4) 40 k1) + 1))) pi) 30 (ad 30) 80 (gA wa 1) (rd (gA wa 4) 40 k1) (rd (gA fl 4) 80 (rd (gA wa 4) 40 k1)) (xg30 (by simp only [gi_sl, gi_sA, gi_sB, gi_si_s, gi_si_n, gl_si, gl_sA, gl_sB, gl_sl_s, gl_sl_n, gA_si, gA_sl, gA_sB, gA_sA_s, gA_sA_n, gB_si, gB_sl, gB_sA, gB_sB_s, gB_sB_n, Nat.reduceBEq])) (by decide)) mw_92 nw_90 mw_93 mw_77 pd_X7_put ⟨Nat.le_of_ble_eq_true rfl, Nat.le_of_ble_eq_true rfl⟩ rfl hl.1 rfl (Nat.le_of_ble_eq_true rfl) dX6_goOn_111 ⟨Nat.le_of_ble_eq_true rfl, Nat.le_of_ble_eq_true rfl⟩) hD hS hA (fun u_10 H locs hp hP hD hS => ?_)
          obtain rfl := hp.symm
          have hP : va_P D vwCl (XW ad cI cJ co fl ra li re (sA (sA wa 4 (wr (gA wa 4) 40 k1 ((rd (gA wa 4) 40 k1) + 1))) 1 (wr (gA wa 1) 80 (rd (gA wa 4) 40 k1) (rd (gA fl 4) 80 (rd (gA wa 4) 40 k1)))) pi) H := cgP xs30 hP
          have hD : va_D A (XW ad cI cJ co fl ra li re (sA (sA wa 4 (wr (gA wa 4) 40 k1 ((rd (gA wa 4) 40 k1) + 1))) 1 (wr (gA wa 1) 80 (rd (gA wa 4) 40 k1) (rd (gA fl 4) 80 (rd (gA wa 4) 40 k1)))) pi) := cgD xs30 hD
          refine lv_aload_n hx hb dX6_goOn_114 rfl (lv_at hl 3 rfl) ?_
          refine va_get (D := D) (ci := 6) (v := .ref (ad 31)) (C := RX6) (T := TX6) (N := 9) hx hb hg inGX6 hown hK hP 7 xo7 rfl 2 (by decide) (hg _ mw_216) (fun _ h9 => h9) xvX6_2 dX6_goOn_115 ?_
          refine lv_iload_n hx hb dX6_goOn_118 rfl (lv_at hl 2 rfl) ?_
          refine lv_iload hx hb dX6_goOn_119 (lv_at hl 0 rfl) ?_
          refine lv_if_eq (tgt := 128) hx hb dX6_goOn_121 (by decide) (fun c_121 => absurd c_121 (b2i_t c_102)) (fun _ => ?_)
          refine lv_iload_n hx hb dX6_goOn_124 rfl (lv_at hl 5 rfl) ?_
          refine lv_goto (tgt := 130) hx hb dX6_goOn_125 (by decide) ?_
          refine kV (rSN hx hb hml hown hg hN hK hP hD (c_put l D cI cJ (XW ad cI cJ co fl ra li re (sA (sA wa 4 (wr (gA wa 4) 40 k1 ((rd (gA wa 4) 40 k1) + 1))) 1 (wr (gA wa 1) 80 (rd (gA wa 4) 40 k1) (rd (gA fl 4) 80 (rd (gA wa 4) 40 k1)))) pi) 31 (ad 31) 80 (gA wa 2) (rd (gA wa 4) 40 k1) k1 (xg31 (by simp only [gi_sl, gi_sA, gi_sB, gi_si_s, gi_si_n, gl_si, gl_sA, gl_sB, gl_sl_s, gl_sl_n, gA_si, gA_sl, gA_sB, gA_sA_s, gA_sA_n, gB_si, gB_sl, gB_sA, gB_sB_s, gB_sB_n, Nat.reduceBEq])) (by decide)) mw_92 nw_90 mw_93 mw_77 pd_X7_put ⟨Nat.le_of_ble_eq_true rfl, Nat.le_of_ble_eq_true rfl⟩ rfl hl.1 rfl (Nat.le_of_ble_eq_true rfl) dX6_goOn_130 ⟨Nat.le_of_ble_eq_true rfl, Nat.le_of_ble_eq_true rfl⟩) hD hS hA (fun u_11 H locs hp hP hD hS => ?_)
          obtain rfl := hp.symm
          have hP : va_P D vwCl (XW ad cI cJ co fl ra li re (sA (sA (sA wa 4 (wr (gA wa 4) 40 k1 ((rd (gA wa 4) 40 k1) + 1))) 1 (wr (gA wa 1) 80 (rd (gA wa 4) 40 k1) (rd (gA fl 4) 80 (rd (gA wa 4) 40 k1)))) 2 (wr (gA wa 2) 80 (rd (gA wa 4) 40 k1) k1)) pi) H := cgP xs31 hP
          have hD : va_D A (XW ad cI cJ co fl ra li re (sA (sA (sA wa 4 (wr (gA wa 4) 40 k1 ((rd (gA wa 4) 40 k1) + 1))) 1 (wr (gA wa 1) 80 (rd (gA wa 4) 40 k1) (rd (gA fl 4) 80 (rd (gA wa 4) 40 k1)))) 2 (wr (gA wa 2) 80 (rd (gA wa 4) 40 k1) k1)) pi) := cgD xs31 hD
          refine lv_aload_n hx hb dX6_goOn_133 rfl (lv_at hl 3 rfl) ?_
          refine va_get (D := D) (ci := 6) (v := .long (gl wa 0)) (C := RX6) (T := TX6) (N := 9) hx hb hg inGX6 hown hK hP 7 xo7 rfl 7 (by decide) (hg _ mw_214) (fun _ h9 => h9) (xvX6_7 (by simp only [gi_sl, gi_sA, gi_sB, gi_si_s, gi_si_n, gl_si, gl_sA, gl_sB, gl_sl_s, gl_sl_n, gA_si, gA_sl, gA_sB, gA_sA_s, gA_sA_n, gB_si, gB_sl, gB_sA, gB_sB_s, gB_sB_n, Nat.reduceBEq])) dX6_goOn_134 ?_
          refine lv_iload hx hb dX6_goOn_137 (lv_at hl 1 rfl) ?_
          refine kI (rSN hx hb hml hown hg hN hK hP hD (c_has l D cI cJ (XW ad cI cJ co fl ra li re (sA (sA (sA wa 4 (wr (gA wa 4) 40 k1 ((rd (gA wa 4) 40 k1) + 1))) 1 (wr (gA wa 1) 80 (rd (gA wa 4) 40 k1) (rd (gA fl 4) 80 (rd (gA wa 4) 40 k1)))) 2 (wr (gA wa 2) 80 (rd (gA wa 4) 40 k1) k1)) pi) (gl wa 0) (rd (gA fl 4) 80 (rd (gA wa 4) 40 k1))) mw_89 nw_93 mw_90 mw_77 pd_X7_has ⟨Nat.le_of_ble_eq_true rfl, Nat.le_of_ble_eq_true rfl⟩ rfl hl.1 rfl (Nat.le_of_ble_eq_true rfl) dX6_goOn_139 ⟨Nat.le_of_ble_eq_true rfl, Nat.le_of_ble_eq_true rfl⟩) hD hS hA (fun r_12 u_12 H locs hp hP hD hS => ?_)
          obtain ⟨er, eu⟩ := hp
          obtain rfl := er.symm
          obtain rfl := eu.symm
          refine lv_if_ne (tgt := 152) hx hb dX6_goOn_142 (by decide) (fun c_142 => ?_) (fun c_142 => ?_)
          · have c_142 : (hs (gl wa 0) (rd (gA fl 4) 80 (rd (gA wa 4) 40 k1))) = true := b2i_1 c_142
            exact W.vret hx hb hr (fun t ht hW => ⟨⟨(XW ad cI cJ co fl ra li re (sA (sA (sA wa 4 (wr (gA wa 4) 40 k1 ((rd (gA wa 4) 40 k1) + 1))) 1 (wr (gA wa 1) 80 (rd (gA wa 4) 40 k1) (rd (gA fl 4) 80 (rd (gA wa 4) 40 k1)))) 2 (wr (gA wa 2) 80 (rd (gA wa 4) 40 k1) k1)) pi), rfl, xw_eq rfl rfl rfl rfl rfl (show (sA (sA (sA wa 4 (wr (gA wa 4) 40 k1 ((rd (gA wa 4) 40 k1) + 1))) 1 (wr (gA wa 1) 80 (rd (gA wa 4) 40 k1) (rd (gA fl 4) 80 (rd (gA wa 4) 40 k1)))) 2 (wr (gA wa 2) 80 (rd (gA wa 4) 40 k1) k1)) = (goOn fl wa k1) from (by simp only [goOn, goE, goF, goD, goM, eq_true c_20, eq_false c_74, eq_false c_80, c_102, c_142, gi_sl, gi_sA, gi_sB, gi_si_s, gi_si_n, gl_si, gl_sA, gl_sB, gl_sl_s, gl_sl_n, gA_si, gA_sl, gA_sB, gA_sA_s, gA_sA_n, gB_si, gB_sl, gB_sA, gB_sB_s, gB_sB_n, Nat.reduceBEq, if_true, if_false, eq_self, Bool.false_eq_true, Bool.true_eq_false, not_true_eq_false, not_false_eq_true, decide_true, decide_false, cond_true, cond_false, Bool.true_and, Bool.false_and, Bool.and_true, Bool.and_false, Bool.true_or, Bool.false_or, Bool.or_true, Bool.or_false, b2i_tt, b2i_ff, pr_eta]; done)) rfl, ⟨by rw [ht]; exact hP, va_K.moved hW.alike hK, hD⟩⟩, hS.F ht⟩) hS.2.2 dX6_goOn_152
          · have c_142 : ¬ (hs (gl wa 0) (rd (gA fl 4) 80 (rd (gA wa 4) 40 k1))) = true := b2i_0 c_142
            refine lv_aload_n hx hb dX6_goOn_145 rfl (lv_at hl 3 rfl) ?_
            refine lv_aload_n hx hb dX6_goOn_146 rfl (lv_at hl 4 rfl) ?_
            refine lv_iload hx hb dX6_goOn_147 (lv_at hl 1 rfl) ?_
            refine kV (rV (q0 := 7) (ci := 6) hx hb hml hown hg hN hK hP hD (c_enter l D cI cJ ad co fl ra li re (sA (sA (sA wa 4 (wr (gA wa 4) 40 k1 ((rd (gA wa 4) 40 k1) + 1))) 1 (wr (gA wa 1) 80 (rd (gA wa 4) 40 k1) (rd (gA fl 4) 80 (rd (gA wa 4) 40 k1)))) 2 (wr (gA wa 2) 80 (rd (gA wa 4) 40 k1) k1)) pi (rd (gA fl 4) 80 (rd (gA wa 4) 40 k1))) mw_217 mw_218 mw_219 mw_220 mw_208 pdv_X6_enter ⟨Nat.le_of_ble_eq_true rfl, Nat.le_of_ble_eq_true rfl⟩ rfl xo7 rfl hl.1 rfl (Nat.le_of_ble_eq_true rfl) dX6_goOn_149 ⟨Nat.le_of_ble_eq_true rfl, Nat.le_of_ble_eq_true rfl⟩) hD hS hA (fun u_13 H locs hp hP hD hS => ?_)
            obtain rfl := hp.symm
            have hP : va_P D vwCl (XW ad cI cJ co fl ra li re (enter fl (sA (sA (sA wa 4 (wr (gA wa 4) 40 k1 ((rd (gA wa 4) 40 k1) + 1))) 1 (wr (gA wa 1) 80 (rd (gA wa 4) 40 k1) (rd (gA fl 4) 80 (rd (gA wa 4) 40 k1)))) 2 (wr (gA wa 2) 80 (rd (gA wa 4) 40 k1) k1)) (rd (gA fl 4) 80 (rd (gA wa 4) 40 k1))) pi) H := hP
            have hD : va_D A (XW ad cI cJ co fl ra li re (enter fl (sA (sA (sA wa 4 (wr (gA wa 4) 40 k1 ((rd (gA wa 4) 40 k1) + 1))) 1 (wr (gA wa 1) 80 (rd (gA wa 4) 40 k1) (rd (gA fl 4) 80 (rd (gA wa 4) 40 k1)))) 2 (wr (gA wa 2) 80 (rd (gA wa 4) 40 k1) k1)) (rd (gA fl 4) 80 (rd (gA wa 4) 40 k1))) pi) := hD
            exact W.vret hx hb hr (fun t ht hW => ⟨⟨(XW ad cI cJ co fl ra li re (enter fl (sA (sA (sA wa 4 (wr (gA wa 4) 40 k1 ((rd (gA wa 4) 40 k1) + 1))) 1 (wr (gA wa 1) 80 (rd (gA wa 4) 40 k1) (rd (gA fl 4) 80 (rd (gA wa 4) 40 k1)))) 2 (wr (gA wa 2) 80 (rd (gA wa 4) 40 k1) k1)) (rd (gA fl 4) 80 (rd (gA wa 4) 40 k1))) pi), rfl, xw_eq rfl rfl rfl rfl rfl (show (enter fl (sA (sA (sA wa 4 (wr (gA wa 4) 40 k1 ((rd (gA wa 4) 40 k1) + 1))) 1 (wr (gA wa 1) 80 (rd (gA wa 4) 40 k1) (rd (gA fl 4) 80 (rd (gA wa 4) 40 k1)))) 2 (wr (gA wa 2) 80 (rd (gA wa 4) 40 k1) k1)) (rd (gA fl 4) 80 (rd (gA wa 4) 40 k1))) = (goOn fl wa k1) from (by simp only [goOn, goE, goF, goD, goM, eq_true c_20, eq_false c_74, eq_false c_80, c_102, bf_of c_142, gi_sl, gi_sA, gi_sB, gi_si_s, gi_si_n, gl_si, gl_sA, gl_sB, gl_sl_s, gl_sl_n, gA_si, gA_sl, gA_sB, gA_sA_s, gA_sA_n, gB_si, gB_sl, gB_sA, gB_sB_s, gB_sB_n, Nat.reduceBEq, if_true, if_false, eq_self, Bool.false_eq_true, Bool.true_eq_false, not_true_eq_false, not_false_eq_true, decide_true, decide_false, cond_true, cond_false, Bool.true_and, Bool.false_and, Bool.and_true, Bool.and_false, Bool.true_or, Bool.false_or, Bool.or_true, Bool.or_false, b2i_tt, b2i_ff, pr_eta]; done)) rfl, ⟨by rw [ht]; exact hP, va_K.moved hW.alike hK, hD⟩⟩, hS.F ht⟩) hS.2.2 dX6_goOn_152
      · exact W.vret hx hb hr (fun t ht hW => ⟨⟨(XW ad cI cJ co fl ra li re (sA wa 4 (wr (gA wa 4) 40 k1 ((rd (gA wa 4) 40 k1) + 1))) pi), rfl, xw_eq rfl rfl rfl rfl rfl (show (sA wa 4 (wr (gA wa 4) 40 k1 ((rd (gA wa 4) 40 k1) + 1))) = (goOn fl wa k1) from (by simp only [goOn, goE, goF, goD, goM, eq_true c_20, eq_false c_74, eq_true c_80, gi_sl, gi_sA, gi_sB, gi_si_s, gi_si_n, gl_si, gl_sA, gl_sB, gl_sl_s, gl_sl_n, gA_si, gA_sl, gA_sB, gA_sA_s, gA_sA_n, gB_si, gB_sl, gB_sA, gB_sB_s, gB_sB_n, Nat.reduceBEq, if_true, if_false, eq_self, Bool.false_eq_true, Bool.true_eq_false, not_true_eq_false, not_false_eq_true, decide_true, decide_false, cond_true, cond_false, Bool.true_and, Bool.false_and, Bool.and_true, Bool.and_false, Bool.true_or, Bool.false_or, Bool.or_true, Bool.or_false, b2i_tt, b2i_ff, pr_eta]; done)) rfl, ⟨by rw [ht]; exact hP, va_K.moved hW.alike hK, hD⟩⟩, hS.F ht⟩) hS.2.2 dX6_goOn_83
  · refine lv_aload_n hx hb dX6_goOn_23 rfl (lv_at hl 1 rfl) ?_
    refine lv_dup hx hb dX6_goOn_24 rfl ?_
    refine va_get (D := D) (ci := 6) (v := .int (gi wa 1)) (C := RX6) (T := TX6) (N := 9) hx hb hg inGX6 hown hK hP 7 xo7 rfl 6 (by decide) (hg _ mw_212) (fun _ h9 => h9) (xvX6_6 rfl) dX6_goOn_25 ?_
    refine lv_iconst (v := 1) hx hb dX6_goOn_28 (by decide) ?_
    refine lv_isub hx hb dX6_goOn_29 ?_
    refine va_put (D := D) (ci := 6) (v := .int ((gi wa 1) - 1)) (C := RX6) (T := TX6) (N := 9) hx hb hg inGX6 tyX6 tyX6_ok nmX6 hown hK hP hD hS 7 xo7 rfl 6 (by decide) (hg _ mw_212) (fun _ h9 => h9) rfl (tyX6_ok 6 (by decide)) rfl rfl (Nat.le_of_ble_eq_true rfl) dX6_goOn_30 (fun H locs hP hD hS => ?_)
    have hP : va_P D vwCl (XW ad cI cJ co fl ra li re (si wa 1 ((gi wa 1) - 1)) pi) H := cgP xpX6_6 hP
    have hD : va_D A (XW ad cI cJ co fl ra li re (si wa 1 ((gi wa 1) - 1)) pi) := cgD xpX6_6 hD
    refine lv_aload_n hx hb dX6_goOn_33 rfl (lv_at hl 1 rfl) ?_
    refine lv_dup hx hb dX6_goOn_34 rfl ?_
    refine va_get (D := D) (ci := 6) (v := .long (gl wa 1)) (C := RX6) (T := TX6) (N := 9) hx hb hg inGX6 hown hK hP 7 xo7 rfl 8 (by decide) (hg _ mw_215) (fun _ h9 => h9) (xvX6_8 (by simp only [gi_sl, gi_sA, gi_sB, gi_si_s, gi_si_n, gl_si, gl_sA, gl_sB, gl_sl_s, gl_sl_n, gA_si, gA_sl, gA_sB, gA_sA_s, gA_sA_n, gB_si, gB_sl, gB_sA, gB_sB_s, gB_sB_n, Nat.reduceBEq])) dX6_goOn_35 ?_
    refine lv_iload_n hx hb dX6_goOn_38 rfl (lv_at hl 3 rfl) ?_
    refine kL (rSN hx hb hml hown hg hN hK hP hD (c_bit l D cI cJ (XW ad cI cJ co fl ra li re (si wa 1 ((gi wa 1) - 1)) pi) k1) mw_78 nw_92 mw_80 mw_77 pd_X7_bit ⟨Nat.le_of_ble_eq_true rfl, Nat.le_of_ble_eq_true rfl⟩ rfl hl.1 rfl (Nat.le_of_ble_eq_true rfl) dX6_goOn_39 ⟨Nat.le_of_ble_eq_true rfl, Nat.le_of_ble_eq_true rfl⟩) hD hS hA (fun r_14 u_14 H locs hp hP hD hS => ?_)
    obtain ⟨er, eu⟩ := hp
    obtain rfl := er.symm
    obtain rfl := eu.symm
    refine lv_ldc2 (v := (-1)) hx hb hown (hg _ mw_221) dX6_goOn_42 ?_
    refine lv_lxor hx hb dX6_goOn_45 ?_
    refine lv_land hx hb dX6_goOn_46 ?_
    refine va_put (D := D) (ci := 6) (v := .long ((gl wa 1) &&& ((bitL k1) ^^^ (-1)))) (C := RX6) (T := TX6) (N := 9) hx hb hg inGX6 tyX6 tyX6_ok nmX6 hown hK hP hD hS 7 xo7 rfl 8 (by decide) (hg _ mw_215) (fun _ h9 => h9) rfl (tyX6_ok 8 (by decide)) rfl rfl (Nat.le_of_ble_eq_true rfl) dX6_goOn_47 (fun H locs hP hD hS => ?_)
    have hP : va_P D vwCl (XW ad cI cJ co fl ra li re (sl (si wa 1 ((gi wa 1) - 1)) 1 ((gl wa 1) &&& ((bitL k1) ^^^ (-1)))) pi) H := cgP xpX6_8 hP
    have hD : va_D A (XW ad cI cJ co fl ra li re (sl (si wa 1 ((gi wa 1) - 1)) 1 ((gl wa 1) &&& ((bitL k1) ^^^ (-1)))) pi) := cgD xpX6_8 hD
    exact W.vret hx hb hr (fun t ht hW => ⟨⟨(XW ad cI cJ co fl ra li re (sl (si wa 1 ((gi wa 1) - 1)) 1 ((gl wa 1) &&& ((bitL k1) ^^^ (-1)))) pi), rfl, xw_eq rfl rfl rfl rfl rfl (show (sl (si wa 1 ((gi wa 1) - 1)) 1 ((gl wa 1) &&& ((bitL k1) ^^^ (-1)))) = (goOn fl wa k1) from (by simp only [goOn, goE, goF, goD, goM, eq_false c_20, gi_sl, gi_sA, gi_sB, gi_si_s, gi_si_n, gl_si, gl_sA, gl_sB, gl_sl_s, gl_sl_n, gA_si, gA_sl, gA_sB, gA_sA_s, gA_sA_n, gB_si, gB_sl, gB_sA, gB_sB_s, gB_sB_n, Nat.reduceBEq, if_true, if_false, eq_self, Bool.false_eq_true, Bool.true_eq_false, not_true_eq_false, not_false_eq_true, decide_true, decide_false, cond_true, cond_false, Bool.true_and, Bool.false_and, Bool.and_true, Bool.and_false, Bool.true_or, Bool.false_or, Bool.or_true, Bool.or_false, b2i_tt, b2i_ff, pr_eta]; done)) rfl, ⟨by rw [ht]; exact hP, va_K.moved hW.alike hK, hD⟩⟩, hS.F ht⟩) hS.2.2 dX6_goOn_50
