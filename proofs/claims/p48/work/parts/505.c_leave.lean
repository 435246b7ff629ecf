theorem dX1_leave_0 : decode cX1_leave 0 = .ok (.aload_n 0, 1) := by decide +kernel
theorem dX1_leave_1 : decode cX1_leave 1 = .ok (.getfield 18, 3) := by decide +kernel
theorem dX1_leave_4 : decode cX1_leave 4 = .ok (.iload_n 2, 1) := by decide +kernel
theorem dX1_leave_5 : decode cX1_leave 5 = .ok (.invokestatic 80, 3) := by decide +kernel
theorem dX1_leave_8 : decode cX1_leave 8 = .ok (.istore_n 3, 1) := by decide +kernel
theorem dX1_leave_9 : decode cX1_leave 9 = .ok (.aload_n 1, 1) := by decide +kernel
theorem dX1_leave_10 : decode cX1_leave 10 = .ok (.getfield 77, 3) := by decide +kernel
theorem dX1_leave_13 : decode cX1_leave 13 = .ok (.iload_n 3, 1) := by decide +kernel
theorem dX1_leave_14 : decode cX1_leave 14 = .ok (.invokestatic 80, 3) := by decide +kernel
theorem dX1_leave_17 : decode cX1_leave 17 = .ok (.istore 4, 2) := by decide +kernel
theorem dX1_leave_19 : decode cX1_leave 19 = .ok (.iload 4, 2) := by decide +kernel
theorem dX1_leave_21 : decode cX1_leave 21 = .ok (.ifCond .eq 9, 3) := by decide +kernel
theorem dX1_leave_24 : decode cX1_leave 24 = .ok (.iload 4, 2) := by decide +kernel
theorem dX1_leave_26 : decode cX1_leave 26 = .ok (.iconst 1, 1) := by decide +kernel
theorem dX1_leave_27 : decode cX1_leave 27 = .ok (.if_icmp .ne 15, 3) := by decide +kernel
theorem dX1_leave_30 : decode cX1_leave 30 = .ok (.aload_n 0, 1) := by decide +kernel
theorem dX1_leave_31 : decode cX1_leave 31 = .ok (.iload_n 2, 1) := by decide +kernel
theorem dX1_leave_32 : decode cX1_leave 32 = .ok (.iload_n 3, 1) := by decide +kernel
theorem dX1_leave_33 : decode cX1_leave 33 = .ok (.iconst 1, 1) := by decide +kernel
theorem dX1_leave_34 : decode cX1_leave 34 = .ok (.iadd, 1) := by decide +kernel
theorem dX1_leave_35 : decode cX1_leave 35 = .ok (.aload_n 1, 1) := by decide +kernel
theorem dX1_leave_36 : decode cX1_leave 36 = .ok (.getfield 34, 3) := by decide +kernel
theorem dX1_leave_39 : decode cX1_leave 39 = .ok (.invokevirtual 95, 3) := by decide +kernel
theorem dX1_leave_42 : decode cX1_leave 42 = .ok (.iload 4, 2) := by decide +kernel
theorem dX1_leave_44 : decode cX1_leave 44 = .ok (.invokestatic 84, 3) := by decide +kernel
theorem dX1_leave_47 : decode cX1_leave 47 = .ok (.ifCond .eq 20, 3) := by decide +kernel
theorem dX1_leave_50 : decode cX1_leave 50 = .ok (.aload_n 0, 1) := by decide +kernel
theorem dX1_leave_51 : decode cX1_leave 51 = .ok (.iload_n 2, 1) := by decide +kernel
theorem dX1_leave_52 : decode cX1_leave 52 = .ok (.aload_n 1, 1) := by decide +kernel
theorem dX1_leave_53 : decode cX1_leave 53 = .ok (.getfield 88, 3) := by decide +kernel
theorem dX1_leave_56 : decode cX1_leave 56 = .ok (.iload_n 3, 1) := by decide +kernel
theorem dX1_leave_57 : decode cX1_leave 57 = .ok (.invokestatic 80, 3) := by decide +kernel
theorem dX1_leave_60 : decode cX1_leave 60 = .ok (.aload_n 1, 1) := by decide +kernel
theorem dX1_leave_61 : decode cX1_leave 61 = .ok (.getfield 34, 3) := by decide +kernel
theorem dX1_leave_64 : decode cX1_leave 64 = .ok (.invokevirtual 95, 3) := by decide +kernel
theorem dX1_leave_67 : decode cX1_leave 67 = .ok (.iload 4, 2) := by decide +kernel
theorem dX1_leave_69 : decode cX1_leave 69 = .ok (.iconst 3, 1) := by decide +kernel
theorem dX1_leave_70 : decode cX1_leave 70 = .ok (.if_icmp .ne 16, 3) := by decide +kernel
theorem dX1_leave_73 : decode cX1_leave 73 = .ok (.aload_n 0, 1) := by decide +kernel
theorem dX1_leave_74 : decode cX1_leave 74 = .ok (.iload_n 2, 1) := by decide +kernel
theorem dX1_leave_75 : decode cX1_leave 75 = .ok (.aload_n 1, 1) := by decide +kernel
theorem dX1_leave_76 : decode cX1_leave 76 = .ok (.getfield 34, 3) := by decide +kernel
theorem dX1_leave_79 : decode cX1_leave 79 = .ok (.aload_n 1, 1) := by decide +kernel
theorem dX1_leave_80 : decode cX1_leave 80 = .ok (.getfield 34, 3) := by decide +kernel
theorem dX1_leave_83 : decode cX1_leave 83 = .ok (.invokevirtual 95, 3) := by decide +kernel
theorem dX1_leave_86 : decode cX1_leave 86 = .ok (.return_, 1) := by decide +kernel
theorem mw_102 : Cond.code yX1_join cX1_join 7 (none : Option FieldType) ∈ GW := gw_mem (inT2 _ (List.mem_of_getElem? (i := 133) rfl)) rfl
theorem mw_103 : Cond.methodLink RX1 95 yX1_join ∈ GW := gw_mem (inT2 _ (List.mem_of_getElem? (i := 130) rfl)) rfl
theorem mw_104 : Cond.instanceMethod yX1_join ∈ GW := gw_mem (inT2 _ (List.mem_of_getElem? (i := 132) rfl)) rfl
theorem mw_105 : Cond.selects RX1 yX1_join yX1_join ∈ GW := gw_mem (inTp (q := (yX1_join, 11)) (List.mem_of_getElem? (i := 4) rfl)) rfl
theorem mw_106 : Cond.initialized RX1 ∈ GW := gw_mem (inT1 _ (List.mem_of_getElem? (i := 3) rfl)) rfl
theorem pdv_X1_join : yX1_join.cls = RX1 ∧ yX1_join.cls ≠ "java/lang/invoke/MethodHandle" ∧ yX1_join.cls ≠ "java/lang/invoke/VarHandle" ∧ (parseMethodDescriptor yX1_join.desc).map (fun d => d.parameters.length) = some 3 := by decide +kernel
set_option maxHeartbeats 4000000 in
set_option maxRecDepth 100000 in
theorem c_leave (l : Launch) (D : va_G) (cI cJ : ClassId) (ad : Nat → Nat) (co fl ra li re wa pi : Ob) (k1 : Int32) : CT l D (TY cI cJ) yX1_leave (.code yX1_leave cX1_leave 5 (none : Option FieldType)) 2 0 0 (XW ad cI cJ co fl ra li re wa pi) [.ref (ad 2), .ref (ad 1), .int k1] (QV D (TY cI cJ) (fun u => u = (XW ad cI cJ co (leave co fl k1) ra li re wa pi))) := by
  refine ent (by decide) (Nat.le_of_ble_eq_true rfl) ?_
  intro p e s m below meth c ls A hx hb hr hg hown hml hlocks hnm hP hK hD hS hA hN hl
  have hl : lv_has ls 5 [(0, .ref (ad 2)), (1, .ref (ad 1)), (2, .int k1)] := hl
  refine lv_aload_n hx hb dX1_leave_0 rfl (lv_at hl 0 rfl) ?_
  refine va_get (D := D) (ci := 1) (v := .ref (ad 14)) (C := RX1) (T := TX1) (N := 11) hx hb hg inGX1 hown hK hP 2 xo2 rfl 2 (by decide) (hg _ mw_94) (fun _ h9 => h9) xvX1_2 dX1_leave_1 ?_
  refine lv_iload_n hx hb dX1_leave_4 rfl (lv_at hl 2 rfl) ?_
  refine kI (rSN hx hb hml hown hg hN hK hP hD (c_at l D cI cJ (XW ad cI cJ co fl ra li re wa pi) 14 (ad 14) 40 (gA fl 2) k1 (xg14 rfl) (by decide)) mw_84 nw_65 mw_85 mw_77 pd_X7_at ⟨Nat.le_of_ble_eq_true rfl, Nat.le_of_ble_eq_true rfl⟩ rfl hl.1 rfl (Nat.le_of_ble_eq_true rfl) dX1_leave_5 ⟨Nat.le_of_ble_eq_true rfl, Nat.le_of_ble_eq_true rfl⟩) hD hS hA (fun r_1 u_1 H locs hp hP hD hS => ?_)
  obtain ⟨er, eu⟩ := hp
  obtain rfl := er.symm
  obtain rfl := eu.symm
  refine lv_istore_n (lv' := [(3, .int (rd (gA fl 2) 40 k1)), (0, .ref (ad 2)), (1, .ref (ad 1)), (2, .int k1)]) hx hb dX1_leave_8 rfl hl (by decide) rfl (fun ls hl => ?_)
  refine lv_aload_n hx hb dX1_leave_9 rfl (lv_at hl 2 rfl) ?_
  refine va_getN (D := D) (ci := 0) (v := .ref (ad 8)) (C := RX0) (T := TX0) (N := 5) hx hb hg inGX0 hown hK hP 1 xo1 rfl 0 (by decide) (hN.use nw_1) (fun _ h9 => h9) xvX0_0 dX1_leave_10 ?_
  refine lv_iload_n hx hb dX1_leave_13 rfl (lv_at hl 0 rfl) ?_
  refine kI (rSN hx hb hml hown hg hN hK hP hD (c_at l D cI cJ (XW ad cI cJ co fl ra li re wa pi) 8 (ad 8) 40 (gA co 0) (rd (gA fl 2) 40 k1) (xg8 rfl) (by decide)) mw_84 nw_65 mw_85 mw_77 pd_X7_at ⟨Nat.le_of_ble_eq_true rfl, Nat.le_of_ble_eq_true rfl⟩ rfl hl.1 rfl (Nat.le_of_ble_eq_true rfl) dX1_leave_14 ⟨Nat.le_of_ble_eq_true rfl, Nat.le_of_ble_eq_true rfl⟩) hD hS hA (fun r_2 u_2 H locs hp hP hD hS => ?_)
  obtain ⟨er, eu⟩ := hp
  obtain rfl := er.symm
  obtain rfl := eu.symm
  refine lv_istore (lv' := [(4, .int (rd (gA co 0) 40 (rd (gA fl 2) 40 k1))), (3, .int (rd (gA fl 2) 40 k1)), (0, .ref (ad 2)), (1, .ref (ad 1)), (2, .int k1)]) hx hb dX1_leave_17 hl (by decide) rfl (fun ls hl => ?_)
  refine lv_iload hx hb dX1_leave_19 (lv_at hl 0 rfl) ?_
  refine lv_if_eq (tgt := 30) hx hb dX1_leave_21 (by decide) (fun c_21 => ?_) (fun c_21 => ?_)
  · refine lv_aload_n hx hb dX1_leave_30 rfl (lv_at hl 2 rfl) ?_
    refine lv_iload_n hx hb dX1_leave_31 rfl (lv_at hl 4 rfl) ?_
    refine lv_iload_n hx hb dX1_leave_32 rfl (lv_at hl 1 rfl) ?_
    refine lv_iconst (v := 1) hx hb dX1_leave_33 (by decide) ?_
    refine lv_iadd hx hb dX1_leave_34 ?_
    refine lv_aload_n hx hb dX1_leave_35 rfl (lv_at hl 3 rfl) ?_
    refine va_getN (D := D) (ci := 0) (v := .int (gi co 0)) (C := RX0) (T := TX0) (N := 5) hx hb hg inGX0 hown hK hP 1 xo1 rfl 4 (by decide) (hN.use nw_9) (fun _ h9 => h9) (xvX0_4 rfl) dX1_leave_36 ?_
    refine kV (rV (q0 := 2) (ci := 1) hx hb hml hown hg hN hK hP hD (c_join l D cI cJ ad co fl ra li re wa pi k1 ((rd (gA fl 2) 40 k1) + 1) (gi co 0)) mw_102 mw_103 mw_104 mw_105 mw_106 pdv_X1_join ⟨Nat.le_of_ble_eq_true rfl, Nat.le_of_ble_eq_true rfl⟩ rfl xo2 rfl hl.1 rfl (Nat.le_of_ble_eq_true rfl) dX1_leave_39 ⟨Nat.le_of_ble_eq_true rfl, Nat.le_of_ble_eq_true rfl⟩) hD hS hA (fun u_3 H locs hp hP hD hS => ?_)
    obtain rfl := hp.symm
    have hP : va_P D vwCl (XW ad cI cJ co (join fl k1 ((rd (gA fl 2) 40 k1) + 1) (gi co 0)) ra li re wa pi) H := hP
    have hD : va_D A (XW ad cI cJ co (join fl k1 ((rd (gA fl 2) 40 k1) + 1) (gi co 0)) ra li re wa pi) := hD
    refine lv_iload hx hb dX1_leave_42 (lv_at hl 0 rfl) ?_
    refine kI (rSN hx hb hml hown hg hN hK hP hD (c_jumps l D cI cJ (XW ad cI cJ co (join fl k1 ((rd (gA fl 2) 40 k1) + 1) (gi co 0)) ra li re wa pi) (rd (gA co 0) 40 (rd (gA fl 2) 40 k1))) mw_86 nw_67 mw_87 mw_77 pd_X7_jumps ⟨Nat.le_of_ble_eq_true rfl, Nat.le_of_ble_eq_true rfl⟩ rfl hl.1 rfl (Nat.le_of_ble_eq_true rfl) dX1_leave_44 ⟨Nat.le_of_ble_eq_true rfl, Nat.le_of_ble_eq_true rfl⟩) hD hS hA (fun r_4 u_4 H locs hp hP hD hS => ?_)
    obtain ⟨er, eu⟩ := hp
    obtain rfl := er.symm
    obtain rfl := eu.symm
    refine lv_if_eq (tgt := 67) hx hb dX1_leave_47 (by decide) (fun c_47 => ?_) (fun c_47 => ?_)
    · have c_47 : ¬ (jmp (rd (gA co 0) 40 (rd (gA fl 2) 40 k1))) = true := b2i_0 c_47
      refine lv_iload hx hb dX1_leave_67 (lv_at hl 0 rfl) ?_
      refine lv_iconst (v := 3) hx hb dX1_leave_69 (by decide) ?_
      refine lv_icmp_ne (tgt := 86) hx hb dX1_leave_70 (by decide) (fun c_70 => ?_) (fun c_70 => ?_)
      · exact W.vret hx hb hr (fun t ht hW => ⟨⟨(XW ad cI cJ co (join fl k1 ((rd (gA fl 2) 40 k1) + 1) (gi co 0)) ra li re wa pi), rfl, xw_eq rfl (show (join fl k1 ((rd (gA fl 2) 40 k1) + 1) (gi co 0)) = (leave co fl k1) from (by simp only [leave, leaveA, leaveB, leaveC, leaveK, eq_true c_21, bf_of c_47, eq_false c_70, gi_sl, gi_sA, gi_sB, gi_si_s, gi_si_n, gl_si, gl_sA, gl_sB, gl_sl_s, gl_sl_n, gA_si, gA_sl, gA_sB, gA_sA_s, gA_sA_n, gB_si, gB_sl, gB_sA, gB_sB_s, gB_sB_n, Nat.reduceBEq, if_true, if_false, eq_self, Bool.false_eq_true, Bool.true_eq_false, not_true_eq_false, not_false_eq_true, decide_true, decide_false, cond_true, cond_false, Bool.true_and, Bool.false_and, Bool.and_true, Bool.and_false, Bool.true_or, Bool.false_or, Bool.or_true, Bool.or_false, b2i_tt, b2i_ff, pr_eta]; done)) rfl rfl rfl rfl rfl, ⟨by rw [ht]; exact hP, va_K.moved hW.alike hK, hD⟩⟩, hS.F ht⟩) hS.2.2 dX1_leave_86
      · refine lv_aload_n hx hb dX1_leave_73 rfl (lv_at hl 2 rfl) ?_
        refine lv_iload_n hx hb dX1_leave_74 rfl (lv_at hl 4 rfl) ?_
        refine lv_aload_n hx hb dX1_leave_75 rfl (lv_at hl 3 rfl) ?_
        refine va_getN (D := D) (ci := 0) (v := .int (gi co 0)) (C := RX0) (T := TX0) (N := 5) hx hb hg inGX0 hown hK hP 1 xo1 rfl 4 (by decide) (hN.use nw_9) (fun _ h9 => h9) (xvX0_4 rfl) dX1_leave_76 ?_
        refine lv_aload_n hx hb dX1_leave_79 rfl (lv_at hl 3 rfl) ?_
        refine va_getN (D := D) (ci := 0) (v := .int (gi co 0)) (C := RX0) (T := TX0) (N := 5) hx hb hg inGX0 hown hK hP 1 xo1 rfl 4 (by decide) (hN.use nw_9) (fun _ h9 => h9) (xvX0_4 rfl) dX1_leave_80 ?_
        refine kV (rV (q0 := 2) (ci := 1) hx hb hml hown hg hN hK hP hD (c_join l D cI cJ ad co (join fl k1 ((rd (gA fl 2) 40 k1) + 1) (gi co 0)) ra li re wa pi k1 (gi co 0) (gi co 0)) mw_102 mw_103 mw_104 mw_105 mw_106 pdv_X1_join ⟨Nat.le_of_ble_eq_true rfl, Nat.le_of_ble_eq_true rfl⟩ rfl xo2 rfl hl.1 rfl (Nat.le_of_ble_eq_true rfl) dX1_leave_83 ⟨Nat.le_of_ble_eq_true rfl, Nat.le_of_ble_eq_true rfl⟩) hD hS hA (fun u_5 H locs hp hP hD hS => ?_)
        obtain rfl := hp.symm
        have hP : va_P D vwCl (XW ad cI cJ co (join (join fl k1 ((rd (gA fl 2) 40 k1) + 1) (gi co 0)) k1 (gi co 0) (gi co 0)) ra li re wa pi) H := hP
        have hD : va_D A (XW ad cI cJ co (join (join fl k1 ((rd (gA fl 2) 40 k1) + 1) (gi co 0)) k1 (gi co 0) (gi co 0)) ra li re wa pi) := hD
        exact W.vret hx hb hr (fun t ht hW => ⟨⟨(XW ad cI cJ co (join (join fl k1 ((rd (gA fl 2) 40 k1) + 1) (gi co 0)) k1 (gi co 0) (gi co 0)) ra li re wa pi), rfl, xw_eq rfl (show (join (join fl k1 ((rd (gA fl 2) 40 k1) + 1) (gi co 0)) k1 (gi co 0) (gi co 0)) = (leave co fl k1) from (by simp only [leave, leaveA, leaveB, leaveC, leaveK, eq_true c_21, bf_of c_47, eq_true c_70, gi_sl, gi_sA, gi_sB, gi_si_s, gi_si_n, gl_si, gl_sA, gl_sB, gl_sl_s, gl_sl_n, gA_si, gA_sl, gA_sB, gA_sA_s, gA_sA_n, gB_si, gB_sl, gB_sA, gB_sB_s, gB_sB_n, Nat.reduceBEq, if_true, if_false, eq_self, Bool.false_eq_true, Bool.true_eq_false, not_true_eq_false, not_false_eq_true, decide_true, decide_false, cond_true, cond_false, Bool.true_and, Bool.false_and, Bool.and_true, Bool.and_false, Bool.true_or, Bool.false_or, Bool.or_true, Bool.or_false, b2i_tt, b2i_ff, pr_eta]; done)) rfl rfl rfl rfl rfl, ⟨by rw [ht]; exact hP, va_K.moved hW.alike hK, hD⟩⟩, hS.F ht⟩) hS.2.2 dX1_leave_86
    · have c_47 : (jmp (rd (gA co 0) 40 (rd (gA fl 2) 40 k1))) = true := b2i_1 c_47
      refine lv_aload_n hx hb dX1_leave_50 rfl (lv_at hl 2 rfl) ?_
      refine lv_iload_n hx hb dX1_leave_51 rfl (lv_at hl 4 rfl) ?_
      refine lv_aload_n hx hb dX1_leave_52 rfl (lv_at hl 3 rfl) ?_
      refine va_getN (D := D) (ci := 0) (v := .ref (ad 9)) (C := RX0) (T := TX0) (N := 5) hx hb hg inGX0 hown hK hP 1 xo1 rfl 1 (by decide) (hN.use nw_3) (fun _ h9 => h9) xvX0_1 dX1_leave_53 ?_
      refine lv_iload_n hx hb dX1_leave_56 rfl (lv_at hl 1 rfl) ?_
      refine kI (rSN hx hb hml hown hg hN hK hP hD (c_at l D cI cJ (XW ad cI cJ co (join fl k1 ((rd (gA fl 2) 40 k1) + 1) (gi co 0)) ra li re wa pi) 9 (ad 9) 40 (gA co 1) (rd (gA fl 2) 40 k1) (xg9 rfl) (by decide)) mw_84 nw_65 mw_85 mw_77 pd_X7_at ⟨Nat.le_of_ble_eq_true rfl, Nat.le_of_ble_eq_true rfl⟩ rfl hl.1 rfl (Nat.le_of_ble_eq_true rfl) dX1_leave_57 ⟨Nat.le_of_ble_eq_true rfl, Nat.le_of_ble_eq_true rfl⟩) hD hS hA (fun r_6 u_6 H locs hp hP hD hS => ?_)
      obtain ⟨er, eu⟩ := hp
      obtain rfl := er.symm
      obtain rfl := eu.symm
      refine lv_aload_n hx hb dX1_leave_60 rfl (lv_at hl 3 rfl) ?_
      refine va_getN (D := D) (ci := 0) (v := .int (gi co 0)) (C := RX0) (T := TX0) (N := 5) hx hb hg inGX0 hown hK hP 1 xo1 rfl 4 (by decide) (hN.use nw_9) (fun _ h9 => h9) (xvX0_4 rfl) dX1_leave_61 ?_
      refine kV (rV (q0 := 2) (ci := 1) hx hb hml hown hg hN hK hP hD (c_join l D cI cJ ad co (join fl k1 ((rd (gA fl 2) 40 k1) + 1) (gi co 0)) ra li re wa pi k1 (rd (gA co 1) 40 (rd (gA fl 2) 40 k1)) (gi co 0)) mw_102 mw_103 mw_104 mw_105 mw_106 pdv_X1_join ⟨Nat.le_of_ble_eq_true rfl, Nat.le_of_ble_eq_true rfl⟩ rfl xo2 rfl hl.1 rfl (Nat.le_of_ble_eq_true rfl) dX1_leave_64 ⟨Nat.le_of_ble_eq_true rfl, Nat.le_of_ble_eq_true rfl⟩) hD hS hA (fun u_7 H locs hp hP hD hS => ?_)
      obtain rfl := hp.symm
      have hP : va_P D vwCl (XW ad cI cJ co (join (join fl k1 ((rd (gA fl 2) 40 k1) + 1) (gi co 0)) k1 (rd (gA co 1) 40 (rd (gA fl 2) 40 k1)) (gi co 0)) ra li re wa pi) H := hP
      have hD : va_D A (XW ad cI cJ co (join (join fl k1 ((rd (gA fl 2) 40 k1) + 1) (gi co 0)) k1 (rd (gA co 1) 40 (rd (gA fl 2) 40 k1)) (gi co 0)) ra li re wa pi) := hD
      refine lv_iload hx hb dX1_leave_67 (lv_at hl 0 rfl) ?_
      refine lv_iconst (v := 3) hx hb dX1_leave_69 (by decide) ?_
      refine lv_icmp_ne (tgt := 86) hx hb dX1_leave_70 (by decide) (fun c_70 => ?_) (fun c_70 => ?_)
      · exact W.vret hx hb hr (fun t ht hW => ⟨⟨(XW ad cI cJ co (join (join fl k1 ((rd (gA fl 2) 40 k1) + 1) (gi co 0)) k1 (rd (gA co 1) 40 (rd (gA fl 2) 40 k1)) (gi co 0)) ra li re wa pi), rfl, xw_eq rfl (show (join (join fl k1 ((rd (gA fl 2) 40 k1) + 1) (gi co 0)) k1 (rd (gA co 1) 40 (rd (gA fl 2) 40 k1)) (gi co 0)) = (leave co fl k1) from (by simp only [leave, leaveA, leaveB, leaveC, leaveK, eq_true c_21, c_47, eq_false c_70, gi_sl, gi_sA, gi_sB, gi_si_s, gi_si_n, gl_si, gl_sA, gl_sB, gl_sl_s, gl_sl_n, gA_si, gA_sl, gA_sB, gA_sA_s, gA_sA_n, gB_si, gB_sl, gB_sA, gB_sB_s, gB_sB_n, Nat.reduceBEq, if_true, if_false, eq_self, Bool.false_eq_true, Bool.true_eq_false, not_true_eq_false, not_false_eq_true, decide_true, decide_false, cond_true, cond_false, Bool.true_and, Bool.false_and, Bool.and_true, Bool.and_false, Bool.true_or, Bool.false_or, Bool.or_true, Bool.or_false, b2i_tt, b2i_ff, pr_eta]; done)) rfl rfl rfl rfl rfl, ⟨by rw [ht]; exact hP, va_K.moved hW.alike hK, hD⟩⟩, hS.F ht⟩) hS.2.2 dX1_leave_86
      · refine lv_aload_n hx hb dX1_leave_73 rfl (lv_at hl 2 rfl) ?_
        refine lv_iload_n hx hb dX1_leave_74 rfl (lv_at hl 4 rfl) ?_
        refine lv_aload_n hx hb dX1_leave_75 rfl (lv_at hl 3 rfl) ?_
        refine va_getN (D := D) (ci := 0) (v := .int (gi co 0)) (C := RX0) (T := TX0) (N := 5) hx hb hg inGX0 hown hK hP 1 xo1 rfl 4 (by decide) (hN.use nw_9) (fun _ h9 => h9) (xvX0_4 rfl) dX1_leave_76 ?_
        refine lv_aload_n hx hb dX1_leave_79 rfl (lv_at hl 3 rfl) ?_
        refine va_getN (D := D) (ci := 0) (v := .int (gi co 0)) (C := RX0) (T := TX0) (N := 5) hx hb hg inGX0 hown hK hP 1 xo1 rfl 4 (by decide) (hN.use nw_9) (fun _ h9 => h9) (xvX0_4 rfl) dX1_leave_80 ?_
        refine kV (rV (q0 := 2) (ci := 1) hx hb hml hown hg hN hK hP hD (c_join l D cI cJ ad co (join (join fl k1 ((rd (gA fl 2) 40 k1) + 1) (gi co 0)) k1 (rd (gA co 1) 40 (rd (gA fl 2) 40 k1)) (gi co 0)) ra li re wa pi k1 (gi co 0) (gi co 0)) mw_102 mw_103 mw_104 mw_105 mw_106 pdv_X1_join ⟨Nat.le_of_ble_eq_true rfl, Nat.le_of_ble_eq_true rfl⟩ rfl xo2 rfl hl.1 rfl (Nat.le_of_ble_eq_true rfl) dX1_leave_83 ⟨Nat.le_of_ble_eq_true rfl, Nat.le_of_ble_eq_true rfl⟩) hD hS hA (fun u_8 H locs hp hP hD hS => ?_)
        obtain rfl := hp.symm
        have hP : va_P D vwCl (XW ad cI cJ co (join (join (join fl k1 ((rd (gA fl 2) 40 k1) + 1) (gi co 0)) k1 (rd (gA co 1) 40 (rd (gA fl 2) 40 k1)) (gi co 0)) k1 (gi co 0) (gi co 0)) ra li re wa pi) H := hP
        have hD : va_D A (XW ad cI cJ co (join (join (join fl k1 ((rd (gA fl 2) 40 k1) + 1) (gi co 0)) k1 (rd (gA co 1) 40 (rd (gA fl 2) 40 k1)) (gi co 0)) k1 (gi co 0) (gi co 0)) ra li re wa pi) := hD
        exact W.vret hx hb hr (fun t ht hW => ⟨⟨(XW ad cI cJ co (join (join (join fl k1 ((rd (gA fl 2) 40 k1) + 1) (gi co 0)) k1 (rd (gA co 1) 40 (rd (gA fl 2) 40 k1)) (gi co 0)) k1 (gi co 0) (gi co 0)) ra li re wa pi), rfl, xw_eq rfl (show (join (join (join fl k1 ((rd (gA fl 2) 40 k1) + 1) (gi co 0)) k1 (rd (gA co 1) 40 (rd (gA fl 2) 40 k1)) (gi co 0)) k1 (gi co 0) (gi co 0)) = (leave co fl k1) from (by simp only [leave, leaveA, leaveB, leaveC, leaveK, eq_true c_21, c_47, eq_true c_70, gi_sl, gi_sA, gi_sB, gi_si_s, gi_si_n, gl_si, gl_sA, gl_sB, gl_sl_s, gl_sl_n, gA_si, gA_sl, gA_sB, gA_sA_s, gA_sA_n, gB_si, gB_sl, gB_sA, gB_sB_s, gB_sB_n, Nat.reduceBEq, if_true, if_false, eq_self, Bool.false_eq_true, Bool.true_eq_false, not_true_eq_false, not_false_eq_true, decide_true, decide_false, cond_true, cond_false, Bool.true_and, Bool.false_and, Bool.and_true, Bool.and_false, Bool.true_or, Bool.false_or, Bool.or_true, Bool.or_false, b2i_tt, b2i_ff, pr_eta]; done)) rfl rfl rfl rfl rfl, ⟨by rw [ht]; exact hP, va_K.moved hW.alike hK, hD⟩⟩, hS.F ht⟩) hS.2.2 dX1_leave_86
  · refine lv_iload hx hb dX1_leave_24 (lv_at hl 0 rfl) ?_
    refine lv_iconst (v := 1) hx hb dX1_leave_26 (by decide) ?_
    refine lv_icmp_ne (tgt := 42) hx hb dX1_leave_27 (by decide) (fun c_27 => ?_) (fun c_27 => ?_)
    · refine lv_iload hx hb dX1_leave_42 (lv_at hl 0 rfl) ?_
      refine kI (rSN hx hb hml hown hg hN hK hP hD (c_jumps l D cI cJ (XW ad cI cJ co fl ra li re wa pi) (rd (gA co 0) 40 (rd (gA fl 2) 40 k1))) mw_86 nw_67 mw_87 mw_77 pd_X7_jumps ⟨Nat.le_of_ble_eq_true rfl, Nat.le_of_ble_eq_true rfl⟩ rfl hl.1 rfl (Nat.le_of_ble_eq_true rfl) dX1_leave_44 ⟨Nat.le_of_ble_eq_true rfl, Nat.le_of_ble_eq_true rfl⟩) hD hS hA (fun r_9 u_9 H locs hp hP hD hS => ?_)
      obtain ⟨er, eu⟩ := hp
      obtain rfl := er.symm
      obtain rfl := eu.symm
      refine lv_if_eq (tgt := 67) hx hb dX1_leave_47 (by decide) (fun c_47 => ?_) (fun c_47 => ?_)
      · have c_47 : ¬ (jmp (rd (gA co 0) 40 (rd (gA fl 2) 40 k1))) = true := b2i_0 c_47
        refine lv_iload hx hb dX1_leave_67 (lv_at hl 0 rfl) ?_
        refine lv_iconst (v := 3) hx hb dX1_leave_69 (by decide) ?_
        refine lv_icmp_ne (tgt := 86) hx hb dX1_leave_70 (by decide) (fun c_70 => ?_) (fun c_70 => ?_)
        · exact W.vret hx hb hr (fun t ht hW => ⟨⟨(XW ad cI cJ co fl ra li re wa pi), rfl, xw_eq rfl (show fl = (leave co fl k1) from (by simp only [leave, leaveA, leaveB, leaveC, leaveK, eq_false c_21, eq_false c_27, bf_of c_47, eq_false c_70, gi_sl, gi_sA, gi_sB, gi_si_s, gi_si_n, gl_si, gl_sA, gl_sB, gl_sl_s, gl_sl_n, gA_si, gA_sl, gA_sB, gA_sA_s, gA_sA_n, gB_si, gB_sl, gB_sA, gB_sB_s, gB_sB_n, Nat.reduceBEq, if_true, if_false, eq_self, Bool.false_eq_true, Bool.true_eq_false, not_true_eq_false, not_false_eq_true, decide_true, decide_false, cond_true, cond_false, Bool.true_and, Bool.false_and, Bool.and_true, Bool.and_false, Bool.true_or, Bool.false_or, Bool.or_true, Bool.or_false, b2i_tt, b2i_ff, pr_eta]; done)) rfl rfl rfl rfl rfl, ⟨by rw [ht]; exact hP, va_K.moved hW.alike hK, hD⟩⟩, hS.F ht⟩) hS.2.2 dX1_leave_86
        · refine lv_aload_n hx hb dX1_leave_73 rfl (lv_at hl 2 rfl) ?_
          refine lv_iload_n hx hb dX1_leave_74 rfl (lv_at hl 4 rfl) ?_
          refine lv_aload_n hx hb dX1_leave_75 rfl (lv_at hl 3 rfl) ?_
          refine va_getN (D := D) (ci := 0) (v := .int (gi co 0)) (C := RX0) (T := TX0) (N := 5) hx hb hg inGX0 hown hK hP 1 xo1 rfl 4 (by decide) (hN.use nw_9) (fun _ h9 => h9) (xvX0_4 rfl) dX1_leave_76 ?_
          refine lv_aload_n hx hb dX1_leave_79 rfl (lv_at hl 3 rfl) ?_
          refine va_getN (D := D) (ci := 0) (v := .int (gi co 0)) (C := RX0) (T := TX0) (N := 5) hx hb hg inGX0 hown hK hP 1 xo1 rfl 4 (by decide) (hN.use nw_9) (fun _ h9 => h9) (xvX0_4 rfl) dX1_leave_80 ?_
          refine kV (rV (q0 := 2) (ci := 1) hx hb hml hown hg hN hK hP hD (c_join l D cI cJ ad co fl ra li re wa pi k1 (gi co 0) (gi co 0)) mw_102 mw_103 mw_104 mw_105 mw_106 pdv_X1_join ⟨Nat.le_of_ble_eq_true rfl, Nat.le_of_ble_eq_true rfl⟩ rfl xo2 rfl hl.1 rfl (Nat.le_of_ble_eq_true rfl) dX1_leave_83 ⟨Nat.le_of_ble_eq_true rfl, Nat.le_of_ble_eq_true rfl⟩) hD hS hA (fun u_10 H locs hp hP hD hS => ?_)
          obtain rfl := hp.symm
          have hP : va_P D vwCl (XW ad cI cJ co (join fl k1 (gi co 0) (gi co 0)) ra li re wa pi) H := hP
          have hD : va_D A (XW ad cI cJ co (join fl k1 (gi co 0) (gi co 0)) ra li re wa pi) := hD
          exact W.vret hx hb hr (fun t ht hW => ⟨⟨(XW ad cI cJ co (join fl k1 (gi co 0) (gi co 0)) ra li re wa pi), rfl, xw_eq rfl (show (join fl k1 (gi co 0) (gi co 0)) = (leave co fl k1) from (by simp only [leave, leaveA, leaveB, leaveC, leaveK, eq_false c_21, eq_false c_27, bf_of c_47, eq_true c_70, gi_sl, gi_sA, gi_sB, gi_si_s, gi_si_n, gl_si, gl_sA, gl_sB, gl_sl_s, gl_sl_n, gA_si, gA_sl, gA_sB, gA_sA_s, gA_sA_n, gB_si, gB_sl, gB_sA, gB_sB_s, gB_sB_n, Nat.reduceBEq, if_true, if_false, eq_self, Bool.false_eq_true, Bool.true_eq_false, not_true_eq_false, not_false_eq_true, decide_true, decide_false, cond_true, cond_false, Bool.true_and, Bool.false_and, Bool.and_true, Bool.and_false, Bool.true_or, Bool.false_or, Bool.or_true, Bool.or_false, b2i_tt, b2i_ff, pr_eta]; done)) rfl rfl rfl rfl rfl, ⟨by rw [ht]; exact hP, va_K.moved hW.alike hK, hD⟩⟩, hS.F ht⟩) hS.2.2 dX1_leave_86
      · have c_47 : (jmp (rd (gA co 0) 40 (rd (gA fl 2) 40 k1))) = true := b2i_1 c_47
        refine lv_aload_n hx hb dX1_leave_50 rfl (lv_at hl 2 rfl) ?_
        refine lv_iload_n hx hb dX1_leave_51 rfl (lv_at hl 4 rfl) ?_
        refine lv_aload_n hx hb dX1_leave_52 rfl (lv_at hl 3 rfl) ?_
        refine va_getN (D := D) (ci := 0) (v := .ref (ad 9)) (C := RX0) (T := TX0) (N := 5) hx hb hg inGX0 hown hK hP 1 xo1 rfl 1 (by decide) (hN.use nw_3) (fun _ h9 => h9) xvX0_1 dX1_leave_53 ?_
        refine lv_iload_n hx hb dX1_leave_56 rfl (lv_at hl 1 rfl) ?_
        refine kI (rSN hx hb hml hown hg hN hK hP hD (c_at l D cI cJ (XW ad cI cJ co fl ra li re wa pi) 9 (ad 9) 40 (gA co 1) (rd (gA fl 2) 40 k1) (xg9 rfl) (by decide)) mw_84 nw_65 mw_85 mw_77 pd_X7_at ⟨Nat.le_of_ble_eq_true rfl, Nat.le_of_ble_eq_true rfl⟩ rfl hl.1 rfl (Nat.le_of_ble_eq_true rfl) dX1_leave_57 ⟨Nat.le_of_ble_eq_true rfl, Nat.le_of_ble_eq_true rfl⟩) hD hS hA (fun r_11 u_11 H locs hp hP hD hS => ?_)
        obtain ⟨er, eu⟩ := hp
        obtain rfl := er.symm
        obtain rfl := eu.symm
        refine lv_aload_n hx hb dX1_leave_60 rfl (lv_at hl 3 rfl) ?_
        refine va_getN (D := D) (ci := 0) (v := .int (gi co 0)) (C := RX0) (T := TX0) (N := 5) hx hb hg inGX0 hown hK hP 1 xo1 rfl 4 (by decide) (hN.use nw_9) (fun _ h9 => h9) (xvX0_4 rfl) dX1_leave_61 ?_
        refine kV (rV (q0 := 2) (ci := 1) hx hb hml hown hg hN hK hP hD (c_join l D cI cJ ad co fl ra li re wa pi k1 (rd (gA co 1) 40 (rd (gA fl 2) 40 k1)) (gi co 0)) mw_102 mw_103 mw_104 mw_105 mw_106 pdv_X1_join ⟨Nat.le_of_ble_eq_true rfl, Nat.le_of_ble_eq_true rfl⟩ rfl xo2 rfl hl.1 rfl (Nat.le_of_ble_eq_true rfl) dX1_leave_64 ⟨Nat.le_of_ble_eq_true rfl, Nat.le_of_ble_eq_true rfl⟩) hD hS hA (fun u_12 H locs hp hP hD hS => ?_)
        obtain rfl := hp.symm
        have hP : va_P D vwCl (XW ad cI cJ co (join fl k1 (rd (gA co 1) 40 (rd (gA fl 2) 40 k1)) (gi co 0)) ra li re wa pi) H := hP
        have hD : va_D A (XW ad cI cJ co (join fl k1 (rd (gA co 1) 40 (rd (gA fl 2) 40 k1)) (gi co 0)) ra li re wa pi) := hD
        refine lv_iload hx hb dX1_leave_67 (lv_at hl 0 rfl) ?_
        refine lv_iconst (v := 3) hx hb dX1_leave_69 (by decide) ?_
        refine lv_icmp_ne (tgt := 86) hx hb dX1_leave_70 (by decide) (fun c_70 => ?_) (fun c_70 => ?_)
        · exact W.vret hx hb hr (fun t ht hW => ⟨⟨(XW ad cI cJ co (join fl k1 (rd (gA co 1) 40 (rd (gA fl 2) 40 k1)) (gi co 0)) ra li re wa pi), rfl, xw_eq rfl (show (join fl k1 (rd (gA co 1) 40 (rd (gA fl 2) 40 k1)) (gi co 0)) = (leave co fl k1) from (by simp only [leave, leaveA, leaveB, leaveC, leaveK, eq_false c_21, eq_false c_27, c_47, eq_false c_70, gi_sl, gi_sA, gi_sB, gi_si_s, gi_si_n, gl_si, gl_sA, gl_sB, gl_sl_s, gl_sl_n, gA_si, gA_sl, gA_sB, gA_sA_s, gA_sA_n, gB_si, gB_sl, gB_sA, gB_sB_s, gB_sB_n, Nat.reduceBEq, if_true, if_false, eq_self, Bool.false_eq_true, Bool.true_eq_false, not_true_eq_false, not_false_eq_true, decide_true, decide_false, cond_true, cond_false, Bool.true_and, Bool.false_and, Bool.and_true, Bool.and_false, Bool.true_or, Bool.false_or, Bool.or_true, Bool.or_false, b2i_tt, b2i_ff, pr_eta]; done)) rfl rfl rfl rfl rfl, ⟨by rw [ht]; exact hP, va_K.moved hW.alike hK, hD⟩⟩, hS.F ht⟩) hS.2.2 dX1_leave_86
        · refine lv_aload_n hx hb dX1_leave_73 rfl (lv_at hl 2 rfl) ?_
          refine lv_iload_n hx hb dX1_leave_74 rfl (lv_at hl 4 rfl) ?_
          refine lv_aload_n hx hb dX1_leave_75 rfl (lv_at hl 3 rfl) ?_
          refine va_getN (D := D) (ci := 0) (v := .int (gi co 0)) (C := RX0) (T := TX0) (N := 5) hx hb hg inGX0 hown hK hP 1 xo1 rfl 4 (by decide) (hN.use nw_9) (fun _ h9 => h9) (xvX0_4 rfl) dX1_leave_76 ?_
          refine lv_aload_n hx hb dX1_leave_79 rfl (lv_at hl 3 rfl) ?_
          refine va_getN (D := D) (ci := 0) (v := .int (gi co 0)) (C := RX0) (T := TX0) (N := 5) hx hb hg inGX0 hown hK hP 1 xo1 rfl 4 (by decide) (hN.use nw_9) (fun _ h9 => h9) (xvX0_4 rfl) dX1_leave_80 ?_
          refine kV (rV (q0 := 2) (ci := 1) hx hb hml hown hg hN hK hP hD (c_join l D cI cJ ad co (join fl k1 (rd (gA co 1) 40 (rd (gA fl 2) 40 k1)) (gi co 0)) ra li re wa pi k1 (gi co 0) (gi co 0)) mw_102 mw_103 mw_104 mw_105 mw_106 pdv_X1_join ⟨Nat.le_of_ble_eq_true rfl, Nat.le_of_ble_eq_true rfl⟩ rfl xo2 rfl hl.1 rfl (Nat.le_of_ble_eq_true rfl) dX1_leave_83 ⟨Nat.le_of_ble_eq_true rfl, Nat.le_of_ble_eq_true rfl⟩) hD hS hA (fun u_13 H locs hp hP hD hS => ?_)
          obtain rfl := hp.symm
          have hP : va_P D vwCl (XW ad cI cJ co (join (join fl k1 (rd (gA co 1) 40 (rd (gA fl 2) 40 k1)) (gi co 0)) k1 (gi co 0) (gi co 0)) ra li re wa pi) H := hP
          have hD : va_D A (XW ad cI cJ co (join (join fl k1 (rd (gA co 1) 40 (rd (gA fl 2) 40 k1)) (gi co 0)) k1 (gi co 0) (gi co 0)) ra li re wa pi) := hD
          exact W.vret hx hb hr (fun t ht hW => ⟨⟨(XW ad cI cJ co (join (join fl k1 (rd (gA co 1) 40 (rd (gA fl 2) 40 k1)) (gi co 0)) k1 (gi co 0) (gi co 0)) ra li re wa pi), rfl, xw_eq rfl (show (join (join fl k1 (rd (gA co 1) 40 (rd (gA fl 2) 40 k1)) (gi co 0)) k1 (gi co 0) (gi co 0)) = (leave co fl k1) from (by simp only [leave, leaveA, leaveB, leaveC, leaveK, eq_false c_21, eq_false c_27, c_47, eq_true c_70, gi_sl, gi_sA, gi_sB, gi_si_s, gi_si_n, gl_si, gl_sA, gl_sB, gl_sl_s, gl_sl_n, gA_si, gA_sl, gA_sB, gA_sA_s, gA_sA_n, gB_si, gB_sl, gB_sA, gB_sB_s, gB_sB_n, Nat.reduceBEq, if_true, if_false, eq_self, Bool.false_eq_true, Bool.true_eq_false, not_true_eq_false, not_false_eq_true, decide_true, decide_false, cond_true, cond_false, Bool.true_and, Bool.false_and, Bool.and_true, Bool.and_false, Bool.true_or, Bool.false_or, Bool.or_true, Bool.or_false, b2i_tt, b2i_ff, pr_eta]; done)) rfl rfl rfl rfl rfl, ⟨by rw [ht]; exact hP, va_K.moved hW.alike hK, hD⟩⟩, hS.F ht⟩) hS.2.2 dX1_leave_86
    · refine lv_aload_n hx hb dX1_leave_30 rfl (lv_at hl 2 rfl) ?_
      refine lv_iload_n hx hb dX1_leave_31 rfl (lv_at hl 4 rfl) ?_
      refine lv_iload_n hx hb dX1_leave_32 rfl (lv_at hl 1 rfl) ?_
      refine lv_iconst (v := 1) hx hb dX1_leave_33 (by decide) ?_
      refine lv_iadd hx hb dX1_leave_34 ?_
      refine lv_aload_n hx hb dX1_leave_35 rfl (lv_at hl 3 rfl) ?_
      refine va_getN (D := D) (ci := 0) (v := .int (gi co 0)) (C := RX0) (T := TX0) (N := 5) hx hb hg inGX0 hown hK hP 1 xo1 rfl 4 (by decide) (hN.use nw_9) (fun _ h9 => h9) (xvX0_4 rfl) dX1_leave_36 ?_
      refine kV (rV (q0 := 2) (ci := 1) hx hb hml hown hg hN hK hP hD (c_join l D cI cJ ad co fl ra li re wa pi k1 ((rd (gA fl 2) 40 k1) + 1) (gi co 0)) mw_102 mw_103 mw_104 mw_105 mw_106 pdv_X1_join ⟨Nat.le_of_ble_eq_true rfl, Nat.le_of_ble_eq_true rfl⟩ rfl xo2 rfl hl.1 rfl (Nat.le_of_ble_eq_true rfl) dX1_leave_39 ⟨Nat.le_of_ble_eq_true rfl, Nat.le_of_ble_eq_true rfl⟩) hD hS hA (fun u_14 H locs hp hP hD hS => ?_)
      obtain rfl := hp.symm
      have hP : va_P D vwCl (XW ad cI cJ co (join fl k1 ((rd (gA fl 2) 40 k1) + 1) (gi co 0)) ra li re wa pi) H := hP
      have hD : va_D A (XW ad cI cJ co (join fl k1 ((rd (gA fl 2) 40 k1) + 1) (gi co 0)) ra li re wa pi) := hD
      refine lv_iload hx hb dX1_leave_42 (lv_at hl 0 rfl) ?_
      refine kI (rSN hx hb hml hown hg hN hK hP hD (c_jumps l D cI cJ (XW ad cI cJ co (join fl k1 ((rd (gA fl 2) 40 k1) + 1) (gi co 0)) ra li re wa pi) (rd (gA co 0) 40 (rd (gA fl 2) 40 k1))) mw_86 nw_67 mw_87 mw_77 pd_X7_jumps ⟨Nat.le_of_ble_eq_true rfl, Nat.le_of_ble_eq_true rfl⟩ rfl hl.1 rfl (Nat.le_of_ble_eq_true rfl) dX1_leave_44 ⟨Nat.le_of_ble_eq_true rfl, Nat.le_of_ble_eq_true rfl⟩) hD hS hA (fun r_15 u_15 H locs hp hP hD hS => ?_)
      obtain ⟨er, eu⟩ := hp
      obtain rfl := er.symm
      obtain rfl := eu.symm
      refine lv_if_eq (tgt := 67) hx hb dX1_leave_47 (by decide) (fun c_47 => ?_) (fun c_47 => ?_)
      · have c_47 : ¬ (jmp (rd (gA co 0) 40 (rd (gA fl 2) 40 k1))) = true := b2i_0 c_47
        refine lv_iload hx hb dX1_leave_67 (lv_at hl 0 rfl) ?_
        refine lv_iconst (v := 3) hx hb dX1_leave_69 (by decide) ?_
        refine lv_icmp_ne (tgt := 86) hx hb dX1_leave_70 (by decide) (fun c_70 => ?_) (fun c_70 => ?_)
        · exact W.vret hx hb hr (fun t ht hW => ⟨⟨(XW ad cI cJ co (join fl k1 ((rd (gA fl 2) 40 k1) + 1) (gi co 0)) ra li re wa pi), rfl, xw_eq rfl (show (join fl k1 ((rd (gA fl 2) 40 k1) + 1) (gi co 0)) = (leave co fl k1) from (by simp only [leave, leaveA, leaveB, leaveC, leaveK, eq_false c_21, eq_true c_27, bf_of c_47, eq_false c_70, gi_sl, gi_sA, gi_sB, gi_si_s, gi_si_n, gl_si, gl_sA, gl_sB, gl_sl_s, gl_sl_n, gA_si, gA_sl, gA_sB, gA_sA_s, gA_sA_n, gB_si, gB_sl, gB_sA, gB_sB_s, gB_sB_n, Nat.reduceBEq, if_true, if_false, eq_self, Bool.false_eq_true, Bool.true_eq_false, not_true_eq_false, not_false_eq_true, decide_true, decide_false, cond_true, cond_false, Bool.true_and, Bool.false_and, Bool.and_true, Bool.and_false, Bool.true_or, Bool.false_or, Bool.or_true, Bool.or_false, b2i_tt, b2i_ff, pr_eta]; done)) rfl rfl rfl rfl rfl, ⟨by rw [ht]; exact hP, va_K.moved hW.alike hK, hD⟩⟩, hS.F ht⟩) hS.2.2 dX1_leave_86
        · refine lv_aload_n hx hb dX1_leave_73 rfl (lv_at hl 2 rfl) ?_
          refine lv_iload_n hx hb dX1_leave_74 rfl (lv_at hl 4 rfl) ?_
          refine lv_aload_n hx hb dX1_leave_75 rfl (lv_at hl 3 rfl) ?_
          refine va_getN (D := D) (ci := 0) (v := .int (gi co 0)) (C := RX0) (T := TX0) (N := 5) hx hb hg inGX0 hown hK hP 1 xo1 rfl 4 (by decide) (hN.use nw_9) (fun _ h9 => h9) (xvX0_4 rfl) dX1_leave_76 ?_
          refine lv_aload_n hx hb dX1_leave_79 rfl (lv_at hl 3 rfl) ?_
          refine va_getN (D := D) (ci := 0) (v := .int (gi co 0)) (C := RX0) (T := TX0) (N := 5) hx hb hg inGX0 hown hK hP 1 xo1 rfl 4 (by decide) (hN.use nw_9) (fun _ h9 => h9) (xvX0_4 rfl) dX1_leave_80 ?_
          refine kV (rV (q0 := 2) (ci := 1) hx hb hml hown hg hN hK hP hD (c_join l D cI cJ ad co (join fl k1 ((rd (gA fl 2) 40 k1) + 1) (gi co 0)) ra li re wa pi k1 (gi co 0) (gi co 0)) mw_102 mw_103 mw_104 mw_105 mw_106 pdv_X1_join ⟨Nat.le_of_ble_eq_true rfl, Nat.le_of_ble_eq_true rfl⟩ rfl xo2 rfl hl.1 rfl (Nat.le_of_ble_eq_true rfl) dX1_leave_83 ⟨Nat.le_of_ble_eq_true rfl, Nat.le_of_ble_eq_true rfl⟩) hD hS hA (fun u_16 H locs hp hP hD hS => ?_)
          obtain rfl := hp.symm
          have hP : va_P D vwCl (XW ad cI cJ co (join (join fl k1 ((rd (gA fl 2) 40 k1) + 1) (gi co 0)) k1 (gi co 0) (gi co 0)) ra li re wa pi) H := hP
          have hD : va_D A (XW ad cI cJ co (join (join fl k1 ((rd (gA fl 2) 40 k1) + 1) (gi co 0)) k1 (gi co 0) (gi co 0)) ra li re wa pi) := hD
          exact W.vret hx hb hr (fun t ht hW => ⟨⟨(XW ad cI cJ co (join (join fl k1 ((rd (gA fl 2) 40 k1) + 1) (gi co 0)) k1 (gi co 0) (gi co 0)) ra li re wa pi), rfl, xw_eq rfl (show (join (join fl k1 ((rd (gA fl 2) 40 k1) + 1) (gi co 0)) k1 (gi co 0) (gi co 0)) = (leave co fl k1) from (by simp only [leave, leaveA, leaveB, leaveC, leaveK, eq_false c_21, eq_true c_27, bf_of c_47, eq_true c_70, gi_sl, gi_sA, gi_sB, gi_si_s, gi_si_n, gl_si, gl_sA, gl_sB, gl_sl_s, gl_sl_n, gA_si, gA_sl, gA_sB, gA_sA_s, gA_sA_n, gB_si, gB_sl, gB_sA, gB_sB_s, gB_sB_n, Nat.reduceBEq, if_true, if_false, eq_self, Bool.false_eq_true, Bool.true_eq_false, not_true_eq_false, not_false_eq_true, decide_true, decide_false, cond_true, cond_false, Bool.true_and, Bool.false_and, Bool.and_true, Bool.and_false, Bool.true_or, Bool.false_or, Bool.or_true, Bool.or_false, b2i_tt, b2i_ff, pr_eta]; done)) rfl rfl rfl rfl rfl, ⟨by rw [ht]; exact hP, va_K.moved hW.alike hK, hD⟩⟩, hS.F ht⟩) hS.2.2 dX1_leave_86
      · have c_47 : (jmp (rd (gA co 0) 40 (rd (gA fl 2) 40 k1))) = true := b2i_1 c_47
        refine lv_aload_n hx hb dX1_leave_50 rfl (lv_at hl 2 rfl) ?_
        refine lv_iload_n hx hb dX1_leave_51 rfl (lv_at hl 4 rfl) ?_
        refine lv_aload_n hx hb dX1_leave_52 rfl (lv_at hl 3 rfl) ?_
        refine va_getN (D := D) (ci := 0) (v := .ref (ad 9)) (C := RX0) (T := TX0) (N := 5) hx hb hg inGX0 hown hK hP 1 xo1 rfl 1 (by decide) (hN.use nw_3) (fun _ h9 => h9) xvX0_1 dX1_leave_53 ?_
        refine lv_iload_n hx hb dX1_leave_56 rfl (lv_at hl 1 rfl) ?_
        refine kI (rSN hx hb hml hown hg hN hK hP hD (c_at l D cI cJ (XW ad cI cJ co (join fl k1 ((rd (gA fl 2) 40 k1) + 1) (gi co 0)) ra li re wa pi) 9 (ad 9) 40 (gA co 1) (rd (gA fl 2) 40 k1) (xg9 rfl) (by decide)) mw_84 nw_65 mw_85 mw_77 pd_X7_at ⟨Nat.le_of_ble_eq_true rfl, Nat.le_of_ble_eq_true rfl⟩ rfl hl.1 rfl (Nat.le_of_ble_eq_true rfl) dX1_leave_57 ⟨Nat.le_of_ble_eq_true rfl, Nat.le_of_ble_eq_true rfl⟩) hD hS hA (fun r_17 u_17 H locs hp hP hD hS => ?_)
        obtain ⟨er, eu⟩ := hp
        obtain rfl := er.symm
        obtain rfl := eu.symm
        refine lv_aload_n hx hb dX1_leave_60 rfl (lv_at hl 3 rfl) ?_
        refine va_getN (D := D) (ci := 0) (v := .int (gi co 0)) (C := RX0) (T := TX0) (N := 5) hx hb hg inGX0 hown hK hP 1 xo1 rfl 4 (by decide) (hN.use nw_9) (fun _ h9 => h9) (xvX0_4 rfl) dX1_leave_61 ?_
        refine kV (rV (q0 := 2) (ci := 1) hx hb hml hown hg hN hK hP hD (c_join l D cI cJ ad co (join fl k1 ((rd (gA fl 2) 40 k1) + 1) (gi co 0)) ra li re wa pi k1 (rd (gA co 1) 40 (rd (gA fl 2) 40 k1)) (gi co 0)) mw_102 mw_103 mw_104 mw_105 mw_106 pdv_X1_join ⟨Nat.le_of_ble_eq_true rfl, Nat.le_of_ble_eq_true rfl⟩ rfl xo2 rfl hl.1 rfl (Nat.le_of_ble_eq_true rfl) dX1_leave_64 ⟨Nat.le_of_ble_eq_true rfl, Nat.le_of_ble_eq_true rfl⟩) hD hS hA (fun u_18 H locs hp hP hD hS => ?_)
        obtain rfl := hp.symm
        have hP : va_P D vwCl (XW ad cI cJ co (join (join fl k1 ((rd (gA fl 2) 40 k1) + 1) (gi co 0)) k1 (rd (gA co 1) 40 (rd (gA fl 2) 40 k1)) (gi co 0)) ra li re wa pi) H := hP
        have hD : va_D A (XW ad cI cJ co (join (join fl k1 ((rd (gA fl 2) 40 k1) + 1) (gi co 0)) k1 (rd (gA co 1) 40 (rd (gA fl 2) 40 k1)) (gi co 0)) ra li re wa pi) := hD
        refine lv_iload hx hb dX1_leave_67 (lv_at hl 0 rfl) ?_
        refine lv_iconst (v := 3) hx hb dX1_leave_69 (by decide) ?_
        refine lv_icmp_ne (tgt := 86) hx hb dX1_leave_70 (by decide) (fun c_70 => ?_) (fun c_70 => ?_)
        · exact W.vret hx hb hr (fun t ht hW => ⟨⟨(XW ad cI cJ co (join (join fl k1 ((rd (gA fl 2) 40 k1) + 1) (gi co 0)) k1 (rd (gA co 1) 40 (rd (gA fl 2) 40 k1)) (gi co 0)) ra li re wa pi), rfl, xw_eq rfl (show (join (join fl k1 ((rd (gA fl 2) 40 k1) + 1) (gi co 0)) k1 (rd (gA co 1) 40 (rd (gA fl 2) 40 k1)) (gi co 0)) = (leave co fl k1) from (by simp only [leave, leaveA, leaveB, leaveC, leaveK, eq_false c_21, eq_true c_27, c_47, eq_false c_70, gi_sl, gi_sA, gi_sB, gi_si_s, gi_si_n, gl_si, gl_sA, gl_sB, gl_sl_s, gl_sl_n, gA_si, gA_sl, gA_sB, gA_sA_s, gA_sA_n, gB_si, gB_sl, gB_sA, gB_sB_s, gB_sB_n, Nat.reduceBEq, if_true, if_false, eq_self, Bool.false_eq_true, Bool.true_eq_false, not_true_eq_false, not_false_eq_true, decide_true, decide_false, cond_true, cond_false, Bool.true_and, Bool.false_and, Bool.and_true, Bool.and_false, Bool.true_or, Bool.false_or, Bool.or_true, Bool.or_false, b2i_tt, b2i_ff, pr_eta]; done)) rfl rfl rfl rfl rfl, ⟨by rw [ht]; exact hP, va_K.moved hW.alike hK, hD⟩⟩, hS.F ht⟩) hS.2.2 dX1_leave_86
        · refine lv_aload_n hx hb dX1_leave_73 rfl (lv_at hl 2 rfl) ?_
          refine lv_iload_n hx hb dX1_leave_74 rfl (lv_at hl 4 rfl) ?_
          refine lv_aload_n hx hb dX1_leave_75 rfl (lv_at hl 3 rfl) ?_
          refine va_getN (D := D) (ci := 0) (v := .int (gi co 0)) (C := RX0) (T := TX0) (N := 5) hx hb hg inGX0 hown hK hP 1 xo1 rfl 4 (by decide) (hN.use nw_9) (fun _ h9 => h9) (xvX0_4 rfl) dX1_leave_76 ?_
          refine lv_aload_n hx hb dX1_leave_79 rfl (lv_at hl 3 rfl) ?_
          refine va_getN (D := D) (ci := 0) (v := .int (gi co 0)) (C := RX0) (T := TX0) (N := 5) hx hb hg inGX0 hown hK hP 1 xo1 rfl 4 (by decide) (hN.use nw_9) (fun _ h9 => h9) (xvX0_4 rfl) dX1_leave_80 ?_
          refine kV (rV (q0 := 2) (ci := 1) hx hb hml hown hg hN hK hP hD (c_join l D cI cJ ad co (join (join fl k1 ((rd (gA fl 2) 40 k1) + 1) (gi co 0)) k1 (rd (gA co 1) 40 (rd (gA fl 2) 40 k1)) (gi co 0)) ra li re wa pi k1 (gi co 0) (gi co 0)) mw_102 mw_103 mw_104 mw_105 mw_106 pdv_X1_join ⟨Nat.le_of_ble_eq_true rfl, Nat.le_of_ble_eq_true rfl⟩ rfl xo2 rfl hl.1 rfl (Nat.le_of_ble_eq_true rfl) dX1_leave_83 ⟨Nat.le_of_ble_eq_true rfl, Nat.le_of_ble_eq_true rfl⟩) hD hS hA (fun u_19 H locs hp hP hD hS => ?_)
          obtain rfl := hp.symm
          have hP : va_P D vwCl (XW ad cI cJ co (join (join (join fl k1 ((rd (gA fl 2) 40 k1) + 1) (gi co 0)) k1 (rd (gA co 1) 40 (rd (gA fl 2) 40 k1)) (gi co 0)) k1 (gi co 0) (gi co 0)) ra li re wa pi) H := hP
          have hD : va_D A (XW ad cI cJ co (join (join (join fl k1 ((rd (gA fl 2) 40 k1) + 1) (gi co 0)) k1 (rd (gA co 1) 40 (rd (gA fl 2) 40 k1)) (gi co 0)) k1 (gi co 0) (gi co 0)) ra li re wa pi) := hD
          exact W.vret hx hb hr (fun t ht hW => ⟨⟨(XW ad cI cJ co (join (join (join fl k1 ((rd (gA fl 2) 40 k1) + 1) (gi co 0)) k1 (rd (gA co 1) 40 (rd (gA fl 2) 40 k1)) (gi co 0)) k1 (gi co 0) (gi co 0)) ra li re wa pi), rfl, xw_eq rfl (show (join (join (join fl k1 ((rd (gA fl 2) 40 k1) + 1) (gi co 0)) k1 (rd (gA co 1) 40 (rd (gA fl 2) 40 k1)) (gi co 0)) k1 (gi co 0) (gi co 0)) = (leave co fl k1) from (by simp only [leave, leaveA, leaveB, leaveC, leaveK, eq_false c_21, eq_true c_27, c_47, eq_true c_70, gi_sl, gi_sA, gi_sB, gi_si_s, gi_si_n, gl_si, gl_sA, gl_sB, gl_sl_s, gl_sl_n, gA_si, gA_sl, gA_sB, gA_sA_s, gA_sA_n, gB_si, gB_sl, gB_sA, gB_sB_s, gB_sB_n, Nat.reduceBEq, if_true, if_false, eq_self, Bool.false_eq_true, Bool.true_eq_false, not_true_eq_false, not_false_eq_true, decide_true, decide_false, cond_true, cond_false, Bool.true_and, Bool.false_and, Bool.and_true, Bool.and_false, Bool.true_or, Bool.false_or, Bool.or_true, Bool.or_false, b2i_tt, b2i_ff, pr_eta]; done)) rfl rfl rfl rfl rfl, ⟨by rw [ht]; exact hP, va_K.moved hW.alike hK, hD⟩⟩, hS.F ht⟩) hS.2.2 dX1_leave_86
