theorem dX7_digestOfEdges_0 : decode cX7_digestOfEdges 0 = .ok (.lload_n 1, 1) := by decide +kernel
theorem dX7_digestOfEdges_1 : decode cX7_digestOfEdges 1 = .ok (.aload_n 0, 1) := by decide +kernel
theorem dX7_digestOfEdges_2 : decode cX7_digestOfEdges 2 = .ok (.getfield 19, 3) := by decide +kernel
theorem dX7_digestOfEdges_5 : decode cX7_digestOfEdges 5 = .ok (.getfield 147, 3) := by decide +kernel
theorem dX7_digestOfEdges_8 : decode cX7_digestOfEdges 8 = .ok (.invokestatic 308, 3) := by decide +kernel
theorem dX7_digestOfEdges_11 : decode cX7_digestOfEdges 11 = .ok (.lstore_n 3, 1) := by decide +kernel
theorem dX7_digestOfEdges_12 : decode cX7_digestOfEdges 12 = .ok (.iconst 0, 1) := by decide +kernel
theorem dX7_digestOfEdges_13 : decode cX7_digestOfEdges 13 = .ok (.istore 5, 2) := by decide +kernel
theorem dX7_digestOfEdges_15 : decode cX7_digestOfEdges 15 = .ok (.iload 5, 2) := by decide +kernel
theorem dX7_digestOfEdges_17 : decode cX7_digestOfEdges 17 = .ok (.aload_n 0, 1) := by decide +kernel
theorem dX7_digestOfEdges_18 : decode cX7_digestOfEdges 18 = .ok (.getfield 19, 3) := by decide +kernel
theorem dX7_digestOfEdges_21 : decode cX7_digestOfEdges 21 = .ok (.getfield 147, 3) := by decide +kernel
theorem dX7_digestOfEdges_24 : decode cX7_digestOfEdges 24 = .ok (.if_icmp .ge 96, 3) := by decide +kernel
theorem dX7_digestOfEdges_27 : decode cX7_digestOfEdges 27 = .ok (.lload_n 3, 1) := by decide +kernel
theorem dX7_digestOfEdges_28 : decode cX7_digestOfEdges 28 = .ok (.aload_n 0, 1) := by decide +kernel
theorem dX7_digestOfEdges_29 : decode cX7_digestOfEdges 29 = .ok (.getfield 19, 3) := by decide +kernel
theorem dX7_digestOfEdges_32 : decode cX7_digestOfEdges 32 = .ok (.getfield 153, 3) := by decide +kernel
theorem dX7_digestOfEdges_35 : decode cX7_digestOfEdges 35 = .ok (.iload 5, 2) := by decide +kernel
theorem dX7_digestOfEdges_37 : decode cX7_digestOfEdges 37 = .ok (.invokestatic 96, 3) := by decide +kernel
theorem dX7_digestOfEdges_40 : decode cX7_digestOfEdges 40 = .ok (.invokestatic 308, 3) := by decide +kernel
theorem dX7_digestOfEdges_43 : decode cX7_digestOfEdges 43 = .ok (.lstore_n 3, 1) := by decide +kernel
theorem dX7_digestOfEdges_44 : decode cX7_digestOfEdges 44 = .ok (.lload_n 3, 1) := by decide +kernel
theorem dX7_digestOfEdges_45 : decode cX7_digestOfEdges 45 = .ok (.aload_n 0, 1) := by decide +kernel
theorem dX7_digestOfEdges_46 : decode cX7_digestOfEdges 46 = .ok (.getfield 19, 3) := by decide +kernel
theorem dX7_digestOfEdges_49 : decode cX7_digestOfEdges 49 = .ok (.getfield 156, 3) := by decide +kernel
theorem dX7_digestOfEdges_52 : decode cX7_digestOfEdges 52 = .ok (.iload 5, 2) := by decide +kernel
theorem dX7_digestOfEdges_54 : decode cX7_digestOfEdges 54 = .ok (.invokestatic 96, 3) := by decide +kernel
theorem dX7_digestOfEdges_57 : decode cX7_digestOfEdges 57 = .ok (.invokestatic 308, 3) := by decide +kernel
theorem dX7_digestOfEdges_60 : decode cX7_digestOfEdges 60 = .ok (.lstore_n 3, 1) := by decide +kernel
theorem dX7_digestOfEdges_61 : decode cX7_digestOfEdges 61 = .ok (.lload_n 3, 1) := by decide +kernel
theorem dX7_digestOfEdges_62 : decode cX7_digestOfEdges 62 = .ok (.aload_n 0, 1) := by decide +kernel
theorem dX7_digestOfEdges_63 : decode cX7_digestOfEdges 63 = .ok (.getfield 26, 3) := by decide +kernel
theorem dX7_digestOfEdges_66 : decode cX7_digestOfEdges 66 = .ok (.aload_n 0, 1) := by decide +kernel
theorem dX7_digestOfEdges_67 : decode cX7_digestOfEdges 67 = .ok (.getfield 19, 3) := by decide +kernel
theorem dX7_digestOfEdges_70 : decode cX7_digestOfEdges 70 = .ok (.iload 5, 2) := by decide +kernel
theorem dX7_digestOfEdges_72 : decode cX7_digestOfEdges 72 = .ok (.invokevirtual 174, 3) := by decide +kernel
theorem dX7_digestOfEdges_75 : decode cX7_digestOfEdges 75 = .ok (.invokestatic 312, 3) := by decide +kernel
theorem dX7_digestOfEdges_78 : decode cX7_digestOfEdges 78 = .ok (.lstore_n 3, 1) := by decide +kernel
theorem dX7_digestOfEdges_79 : decode cX7_digestOfEdges 79 = .ok (.lload_n 3, 1) := by decide +kernel
theorem dX7_digestOfEdges_80 : decode cX7_digestOfEdges 80 = .ok (.aload_n 0, 1) := by decide +kernel
theorem dX7_digestOfEdges_81 : decode cX7_digestOfEdges 81 = .ok (.getfield 47, 3) := by decide +kernel
theorem dX7_digestOfEdges_84 : decode cX7_digestOfEdges 84 = .ok (.getfield 244, 3) := by decide +kernel
theorem dX7_digestOfEdges_87 : decode cX7_digestOfEdges 87 = .ok (.aload_n 0, 1) := by decide +kernel
theorem dX7_digestOfEdges_88 : decode cX7_digestOfEdges 88 = .ok (.getfield 19, 3) := by decide +kernel
theorem dX7_digestOfEdges_91 : decode cX7_digestOfEdges 91 = .ok (.iload 5, 2) := by decide +kernel
theorem dX7_digestOfEdges_93 : decode cX7_digestOfEdges 93 = .ok (.invokevirtual 248, 3) := by decide +kernel
theorem dX7_digestOfEdges_96 : decode cX7_digestOfEdges 96 = .ok (.invokestatic 312, 3) := by decide +kernel
theorem dX7_digestOfEdges_99 : decode cX7_digestOfEdges 99 = .ok (.lstore_n 3, 1) := by decide +kernel
theorem dX7_digestOfEdges_100 : decode cX7_digestOfEdges 100 = .ok (.lload_n 3, 1) := by decide +kernel
theorem dX7_digestOfEdges_101 : decode cX7_digestOfEdges 101 = .ok (.aload_n 0, 1) := by decide +kernel
theorem dX7_digestOfEdges_102 : decode cX7_digestOfEdges 102 = .ok (.getfield 47, 3) := by decide +kernel
theorem dX7_digestOfEdges_105 : decode cX7_digestOfEdges 105 = .ok (.iload 5, 2) := by decide +kernel
theorem dX7_digestOfEdges_107 : decode cX7_digestOfEdges 107 = .ok (.invokevirtual 269, 3) := by decide +kernel
theorem dX7_digestOfEdges_110 : decode cX7_digestOfEdges 110 = .ok (.invokestatic 308, 3) := by decide +kernel
theorem dX7_digestOfEdges_113 : decode cX7_digestOfEdges 113 = .ok (.lstore_n 3, 1) := by decide +kernel
theorem dX7_digestOfEdges_114 : decode cX7_digestOfEdges 114 = .ok (.iinc 5 1, 3) := by decide +kernel
theorem dX7_digestOfEdges_117 : decode cX7_digestOfEdges 117 = .ok (.goto (-102), 3) := by decide +kernel
theorem dX7_digestOfEdges_120 : decode cX7_digestOfEdges 120 = .ok (.lload_n 3, 1) := by decide +kernel
theorem dX7_digestOfEdges_121 : decode cX7_digestOfEdges 121 = .ok (.lreturn, 1) := by decide +kernel
theorem mw_391 : Cond.code yX4_goesBack cX4_goesBack 4 (some Jvm.ClassFile.FieldType.boolean) ∈ GW := gw_mem (inT3 _ (List.mem_of_getElem? (i := 119) rfl)) rfl
theorem mw_392 : Cond.methodLink RX7 174 yX4_goesBack ∈ GW := gw_mem (inT3 _ (List.mem_of_getElem? (i := 116) rfl)) rfl
theorem mw_393 : Cond.instanceMethod yX4_goesBack ∈ GW := gw_mem (inT3 _ (List.mem_of_getElem? (i := 117) rfl)) rfl
theorem mw_394 : Cond.selects RX4 yX4_goesBack yX4_goesBack ∈ GW := gw_mem (inT3 _ (List.mem_of_getElem? (i := 118) rfl)) rfl
theorem mw_395 : Cond.code yX6_turns cX6_turns 3 (some Jvm.ClassFile.FieldType.boolean) ∈ GW := gw_mem (inT3 _ (List.mem_of_getElem? (i := 123) rfl)) rfl
theorem mw_396 : Cond.methodLink RX7 248 yX6_turns ∈ GW := gw_mem (inT3 _ (List.mem_of_getElem? (i := 120) rfl)) rfl
theorem mw_397 : Cond.instanceMethod yX6_turns ∈ GW := gw_mem (inT3 _ (List.mem_of_getElem? (i := 121) rfl)) rfl
theorem mw_398 : Cond.selects RX6 yX6_turns yX6_turns ∈ GW := gw_mem (inT3 _ (List.mem_of_getElem? (i := 122) rfl)) rfl
theorem mw_399 : Cond.methodLink RX7 269 yX3_bendCount ∈ GW := gw_mem (inT3 _ (List.mem_of_getElem? (i := 125) rfl)) rfl
theorem pdv_X4_goesBack : yX4_goesBack.cls = RX4 ∧ yX4_goesBack.cls ≠ "java/lang/invoke/MethodHandle" ∧ yX4_goesBack.cls ≠ "java/lang/invoke/VarHandle" ∧ (parseMethodDescriptor yX4_goesBack.desc).map (fun d => d.parameters.length) = some 2 := by decide +kernel
theorem pdv_X6_turns : yX6_turns.cls = RX6 ∧ yX6_turns.cls ≠ "java/lang/invoke/MethodHandle" ∧ yX6_turns.cls ≠ "java/lang/invoke/VarHandle" ∧ (parseMethodDescriptor yX6_turns.desc).map (fun d => d.parameters.length) = some 2 := by decide +kernel
set_option maxHeartbeats 4000000 in
set_option maxRecDepth 100000 in
theorem c_dgEdges (l : Launch) (D : va_G) (cI cJ : ClassId) (ad : Nat → Nat) (co fl ra li re wa pi : Ob) (l1 : Int64) : CT l D (TY cI cJ) yX7_digestOfEdges (.code yX7_digestOfEdges cX7_digestOfEdges 6 (some Jvm.ClassFile.FieldType.long)) 3 0 0 (XW ad cI cJ co fl ra li re wa pi) [.ref (ad 0), .long l1] (QL D (TY cI cJ) (fun r u => r = (dgEdges fl ra wa pi l1) ∧ u = (XW ad cI cJ co fl ra li re wa pi))) := by
  refine ent (by decide) (Nat.le_of_ble_eq_true rfl) ?_
  intro p e s m below meth c ls A hx hb hr hg hown hml hlocks hnm hP hK hD hS hA hN hl
  have hl : lv_has ls 6 [(0, .ref (ad 0)), (1, .long l1)] := hl
  refine lv_lload_n hx hb dX7_digestOfEdges_0 rfl (lv_at hl 1 rfl) ?_
  refine lv_aload_n hx hb dX7_digestOfEdges_1 rfl (lv_at hl 0 rfl) ?_
  refine va_get (D := D) (ci := 7) (v := .ref (ad 2)) (C := RX7) (T := TX7) (N := 6) hx hb hg inGX7 hown hK hP 0 xo0 rfl 1 (by decide) (hg _ mw_322) (fun _ h9 => h9) xvX7_1 dX7_digestOfEdges_2 ?_
  refine va_getN (D := D) (ci := 1) (v := .int (gi fl 1)) (C := RX1) (T := TX1) (N := 11) hx hb hg inGX1 hown hK hP 2 xo2 rfl 8 (by decide) (hN.use nw_31) (fun _ h9 => h9) (xvX1_8 rfl) dX7_digestOfEdges_5 ?_
  refine kL (rS hx hb hml hown hg hN hK hP hD (c_mix l D cI cJ (XW ad cI cJ co fl ra li re wa pi) l1 (gi fl 1)) mw_371 mw_372 mw_373 mw_77 pd_X7_mix ⟨Nat.le_of_ble_eq_true rfl, Nat.le_of_ble_eq_true rfl⟩ rfl hl.1 rfl (Nat.le_of_ble_eq_true rfl) dX7_digestOfEdges_8 ⟨Nat.le_of_ble_eq_true rfl, Nat.le_of_ble_eq_true rfl⟩) hD hS hA (fun r_1 u_1 H locs hp hP hD hS => ?_)
  obtain ⟨er, eu⟩ := hp
  obtain rfl := er.symm
  obtain rfl := eu.symm
  refine lv_lstore_n (lv' := [(3, .long (mixI l1 (gi fl 1))), (0, .ref (ad 0)), (1, .long l1)]) hx hb dX7_digestOfEdges_11 rfl hl (by decide) rfl (fun ls hl => ?_)
  refine lv_iconst (v := 0) hx hb dX7_digestOfEdges_12 (by decide) ?_
  refine lv_istore (lv' := [(5, .int 0), (3, .long (mixI l1 (gi fl 1))), (0, .ref (ad 0)), (1, .long l1)]) hx hb dX7_digestOfEdges_13 hl (by decide) rfl (fun ls hl => ?_)
  refine w_loop (σ := Int64) (fun (i_2 : Nat) (p_2 : Int64) (H : Heap) (locs : List Loc) (ls : Array Slot) => p_2 = (lp (dgE fl ra wa pi) i_2 (mixI l1 (gi fl 1))) ∧ va_P D vwCl (XW ad cI cJ co fl ra li re wa pi) H ∧ va_D A (XW ad cI cJ co fl ra li re wa pi) ∧ va_S A s.heap H locs ∧ lv_has ls 6 [(0, .ref (ad 0)), (1, .long l1), (3, .long p_2), (5, .int (nI i_2))]) (nN (gi fl 1)) (fun p_2 H locs ls hI => ?_) (fun i_2 p_2 H locs ls hi_2 hI ih_2 => ?_) 0 (mixI l1 (gi fl 1)) (Nat.zero_le _) ⟨(lp_0 _ _), hP, hD, hS, (by rw [nI_0]; exact lv_sub hl [2, 3, 1, 0] rfl)⟩
  · obtain ⟨h_2, hP, hD, hS, hl⟩ := hI
    have h_2 := h_2.symm
    subst h_2
    have hP : va_P D vwCl (XW ad cI cJ co fl ra li re wa pi) H := hP
    have hD : va_D A (XW ad cI cJ co fl ra li re wa pi) := hD
    have hl : lv_has ls 6 [(0, .ref (ad 0)), (1, .long l1), (3, .long ((lp (dgE fl ra wa pi) (nN (gi fl 1)) (mixI l1 (gi fl 1))))), (5, .int (nI ((nN (gi fl 1)))))] := hl
    refine lv_iload hx hb dX7_digestOfEdges_15 (lv_at hl 3 rfl) ?_
    refine lv_aload_n hx hb dX7_digestOfEdges_17 rfl (lv_at hl 0 rfl) ?_
    refine va_get (D := D) (ci := 7) (v := .ref (ad 2)) (C := RX7) (T := TX7) (N := 6) hx hb hg inGX7 hown hK hP 0 xo0 rfl 1 (by decide) (hg _ mw_322) (fun _ h9 => h9) xvX7_1 dX7_digestOfEdges_18 ?_
    refine va_getN (D := D) (ci := 1) (v := .int (gi fl 1)) (C := RX1) (T := TX1) (N := 11) hx hb hg inGX1 hown hK hP 2 xo2 rfl 8 (by decide) (hN.use nw_31) (fun _ h9 => h9) (xvX1_8 rfl) dX7_digestOfEdges_21 ?_
    refine lv_icmp_ge (tgt := 120) hx hb dX7_digestOfEdges_24 (by decide) (fun _ => ?_) (fun c_24 => absurd (lp_out _) c_24)
    refine lv_lload_n hx hb dX7_digestOfEdges_120 rfl (lv_at hl 2 rfl) ?_
    exact W.lret (v := ((lp (dgE fl ra wa pi) (nN (gi fl 1)) (mixI l1 (gi fl 1))))) hx hb hr (fun t ht hW => ⟨⟨((lp (dgE fl ra wa pi) (nN (gi fl 1)) (mixI l1 (gi fl 1)))), (XW ad cI cJ co fl ra li re wa pi), rfl, ⟨(show (((lp (dgE fl ra wa pi) (nN (gi fl 1)) (mixI l1 (gi fl 1)))) : Int64) = (dgEdges fl ra wa pi l1) from (by first | with_reducible rfl | (simp only [dgEdges, gi_sl, gi_sA, gi_sB, gi_si_s, gi_si_n, gl_si, gl_sA, gl_sB, gl_sl_s, gl_sl_n, gA_si, gA_sl, gA_sB, gA_sA_s, gA_sA_n, gB_si, gB_sl, gB_sA, gB_sB_s, gB_sB_n, Nat.reduceBEq, if_true, if_false, eq_self, Bool.false_eq_true, Bool.true_eq_false, not_true_eq_false, not_false_eq_true, decide_true, decide_false, cond_true, cond_false, Bool.true_and, Bool.false_and, Bool.and_true, Bool.and_false, Bool.true_or, Bool.false_or, Bool.or_true, Bool.or_false, b2i_tt, b2i_ff, pr_eta]; done))), xw_eq rfl rfl rfl rfl rfl rfl rfl⟩, ⟨by rw [ht]; exact hP, va_K.moved hW.alike hK, hD⟩⟩, hS.F ht⟩) hS.2.2 dX7_digestOfEdges_121
  · obtain ⟨h_2, hP, hD, hS, hl⟩ := hI
    have hP : va_P D vwCl (XW ad cI cJ co fl ra li re wa pi) H := hP
    have hD : va_D A (XW ad cI cJ co fl ra li re wa pi) := hD
    have hl : lv_has ls 6 [(0, .ref (ad 0)), (1, .long l1), (3, .long p_2), (5, .int (nI i_2))] := hl
    refine lv_iload hx hb dX7_digestOfEdges_15 (lv_at hl 3 rfl) ?_
    refine lv_aload_n hx hb dX7_digestOfEdges_17 rfl (lv_at hl 0 rfl) ?_
    refine va_get (D := D) (ci := 7) (v := .ref (ad 2)) (C := RX7) (T := TX7) (N := 6) hx hb hg inGX7 hown hK hP 0 xo0 rfl 1 (by decide) (hg _ mw_322) (fun _ h9 => h9) xvX7_1 dX7_digestOfEdges_18 ?_
    refine va_getN (D := D) (ci := 1) (v := .int (gi fl 1)) (C := RX1) (T := TX1) (N := 11) hx hb hg inGX1 hown hK hP 2 xo2 rfl 8 (by decide) (hN.use nw_31) (fun _ h9 => h9) (xvX1_8 rfl) dX7_digestOfEdges_21 ?_
    refine lv_icmp_ge (tgt := 120) hx hb dX7_digestOfEdges_24 (by decide) (fun c_24 => absurd c_24 (lp_in hi_2)) (fun _ => ?_)
    refine lv_lload_n hx hb dX7_digestOfEdges_27 rfl (lv_at hl 2 rfl) ?_
    refine lv_aload_n hx hb dX7_digestOfEdges_28 rfl (lv_at hl 0 rfl) ?_
    refine va_get (D := D) (ci := 7) (v := .ref (ad 2)) (C := RX7) (T := TX7) (N := 6) hx hb hg inGX7 hown hK hP 0 xo0 rfl 1 (by decide) (hg _ mw_322) (fun _ h9 => h9) xvX7_1 dX7_digestOfEdges_29 ?_
    refine va_getN (D := D) (ci := 1) (v := .ref (ad 15)) (C := RX1) (T := TX1) (N := 11) hx hb hg inGX1 hown hK hP 2 xo2 rfl 3 (by decide) (hN.use nw_17) (fun _ h9 => h9) xvX1_3 dX7_digestOfEdges_32 ?_
    refine lv_iload hx hb dX7_digestOfEdges_35 (lv_at hl 3 rfl) ?_
    refine kI (rS hx hb hml hown hg hN hK hP hD (c_at l D cI cJ (XW ad cI cJ co fl ra li re wa pi) 15 (ad 15) 80 (gA fl 3) (nI i_2) (xg15 rfl) (by decide)) mw_84 mw_374 mw_85 mw_77 pd_X7_at ⟨Nat.le_of_ble_eq_true rfl, Nat.le_of_ble_eq_true rfl⟩ rfl hl.1 rfl (Nat.le_of_ble_eq_true rfl) dX7_digestOfEdges_37 ⟨Nat.le_of_ble_eq_true rfl, Nat.le_of_ble_eq_true rfl⟩) hD hS hA (fun r_3 u_3 H locs hp hP hD hS => ?_)
    obtain ⟨er, eu⟩ := hp
    obtain rfl := er.symm
    obtain rfl := eu.symm
    refine kL (rS hx hb hml hown hg hN hK hP hD (c_mix l D cI cJ (XW ad cI cJ co fl ra li re wa pi) p_2 (rd (gA fl 3) 80 (nI i_2))) mw_371 mw_372 mw_373 mw_77 pd_X7_mix ⟨Nat.le_of_ble_eq_true rfl, Nat.le_of_ble_eq_true rfl⟩ rfl hl.1 rfl (Nat.le_of_ble_eq_true rfl) dX7_digestOfEdges_40 ⟨Nat.le_of_ble_eq_true rfl, Nat.le_of_ble_eq_true rfl⟩) hD hS hA (fun r_4 u_4 H locs hp hP hD hS => ?_)
    obtain ⟨er, eu⟩ := hp
    obtain rfl := er.symm
    obtain rfl := eu.symm
    refine lv_lstore_n (lv' := [(3, .long (mixI p_2 (rd (gA fl 3) 80 (nI i_2)))), (0, .ref (ad 0)), (1, .long l1), (5, .int (nI i_2))]) hx hb dX7_digestOfEdges_43 rfl hl (by decide) rfl (fun ls hl => ?_)
    refine lv_lload_n hx hb dX7_digestOfEdges_44 rfl (lv_at hl 0 rfl) ?_
    refine lv_aload_n hx hb dX7_digestOfEdges_45 rfl (lv_at hl 1 rfl) ?_
    refine va_get (D := D) (ci := 7) (v := .ref (ad 2)) (C := RX7) (T := TX7) (N := 6) hx hb hg inGX7 hown hK hP 0 xo0 rfl 1 (by decide) (hg _ mw_322) (fun _ h9 => h9) xvX7_1 dX7_digestOfEdges_46 ?_
    refine va_getN (D := D) (ci := 1) (v := .ref (ad 16)) (C := RX1) (T := TX1) (N := 11) hx hb hg inGX1 hown hK hP 2 xo2 rfl 4 (by decide) (hN.use nw_20) (fun _ h9 => h9) xvX1_4 dX7_digestOfEdges_49 ?_
    refine lv_iload hx hb dX7_digestOfEdges_52 (lv_at hl 3 rfl) ?_
    refine kI (rS hx hb hml hown hg hN hK hP hD (c_at l D cI cJ (XW ad cI cJ co fl ra li re wa pi) 16 (ad 16) 80 (gA fl 4) (nI i_2) (xg16 rfl) (by decide)) mw_84 mw_374 mw_85 mw_77 pd_X7_at ⟨Nat.le_of_ble_eq_true rfl, Nat.le_of_ble_eq_true rfl⟩ rfl hl.1 rfl (Nat.le_of_ble_eq_true rfl) dX7_digestOfEdges_54 ⟨Nat.le_of_ble_eq_true rfl, Nat.le_of_ble_eq_true rfl⟩) hD hS hA (fun r_5 u_5 H locs hp hP hD hS => ?_)
    obtain ⟨er, eu⟩ := hp
    obtain rfl := er.symm
    obtain rfl := eu.symm
    refine kL (rS hx hb hml hown hg hN hK hP hD (c_mix l D cI cJ (XW ad cI cJ co fl ra li re wa pi) (mixI p_2 (rd (gA fl 3) 80 (nI i_2))) (rd (gA fl 4) 80 (nI i_2))) mw_371 mw_372 mw_373 mw_77 pd_X7_mix ⟨Nat.le_of_ble_eq_true rfl, Nat.le_of_ble_eq_true rfl⟩ rfl hl.1 rfl (Nat.le_of_ble_eq_true rfl) dX7_digestOfEdges_57 ⟨Nat.le_of_ble_eq_true rfl, Nat.le_of_ble_eq_true rfl⟩) hD hS hA (fun r_6 u_6 H locs hp hP hD hS => ?_)
    obtain ⟨er, eu⟩ := hp
    obtain rfl := er.symm
    obtain rfl := eu.symm
    refine lv_lstore_n (lv' := [(3, .long (mixI (mixI p_2 (rd (gA fl 3) 80 (nI i_2))) (rd (gA fl 4) 80 (nI i_2)))), (0, .ref (ad 0)), (1, .long l1), (5, .int (nI i_2))]) hx hb dX7_digestOfEdges_60 rfl hl (by decide) rfl (fun ls hl => ?_)
    refine lv_lload_n hx hb dX7_digestOfEdges_61 rfl (lv_at hl 0 rfl) ?_
    refine lv_aload_n hx hb dX7_digestOfEdges_62 rfl (lv_at hl 1 rfl) ?_
    refine va_get (D := D) (ci := 7) (v := .ref (ad 3)) (C := RX7) (T := TX7) (N := 6) hx hb hg inGX7 hown hK hP 0 xo0 rfl 2 (by decide) (hg _ mw_328) (fun _ h9 => h9) xvX7_2 dX7_digestOfEdges_63 ?_
    refine lv_aload_n hx hb dX7_digestOfEdges_66 rfl (lv_at hl 1 rfl) ?_
    refine va_get (D := D) (ci := 7) (v := .ref (ad 2)) (C := RX7) (T := TX7) (N := 6) hx hb hg inGX7 hown hK hP 0 xo0 rfl 1 (by decide) (hg _ mw_322) (fun _ h9 => h9) xvX7_1 dX7_digestOfEdges_67 ?_
    refine lv_iload hx hb dX7_digestOfEdges_70 (lv_at hl 3 rfl) ?_
    refine kI (rV (q0 := 3) (ci := 4) hx hb hml hown hg hN hK hP hD (c_goesBack l D cI cJ ad co fl ra li re wa pi (nI i_2)) mw_391 mw_392 mw_393 mw_394 mw_130 pdv_X4_goesBack ⟨Nat.le_of_ble_eq_true rfl, Nat.le_of_ble_eq_true rfl⟩ rfl xo3 rfl hl.1 rfl (Nat.le_of_ble_eq_true rfl) dX7_digestOfEdges_72 ⟨Nat.le_of_ble_eq_true rfl, Nat.le_of_ble_eq_true rfl⟩) hD hS hA (fun r_7 u_7 H locs hp hP hD hS => ?_)
    obtain ⟨er, eu⟩ := hp
    obtain rfl := er.symm
    obtain rfl := eu.symm
    refine kL (rS hx hb hml hown hg hN hK hP hD (c_mixZ l D cI cJ (XW ad cI cJ co fl ra li re wa pi) (mixI (mixI p_2 (rd (gA fl 3) 80 (nI i_2))) (rd (gA fl 4) 80 (nI i_2))) (goesBack ra fl (nI i_2))) mw_376 mw_377 mw_378 mw_77 pd_X7_mix_ ⟨Nat.le_of_ble_eq_true rfl, Nat.le_of_ble_eq_true rfl⟩ rfl hl.1 rfl (Nat.le_of_ble_eq_true rfl) dX7_digestOfEdges_75 ⟨Nat.le_of_ble_eq_true rfl, Nat.le_of_ble_eq_true rfl⟩) hD hS hA (fun r_8 u_8 H locs hp hP hD hS => ?_)
    obtain ⟨er, eu⟩ := hp
    obtain rfl := er.symm
    obtain rfl := eu.symm
    refine lv_lstore_n (lv' := [(3, .long (mixZ (mixI (mixI p_2 (rd (gA fl 3) 80 (nI i_2))) (rd (gA fl 4) 80 (nI i_2))) (goesBack ra fl (nI i_2)))), (0, .ref (ad 0)), (1, .long l1), (5, .int (nI i_2))]) hx hb dX7_digestOfEdges_78 rfl hl (by decide) rfl (fun ls hl => ?_)
    refine lv_lload_n hx hb dX7_digestOfEdges_79 rfl (lv_at hl 0 rfl) ?_
    refine lv_aload_n hx hb dX7_digestOfEdges_80 rfl (lv_at hl 1 rfl) ?_
    refine va_get (D := D) (ci := 7) (v := .ref (ad 6)) (C := RX7) (T := TX7) (N := 6) hx hb hg inGX7 hown hK hP 0 xo0 rfl 5 (by decide) (hg _ mw_347) (fun _ h9 => h9) xvX7_5 dX7_digestOfEdges_81 ?_
    refine va_getN (D := D) (ci := 3) (v := .ref (ad 7)) (C := RX3) (T := TX3) (N := 16) hx hb hg inGX3 hown hK hP 6 xo6 rfl 0 (by decide) (hN.use nw_60) (fun _ h9 => h9) xvX3_0 dX7_digestOfEdges_84 ?_
    refine lv_aload_n hx hb dX7_digestOfEdges_87 rfl (lv_at hl 1 rfl) ?_
    refine va_get (D := D) (ci := 7) (v := .ref (ad 2)) (C := RX7) (T := TX7) (N := 6) hx hb hg inGX7 hown hK hP 0 xo0 rfl 1 (by decide) (hg _ mw_322) (fun _ h9 => h9) xvX7_1 dX7_digestOfEdges_88 ?_
    refine lv_iload hx hb dX7_digestOfEdges_91 (lv_at hl 3 rfl) ?_
    refine kI (rV (q0 := 7) (ci := 6) hx hb hml hown hg hN hK hP hD (c_turns l D cI cJ ad co fl ra li re wa pi (nI i_2)) mw_395 mw_396 mw_397 mw_398 mw_208 pdv_X6_turns ⟨Nat.le_of_ble_eq_true rfl, Nat.le_of_ble_eq_true rfl⟩ rfl xo7 rfl hl.1 rfl (Nat.le_of_ble_eq_true rfl) dX7_digestOfEdges_93 ⟨Nat.le_of_ble_eq_true rfl, Nat.le_of_ble_eq_true rfl⟩) hD hS hA (fun r_9 u_9 H locs hp hP hD hS => ?_)
    obtain ⟨er, eu⟩ := hp
    obtain rfl := er.symm
    obtain rfl := eu.symm
    refine kL (rS hx hb hml hown hg hN hK hP hD (c_mixZ l D cI cJ (XW ad cI cJ co fl ra li re wa pi) (mixZ (mixI (mixI p_2 (rd (gA fl 3) 80 (nI i_2))) (rd (gA fl 4) 80 (nI i_2))) (goesBack ra fl (nI i_2))) (turns fl wa (nI i_2))) mw_376 mw_377 mw_378 mw_77 pd_X7_mix_ ⟨Nat.le_of_ble_eq_true rfl, Nat.le_of_ble_eq_true rfl⟩ rfl hl.1 rfl (Nat.le_of_ble_eq_true rfl) dX7_digestOfEdges_96 ⟨Nat.le_of_ble_eq_true rfl, Nat.le_of_ble_eq_true rfl⟩) hD hS hA (fun r_10 u_10 H locs hp hP hD hS => ?_)
    obtain ⟨er, eu⟩ := hp
    obtain rfl := er.symm
    obtain rfl := eu.symm
    refine lv_lstore_n (lv' := [(3, .long (mixZ (mixZ (mixI (mixI p_2 (rd (gA fl 3) 80 (nI i_2))) (rd (gA fl 4) 80 (nI i_2))) (goesBack ra fl (nI i_2))) (turns fl wa (nI i_2)))), (0, .ref (ad 0)), (1, .long l1), (5, .int (nI i_2))]) hx hb dX7_digestOfEdges_99 rfl hl (by decide) rfl (fun ls hl => ?_)
    refine lv_lload_n hx hb dX7_digestOfEdges_100 rfl (lv_at hl 0 rfl) ?_
    refine lv_aload_n hx hb dX7_digestOfEdges_101 rfl (lv_at hl 1 rfl) ?_
    refine va_get (D := D) (ci := 7) (v := .ref (ad 6)) (C := RX7) (T := TX7) (N := 6) hx hb hg inGX7 hown hK hP 0 xo0 rfl 5 (by decide) (hg _ mw_347) (fun _ h9 => h9) xvX7_5 dX7_digestOfEdges_102 ?_
    refine lv_iload hx hb dX7_digestOfEdges_105 (lv_at hl 3 rfl) ?_
    refine kI (rV (q0 := 6) (ci := 3) hx hb hml hown hg hN hK hP hD (c_bendCount l D cI cJ ad co fl ra li re wa pi (nI i_2)) mw_249 mw_399 mw_251 mw_252 mw_234 pdv_X3_bendCount ⟨Nat.le_of_ble_eq_true rfl, Nat.le_of_ble_eq_true rfl⟩ rfl xo6 rfl hl.1 rfl (Nat.le_of_ble_eq_true rfl) dX7_digestOfEdges_107 ⟨Nat.le_of_ble_eq_true rfl, Nat.le_of_ble_eq_true rfl⟩) hD hS hA (fun r_11 u_11 H locs hp hP hD hS => ?_)
    obtain ⟨er, eu⟩ := hp
    obtain rfl := er.symm
    obtain rfl := eu.symm
    refine kL (rS hx hb hml hown hg hN hK hP hD (c_mix l D cI cJ (XW ad cI cJ co fl ra li re wa pi) (mixZ (mixZ (mixI (mixI p_2 (rd (gA fl 3) 80 (nI i_2))) (rd (gA fl 4) 80 (nI i_2))) (goesBack ra fl (nI i_2))) (turns fl wa (nI i_2))) (bendCount wa pi (nI i_2))) mw_371 mw_372 mw_373 mw_77 pd_X7_mix ⟨Nat.le_of_ble_eq_true rfl, Nat.le_of_ble_eq_true rfl⟩ rfl hl.1 rfl (Nat.le_of_ble_eq_true rfl) dX7_digestOfEdges_110 ⟨Nat.le_of_ble_eq_true rfl, Nat.le_of_ble_eq_true rfl⟩) hD hS hA (fun r_12 u_12 H locs hp hP hD hS => ?_)
    obtain ⟨er, eu⟩ := hp
    obtain rfl := er.symm
    obtain rfl := eu.symm
    refine lv_lstore_n (lv' := [(3, .long (mixI (mixZ (mixZ (mixI (mixI p_2 (rd (gA fl 3) 80 (nI i_2))) (rd (gA fl 4) 80 (nI i_2))) (goesBack ra fl (nI i_2))) (turns fl wa (nI i_2))) (bendCount wa pi (nI i_2)))), (0, .ref (ad 0)), (1, .long l1), (5, .int (nI i_2))]) hx hb dX7_digestOfEdges_113 rfl hl (by decide) rfl (fun ls hl => ?_)
    refine lv_iinc (v := (nI (i_2 + 1))) (lv' := [(5, .int (nI (i_2 + 1))), (3, .long (mixI (mixZ (mixZ (mixI (mixI p_2 (rd (gA fl 3) 80 (nI i_2))) (rd (gA fl 4) 80 (nI i_2))) (goesBack ra fl (nI i_2))) (turns fl wa (nI i_2))) (bendCount wa pi (nI i_2)))), (0, .ref (ad 0)), (1, .long l1)]) hx hb dX7_digestOfEdges_114 hl (k := 3) rfl (nI_1 i_2) (by decide) rfl (fun ls hl => ?_)
    refine lv_goto (tgt := 15) hx hb dX7_digestOfEdges_117 (by decide) ?_
    exact ih_2 (mixI (mixZ (mixZ (mixI (mixI p_2 (rd (gA fl 3) 80 (nI i_2))) (rd (gA fl 4) 80 (nI i_2))) (goesBack ra fl (nI i_2))) (turns fl wa (nI i_2))) (bendCount wa pi (nI i_2))) H locs ls ⟨((show (mixI (mixZ (mixZ (mixI (mixI p_2 (rd (gA fl 3) 80 (nI i_2))) (rd (gA fl 4) 80 (nI i_2))) (goesBack ra fl (nI i_2))) (turns fl wa (nI i_2))) (bendCount wa pi (nI i_2))) = (dgE fl ra wa pi) i_2 p_2 from (by first | with_reducible rfl | (simp only [dgE, gi_sl, gi_sA, gi_sB, gi_si_s, gi_si_n, gl_si, gl_sA, gl_sB, gl_sl_s, gl_sl_n, gA_si, gA_sl, gA_sB, gA_sA_s, gA_sA_n, gB_si, gB_sl, gB_sA, gB_sB_s, gB_sB_n, Nat.reduceBEq, if_true, if_false, eq_self, Bool.false_eq_true, Bool.true_eq_false, not_true_eq_false, not_false_eq_true, decide_true, decide_false, cond_true, cond_false, Bool.true_and, Bool.false_and, Bool.and_true, Bool.and_false, Bool.true_or, Bool.false_or, Bool.or_true, Bool.or_false, b2i_tt, b2i_ff, pr_eta]; done))).trans (lp_go h_2)), hP, hD, hS, lv_sub hl [2, 3, 1, 0] rfl⟩
