theorem dX4_rank_0 : decode cX4_rank 0 = .ok (.iconst 0, 1) := by decide +kernel
theorem dX4_rank_1 : decode cX4_rank 1 = .ok (.istore_n 2, 1) := by decide +kernel
theorem dX4_rank_2 : decode cX4_rank 2 = .ok (.iload_n 2, 1) := by decide +kernel
theorem dX4_rank_3 : decode cX4_rank 3 = .ok (.bipush 40, 2) := by decide +kernel
theorem dX4_rank_5 : decode cX4_rank 5 = .ok (.if_icmp .ge 55, 3) := by decide +kernel
theorem dX4_rank_8 : decode cX4_rank 8 = .ok (.aload_n 0, 1) := by decide +kernel
theorem dX4_rank_9 : decode cX4_rank 9 = .ok (.getfield 9, 3) := by decide +kernel
theorem dX4_rank_12 : decode cX4_rank 12 = .ok (.iload_n 2, 1) := by decide +kernel
theorem dX4_rank_13 : decode cX4_rank 13 = .ok (.aload_n 1, 1) := by decide +kernel
theorem dX4_rank_14 : decode cX4_rank 14 = .ok (.getfield 24, 3) := by decide +kernel
theorem dX4_rank_17 : decode cX4_rank 17 = .ok (.iload_n 2, 1) := by decide +kernel
theorem dX4_rank_18 : decode cX4_rank 18 = .ok (.invokestatic 30, 3) := by decide +kernel
theorem dX4_rank_21 : decode cX4_rank 21 = .ok (.ifCond .eq 11, 3) := by decide +kernel
theorem dX4_rank_24 : decode cX4_rank 24 = .ok (.aload_n 1, 1) := by decide +kernel
theorem dX4_rank_25 : decode cX4_rank 25 = .ok (.iload_n 2, 1) := by decide +kernel
theorem dX4_rank_26 : decode cX4_rank 26 = .ok (.invokestatic 34, 3) := by decide +kernel
theorem dX4_rank_29 : decode cX4_rank 29 = .ok (.goto 4, 3) := by decide +kernel
theorem dX4_rank_32 : decode cX4_rank 32 = .ok (.lconst 0, 1) := by decide +kernel
theorem dX4_rank_33 : decode cX4_rank 33 = .ok (.invokestatic 38, 3) := by decide +kernel
theorem dX4_rank_36 : decode cX4_rank 36 = .ok (.aload_n 0, 1) := by decide +kernel
theorem dX4_rank_37 : decode cX4_rank 37 = .ok (.getfield 18, 3) := by decide +kernel
theorem dX4_rank_40 : decode cX4_rank 40 = .ok (.iload_n 2, 1) := by decide +kernel
theorem dX4_rank_41 : decode cX4_rank 41 = .ok (.lconst 0, 1) := by decide +kernel
theorem dX4_rank_42 : decode cX4_rank 42 = .ok (.invokestatic 38, 3) := by decide +kernel
theorem dX4_rank_45 : decode cX4_rank 45 = .ok (.aload_n 0, 1) := by decide +kernel
theorem dX4_rank_46 : decode cX4_rank 46 = .ok (.getfield 15, 3) := by decide +kernel
theorem dX4_rank_49 : decode cX4_rank 49 = .ok (.iload_n 2, 1) := by decide +kernel
theorem dX4_rank_50 : decode cX4_rank 50 = .ok (.lconst 0, 1) := by decide +kernel
theorem dX4_rank_51 : decode cX4_rank 51 = .ok (.invokestatic 38, 3) := by decide +kernel
theorem dX4_rank_54 : decode cX4_rank 54 = .ok (.iinc 2 1, 3) := by decide +kernel
theorem dX4_rank_57 : decode cX4_rank 57 = .ok (.goto (-55), 3) := by decide +kernel
theorem dX4_rank_60 : decode cX4_rank 60 = .ok (.aload_n 0, 1) := by decide +kernel
theorem dX4_rank_61 : decode cX4_rank 61 = .ok (.aload_n 1, 1) := by decide +kernel
theorem dX4_rank_62 : decode cX4_rank 62 = .ok (.invokevirtual 42, 3) := by decide +kernel
theorem dX4_rank_65 : decode cX4_rank 65 = .ok (.aload_n 0, 1) := by decide +kernel
theorem dX4_rank_66 : decode cX4_rank 66 = .ok (.iconst 0, 1) := by decide +kernel
theorem dX4_rank_67 : decode cX4_rank 67 = .ok (.putfield 46, 3) := by decide +kernel
theorem dX4_rank_70 : decode cX4_rank 70 = .ok (.aload_n 0, 1) := by decide +kernel
theorem dX4_rank_71 : decode cX4_rank 71 = .ok (.iconst 1, 1) := by decide +kernel
theorem dX4_rank_72 : decode cX4_rank 72 = .ok (.putfield 50, 3) := by decide +kernel
theorem dX4_rank_75 : decode cX4_rank 75 = .ok (.iconst 0, 1) := by decide +kernel
theorem dX4_rank_76 : decode cX4_rank 76 = .ok (.istore_n 2, 1) := by decide +kernel
theorem dX4_rank_77 : decode cX4_rank 77 = .ok (.iload_n 2, 1) := by decide +kernel
theorem dX4_rank_78 : decode cX4_rank 78 = .ok (.aload_n 1, 1) := by decide +kernel
theorem dX4_rank_79 : decode cX4_rank 79 = .ok (.getfield 54, 3) := by decide +kernel
theorem dX4_rank_82 : decode cX4_rank 82 = .ok (.if_icmp .ge 42, 3) := by decide +kernel
theorem dX4_rank_85 : decode cX4_rank 85 = .ok (.aload_n 0, 1) := by decide +kernel
theorem dX4_rank_86 : decode cX4_rank 86 = .ok (.iload_n 2, 1) := by decide +kernel
theorem dX4_rank_87 : decode cX4_rank 87 = .ok (.invokevirtual 57, 3) := by decide +kernel
theorem dX4_rank_90 : decode cX4_rank 90 = .ok (.aload_n 0, 1) := by decide +kernel
theorem dX4_rank_91 : decode cX4_rank 91 = .ok (.getfield 21, 3) := by decide +kernel
theorem dX4_rank_94 : decode cX4_rank 94 = .ok (.aload_n 0, 1) := by decide +kernel
theorem dX4_rank_95 : decode cX4_rank 95 = .ok (.getfield 21, 3) := by decide +kernel
theorem dX4_rank_98 : decode cX4_rank 98 = .ok (.iload_n 2, 1) := by decide +kernel
theorem dX4_rank_99 : decode cX4_rank 99 = .ok (.invokestatic 61, 3) := by decide +kernel
theorem dX4_rank_102 : decode cX4_rank 102 = .ok (.lconst 0, 1) := by decide +kernel
theorem dX4_rank_103 : decode cX4_rank 103 = .ok (.invokestatic 65, 3) := by decide +kernel
theorem dX4_rank_106 : decode cX4_rank 106 = .ok (.iload_n 2, 1) := by decide +kernel
theorem dX4_rank_107 : decode cX4_rank 107 = .ok (.invokestatic 30, 3) := by decide +kernel
theorem dX4_rank_110 : decode cX4_rank 110 = .ok (.ifCond .eq 8, 3) := by decide +kernel
theorem dX4_rank_113 : decode cX4_rank 113 = .ok (.aload_n 0, 1) := by decide +kernel
theorem dX4_rank_114 : decode cX4_rank 114 = .ok (.iconst 0, 1) := by decide +kernel
theorem dX4_rank_115 : decode cX4_rank 115 = .ok (.putfield 50, 3) := by decide +kernel
theorem dX4_rank_118 : decode cX4_rank 118 = .ok (.iinc 2 1, 3) := by decide +kernel
theorem dX4_rank_121 : decode cX4_rank 121 = .ok (.goto (-44), 3) := by decide +kernel
theorem dX4_rank_124 : decode cX4_rank 124 = .ok (.return_, 1) := by decide +kernel
theorem mw_134 : Cond.code yX4_sortEdges cX4_sortEdges 5 (none : Option FieldType) ∈ GW := gw_mem (inT2 _ (List.mem_of_getElem? (i := 167) rfl)) rfl
theorem mw_135 : Cond.methodLink RX4 42 yX4_sortEdges ∈ GW := gw_mem (inT2 _ (List.mem_of_getElem? (i := 164) rfl)) rfl
theorem mw_136 : Cond.instanceMethod yX4_sortEdges ∈ GW := gw_mem (inT2 _ (List.mem_of_getElem? (i := 166) rfl)) rfl
theorem mw_137 : Cond.selects RX4 yX4_sortEdges yX4_sortEdges ∈ GW := gw_mem (inTp (q := (yX4_sortEdges, 7)) (List.mem_of_getElem? (i := 5) rfl)) rfl
theorem mw_138 : Cond.fieldLink RX4 50 "OrielChart$Ranks" "tame" "Z" ∈ GW := gw_mem (inT1 _ (List.mem_of_getElem? (i := 136) rfl)) rfl
theorem mw_139 : Cond.code yX4_closeLoop cX4_closeLoop 4 (none : Option FieldType) ∈ GW := gw_mem (inT2 _ (List.mem_of_getElem? (i := 177) rfl)) rfl
theorem mw_140 : Cond.methodLink RX4 57 yX4_closeLoop ∈ GW := gw_mem (inT2 _ (List.mem_of_getElem? (i := 174) rfl)) rfl
theorem mw_141 : Cond.instanceMethod yX4_closeLoop ∈ GW := gw_mem (inT2 _ (List.mem_of_getElem? (i := 176) rfl)) rfl
theorem mw_142 : Cond.selects RX4 yX4_closeLoop yX4_closeLoop ∈ GW := gw_mem (inTp (q := (yX4_closeLoop, 7)) (List.mem_of_getElem? (i := 6) rfl)) rfl
theorem mw_143 : Cond.code yX4_ruledBy cX4_ruledBy 2 (some Jvm.ClassFile.FieldType.long) ∈ GW := gw_mem (inT2 _ (List.mem_of_getElem? (i := 159) rfl)) rfl
theorem mw_144 : Cond.methodLink RX4 34 yX4_ruledBy ∈ GW := gw_mem (inT2 _ (List.mem_of_getElem? (i := 157) rfl)) rfl
theorem mw_145 : Cond.static yX4_ruledBy ∈ GW := gw_mem (inT2 _ (List.mem_of_getElem? (i := 158) rfl)) rfl
theorem pdv_X4_sortEdges : yX4_sortEdges.cls = RX4 ∧ yX4_sortEdges.cls ≠ "java/lang/invoke/MethodHandle" ∧ yX4_sortEdges.cls ≠ "java/lang/invoke/VarHandle" ∧ (parseMethodDescriptor yX4_sortEdges.desc).map (fun d => d.parameters.length) = some 1 := by decide +kernel
theorem pdv_X4_closeLoop : yX4_closeLoop.cls = RX4 ∧ yX4_closeLoop.cls ≠ "java/lang/invoke/MethodHandle" ∧ yX4_closeLoop.cls ≠ "java/lang/invoke/VarHandle" ∧ (parseMethodDescriptor yX4_closeLoop.desc).map (fun d => d.parameters.length) = some 1 := by decide +kernel
theorem pd_X4_ruledBy : yX4_ruledBy.cls ≠ "java/lang/invoke/MethodHandle" ∧ yX4_ruledBy.cls ≠ "java/lang/invoke/VarHandle" ∧ (parseMethodDescriptor yX4_ruledBy.desc).map (fun d => d.parameters.length) = some 2 := by decide +kernel
set_option maxHeartbeats 4000000 in
set_option maxRecDepth 100000 in
theorem c_rank (l : Launch) (D : va_G) (cI cJ : ClassId) (ad : Nat → Nat) (co fl ra li re wa pi : Ob) : CT l D (TY cI cJ) yX4_rank (.code yX4_rank cX4_rank 3 (none : Option FieldType)) 4 0 0 (XW ad cI cJ co fl ra li re wa pi) [.ref (ad 3), .ref (ad 2)] (QV D (TY cI cJ) (fun u => u = (XW ad cI cJ co fl (rank fl ra) li re wa pi))) := by
  refine ent (by decide) (Nat.le_of_ble_eq_true rfl) ?_
  intro p e s m below meth c ls A hx hb hr hg hown hml hlocks hnm hP hK hD hS hA hN hl
  have hl : lv_has ls 3 [(0, .ref (ad 3)), (1, .ref (ad 2))] := hl
  refine lv_iconst (v := 0) hx hb dX4_rank_0 (by decide) ?_
  refine lv_istore_n (lv' := [(2, .int 0), (0, .ref (ad 3)), (1, .ref (ad 2))]) hx hb dX4_rank_1 rfl hl (by decide) rfl (fun ls hl => ?_)
  refine w_loop (σ := Ob) (fun (i_1 : Nat) (p_1 : Ob) (H : Heap) (locs : List Loc) (ls : Array Slot) => p_1 = (lp (rankA fl) i_1 ra) ∧ va_P D vwCl (XW ad cI cJ co fl p_1 li re wa pi) H ∧ va_D A (XW ad cI cJ co fl p_1 li re wa pi) ∧ va_S A s.heap H locs ∧ lv_has ls 3 [(0, .ref (ad 3)), (1, .ref (ad 2)), (2, .int (nI i_1))]) (40) (fun p_1 H locs ls hI => ?_) (fun i_1 p_1 H locs ls hi_1 hI ih_1 => ?_) 0 ra (Nat.zero_le _) ⟨(lp_0 _ _), hP, hD, hS, (by rw [nI_0]; exact lv_sub hl [1, 2, 0] rfl)⟩
  · obtain ⟨h_1, hP, hD, hS, hl⟩ := hI
    have h_1 := h_1.symm
    subst h_1
    have hP : va_P D vwCl (XW ad cI cJ co fl ((lp (rankA fl) (40) ra)) li re wa pi) H := hP
    have hD : va_D A (XW ad cI cJ co fl ((lp (rankA fl) (40) ra)) li re wa pi) := hD
    have hl : lv_has ls 3 [(0, .ref (ad 3)), (1, .ref (ad 2)), (2, .int (nI 40))] := hl
    refine lv_iload_n hx hb dX4_rank_2 rfl (lv_at hl 2 rfl) ?_
    refine lv_bipush (v := 40) hx hb dX4_rank_3 (by decide) ?_
    refine lv_icmp_ge (tgt := 60) hx hb dX4_rank_5 (by decide) (fun _ => ?_) (fun c_5 => absurd (by decide) c_5)
    refine lv_aload_n hx hb dX4_rank_60 rfl (lv_at hl 0 rfl) ?_
    refine lv_aload_n hx hb dX4_rank_61 rfl (lv_at hl 1 rfl) ?_
    refine kV (rV (q0 := 3) (ci := 4) hx hb hml hown hg hN hK hP hD (c_sortEdges l D cI cJ ad co fl ((lp (rankA fl) (40) ra)) li re wa pi) mw_134 mw_135 mw_136 mw_137 mw_130 pdv_X4_sortEdges ⟨Nat.le_of_ble_eq_true rfl, Nat.le_of_ble_eq_true rfl⟩ rfl xo3 rfl hl.1 rfl (Nat.le_of_ble_eq_true rfl) dX4_rank_62 ⟨Nat.le_of_ble_eq_true rfl, Nat.le_of_ble_eq_true rfl⟩) hD hS hA (fun u_2 H locs hp hP hD hS => ?_)
    obtain rfl := hp.symm
    have hP : va_P D vwCl (XW ad cI cJ co fl (sortEdges fl ((lp (rankA fl) (40) ra))) li re wa pi) H := hP
    have hD : va_D A (XW ad cI cJ co fl (sortEdges fl ((lp (rankA fl) (40) ra))) li re wa pi) := hD
    refine lv_aload_n hx hb dX4_rank_65 rfl (lv_at hl 0 rfl) ?_
    refine lv_iconst (v := 0) hx hb dX4_rank_66 (by decide) ?_
    refine va_put (D := D) (ci := 4) (v := .int 0) (C := RX4) (T := TX4) (N := 7) hx hb hg inGX4 tyX4 tyX4_ok nmX4 hown hK hP hD hS 3 xo3 rfl 4 (by decide) (hg _ mw_133) (fun _ h9 => h9) rfl (tyX4_ok 4 (by decide)) rfl rfl (Nat.le_of_ble_eq_true rfl) dX4_rank_67 (fun H locs hP hD hS => ?_)
    have hP : va_P D vwCl (XW ad cI cJ co fl (si (sortEdges fl ((lp (rankA fl) (40) ra))) 0 0) li re wa pi) H := cgP xpX4_4 hP
    have hD : va_D A (XW ad cI cJ co fl (si (sortEdges fl ((lp (rankA fl) (40) ra))) 0 0) li re wa pi) := cgD xpX4_4 hD
    refine lv_aload_n hx hb dX4_rank_70 rfl (lv_at hl 0 rfl) ?_
    refine lv_iconst (v := 1) hx hb dX4_rank_71 (by decide) ?_
    refine va_put (D := D) (ci := 4) (v := .int 1) (C := RX4) (T := TX4) (N := 7) hx hb hg inGX4 tyX4 tyX4_ok nmX4 hown hK hP hD hS 3 xo3 rfl 5 (by decide) (hg _ mw_138) (fun _ h9 => h9) rfl (tyX4_ok 5 (by decide)) rfl rfl (Nat.le_of_ble_eq_true rfl) dX4_rank_72 (fun H locs hP hD hS => ?_)
    have hP : va_P D vwCl (XW ad cI cJ co fl (si (si (sortEdges fl ((lp (rankA fl) (40) ra))) 0 0) 1 1) li re wa pi) H := cgP xpX4_5 hP
    have hD : va_D A (XW ad cI cJ co fl (si (si (sortEdges fl ((lp (rankA fl) (40) ra))) 0 0) 1 1) li re wa pi) := cgD xpX4_5 hD
    refine lv_iconst (v := 0) hx hb dX4_rank_75 (by decide) ?_
    refine lv_istore_n (lv' := [(2, .int 0), (0, .ref (ad 3)), (1, .ref (ad 2))]) hx hb dX4_rank_76 rfl hl (by decide) rfl (fun ls hl => ?_)
    refine w_loop (σ := Ob) (fun (i_3 : Nat) (p_3 : Ob) (H : Heap) (locs : List Loc) (ls : Array Slot) => p_3 = (lp rankB i_3 (si (si (sortEdges fl ((lp (rankA fl) (40) ra))) 0 0) 1 1)) ∧ va_P D vwCl (XW ad cI cJ co fl p_3 li re wa pi) H ∧ va_D A (XW ad cI cJ co fl p_3 li re wa pi) ∧ va_S A s.heap H locs ∧ lv_has ls 3 [(0, .ref (ad 3)), (1, .ref (ad 2)), (2, .int (nI i_3))]) (nN (gi fl 0)) (fun p_3 H locs ls hI => ?_) (fun i_3 p_3 H locs ls hi_3 hI ih_3 => ?_) 0 (si (si (sortEdges fl ((lp (rankA fl) (40) ra))) 0 0) 1 1) (Nat.zero_le _) ⟨(lp_0 _ _), hP, hD, hS, (by rw [nI_0]; exact lv_sub hl [1, 2, 0] rfl)⟩
    · obtain ⟨h_3, hP, hD, hS, hl⟩ := hI
      have h_3 := h_3.symm
      subst h_3
      have hP : va_P D vwCl (XW ad cI cJ co fl ((lp rankB (nN (gi fl 0)) (si (si (sortEdges fl ((lp (rankA fl) (40) ra))) 0 0) 1 1))) li re wa pi) H := hP
      have hD : va_D A (XW ad cI cJ co fl ((lp rankB (nN (gi fl 0)) (si (si (sortEdges fl ((lp (rankA fl) (40) ra))) 0 0) 1 1))) li re wa pi) := hD
      have hl : lv_has ls 3 [(0, .ref (ad 3)), (1, .ref (ad 2)), (2, .int (nI ((nN (gi fl 0)))))] := hl
      refine lv_iload_n hx hb dX4_rank_77 rfl (lv_at hl 2 rfl) ?_
      refine lv_aload_n hx hb dX4_rank_78 rfl (lv_at hl 1 rfl) ?_
      refine va_getN (D := D) (ci := 1) (v := .int (gi fl 0)) (C := RX1) (T := TX1) (N := 11) hx hb hg inGX1 hown hK hP 2 xo2 rfl 7 (by decide) (hN.use nw_27) (fun _ h9 => h9) (xvX1_7 rfl) dX4_rank_79 ?_
      refine lv_icmp_ge (tgt := 124) hx hb dX4_rank_82 (by decide) (fun _ => ?_) (fun c_82 => absurd (lp_out _) c_82)
      exact W.vret hx hb hr (fun t ht hW => ⟨⟨(XW ad cI cJ co fl ((lp rankB (nN (gi fl 0)) (si (si (sortEdges fl ((lp (rankA fl) (40) ra))) 0 0) 1 1))) li re wa pi), rfl, xw_eq rfl rfl (show ((lp rankB (nN (gi fl 0)) (si (si (sortEdges fl ((lp (rankA fl) (40) ra))) 0 0) 1 1))) = (rank fl ra) from (by first | with_reducible rfl | (simp only [rank, gi_sl, gi_sA, gi_sB, gi_si_s, gi_si_n, gl_si, gl_sA, gl_sB, gl_sl_s, gl_sl_n, gA_si, gA_sl, gA_sB, gA_sA_s, gA_sA_n, gB_si, gB_sl, gB_sA, gB_sB_s, gB_sB_n, Nat.reduceBEq, if_true, if_false, eq_self, Bool.false_eq_true, Bool.true_eq_false, not_true_eq_false, not_false_eq_true, decide_true, decide_false, cond_true, cond_false, Bool.true_and, Bool.false_and, Bool.and_true, Bool.and_false, Bool.true_or, Bool.false_or, Bool.or_true, Bool.or_false, b2i_tt, b2i_ff, pr_eta]; done))) rfl rfl rfl rfl, ⟨by rw [ht]; exact hP, va_K.moved hW.alike hK, hD⟩⟩, hS.F ht⟩) hS.2.2 dX4_rank_124
    · obtain ⟨h_3, hP, hD, hS, hl⟩ := hI
      have hP : va_P D vwCl (XW ad cI cJ co fl p_3 li re wa pi) H := hP
      have hD : va_D A (XW ad cI cJ co fl p_3 li re wa pi) := hD
      have hl : lv_has ls 3 [(0, .ref (ad 3)), (1, .ref (ad 2)), (2, .int (nI i_3))] := hl
      refine lv_iload_n hx hb dX4_rank_77 rfl (lv_at hl 2 rfl) ?_
      refine lv_aload_n hx hb dX4_rank_78 rfl (lv_at hl 1 rfl) ?_
      refine va_getN (D := D) (ci := 1) (v := .int (gi fl 0)) (C := RX1) (T := TX1) (N := 11) hx hb hg inGX1 hown hK hP 2 xo2 rfl 7 (by decide) (hN.use nw_27) (fun _ h9 => h9) (xvX1_7 rfl) dX4_rank_79 ?_
      refine lv_icmp_ge (tgt := 124) hx hb dX4_rank_82 (by decide) (fun c_82 => absurd c_82 (lp_in hi_3)) (fun _ => ?_)
      refine lv_aload_n hx hb dX4_rank_85 rfl (lv_at hl 0 rfl) ?_
      refine lv_iload_n hx hb dX4_rank_86 rfl (lv_at hl 2 rfl) ?_
      refine kV (rV (q0 := 3) (ci := 4) hx hb hml hown hg hN hK hP hD (c_closeLoop l D cI cJ ad co fl p_3 li re wa pi (nI i_3)) mw_139 mw_140 mw_141 mw_142 mw_130 pdv_X4_closeLoop ⟨Nat.le_of_ble_eq_true rfl, Nat.le_of_ble_eq_true rfl⟩ rfl xo3 rfl hl.1 rfl (Nat.le_of_ble_eq_true rfl) dX4_rank_87 ⟨Nat.le_of_ble_eq_true rfl, Nat.le_of_ble_eq_true rfl⟩) hD hS hA (fun u_4 H locs hp hP hD hS => ?_)
      obtain rfl := hp.symm
      have hP : va_P D vwCl (XW ad cI cJ co fl (closeLoop p_3 (nI i_3)) li re wa pi) H := hP
      have hD : va_D A (XW ad cI cJ co fl (closeLoop p_3 (nI i_3)) li re wa pi) := hD
      refine lv_aload_n hx hb dX4_rank_90 rfl (lv_at hl 0 rfl) ?_
      refine va_get (D := D) (ci := 4) (v := .ref (ad 22)) (C := RX4) (T := TX4) (N := 7) hx hb hg inGX4 hown hK hP 3 xo3 rfl 3 (by decide) (hg _ mw_131) (fun _ h9 => h9) xvX4_3 dX4_rank_91 ?_
      refine lv_aload_n hx hb dX4_rank_94 rfl (lv_at hl 0 rfl) ?_
      refine va_get (D := D) (ci := 4) (v := .ref (ad 22)) (C := RX4) (T := TX4) (N := 7) hx hb hg inGX4 hown hK hP 3 xo3 rfl 3 (by decide) (hg _ mw_131) (fun _ h9 => h9) xvX4_3 dX4_rank_95 ?_
      refine lv_iload_n hx hb dX4_rank_98 rfl (lv_at hl 2 rfl) ?_
      refine kL (rSN hx hb hml hown hg hN hK hP hD (c_atL l D cI cJ (XW ad cI cJ co fl (closeLoop p_3 (nI i_3)) li re wa pi) 22 (ad 22) 40 (gB (closeLoop p_3 (nI i_3)) 3) (nI i_3) (xg22 rfl) (by decide)) mw_81 nw_78 mw_83 mw_77 pd_X7_at_ ⟨Nat.le_of_ble_eq_true rfl, Nat.le_of_ble_eq_true rfl⟩ rfl hl.1 rfl (Nat.le_of_ble_eq_true rfl) dX4_rank_99 ⟨Nat.le_of_ble_eq_true rfl, Nat.le_of_ble_eq_true rfl⟩) hD hS hA (fun r_5 u_5 H locs hp hP hD hS => ?_)
      obtain ⟨er, eu⟩ := hp
      obtain rfl := er.symm
      obtain rfl := eu.symm
      refine lv_lconst (v := 0) hx hb dX4_rank_102 (by decide) ?_
      refine kL (rSN hx hb hml hown hg hN hK hP hD (c_spread l D cI cJ (XW ad cI cJ co fl (closeLoop p_3 (nI i_3)) li re wa pi) 22 (ad 22) (gB (closeLoop p_3 (nI i_3)) 3) (rdL (gB (closeLoop p_3 (nI i_3)) 3) 40 (nI i_3)) 0 (xg22 rfl)) mw_116 nw_75 mw_117 mw_77 pd_X7_spread ⟨Nat.le_of_ble_eq_true rfl, Nat.le_of_ble_eq_true rfl⟩ rfl hl.1 rfl (Nat.le_of_ble_eq_true rfl) dX4_rank_103 ⟨Nat.le_of_ble_eq_true rfl, Nat.le_of_ble_eq_true rfl⟩) hD hS hA (fun r_6 u_6 H locs hp hP hD hS => ?_)
      obtain ⟨er, eu⟩ := hp
      obtain rfl := er.symm
      obtain rfl := eu.symm
      refine lv_iload_n hx hb dX4_rank_106 rfl (lv_at hl 2 rfl) ?_
      refine kI (rSN hx hb hml hown hg hN hK hP hD (c_has l D cI cJ (XW ad cI cJ co fl (closeLoop p_3 (nI i_3)) li re wa pi) (spread (gB (closeLoop p_3 (nI i_3)) 3) (rdL (gB (closeLoop p_3 (nI i_3)) 3) 40 (nI i_3)) 0) (nI i_3)) mw_89 nw_73 mw_90 mw_77 pd_X7_has ⟨Nat.le_of_ble_eq_true rfl, Nat.le_of_ble_eq_true rfl⟩ rfl hl.1 rfl (Nat.le_of_ble_eq_true rfl) dX4_rank_107 ⟨Nat.le_of_ble_eq_true rfl, Nat.le_of_ble_eq_true rfl⟩) hD hS hA (fun r_7 u_7 H locs hp hP hD hS => ?_)
      obtain ⟨er, eu⟩ := hp
      obtain rfl := er.symm
      obtain rfl := eu.symm
      refine lv_if_eq (tgt := 118) hx hb dX4_rank_110 (by decide) (fun c_110 => ?_) (fun c_110 => ?_)
      · have c_110 : ¬ (hs (spread (gB (closeLoop p_3 (nI i_3)) 3) (rdL (gB (closeLoop p_3 (nI i_3)) 3) 40 (nI i_3)) 0) (nI i_3)) = true := b2i_0 c_110
        refine lv_iinc (v := (nI (i_3 + 1))) (lv' := [(2, .int (nI (i_3 + 1))), (0, .ref (ad 3)), (1, .ref (ad 2))]) hx hb dX4_rank_118 hl (k := 2) rfl (nI_1 i_3) (by decide) rfl (fun ls hl => ?_)
        refine lv_goto (tgt := 77) hx hb dX4_rank_121 (by decide) ?_
        exact ih_3 (closeLoop p_3 (nI i_3)) H locs ls ⟨((show (closeLoop p_3 (nI i_3)) = rankB i_3 p_3 from (by simp only [rankB, rankT, bf_of c_110, gi_sl, gi_sA, gi_sB, gi_si_s, gi_si_n, gl_si, gl_sA, gl_sB, gl_sl_s, gl_sl_n, gA_si, gA_sl, gA_sB, gA_sA_s, gA_sA_n, gB_si, gB_sl, gB_sA, gB_sB_s, gB_sB_n, Nat.reduceBEq, if_true, if_false, eq_self, Bool.false_eq_true, Bool.true_eq_false, not_true_eq_false, not_false_eq_true, decide_true, decide_false, cond_true, cond_false, Bool.true_and, Bool.false_and, Bool.and_true, Bool.and_false, Bool.true_or, Bool.false_or, Bool.or_true, Bool.or_false, b2i_tt, b2i_ff, pr_eta]; done)).trans (lp_go h_3)), hP, hD, hS, lv_sub hl [1, 2, 0] rfl⟩
      · have c_110 : (hs (spread (gB (closeLoop p_3 (nI i_3)) 3) (rdL (gB (closeLoop p_3 (nI i_3)) 3) 40 (nI i_3)) 0) (nI i_3)) = true := b2i_1 c_110
        refine lv_aload_n hx hb dX4_rank_113 rfl (lv_at hl 0 rfl) ?_
        refine lv_iconst (v := 0) hx hb dX4_rank_114 (by decide) ?_
        refine va_put (D := D) (ci := 4) (v := .int 0) (C := RX4) (T := TX4) (N := 7) hx hb hg inGX4 tyX4 tyX4_ok nmX4 hown hK hP hD hS 3 xo3 rfl 5 (by decide) (hg _ mw_138) (fun _ h9 => h9) rfl (tyX4_ok 5 (by decide)) rfl rfl (Nat.le_of_ble_eq_true rfl) dX4_rank_115 (fun H locs hP hD hS => ?_)
        have hP : va_P D vwCl (XW ad cI cJ co fl (si (closeLoop p_3 (nI i_3)) 1 0) li re wa pi) H := cgP xpX4_5 hP
        have hD : va_D A (XW ad cI cJ co fl (si (closeLoop p_3 (nI i_3)) 1 0) li re wa pi) := cgD xpX4_5 hD
        refine lv_iinc (v := (nI (i_3 + 1))) (lv' := [(2, .int (nI (i_3 + 1))), (0, .ref (ad 3)), (1, .ref (ad 2))]) hx hb dX4_rank_118 hl (k := 2) rfl (nI_1 i_3) (by decide) rfl (fun ls hl => ?_)
        refine lv_goto (tgt := 77) hx hb dX4_rank_121 (by decide) ?_
        exact ih_3 (si (closeLoop p_3 (nI i_3)) 1 0) H locs ls ⟨((show (si (closeLoop p_3 (nI i_3)) 1 0) = rankB i_3 p_3 from (by simp only [rankB, rankT, c_110, gi_sl, gi_sA, gi_sB, gi_si_s, gi_si_n, gl_si, gl_sA, gl_sB, gl_sl_s, gl_sl_n, gA_si, gA_sl, gA_sB, gA_sA_s, gA_sA_n, gB_si, gB_sl, gB_sA, gB_sB_s, gB_sB_n, Nat.reduceBEq, if_true, if_false, eq_self, Bool.false_eq_true, Bool.true_eq_false, not_true_eq_false, not_false_eq_true, decide_true, decide_false, cond_true, cond_false, Bool.true_and, Bool.false_and, Bool.and_true, Bool.and_false, Bool.true_or, Bool.false_or, Bool.or_true, Bool.or_false, b2i_tt, b2i_ff, pr_eta]; done)).trans (lp_go h_3)), hP, hD, hS, lv_sub hl [1, 2, 0] rfl⟩
  · obtain ⟨h_1, hP, hD, hS, hl⟩ := hI
    have hP : va_P D vwCl (XW ad cI cJ co fl p_1 li re wa pi) H := hP
    have hD : va_D A (XW ad cI cJ co fl p_1 li re wa pi) := hD
    have hl : lv_has ls 3 [(0, .ref (ad 3)), (1, .ref (ad 2)), (2, .int (nI i_1))] := hl
    refine lv_iload_n hx hb dX4_rank_2 rfl (lv_at hl 2 rfl) ?_
    refine lv_bipush (v := 40) hx hb dX4_rank_3 (by decide) ?_
    refine lv_icmp_ge (tgt := 60) hx hb dX4_rank_5 (by decide) (fun c_5 => absurd c_5 (nI_ge hi_1 (by decide))) (fun _ => ?_)
    refine lv_aload_n hx hb dX4_rank_8 rfl (lv_at hl 0 rfl) ?_
    refine va_get (D := D) (ci := 4) (v := .ref (ad 19)) (C := RX4) (T := TX4) (N := 7) hx hb hg inGX4 hown hK hP 3 xo3 rfl 0 (by decide) (hg _ mw_124) (fun _ h9 => h9) xvX4_0 dX4_rank_9 ?_
    refine lv_iload_n hx hb dX4_rank_12 rfl (lv_at hl 2 rfl) ?_
    refine lv_aload_n hx hb dX4_rank_13 rfl (lv_at hl 1 rfl) ?_
    refine va_getN (D := D) (ci := 1) (v := .long (gl fl 0)) (C := RX1) (T := TX1) (N := 11) hx hb hg inGX1 hown hK hP 2 xo2 rfl 9 (by decide) (hN.use nw_33) (fun _ h9 => h9) (xvX1_9 rfl) dX4_rank_14 ?_
    refine lv_iload_n hx hb dX4_rank_17 rfl (lv_at hl 2 rfl) ?_
    refine kI (rSN hx hb hml hown hg hN hK hP hD (c_has l D cI cJ (XW ad cI cJ co fl p_1 li re wa pi) (gl fl 0) (nI i_1)) mw_89 nw_73 mw_90 mw_77 pd_X7_has ⟨Nat.le_of_ble_eq_true rfl, Nat.le_of_ble_eq_true rfl⟩ rfl hl.1 rfl (Nat.le_of_ble_eq_true rfl) dX4_rank_18 ⟨Nat.le_of_ble_eq_true rfl, Nat.le_of_ble_eq_true rfl⟩) hD hS hA (fun r_8 u_8 H locs hp hP hD hS => ?_)
    obtain ⟨er, eu⟩ := hp
    obtain rfl := er.symm
    obtain rfl := eu.symm
    refine lv_if_eq (tgt := 32) hx hb dX4_rank_21 (by decide) (fun c_21 => ?_) (fun c_21 => ?_)
    · have c_21 : ¬ (hs (gl fl 0) (nI i_1)) = true := b2i_0 c_21
      refine lv_lconst (v := 0) hx hb dX4_rank_32 (by decide) ?_
      refine kV (rSN hx hb hml hown hg hN hK hP hD (c_putL l D cI cJ (XW ad cI cJ co fl p_1 li re wa pi) 19 (ad 19) 40 (gB p_1 0) (nI i_1) 0 (xg19 rfl) (by decide)) mw_97 nw_76 mw_98 mw_77 pd_X7_put_ ⟨Nat.le_of_ble_eq_true rfl, Nat.le_of_ble_eq_true rfl⟩ rfl hl.1 rfl (Nat.le_of_ble_eq_true rfl) dX4_rank_33 ⟨Nat.le_of_ble_eq_true rfl, Nat.le_of_ble_eq_true rfl⟩) hD hS hA (fun u_9 H locs hp hP hD hS => ?_)
      obtain rfl := hp.symm
      have hP : va_P D vwCl (XW ad cI cJ co fl (sB p_1 0 (wrL (gB p_1 0) 40 (nI i_1) 0)) li re wa pi) H := cgP xs19 hP
      have hD : va_D A (XW ad cI cJ co fl (sB p_1 0 (wrL (gB p_1 0) 40 (nI i_1) 0)) li re wa pi) := cgD xs19 hD
      refine lv_aload_n hx hb dX4_rank_36 rfl (lv_at hl 0 rfl) ?_
      refine va_get (D := D) (ci := 4) (v := .ref (ad 21)) (C := RX4) (T := TX4) (N := 7) hx hb hg inGX4 hown hK hP 3 xo3 rfl 2 (by decide) (hg _ mw_125) (fun _ h9 => h9) xvX4_2 dX4_rank_37 ?_
      refine lv_iload_n hx hb dX4_rank_40 rfl (lv_at hl 2 rfl) ?_
      refine lv_lconst (v := 0) hx hb dX4_rank_41 (by decide) ?_
      refine kV (rSN hx hb hml hown hg hN hK hP hD (c_putL l D cI cJ (XW ad cI cJ co fl (sB p_1 0 (wrL (gB p_1 0) 40 (nI i_1) 0)) li re wa pi) 21 (ad 21) 40 (gB p_1 2) (nI i_1) 0 (xg21 (by simp only [gi_sl, gi_sA, gi_sB, gi_si_s, gi_si_n, gl_si, gl_sA, gl_sB, gl_sl_s, gl_sl_n, gA_si, gA_sl, gA_sB, gA_sA_s, gA_sA_n, gB_si, gB_sl, gB_sA, gB_sB_s, gB_sB_n, Nat.reduceBEq])) (by decide)) mw_97 nw_76 mw_98 mw_77 pd_X7_put_ ⟨Nat.le_of_ble_eq_true rfl, Nat.le_of_ble_eq_true rfl⟩ rfl hl.1 rfl (Nat.le_of_ble_eq_true rfl) dX4_rank_42 ⟨Nat.le_of_ble_eq_true rfl, Nat.le_of_ble_eq_true rfl⟩) hD hS hA (fun u_10 H locs hp hP hD hS => ?_)
      obtain rfl := hp.symm
      have hP : va_P D vwCl (XW ad cI cJ co fl (sB (sB p_1 0 (wrL (gB p_1 0) 40 (nI i_1) 0)) 2 (wrL (gB p_1 2) 40 (nI i_1) 0)) li re wa pi) H := cgP xs21 hP
      have hD : va_D A (XW ad cI cJ co fl (sB (sB p_1 0 (wrL (gB p_1 0) 40 (nI i_1) 0)) 2 (wrL (gB p_1 2) 40 (nI i_1) 0)) li re wa pi) := cgD xs21 hD
      refine lv_aload_n hx hb dX4_rank_45 rfl (lv_at hl 0 rfl) ?_
      refine va_get (D := D) (ci := 4) (v := .ref (ad 20)) (C := RX4) (T := TX4) (N := 7) hx hb hg inGX4 hown hK hP 3 xo3 rfl 1 (by decide) (hg _ mw_132) (fun _ h9 => h9) xvX4_1 dX4_rank_46 ?_
      refine lv_iload_n hx hb dX4_rank_49 rfl (lv_at hl 2 rfl) ?_
      refine lv_lconst (v := 0) hx hb dX4_rank_50 (by decide) ?_
      refine kV (rSN hx hb hml hown hg hN hK hP hD (c_putL l D cI cJ (XW ad cI cJ co fl (sB (sB p_1 0 (wrL (gB p_1 0) 40 (nI i_1) 0)) 2 (wrL (gB p_1 2) 40 (nI i_1) 0)) li re wa pi) 20 (ad 20) 40 (gB p_1 1) (nI i_1) 0 (xg20 (by simp only [gi_sl, gi_sA, gi_sB, gi_si_s, gi_si_n, gl_si, gl_sA, gl_sB, gl_sl_s, gl_sl_n, gA_si, gA_sl, gA_sB, gA_sA_s, gA_sA_n, gB_si, gB_sl, gB_sA, gB_sB_s, gB_sB_n, Nat.reduceBEq])) (by decide)) mw_97 nw_76 mw_98 mw_77 pd_X7_put_ ⟨Nat.le_of_ble_eq_true rfl, Nat.le_of_ble_eq_true rfl⟩ rfl hl.1 rfl (Nat.le_of_ble_eq_true rfl) dX4_rank_51 ⟨Nat.le_of_ble_eq_true rfl, Nat.le_of_ble_eq_true rfl⟩) hD hS hA (fun u_11 H locs hp hP hD hS => ?_)
      obtain rfl := hp.symm
      have hP : va_P D vwCl (XW ad cI cJ co fl (sB (sB (sB p_1 0 (wrL (gB p_1 0) 40 (nI i_1) 0)) 2 (wrL (gB p_1 2) 40 (nI i_1) 0)) 1 (wrL (gB p_1 1) 40 (nI i_1) 0)) li re wa pi) H := cgP xs20 hP
      have hD : va_D A (XW ad cI cJ co fl (sB (sB (sB p_1 0 (wrL (gB p_1 0) 40 (nI i_1) 0)) 2 (wrL (gB p_1 2) 40 (nI i_1) 0)) 1 (wrL (gB p_1 1) 40 (nI i_1) 0)) li re wa pi) := cgD xs20 hD
      refine lv_iinc (v := (nI (i_1 + 1))) (lv' := [(2, .int (nI (i_1 + 1))), (0, .ref (ad 3)), (1, .ref (ad 2))]) hx hb dX4_rank_54 hl (k := 2) rfl (nI_1 i_1) (by decide) rfl (fun ls hl => ?_)
      refine lv_goto (tgt := 2) hx hb dX4_rank_57 (by decide) ?_
      exact ih_1 (sB (sB (sB p_1 0 (wrL (gB p_1 0) 40 (nI i_1) 0)) 2 (wrL (gB p_1 2) 40 (nI i_1) 0)) 1 (wrL (gB p_1 1) 40 (nI i_1) 0)) H locs ls ⟨((show (sB (sB (sB p_1 0 (wrL (gB p_1 0) 40 (nI i_1) 0)) 2 (wrL (gB p_1 2) 40 (nI i_1) 0)) 1 (wrL (gB p_1 1) 40 (nI i_1) 0)) = (rankA fl) i_1 p_1 from (by simp only [rankA, bf_of c_21, gi_sl, gi_sA, gi_sB, gi_si_s, gi_si_n, gl_si, gl_sA, gl_sB, gl_sl_s, gl_sl_n, gA_si, gA_sl, gA_sB, gA_sA_s, gA_sA_n, gB_si, gB_sl, gB_sA, gB_sB_s, gB_sB_n, Nat.reduceBEq, if_true, if_false, eq_self, Bool.false_eq_true, Bool.true_eq_false, not_true_eq_false, not_false_eq_true, decide_true, decide_false, cond_true, cond_false, Bool.true_and, Bool.false_and, Bool.and_true, Bool.and_false, Bool.true_or, Bool.false_or, Bool.or_true, Bool.or_false, b2i_tt, b2i_ff, pr_eta]; done)).trans (lp_go h_1)), hP, hD, hS, lv_sub hl [1, 2, 0] rfl⟩
    · have c_21 : (hs (gl fl 0) (nI i_1)) = true := b2i_1 c_21
      refine lv_aload_n hx hb dX4_rank_24 rfl (lv_at hl 1 rfl) ?_
      refine lv_iload_n hx hb dX4_rank_25 rfl (lv_at hl 2 rfl) ?_
      refine kL (rS hx hb hml hown hg hN hK hP hD (c_ruledBy l D cI cJ ad co fl p_1 li re wa pi (nI i_1)) mw_143 mw_144 mw_145 mw_130 pd_X4_ruledBy ⟨Nat.le_of_ble_eq_true rfl, Nat.le_of_ble_eq_true rfl⟩ rfl hl.1 rfl (Nat.le_of_ble_eq_true rfl) dX4_rank_26 ⟨Nat.le_of_ble_eq_true rfl, Nat.le_of_ble_eq_true rfl⟩) hD hS hA (fun r_12 u_12 H locs hp hP hD hS => ?_)
      obtain ⟨er, eu⟩ := hp
      obtain rfl := er.symm
      obtain rfl := eu.symm
      refine lv_goto (tgt := 33) hx hb dX4_rank_29 (by decide) ?_
      refine kV (rSN hx hb hml hown hg hN hK hP hD (c_putL l D cI cJ (XW ad cI cJ co fl p_1 li re wa pi) 19 (ad 19) 40 (gB p_1 0) (nI i_1) (ruledBy fl (nI i_1)) (xg19 rfl) (by decide)) mw_97 nw_76 mw_98 mw_77 pd_X7_put_ ⟨Nat.le_of_ble_eq_true rfl, Nat.le_of_ble_eq_true rfl⟩ rfl hl.1 rfl (Nat.le_of_ble_eq_true rfl) dX4_rank_33 ⟨Nat.le_of_ble_eq_true rfl, Nat.le_of_ble_eq_true rfl⟩) hD hS hA (fun u_13 H locs hp hP hD hS => ?_)
      obtain rfl := hp.symm
      have hP : va_P D vwCl (XW ad cI cJ co fl (sB p_1 0 (wrL (gB p_1 0) 40 (nI i_1) (ruledBy fl (nI i_1)))) li re wa pi) H := cgP xs19 hP
      have hD : va_D A (XW ad cI cJ co fl (sB p_1 0 (wrL (gB p_1 0) 40 (nI i_1) (ruledBy fl (nI i_1)))) li re wa pi) := cgD xs19 hD
      refine lv_aload_n hx hb dX4_rank_36 rfl (lv_at hl 0 rfl) ?_
      refine va_get (D := D) (ci := 4) (v := .ref (ad 21)) (C := RX4) (T := TX4) (N := 7) hx hb hg inGX4 hown hK hP 3 xo3 rfl 2 (by decide) (hg _ mw_125) (fun _ h9 => h9) xvX4_2 dX4_rank_37 ?_
      refine lv_iload_n hx hb dX4_rank_40 rfl (lv_at hl 2 rfl) ?_
      refine lv_lconst (v := 0) hx hb dX4_rank_41 (by decide) ?_
      refine kV (rSN hx hb hml hown hg hN hK hP hD (c_putL l D cI cJ (XW ad cI cJ co fl (sB p_1 0 (wrL (gB p_1 0) 40 (nI i_1) (ruledBy fl (nI i_1)))) li re wa pi) 21 (ad 21) 40 (gB p_1 2) (nI i_1) 0 (xg21 (by simp only [gi_sl, gi_sA, gi_sB, gi_si_s, gi_si_n, gl_si, gl_sA, gl_sB, gl_sl_s, gl_sl_n, gA_si, gA_sl, gA_sB, gA_sA_s, gA_sA_n, gB_si, gB_sl, gB_sA, gB_sB_s, gB_sB_n, Nat.reduceBEq])) (by decide)) mw_97 nw_76 mw_98 mw_77 pd_X7_put_ ⟨Nat.le_of_ble_eq_true rfl, Nat.le_of_ble_eq_true rfl⟩ rfl hl.1 rfl (Nat.le_of_ble_eq_true rfl) dX4_rank_42 ⟨Nat.le_of_ble_eq_true rfl, Nat.le_of_ble_eq_true rfl⟩) hD hS hA (fun u_14 H locs hp hP hD hS => ?_)
      obtain rfl := hp.symm
      have hP : va_P D vwCl (XW ad cI cJ co fl (sB (sB p_1 0 (wrL (gB p_1 0) 40 (nI i_1) (ruledBy fl (nI i_1)))) 2 (wrL (gB p_1 2) 40 (nI i_1) 0)) li re wa pi) H := cgP xs21 hP
      have hD : va_D A (XW ad cI cJ co fl (sB (sB p_1 0 (wrL (gB p_1 0) 40 (nI i_1) (ruledBy fl (nI i_1)))) 2 (wrL (gB p_1 2) 40 (nI i_1) 0)) li re wa pi) := cgD xs21 hD
      refine lv_aload_n hx hb dX4_rank_45 rfl (lv_at hl 0 rfl) ?_
      refine va_get (D := D) (ci := 4) (v := .ref (ad 20)) (C := RX4) (T := TX4) (N := 7) hx hb hg inGX4 hown hK hP 3 xo3 rfl 1 (by decide) (hg _ mw_132) (fun _ h9 => h9) xvX4_1 dX4_rank_46 ?_
      refine lv_iload_n hx hb dX4_rank_49 rfl (lv_at hl 2 rfl) ?_
      refine lv_lconst (v := 0) hx hb dX4_rank_50 (by decide) ?_
      refine kV (rSN hx hb hml hown hg hN hK hP hD (c_putL l D cI cJ (XW ad cI cJ co fl (sB (sB p_1 0 (wrL (gB p_1 0) 40 (nI i_1) (ruledBy fl (nI i_1)))) 2 (wrL (gB p_1 2) 40 (nI i_1) 0)) li re wa pi) 20 (ad 20) 40 (gB p_1 1) (nI i_1) 0 (xg20 (by simp only [gi_sl, gi_sA, gi_sB, gi_si_s, gi_si_n, gl_si, gl_sA, gl_sB, gl_sl_s, gl_sl_n, gA_si, gA_sl, gA_sB, gA_sA_s, gA_sA_n, gB_si, gB_sl, gB_sA, gB_sB_s, gB_sB_n, Nat.reduceBEq])) (by decide)) mw_97 nw_76 mw_98 mw_77 pd_X7_put_ ⟨Nat.le_of_ble_eq_true rfl, Nat.le_of_ble_eq_true rfl⟩ rfl hl.1 rfl (Nat.le_of_ble_eq_true rfl) dX4_rank_51 ⟨Nat.le_of_ble_eq_true rfl, Nat.le_of_ble_eq_true rfl⟩) hD hS hA (fun u_15 H locs hp hP hD hS => ?_)
      obtain rfl := hp.symm
      have hP : va_P D vwCl (XW ad cI cJ co fl (sB (sB (sB p_1 0 (wrL (gB p_1 0) 40 (nI i_1) (ruledBy fl (nI i_1)))) 2 (wrL (gB p_1 2) 40 (nI i_1) 0)) 1 (wrL (gB p_1 1) 40 (nI i_1) 0)) li re wa pi) H := cgP xs20 hP
      have hD : va_D A (XW ad cI cJ co fl (sB (sB (sB p_1 0 (wrL (gB p_1 0) 40 (nI i_1) (ruledBy fl (nI i_1)))) 2 (wrL (gB p_1 2) 40 (nI i_1) 0)) 1 (wrL (gB p_1 1) 40 (nI i_1) 0)) li re wa pi) := cgD xs20 hD
      refine lv_iinc (v := (nI (i_1 + 1))) (lv' := [(2, .int (nI (i_1 + 1))), (0, .ref (ad 3)), (1, .ref (ad 2))]) hx hb dX4_rank_54 hl (k := 2) rfl (nI_1 i_1) (by decide) rfl (fun ls hl => ?_)
      refine lv_goto (tgt := 2) hx hb dX4_rank_57 (by decide) ?_
      exact ih_1 (sB (sB (sB p_1 0 (wrL (gB p_1 0) 40 (nI i_1) (ruledBy fl (nI i_1)))) 2 (wrL (gB p_1 2) 40 (nI i_1) 0)) 1 (wrL (gB p_1 1) 40 (nI i_1) 0)) H locs ls ⟨((show (sB (sB (sB p_1 0 (wrL (gB p_1 0) 40 (nI i_1) (ruledBy fl (nI i_1)))) 2 (wrL (gB p_1 2) 40 (nI i_1) 0)) 1 (wrL (gB p_1 1) 40 (nI i_1) 0)) = (rankA fl) i_1 p_1 from (by simp only [rankA, c_21, gi_sl, gi_sA, gi_sB, gi_si_s, gi_si_n, gl_si, gl_sA, gl_sB, gl_sl_s, gl_sl_n, gA_si, gA_sl, gA_sB, gA_sA_s, gA_sA_n, gB_si, gB_sl, gB_sA, gB_sB_s, gB_sB_n, Nat.reduceBEq, if_true, if_false, eq_self, Bool.false_eq_true, Bool.true_eq_false, not_true_eq_false, not_false_eq_true, decide_true, decide_false, cond_true, cond_false, Bool.true_and, Bool.false_and, Bool.and_true, Bool.and_false, Bool.true_or, Bool.false_or, Bool.or_true, Bool.or_false, b2i_tt, b2i_ff, pr_eta]; done)).trans (lp_go h_1)), hP, hD, hS, lv_sub hl [1, 2, 0] rfl⟩
