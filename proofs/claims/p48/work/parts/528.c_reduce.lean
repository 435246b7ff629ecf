theorem dX5_reduce_0 : decode cX5_reduce 0 = .ok (.aload_n 0, 1) := by decide +kernel
theorem dX5_reduce_1 : decode cX5_reduce 1 = .ok (.aload_n 1, 1) := by decide +kernel
theorem dX5_reduce_2 : decode cX5_reduce 2 = .ok (.getfield 28, 3) := by decide +kernel
theorem dX5_reduce_5 : decode cX5_reduce 5 = .ok (.putfield 34, 3) := by decide +kernel
theorem dX5_reduce_8 : decode cX5_reduce 8 = .ok (.aload_n 0, 1) := by decide +kernel
theorem dX5_reduce_9 : decode cX5_reduce 9 = .ok (.iconst 0, 1) := by decide +kernel
theorem dX5_reduce_10 : decode cX5_reduce 10 = .ok (.putfield 37, 3) := by decide +kernel
theorem dX5_reduce_13 : decode cX5_reduce 13 = .ok (.iconst 0, 1) := by decide +kernel
theorem dX5_reduce_14 : decode cX5_reduce 14 = .ok (.istore_n 2, 1) := by decide +kernel
theorem dX5_reduce_15 : decode cX5_reduce 15 = .ok (.iload_n 2, 1) := by decide +kernel
theorem dX5_reduce_16 : decode cX5_reduce 16 = .ok (.bipush 40, 2) := by decide +kernel
theorem dX5_reduce_18 : decode cX5_reduce 18 = .ok (.if_icmp .ge 59, 3) := by decide +kernel
theorem dX5_reduce_21 : decode cX5_reduce 21 = .ok (.aload_n 0, 1) := by decide +kernel
theorem dX5_reduce_22 : decode cX5_reduce 22 = .ok (.getfield 34, 3) := by decide +kernel
theorem dX5_reduce_25 : decode cX5_reduce 25 = .ok (.iload_n 2, 1) := by decide +kernel
theorem dX5_reduce_26 : decode cX5_reduce 26 = .ok (.invokestatic 41, 3) := by decide +kernel
theorem dX5_reduce_29 : decode cX5_reduce 29 = .ok (.istore_n 3, 1) := by decide +kernel
theorem dX5_reduce_30 : decode cX5_reduce 30 = .ok (.aload_n 0, 1) := by decide +kernel
theorem dX5_reduce_31 : decode cX5_reduce 31 = .ok (.getfield 9, 3) := by decide +kernel
theorem dX5_reduce_34 : decode cX5_reduce 34 = .ok (.iload_n 2, 1) := by decide +kernel
theorem dX5_reduce_35 : decode cX5_reduce 35 = .ok (.iload_n 3, 1) := by decide +kernel
theorem dX5_reduce_36 : decode cX5_reduce 36 = .ok (.ifCond .eq 14, 3) := by decide +kernel
theorem dX5_reduce_39 : decode cX5_reduce 39 = .ok (.aload_n 1, 1) := by decide +kernel
theorem dX5_reduce_40 : decode cX5_reduce 40 = .ok (.getfield 45, 3) := by decide +kernel
theorem dX5_reduce_43 : decode cX5_reduce 43 = .ok (.iload_n 2, 1) := by decide +kernel
theorem dX5_reduce_44 : decode cX5_reduce 44 = .ok (.invokestatic 46, 3) := by decide +kernel
theorem dX5_reduce_47 : decode cX5_reduce 47 = .ok (.goto 4, 3) := by decide +kernel
theorem dX5_reduce_50 : decode cX5_reduce 50 = .ok (.lconst 0, 1) := by decide +kernel
theorem dX5_reduce_51 : decode cX5_reduce 51 = .ok (.invokestatic 50, 3) := by decide +kernel
theorem dX5_reduce_54 : decode cX5_reduce 54 = .ok (.aload_n 0, 1) := by decide +kernel
theorem dX5_reduce_55 : decode cX5_reduce 55 = .ok (.getfield 15, 3) := by decide +kernel
theorem dX5_reduce_58 : decode cX5_reduce 58 = .ok (.iload_n 2, 1) := by decide +kernel
theorem dX5_reduce_59 : decode cX5_reduce 59 = .ok (.iload_n 3, 1) := by decide +kernel
theorem dX5_reduce_60 : decode cX5_reduce 60 = .ok (.ifCond .eq 7, 3) := by decide +kernel
theorem dX5_reduce_63 : decode cX5_reduce 63 = .ok (.iload_n 2, 1) := by decide +kernel
theorem dX5_reduce_64 : decode cX5_reduce 64 = .ok (.goto 4, 3) := by decide +kernel
theorem dX5_reduce_67 : decode cX5_reduce 67 = .ok (.iconst (-1), 1) := by decide +kernel
theorem dX5_reduce_68 : decode cX5_reduce 68 = .ok (.invokestatic 54, 3) := by decide +kernel
theorem dX5_reduce_71 : decode cX5_reduce 71 = .ok (.iinc 2 1, 3) := by decide +kernel
theorem dX5_reduce_74 : decode cX5_reduce 74 = .ok (.goto (-59), 3) := by decide +kernel
theorem dX5_reduce_77 : decode cX5_reduce 77 = .ok (.iconst 1, 1) := by decide +kernel
theorem dX5_reduce_78 : decode cX5_reduce 78 = .ok (.istore_n 2, 1) := by decide +kernel
theorem dX5_reduce_79 : decode cX5_reduce 79 = .ok (.iconst 0, 1) := by decide +kernel
theorem dX5_reduce_80 : decode cX5_reduce 80 = .ok (.istore_n 3, 1) := by decide +kernel
theorem dX5_reduce_81 : decode cX5_reduce 81 = .ok (.iload_n 3, 1) := by decide +kernel
theorem dX5_reduce_82 : decode cX5_reduce 82 = .ok (.bipush 120, 2) := by decide +kernel
theorem dX5_reduce_84 : decode cX5_reduce 84 = .ok (.if_icmp .ge 18, 3) := by decide +kernel
theorem dX5_reduce_87 : decode cX5_reduce 87 = .ok (.iload_n 2, 1) := by decide +kernel
theorem dX5_reduce_88 : decode cX5_reduce 88 = .ok (.ifCond .eq 14, 3) := by decide +kernel
theorem dX5_reduce_91 : decode cX5_reduce 91 = .ok (.aload_n 0, 1) := by decide +kernel
theorem dX5_reduce_92 : decode cX5_reduce 92 = .ok (.invokevirtual 57, 3) := by decide +kernel
theorem dX5_reduce_95 : decode cX5_reduce 95 = .ok (.istore_n 2, 1) := by decide +kernel
theorem dX5_reduce_96 : decode cX5_reduce 96 = .ok (.iinc 3 1, 3) := by decide +kernel
theorem dX5_reduce_99 : decode cX5_reduce 99 = .ok (.goto (-18), 3) := by decide +kernel
theorem dX5_reduce_102 : decode cX5_reduce 102 = .ok (.return_, 1) := by decide +kernel
theorem mw_199 : Cond.code yX5_takeStep cX5_takeStep 3 (some Jvm.ClassFile.FieldType.boolean) ∈ GW := gw_mem (inT2 _ (List.mem_of_getElem? (i := 220) rfl)) rfl
theorem mw_200 : Cond.methodLink RX5 57 yX5_takeStep ∈ GW := gw_mem (inT2 _ (List.mem_of_getElem? (i := 217) rfl)) rfl
theorem mw_201 : Cond.instanceMethod yX5_takeStep ∈ GW := gw_mem (inT2 _ (List.mem_of_getElem? (i := 219) rfl)) rfl
theorem mw_202 : Cond.selects RX5 yX5_takeStep yX5_takeStep ∈ GW := gw_mem (inTp (q := (yX5_takeStep, 8)) (List.mem_of_getElem? (i := 12) rfl)) rfl
theorem pdv_X5_takeStep : yX5_takeStep.cls = RX5 ∧ yX5_takeStep.cls ≠ "java/lang/invoke/MethodHandle" ∧ yX5_takeStep.cls ≠ "java/lang/invoke/VarHandle" ∧ (parseMethodDescriptor yX5_takeStep.desc).map (fun d => d.parameters.length) = some 0 := by decide +kernel
set_option maxHeartbeats 4000000 in
set_option maxRecDepth 100000 in
theorem c_reduce (l : Launch) (D : va_G) (cI cJ : ClassId) (ad : Nat → Nat) (co fl ra li re wa pi : Ob) : CT l D (TY cI cJ) yX5_reduce (.code yX5_reduce cX5_reduce 4 (none : Option FieldType)) 5 0 0 (XW ad cI cJ co fl ra li re wa pi) [.ref (ad 5), .ref (ad 2)] (QV D (TY cI cJ) (fun u => u = (XW ad cI cJ co fl ra li (reduce fl re) wa pi))) := by
  refine ent (by decide) (Nat.le_of_ble_eq_true rfl) ?_
  intro p e s m below meth c ls A hx hb hr hg hown hml hlocks hnm hP hK hD hS hA hN hl
  have hl : lv_has ls 4 [(0, .ref (ad 5)), (1, .ref (ad 2))] := hl
  refine lv_aload_n hx hb dX5_reduce_0 rfl (lv_at hl 0 rfl) ?_
  refine lv_aload_n hx hb dX5_reduce_1 rfl (lv_at hl 1 rfl) ?_
  refine va_getN (D := D) (ci := 1) (v := .long (gl fl 0)) (C := RX1) (T := TX1) (N := 11) hx hb hg inGX1 hown hK hP 2 xo2 rfl 9 (by decide) (hN.use nw_32) (fun _ h9 => h9) (xvX1_9 rfl) dX5_reduce_2 ?_
  refine va_put (D := D) (ci := 5) (v := .long (gl fl 0)) (C := RX5) (T := TX5) (N := 8) hx hb hg inGX5 tyX5 tyX5_ok nmX5 hown hK hP hD hS 5 xo5 rfl 5 (by decide) (hg _ mw_178) (fun _ h9 => h9) rfl (tyX5_ok 5 (by decide)) rfl rfl (Nat.le_of_ble_eq_true rfl) dX5_reduce_5 (fun H locs hP hD hS => ?_)
  have hP : va_P D vwCl (XW ad cI cJ co fl ra li (sl re 0 (gl fl 0)) wa pi) H := cgP xpX5_5 hP
  have hD : va_D A (XW ad cI cJ co fl ra li (sl re 0 (gl fl 0)) wa pi) := cgD xpX5_5 hD
  refine lv_aload_n hx hb dX5_reduce_8 rfl (lv_at hl 0 rfl) ?_
  refine lv_iconst (v := 0) hx hb dX5_reduce_9 (by decide) ?_
  refine va_put (D := D) (ci := 5) (v := .int 0) (C := RX5) (T := TX5) (N := 8) hx hb hg inGX5 tyX5 tyX5_ok nmX5 hown hK hP hD hS 5 xo5 rfl 6 (by decide) (hg _ mw_193) (fun _ h9 => h9) rfl (tyX5_ok 6 (by decide)) rfl rfl (Nat.le_of_ble_eq_true rfl) dX5_reduce_10 (fun H locs hP hD hS => ?_)
  have hP : va_P D vwCl (XW ad cI cJ co fl ra li (si (sl re 0 (gl fl 0)) 0 0) wa pi) H := cgP xpX5_6 hP
  have hD : va_D A (XW ad cI cJ co fl ra li (si (sl re 0 (gl fl 0)) 0 0) wa pi) := cgD xpX5_6 hD
  refine lv_iconst (v := 0) hx hb dX5_reduce_13 (by decide) ?_
  refine lv_istore_n (lv' := [(2, .int 0), (0, .ref (ad 5)), (1, .ref (ad 2))]) hx hb dX5_reduce_14 rfl hl (by decide) rfl (fun ls hl => ?_)
  refine w_loop (σ := Ob) (fun (i_1 : Nat) (p_1 : Ob) (H : Heap) (locs : List Loc) (ls : Array Slot) => p_1 = (lp (reInit fl) i_1 (si (sl re 0 (gl fl 0)) 0 0)) ∧ va_P D vwCl (XW ad cI cJ co fl ra li p_1 wa pi) H ∧ va_D A (XW ad cI cJ co fl ra li p_1 wa pi) ∧ va_S A s.heap H locs ∧ lv_has ls 4 [(0, .ref (ad 5)), (1, .ref (ad 2)), (2, .int (nI i_1))]) (40) (fun p_1 H locs ls hI => ?_) (fun i_1 p_1 H locs ls hi_1 hI ih_1 => ?_) 0 (si (sl re 0 (gl fl 0)) 0 0) (Nat.zero_le _) ⟨(lp_0 _ _), hP, hD, hS, (by rw [nI_0]; exact lv_sub hl [1, 2, 0] rfl)⟩
  · obtain ⟨h_1, hP, hD, hS, hl⟩ := hI
    have h_1 := h_1.symm
    subst h_1
    have hP : va_P D vwCl (XW ad cI cJ co fl ra li ((lp (reInit fl) (40) (si (sl re 0 (gl fl 0)) 0 0))) wa pi) H := hP
    have hD : va_D A (XW ad cI cJ co fl ra li ((lp (reInit fl) (40) (si (sl re 0 (gl fl 0)) 0 0))) wa pi) := hD
    have hl : lv_has ls 4 [(0, .ref (ad 5)), (1, .ref (ad 2)), (2, .int (nI 40))] := hl
    refine lv_iload_n hx hb dX5_reduce_15 rfl (lv_at hl 2 rfl) ?_
    refine lv_bipush (v := 40) hx hb dX5_reduce_16 (by decide) ?_
    refine lv_icmp_ge (tgt := 77) hx hb dX5_reduce_18 (by decide) (fun _ => ?_) (fun c_18 => absurd (by decide) c_18)
    refine lv_iconst (v := 1) hx hb dX5_reduce_77 (by decide) ?_
    refine lv_istore_n (lv' := [(2, .int 1), (0, .ref (ad 5)), (1, .ref (ad 2))]) hx hb dX5_reduce_78 rfl hl (by decide) rfl (fun ls hl => ?_)
    refine lv_iconst (v := 0) hx hb dX5_reduce_79 (by decide) ?_
    refine lv_istore_n (lv' := [(3, .int 0), (2, .int 1), (0, .ref (ad 5)), (1, .ref (ad 2))]) hx hb dX5_reduce_80 rfl hl (by decide) rfl (fun ls hl => ?_)
    refine w_loop (σ := Ob × Bool) (fun (i_2 : Nat) (p_2 : Ob × Bool) (H : Heap) (locs : List Loc) (ls : Array Slot) => p_2 = (lpW (fun p : Ob × Bool => p.2) (fun p : Ob × Bool => takeStep p.1) i_2 (((lp (reInit fl) (40) (si (sl re 0 (gl fl 0)) 0 0))), true)) ∧ va_P D vwCl (XW ad cI cJ co fl ra li p_2.1 wa pi) H ∧ va_D A (XW ad cI cJ co fl ra li p_2.1 wa pi) ∧ va_S A s.heap H locs ∧ lv_has ls 4 [(0, .ref (ad 5)), (1, .ref (ad 2)), (2, .int (b2i p_2.2)), (3, .int (nI i_2))]) (120) (fun p_2 H locs ls hI => ?_) (fun i_2 p_2 H locs ls hi_2 hI ih_2 => ?_) 0 (((lp (reInit fl) (40) (si (sl re 0 (gl fl 0)) 0 0))), true) (Nat.zero_le _) ⟨(lpW_0 _ _ _), hP, hD, hS, (by rw [nI_0]; exact lv_sub hl [2, 3, 1, 0] rfl)⟩
    · obtain ⟨h_2, hP, hD, hS, hl⟩ := hI
      have h_2 := h_2.symm
      subst h_2
      have hP : va_P D vwCl (XW ad cI cJ co fl ra li ((lpW (fun p : Ob × Bool => p.2) (fun p : Ob × Bool => takeStep p.1) (120) (((lp (reInit fl) (40) (si (sl re 0 (gl fl 0)) 0 0))), true)).1) wa pi) H := hP
      have hD : va_D A (XW ad cI cJ co fl ra li ((lpW (fun p : Ob × Bool => p.2) (fun p : Ob × Bool => takeStep p.1) (120) (((lp (reInit fl) (40) (si (sl re 0 (gl fl 0)) 0 0))), true)).1) wa pi) := hD
      have hl : lv_has ls 4 [(0, .ref (ad 5)), (1, .ref (ad 2)), (2, .int (b2i (lpW (fun p : Ob × Bool => p.2) (fun p : Ob × Bool => takeStep p.1) (120) (((lp (reInit fl) (40) (si (sl re 0 (gl fl 0)) 0 0))), true)).2)), (3, .int (nI 120))] := hl
      refine lv_iload_n hx hb dX5_reduce_81 rfl (lv_at hl 3 rfl) ?_
      refine lv_bipush (v := 120) hx hb dX5_reduce_82 (by decide) ?_
      refine lv_icmp_ge (tgt := 102) hx hb dX5_reduce_84 (by decide) (fun _ => ?_) (fun c_84 => absurd (by decide) c_84)
      exact W.vret hx hb hr (fun t ht hW => ⟨⟨(XW ad cI cJ co fl ra li ((lpW (fun p : Ob × Bool => p.2) (fun p : Ob × Bool => takeStep p.1) (120) (((lp (reInit fl) (40) (si (sl re 0 (gl fl 0)) 0 0))), true)).1) wa pi), rfl, xw_eq rfl rfl rfl rfl (show ((lpW (fun p : Ob × Bool => p.2) (fun p : Ob × Bool => takeStep p.1) (120) (((lp (reInit fl) (40) (si (sl re 0 (gl fl 0)) 0 0))), true)).1) = (reduce fl re) from (by first | with_reducible rfl | (simp only [reduce, gi_sl, gi_sA, gi_sB, gi_si_s, gi_si_n, gl_si, gl_sA, gl_sB, gl_sl_s, gl_sl_n, gA_si, gA_sl, gA_sB, gA_sA_s, gA_sA_n, gB_si, gB_sl, gB_sA, gB_sB_s, gB_sB_n, Nat.reduceBEq, if_true, if_false, eq_self, Bool.false_eq_true, Bool.true_eq_false, not_true_eq_false, not_false_eq_true, decide_true, decide_false, cond_true, cond_false, Bool.true_and, Bool.false_and, Bool.and_true, Bool.and_false, Bool.true_or, Bool.false_or, Bool.or_true, Bool.or_false, b2i_tt, b2i_ff, pr_eta]; done))) rfl rfl, ⟨by rw [ht]; exact hP, va_K.moved hW.alike hK, hD⟩⟩, hS.F ht⟩) hS.2.2 dX5_reduce_102
    · obtain ⟨h_2, hP, hD, hS, hl⟩ := hI
      have hP : va_P D vwCl (XW ad cI cJ co fl ra li p_2.1 wa pi) H := hP
      have hD : va_D A (XW ad cI cJ co fl ra li p_2.1 wa pi) := hD
      have hl : lv_has ls 4 [(0, .ref (ad 5)), (1, .ref (ad 2)), (2, .int (b2i p_2.2)), (3, .int (nI i_2))] := hl
      refine lv_iload_n hx hb dX5_reduce_81 rfl (lv_at hl 3 rfl) ?_
      refine lv_bipush (v := 120) hx hb dX5_reduce_82 (by decide) ?_
      refine lv_icmp_ge (tgt := 102) hx hb dX5_reduce_84 (by decide) (fun c_84 => absurd c_84 (nI_ge hi_2 (by decide))) (fun _ => ?_)
      refine lv_iload_n hx hb dX5_reduce_87 rfl (lv_at hl 2 rfl) ?_
      refine lv_if_eq (tgt := 102) hx hb dX5_reduce_88 (by decide) (fun c_88 => ?_) (fun c_88 => ?_)
      · have c_88 : ¬ p_2.2 = true := b2i_0 c_88
        have h_2 : p_2 = (lpW (fun p : Ob × Bool => p.2) (fun p : Ob × Bool => takeStep p.1) (120) (((lp (reInit fl) (40) (si (sl re 0 (gl fl 0)) 0 0))), true)) := lpW_stop h_2 (by simp only [bf_of c_88, gi_sl, gi_sA, gi_sB, gi_si_s, gi_si_n, gl_si, gl_sA, gl_sB, gl_sl_s, gl_sl_n, gA_si, gA_sl, gA_sB, gA_sA_s, gA_sA_n, gB_si, gB_sl, gB_sA, gB_sB_s, gB_sB_n, Nat.reduceBEq, if_true, if_false, eq_self, Bool.false_eq_true, Bool.true_eq_false, not_true_eq_false, not_false_eq_true, decide_true, decide_false, cond_true, cond_false, Bool.true_and, Bool.false_and, Bool.and_true, Bool.and_false, Bool.true_or, Bool.false_or, Bool.or_true, Bool.or_false, b2i_tt, b2i_ff, pr_eta]; done) (Nat.le_of_lt hi_2)
        have h_2 := h_2.symm
        subst h_2
        have hP : va_P D vwCl (XW ad cI cJ co fl ra li ((lpW (fun p : Ob × Bool => p.2) (fun p : Ob × Bool => takeStep p.1) (120) (((lp (reInit fl) (40) (si (sl re 0 (gl fl 0)) 0 0))), true)).1) wa pi) H := hP
        have hD : va_D A (XW ad cI cJ co fl ra li ((lpW (fun p : Ob × Bool => p.2) (fun p : Ob × Bool => takeStep p.1) (120) (((lp (reInit fl) (40) (si (sl re 0 (gl fl 0)) 0 0))), true)).1) wa pi) := hD
        have hl : lv_has ls 4 [(0, .ref (ad 5)), (1, .ref (ad 2)), (2, .int (b2i (lpW (fun p : Ob × Bool => p.2) (fun p : Ob × Bool => takeStep p.1) (120) (((lp (reInit fl) (40) (si (sl re 0 (gl fl 0)) 0 0))), true)).2)), (3, .int (nI i_2))] := hl
        exact W.vret hx hb hr (fun t ht hW => ⟨⟨(XW ad cI cJ co fl ra li ((lpW (fun p : Ob × Bool => p.2) (fun p : Ob × Bool => takeStep p.1) (120) (((lp (reInit fl) (40) (si (sl re 0 (gl fl 0)) 0 0))), true)).1) wa pi), rfl, xw_eq rfl rfl rfl rfl (show ((lpW (fun p : Ob × Bool => p.2) (fun p : Ob × Bool => takeStep p.1) (120) (((lp (reInit fl) (40) (si (sl re 0 (gl fl 0)) 0 0))), true)).1) = (reduce fl re) from (by simp only [reduce, bf_of c_88, gi_sl, gi_sA, gi_sB, gi_si_s, gi_si_n, gl_si, gl_sA, gl_sB, gl_sl_s, gl_sl_n, gA_si, gA_sl, gA_sB, gA_sA_s, gA_sA_n, gB_si, gB_sl, gB_sA, gB_sB_s, gB_sB_n, Nat.reduceBEq, if_true, if_false, eq_self, Bool.false_eq_true, Bool.true_eq_false, not_true_eq_false, not_false_eq_true, decide_true, decide_false, cond_true, cond_false, Bool.true_and, Bool.false_and, Bool.and_true, Bool.and_false, Bool.true_or, Bool.false_or, Bool.or_true, Bool.or_false, b2i_tt, b2i_ff, pr_eta]; done)) rfl rfl, ⟨by rw [ht]; exact hP, va_K.moved hW.alike hK, hD⟩⟩, hS.F ht⟩) hS.2.2 dX5_reduce_102
      · have c_88 : p_2.2 = true := b2i_1 c_88
        refine lv_aload_n hx hb dX5_reduce_91 rfl (lv_at hl 0 rfl) ?_
        refine kI (rV (q0 := 5) (ci := 5) hx hb hml hown hg hN hK hP hD (c_takeStep l D cI cJ ad co fl ra li p_2.1 wa pi) mw_199 mw_200 mw_201 mw_202 mw_173 pdv_X5_takeStep ⟨Nat.le_of_ble_eq_true rfl, Nat.le_of_ble_eq_true rfl⟩ rfl xo5 rfl hl.1 rfl (Nat.le_of_ble_eq_true rfl) dX5_reduce_92 ⟨Nat.le_of_ble_eq_true rfl, Nat.le_of_ble_eq_true rfl⟩) hD hS hA (fun r_3 u_3 H locs hp hP hD hS => ?_)
        obtain ⟨er, eu⟩ := hp
        obtain rfl := er.symm
        obtain rfl := eu.symm
        have hP : va_P D vwCl (XW ad cI cJ co fl ra li (takeStep p_2.1).1 wa pi) H := hP
        have hD : va_D A (XW ad cI cJ co fl ra li (takeStep p_2.1).1 wa pi) := hD
        refine lv_istore_n (lv' := [(2, .int (b2i (takeStep p_2.1).2)), (0, .ref (ad 5)), (1, .ref (ad 2)), (3, .int (nI i_2))]) hx hb dX5_reduce_95 rfl hl (by decide) rfl (fun ls hl => ?_)
        refine lv_iinc (v := (nI (i_2 + 1))) (lv' := [(3, .int (nI (i_2 + 1))), (2, .int (b2i (takeStep p_2.1).2)), (0, .ref (ad 5)), (1, .ref (ad 2))]) hx hb dX5_reduce_96 hl (k := 3) rfl (nI_1 i_2) (by decide) rfl (fun ls hl => ?_)
        refine lv_goto (tgt := 81) hx hb dX5_reduce_99 (by decide) ?_
        have h9 := lpW_go h_2 (by simp only [c_88, gi_sl, gi_sA, gi_sB, gi_si_s, gi_si_n, gl_si, gl_sA, gl_sB, gl_sl_s, gl_sl_n, gA_si, gA_sl, gA_sB, gA_sA_s, gA_sA_n, gB_si, gB_sl, gB_sA, gB_sB_s, gB_sB_n, Nat.reduceBEq, if_true, if_false, eq_self, Bool.false_eq_true, Bool.true_eq_false, not_true_eq_false, not_false_eq_true, decide_true, decide_false, cond_true, cond_false, Bool.true_and, Bool.false_and, Bool.and_true, Bool.and_false, Bool.true_or, Bool.false_or, Bool.or_true, Bool.or_false, b2i_tt, b2i_ff, pr_eta]; done)
        exact ih_2 (takeStep p_2.1) H locs ls ⟨h9, hP, hD, hS, lv_sub hl [2, 3, 1, 0] rfl⟩
  · obtain ⟨h_1, hP, hD, hS, hl⟩ := hI
    have hP : va_P D vwCl (XW ad cI cJ co fl ra li p_1 wa pi) H := hP
    have hD : va_D A (XW ad cI cJ co fl ra li p_1 wa pi) := hD
    have hl : lv_has ls 4 [(0, .ref (ad 5)), (1, .ref (ad 2)), (2, .int (nI i_1))] := hl
    refine lv_iload_n hx hb dX5_reduce_15 rfl (lv_at hl 2 rfl) ?_
    refine lv_bipush (v := 40) hx hb dX5_reduce_16 (by decide) ?_
    refine lv_icmp_ge (tgt := 77) hx hb dX5_reduce_18 (by decide) (fun c_18 => absurd c_18 (nI_ge hi_1 (by decide))) (fun _ => ?_)
    refine lv_aload_n hx hb dX5_reduce_21 rfl (lv_at hl 0 rfl) ?_
    refine va_get (D := D) (ci := 5) (v := .long (gl p_1 0)) (C := RX5) (T := TX5) (N := 8) hx hb hg inGX5 hown hK hP 5 xo5 rfl 5 (by decide) (hg _ mw_178) (fun _ h9 => h9) (xvX5_5 rfl) dX5_reduce_22 ?_
    refine lv_iload_n hx hb dX5_reduce_25 rfl (lv_at hl 2 rfl) ?_
    refine kI (rSN hx hb hml hown hg hN hK hP hD (c_has l D cI cJ (XW ad cI cJ co fl ra li p_1 wa pi) (gl p_1 0) (nI i_1)) mw_89 nw_83 mw_90 mw_77 pd_X7_has ⟨Nat.le_of_ble_eq_true rfl, Nat.le_of_ble_eq_true rfl⟩ rfl hl.1 rfl (Nat.le_of_ble_eq_true rfl) dX5_reduce_26 ⟨Nat.le_of_ble_eq_true rfl, Nat.le_of_ble_eq_true rfl⟩) hD hS hA (fun r_4 u_4 H locs hp hP hD hS => ?_)
    obtain ⟨er, eu⟩ := hp
    obtain rfl := er.symm
    obtain rfl := eu.symm
    refine lv_istore_n (lv' := [(3, .int (b2i (hs (gl p_1 0) (nI i_1)))), (0, .ref (ad 5)), (1, .ref (ad 2)), (2, .int (nI i_1))]) hx hb dX5_reduce_29 rfl hl (by decide) rfl (fun ls hl => ?_)
    refine lv_aload_n hx hb dX5_reduce_30 rfl (lv_at hl 1 rfl) ?_
    refine va_get (D := D) (ci := 5) (v := .ref (ad 24)) (C := RX5) (T := TX5) (N := 8) hx hb hg inGX5 hown hK hP 5 xo5 rfl 0 (by decide) (hg _ mw_166) (fun _ h9 => h9) xvX5_0 dX5_reduce_31 ?_
    refine lv_iload_n hx hb dX5_reduce_34 rfl (lv_at hl 3 rfl) ?_
    refine lv_iload_n hx hb dX5_reduce_35 rfl (lv_at hl 0 rfl) ?_
    refine lv_if_eq (tgt := 50) hx hb dX5_reduce_36 (by decide) (fun c_36 => ?_) (fun c_36 => ?_)
    · have c_36 : ¬ (hs (gl p_1 0) (nI i_1)) = true := b2i_0 c_36
      refine lv_lconst (v := 0) hx hb dX5_reduce_50 (by decide) ?_
      refine kV (rSN hx hb hml hown hg hN hK hP hD (c_putL l D cI cJ (XW ad cI cJ co fl ra li p_1 wa pi) 24 (ad 24) 40 (gB p_1 0) (nI i_1) 0 (xg24 rfl) (by decide)) mw_97 nw_85 mw_98 mw_77 pd_X7_put_ ⟨Nat.le_of_ble_eq_true rfl, Nat.le_of_ble_eq_true rfl⟩ rfl hl.1 rfl (Nat.le_of_ble_eq_true rfl) dX5_reduce_51 ⟨Nat.le_of_ble_eq_true rfl, Nat.le_of_ble_eq_true rfl⟩) hD hS hA (fun u_5 H locs hp hP hD hS => ?_)
      obtain rfl := hp.symm
      have hP : va_P D vwCl (XW ad cI cJ co fl ra li (sB p_1 0 (wrL (gB p_1 0) 40 (nI i_1) 0)) wa pi) H := cgP xs24 hP
      have hD : va_D A (XW ad cI cJ co fl ra li (sB p_1 0 (wrL (gB p_1 0) 40 (nI i_1) 0)) wa pi) := cgD xs24 hD
      refine lv_aload_n hx hb dX5_reduce_54 rfl (lv_at hl 1 rfl) ?_
      refine va_get (D := D) (ci := 5) (v := .ref (ad 25)) (C := RX5) (T := TX5) (N := 8) hx hb hg inGX5 hown hK hP 5 xo5 rfl 1 (by decide) (hg _ mw_179) (fun _ h9 => h9) xvX5_1 dX5_reduce_55 ?_
      refine lv_iload_n hx hb dX5_reduce_58 rfl (lv_at hl 3 rfl) ?_
      refine lv_iload_n hx hb dX5_reduce_59 rfl (lv_at hl 0 rfl) ?_
      refine lv_if_eq (tgt := 67) hx hb dX5_reduce_60 (by decide) (fun _ => ?_) (fun c_60 => absurd (b2i_f c_36) c_60)
      refine lv_iconst (v := (-1)) hx hb dX5_reduce_67 (by decide) ?_
      refine kV (rSN hx hb hml hown hg hN hK hP hD (c_put l D cI cJ (XW ad cI cJ co fl ra li (sB p_1 0 (wrL (gB p_1 0) 40 (nI i_1) 0)) wa pi) 25 (ad 25) 40 (gA p_1 0) (nI i_1) (-1) (xg25 (by simp only [gi_sl, gi_sA, gi_sB, gi_si_s, gi_si_n, gl_si, gl_sA, gl_sB, gl_sl_s, gl_sl_n, gA_si, gA_sl, gA_sB, gA_sA_s, gA_sA_n, gB_si, gB_sl, gB_sA, gB_sB_s, gB_sB_n, Nat.reduceBEq])) (by decide)) mw_92 nw_86 mw_93 mw_77 pd_X7_put ⟨Nat.le_of_ble_eq_true rfl, Nat.le_of_ble_eq_true rfl⟩ rfl hl.1 rfl (Nat.le_of_ble_eq_true rfl) dX5_reduce_68 ⟨Nat.le_of_ble_eq_true rfl, Nat.le_of_ble_eq_true rfl⟩) hD hS hA (fun u_6 H locs hp hP hD hS => ?_)
      obtain rfl := hp.symm
      have hP : va_P D vwCl (XW ad cI cJ co fl ra li (sA (sB p_1 0 (wrL (gB p_1 0) 40 (nI i_1) 0)) 0 (wr (gA p_1 0) 40 (nI i_1) (-1))) wa pi) H := cgP xs25 hP
      have hD : va_D A (XW ad cI cJ co fl ra li (sA (sB p_1 0 (wrL (gB p_1 0) 40 (nI i_1) 0)) 0 (wr (gA p_1 0) 40 (nI i_1) (-1))) wa pi) := cgD xs25 hD
      refine lv_iinc (v := (nI (i_1 + 1))) (lv' := [(2, .int (nI (i_1 + 1))), (3, .int (b2i (hs (gl p_1 0) (nI i_1)))), (0, .ref (ad 5)), (1, .ref (ad 2))]) hx hb dX5_reduce_71 hl (k := 3) rfl (nI_1 i_1) (by decide) rfl (fun ls hl => ?_)
      refine lv_goto (tgt := 15) hx hb dX5_reduce_74 (by decide) ?_
      exact ih_1 (sA (sB p_1 0 (wrL (gB p_1 0) 40 (nI i_1) 0)) 0 (wr (gA p_1 0) 40 (nI i_1) (-1))) H locs ls ⟨((show (sA (sB p_1 0 (wrL (gB p_1 0) 40 (nI i_1) 0)) 0 (wr (gA p_1 0) 40 (nI i_1) (-1))) = (reInit fl) i_1 p_1 from (by simp only [reInit, bf_of c_36, gi_sl, gi_sA, gi_sB, gi_si_s, gi_si_n, gl_si, gl_sA, gl_sB, gl_sl_s, gl_sl_n, gA_si, gA_sl, gA_sB, gA_sA_s, gA_sA_n, gB_si, gB_sl, gB_sA, gB_sB_s, gB_sB_n, Nat.reduceBEq, if_true, if_false, eq_self, Bool.false_eq_true, Bool.true_eq_false, not_true_eq_false, not_false_eq_true, decide_true, decide_false, cond_true, cond_false, Bool.true_and, Bool.false_and, Bool.and_true, Bool.and_false, Bool.true_or, Bool.false_or, Bool.or_true, Bool.or_false, b2i_tt, b2i_ff, pr_eta]; done)).trans (lp_go h_1)), hP, hD, hS, lv_sub hl [2, 3, 0] rfl⟩
    · have c_36 : (hs (gl p_1 0) (nI i_1)) = true := b2i_1 c_36
      refine lv_aload_n hx hb dX5_reduce_39 rfl (lv_at hl 2 rfl) ?_
      refine va_getN (D := D) (ci := 1) (v := .ref (ad 18)) (C := RX1) (T := TX1) (N := 11) hx hb hg inGX1 hown hK hP 2 xo2 rfl 6 (by decide) (hN.use nw_22) (fun _ h9 => h9) xvX1_6 dX5_reduce_40 ?_
      refine lv_iload_n hx hb dX5_reduce_43 rfl (lv_at hl 3 rfl) ?_
      refine kL (rSN hx hb hml hown hg hN hK hP hD (c_atL l D cI cJ (XW ad cI cJ co fl ra li p_1 wa pi) 18 (ad 18) 40 (gB fl 0) (nI i_1) (xg18 rfl) (by decide)) mw_81 nw_84 mw_83 mw_77 pd_X7_at_ ⟨Nat.le_of_ble_eq_true rfl, Nat.le_of_ble_eq_true rfl⟩ rfl hl.1 rfl (Nat.le_of_ble_eq_true rfl) dX5_reduce_44 ⟨Nat.le_of_ble_eq_true rfl, Nat.le_of_ble_eq_true rfl⟩) hD hS hA (fun r_7 u_7 H locs hp hP hD hS => ?_)
      obtain ⟨er, eu⟩ := hp
      obtain rfl := er.symm
      obtain rfl := eu.symm
      refine lv_goto (tgt := 51) hx hb dX5_reduce_47 (by decide) ?_
      refine kV (rSN hx hb hml hown hg hN hK hP hD (c_putL l D cI cJ (XW ad cI cJ co fl ra li p_1 wa pi) 24 (ad 24) 40 (gB p_1 0) (nI i_1) (rdL (gB fl 0) 40 (nI i_1)) (xg24 rfl) (by decide)) mw_97 nw_85 mw_98 mw_77 pd_X7_put_ ⟨Nat.le_of_ble_eq_true rfl, Nat.le_of_ble_eq_true rfl⟩ rfl hl.1 rfl (Nat.le_of_ble_eq_true rfl) dX5_reduce_51 ⟨Nat.le_of_ble_eq_true rfl, Nat.le_of_ble_eq_true rfl⟩) hD hS hA (fun u_8 H locs hp hP hD hS => ?_)
      obtain rfl := hp.symm
      have hP : va_P D vwCl (XW ad cI cJ co fl ra li (sB p_1 0 (wrL (gB p_1 0) 40 (nI i_1) (rdL (gB fl 0) 40 (nI i_1)))) wa pi) H := cgP xs24 hP
      have hD : va_D A (XW ad cI cJ co fl ra li (sB p_1 0 (wrL (gB p_1 0) 40 (nI i_1) (rdL (gB fl 0) 40 (nI i_1)))) wa pi) := cgD xs24 hD
      refine lv_aload_n hx hb dX5_reduce_54 rfl (lv_at hl 1 rfl) ?_
      refine va_get (D := D) (ci := 5) (v := .ref (ad 25)) (C := RX5) (T := TX5) (N := 8) hx hb hg inGX5 hown hK hP 5 xo5 rfl 1 (by decide) (hg _ mw_179) (fun _ h9 => h9) xvX5_1 dX5_reduce_55 ?_
      refine lv_iload_n hx hb dX5_reduce_58 rfl (lv_at hl 3 rfl) ?_
      refine lv_iload_n hx hb dX5_reduce_59 rfl (lv_at hl 0 rfl) ?_
      refine lv_if_eq (tgt := 67) hx hb dX5_reduce_60 (by decide) (fun c_60 => absurd c_60 (b2i_t c_36)) (fun _ => ?_)
      refine lv_iload_n hx hb dX5_reduce_63 rfl (lv_at hl 3 rfl) ?_
      refine lv_goto (tgt := 68) hx hb dX5_reduce_64 (by decide) ?_
      refine kV (rSN hx hb hml hown hg hN hK hP hD (c_put l D cI cJ (XW ad cI cJ co fl ra li (sB p_1 0 (wrL (gB p_1 0) 40 (nI i_1) (rdL (gB fl 0) 40 (nI i_1)))) wa pi) 25 (ad 25) 40 (gA p_1 0) (nI i_1) (nI i_1) (xg25 (by simp only [gi_sl, gi_sA, gi_sB, gi_si_s, gi_si_n, gl_si, gl_sA, gl_sB, gl_sl_s, gl_sl_n, gA_si, gA_sl, gA_sB, gA_sA_s, gA_sA_n, gB_si, gB_sl, gB_sA, gB_sB_s, gB_sB_n, Nat.reduceBEq])) (by decide)) mw_92 nw_86 mw_93 mw_77 pd_X7_put ⟨Nat.le_of_ble_eq_true rfl, Nat.le_of_ble_eq_true rfl⟩ rfl hl.1 rfl (Nat.le_of_ble_eq_true rfl) dX5_reduce_68 ⟨Nat.le_of_ble_eq_true rfl, Nat.le_of_ble_eq_true rfl⟩) hD hS hA (fun u_9 H locs hp hP hD hS => ?_)
      obtain rfl := hp.symm
      have hP : va_P D vwCl (XW ad cI cJ co fl ra li (sA (sB p_1 0 (wrL (gB p_1 0) 40 (nI i_1) (rdL (gB fl 0) 40 (nI i_1)))) 0 (wr (gA p_1 0) 40 (nI i_1) (nI i_1))) wa pi) H := cgP xs25 hP
      have hD : va_D A (XW ad cI cJ co fl ra li (sA (sB p_1 0 (wrL (gB p_1 0) 40 (nI i_1) (rdL (gB fl 0) 40 (nI i_1)))) 0 (wr (gA p_1 0) 40 (nI i_1) (nI i_1))) wa pi) := cgD xs25 hD
      refine lv_iinc (v := (nI (i_1 + 1))) (lv' := [(2, .int (nI (i_1 + 1))), (3, .int (b2i (hs (gl p_1 0) (nI i_1)))), (0, .ref (ad 5)), (1, .ref (ad 2))]) hx hb dX5_reduce_71 hl (k := 3) rfl (nI_1 i_1) (by decide) rfl (fun ls hl => ?_)
      refine lv_goto (tgt := 15) hx hb dX5_reduce_74 (by decide) ?_
      exact ih_1 (sA (sB p_1 0 (wrL (gB p_1 0) 40 (nI i_1) (rdL (gB fl 0) 40 (nI i_1)))) 0 (wr (gA p_1 0) 40 (nI i_1) (nI i_1))) H locs ls ⟨((show (sA (sB p_1 0 (wrL (gB p_1 0) 40 (nI i_1) (rdL (gB fl 0) 40 (nI i_1)))) 0 (wr (gA p_1 0) 40 (nI i_1) (nI i_1))) = (reInit fl) i_1 p_1 from (by simp only [reInit, c_36, gi_sl, gi_sA, gi_sB, gi_si_s, gi_si_n, gl_si, gl_sA, gl_sB, gl_sl_s, gl_sl_n, gA_si, gA_sl, gA_sB, gA_sA_s, gA_sA_n, gB_si, gB_sl, gB_sA, gB_sB_s, gB_sB_n, Nat.reduceBEq, if_true, if_false, eq_self, Bool.false_eq_true, Bool.true_eq_false, not_true_eq_false, not_false_eq_true, decide_true, decide_false, cond_true, cond_false, Bool.true_and, Bool.false_and, Bool.and_true, Bool.and_false, Bool.true_or, Bool.false_or, Bool.or_true, Bool.or_false, b2i_tt, b2i_ff, pr_eta]; done)).trans (lp_go h_1)), hP, hD, hS, lv_sub hl [2, 3, 0] rfl⟩
