theorem dX6_goThrough_0 : decode cX6_goThrough 0 = .ok (.aload_n 0, 1) := by decide +kernel
theorem dX6_goThrough_1 : decode cX6_goThrough 1 = .ok (.iconst 0, 1) := by decide +kernel
theorem dX6_goThrough_2 : decode cX6_goThrough 2 = .ok (.putfield 27, 3) := by decide +kernel
theorem dX6_goThrough_5 : decode cX6_goThrough 5 = .ok (.aload_n 0, 1) := by decide +kernel
theorem dX6_goThrough_6 : decode cX6_goThrough 6 = .ok (.iconst 0, 1) := by decide +kernel
theorem dX6_goThrough_7 : decode cX6_goThrough 7 = .ok (.putfield 31, 3) := by decide +kernel
theorem dX6_goThrough_10 : decode cX6_goThrough 10 = .ok (.aload_n 0, 1) := by decide +kernel
theorem dX6_goThrough_11 : decode cX6_goThrough 11 = .ok (.lconst 0, 1) := by decide +kernel
theorem dX6_goThrough_12 : decode cX6_goThrough 12 = .ok (.putfield 34, 3) := by decide +kernel
theorem dX6_goThrough_15 : decode cX6_goThrough 15 = .ok (.aload_n 0, 1) := by decide +kernel
theorem dX6_goThrough_16 : decode cX6_goThrough 16 = .ok (.lconst 0, 1) := by decide +kernel
theorem dX6_goThrough_17 : decode cX6_goThrough 17 = .ok (.putfield 38, 3) := by decide +kernel
theorem dX6_goThrough_20 : decode cX6_goThrough 20 = .ok (.iconst 0, 1) := by decide +kernel
theorem dX6_goThrough_21 : decode cX6_goThrough 21 = .ok (.istore_n 2, 1) := by decide +kernel
theorem dX6_goThrough_22 : decode cX6_goThrough 22 = .ok (.iload_n 2, 1) := by decide +kernel
theorem dX6_goThrough_23 : decode cX6_goThrough 23 = .ok (.bipush 80, 2) := by decide +kernel
theorem dX6_goThrough_25 : decode cX6_goThrough 25 = .ok (.if_icmp .ge 27, 3) := by decide +kernel
theorem dX6_goThrough_28 : decode cX6_goThrough 28 = .ok (.aload_n 0, 1) := by decide +kernel
theorem dX6_goThrough_29 : decode cX6_goThrough 29 = .ok (.getfield 15, 3) := by decide +kernel
theorem dX6_goThrough_32 : decode cX6_goThrough 32 = .ok (.iload_n 2, 1) := by decide +kernel
theorem dX6_goThrough_33 : decode cX6_goThrough 33 = .ok (.iconst (-1), 1) := by decide +kernel
theorem dX6_goThrough_34 : decode cX6_goThrough 34 = .ok (.invokestatic 41, 3) := by decide +kernel
theorem dX6_goThrough_37 : decode cX6_goThrough 37 = .ok (.aload_n 0, 1) := by decide +kernel
theorem dX6_goThrough_38 : decode cX6_goThrough 38 = .ok (.getfield 18, 3) := by decide +kernel
theorem dX6_goThrough_41 : decode cX6_goThrough 41 = .ok (.iload_n 2, 1) := by decide +kernel
theorem dX6_goThrough_42 : decode cX6_goThrough 42 = .ok (.iconst (-1), 1) := by decide +kernel
theorem dX6_goThrough_43 : decode cX6_goThrough 43 = .ok (.invokestatic 41, 3) := by decide +kernel
theorem dX6_goThrough_46 : decode cX6_goThrough 46 = .ok (.iinc 2 1, 3) := by decide +kernel
theorem dX6_goThrough_49 : decode cX6_goThrough 49 = .ok (.goto (-27), 3) := by decide +kernel
theorem dX6_goThrough_52 : decode cX6_goThrough 52 = .ok (.aload_n 1, 1) := by decide +kernel
theorem dX6_goThrough_53 : decode cX6_goThrough 53 = .ok (.getfield 45, 3) := by decide +kernel
theorem dX6_goThrough_56 : decode cX6_goThrough 56 = .ok (.ifCond .le 9, 3) := by decide +kernel
theorem dX6_goThrough_59 : decode cX6_goThrough 59 = .ok (.aload_n 0, 1) := by decide +kernel
theorem dX6_goThrough_60 : decode cX6_goThrough 60 = .ok (.aload_n 1, 1) := by decide +kernel
theorem dX6_goThrough_61 : decode cX6_goThrough 61 = .ok (.iconst 0, 1) := by decide +kernel
theorem dX6_goThrough_62 : decode cX6_goThrough 62 = .ok (.invokevirtual 50, 3) := by decide +kernel
theorem dX6_goThrough_65 : decode cX6_goThrough 65 = .ok (.iconst 0, 1) := by decide +kernel
theorem dX6_goThrough_66 : decode cX6_goThrough 66 = .ok (.istore_n 2, 1) := by decide +kernel
theorem dX6_goThrough_67 : decode cX6_goThrough 67 = .ok (.iload_n 2, 1) := by decide +kernel
theorem dX6_goThrough_68 : decode cX6_goThrough 68 = .ok (.bipush 120, 2) := by decide +kernel
theorem dX6_goThrough_70 : decode cX6_goThrough 70 = .ok (.if_icmp .ge 34, 3) := by decide +kernel
theorem dX6_goThrough_73 : decode cX6_goThrough 73 = .ok (.aload_n 0, 1) := by decide +kernel
theorem dX6_goThrough_74 : decode cX6_goThrough 74 = .ok (.getfield 31, 3) := by decide +kernel
theorem dX6_goThrough_77 : decode cX6_goThrough 77 = .ok (.ifCond .le 27, 3) := by decide +kernel
theorem dX6_goThrough_80 : decode cX6_goThrough 80 = .ok (.aload_n 0, 1) := by decide +kernel
theorem dX6_goThrough_81 : decode cX6_goThrough 81 = .ok (.aload_n 1, 1) := by decide +kernel
theorem dX6_goThrough_82 : decode cX6_goThrough 82 = .ok (.aload_n 0, 1) := by decide +kernel
theorem dX6_goThrough_83 : decode cX6_goThrough 83 = .ok (.getfield 21, 3) := by decide +kernel
theorem dX6_goThrough_86 : decode cX6_goThrough 86 = .ok (.aload_n 0, 1) := by decide +kernel
theorem dX6_goThrough_87 : decode cX6_goThrough 87 = .ok (.getfield 31, 3) := by decide +kernel
theorem dX6_goThrough_90 : decode cX6_goThrough 90 = .ok (.iconst 1, 1) := by decide +kernel
theorem dX6_goThrough_91 : decode cX6_goThrough 91 = .ok (.isub, 1) := by decide +kernel
theorem dX6_goThrough_92 : decode cX6_goThrough 92 = .ok (.invokestatic 54, 3) := by decide +kernel
theorem dX6_goThrough_95 : decode cX6_goThrough 95 = .ok (.invokevirtual 58, 3) := by decide +kernel
theorem dX6_goThrough_98 : decode cX6_goThrough 98 = .ok (.iinc 2 1, 3) := by decide +kernel
theorem dX6_goThrough_101 : decode cX6_goThrough 101 = .ok (.goto (-34), 3) := by decide +kernel
theorem dX6_goThrough_104 : decode cX6_goThrough 104 = .ok (.return_, 1) := by decide +kernel
theorem mw_222 : Cond.code yX6_goOn cX6_goOn 6 (none : Option FieldType) ∈ GW := gw_mem (inT3 _ (List.mem_of_getElem? (i := 32) rfl)) rfl
theorem mw_223 : Cond.methodLink RX6 58 yX6_goOn ∈ GW := gw_mem (inT3 _ (List.mem_of_getElem? (i := 29) rfl)) rfl
theorem mw_224 : Cond.instanceMethod yX6_goOn ∈ GW := gw_mem (inT3 _ (List.mem_of_getElem? (i := 31) rfl)) rfl
theorem mw_225 : Cond.selects RX6 yX6_goOn yX6_goOn ∈ GW := gw_mem (inTp (q := (yX6_goOn, 9)) (List.mem_of_getElem? (i := 21) rfl)) rfl
theorem pdv_X6_goOn : yX6_goOn.cls = RX6 ∧ yX6_goOn.cls ≠ "java/lang/invoke/MethodHandle" ∧ yX6_goOn.cls ≠ "java/lang/invoke/VarHandle" ∧ (parseMethodDescriptor yX6_goOn.desc).map (fun d => d.parameters.length) = some 2 := by decide +kernel
set_option maxHeartbeats 4000000 in
set_option maxRecDepth 100000 in
theorem c_goThrough (l : Launch) (D : va_G) (cI cJ : ClassId) (ad : Nat → Nat) (co fl ra li re wa pi : Ob) : CT l D (TY cI cJ) yX6_goThrough (.code yX6_goThrough cX6_goThrough 3 (none : Option FieldType)) 3 0 0 (XW ad cI cJ co fl ra li re wa pi) [.ref (ad 7), .ref (ad 2)] (QV D (TY cI cJ) (fun u => u = (XW ad cI cJ co fl ra li re (goThrough fl wa) pi))) := by
  refine ent (by decide) (Nat.le_of_ble_eq_true rfl) ?_
  intro p e s m below meth c ls A hx hb hr hg hown hml hlocks hnm hP hK hD hS hA hN hl
  have hl : lv_has ls 3 [(0, .ref (ad 7)), (1, .ref (ad 2))] := hl
  refine lv_aload_n hx hb dX6_goThrough_0 rfl (lv_at hl 0 rfl) ?_
  refine lv_iconst (v := 0) hx hb dX6_goThrough_1 (by decide) ?_
  refine va_put (D := D) (ci := 6) (v := .int 0) (C := RX6) (T := TX6) (N := 9) hx hb hg inGX6 tyX6 tyX6_ok nmX6 hown hK hP hD hS 7 xo7 rfl 5 (by decide) (hg _ mw_210) (fun _ h9 => h9) rfl (tyX6_ok 5 (by decide)) rfl rfl (Nat.le_of_ble_eq_true rfl) dX6_goThrough_2 (fun H locs hP hD hS => ?_)
  have hP : va_P D vwCl (XW ad cI cJ co fl ra li re (si wa 0 0) pi) H := cgP xpX6_5 hP
  have hD : va_D A (XW ad cI cJ co fl ra li re (si wa 0 0) pi) := cgD xpX6_5 hD
  refine lv_aload_n hx hb dX6_goThrough_5 rfl (lv_at hl 0 rfl) ?_
  refine lv_iconst (v := 0) hx hb dX6_goThrough_6 (by decide) ?_
  refine va_put (D := D) (ci := 6) (v := .int 0) (C := RX6) (T := TX6) (N := 9) hx hb hg inGX6 tyX6 tyX6_ok nmX6 hown hK hP hD hS 7 xo7 rfl 6 (by decide) (hg _ mw_212) (fun _ h9 => h9) rfl (tyX6_ok 6 (by decide)) rfl rfl (Nat.le_of_ble_eq_true rfl) dX6_goThrough_7 (fun H locs hP hD hS => ?_)
  have hP : va_P D vwCl (XW ad cI cJ co fl ra li re (si (si wa 0 0) 1 0) pi) H := cgP xpX6_6 hP
  have hD : va_D A (XW ad cI cJ co fl ra li re (si (si wa 0 0) 1 0) pi) := cgD xpX6_6 hD
  refine lv_aload_n hx hb dX6_goThrough_10 rfl (lv_at hl 0 rfl) ?_
  refine lv_lconst (v := 0) hx hb dX6_goThrough_11 (by decide) ?_
  refine va_put (D := D) (ci := 6) (v := .long 0) (C := RX6) (T := TX6) (N := 9) hx hb hg inGX6 tyX6 tyX6_ok nmX6 hown hK hP hD hS 7 xo7 rfl 7 (by decide) (hg _ mw_214) (fun _ h9 => h9) rfl (tyX6_ok 7 (by decide)) rfl rfl (Nat.le_of_ble_eq_true rfl) dX6_goThrough_12 (fun H locs hP hD hS => ?_)
  have hP : va_P D vwCl (XW ad cI cJ co fl ra li re (sl (si (si wa 0 0) 1 0) 0 0) pi) H := cgP xpX6_7 hP
  have hD : va_D A (XW ad cI cJ co fl ra li re (sl (si (si wa 0 0) 1 0) 0 0) pi) := cgD xpX6_7 hD
  refine lv_aload_n hx hb dX6_goThrough_15 rfl (lv_at hl 0 rfl) ?_
  refine lv_lconst (v := 0) hx hb dX6_goThrough_16 (by decide) ?_
  refine va_put (D := D) (ci := 6) (v := .long 0) (C := RX6) (T := TX6) (N := 9) hx hb hg inGX6 tyX6 tyX6_ok nmX6 hown hK hP hD hS 7 xo7 rfl 8 (by decide) (hg _ mw_215) (fun _ h9 => h9) rfl (tyX6_ok 8 (by decide)) rfl rfl (Nat.le_of_ble_eq_true rfl) dX6_goThrough_17 (fun H locs hP hD hS => ?_)
  have hP : va_P D vwCl (XW ad cI cJ co fl ra li re (sl (sl (si (si wa 0 0) 1 0) 0 0) 1 0) pi) H := cgP xpX6_8 hP
  have hD : va_D A (XW ad cI cJ co fl ra li re (sl (sl (si (si wa 0 0) 1 0) 0 0) 1 0) pi) := cgD xpX6_8 hD
  refine lv_iconst (v := 0) hx hb dX6_goThrough_20 (by decide) ?_
  refine lv_istore_n (lv' := [(2, .int 0), (0, .ref (ad 7)), (1, .ref (ad 2))]) hx hb dX6_goThrough_21 rfl hl (by decide) rfl (fun ls hl => ?_)
  refine w_loop (σ := Ob) (fun (i_1 : Nat) (p_1 : Ob) (H : Heap) (locs : List Loc) (ls : Array Slot) => p_1 = (lp gtInit i_1 (sl (sl (si (si wa 0 0) 1 0) 0 0) 1 0)) ∧ va_P D vwCl (XW ad cI cJ co fl ra li re p_1 pi) H ∧ va_D A (XW ad cI cJ co fl ra li re p_1 pi) ∧ va_S A s.heap H locs ∧ lv_has ls 3 [(0, .ref (ad 7)), (1, .ref (ad 2)), (2, .int (nI i_1))]) (80) (fun p_1 H locs ls hI => ?_) (fun i_1 p_1 H locs ls hi_1 hI ih_1 => ?_) 0 (sl (sl (si (si wa 0 0) 1 0) 0 0) 1 0) (Nat.zero_le _) ⟨(lp_0 _ _), hP, hD, hS, (by rw [nI_0]; exact lv_sub hl [1, 2, 0] rfl)⟩
  · obtain ⟨h_1, hP, hD, hS, hl⟩ := hI
    have h_1 := h_1.symm
    subst h_1
    have hP : va_P D vwCl (XW ad cI cJ co fl ra li re ((lp gtInit (80) (sl (sl (si (si wa 0 0) 1 0) 0 0) 1 0))) pi) H := hP
    have hD : va_D A (XW ad cI cJ co fl ra li re ((lp gtInit (80) (sl (sl (si (si wa 0 0) 1 0) 0 0) 1 0))) pi) := hD
    have hl : lv_has ls 3 [(0, .ref (ad 7)), (1, .ref (ad 2)), (2, .int (nI 80))] := hl
    refine lv_iload_n hx hb dX6_goThrough_22 rfl (lv_at hl 2 rfl) ?_
    refine lv_bipush (v := 80) hx hb dX6_goThrough_23 (by decide) ?_
    refine lv_icmp_ge (tgt := 52) hx hb dX6_goThrough_25 (by decide) (fun _ => ?_) (fun c_25 => absurd (by decide) c_25)
    refine lv_aload_n hx hb dX6_goThrough_52 rfl (lv_at hl 1 rfl) ?_
    refine va_getN (D := D) (ci := 1) (v := .int (gi fl 0)) (C := RX1) (T := TX1) (N := 11) hx hb hg inGX1 hown hK hP 2 xo2 rfl 7 (by decide) (hN.use nw_25) (fun _ h9 => h9) (xvX1_7 rfl) dX6_goThrough_53 ?_
    refine lv_if_le (tgt := 65) hx hb dX6_goThrough_56 (by decide) (fun c_56 => ?_) (fun c_56 => ?_)
    · have c_56 : ¬ 0 < (gi fl 0) := i_ge c_56
      refine lv_iconst (v := 0) hx hb dX6_goThrough_65 (by decide) ?_
      refine lv_istore_n (lv' := [(2, .int 0), (0, .ref (ad 7)), (1, .ref (ad 2))]) hx hb dX6_goThrough_66 rfl hl (by decide) rfl (fun ls hl => ?_)
      refine w_loop (σ := Ob) (fun (i_2 : Nat) (p_2 : Ob) (H : Heap) (locs : List Loc) (ls : Array Slot) => p_2 = (lpW gtGo (gtStep fl) i_2 ((lp gtInit (80) (sl (sl (si (si wa 0 0) 1 0) 0 0) 1 0)))) ∧ va_P D vwCl (XW ad cI cJ co fl ra li re p_2 pi) H ∧ va_D A (XW ad cI cJ co fl ra li re p_2 pi) ∧ va_S A s.heap H locs ∧ lv_has ls 3 [(0, .ref (ad 7)), (1, .ref (ad 2)), (2, .int (nI i_2))]) (120) (fun p_2 H locs ls hI => ?_) (fun i_2 p_2 H locs ls hi_2 hI ih_2 => ?_) 0 ((lp gtInit (80) (sl (sl (si (si wa 0 0) 1 0) 0 0) 1 0))) (Nat.zero_le _) ⟨(lpW_0 _ _ _), hP, hD, hS, (by rw [nI_0]; exact lv_sub hl [1, 2, 0] rfl)⟩
      · obtain ⟨h_2, hP, hD, hS, hl⟩ := hI
        have h_2 := h_2.symm
        subst h_2
        have hP : va_P D vwCl (XW ad cI cJ co fl ra li re ((lpW gtGo (gtStep fl) (120) ((lp gtInit (80) (sl (sl (si (si wa 0 0) 1 0) 0 0) 1 0))))) pi) H := hP
        have hD : va_D A (XW ad cI cJ co fl ra li re ((lpW gtGo (gtStep fl) (120) ((lp gtInit (80) (sl (sl (si (si wa 0 0) 1 0) 0 0) 1 0))))) pi) := hD
        have hl : lv_has ls 3 [(0, .ref (ad 7)), (1, .ref (ad 2)), (2, .int (nI 120))] := hl
        refine lv_iload_n hx hb dX6_goThrough_67 rfl (lv_at hl 2 rfl) ?_
        refine lv_bipush (v := 120) hx hb dX6_goThrough_68 (by decide) ?_
        refine lv_icmp_ge (tgt := 104) hx hb dX6_goThrough_70 (by decide) (fun _ => ?_) (fun c_70 => absurd (by decide) c_70)
        exact W.vret hx hb hr (fun t ht hW => ⟨⟨(XW ad cI cJ co fl ra li re ((lpW gtGo (gtStep fl) (120) ((lp gtInit (80) (sl (sl (si (si wa 0 0) 1 0) 0 0) 1 0))))) pi), rfl, xw_eq rfl rfl rfl rfl rfl (show ((lpW gtGo (gtStep fl) (120) ((lp gtInit (80) (sl (sl (si (si wa 0 0) 1 0) 0 0) 1 0))))) = (goThrough fl wa) from (by simp only [goThrough, gtStart, gtZero, eq_false c_56, gi_sl, gi_sA, gi_sB, gi_si_s, gi_si_n, gl_si, gl_sA, gl_sB, gl_sl_s, gl_sl_n, gA_si, gA_sl, gA_sB, gA_sA_s, gA_sA_n, gB_si, gB_sl, gB_sA, gB_sB_s, gB_sB_n, Nat.reduceBEq, if_true, if_false, eq_self, Bool.false_eq_true, Bool.true_eq_false, not_true_eq_false, not_false_eq_true, decide_true, decide_false, cond_true, cond_false, Bool.true_and, Bool.false_and, Bool.and_true, Bool.and_false, Bool.true_or, Bool.false_or, Bool.or_true, Bool.or_false, b2i_tt, b2i_ff, pr_eta]; done)) rfl, ⟨by rw [ht]; exact hP, va_K.moved hW.alike hK, hD⟩⟩, hS.F ht⟩) hS.2.2 dX6_goThrough_104
      · obtain ⟨h_2, hP, hD, hS, hl⟩ := hI
        have hP : va_P D vwCl (XW ad cI cJ co fl ra li re p_2 pi) H := hP
        have hD : va_D A (XW ad cI cJ co fl ra li re p_2 pi) := hD
        have hl : lv_has ls 3 [(0, .ref (ad 7)), (1, .ref (ad 2)), (2, .int (nI i_2))] := hl
        refine lv_iload_n hx hb dX6_goThrough_67 rfl (lv_at hl 2 rfl) ?_
        refine lv_bipush (v := 120) hx hb dX6_goThrough_68 (by decide) ?_
        refine lv_icmp_ge (tgt := 104) hx hb dX6_goThrough_70 (by decide) (fun c_70 => absurd c_70 (nI_ge hi_2 (by decide))) (fun _ => ?_)
        refine lv_aload_n hx hb dX6_goThrough_73 rfl (lv_at hl 0 rfl) ?_
        refine va_get (D := D) (ci := 6) (v := .int (gi p_2 1)) (C := RX6) (T := TX6) (N := 9) hx hb hg inGX6 hown hK hP 7 xo7 rfl 6 (by decide) (hg _ mw_212) (fun _ h9 => h9) (xvX6_6 rfl) dX6_goThrough_74 ?_
        refine lv_if_le (tgt := 104) hx hb dX6_goThrough_77 (by decide) (fun c_77 => ?_) (fun c_77 => ?_)
        · have c_77 : ¬ 0 < (gi p_2 1) := i_ge c_77
          have h_2 : p_2 = (lpW gtGo (gtStep fl) (120) ((lp gtInit (80) (sl (sl (si (si wa 0 0) 1 0) 0 0) 1 0)))) := lpW_stop h_2 (by simp only [gtGo, eq_false c_56, eq_false c_77, gi_sl, gi_sA, gi_sB, gi_si_s, gi_si_n, gl_si, gl_sA, gl_sB, gl_sl_s, gl_sl_n, gA_si, gA_sl, gA_sB, gA_sA_s, gA_sA_n, gB_si, gB_sl, gB_sA, gB_sB_s, gB_sB_n, Nat.reduceBEq, if_true, if_false, eq_self, Bool.false_eq_true, Bool.true_eq_false, not_true_eq_false, not_false_eq_true, decide_true, decide_false, cond_true, cond_false, Bool.true_and, Bool.false_and, Bool.and_true, Bool.and_false, Bool.true_or, Bool.false_or, Bool.or_true, Bool.or_false, b2i_tt, b2i_ff, pr_eta]; done) (Nat.le_of_lt hi_2)
          have h_2 := h_2.symm
          subst h_2
          have hP : va_P D vwCl (XW ad cI cJ co fl ra li re ((lpW gtGo (gtStep fl) (120) ((lp gtInit (80) (sl (sl (si (si wa 0 0) 1 0) 0 0) 1 0))))) pi) H := hP
          have hD : va_D A (XW ad cI cJ co fl ra li re ((lpW gtGo (gtStep fl) (120) ((lp gtInit (80) (sl (sl (si (si wa 0 0) 1 0) 0 0) 1 0))))) pi) := hD
          have hl : lv_has ls 3 [(0, .ref (ad 7)), (1, .ref (ad 2)), (2, .int (nI i_2))] := hl
          exact W.vret hx hb hr (fun t ht hW => ⟨⟨(XW ad cI cJ co fl ra li re ((lpW gtGo (gtStep fl) (120) ((lp gtInit (80) (sl (sl (si (si wa 0 0) 1 0) 0 0) 1 0))))) pi), rfl, xw_eq rfl rfl rfl rfl rfl (show ((lpW gtGo (gtStep fl) (120) ((lp gtInit (80) (sl (sl (si (si wa 0 0) 1 0) 0 0) 1 0))))) = (goThrough fl wa) from (by simp only [goThrough, gtStart, gtZero, eq_false c_56, eq_false c_77, gi_sl, gi_sA, gi_sB, gi_si_s, gi_si_n, gl_si, gl_sA, gl_sB, gl_sl_s, gl_sl_n, gA_si, gA_sl, gA_sB, gA_sA_s, gA_sA_n, gB_si, gB_sl, gB_sA, gB_sB_s, gB_sB_n, Nat.reduceBEq, if_true, if_false, eq_self, Bool.false_eq_true, Bool.true_eq_false, not_true_eq_false, not_false_eq_true, decide_true, decide_false, cond_true, cond_false, Bool.true_and, Bool.false_and, Bool.and_true, Bool.and_false, Bool.true_or, Bool.false_or, Bool.or_true, Bool.or_false, b2i_tt, b2i_ff, pr_eta]; done)) rfl, ⟨by rw [ht]; exact hP, va_K.moved hW.alike hK, hD⟩⟩, hS.F ht⟩) hS.2.2 dX6_goThrough_104
        · have c_77 : 0 < (gi p_2 1) := i_nge c_77
          refine lv_aload_n hx hb dX6_goThrough_80 rfl (lv_at hl 0 rfl) ?_
          refine lv_aload_n hx hb dX6_goThrough_81 rfl (lv_at hl 1 rfl) ?_
          refine lv_aload_n hx hb dX6_goThrough_82 rfl (lv_at hl 0 rfl) ?_
          refine va_get (D := D) (ci := 6) (v := .ref (ad 32)) (C := RX6) (T := TX6) (N := 9) hx hb hg inGX6 hown hK hP 7 xo7 rfl 3 (by decide) (hg _ mw_211) (fun _ h9 => h9) xvX6_3 dX6_goThrough_83 ?_
          refine lv_aload_n hx hb dX6_goThrough_86 rfl (lv_at hl 0 rfl) ?_
          refine va_get (D := D) (ci := 6) (v := .int (gi p_2 1)) (C := RX6) (T := TX6) (N := 9) hx hb hg inGX6 hown hK hP 7 xo7 rfl 6 (by decide) (hg _ mw_212) (fun _ h9 => h9) (xvX6_6 rfl) dX6_goThrough_87 ?_
          refine lv_iconst (v := 1) hx hb dX6_goThrough_90 (by decide) ?_
          refine lv_isub hx hb dX6_goThrough_91 ?_
          refine kI (rSN hx hb hml hown hg hN hK hP hD (c_at l D cI cJ (XW ad cI cJ co fl ra li re p_2 pi) 32 (ad 32) 40 (gA p_2 3) ((gi p_2 1) - 1) (xg32 rfl) (by decide)) mw_84 nw_91 mw_85 mw_77 pd_X7_at ⟨Nat.le_of_ble_eq_true rfl, Nat.le_of_ble_eq_true rfl⟩ rfl hl.1 rfl (Nat.le_of_ble_eq_true rfl) dX6_goThrough_92 ⟨Nat.le_of_ble_eq_true rfl, Nat.le_of_ble_eq_true rfl⟩) hD hS hA (fun r_3 u_3 H locs hp hP hD hS => ?_)
          obtain ⟨er, eu⟩ := hp
          obtain rfl := er.symm
          obtain rfl := eu.symm
          refine kV (rV (q0 := 7) (ci := 6) hx hb hml hown hg hN hK hP hD (c_goOn l D cI cJ ad co fl ra li re p_2 pi (rd (gA p_2 3) 40 ((gi p_2 1) - 1))) mw_222 mw_223 mw_224 mw_225 mw_208 pdv_X6_goOn ⟨Nat.le_of_ble_eq_true rfl, Nat.le_of_ble_eq_true rfl⟩ rfl xo7 rfl hl.1 rfl (Nat.le_of_ble_eq_true rfl) dX6_goThrough_95 ⟨Nat.le_of_ble_eq_true rfl, Nat.le_of_ble_eq_true rfl⟩) hD hS hA (fun u_4 H locs hp hP hD hS => ?_)
          obtain rfl := hp.symm
          have hP : va_P D vwCl (XW ad cI cJ co fl ra li re (goOn fl p_2 (rd (gA p_2 3) 40 ((gi p_2 1) - 1))) pi) H := hP
          have hD : va_D A (XW ad cI cJ co fl ra li re (goOn fl p_2 (rd (gA p_2 3) 40 ((gi p_2 1) - 1))) pi) := hD
          refine lv_iinc (v := (nI (i_2 + 1))) (lv' := [(2, .int (nI (i_2 + 1))), (0, .ref (ad 7)), (1, .ref (ad 2))]) hx hb dX6_goThrough_98 hl (k := 2) rfl (nI_1 i_2) (by decide) rfl (fun ls hl => ?_)
          refine lv_goto (tgt := 67) hx hb dX6_goThrough_101 (by decide) ?_
          exact ih_2 (goOn fl p_2 (rd (gA p_2 3) 40 ((gi p_2 1) - 1))) H locs ls ⟨((show (goOn fl p_2 (rd (gA p_2 3) 40 ((gi p_2 1) - 1))) = (gtStep fl) p_2 from (by simp only [gtStep, eq_false c_56, eq_true c_77, gi_sl, gi_sA, gi_sB, gi_si_s, gi_si_n, gl_si, gl_sA, gl_sB, gl_sl_s, gl_sl_n, gA_si, gA_sl, gA_sB, gA_sA_s, gA_sA_n, gB_si, gB_sl, gB_sA, gB_sB_s, gB_sB_n, Nat.reduceBEq, if_true, if_false, eq_self, Bool.false_eq_true, Bool.true_eq_false, not_true_eq_false, not_false_eq_true, decide_true, decide_false, cond_true, cond_false, Bool.true_and, Bool.false_and, Bool.and_true, Bool.and_false, Bool.true_or, Bool.false_or, Bool.or_true, Bool.or_false, b2i_tt, b2i_ff, pr_eta]; done)).trans (lpW_go h_2 (by simp only [gtGo, eq_false c_56, eq_true c_77, gi_sl, gi_sA, gi_sB, gi_si_s, gi_si_n, gl_si, gl_sA, gl_sB, gl_sl_s, gl_sl_n, gA_si, gA_sl, gA_sB, gA_sA_s, gA_sA_n, gB_si, gB_sl, gB_sA, gB_sB_s, gB_sB_n, Nat.reduceBEq, if_true, if_false, eq_self, Bool.false_eq_true, Bool.true_eq_false, not_true_eq_false, not_false_eq_true, decide_true, decide_false, cond_true, cond_false, Bool.true_and, Bool.false_and, Bool.and_true, Bool.and_false, Bool.true_or, Bool.false_or, Bool.or_true, Bool.or_false, b2i_tt, b2i_ff, pr_eta]; done))), hP, hD, hS, lv_sub hl [1, 2, 0] rfl⟩
    · have c_56 : 0 < (gi fl 0) := i_nge c_56
      refine lv_aload_n hx hb dX6_goThrough_59 rfl (lv_at hl 0 rfl) ?_
      refine lv_aload_n hx hb dX6_goThrough_60 rfl (lv_at hl 1 rfl) ?_
      refine lv_iconst (v := 0) hx hb dX6_goThrough_61 (by decide) ?_
      refine kV (rV (q0 := 7) (ci := 6) hx hb hml hown hg hN hK hP hD (c_enter l D cI cJ ad co fl ra li re ((lp gtInit (80) (sl (sl (si (si wa 0 0) 1 0) 0 0) 1 0))) pi 0) mw_217 mw_218 mw_219 mw_220 mw_208 pdv_X6_enter ⟨Nat.le_of_ble_eq_true rfl, Nat.le_of_ble_eq_true rfl⟩ rfl xo7 rfl hl.1 rfl (Nat.le_of_ble_eq_true rfl) dX6_goThrough_62 ⟨Nat.le_of_ble_eq_true rfl, Nat.le_of_ble_eq_true rfl⟩) hD hS hA (fun u_5 H locs hp hP hD hS => ?_)
      obtain rfl := hp.symm
      have hP : va_P D vwCl (XW ad cI cJ co fl ra li re (enter fl ((lp gtInit (80) (sl (sl (si (si wa 0 0) 1 0) 0 0) 1 0))) 0) pi) H := hP
      have hD : va_D A (XW ad cI cJ co fl ra li re (enter fl ((lp gtInit (80) (sl (sl (si (si wa 0 0) 1 0) 0 0) 1 0))) 0) pi) := hD
      refine lv_iconst (v := 0) hx hb dX6_goThrough_65 (by decide) ?_
      refine lv_istore_n (lv' := [(2, .int 0), (0, .ref (ad 7)), (1, .ref (ad 2))]) hx hb dX6_goThrough_66 rfl hl (by decide) rfl (fun ls hl => ?_)
      refine w_loop (σ := Ob) (fun (i_6 : Nat) (p_6 : Ob) (H : Heap) (locs : List Loc) (ls : Array Slot) => p_6 = (lpW gtGo (gtStep fl) i_6 (enter fl ((lp gtInit (80) (sl (sl (si (si wa 0 0) 1 0) 0 0) 1 0))) 0)) ∧ va_P D vwCl (XW ad cI cJ co fl ra li re p_6 pi) H ∧ va_D A (XW ad cI cJ co fl ra li re p_6 pi) ∧ va_S A s.heap H locs ∧ lv_has ls 3 [(0, .ref (ad 7)), (1, .ref (ad 2)), (2, .int (nI i_6))]) (120) (fun p_6 H locs ls hI => ?_) (fun i_6 p_6 H locs ls hi_6 hI ih_6 => ?_) 0 (enter fl ((lp gtInit (80) (sl (sl (si (si wa 0 0) 1 0) 0 0) 1 0))) 0) (Nat.zero_le _) ⟨(lpW_0 _ _ _), hP, hD, hS, (by rw [nI_0]; exact lv_sub hl [1, 2, 0] rfl)⟩
      · obtain ⟨h_6, hP, hD, hS, hl⟩ := hI
        have h_6 := h_6.symm
        subst h_6
        have hP : va_P D vwCl (XW ad cI cJ co fl ra li re ((lpW gtGo (gtStep fl) (120) (enter fl ((lp gtInit (80) (sl (sl (si (si wa 0 0) 1 0) 0 0) 1 0))) 0))) pi) H := hP
        have hD : va_D A (XW ad cI cJ co fl ra li re ((lpW gtGo (gtStep fl) (120) (enter fl ((lp gtInit (80) (sl (sl (si (si wa 0 0) 1 0) 0 0) 1 0))) 0))) pi) := hD
        have hl : lv_has ls 3 [(0, .ref (ad 7)), (1, .ref (ad 2)), (2, .int (nI 120))] := hl
        refine lv_iload_n hx hb dX6_goThrough_67 rfl (lv_at hl 2 rfl) ?_
        refine lv_bipush (v := 120) hx hb dX6_goThrough_68 (by decide) ?_
        refine lv_icmp_ge (tgt := 104) hx hb dX6_goThrough_70 (by decide) (fun _ => ?_) (fun c_70 => absurd (by decide) c_70)
        exact W.vret hx hb hr (fun t ht hW => ⟨⟨(XW ad cI cJ co fl ra li re ((lpW gtGo (gtStep fl) (120) (enter fl ((lp gtInit (80) (sl (sl (si (si wa 0 0) 1 0) 0 0) 1 0))) 0))) pi), rfl, xw_eq rfl rfl rfl rfl rfl (show ((lpW gtGo (gtStep fl) (120) (enter fl ((lp gtInit (80) (sl (sl (si (si wa 0 0) 1 0) 0 0) 1 0))) 0))) = (goThrough fl wa) from (by simp only [goThrough, gtStart, gtZero, eq_true c_56, gi_sl, gi_sA, gi_sB, gi_si_s, gi_si_n, gl_si, gl_sA, gl_sB, gl_sl_s, gl_sl_n, gA_si, gA_sl, gA_sB, gA_sA_s, gA_sA_n, gB_si, gB_sl, gB_sA, gB_sB_s, gB_sB_n, Nat.reduceBEq, if_true, if_false, eq_self, Bool.false_eq_true, Bool.true_eq_false, not_true_eq_false, not_false_eq_true, decide_true, decide_false, cond_true, cond_false, Bool.true_and, Bool.false_and, Bool.and_true, Bool.and_false, Bool.true_or, Bool.false_or, Bool.or_true, Bool.or_false, b2i_tt, b2i_ff, pr_eta]; done)) rfl, ⟨by rw [ht]; exact hP, va_K.moved hW.alike hK, hD⟩⟩, hS.F ht⟩) hS.2.2 dX6_goThrough_104
      · obtain ⟨h_6, hP, hD, hS, hl⟩ := hI
        have hP : va_P D vwCl (XW ad cI cJ co fl ra li re p_6 pi) H := hP
        have hD : va_D A (XW ad cI cJ co fl ra li re p_6 pi) := hD
        have hl : lv_has ls 3 [(0, .ref (ad 7)), (1, .ref (ad 2)), (2, .int (nI i_6))] := hl
        refine lv_iload_n hx hb dX6_goThrough_67 rfl (lv_at hl 2 rfl) ?_
        refine lv_bipush (v := 120) hx hb dX6_goThrough_68 (by decide) ?_
        refine lv_icmp_ge (tgt := 104) hx hb dX6_goThrough_70 (by decide) (fun c_70 => absurd c_70 (nI_ge hi_6 (by decide))) (fun _ => ?_)
        refine lv_aload_n hx hb dX6_goThrough_73 rfl (lv_at hl 0 rfl) ?_
        refine va_get (D := D) (ci := 6) (v := .int (gi p_6 1)) (C := RX6) (T := TX6) (N := 9) hx hb hg inGX6 hown hK hP 7 xo7 rfl 6 (by decide) (hg _ mw_212) (fun _ h9 => h9) (xvX6_6 rfl) dX6_goThrough_74 ?_
        refine lv_if_le (tgt := 104) hx hb dX6_goThrough_77 (by decide) (fun c_77 => ?_) (fun c_77 => ?_)
        · have c_77 : ¬ 0 < (gi p_6 1) := i_ge c_77
          have h_6 : p_6 = (lpW gtGo (gtStep fl) (120) (enter fl ((lp gtInit (80) (sl (sl (si (si wa 0 0) 1 0) 0 0) 1 0))) 0)) := lpW_stop h_6 (by simp only [gtGo, eq_true c_56, eq_false c_77, gi_sl, gi_sA, gi_sB, gi_si_s, gi_si_n, gl_si, gl_sA, gl_sB, gl_sl_s, gl_sl_n, gA_si, gA_sl, gA_sB, gA_sA_s, gA_sA_n, gB_si, gB_sl, gB_sA, gB_sB_s, gB_sB_n, Nat.reduceBEq, if_true, if_false, eq_self, Bool.false_eq_true, Bool.true_eq_false, not_true_eq_false, not_false_eq_true, decide_true, decide_false, cond_true, cond_false, Bool.true_and, Bool.false_and, Bool.and_true, Bool.and_false, Bool.true_or, Bool.false_or, Bool.or_true, Bool.or_false, b2i_tt, b2i_ff, pr_eta]; done) (Nat.le_of_lt hi_6)
          have h_6 := h_6.symm
          subst h_6
          have hP : va_P D vwCl (XW ad cI cJ co fl ra li re ((lpW gtGo (gtStep fl) (120) (enter fl ((lp gtInit (80) (sl (sl (si (si wa 0 0) 1 0) 0 0) 1 0))) 0))) pi) H := hP
          have hD : va_D A (XW ad cI cJ co fl ra li re ((lpW gtGo (gtStep fl) (120) (enter fl ((lp gtInit (80) (sl (sl (si (si wa 0 0) 1 0) 0 0) 1 0))) 0))) pi) := hD
          have hl : lv_has ls 3 [(0, .ref (ad 7)), (1, .ref (ad 2)), (2, .int (nI i_6))] := hl
          exact W.vret hx hb hr (fun t ht hW => ⟨⟨(XW ad cI cJ co fl ra li re ((lpW gtGo (gtStep fl) (120) (enter fl ((lp gtInit (80) (sl (sl (si (si wa 0 0) 1 0) 0 0) 1 0))) 0))) pi), rfl, xw_eq rfl rfl rfl rfl rfl (show ((lpW gtGo (gtStep fl) (120) (enter fl ((lp gtInit (80) (sl (sl (si (si wa 0 0) 1 0) 0 0) 1 0))) 0))) = (goThrough fl wa) from (by simp only [goThrough, gtStart, gtZero, eq_true c_56, eq_false c_77, gi_sl, gi_sA, gi_sB, gi_si_s, gi_si_n, gl_si, gl_sA, gl_sB, gl_sl_s, gl_sl_n, gA_si, gA_sl, gA_sB, gA_sA_s, gA_sA_n, gB_si, gB_sl, gB_sA, gB_sB_s, gB_sB_n, Nat.reduceBEq, if_true, if_false, eq_self, Bool.false_eq_true, Bool.true_eq_false, not_true_eq_false, not_false_eq_true, decide_true, decide_false, cond_true, cond_false, Bool.true_and, Bool.false_and, Bool.and_true, Bool.and_false, Bool.true_or, Bool.false_or, Bool.or_true, Bool.or_false, b2i_tt, b2i_ff, pr_eta]; done)) rfl, ⟨by rw [ht]; exact hP, va_K.moved hW.alike hK, hD⟩⟩, hS.F ht⟩) hS.2.2 dX6_goThrough_104
        · have c_77 : 0 < (gi p_6 1) := i_nge c_77
          refine lv_aload_n hx hb dX6_goThrough_80 rfl (lv_at hl 0 rfl) ?_
          refine lv_aload_n hx hb dX6_goThrough_81 rfl (lv_at hl 1 rfl) ?_
          refine lv_aload_n hx hb dX6_goThrough_82 rfl (lv_at hl 0 rfl) ?_
          refine va_get (D := D) (ci := 6) (v := .ref (ad 32)) (C := RX6) (T := TX6) (N := 9) hx hb hg inGX6 hown hK hP 7 xo7 rfl 3 (by decide) (hg _ mw_211) (fun _ h9 => h9) xvX6_3 dX6_goThrough_83 ?_
          refine lv_aload_n hx hb dX6_goThrough_86 rfl (lv_at hl 0 rfl) ?_
          refine va_get (D := D) (ci := 6) (v := .int (gi p_6 1)) (C := RX6) (T := TX6) (N := 9) hx hb hg inGX6 hown hK hP 7 xo7 rfl 6 (by decide) (hg _ mw_212) (fun _ h9 => h9) (xvX6_6 rfl) dX6_goThrough_87 ?_
          refine lv_iconst (v := 1) hx hb dX6_goThrough_90 (by decide) ?_
          refine lv_isub hx hb dX6_goThrough_91 ?_
          refine kI (rSN hx hb hml hown hg hN hK hP hD (c_at l D cI cJ (XW ad cI cJ co fl ra li re p_6 pi) 32 (ad 32) 40 (gA p_6 3) ((gi p_6 1) - 1) (xg32 rfl) (by decide)) mw_84 nw_91 mw_85 mw_77 pd_X7_at ⟨Nat.le_of_ble_eq_true rfl, Nat.le_of_ble_eq_true rfl⟩ rfl hl.1 rfl (Nat.le_of_ble_eq_true rfl) dX6_goThrough_92 ⟨Nat.le_of_ble_eq_true rfl, Nat.le_of_ble_eq_true rfl⟩) hD hS hA (fun r_7 u_7 H locs hp hP hD hS => ?_)
          obtain ⟨er, eu⟩ := hp
          obtain rfl := er.symm
          obtain rfl := eu.symm
          refine kV (rV (q0 := 7) (ci := 6) hx hb hml hown hg hN hK hP hD (c_goOn l D cI cJ ad co fl ra li re p_6 pi (rd (gA p_6 3) 40 ((gi p_6 1) - 1))) mw_222 mw_223 mw_224 mw_225 mw_208 pdv_X6_goOn ⟨Nat.le_of_ble_eq_true rfl, Nat.le_of_ble_eq_true rfl⟩ rfl xo7 rfl hl.1 rfl (Nat.le_of_ble_eq_true rfl) dX6_goThrough_95 ⟨Nat.le_of_ble_eq_true rfl, Nat.le_of_ble_eq_true rfl⟩) hD hS hA (fun u_8 H locs hp hP hD hS => ?_)
          obtain rfl := hp.symm
          have hP : va_P D vwCl (XW ad cI cJ co fl ra li re (goOn fl p_6 (rd (gA p_6 3) 40 ((gi p_6 1) - 1))) pi) H := hP
          have hD : va_D A (XW ad cI cJ co fl ra li re (goOn fl p_6 (rd (gA p_6 3) 40 ((gi p_6 1) - 1))) pi) := hD
          refine lv_iinc (v := (nI (i_6 + 1))) (lv' := [(2, .int (nI (i_6 + 1))), (0, .ref (ad 7)), (1, .ref (ad 2))]) hx hb dX6_goThrough_98 hl (k := 2) rfl (nI_1 i_6) (by decide) rfl (fun ls hl => ?_)
          refine lv_goto (tgt := 67) hx hb dX6_goThrough_101 (by decide) ?_
          exact ih_6 (goOn fl p_6 (rd (gA p_6 3) 40 ((gi p_6 1) - 1))) H locs ls ⟨((show (goOn fl p_6 (rd (gA p_6 3) 40 ((gi p_6 1) - 1))) = (gtStep fl) p_6 from (by simp only [gtStep, eq_true c_56, eq_true c_77, gi_sl, gi_sA, gi_sB, gi_si_s, gi_si_n, gl_si, gl_sA, gl_sB, gl_sl_s, gl_sl_n, gA_si, gA_sl, gA_sB, gA_sA_s, gA_sA_n, gB_si, gB_sl, gB_sA, gB_sB_s, gB_sB_n, Nat.reduceBEq, if_true, if_false, eq_self, Bool.false_eq_true, Bool.true_eq_false, not_true_eq_false, not_false_eq_true, decide_true, decide_false, cond_true, cond_false, Bool.true_and, Bool.false_and, Bool.and_true, Bool.and_false, Bool.true_or, Bool.false_or, Bool.or_true, Bool.or_false, b2i_tt, b2i_ff, pr_eta]; done)).trans (lpW_go h_6 (by simp only [gtGo, eq_true c_56, eq_true c_77, gi_sl, gi_sA, gi_sB, gi_si_s, gi_si_n, gl_si, gl_sA, gl_sB, gl_sl_s, gl_sl_n, gA_si, gA_sl, gA_sB, gA_sA_s, gA_sA_n, gB_si, gB_sl, gB_sA, gB_sB_s, gB_sB_n, Nat.reduceBEq, if_true, if_false, eq_self, Bool.false_eq_true, Bool.true_eq_false, not_true_eq_false, not_false_eq_true, decide_true, decide_false, cond_true, cond_false, Bool.true_and, Bool.false_and, Bool.and_true, Bool.and_false, Bool.true_or, Bool.false_or, Bool.or_true, Bool.or_false, b2i_tt, b2i_ff, pr_eta]; done))), hP, hD, hS, lv_sub hl [1, 2, 0] rfl⟩
  · obtain ⟨h_1, hP, hD, hS, hl⟩ := hI
    have hP : va_P D vwCl (XW ad cI cJ co fl ra li re p_1 pi) H := hP
    have hD : va_D A (XW ad cI cJ co fl ra li re p_1 pi) := hD
    have hl : lv_has ls 3 [(0, .ref (ad 7)), (1, .ref (ad 2)), (2, .int (nI i_1))] := hl
    refine lv_iload_n hx hb dX6_goThrough_22 rfl (lv_at hl 2 rfl) ?_
    refine lv_bipush (v := 80) hx hb dX6_goThrough_23 (by decide) ?_
    refine lv_icmp_ge (tgt := 52) hx hb dX6_goThrough_25 (by decide) (fun c_25 => absurd c_25 (nI_ge hi_1 (by decide))) (fun _ => ?_)
    refine lv_aload_n hx hb dX6_goThrough_28 rfl (lv_at hl 0 rfl) ?_
    refine va_get (D := D) (ci := 6) (v := .ref (ad 30)) (C := RX6) (T := TX6) (N := 9) hx hb hg inGX6 hown hK hP 7 xo7 rfl 1 (by decide) (hg _ mw_203) (fun _ h9 => h9) xvX6_1 dX6_goThrough_29 ?_
    refine lv_iload_n hx hb dX6_goThrough_32 rfl (lv_at hl 2 rfl) ?_
    refine lv_iconst (v := (-1)) hx hb dX6_goThrough_33 (by decide) ?_
    refine kV (rSN hx hb hml hown hg hN hK hP hD (c_put l D cI cJ (XW ad cI cJ co fl ra li re p_1 pi) 30 (ad 30) 80 (gA p_1 1) (nI i_1) (-1) (xg30 rfl) (by decide)) mw_92 nw_90 mw_93 mw_77 pd_X7_put ⟨Nat.le_of_ble_eq_true rfl, Nat.le_of_ble_eq_true rfl⟩ rfl hl.1 rfl (Nat.le_of_ble_eq_true rfl) dX6_goThrough_34 ⟨Nat.le_of_ble_eq_true rfl, Nat.le_of_ble_eq_true rfl⟩) hD hS hA (fun u_9 H locs hp hP hD hS => ?_)
    obtain rfl := hp.symm
    have hP : va_P D vwCl (XW ad cI cJ co fl ra li re (sA p_1 1 (wr (gA p_1 1) 80 (nI i_1) (-1))) pi) H := cgP xs30 hP
    have hD : va_D A (XW ad cI cJ co fl ra li re (sA p_1 1 (wr (gA p_1 1) 80 (nI i_1) (-1))) pi) := cgD xs30 hD
    refine lv_aload_n hx hb dX6_goThrough_37 rfl (lv_at hl 0 rfl) ?_
    refine va_get (D := D) (ci := 6) (v := .ref (ad 31)) (C := RX6) (T := TX6) (N := 9) hx hb hg inGX6 hown hK hP 7 xo7 rfl 2 (by decide) (hg _ mw_216) (fun _ h9 => h9) xvX6_2 dX6_goThrough_38 ?_
    refine lv_iload_n hx hb dX6_goThrough_41 rfl (lv_at hl 2 rfl) ?_
    refine lv_iconst (v := (-1)) hx hb dX6_goThrough_42 (by decide) ?_
    refine kV (rSN hx hb hml hown hg hN hK hP hD (c_put l D cI cJ (XW ad cI cJ co fl ra li re (sA p_1 1 (wr (gA p_1 1) 80 (nI i_1) (-1))) pi) 31 (ad 31) 80 (gA p_1 2) (nI i_1) (-1) (xg31 (by simp only [gi_sl, gi_sA, gi_sB, gi_si_s, gi_si_n, gl_si, gl_sA, gl_sB, gl_sl_s, gl_sl_n, gA_si, gA_sl, gA_sB, gA_sA_s, gA_sA_n, gB_si, gB_sl, gB_sA, gB_sB_s, gB_sB_n, Nat.reduceBEq])) (by decide)) mw_92 nw_90 mw_93 mw_77 pd_X7_put ⟨Nat.le_of_ble_eq_true rfl, Nat.le_of_ble_eq_true rfl⟩ rfl hl.1 rfl (Nat.le_of_ble_eq_true rfl) dX6_goThrough_43 ⟨Nat.le_of_ble_eq_true rfl, Nat.le_of_ble_eq_true rfl⟩) hD hS hA (fun u_10 H locs hp hP hD hS => ?_)
    obtain rfl := hp.symm
    have hP : va_P D vwCl (XW ad cI cJ co fl ra li re (sA (sA p_1 1 (wr (gA p_1 1) 80 (nI i_1) (-1))) 2 (wr (gA p_1 2) 80 (nI i_1) (-1))) pi) H := cgP xs31 hP
    have hD : va_D A (XW ad cI cJ co fl ra li re (sA (sA p_1 1 (wr (gA p_1 1) 80 (nI i_1) (-1))) 2 (wr (gA p_1 2) 80 (nI i_1) (-1))) pi) := cgD xs31 hD
    refine lv_iinc (v := (nI (i_1 + 1))) (lv' := [(2, .int (nI (i_1 + 1))), (0, .ref (ad 7)), (1, .ref (ad 2))]) hx hb dX6_goThrough_46 hl (k := 2) rfl (nI_1 i_1) (by decide) rfl (fun ls hl => ?_)
    refine lv_goto (tgt := 22) hx hb dX6_goThrough_49 (by decide) ?_
    exact ih_1 (sA (sA p_1 1 (wr (gA p_1 1) 80 (nI i_1) (-1))) 2 (wr (gA p_1 2) 80 (nI i_1) (-1))) H locs ls ⟨((show (sA (sA p_1 1 (wr (gA p_1 1) 80 (nI i_1) (-1))) 2 (wr (gA p_1 2) 80 (nI i_1) (-1))) = gtInit i_1 p_1 from (by first | with_reducible rfl | (simp only [gtInit, gi_sl, gi_sA, gi_sB, gi_si_s, gi_si_n, gl_si, gl_sA, gl_sB, gl_sl_s, gl_sl_n, gA_si, gA_sl, gA_sB, gA_sA_s, gA_sA_n, gB_si, gB_sl, gB_sA, gB_sB_s, gB_sB_n, Nat.reduceBEq, if_true, if_false, eq_self, Bool.false_eq_true, Bool.true_eq_false, not_true_eq_false, not_false_eq_true, decide_true, decide_false, cond_true, cond_false, Bool.true_and, Bool.false_and, Bool.and_true, Bool.and_false, Bool.true_or, Bool.false_or, Bool.or_true, Bool.or_false, b2i_tt, b2i_ff, pr_eta]; done))).trans (lp_go h_1)), hP, hD, hS, lv_sub hl [1, 2, 0] rfl⟩
