theorem dX7_digestOfSteps_0 : decode cX7_digestOfSteps 0 = .ok (.lload_n 1, 1) := by decide +kernel
theorem dX7_digestOfSteps_1 : decode cX7_digestOfSteps 1 = .ok (.aload_n 0, 1) := by decide +kernel
theorem dX7_digestOfSteps_2 : decode cX7_digestOfSteps 2 = .ok (.getfield 40, 3) := by decide +kernel
theorem dX7_digestOfSteps_5 : decode cX7_digestOfSteps 5 = .ok (.getfield 218, 3) := by decide +kernel
theorem dX7_digestOfSteps_8 : decode cX7_digestOfSteps 8 = .ok (.invokestatic 308, 3) := by decide +kernel
theorem dX7_digestOfSteps_11 : decode cX7_digestOfSteps 11 = .ok (.lstore_n 3, 1) := by decide +kernel
theorem dX7_digestOfSteps_12 : decode cX7_digestOfSteps 12 = .ok (.iconst 0, 1) := by decide +kernel
theorem dX7_digestOfSteps_13 : decode cX7_digestOfSteps 13 = .ok (.istore 5, 2) := by decide +kernel
theorem dX7_digestOfSteps_15 : decode cX7_digestOfSteps 15 = .ok (.iload 5, 2) := by decide +kernel
theorem dX7_digestOfSteps_17 : decode cX7_digestOfSteps 17 = .ok (.aload_n 0, 1) := by decide +kernel
theorem dX7_digestOfSteps_18 : decode cX7_digestOfSteps 18 = .ok (.getfield 40, 3) := by decide +kernel
theorem dX7_digestOfSteps_21 : decode cX7_digestOfSteps 21 = .ok (.getfield 218, 3) := by decide +kernel
theorem dX7_digestOfSteps_24 : decode cX7_digestOfSteps 24 = .ok (.if_icmp .ge 43, 3) := by decide +kernel
theorem dX7_digestOfSteps_27 : decode cX7_digestOfSteps 27 = .ok (.lload_n 3, 1) := by decide +kernel
theorem dX7_digestOfSteps_28 : decode cX7_digestOfSteps 28 = .ok (.aload_n 0, 1) := by decide +kernel
theorem dX7_digestOfSteps_29 : decode cX7_digestOfSteps 29 = .ok (.getfield 40, 3) := by decide +kernel
theorem dX7_digestOfSteps_32 : decode cX7_digestOfSteps 32 = .ok (.getfield 224, 3) := by decide +kernel
theorem dX7_digestOfSteps_35 : decode cX7_digestOfSteps 35 = .ok (.iload 5, 2) := by decide +kernel
theorem dX7_digestOfSteps_37 : decode cX7_digestOfSteps 37 = .ok (.invokestatic 96, 3) := by decide +kernel
theorem dX7_digestOfSteps_40 : decode cX7_digestOfSteps 40 = .ok (.invokestatic 308, 3) := by decide +kernel
theorem dX7_digestOfSteps_43 : decode cX7_digestOfSteps 43 = .ok (.lstore_n 3, 1) := by decide +kernel
theorem dX7_digestOfSteps_44 : decode cX7_digestOfSteps 44 = .ok (.lload_n 3, 1) := by decide +kernel
theorem dX7_digestOfSteps_45 : decode cX7_digestOfSteps 45 = .ok (.aload_n 0, 1) := by decide +kernel
theorem dX7_digestOfSteps_46 : decode cX7_digestOfSteps 46 = .ok (.getfield 40, 3) := by decide +kernel
theorem dX7_digestOfSteps_49 : decode cX7_digestOfSteps 49 = .ok (.getfield 227, 3) := by decide +kernel
theorem dX7_digestOfSteps_52 : decode cX7_digestOfSteps 52 = .ok (.iload 5, 2) := by decide +kernel
theorem dX7_digestOfSteps_54 : decode cX7_digestOfSteps 54 = .ok (.invokestatic 96, 3) := by decide +kernel
theorem dX7_digestOfSteps_57 : decode cX7_digestOfSteps 57 = .ok (.invokestatic 308, 3) := by decide +kernel
theorem dX7_digestOfSteps_60 : decode cX7_digestOfSteps 60 = .ok (.lstore_n 3, 1) := by decide +kernel
theorem dX7_digestOfSteps_61 : decode cX7_digestOfSteps 61 = .ok (.iinc 5 1, 3) := by decide +kernel
theorem dX7_digestOfSteps_64 : decode cX7_digestOfSteps 64 = .ok (.goto (-49), 3) := by decide +kernel
theorem dX7_digestOfSteps_67 : decode cX7_digestOfSteps 67 = .ok (.lload_n 3, 1) := by decide +kernel
theorem dX7_digestOfSteps_68 : decode cX7_digestOfSteps 68 = .ok (.aload_n 0, 1) := by decide +kernel
theorem dX7_digestOfSteps_69 : decode cX7_digestOfSteps 69 = .ok (.getfield 40, 3) := by decide +kernel
theorem dX7_digestOfSteps_72 : decode cX7_digestOfSteps 72 = .ok (.getfield 230, 3) := by decide +kernel
theorem dX7_digestOfSteps_75 : decode cX7_digestOfSteps 75 = .ok (.invokestatic 188, 3) := by decide +kernel
theorem dX7_digestOfSteps_78 : decode cX7_digestOfSteps 78 = .ok (.invokestatic 308, 3) := by decide +kernel
theorem dX7_digestOfSteps_81 : decode cX7_digestOfSteps 81 = .ok (.lstore_n 3, 1) := by decide +kernel
theorem dX7_digestOfSteps_82 : decode cX7_digestOfSteps 82 = .ok (.lload_n 3, 1) := by decide +kernel
theorem dX7_digestOfSteps_83 : decode cX7_digestOfSteps 83 = .ok (.aload_n 0, 1) := by decide +kernel
theorem dX7_digestOfSteps_84 : decode cX7_digestOfSteps 84 = .ok (.getfield 40, 3) := by decide +kernel
theorem dX7_digestOfSteps_87 : decode cX7_digestOfSteps 87 = .ok (.getfield 230, 3) := by decide +kernel
theorem dX7_digestOfSteps_90 : decode cX7_digestOfSteps 90 = .ok (.invokestatic 188, 3) := by decide +kernel
theorem dX7_digestOfSteps_93 : decode cX7_digestOfSteps 93 = .ok (.iconst 1, 1) := by decide +kernel
theorem dX7_digestOfSteps_94 : decode cX7_digestOfSteps 94 = .ok (.if_icmp .ne 7, 3) := by decide +kernel
theorem dX7_digestOfSteps_97 : decode cX7_digestOfSteps 97 = .ok (.iconst 1, 1) := by decide +kernel
theorem dX7_digestOfSteps_98 : decode cX7_digestOfSteps 98 = .ok (.goto 4, 3) := by decide +kernel
theorem dX7_digestOfSteps_101 : decode cX7_digestOfSteps 101 = .ok (.iconst 0, 1) := by decide +kernel
theorem dX7_digestOfSteps_102 : decode cX7_digestOfSteps 102 = .ok (.invokestatic 312, 3) := by decide +kernel
theorem dX7_digestOfSteps_105 : decode cX7_digestOfSteps 105 = .ok (.lreturn, 1) := by decide +kernel
set_option maxHeartbeats 4000000 in
set_option maxRecDepth 100000 in
theorem c_dgSteps (l : Launch) (D : va_G) (cI cJ : ClassId) (ad : Nat → Nat) (co fl ra li re wa pi : Ob) (l1 : Int64) : CT l D (TY cI cJ) yX7_digestOfSteps (.code yX7_digestOfSteps cX7_digestOfSteps 6 (some Jvm.ClassFile.FieldType.long)) 3 0 0 (XW ad cI cJ co fl ra li re wa pi) [.ref (ad 0), .long l1] (QL D (TY cI cJ) (fun r u => r = (dgSteps re l1) ∧ u = (XW ad cI cJ co fl ra li re wa pi))) := by
  refine ent (by decide) (Nat.le_of_ble_eq_true rfl) ?_
  intro p e s m below meth c ls A hx hb hr hg hown hml hlocks hnm hP hK hD hS hA hN hl
  have hl : lv_has ls 6 [(0, .ref (ad 0)), (1, .long l1)] := hl
  refine lv_lload_n hx hb dX7_digestOfSteps_0 rfl (lv_at hl 1 rfl) ?_
  refine lv_aload_n hx hb dX7_digestOfSteps_1 rfl (lv_at hl 0 rfl) ?_
  refine va_get (D := D) (ci := 7) (v := .ref (ad 5)) (C := RX7) (T := TX7) (N := 6) hx hb hg inGX7 hown hK hP 0 xo0 rfl 4 (by decide) (hg _ mw_342) (fun _ h9 => h9) xvX7_4 dX7_digestOfSteps_2 ?_
  refine va_getN (D := D) (ci := 5) (v := .int (gi re 0)) (C := RX5) (T := TX5) (N := 8) hx hb hg inGX5 hown hK hP 5 xo5 rfl 6 (by decide) (hN.use nw_51) (fun _ h9 => h9) (xvX5_6 rfl) dX7_digestOfSteps_5 ?_
  refine kL (rS hx hb hml hown hg hN hK hP hD (c_mix l D cI cJ (XW ad cI cJ co fl ra li re wa pi) l1 (gi re 0)) mw_371 mw_372 mw_373 mw_77 pd_X7_mix ⟨Nat.le_of_ble_eq_true rfl, Nat.le_of_ble_eq_true rfl⟩ rfl hl.1 rfl (Nat.le_of_ble_eq_true rfl) dX7_digestOfSteps_8 ⟨Nat.le_of_ble_eq_true rfl, Nat.le_of_ble_eq_true rfl⟩) hD hS hA (fun r_1 u_1 H locs hp hP hD hS => ?_)
  obtain ⟨er, eu⟩ := hp
  obtain rfl := er.symm
  obtain rfl := eu.symm
  refine lv_lstore_n (lv' := [(3, .long (mixI l1 (gi re 0))), (0, .ref (ad 0)), (1, .long l1)]) hx hb dX7_digestOfSteps_11 rfl hl (by decide) rfl (fun ls hl => ?_)
  refine lv_iconst (v := 0) hx hb dX7_digestOfSteps_12 (by decide) ?_
  refine lv_istore (lv' := [(5, .int 0), (3, .long (mixI l1 (gi re 0))), (0, .ref (ad 0)), (1, .long l1)]) hx hb dX7_digestOfSteps_13 hl (by decide) rfl (fun ls hl => ?_)
  refine w_loop (σ := Int64) (fun (i_2 : Nat) (p_2 : Int64) (H : Heap) (locs : List Loc) (ls : Array Slot) => p_2 = (lp (dgS re) i_2 (mixI l1 (gi re 0))) ∧ va_P D vwCl (XW ad cI cJ co fl ra li re wa pi) H ∧ va_D A (XW ad cI cJ co fl ra li re wa pi) ∧ va_S A s.heap H locs ∧ lv_has ls 6 [(0, .ref (ad 0)), (1, .long l1), (3, .long p_2), (5, .int (nI i_2))]) (nN (gi re 0)) (fun p_2 H locs ls hI => ?_) (fun i_2 p_2 H locs ls hi_2 hI ih_2 => ?_) 0 (mixI l1 (gi re 0)) (Nat.zero_le _) ⟨(lp_0 _ _), hP, hD, hS, (by rw [nI_0]; exact lv_sub hl [2, 3, 1, 0] rfl)⟩
  · obtain ⟨h_2, hP, hD, hS, hl⟩ := hI
    have h_2 := h_2.symm
    subst h_2
    have hP : va_P D vwCl (XW ad cI cJ co fl ra li re wa pi) H := hP
    have hD : va_D A (XW ad cI cJ co fl ra li re wa pi) := hD
    have hl : lv_has ls 6 [(0, .ref (ad 0)), (1, .long l1), (3, .long ((lp (dgS re) (nN (gi re 0)) (mixI l1 (gi re 0))))), (5, .int (nI ((nN (gi re 0)))))] := hl
    refine lv_iload hx hb dX7_digestOfSteps_15 (lv_at hl 3 rfl) ?_
    refine lv_aload_n hx hb dX7_digestOfSteps_17 rfl (lv_at hl 0 rfl) ?_
    refine va_get (D := D) (ci := 7) (v := .ref (ad 5)) (C := RX7) (T := TX7) (N := 6) hx hb hg inGX7 hown hK hP 0 xo0 rfl 4 (by decide) (hg _ mw_342) (fun _ h9 => h9) xvX7_4 dX7_digestOfSteps_18 ?_
    refine va_getN (D := D) (ci := 5) (v := .int (gi re 0)) (C := RX5) (T := TX5) (N := 8) hx hb hg inGX5 hown hK hP 5 xo5 rfl 6 (by decide) (hN.use nw_51) (fun _ h9 => h9) (xvX5_6 rfl) dX7_digestOfSteps_21 ?_
    refine lv_icmp_ge (tgt := 67) hx hb dX7_digestOfSteps_24 (by decide) (fun _ => ?_) (fun c_24 => absurd (lp_out _) c_24)
    refine lv_lload_n hx hb dX7_digestOfSteps_67 rfl (lv_at hl 2 rfl) ?_
    refine lv_aload_n hx hb dX7_digestOfSteps_68 rfl (lv_at hl 0 rfl) ?_
    refine va_get (D := D) (ci := 7) (v := .ref (ad 5)) (C := RX7) (T := TX7) (N := 6) hx hb hg inGX7 hown hK hP 0 xo0 rfl 4 (by decide) (hg _ mw_342) (fun _ h9 => h9) xvX7_4 dX7_digestOfSteps_69 ?_
    refine va_getN (D := D) (ci := 5) (v := .long (gl re 0)) (C := RX5) (T := TX5) (N := 8) hx hb hg inGX5 hown hK hP 5 xo5 rfl 5 (by decide) (hN.use nw_50) (fun _ h9 => h9) (xvX5_5 rfl) dX7_digestOfSteps_72 ?_
    refine kI (rS hx hb hml hown hg hN hK hP hD (c_bitCount l D cI cJ (XW ad cI cJ co fl ra li re wa pi) (gl re 0)) mw_68 mw_69 mw_70 mw_71 pd_J13_bitCount_95d88 ⟨Nat.le_of_ble_eq_true rfl, Nat.le_of_ble_eq_true rfl⟩ rfl hl.1 rfl (Nat.le_of_ble_eq_true rfl) dX7_digestOfSteps_75 ⟨Nat.le_of_ble_eq_true rfl, Nat.le_of_ble_eq_true rfl⟩) hD hS hA (fun r_3 u_3 H locs hp hP hD hS => ?_)
    obtain ⟨er, eu⟩ := hp
    obtain rfl := er.symm
    obtain rfl := eu.symm
    refine kL (rS hx hb hml hown hg hN hK hP hD (c_mix l D cI cJ (XW ad cI cJ co fl ra li re wa pi) ((lp (dgS re) (nN (gi re 0)) (mixI l1 (gi re 0)))) (bc (gl re 0))) mw_371 mw_372 mw_373 mw_77 pd_X7_mix ⟨Nat.le_of_ble_eq_true rfl, Nat.le_of_ble_eq_true rfl⟩ rfl hl.1 rfl (Nat.le_of_ble_eq_true rfl) dX7_digestOfSteps_78 ⟨Nat.le_of_ble_eq_true rfl, Nat.le_of_ble_eq_true rfl⟩) hD hS hA (fun r_4 u_4 H locs hp hP hD hS => ?_)
    obtain ⟨er, eu⟩ := hp
    obtain rfl := er.symm
    obtain rfl := eu.symm
    refine lv_lstore_n (lv' := [(3, .long (mixI ((lp (dgS re) (nN (gi re 0)) (mixI l1 (gi re 0)))) (bc (gl re 0)))), (0, .ref (ad 0)), (1, .long l1), (5, .int (nI ((nN (gi re 0)))))]) hx hb dX7_digestOfSteps_81 rfl hl (by decide) rfl (fun ls hl => ?_)
    refine lv_lload_n hx hb dX7_digestOfSteps_82 rfl (lv_at hl 0 rfl) ?_
    refine lv_aload_n hx hb dX7_digestOfSteps_83 rfl (lv_at hl 1 rfl) ?_
    refine va_get (D := D) (ci := 7) (v := .ref (ad 5)) (C := RX7) (T := TX7) (N := 6) hx hb hg inGX7 hown hK hP 0 xo0 rfl 4 (by decide) (hg _ mw_342) (fun _ h9 => h9) xvX7_4 dX7_digestOfSteps_84 ?_
    refine va_getN (D := D) (ci := 5) (v := .long (gl re 0)) (C := RX5) (T := TX5) (N := 8) hx hb hg inGX5 hown hK hP 5 xo5 rfl 5 (by decide) (hN.use nw_50) (fun _ h9 => h9) (xvX5_5 rfl) dX7_digestOfSteps_87 ?_
    refine kI (rS hx hb hml hown hg hN hK hP hD (c_bitCount l D cI cJ (XW ad cI cJ co fl ra li re wa pi) (gl re 0)) mw_68 mw_69 mw_70 mw_71 pd_J13_bitCount_95d88 ⟨Nat.le_of_ble_eq_true rfl, Nat.le_of_ble_eq_true rfl⟩ rfl hl.1 rfl (Nat.le_of_ble_eq_true rfl) dX7_digestOfSteps_90 ⟨Nat.le_of_ble_eq_true rfl, Nat.le_of_ble_eq_true rfl⟩) hD hS hA (fun r_5 u_5 H locs hp hP hD hS => ?_)
    obtain ⟨er, eu⟩ := hp
    obtain rfl := er.symm
    obtain rfl := eu.symm
    refine lv_iconst (v := 1) hx hb dX7_digestOfSteps_93 (by decide) ?_
    refine lv_icmp_ne (tgt := 101) hx hb dX7_digestOfSteps_94 (by decide) (fun c_94 => ?_) (fun c_94 => ?_)
    · refine lv_iconst (v := 0) hx hb dX7_digestOfSteps_101 (by decide) ?_
      refine kL (rS hx hb hml hown hg hN hK hP hD (c_mixZ l D cI cJ (XW ad cI cJ co fl ra li re wa pi) (mixI ((lp (dgS re) (nN (gi re 0)) (mixI l1 (gi re 0)))) (bc (gl re 0))) false) mw_376 mw_377 mw_378 mw_77 pd_X7_mix_ ⟨Nat.le_of_ble_eq_true rfl, Nat.le_of_ble_eq_true rfl⟩ rfl hl.1 rfl (Nat.le_of_ble_eq_true rfl) dX7_digestOfSteps_102 ⟨Nat.le_of_ble_eq_true rfl, Nat.le_of_ble_eq_true rfl⟩) hD hS hA (fun r_6 u_6 H locs hp hP hD hS => ?_)
      obtain ⟨er, eu⟩ := hp
      obtain rfl := er.symm
      obtain rfl := eu.symm
      exact W.lret (v := (mixZ (mixI ((lp (dgS re) (nN (gi re 0)) (mixI l1 (gi re 0)))) (bc (gl re 0))) false)) hx hb hr (fun t ht hW => ⟨⟨(mixZ (mixI ((lp (dgS re) (nN (gi re 0)) (mixI l1 (gi re 0)))) (bc (gl re 0))) false), (XW ad cI cJ co fl ra li re wa pi), rfl, ⟨(show ((mixZ (mixI ((lp (dgS re) (nN (gi re 0)) (mixI l1 (gi re 0)))) (bc (gl re 0))) false) : Int64) = (dgSteps re l1) from (by simp only [dgSteps, eq_false c_94, gi_sl, gi_sA, gi_sB, gi_si_s, gi_si_n, gl_si, gl_sA, gl_sB, gl_sl_s, gl_sl_n, gA_si, gA_sl, gA_sB, gA_sA_s, gA_sA_n, gB_si, gB_sl, gB_sA, gB_sB_s, gB_sB_n, Nat.reduceBEq, if_true, if_false, eq_self, Bool.false_eq_true, Bool.true_eq_false, not_true_eq_false, not_false_eq_true, decide_true, decide_false, cond_true, cond_false, Bool.true_and, Bool.false_and, Bool.and_true, Bool.and_false, Bool.true_or, Bool.false_or, Bool.or_true, Bool.or_false, b2i_tt, b2i_ff, pr_eta]; done)), xw_eq rfl rfl rfl rfl rfl rfl rfl⟩, ⟨by rw [ht]; exact hP, va_K.moved hW.alike hK, hD⟩⟩, hS.F ht⟩) hS.2.2 dX7_digestOfSteps_105
    · refine lv_iconst (v := 1) hx hb dX7_digestOfSteps_97 (by decide) ?_
      refine lv_goto (tgt := 102) hx hb dX7_digestOfSteps_98 (by decide) ?_
      refine kL (rS hx hb hml hown hg hN hK hP hD (c_mixZ l D cI cJ (XW ad cI cJ co fl ra li re wa pi) (mixI ((lp (dgS re) (nN (gi re 0)) (mixI l1 (gi re 0)))) (bc (gl re 0))) true) mw_376 mw_377 mw_378 mw_77 pd_X7_mix_ ⟨Nat.le_of_ble_eq_true rfl, Nat.le_of_ble_eq_true rfl⟩ rfl hl.1 rfl (Nat.le_of_ble_eq_true rfl) dX7_digestOfSteps_102 ⟨Nat.le_of_ble_eq_true rfl, Nat.le_of_ble_eq_true rfl⟩) hD hS hA (fun r_7 u_7 H locs hp hP hD hS => ?_)
      obtain ⟨er, eu⟩ := hp
      obtain rfl := er.symm
      obtain rfl := eu.symm
      exact W.lret (v := (mixZ (mixI ((lp (dgS re) (nN (gi re 0)) (mixI l1 (gi re 0)))) (bc (gl re 0))) true)) hx hb hr (fun t ht hW => ⟨⟨(mixZ (mixI ((lp (dgS re) (nN (gi re 0)) (mixI l1 (gi re 0)))) (bc (gl re 0))) true), (XW ad cI cJ co fl ra li re wa pi), rfl, ⟨(show ((mixZ (mixI ((lp (dgS re) (nN (gi re 0)) (mixI l1 (gi re 0)))) (bc (gl re 0))) true) : Int64) = (dgSteps re l1) from (by simp only [dgSteps, eq_true c_94, gi_sl, gi_sA, gi_sB, gi_si_s, gi_si_n, gl_si, gl_sA, gl_sB, gl_sl_s, gl_sl_n, gA_si, gA_sl, gA_sB, gA_sA_s, gA_sA_n, gB_si, gB_sl, gB_sA, gB_sB_s, gB_sB_n, Nat.reduceBEq, if_true, if_false, eq_self, Bool.false_eq_true, Bool.true_eq_false, not_true_eq_false, not_false_eq_true, decide_true, decide_false, cond_true, cond_false, Bool.true_and, Bool.false_and, Bool.and_true, Bool.and_false, Bool.true_or, Bool.false_or, Bool.or_true, Bool.or_false, b2i_tt, b2i_ff, pr_eta]; done)), xw_eq rfl rfl rfl rfl rfl rfl rfl⟩, ⟨by rw [ht]; exact hP, va_K.moved hW.alike hK, hD⟩⟩, hS.F ht⟩) hS.2.2 dX7_digestOfSteps_105
  · obtain ⟨h_2, hP, hD, hS, hl⟩ := hI
    have hP : va_P D vwCl (XW ad cI cJ co fl ra li re wa pi) H := hP
    have hD : va_D A (XW ad cI cJ co fl ra li re wa pi) := hD
    have hl : lv_has ls 6 [(0, .ref (ad 0)), (1, .long l1), (3, .long p_2), (5, .int (nI i_2))] := hl
    refine lv_iload hx hb dX7_digestOfSteps_15 (lv_at hl 3 rfl) ?_
    refine lv_aload_n hx hb dX7_digestOfSteps_17 rfl (lv_at hl 0 rfl) ?_
    refine va_get (D := D) (ci := 7) (v := .ref (ad 5)) (C := RX7) (T := TX7) (N := 6) hx hb hg inGX7 hown hK hP 0 xo0 rfl 4 (by decide) (hg _ mw_342) (fun _ h9 => h9) xvX7_4 dX7_digestOfSteps_18 ?_
    refine va_getN (D := D) (ci := 5) (v := .int (gi re 0)) (C := RX5) (T := TX5) (N := 8) hx hb hg inGX5 hown hK hP 5 xo5 rfl 6 (by decide) (hN.use nw_51) (fun _ h9 => h9) (xvX5_6 rfl) dX7_digestOfSteps_21 ?_
    refine lv_icmp_ge (tgt := 67) hx hb dX7_digestOfSteps_24 (by decide) (fun c_24 => absurd c_24 (lp_in hi_2)) (fun _ => ?_)
    refine lv_lload_n hx hb dX7_digestOfSteps_27 rfl (lv_at hl 2 rfl) ?_
    refine lv_aload_n hx hb dX7_digestOfSteps_28 rfl (lv_at hl 0 rfl) ?_
    refine va_get (D := D) (ci := 7) (v := .ref (ad 5)) (C := RX7) (T := TX7) (N := 6) hx hb hg inGX7 hown hK hP 0 xo0 rfl 4 (by decide) (hg _ mw_342) (fun _ h9 => h9) xvX7_4 dX7_digestOfSteps_29 ?_
    refine va_getN (D := D) (ci := 5) (v := .ref (ad 26)) (C := RX5) (T := TX5) (N := 8) hx hb hg inGX5 hown hK hP 5 xo5 rfl 2 (by decide) (hN.use nw_48) (fun _ h9 => h9) xvX5_2 dX7_digestOfSteps_32 ?_
    refine lv_iload hx hb dX7_digestOfSteps_35 (lv_at hl 3 rfl) ?_
    refine kI (rS hx hb hml hown hg hN hK hP hD (c_at l D cI cJ (XW ad cI cJ co fl ra li re wa pi) 26 (ad 26) 120 (gA re 1) (nI i_2) (xg26 rfl) (by decide)) mw_84 mw_374 mw_85 mw_77 pd_X7_at ⟨Nat.le_of_ble_eq_true rfl, Nat.le_of_ble_eq_true rfl⟩ rfl hl.1 rfl (Nat.le_of_ble_eq_true rfl) dX7_digestOfSteps_37 ⟨Nat.le_of_ble_eq_true rfl, Nat.le_of_ble_eq_true rfl⟩) hD hS hA (fun r_8 u_8 H locs hp hP hD hS => ?_)
    obtain ⟨er, eu⟩ := hp
    obtain rfl := er.symm
    obtain rfl := eu.symm
    refine kL (rS hx hb hml hown hg hN hK hP hD (c_mix l D cI cJ (XW ad cI cJ co fl ra li re wa pi) p_2 (rd (gA re 1) 120 (nI i_2))) mw_371 mw_372 mw_373 mw_77 pd_X7_mix ⟨Nat.le_of_ble_eq_true rfl, Nat.le_of_ble_eq_true rfl⟩ rfl hl.1 rfl (Nat.le_of_ble_eq_true rfl) dX7_digestOfSteps_40 ⟨Nat.le_of_ble_eq_true rfl, Nat.le_of_ble_eq_true rfl⟩) hD hS hA (fun r_9 u_9 H locs hp hP hD hS => ?_)
    obtain ⟨er, eu⟩ := hp
    obtain rfl := er.symm
    obtain rfl := eu.symm
    refine lv_lstore_n (lv' := [(3, .long (mixI p_2 (rd (gA re 1) 120 (nI i_2)))), (0, .ref (ad 0)), (1, .long l1), (5, .int (nI i_2))]) hx hb dX7_digestOfSteps_43 rfl hl (by decide) rfl (fun ls hl => ?_)
    refine lv_lload_n hx hb dX7_digestOfSteps_44 rfl (lv_at hl 0 rfl) ?_
    refine lv_aload_n hx hb dX7_digestOfSteps_45 rfl (lv_at hl 1 rfl) ?_
    refine va_get (D := D) (ci := 7) (v := .ref (ad 5)) (C := RX7) (T := TX7) (N := 6) hx hb hg inGX7 hown hK hP 0 xo0 rfl 4 (by decide) (hg _ mw_342) (fun _ h9 => h9) xvX7_4 dX7_digestOfSteps_46 ?_
    refine va_getN (D := D) (ci := 5) (v := .ref (ad 27)) (C := RX5) (T := TX5) (N := 8) hx hb hg inGX5 hown hK hP 5 xo5 rfl 3 (by decide) (hN.use nw_49) (fun _ h9 => h9) xvX5_3 dX7_digestOfSteps_49 ?_
    refine lv_iload hx hb dX7_digestOfSteps_52 (lv_at hl 3 rfl) ?_
    refine kI (rS hx hb hml hown hg hN hK hP hD (c_at l D cI cJ (XW ad cI cJ co fl ra li re wa pi) 27 (ad 27) 120 (gA re 2) (nI i_2) (xg27 rfl) (by decide)) mw_84 mw_374 mw_85 mw_77 pd_X7_at ⟨Nat.le_of_ble_eq_true rfl, Nat.le_of_ble_eq_true rfl⟩ rfl hl.1 rfl (Nat.le_of_ble_eq_true rfl) dX7_digestOfSteps_54 ⟨Nat.le_of_ble_eq_true rfl, Nat.le_of_ble_eq_true rfl⟩) hD hS hA (fun r_10 u_10 H locs hp hP hD hS => ?_)
    obtain ⟨er, eu⟩ := hp
    obtain rfl := er.symm
    obtain rfl := eu.symm
    refine kL (rS hx hb hml hown hg hN hK hP hD (c_mix l D cI cJ (XW ad cI cJ co fl ra li re wa pi) (mixI p_2 (rd (gA re 1) 120 (nI i_2))) (rd (gA re 2) 120 (nI i_2))) mw_371 mw_372 mw_373 mw_77 pd_X7_mix ⟨Nat.le_of_ble_eq_true rfl, Nat.le_of_ble_eq_true rfl⟩ rfl hl.1 rfl (Nat.le_of_ble_eq_true rfl) dX7_digestOfSteps_57 ⟨Nat.le_of_ble_eq_true rfl, Nat.le_of_ble_eq_true rfl⟩) hD hS hA (fun r_11 u_11 H locs hp hP hD hS => ?_)
    obtain ⟨er, eu⟩ := hp
    obtain rfl := er.symm
    obtain rfl := eu.symm
    refine lv_lstore_n (lv' := [(3, .long (mixI (mixI p_2 (rd (gA re 1) 120 (nI i_2))) (rd (gA re 2) 120 (nI i_2)))), (0, .ref (ad 0)), (1, .long l1), (5, .int (nI i_2))]) hx hb dX7_digestOfSteps_60 rfl hl (by decide) rfl (fun ls hl => ?_)
    refine lv_iinc (v := (nI (i_2 + 1))) (lv' := [(5, .int (nI (i_2 + 1))), (3, .long (mixI (mixI p_2 (rd (gA re 1) 120 (nI i_2))) (rd (gA re 2) 120 (nI i_2)))), (0, .ref (ad 0)), (1, .long l1)]) hx hb dX7_digestOfSteps_61 hl (k := 3) rfl (nI_1 i_2) (by decide) rfl (fun ls hl => ?_)
    refine lv_goto (tgt := 15) hx hb dX7_digestOfSteps_64 (by decide) ?_
    exact ih_2 (mixI (mixI p_2 (rd (gA re 1) 120 (nI i_2))) (rd (gA re 2) 120 (nI i_2))) H locs ls ⟨((show (mixI (mixI p_2 (rd (gA re 1) 120 (nI i_2))) (rd (gA re 2) 120 (nI i_2))) = (dgS re) i_2 p_2 from (by first | with_reducible rfl | (simp only [dgS, gi_sl, gi_sA, gi_sB, gi_si_s, gi_si_n, gl_si, gl_sA, gl_sB, gl_sl_s, gl_sl_n, gA_si, gA_sl, gA_sB, gA_sA_s, gA_sA_n, gB_si, gB_sl, gB_sA, gB_sB_s, gB_sB_n, Nat.reduceBEq, if_true, if_false, eq_self, Bool.false_eq_true, Bool.true_eq_false, not_true_eq_false, not_false_eq_true, decide_true, decide_false, cond_true, cond_false, Bool.true_and, Bool.false_and, Bool.and_true, Bool.and_false, Bool.true_or, Bool.false_or, Bool.or_true, Bool.or_false, b2i_tt, b2i_ff, pr_eta]; done))).trans (lp_go h_2)), hP, hD, hS, lv_sub hl [2, 3, 1, 0] rfl⟩
