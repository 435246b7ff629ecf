theorem dX7_digestOfLayers_0 : decode cX7_digestOfLayers 0 = .ok (.lload_n 1, 1) := by decide +kernel
theorem dX7_digestOfLayers_1 : decode cX7_digestOfLayers 1 = .ok (.aload_n 0, 1) := by decide +kernel
theorem dX7_digestOfLayers_2 : decode cX7_digestOfLayers 2 = .ok (.getfield 47, 3) := by decide +kernel
theorem dX7_digestOfLayers_5 : decode cX7_digestOfLayers 5 = .ok (.getfield 238, 3) := by decide +kernel
theorem dX7_digestOfLayers_8 : decode cX7_digestOfLayers 8 = .ok (.invokestatic 308, 3) := by decide +kernel
theorem dX7_digestOfLayers_11 : decode cX7_digestOfLayers 11 = .ok (.lstore_n 3, 1) := by decide +kernel
theorem dX7_digestOfLayers_12 : decode cX7_digestOfLayers 12 = .ok (.iconst 0, 1) := by decide +kernel
theorem dX7_digestOfLayers_13 : decode cX7_digestOfLayers 13 = .ok (.istore 5, 2) := by decide +kernel
theorem dX7_digestOfLayers_15 : decode cX7_digestOfLayers 15 = .ok (.iload 5, 2) := by decide +kernel
theorem dX7_digestOfLayers_17 : decode cX7_digestOfLayers 17 = .ok (.aload_n 0, 1) := by decide +kernel
theorem dX7_digestOfLayers_18 : decode cX7_digestOfLayers 18 = .ok (.getfield 47, 3) := by decide +kernel
theorem dX7_digestOfLayers_21 : decode cX7_digestOfLayers 21 = .ok (.getfield 238, 3) := by decide +kernel
theorem dX7_digestOfLayers_24 : decode cX7_digestOfLayers 24 = .ok (.if_icmp .ge 59, 3) := by decide +kernel
theorem dX7_digestOfLayers_27 : decode cX7_digestOfLayers 27 = .ok (.aload_n 0, 1) := by decide +kernel
theorem dX7_digestOfLayers_28 : decode cX7_digestOfLayers 28 = .ok (.getfield 47, 3) := by decide +kernel
theorem dX7_digestOfLayers_31 : decode cX7_digestOfLayers 31 = .ok (.iload 5, 2) := by decide +kernel
theorem dX7_digestOfLayers_33 : decode cX7_digestOfLayers 33 = .ok (.invokevirtual 256, 3) := by decide +kernel
theorem dX7_digestOfLayers_36 : decode cX7_digestOfLayers 36 = .ok (.istore 6, 2) := by decide +kernel
theorem dX7_digestOfLayers_38 : decode cX7_digestOfLayers 38 = .ok (.lload_n 3, 1) := by decide +kernel
theorem dX7_digestOfLayers_39 : decode cX7_digestOfLayers 39 = .ok (.iload 6, 2) := by decide +kernel
theorem dX7_digestOfLayers_41 : decode cX7_digestOfLayers 41 = .ok (.invokestatic 308, 3) := by decide +kernel
theorem dX7_digestOfLayers_44 : decode cX7_digestOfLayers 44 = .ok (.lstore_n 3, 1) := by decide +kernel
theorem dX7_digestOfLayers_45 : decode cX7_digestOfLayers 45 = .ok (.iconst 0, 1) := by decide +kernel
theorem dX7_digestOfLayers_46 : decode cX7_digestOfLayers 46 = .ok (.istore 7, 2) := by decide +kernel
theorem dX7_digestOfLayers_48 : decode cX7_digestOfLayers 48 = .ok (.iload 7, 2) := by decide +kernel
theorem dX7_digestOfLayers_50 : decode cX7_digestOfLayers 50 = .ok (.iload 6, 2) := by decide +kernel
theorem dX7_digestOfLayers_52 : decode cX7_digestOfLayers 52 = .ok (.if_icmp .ge 25, 3) := by decide +kernel
theorem dX7_digestOfLayers_55 : decode cX7_digestOfLayers 55 = .ok (.lload_n 3, 1) := by decide +kernel
theorem dX7_digestOfLayers_56 : decode cX7_digestOfLayers 56 = .ok (.aload_n 0, 1) := by decide +kernel
theorem dX7_digestOfLayers_57 : decode cX7_digestOfLayers 57 = .ok (.getfield 47, 3) := by decide +kernel
theorem dX7_digestOfLayers_60 : decode cX7_digestOfLayers 60 = .ok (.iload 5, 2) := by decide +kernel
theorem dX7_digestOfLayers_62 : decode cX7_digestOfLayers 62 = .ok (.iload 7, 2) := by decide +kernel
theorem dX7_digestOfLayers_64 : decode cX7_digestOfLayers 64 = .ok (.invokevirtual 262, 3) := by decide +kernel
theorem dX7_digestOfLayers_67 : decode cX7_digestOfLayers 67 = .ok (.invokestatic 308, 3) := by decide +kernel
theorem dX7_digestOfLayers_70 : decode cX7_digestOfLayers 70 = .ok (.lstore_n 3, 1) := by decide +kernel
theorem dX7_digestOfLayers_71 : decode cX7_digestOfLayers 71 = .ok (.iinc 7 1, 3) := by decide +kernel
theorem dX7_digestOfLayers_74 : decode cX7_digestOfLayers 74 = .ok (.goto (-26), 3) := by decide +kernel
theorem dX7_digestOfLayers_77 : decode cX7_digestOfLayers 77 = .ok (.iinc 5 1, 3) := by decide +kernel
theorem dX7_digestOfLayers_80 : decode cX7_digestOfLayers 80 = .ok (.goto (-65), 3) := by decide +kernel
theorem dX7_digestOfLayers_83 : decode cX7_digestOfLayers 83 = .ok (.lload_n 3, 1) := by decide +kernel
theorem dX7_digestOfLayers_84 : decode cX7_digestOfLayers 84 = .ok (.lreturn, 1) := by decide +kernel
theorem mw_400 : Cond.methodLink RX7 256 yX3_sizeOf ∈ GW := gw_mem (inT3 _ (List.mem_of_getElem? (i := 139) rfl)) rfl
theorem mw_401 : Cond.code yX3_shownAt cX3_shownAt 4 (some Jvm.ClassFile.FieldType.int) ∈ GW := gw_mem (inT3 _ (List.mem_of_getElem? (i := 146) rfl)) rfl
theorem mw_402 : Cond.methodLink RX7 262 yX3_shownAt ∈ GW := gw_mem (inT3 _ (List.mem_of_getElem? (i := 143) rfl)) rfl
theorem mw_403 : Cond.instanceMethod yX3_shownAt ∈ GW := gw_mem (inT3 _ (List.mem_of_getElem? (i := 144) rfl)) rfl
theorem mw_404 : Cond.selects RX3 yX3_shownAt yX3_shownAt ∈ GW := gw_mem (inT3 _ (List.mem_of_getElem? (i := 145) rfl)) rfl
theorem pdv_X3_shownAt : yX3_shownAt.cls = RX3 ∧ yX3_shownAt.cls ≠ "java/lang/invoke/MethodHandle" ∧ yX3_shownAt.cls ≠ "java/lang/invoke/VarHandle" ∧ (parseMethodDescriptor yX3_shownAt.desc).map (fun d => d.parameters.length) = some 2 := by decide +kernel
set_option maxHeartbeats 4000000 in
set_option maxRecDepth 100000 in
theorem c_dgLayers (l : Launch) (D : va_G) (cI cJ : ClassId) (ad : Nat → Nat) (co fl ra li re wa pi : Ob) (l1 : Int64) : CT l D (TY cI cJ) yX7_digestOfLayers (.code yX7_digestOfLayers cX7_digestOfLayers 8 (some Jvm.ClassFile.FieldType.long)) 3 0 0 (XW ad cI cJ co fl ra li re wa pi) [.ref (ad 0), .long l1] (QL D (TY cI cJ) (fun r u => r = (dgLayers pi l1) ∧ u = (XW ad cI cJ co fl ra li re wa pi))) := by
  refine ent (by decide) (Nat.le_of_ble_eq_true rfl) ?_
  intro p e s m below meth c ls A hx hb hr hg hown hml hlocks hnm hP hK hD hS hA hN hl
  have hl : lv_has ls 8 [(0, .ref (ad 0)), (1, .long l1)] := hl
  refine lv_lload_n hx hb dX7_digestOfLayers_0 rfl (lv_at hl 1 rfl) ?_
  refine lv_aload_n hx hb dX7_digestOfLayers_1 rfl (lv_at hl 0 rfl) ?_
  refine va_get (D := D) (ci := 7) (v := .ref (ad 6)) (C := RX7) (T := TX7) (N := 6) hx hb hg inGX7 hown hK hP 0 xo0 rfl 5 (by decide) (hg _ mw_347) (fun _ h9 => h9) xvX7_5 dX7_digestOfLayers_2 ?_
  refine va_getN (D := D) (ci := 3) (v := .int (gi pi 1)) (C := RX3) (T := TX3) (N := 16) hx hb hg inGX3 hown hK hP 6 xo6 rfl 13 (by decide) (hN.use nw_62) (fun _ h9 => h9) (xvX3_13 rfl) dX7_digestOfLayers_5 ?_
  refine kL (rS hx hb hml hown hg hN hK hP hD (c_mix l D cI cJ (XW ad cI cJ co fl ra li re wa pi) l1 (gi pi 1)) mw_371 mw_372 mw_373 mw_77 pd_X7_mix ⟨Nat.le_of_ble_eq_true rfl, Nat.le_of_ble_eq_true rfl⟩ rfl hl.1 rfl (Nat.le_of_ble_eq_true rfl) dX7_digestOfLayers_8 ⟨Nat.le_of_ble_eq_true rfl, Nat.le_of_ble_eq_true rfl⟩) hD hS hA (fun r_1 u_1 H locs hp hP hD hS => ?_)
  obtain ⟨er, eu⟩ := hp
  obtain rfl := er.symm
  obtain rfl := eu.symm
  refine lv_lstore_n (lv' := [(3, .long (mixI l1 (gi pi 1))), (0, .ref (ad 0)), (1, .long l1)]) hx hb dX7_digestOfLayers_11 rfl hl (by decide) rfl (fun ls hl => ?_)
  refine lv_iconst (v := 0) hx hb dX7_digestOfLayers_12 (by decide) ?_
  refine lv_istore (lv' := [(5, .int 0), (3, .long (mixI l1 (gi pi 1))), (0, .ref (ad 0)), (1, .long l1)]) hx hb dX7_digestOfLayers_13 hl (by decide) rfl (fun ls hl => ?_)
  refine w_loop (σ := Int64) (fun (i_2 : Nat) (p_2 : Int64) (H : Heap) (locs : List Loc) (ls : Array Slot) => p_2 = (lp (dgL pi) i_2 (mixI l1 (gi pi 1))) ∧ va_P D vwCl (XW ad cI cJ co fl ra li re wa pi) H ∧ va_D A (XW ad cI cJ co fl ra li re wa pi) ∧ va_S A s.heap H locs ∧ lv_has ls 8 [(0, .ref (ad 0)), (1, .long l1), (3, .long p_2), (5, .int (nI i_2))]) (nN (gi pi 1)) (fun p_2 H locs ls hI => ?_) (fun i_2 p_2 H locs ls hi_2 hI ih_2 => ?_) 0 (mixI l1 (gi pi 1)) (Nat.zero_le _) ⟨(lp_0 _ _), hP, hD, hS, (by rw [nI_0]; exact lv_sub hl [2, 3, 1, 0] rfl)⟩
  · obtain ⟨h_2, hP, hD, hS, hl⟩ := hI
    have h_2 := h_2.symm
    subst h_2
    have hP : va_P D vwCl (XW ad cI cJ co fl ra li re wa pi) H := hP
    have hD : va_D A (XW ad cI cJ co fl ra li re wa pi) := hD
    have hl : lv_has ls 8 [(0, .ref (ad 0)), (1, .long l1), (3, .long ((lp (dgL pi) (nN (gi pi 1)) (mixI l1 (gi pi 1))))), (5, .int (nI ((nN (gi pi 1)))))] := hl
    refine lv_iload hx hb dX7_digestOfLayers_15 (lv_at hl 3 rfl) ?_
    refine lv_aload_n hx hb dX7_digestOfLayers_17 rfl (lv_at hl 0 rfl) ?_
    refine va_get (D := D) (ci := 7) (v := .ref (ad 6)) (C := RX7) (T := TX7) (N := 6) hx hb hg inGX7 hown hK hP 0 xo0 rfl 5 (by decide) (hg _ mw_347) (fun _ h9 => h9) xvX7_5 dX7_digestOfLayers_18 ?_
    refine va_getN (D := D) (ci := 3) (v := .int (gi pi 1)) (C := RX3) (T := TX3) (N := 16) hx hb hg inGX3 hown hK hP 6 xo6 rfl 13 (by decide) (hN.use nw_62) (fun _ h9 => h9) (xvX3_13 rfl) dX7_digestOfLayers_21 ?_
    refine lv_icmp_ge (tgt := 83) hx hb dX7_digestOfLayers_24 (by decide) (fun _ => ?_) (fun c_24 => absurd (lp_out _) c_24)
    refine lv_lload_n hx hb dX7_digestOfLayers_83 rfl (lv_at hl 2 rfl) ?_
    exact W.lret (v := ((lp (dgL pi) (nN (gi pi 1)) (mixI l1 (gi pi 1))))) hx hb hr (fun t ht hW => ⟨⟨((lp (dgL pi) (nN (gi pi 1)) (mixI l1 (gi pi 1)))), (XW ad cI cJ co fl ra li re wa pi), rfl, ⟨(show (((lp (dgL pi) (nN (gi pi 1)) (mixI l1 (gi pi 1)))) : Int64) = (dgLayers pi l1) from (by first | with_reducible rfl | (simp only [dgLayers, gi_sl, gi_sA, gi_sB, gi_si_s, gi_si_n, gl_si, gl_sA, gl_sB, gl_sl_s, gl_sl_n, gA_si, gA_sl, gA_sB, gA_sA_s, gA_sA_n, gB_si, gB_sl, gB_sA, gB_sB_s, gB_sB_n, Nat.reduceBEq, if_true, if_false, eq_self, Bool.false_eq_true, Bool.true_eq_false, not_true_eq_false, not_false_eq_true, decide_true, decide_false, cond_true, cond_false, Bool.true_and, Bool.false_and, Bool.and_true, Bool.and_false, Bool.true_or, Bool.false_or, Bool.or_true, Bool.or_false, b2i_tt, b2i_ff, pr_eta]; done))), xw_eq rfl rfl rfl rfl rfl rfl rfl⟩, ⟨by rw [ht]; exact hP, va_K.moved hW.alike hK, hD⟩⟩, hS.F ht⟩) hS.2.2 dX7_digestOfLayers_84
  · obtain ⟨h_2, hP, hD, hS, hl⟩ := hI
    have hP : va_P D vwCl (XW ad cI cJ co fl ra li re wa pi) H := hP
    have hD : va_D A (XW ad cI cJ co fl ra li re wa pi) := hD
    have hl : lv_has ls 8 [(0, .ref (ad 0)), (1, .long l1), (3, .long p_2), (5, .int (nI i_2))] := hl
    refine lv_iload hx hb dX7_digestOfLayers_15 (lv_at hl 3 rfl) ?_
    refine lv_aload_n hx hb dX7_digestOfLayers_17 rfl (lv_at hl 0 rfl) ?_
    refine va_get (D := D) (ci := 7) (v := .ref (ad 6)) (C := RX7) (T := TX7) (N := 6) hx hb hg inGX7 hown hK hP 0 xo0 rfl 5 (by decide) (hg _ mw_347) (fun _ h9 => h9) xvX7_5 dX7_digestOfLayers_18 ?_
    refine va_getN (D := D) (ci := 3) (v := .int (gi pi 1)) (C := RX3) (T := TX3) (N := 16) hx hb hg inGX3 hown hK hP 6 xo6 rfl 13 (by decide) (hN.use nw_62) (fun _ h9 => h9) (xvX3_13 rfl) dX7_digestOfLayers_21 ?_
    refine lv_icmp_ge (tgt := 83) hx hb dX7_digestOfLayers_24 (by decide) (fun c_24 => absurd c_24 (lp_in hi_2)) (fun _ => ?_)
    refine lv_aload_n hx hb dX7_digestOfLayers_27 rfl (lv_at hl 0 rfl) ?_
    refine va_get (D := D) (ci := 7) (v := .ref (ad 6)) (C := RX7) (T := TX7) (N := 6) hx hb hg inGX7 hown hK hP 0 xo0 rfl 5 (by decide) (hg _ mw_347) (fun _ h9 => h9) xvX7_5 dX7_digestOfLayers_28 ?_
    refine lv_iload hx hb dX7_digestOfLayers_31 (lv_at hl 3 rfl) ?_
    refine kI (rV (q0 := 6) (ci := 3) hx hb hml hown hg hN hK hP hD (c_sizeOf l D cI cJ ad co fl ra li re wa pi (nI i_2)) mw_297 mw_400 mw_299 mw_300 mw_234 pdv_X3_sizeOf ⟨Nat.le_of_ble_eq_true rfl, Nat.le_of_ble_eq_true rfl⟩ rfl xo6 rfl hl.1 rfl (Nat.le_of_ble_eq_true rfl) dX7_digestOfLayers_33 ⟨Nat.le_of_ble_eq_true rfl, Nat.le_of_ble_eq_true rfl⟩) hD hS hA (fun r_3 u_3 H locs hp hP hD hS => ?_)
    obtain ⟨er, eu⟩ := hp
    obtain rfl := er.symm
    obtain rfl := eu.symm
    refine lv_istore (lv' := [(6, .int (sizeOf pi (nI i_2))), (0, .ref (ad 0)), (1, .long l1), (3, .long p_2), (5, .int (nI i_2))]) hx hb dX7_digestOfLayers_36 hl (by decide) rfl (fun ls hl => ?_)
    refine lv_lload_n hx hb dX7_digestOfLayers_38 rfl (lv_at hl 3 rfl) ?_
    refine lv_iload hx hb dX7_digestOfLayers_39 (lv_at hl 0 rfl) ?_
    refine kL (rS hx hb hml hown hg hN hK hP hD (c_mix l D cI cJ (XW ad cI cJ co fl ra li re wa pi) p_2 (sizeOf pi (nI i_2))) mw_371 mw_372 mw_373 mw_77 pd_X7_mix ⟨Nat.le_of_ble_eq_true rfl, Nat.le_of_ble_eq_true rfl⟩ rfl hl.1 rfl (Nat.le_of_ble_eq_true rfl) dX7_digestOfLayers_41 ⟨Nat.le_of_ble_eq_true rfl, Nat.le_of_ble_eq_true rfl⟩) hD hS hA (fun r_4 u_4 H locs hp hP hD hS => ?_)
    obtain ⟨er, eu⟩ := hp
    obtain rfl := er.symm
    obtain rfl := eu.symm
    refine lv_lstore_n (lv' := [(3, .long (mixI p_2 (sizeOf pi (nI i_2)))), (6, .int (sizeOf pi (nI i_2))), (0, .ref (ad 0)), (1, .long l1), (5, .int (nI i_2))]) hx hb dX7_digestOfLayers_44 rfl hl (by decide) rfl (fun ls hl => ?_)
    refine lv_iconst (v := 0) hx hb dX7_digestOfLayers_45 (by decide) ?_
    refine lv_istore (lv' := [(7, .int 0), (3, .long (mixI p_2 (sizeOf pi (nI i_2)))), (6, .int (sizeOf pi (nI i_2))), (0, .ref (ad 0)), (1, .long l1), (5, .int (nI i_2))]) hx hb dX7_digestOfLayers_46 hl (by decide) rfl (fun ls hl => ?_)
    refine w_loop (σ := Int64) (fun (i_5 : Nat) (p_5 : Int64) (H : Heap) (locs : List Loc) (ls : Array Slot) => p_5 = (lp (dgP pi i_2) i_5 (mixI p_2 (sizeOf pi (nI i_2)))) ∧ va_P D vwCl (XW ad cI cJ co fl ra li re wa pi) H ∧ va_D A (XW ad cI cJ co fl ra li re wa pi) ∧ va_S A s.heap H locs ∧ lv_has ls 8 [(0, .ref (ad 0)), (1, .long l1), (3, .long p_5), (5, .int (nI i_2)), (6, .int (sizeOf pi (nI i_2))), (7, .int (nI i_5))]) (nN (sizeOf pi (nI i_2))) (fun p_5 H locs ls hI => ?_) (fun i_5 p_5 H locs ls hi_5 hI ih_5 => ?_) 0 (mixI p_2 (sizeOf pi (nI i_2))) (Nat.zero_le _) ⟨(lp_0 _ _), hP, hD, hS, (by rw [nI_0]; exact lv_sub hl [3, 4, 1, 5, 2, 0] rfl)⟩
    · obtain ⟨h_5, hP, hD, hS, hl⟩ := hI
      have h_5 := h_5.symm
      subst h_5
      have hP : va_P D vwCl (XW ad cI cJ co fl ra li re wa pi) H := hP
      have hD : va_D A (XW ad cI cJ co fl ra li re wa pi) := hD
      have hl : lv_has ls 8 [(0, .ref (ad 0)), (1, .long l1), (3, .long ((lp (dgP pi i_2) (nN (sizeOf pi (nI i_2))) (mixI p_2 (sizeOf pi (nI i_2)))))), (5, .int (nI i_2)), (6, .int (sizeOf pi (nI i_2))), (7, .int (nI ((nN (sizeOf pi (nI i_2))))))] := hl
      refine lv_iload hx hb dX7_digestOfLayers_48 (lv_at hl 5 rfl) ?_
      refine lv_iload hx hb dX7_digestOfLayers_50 (lv_at hl 4 rfl) ?_
      refine lv_icmp_ge (tgt := 77) hx hb dX7_digestOfLayers_52 (by decide) (fun _ => ?_) (fun c_52 => absurd (lp_out _) c_52)
      refine lv_iinc (v := (nI (i_2 + 1))) (lv' := [(5, .int (nI (i_2 + 1))), (0, .ref (ad 0)), (1, .long l1), (3, .long ((lp (dgP pi i_2) (nN (sizeOf pi (nI i_2))) (mixI p_2 (sizeOf pi (nI i_2)))))), (6, .int (sizeOf pi (nI i_2))), (7, .int (nI ((nN (sizeOf pi (nI i_2))))))]) hx hb dX7_digestOfLayers_77 hl (k := 3) rfl (nI_1 i_2) (by decide) rfl (fun ls hl => ?_)
      refine lv_goto (tgt := 15) hx hb dX7_digestOfLayers_80 (by decide) ?_
      exact ih_2 ((lp (dgP pi i_2) (nN (sizeOf pi (nI i_2))) (mixI p_2 (sizeOf pi (nI i_2))))) H locs ls ⟨((show ((lp (dgP pi i_2) (nN (sizeOf pi (nI i_2))) (mixI p_2 (sizeOf pi (nI i_2))))) = (dgL pi) i_2 p_2 from (by first | with_reducible rfl | (simp only [dgL, gi_sl, gi_sA, gi_sB, gi_si_s, gi_si_n, gl_si, gl_sA, gl_sB, gl_sl_s, gl_sl_n, gA_si, gA_sl, gA_sB, gA_sA_s, gA_sA_n, gB_si, gB_sl, gB_sA, gB_sB_s, gB_sB_n, Nat.reduceBEq, if_true, if_false, eq_self, Bool.false_eq_true, Bool.true_eq_false, not_true_eq_false, not_false_eq_true, decide_true, decide_false, cond_true, cond_false, Bool.true_and, Bool.false_and, Bool.and_true, Bool.and_false, Bool.true_or, Bool.false_or, Bool.or_true, Bool.or_false, b2i_tt, b2i_ff, pr_eta]; done))).trans (lp_go h_2)), hP, hD, hS, lv_sub hl [1, 2, 3, 0] rfl⟩
    · obtain ⟨h_5, hP, hD, hS, hl⟩ := hI
      have hP : va_P D vwCl (XW ad cI cJ co fl ra li re wa pi) H := hP
      have hD : va_D A (XW ad cI cJ co fl ra li re wa pi) := hD
      have hl : lv_has ls 8 [(0, .ref (ad 0)), (1, .long l1), (3, .long p_5), (5, .int (nI i_2)), (6, .int (sizeOf pi (nI i_2))), (7, .int (nI i_5))] := hl
      refine lv_iload hx hb dX7_digestOfLayers_48 (lv_at hl 5 rfl) ?_
      refine lv_iload hx hb dX7_digestOfLayers_50 (lv_at hl 4 rfl) ?_
      refine lv_icmp_ge (tgt := 77) hx hb dX7_digestOfLayers_52 (by decide) (fun c_52 => absurd c_52 (lp_in hi_5)) (fun _ => ?_)
      refine lv_lload_n hx hb dX7_digestOfLayers_55 rfl (lv_at hl 2 rfl) ?_
      refine lv_aload_n hx hb dX7_digestOfLayers_56 rfl (lv_at hl 0 rfl) ?_
      refine va_get (D := D) (ci := 7) (v := .ref (ad 6)) (C := RX7) (T := TX7) (N := 6) hx hb hg inGX7 hown hK hP 0 xo0 rfl 5 (by decide) (hg _ mw_347) (fun _ h9 => h9) xvX7_5 dX7_digestOfLayers_57 ?_
      refine lv_iload hx hb dX7_digestOfLayers_60 (lv_at hl 3 rfl) ?_
      refine lv_iload hx hb dX7_digestOfLayers_62 (lv_at hl 5 rfl) ?_
      refine kI (rV (q0 := 6) (ci := 3) hx hb hml hown hg hN hK hP hD (c_shownAt l D cI cJ ad co fl ra li re wa pi (nI i_2) (nI i_5)) mw_401 mw_402 mw_403 mw_404 mw_234 pdv_X3_shownAt ⟨Nat.le_of_ble_eq_true rfl, Nat.le_of_ble_eq_true rfl⟩ rfl xo6 rfl hl.1 rfl (Nat.le_of_ble_eq_true rfl) dX7_digestOfLayers_64 ⟨Nat.le_of_ble_eq_true rfl, Nat.le_of_ble_eq_true rfl⟩) hD hS hA (fun r_6 u_6 H locs hp hP hD hS => ?_)
      obtain ⟨er, eu⟩ := hp
      obtain rfl := er.symm
      obtain rfl := eu.symm
      refine kL (rS hx hb hml hown hg hN hK hP hD (c_mix l D cI cJ (XW ad cI cJ co fl ra li re wa pi) p_5 (shownAt pi (nI i_2) (nI i_5))) mw_371 mw_372 mw_373 mw_77 pd_X7_mix ⟨Nat.le_of_ble_eq_true rfl, Nat.le_of_ble_eq_true rfl⟩ rfl hl.1 rfl (Nat.le_of_ble_eq_true rfl) dX7_digestOfLayers_67 ⟨Nat.le_of_ble_eq_true rfl, Nat.le_of_ble_eq_true rfl⟩) hD hS hA (fun r_7 u_7 H locs hp hP hD hS => ?_)
      obtain ⟨er, eu⟩ := hp
      obtain rfl := er.symm
      obtain rfl := eu.symm
      refine lv_lstore_n (lv' := [(3, .long (mixI p_5 (shownAt pi (nI i_2) (nI i_5)))), (0, .ref (ad 0)), (1, .long l1), (5, .int (nI i_2)), (6, .int (sizeOf pi (nI i_2))), (7, .int (nI i_5))]) hx hb dX7_digestOfLayers_70 rfl hl (by decide) rfl (fun ls hl => ?_)
      refine lv_iinc (v := (nI (i_5 + 1))) (lv' := [(7, .int (nI (i_5 + 1))), (3, .long (mixI p_5 (shownAt pi (nI i_2) (nI i_5)))), (0, .ref (ad 0)), (1, .long l1), (5, .int (nI i_2)), (6, .int (sizeOf pi (nI i_2)))]) hx hb dX7_digestOfLayers_71 hl (k := 5) rfl (nI_1 i_5) (by decide) rfl (fun ls hl => ?_)
      refine lv_goto (tgt := 48) hx hb dX7_digestOfLayers_74 (by decide) ?_
      exact ih_5 (mixI p_5 (shownAt pi (nI i_2) (nI i_5))) H locs ls ⟨((show (mixI p_5 (shownAt pi (nI i_2) (nI i_5))) = (dgP pi i_2) i_5 p_5 from (by first | with_reducible rfl | (simp only [dgP, gi_sl, gi_sA, gi_sB, gi_si_s, gi_si_n, gl_si, gl_sA, gl_sB, gl_sl_s, gl_sl_n, gA_si, gA_sl, gA_sB, gA_sA_s, gA_sA_n, gB_si, gB_sl, gB_sA, gB_sB_s, gB_sB_n, Nat.reduceBEq, if_true, if_false, eq_self, Bool.false_eq_true, Bool.true_eq_false, not_true_eq_false, not_false_eq_true, decide_true, decide_false, cond_true, cond_false, Bool.true_and, Bool.false_and, Bool.and_true, Bool.and_false, Bool.true_or, Bool.false_or, Bool.or_true, Bool.or_false, b2i_tt, b2i_ff, pr_eta]; done))).trans (lp_go h_5)), hP, hD, hS, lv_sub hl [2, 3, 1, 4, 5, 0] rfl⟩
