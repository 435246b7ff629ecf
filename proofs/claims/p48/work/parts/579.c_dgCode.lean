theorem dX7_digestOfCode_0 : decode cX7_digestOfCode 0 = .ok (.lload_n 1, 1) := by decide +kernel
theorem dX7_digestOfCode_1 : decode cX7_digestOfCode 1 = .ok (.aload_n 0, 1) := by decide +kernel
theorem dX7_digestOfCode_2 : decode cX7_digestOfCode 2 = .ok (.getfield 10, 3) := by decide +kernel
theorem dX7_digestOfCode_5 : decode cX7_digestOfCode 5 = .ok (.getfield 51, 3) := by decide +kernel
theorem dX7_digestOfCode_8 : decode cX7_digestOfCode 8 = .ok (.invokestatic 308, 3) := by decide +kernel
theorem dX7_digestOfCode_11 : decode cX7_digestOfCode 11 = .ok (.lstore_n 3, 1) := by decide +kernel
theorem dX7_digestOfCode_12 : decode cX7_digestOfCode 12 = .ok (.iconst 0, 1) := by decide +kernel
theorem dX7_digestOfCode_13 : decode cX7_digestOfCode 13 = .ok (.istore 5, 2) := by decide +kernel
theorem dX7_digestOfCode_15 : decode cX7_digestOfCode 15 = .ok (.iload 5, 2) := by decide +kernel
theorem dX7_digestOfCode_17 : decode cX7_digestOfCode 17 = .ok (.aload_n 0, 1) := by decide +kernel
theorem dX7_digestOfCode_18 : decode cX7_digestOfCode 18 = .ok (.getfield 10, 3) := by decide +kernel
theorem dX7_digestOfCode_21 : decode cX7_digestOfCode 21 = .ok (.getfield 51, 3) := by decide +kernel
theorem dX7_digestOfCode_24 : decode cX7_digestOfCode 24 = .ok (.if_icmp .ge 60, 3) := by decide +kernel
theorem dX7_digestOfCode_27 : decode cX7_digestOfCode 27 = .ok (.lload_n 3, 1) := by decide +kernel
theorem dX7_digestOfCode_28 : decode cX7_digestOfCode 28 = .ok (.aload_n 0, 1) := by decide +kernel
theorem dX7_digestOfCode_29 : decode cX7_digestOfCode 29 = .ok (.getfield 10, 3) := by decide +kernel
theorem dX7_digestOfCode_32 : decode cX7_digestOfCode 32 = .ok (.getfield 92, 3) := by decide +kernel
theorem dX7_digestOfCode_35 : decode cX7_digestOfCode 35 = .ok (.iload 5, 2) := by decide +kernel
theorem dX7_digestOfCode_37 : decode cX7_digestOfCode 37 = .ok (.invokestatic 96, 3) := by decide +kernel
theorem dX7_digestOfCode_40 : decode cX7_digestOfCode 40 = .ok (.invokestatic 308, 3) := by decide +kernel
theorem dX7_digestOfCode_43 : decode cX7_digestOfCode 43 = .ok (.lstore_n 3, 1) := by decide +kernel
theorem dX7_digestOfCode_44 : decode cX7_digestOfCode 44 = .ok (.lload_n 3, 1) := by decide +kernel
theorem dX7_digestOfCode_45 : decode cX7_digestOfCode 45 = .ok (.aload_n 0, 1) := by decide +kernel
theorem dX7_digestOfCode_46 : decode cX7_digestOfCode 46 = .ok (.getfield 10, 3) := by decide +kernel
theorem dX7_digestOfCode_49 : decode cX7_digestOfCode 49 = .ok (.getfield 102, 3) := by decide +kernel
theorem dX7_digestOfCode_52 : decode cX7_digestOfCode 52 = .ok (.iload 5, 2) := by decide +kernel
theorem dX7_digestOfCode_54 : decode cX7_digestOfCode 54 = .ok (.invokestatic 96, 3) := by decide +kernel
theorem dX7_digestOfCode_57 : decode cX7_digestOfCode 57 = .ok (.invokestatic 308, 3) := by decide +kernel
theorem dX7_digestOfCode_60 : decode cX7_digestOfCode 60 = .ok (.lstore_n 3, 1) := by decide +kernel
theorem dX7_digestOfCode_61 : decode cX7_digestOfCode 61 = .ok (.lload_n 3, 1) := by decide +kernel
theorem dX7_digestOfCode_62 : decode cX7_digestOfCode 62 = .ok (.aload_n 0, 1) := by decide +kernel
theorem dX7_digestOfCode_63 : decode cX7_digestOfCode 63 = .ok (.getfield 19, 3) := by decide +kernel
theorem dX7_digestOfCode_66 : decode cX7_digestOfCode 66 = .ok (.getfield 130, 3) := by decide +kernel
theorem dX7_digestOfCode_69 : decode cX7_digestOfCode 69 = .ok (.iload 5, 2) := by decide +kernel
theorem dX7_digestOfCode_71 : decode cX7_digestOfCode 71 = .ok (.invokestatic 96, 3) := by decide +kernel
theorem dX7_digestOfCode_74 : decode cX7_digestOfCode 74 = .ok (.invokestatic 308, 3) := by decide +kernel
theorem dX7_digestOfCode_77 : decode cX7_digestOfCode 77 = .ok (.lstore_n 3, 1) := by decide +kernel
theorem dX7_digestOfCode_78 : decode cX7_digestOfCode 78 = .ok (.iinc 5 1, 3) := by decide +kernel
theorem dX7_digestOfCode_81 : decode cX7_digestOfCode 81 = .ok (.goto (-66), 3) := by decide +kernel
theorem dX7_digestOfCode_84 : decode cX7_digestOfCode 84 = .ok (.lload_n 3, 1) := by decide +kernel
theorem dX7_digestOfCode_85 : decode cX7_digestOfCode 85 = .ok (.lreturn, 1) := by decide +kernel
theorem mw_371 : Cond.code yX7_mix cX7_mix 3 (some Jvm.ClassFile.FieldType.long) ∈ GW := gw_mem (inT3 _ (List.mem_of_getElem? (i := 88) rfl)) rfl
theorem mw_372 : Cond.methodLink RX7 308 yX7_mix ∈ GW := gw_mem (inT3 _ (List.mem_of_getElem? (i := 86) rfl)) rfl
theorem mw_373 : Cond.static yX7_mix ∈ GW := gw_mem (inT3 _ (List.mem_of_getElem? (i := 87) rfl)) rfl
theorem mw_374 : Cond.methodLink RX7 96 yX7_at ∈ GW := gw_mem (inT3 _ (List.mem_of_getElem? (i := 90) rfl)) rfl
theorem pd_X7_mix : yX7_mix.cls ≠ "java/lang/invoke/MethodHandle" ∧ yX7_mix.cls ≠ "java/lang/invoke/VarHandle" ∧ (parseMethodDescriptor yX7_mix.desc).map (fun d => d.parameters.length) = some 2 := by decide +kernel
set_option maxHeartbeats 4000000 in
set_option maxRecDepth 100000 in
theorem c_dgCode (l : Launch) (D : va_G) (cI cJ : ClassId) (ad : Nat → Nat) (co fl ra li re wa pi : Ob) (l1 : Int64) : CT l D (TY cI cJ) yX7_digestOfCode (.code yX7_digestOfCode cX7_digestOfCode 6 (some Jvm.ClassFile.FieldType.long)) 3 0 0 (XW ad cI cJ co fl ra li re wa pi) [.ref (ad 0), .long l1] (QL D (TY cI cJ) (fun r u => r = (dgCode co fl l1) ∧ u = (XW ad cI cJ co fl ra li re wa pi))) := by
  refine ent (by decide) (Nat.le_of_ble_eq_true rfl) ?_
  intro p e s m below meth c ls A hx hb hr hg hown hml hlocks hnm hP hK hD hS hA hN hl
  have hl : lv_has ls 6 [(0, .ref (ad 0)), (1, .long l1)] := hl
  refine lv_lload_n hx hb dX7_digestOfCode_0 rfl (lv_at hl 1 rfl) ?_
  refine lv_aload_n hx hb dX7_digestOfCode_1 rfl (lv_at hl 0 rfl) ?_
  refine va_get (D := D) (ci := 7) (v := .ref (ad 1)) (C := RX7) (T := TX7) (N := 6) hx hb hg inGX7 hown hK hP 0 xo0 rfl 0 (by decide) (hg _ mw_323) (fun _ h9 => h9) xvX7_0 dX7_digestOfCode_2 ?_
  refine va_getN (D := D) (ci := 0) (v := .int (gi co 0)) (C := RX0) (T := TX0) (N := 5) hx hb hg inGX0 hown hK hP 1 xo1 rfl 4 (by decide) (hN.use nw_10) (fun _ h9 => h9) (xvX0_4 rfl) dX7_digestOfCode_5 ?_
  refine kL (rS hx hb hml hown hg hN hK hP hD (c_mix l D cI cJ (XW ad cI cJ co fl ra li re wa pi) l1 (gi co 0)) mw_371 mw_372 mw_373 mw_77 pd_X7_mix ⟨Nat.le_of_ble_eq_true rfl, Nat.le_of_ble_eq_true rfl⟩ rfl hl.1 rfl (Nat.le_of_ble_eq_true rfl) dX7_digestOfCode_8 ⟨Nat.le_of_ble_eq_true rfl, Nat.le_of_ble_eq_true rfl⟩) hD hS hA (fun r_1 u_1 H locs hp hP hD hS => ?_)
  obtain ⟨er, eu⟩ := hp
  obtain rfl := er.symm
  obtain rfl := eu.symm
  refine lv_lstore_n (lv' := [(3, .long (mixI l1 (gi co 0))), (0, .ref (ad 0)), (1, .long l1)]) hx hb dX7_digestOfCode_11 rfl hl (by decide) rfl (fun ls hl => ?_)
  refine lv_iconst (v := 0) hx hb dX7_digestOfCode_12 (by decide) ?_
  refine lv_istore (lv' := [(5, .int 0), (3, .long (mixI l1 (gi co 0))), (0, .ref (ad 0)), (1, .long l1)]) hx hb dX7_digestOfCode_13 hl (by decide) rfl (fun ls hl => ?_)
  refine w_loop (σ := Int64) (fun (i_2 : Nat) (p_2 : Int64) (H : Heap) (locs : List Loc) (ls : Array Slot) => p_2 = (lp (dgC co fl) i_2 (mixI l1 (gi co 0))) ∧ va_P D vwCl (XW ad cI cJ co fl ra li re wa pi) H ∧ va_D A (XW ad cI cJ co fl ra li re wa pi) ∧ va_S A s.heap H locs ∧ lv_has ls 6 [(0, .ref (ad 0)), (1, .long l1), (3, .long p_2), (5, .int (nI i_2))]) (nN (gi co 0)) (fun p_2 H locs ls hI => ?_) (fun i_2 p_2 H locs ls hi_2 hI ih_2 => ?_) 0 (mixI l1 (gi co 0)) (Nat.zero_le _) ⟨(lp_0 _ _), hP, hD, hS, (by rw [nI_0]; exact lv_sub hl [2, 3, 1, 0] rfl)⟩
  · obtain ⟨h_2, hP, hD, hS, hl⟩ := hI
    have h_2 := h_2.symm
    subst h_2
    have hP : va_P D vwCl (XW ad cI cJ co fl ra li re wa pi) H := hP
    have hD : va_D A (XW ad cI cJ co fl ra li re wa pi) := hD
    have hl : lv_has ls 6 [(0, .ref (ad 0)), (1, .long l1), (3, .long ((lp (dgC co fl) (nN (gi co 0)) (mixI l1 (gi co 0))))), (5, .int (nI ((nN (gi co 0)))))] := hl
    refine lv_iload hx hb dX7_digestOfCode_15 (lv_at hl 3 rfl) ?_
    refine lv_aload_n hx hb dX7_digestOfCode_17 rfl (lv_at hl 0 rfl) ?_
    refine va_get (D := D) (ci := 7) (v := .ref (ad 1)) (C := RX7) (T := TX7) (N := 6) hx hb hg inGX7 hown hK hP 0 xo0 rfl 0 (by decide) (hg _ mw_323) (fun _ h9 => h9) xvX7_0 dX7_digestOfCode_18 ?_
    refine va_getN (D := D) (ci := 0) (v := .int (gi co 0)) (C := RX0) (T := TX0) (N := 5) hx hb hg inGX0 hown hK hP 1 xo1 rfl 4 (by decide) (hN.use nw_10) (fun _ h9 => h9) (xvX0_4 rfl) dX7_digestOfCode_21 ?_
    refine lv_icmp_ge (tgt := 84) hx hb dX7_digestOfCode_24 (by decide) (fun _ => ?_) (fun c_24 => absurd (lp_out _) c_24)
    refine lv_lload_n hx hb dX7_digestOfCode_84 rfl (lv_at hl 2 rfl) ?_
    exact W.lret (v := ((lp (dgC co fl) (nN (gi co 0)) (mixI l1 (gi co 0))))) hx hb hr (fun t ht hW => ⟨⟨((lp (dgC co fl) (nN (gi co 0)) (mixI l1 (gi co 0)))), (XW ad cI cJ co fl ra li re wa pi), rfl, ⟨(show (((lp (dgC co fl) (nN (gi co 0)) (mixI l1 (gi co 0)))) : Int64) = (dgCode co fl l1) from (by first | with_reducible rfl | (simp only [dgCode, gi_sl, gi_sA, gi_sB, gi_si_s, gi_si_n, gl_si, gl_sA, gl_sB, gl_sl_s, gl_sl_n, gA_si, gA_sl, gA_sB, gA_sA_s, gA_sA_n, gB_si, gB_sl, gB_sA, gB_sB_s, gB_sB_n, Nat.reduceBEq, if_true, if_false, eq_self, Bool.false_eq_true, Bool.true_eq_false, not_true_eq_false, not_false_eq_true, decide_true, decide_false, cond_true, cond_false, Bool.true_and, Bool.false_and, Bool.and_true, Bool.and_false, Bool.true_or, Bool.false_or, Bool.or_true, Bool.or_false, b2i_tt, b2i_ff, pr_eta]; done))), xw_eq rfl rfl rfl rfl rfl rfl rfl⟩, ⟨by rw [ht]; exact hP, va_K.moved hW.alike hK, hD⟩⟩, hS.F ht⟩) hS.2.2 dX7_digestOfCode_85
  · obtain ⟨h_2, hP, hD, hS, hl⟩ := hI
    have hP : va_P D vwCl (XW ad cI cJ co fl ra li re wa pi) H := hP
    have hD : va_D A (XW ad cI cJ co fl ra li re wa pi) := hD
    have hl : lv_has ls 6 [(0, .ref (ad 0)), (1, .long l1), (3, .long p_2), (5, .int (nI i_2))] := hl
    refine lv_iload hx hb dX7_digestOfCode_15 (lv_at hl 3 rfl) ?_
    refine lv_aload_n hx hb dX7_digestOfCode_17 rfl (lv_at hl 0 rfl) ?_
    refine va_get (D := D) (ci := 7) (v := .ref (ad 1)) (C := RX7) (T := TX7) (N := 6) hx hb hg inGX7 hown hK hP 0 xo0 rfl 0 (by decide) (hg _ mw_323) (fun _ h9 => h9) xvX7_0 dX7_digestOfCode_18 ?_
    refine va_getN (D := D) (ci := 0) (v := .int (gi co 0)) (C := RX0) (T := TX0) (N := 5) hx hb hg inGX0 hown hK hP 1 xo1 rfl 4 (by decide) (hN.use nw_10) (fun _ h9 => h9) (xvX0_4 rfl) dX7_digestOfCode_21 ?_
    refine lv_icmp_ge (tgt := 84) hx hb dX7_digestOfCode_24 (by decide) (fun c_24 => absurd c_24 (lp_in hi_2)) (fun _ => ?_)
    refine lv_lload_n hx hb dX7_digestOfCode_27 rfl (lv_at hl 2 rfl) ?_
    refine lv_aload_n hx hb dX7_digestOfCode_28 rfl (lv_at hl 0 rfl) ?_
    refine va_get (D := D) (ci := 7) (v := .ref (ad 1)) (C := RX7) (T := TX7) (N := 6) hx hb hg inGX7 hown hK hP 0 xo0 rfl 0 (by decide) (hg _ mw_323) (fun _ h9 => h9) xvX7_0 dX7_digestOfCode_29 ?_
    refine va_getN (D := D) (ci := 0) (v := .ref (ad 8)) (C := RX0) (T := TX0) (N := 5) hx hb hg inGX0 hown hK hP 1 xo1 rfl 0 (by decide) (hN.use nw_2) (fun _ h9 => h9) xvX0_0 dX7_digestOfCode_32 ?_
    refine lv_iload hx hb dX7_digestOfCode_35 (lv_at hl 3 rfl) ?_
    refine kI (rS hx hb hml hown hg hN hK hP hD (c_at l D cI cJ (XW ad cI cJ co fl ra li re wa pi) 8 (ad 8) 40 (gA co 0) (nI i_2) (xg8 rfl) (by decide)) mw_84 mw_374 mw_85 mw_77 pd_X7_at ⟨Nat.le_of_ble_eq_true rfl, Nat.le_of_ble_eq_true rfl⟩ rfl hl.1 rfl (Nat.le_of_ble_eq_true rfl) dX7_digestOfCode_37 ⟨Nat.le_of_ble_eq_true rfl, Nat.le_of_ble_eq_true rfl⟩) hD hS hA (fun r_3 u_3 H locs hp hP hD hS => ?_)
    obtain ⟨er, eu⟩ := hp
    obtain rfl := er.symm
    obtain rfl := eu.symm
    refine kL (rS hx hb hml hown hg hN hK hP hD (c_mix l D cI cJ (XW ad cI cJ co fl ra li re wa pi) p_2 (rd (gA co 0) 40 (nI i_2))) mw_371 mw_372 mw_373 mw_77 pd_X7_mix ⟨Nat.le_of_ble_eq_true rfl, Nat.le_of_ble_eq_true rfl⟩ rfl hl.1 rfl (Nat.le_of_ble_eq_true rfl) dX7_digestOfCode_40 ⟨Nat.le_of_ble_eq_true rfl, Nat.le_of_ble_eq_true rfl⟩) hD hS hA (fun r_4 u_4 H locs hp hP hD hS => ?_)
    obtain ⟨er, eu⟩ := hp
    obtain rfl := er.symm
    obtain rfl := eu.symm
    refine lv_lstore_n (lv' := [(3, .long (mixI p_2 (rd (gA co 0) 40 (nI i_2)))), (0, .ref (ad 0)), (1, .long l1), (5, .int (nI i_2))]) hx hb dX7_digestOfCode_43 rfl hl (by decide) rfl (fun ls hl => ?_)
    refine lv_lload_n hx hb dX7_digestOfCode_44 rfl (lv_at hl 0 rfl) ?_
    refine lv_aload_n hx hb dX7_digestOfCode_45 rfl (lv_at hl 1 rfl) ?_
    refine va_get (D := D) (ci := 7) (v := .ref (ad 1)) (C := RX7) (T := TX7) (N := 6) hx hb hg inGX7 hown hK hP 0 xo0 rfl 0 (by decide) (hg _ mw_323) (fun _ h9 => h9) xvX7_0 dX7_digestOfCode_46 ?_
    refine va_getN (D := D) (ci := 0) (v := .ref (ad 9)) (C := RX0) (T := TX0) (N := 5) hx hb hg inGX0 hown hK hP 1 xo1 rfl 1 (by decide) (hN.use nw_4) (fun _ h9 => h9) xvX0_1 dX7_digestOfCode_49 ?_
    refine lv_iload hx hb dX7_digestOfCode_52 (lv_at hl 3 rfl) ?_
    refine kI (rS hx hb hml hown hg hN hK hP hD (c_at l D cI cJ (XW ad cI cJ co fl ra li re wa pi) 9 (ad 9) 40 (gA co 1) (nI i_2) (xg9 rfl) (by decide)) mw_84 mw_374 mw_85 mw_77 pd_X7_at ⟨Nat.le_of_ble_eq_true rfl, Nat.le_of_ble_eq_true rfl⟩ rfl hl.1 rfl (Nat.le_of_ble_eq_true rfl) dX7_digestOfCode_54 ⟨Nat.le_of_ble_eq_true rfl, Nat.le_of_ble_eq_true rfl⟩) hD hS hA (fun r_5 u_5 H locs hp hP hD hS => ?_)
    obtain ⟨er, eu⟩ := hp
    obtain rfl := er.symm
    obtain rfl := eu.symm
    refine kL (rS hx hb hml hown hg hN hK hP hD (c_mix l D cI cJ (XW ad cI cJ co fl ra li re wa pi) (mixI p_2 (rd (gA co 0) 40 (nI i_2))) (rd (gA co 1) 40 (nI i_2))) mw_371 mw_372 mw_373 mw_77 pd_X7_mix ⟨Nat.le_of_ble_eq_true rfl, Nat.le_of_ble_eq_true rfl⟩ rfl hl.1 rfl (Nat.le_of_ble_eq_true rfl) dX7_digestOfCode_57 ⟨Nat.le_of_ble_eq_true rfl, Nat.le_of_ble_eq_true rfl⟩) hD hS hA (fun r_6 u_6 H locs hp hP hD hS => ?_)
    obtain ⟨er, eu⟩ := hp
    obtain rfl := er.symm
    obtain rfl := eu.symm
    refine lv_lstore_n (lv' := [(3, .long (mixI (mixI p_2 (rd (gA co 0) 40 (nI i_2))) (rd (gA co 1) 40 (nI i_2)))), (0, .ref (ad 0)), (1, .long l1), (5, .int (nI i_2))]) hx hb dX7_digestOfCode_60 rfl hl (by decide) rfl (fun ls hl => ?_)
    refine lv_lload_n hx hb dX7_digestOfCode_61 rfl (lv_at hl 0 rfl) ?_
    refine lv_aload_n hx hb dX7_digestOfCode_62 rfl (lv_at hl 1 rfl) ?_
    refine va_get (D := D) (ci := 7) (v := .ref (ad 2)) (C := RX7) (T := TX7) (N := 6) hx hb hg inGX7 hown hK hP 0 xo0 rfl 1 (by decide) (hg _ mw_322) (fun _ h9 => h9) xvX7_1 dX7_digestOfCode_63 ?_
    refine va_getN (D := D) (ci := 1) (v := .ref (ad 12)) (C := RX1) (T := TX1) (N := 11) hx hb hg inGX1 hown hK hP 2 xo2 rfl 0 (by decide) (hN.use nw_12) (fun _ h9 => h9) xvX1_0 dX7_digestOfCode_66 ?_
    refine lv_iload hx hb dX7_digestOfCode_69 (lv_at hl 3 rfl) ?_
    refine kI (rS hx hb hml hown hg hN hK hP hD (c_at l D cI cJ (XW ad cI cJ co fl ra li re wa pi) 12 (ad 12) 40 (gA fl 0) (nI i_2) (xg12 rfl) (by decide)) mw_84 mw_374 mw_85 mw_77 pd_X7_at ⟨Nat.le_of_ble_eq_true rfl, Nat.le_of_ble_eq_true rfl⟩ rfl hl.1 rfl (Nat.le_of_ble_eq_true rfl) dX7_digestOfCode_71 ⟨Nat.le_of_ble_eq_true rfl, Nat.le_of_ble_eq_true rfl⟩) hD hS hA (fun r_7 u_7 H locs hp hP hD hS => ?_)
    obtain ⟨er, eu⟩ := hp
    obtain rfl := er.symm
    obtain rfl := eu.symm
    refine kL (rS hx hb hml hown hg hN hK hP hD (c_mix l D cI cJ (XW ad cI cJ co fl ra li re wa pi) (mixI (mixI p_2 (rd (gA co 0) 40 (nI i_2))) (rd (gA co 1) 40 (nI i_2))) (rd (gA fl 0) 40 (nI i_2))) mw_371 mw_372 mw_373 mw_77 pd_X7_mix ⟨Nat.le_of_ble_eq_true rfl, Nat.le_of_ble_eq_true rfl⟩ rfl hl.1 rfl (Nat.le_of_ble_eq_true rfl) dX7_digestOfCode_74 ⟨Nat.le_of_ble_eq_true rfl, Nat.le_of_ble_eq_true rfl⟩) hD hS hA (fun r_8 u_8 H locs hp hP hD hS => ?_)
    obtain ⟨er, eu⟩ := hp
    obtain rfl := er.symm
    obtain rfl := eu.symm
    refine lv_lstore_n (lv' := [(3, .long (mixI (mixI (mixI p_2 (rd (gA co 0) 40 (nI i_2))) (rd (gA co 1) 40 (nI i_2))) (rd (gA fl 0) 40 (nI i_2)))), (0, .ref (ad 0)), (1, .long l1), (5, .int (nI i_2))]) hx hb dX7_digestOfCode_77 rfl hl (by decide) rfl (fun ls hl => ?_)
    refine lv_iinc (v := (nI (i_2 + 1))) (lv' := [(5, .int (nI (i_2 + 1))), (3, .long (mixI (mixI (mixI p_2 (rd (gA co 0) 40 (nI i_2))) (rd (gA co 1) 40 (nI i_2))) (rd (gA fl 0) 40 (nI i_2)))), (0, .ref (ad 0)), (1, .long l1)]) hx hb dX7_digestOfCode_78 hl (k := 3) rfl (nI_1 i_2) (by decide) rfl (fun ls hl => ?_)
    refine lv_goto (tgt := 15) hx hb dX7_digestOfCode_81 (by decide) ?_
    exact ih_2 (mixI (mixI (mixI p_2 (rd (gA co 0) 40 (nI i_2))) (rd (gA co 1) 40 (nI i_2))) (rd (gA fl 0) 40 (nI i_2))) H locs ls ⟨((show (mixI (mixI (mixI p_2 (rd (gA co 0) 40 (nI i_2))) (rd (gA co 1) 40 (nI i_2))) (rd (gA fl 0) 40 (nI i_2))) = (dgC co fl) i_2 p_2 from (by first | with_reducible rfl | (simp only [dgC, gi_sl, gi_sA, gi_sB, gi_si_s, gi_si_n, gl_si, gl_sA, gl_sB, gl_sl_s, gl_sl_n, gA_si, gA_sl, gA_sB, gA_sA_s, gA_sA_n, gB_si, gB_sl, gB_sA, gB_sB_s, gB_sB_n, Nat.reduceBEq, if_true, if_false, eq_self, Bool.false_eq_true, Bool.true_eq_false, not_true_eq_false, not_false_eq_true, decide_true, decide_false, cond_true, cond_false, Bool.true_and, Bool.false_and, Bool.and_true, Bool.and_false, Bool.true_or, Bool.false_or, Bool.or_true, Bool.or_false, b2i_tt, b2i_ff, pr_eta]; done))).trans (lp_go h_2)), hP, hD, hS, lv_sub hl [2, 3, 1, 0] rfl⟩
