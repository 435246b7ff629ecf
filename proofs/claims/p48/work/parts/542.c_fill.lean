theorem dX3_fill_0 : decode cX3_fill 0 = .ok (.iload_n 2, 1) := by decide +kernel
theorem dX3_fill_1 : decode cX3_fill 1 = .ok (.istore_n 3, 1) := by decide +kernel
theorem dX3_fill_2 : decode cX3_fill 2 = .ok (.iconst 0, 1) := by decide +kernel
theorem dX3_fill_3 : decode cX3_fill 3 = .ok (.istore 4, 2) := by decide +kernel
theorem dX3_fill_5 : decode cX3_fill 5 = .ok (.iload 4, 2) := by decide +kernel
theorem dX3_fill_7 : decode cX3_fill 7 = .ok (.aload_n 0, 1) := by decide +kernel
theorem dX3_fill_8 : decode cX3_fill 8 = .ok (.getfield 12, 3) := by decide +kernel
theorem dX3_fill_11 : decode cX3_fill 11 = .ok (.getfield 121, 3) := by decide +kernel
theorem dX3_fill_14 : decode cX3_fill 14 = .ok (.if_icmp .ge 47, 3) := by decide +kernel
theorem dX3_fill_17 : decode cX3_fill 17 = .ok (.aload_n 0, 1) := by decide +kernel
theorem dX3_fill_18 : decode cX3_fill 18 = .ok (.getfield 12, 3) := by decide +kernel
theorem dX3_fill_21 : decode cX3_fill 21 = .ok (.getfield 124, 3) := by decide +kernel
theorem dX3_fill_24 : decode cX3_fill 24 = .ok (.iload 4, 2) := by decide +kernel
theorem dX3_fill_26 : decode cX3_fill 26 = .ok (.invokestatic 95, 3) := by decide +kernel
theorem dX3_fill_29 : decode cX3_fill 29 = .ok (.istore 5, 2) := by decide +kernel
theorem dX3_fill_31 : decode cX3_fill 31 = .ok (.aload_n 0, 1) := by decide +kernel
theorem dX3_fill_32 : decode cX3_fill 32 = .ok (.getfield 18, 3) := by decide +kernel
theorem dX3_fill_35 : decode cX3_fill 35 = .ok (.iload 5, 2) := by decide +kernel
theorem dX3_fill_37 : decode cX3_fill 37 = .ok (.invokestatic 95, 3) := by decide +kernel
theorem dX3_fill_40 : decode cX3_fill 40 = .ok (.iload_n 1, 1) := by decide +kernel
theorem dX3_fill_41 : decode cX3_fill 41 = .ok (.if_icmp .ne 14, 3) := by decide +kernel
theorem dX3_fill_44 : decode cX3_fill 44 = .ok (.aload_n 0, 1) := by decide +kernel
theorem dX3_fill_45 : decode cX3_fill 45 = .ok (.iload_n 1, 1) := by decide +kernel
theorem dX3_fill_46 : decode cX3_fill 46 = .ok (.iload_n 3, 1) := by decide +kernel
theorem dX3_fill_47 : decode cX3_fill 47 = .ok (.iload 5, 2) := by decide +kernel
theorem dX3_fill_49 : decode cX3_fill 49 = .ok (.invokevirtual 127, 3) := by decide +kernel
theorem dX3_fill_52 : decode cX3_fill 52 = .ok (.iinc 3 1, 3) := by decide +kernel
theorem dX3_fill_55 : decode cX3_fill 55 = .ok (.iinc 4 1, 3) := by decide +kernel
theorem dX3_fill_58 : decode cX3_fill 58 = .ok (.goto (-53), 3) := by decide +kernel
theorem dX3_fill_61 : decode cX3_fill 61 = .ok (.iconst 0, 1) := by decide +kernel
theorem dX3_fill_62 : decode cX3_fill 62 = .ok (.istore 4, 2) := by decide +kernel
theorem dX3_fill_64 : decode cX3_fill 64 = .ok (.iload 4, 2) := by decide +kernel
theorem dX3_fill_66 : decode cX3_fill 66 = .ok (.aload_n 0, 1) := by decide +kernel
theorem dX3_fill_67 : decode cX3_fill 67 = .ok (.getfield 58, 3) := by decide +kernel
theorem dX3_fill_70 : decode cX3_fill 70 = .ok (.if_icmp .ge 57, 3) := by decide +kernel
theorem dX3_fill_73 : decode cX3_fill 73 = .ok (.aload_n 0, 1) := by decide +kernel
theorem dX3_fill_74 : decode cX3_fill 74 = .ok (.getfield 12, 3) := by decide +kernel
theorem dX3_fill_77 : decode cX3_fill 77 = .ok (.iload 4, 2) := by decide +kernel
theorem dX3_fill_79 : decode cX3_fill 79 = .ok (.invokevirtual 104, 3) := by decide +kernel
theorem dX3_fill_82 : decode cX3_fill 82 = .ok (.ifCond .eq 39, 3) := by decide +kernel
theorem dX3_fill_85 : decode cX3_fill 85 = .ok (.aload_n 0, 1) := by decide +kernel
theorem dX3_fill_86 : decode cX3_fill 86 = .ok (.iload 4, 2) := by decide +kernel
theorem dX3_fill_88 : decode cX3_fill 88 = .ok (.invokevirtual 111, 3) := by decide +kernel
theorem dX3_fill_91 : decode cX3_fill 91 = .ok (.iload_n 1, 1) := by decide +kernel
theorem dX3_fill_92 : decode cX3_fill 92 = .ok (.if_icmp .ge 29, 3) := by decide +kernel
theorem dX3_fill_95 : decode cX3_fill 95 = .ok (.iload_n 1, 1) := by decide +kernel
theorem dX3_fill_96 : decode cX3_fill 96 = .ok (.aload_n 0, 1) := by decide +kernel
theorem dX3_fill_97 : decode cX3_fill 97 = .ok (.iload 4, 2) := by decide +kernel
theorem dX3_fill_99 : decode cX3_fill 99 = .ok (.invokevirtual 131, 3) := by decide +kernel
theorem dX3_fill_102 : decode cX3_fill 102 = .ok (.if_icmp .ge 19, 3) := by decide +kernel
theorem dX3_fill_105 : decode cX3_fill 105 = .ok (.aload_n 0, 1) := by decide +kernel
theorem dX3_fill_106 : decode cX3_fill 106 = .ok (.iload_n 1, 1) := by decide +kernel
theorem dX3_fill_107 : decode cX3_fill 107 = .ok (.iload_n 3, 1) := by decide +kernel
theorem dX3_fill_108 : decode cX3_fill 108 = .ok (.aload_n 0, 1) := by decide +kernel
theorem dX3_fill_109 : decode cX3_fill 109 = .ok (.iload 4, 2) := by decide +kernel
theorem dX3_fill_111 : decode cX3_fill 111 = .ok (.iload_n 1, 1) := by decide +kernel
theorem dX3_fill_112 : decode cX3_fill 112 = .ok (.invokevirtual 134, 3) := by decide +kernel
theorem dX3_fill_115 : decode cX3_fill 115 = .ok (.invokevirtual 127, 3) := by decide +kernel
theorem dX3_fill_118 : decode cX3_fill 118 = .ok (.iinc 3 1, 3) := by decide +kernel
theorem dX3_fill_121 : decode cX3_fill 121 = .ok (.iinc 4 1, 3) := by decide +kernel
theorem dX3_fill_124 : decode cX3_fill 124 = .ok (.goto (-60), 3) := by decide +kernel
theorem dX3_fill_127 : decode cX3_fill 127 = .ok (.iload_n 3, 1) := by decide +kernel
theorem dX3_fill_128 : decode cX3_fill 128 = .ok (.ireturn, 1) := by decide +kernel
theorem mw_257 : Cond.code yX3_pointOn cX3_pointOn 3 (some Jvm.ClassFile.FieldType.int) ∈ GW := gw_mem (inT3 _ (List.mem_of_getElem? (i := 80) rfl)) rfl
theorem mw_258 : Cond.methodLink RX3 134 yX3_pointOn ∈ GW := gw_mem (inT3 _ (List.mem_of_getElem? (i := 77) rfl)) rfl
theorem mw_259 : Cond.instanceMethod yX3_pointOn ∈ GW := gw_mem (inT3 _ (List.mem_of_getElem? (i := 79) rfl)) rfl
theorem mw_260 : Cond.selects RX3 yX3_pointOn yX3_pointOn ∈ GW := gw_mem (inTp (q := (yX3_pointOn, 16)) (List.mem_of_getElem? (i := 29) rfl)) rfl
theorem mw_261 : Cond.code yX3_putPoint cX3_putPoint 4 (none : Option FieldType) ∈ GW := gw_mem (inT3 _ (List.mem_of_getElem? (i := 76) rfl)) rfl
theorem mw_262 : Cond.methodLink RX3 127 yX3_putPoint ∈ GW := gw_mem (inT3 _ (List.mem_of_getElem? (i := 73) rfl)) rfl
theorem mw_263 : Cond.instanceMethod yX3_putPoint ∈ GW := gw_mem (inT3 _ (List.mem_of_getElem? (i := 75) rfl)) rfl
theorem mw_264 : Cond.selects RX3 yX3_putPoint yX3_putPoint ∈ GW := gw_mem (inTp (q := (yX3_putPoint, 16)) (List.mem_of_getElem? (i := 28) rfl)) rfl
theorem pdv_X3_pointOn : yX3_pointOn.cls = RX3 ∧ yX3_pointOn.cls ≠ "java/lang/invoke/MethodHandle" ∧ yX3_pointOn.cls ≠ "java/lang/invoke/VarHandle" ∧ (parseMethodDescriptor yX3_pointOn.desc).map (fun d => d.parameters.length) = some 2 := by decide +kernel
theorem pdv_X3_putPoint : yX3_putPoint.cls = RX3 ∧ yX3_putPoint.cls ≠ "java/lang/invoke/MethodHandle" ∧ yX3_putPoint.cls ≠ "java/lang/invoke/VarHandle" ∧ (parseMethodDescriptor yX3_putPoint.desc).map (fun d => d.parameters.length) = some 3 := by decide +kernel
set_option maxHeartbeats 4000000 in
set_option maxRecDepth 100000 in
theorem c_fill (l : Launch) (D : va_G) (cI cJ : ClassId) (ad : Nat → Nat) (co fl ra li re wa pi : Ob) (k1 : Int32) (k2 : Int32) : CT l D (TY cI cJ) yX3_fill (.code yX3_fill cX3_fill 6 (some Jvm.ClassFile.FieldType.int)) 3 0 0 (XW ad cI cJ co fl ra li re wa pi) [.ref (ad 6), .int k1, .int k2] (QI D (TY cI cJ) (fun r u => r = (fill wa pi k1 k2).2 ∧ u = (XW ad cI cJ co fl ra li re wa (fill wa pi k1 k2).1))) := by
  refine ent (by decide) (Nat.le_of_ble_eq_true rfl) ?_
  intro p e s m below meth c ls A hx hb hr hg hown hml hlocks hnm hP hK hD hS hA hN hl
  have hl : lv_has ls 6 [(0, .ref (ad 6)), (1, .int k1), (2, .int k2)] := hl
  refine lv_iload_n hx hb dX3_fill_0 rfl (lv_at hl 2 rfl) ?_
  refine lv_istore_n (lv' := [(3, .int k2), (0, .ref (ad 6)), (1, .int k1), (2, .int k2)]) hx hb dX3_fill_1 rfl hl (by decide) rfl (fun ls hl => ?_)
  refine lv_iconst (v := 0) hx hb dX3_fill_2 (by decide) ?_
  refine lv_istore (lv' := [(4, .int 0), (3, .int k2), (0, .ref (ad 6)), (1, .int k1), (2, .int k2)]) hx hb dX3_fill_3 hl (by decide) rfl (fun ls hl => ?_)
  refine w_loop (σ := Ob × Int32) (fun (i_1 : Nat) (p_1 : Ob × Int32) (H : Heap) (locs : List Loc) (ls : Array Slot) => p_1 = (lp (fiA wa k1) i_1 (pi, k2)) ∧ va_P D vwCl (XW ad cI cJ co fl ra li re wa p_1.1) H ∧ va_D A (XW ad cI cJ co fl ra li re wa p_1.1) ∧ va_S A s.heap H locs ∧ lv_has ls 6 [(0, .ref (ad 6)), (1, .int k1), (2, .int k2), (3, .int p_1.2), (4, .int (nI i_1))]) (nN (gi wa 0)) (fun p_1 H locs ls hI => ?_) (fun i_1 p_1 H locs ls hi_1 hI ih_1 => ?_) 0 (pi, k2) (Nat.zero_le _) ⟨(lp_0 _ _), hP, hD, hS, (by rw [nI_0]; exact lv_sub hl [2, 3, 4, 1, 0] rfl)⟩
  · obtain ⟨h_1, hP, hD, hS, hl⟩ := hI
    have h_1 := h_1.symm
    subst h_1
    have hP : va_P D vwCl (XW ad cI cJ co fl ra li re wa ((lp (fiA wa k1) (nN (gi wa 0)) (pi, k2)).1)) H := hP
    have hD : va_D A (XW ad cI cJ co fl ra li re wa ((lp (fiA wa k1) (nN (gi wa 0)) (pi, k2)).1)) := hD
    have hl : lv_has ls 6 [(0, .ref (ad 6)), (1, .int k1), (2, .int k2), (3, .int ((lp (fiA wa k1) (nN (gi wa 0)) (pi, k2)).2)), (4, .int (nI ((nN (gi wa 0)))))] := hl
    refine lv_iload hx hb dX3_fill_5 (lv_at hl 4 rfl) ?_
    refine lv_aload_n hx hb dX3_fill_7 rfl (lv_at hl 0 rfl) ?_
    refine va_get (D := D) (ci := 3) (v := .ref (ad 7)) (C := RX3) (T := TX3) (N := 16) hx hb hg inGX3 hown hK hP 6 xo6 rfl 0 (by decide) (hg _ mw_227) (fun _ h9 => h9) xvX3_0 dX3_fill_8 ?_
    refine va_getN (D := D) (ci := 6) (v := .int (gi wa 0)) (C := RX6) (T := TX6) (N := 9) hx hb hg inGX6 hown hK hP 7 xo7 rfl 5 (by decide) (hN.use nw_58) (fun _ h9 => h9) (xvX6_5 rfl) dX3_fill_11 ?_
    refine lv_icmp_ge (tgt := 61) hx hb dX3_fill_14 (by decide) (fun _ => ?_) (fun c_14 => absurd (lp_out _) c_14)
    refine lv_iconst (v := 0) hx hb dX3_fill_61 (by decide) ?_
    refine lv_istore (lv' := [(4, .int 0), (0, .ref (ad 6)), (1, .int k1), (2, .int k2), (3, .int ((lp (fiA wa k1) (nN (gi wa 0)) (pi, k2)).2))]) hx hb dX3_fill_62 hl (by decide) rfl (fun ls hl => ?_)
    refine w_loop (σ := Ob × Int32) (fun (i_2 : Nat) (p_2 : Ob × Int32) (H : Heap) (locs : List Loc) (ls : Array Slot) => p_2 = (lp (fiB wa k1) i_2 (((lp (fiA wa k1) (nN (gi wa 0)) (pi, k2)).1), ((lp (fiA wa k1) (nN (gi wa 0)) (pi, k2)).2))) ∧ va_P D vwCl (XW ad cI cJ co fl ra li re wa p_2.1) H ∧ va_D A (XW ad cI cJ co fl ra li re wa p_2.1) ∧ va_S A s.heap H locs ∧ lv_has ls 6 [(0, .ref (ad 6)), (1, .int k1), (2, .int k2), (3, .int p_2.2), (4, .int (nI i_2))]) (nN (gi pi 0)) (fun p_2 H locs ls hI => ?_) (fun i_2 p_2 H locs ls hi_2 hI ih_2 => ?_) 0 (((lp (fiA wa k1) (nN (gi wa 0)) (pi, k2)).1), ((lp (fiA wa k1) (nN (gi wa 0)) (pi, k2)).2)) (Nat.zero_le _) ⟨(lp_0 _ _), hP, hD, hS, (by rw [nI_0]; exact lv_sub hl [1, 2, 3, 4, 0] rfl)⟩
    · obtain ⟨h_2, hP, hD, hS, hl⟩ := hI
      have h_2 := h_2.symm
      subst h_2
      have hP : va_P D vwCl (XW ad cI cJ co fl ra li re wa ((lp (fiB wa k1) (nN (gi pi 0)) (((lp (fiA wa k1) (nN (gi wa 0)) (pi, k2)).1), ((lp (fiA wa k1) (nN (gi wa 0)) (pi, k2)).2))).1)) H := hP
      have hD : va_D A (XW ad cI cJ co fl ra li re wa ((lp (fiB wa k1) (nN (gi pi 0)) (((lp (fiA wa k1) (nN (gi wa 0)) (pi, k2)).1), ((lp (fiA wa k1) (nN (gi wa 0)) (pi, k2)).2))).1)) := hD
      have hl : lv_has ls 6 [(0, .ref (ad 6)), (1, .int k1), (2, .int k2), (3, .int ((lp (fiB wa k1) (nN (gi pi 0)) (((lp (fiA wa k1) (nN (gi wa 0)) (pi, k2)).1), ((lp (fiA wa k1) (nN (gi wa 0)) (pi, k2)).2))).2)), (4, .int (nI ((nN (gi pi 0)))))] := hl
      refine lv_iload hx hb dX3_fill_64 (lv_at hl 4 rfl) ?_
      refine lv_aload_n hx hb dX3_fill_66 rfl (lv_at hl 0 rfl) ?_
      refine va_get (D := D) (ci := 3) (v := .int (gi ((lp (fiB wa k1) (nN (gi pi 0)) (((lp (fiA wa k1) (nN (gi wa 0)) (pi, k2)).1), ((lp (fiA wa k1) (nN (gi wa 0)) (pi, k2)).2))).1) 0)) (C := RX3) (T := TX3) (N := 16) hx hb hg inGX3 hown hK hP 6 xo6 rfl 12 (by decide) (hg _ mw_228) (fun _ h9 => h9) (xvX3_12 rfl) dX3_fill_67 ?_
      refine lv_icmp_ge (tgt := 127) hx hb dX3_fill_70 (by decide) (fun _ => ?_) (fun c_70 => absurd (by rw [k_fiBL, k_fiAL]; exact lp_out _) c_70)
      refine lv_iload_n hx hb dX3_fill_127 rfl (lv_at hl 3 rfl) ?_
      exact W.iret (v := ((lp (fiB wa k1) (nN (gi pi 0)) (((lp (fiA wa k1) (nN (gi wa 0)) (pi, k2)).1), ((lp (fiA wa k1) (nN (gi wa 0)) (pi, k2)).2))).2)) hx hb hr (fun t ht hW => ⟨⟨((lp (fiB wa k1) (nN (gi pi 0)) (((lp (fiA wa k1) (nN (gi wa 0)) (pi, k2)).1), ((lp (fiA wa k1) (nN (gi wa 0)) (pi, k2)).2))).2), (XW ad cI cJ co fl ra li re wa ((lp (fiB wa k1) (nN (gi pi 0)) (((lp (fiA wa k1) (nN (gi wa 0)) (pi, k2)).1), ((lp (fiA wa k1) (nN (gi wa 0)) (pi, k2)).2))).1)), rfl, ⟨(show (((lp (fiB wa k1) (nN (gi pi 0)) (((lp (fiA wa k1) (nN (gi wa 0)) (pi, k2)).1), ((lp (fiA wa k1) (nN (gi wa 0)) (pi, k2)).2))).2) : Int32) = (fill wa pi k1 k2).2 from (by first | with_reducible rfl | (simp only [fill, gi_sl, gi_sA, gi_sB, gi_si_s, gi_si_n, gl_si, gl_sA, gl_sB, gl_sl_s, gl_sl_n, gA_si, gA_sl, gA_sB, gA_sA_s, gA_sA_n, gB_si, gB_sl, gB_sA, gB_sB_s, gB_sB_n, Nat.reduceBEq, if_true, if_false, eq_self, Bool.false_eq_true, Bool.true_eq_false, not_true_eq_false, not_false_eq_true, decide_true, decide_false, cond_true, cond_false, Bool.true_and, Bool.false_and, Bool.and_true, Bool.and_false, Bool.true_or, Bool.false_or, Bool.or_true, Bool.or_false, b2i_tt, b2i_ff, pr_eta]; done))), xw_eq rfl rfl rfl rfl rfl rfl (show ((lp (fiB wa k1) (nN (gi pi 0)) (((lp (fiA wa k1) (nN (gi wa 0)) (pi, k2)).1), ((lp (fiA wa k1) (nN (gi wa 0)) (pi, k2)).2))).1) = (fill wa pi k1 k2).1 from (by first | with_reducible rfl | (simp only [fill, gi_sl, gi_sA, gi_sB, gi_si_s, gi_si_n, gl_si, gl_sA, gl_sB, gl_sl_s, gl_sl_n, gA_si, gA_sl, gA_sB, gA_sA_s, gA_sA_n, gB_si, gB_sl, gB_sA, gB_sB_s, gB_sB_n, Nat.reduceBEq, if_true, if_false, eq_self, Bool.false_eq_true, Bool.true_eq_false, not_true_eq_false, not_false_eq_true, decide_true, decide_false, cond_true, cond_false, Bool.true_and, Bool.false_and, Bool.and_true, Bool.and_false, Bool.true_or, Bool.false_or, Bool.or_true, Bool.or_false, b2i_tt, b2i_ff, pr_eta]; done)))⟩, ⟨by rw [ht]; exact hP, va_K.moved hW.alike hK, hD⟩⟩, hS.F ht⟩) hS.2.2 dX3_fill_128
    · obtain ⟨h_2, hP, hD, hS, hl⟩ := hI
      have hP : va_P D vwCl (XW ad cI cJ co fl ra li re wa p_2.1) H := hP
      have hD : va_D A (XW ad cI cJ co fl ra li re wa p_2.1) := hD
      have hl : lv_has ls 6 [(0, .ref (ad 6)), (1, .int k1), (2, .int k2), (3, .int p_2.2), (4, .int (nI i_2))] := hl
      refine lv_iload hx hb dX3_fill_64 (lv_at hl 4 rfl) ?_
      refine lv_aload_n hx hb dX3_fill_66 rfl (lv_at hl 0 rfl) ?_
      refine va_get (D := D) (ci := 3) (v := .int (gi p_2.1 0)) (C := RX3) (T := TX3) (N := 16) hx hb hg inGX3 hown hK hP 6 xo6 rfl 12 (by decide) (hg _ mw_228) (fun _ h9 => h9) (xvX3_12 rfl) dX3_fill_67 ?_
      refine lv_icmp_ge (tgt := 127) hx hb dX3_fill_70 (by decide) (fun c_70 => absurd c_70 (by rw [h_2, k_fiBL, k_fiAL]; exact lp_in hi_2)) (fun _ => ?_)
      refine lv_aload_n hx hb dX3_fill_73 rfl (lv_at hl 0 rfl) ?_
      refine va_get (D := D) (ci := 3) (v := .ref (ad 7)) (C := RX3) (T := TX3) (N := 16) hx hb hg inGX3 hown hK hP 6 xo6 rfl 0 (by decide) (hg _ mw_227) (fun _ h9 => h9) xvX3_0 dX3_fill_74 ?_
      refine lv_iload hx hb dX3_fill_77 (lv_at hl 4 rfl) ?_
      refine kI (rV (q0 := 7) (ci := 6) hx hb hml hown hg hN hK hP hD (c_draws l D cI cJ ad co fl ra li re wa p_2.1 (nI i_2)) mw_204 mw_229 mw_206 mw_207 mw_208 pdv_X6_draws ⟨Nat.le_of_ble_eq_true rfl, Nat.le_of_ble_eq_true rfl⟩ rfl xo7 rfl hl.1 rfl (Nat.le_of_ble_eq_true rfl) dX3_fill_79 ⟨Nat.le_of_ble_eq_true rfl, Nat.le_of_ble_eq_true rfl⟩) hD hS hA (fun r_3 u_3 H locs hp hP hD hS => ?_)
      obtain ⟨er, eu⟩ := hp
      obtain rfl := er.symm
      obtain rfl := eu.symm
      refine lv_if_eq (tgt := 121) hx hb dX3_fill_82 (by decide) (fun c_82 => ?_) (fun c_82 => ?_)
      · have c_82 : ¬ (draws wa (nI i_2)) = true := b2i_0 c_82
        refine lv_iinc (v := (nI (i_2 + 1))) (lv' := [(4, .int (nI (i_2 + 1))), (0, .ref (ad 6)), (1, .int k1), (2, .int k2), (3, .int p_2.2)]) hx hb dX3_fill_121 hl (k := 4) rfl (nI_1 i_2) (by decide) rfl (fun ls hl => ?_)
        refine lv_goto (tgt := 64) hx hb dX3_fill_124 (by decide) ?_
        exact ih_2 (p_2.1, p_2.2) H locs ls ⟨((show (p_2.1, p_2.2) = (fiB wa k1) i_2 p_2 from (by simp only [fiB, bf_of c_82, gi_sl, gi_sA, gi_sB, gi_si_s, gi_si_n, gl_si, gl_sA, gl_sB, gl_sl_s, gl_sl_n, gA_si, gA_sl, gA_sB, gA_sA_s, gA_sA_n, gB_si, gB_sl, gB_sA, gB_sB_s, gB_sB_n, Nat.reduceBEq, if_true, if_false, eq_self, Bool.false_eq_true, Bool.true_eq_false, not_true_eq_false, not_false_eq_true, decide_true, decide_false, cond_true, cond_false, Bool.true_and, Bool.false_and, Bool.and_true, Bool.and_false, Bool.true_or, Bool.false_or, Bool.or_true, Bool.or_false, b2i_tt, b2i_ff, pr_eta]; done)).trans (lp_go h_2)), hP, hD, hS, lv_sub hl [1, 2, 3, 4, 0] rfl⟩
      · have c_82 : (draws wa (nI i_2)) = true := b2i_1 c_82
        refine lv_aload_n hx hb dX3_fill_85 rfl (lv_at hl 0 rfl) ?_
        refine lv_iload hx hb dX3_fill_86 (lv_at hl 4 rfl) ?_
        refine kI (rV (q0 := 6) (ci := 3) hx hb hml hown hg hN hK hP hD (c_top l D cI cJ ad co fl ra li re wa p_2.1 (nI i_2)) mw_230 mw_231 mw_232 mw_233 mw_234 pdv_X3_top ⟨Nat.le_of_ble_eq_true rfl, Nat.le_of_ble_eq_true rfl⟩ rfl xo6 rfl hl.1 rfl (Nat.le_of_ble_eq_true rfl) dX3_fill_88 ⟨Nat.le_of_ble_eq_true rfl, Nat.le_of_ble_eq_true rfl⟩) hD hS hA (fun r_4 u_4 H locs hp hP hD hS => ?_)
        obtain ⟨er, eu⟩ := hp
        obtain rfl := er.symm
        obtain rfl := eu.symm
        refine lv_iload_n hx hb dX3_fill_91 rfl (lv_at hl 1 rfl) ?_
        refine lv_icmp_ge (tgt := 121) hx hb dX3_fill_92 (by decide) (fun c_92 => ?_) (fun c_92 => ?_)
        · have c_92 : ¬ (topE wa p_2.1 (nI i_2)) < k1 := i_ge c_92
          refine lv_iinc (v := (nI (i_2 + 1))) (lv' := [(4, .int (nI (i_2 + 1))), (0, .ref (ad 6)), (1, .int k1), (2, .int k2), (3, .int p_2.2)]) hx hb dX3_fill_121 hl (k := 4) rfl (nI_1 i_2) (by decide) rfl (fun ls hl => ?_)
          refine lv_goto (tgt := 64) hx hb dX3_fill_124 (by decide) ?_
          exact ih_2 (p_2.1, p_2.2) H locs ls ⟨((show (p_2.1, p_2.2) = (fiB wa k1) i_2 p_2 from (by simp only [fiB, c_82, eq_false c_92, gi_sl, gi_sA, gi_sB, gi_si_s, gi_si_n, gl_si, gl_sA, gl_sB, gl_sl_s, gl_sl_n, gA_si, gA_sl, gA_sB, gA_sA_s, gA_sA_n, gB_si, gB_sl, gB_sA, gB_sB_s, gB_sB_n, Nat.reduceBEq, if_true, if_false, eq_self, Bool.false_eq_true, Bool.true_eq_false, not_true_eq_false, not_false_eq_true, decide_true, decide_false, cond_true, cond_false, Bool.true_and, Bool.false_and, Bool.and_true, Bool.and_false, Bool.true_or, Bool.false_or, Bool.or_true, Bool.or_false, b2i_tt, b2i_ff, pr_eta]; done)).trans (lp_go h_2)), hP, hD, hS, lv_sub hl [1, 2, 3, 4, 0] rfl⟩
        · have c_92 : (topE wa p_2.1 (nI i_2)) < k1 := i_nge c_92
          refine lv_iload_n hx hb dX3_fill_95 rfl (lv_at hl 1 rfl) ?_
          refine lv_aload_n hx hb dX3_fill_96 rfl (lv_at hl 0 rfl) ?_
          refine lv_iload hx hb dX3_fill_97 (lv_at hl 4 rfl) ?_
          refine kI (rV (q0 := 6) (ci := 3) hx hb hml hown hg hN hK hP hD (c_bottom l D cI cJ ad co fl ra li re wa p_2.1 (nI i_2)) mw_244 mw_245 mw_246 mw_247 mw_234 pdv_X3_bottom ⟨Nat.le_of_ble_eq_true rfl, Nat.le_of_ble_eq_true rfl⟩ rfl xo6 rfl hl.1 rfl (Nat.le_of_ble_eq_true rfl) dX3_fill_99 ⟨Nat.le_of_ble_eq_true rfl, Nat.le_of_ble_eq_true rfl⟩) hD hS hA (fun r_5 u_5 H locs hp hP hD hS => ?_)
          obtain ⟨er, eu⟩ := hp
          obtain rfl := er.symm
          obtain rfl := eu.symm
          refine lv_icmp_ge (tgt := 121) hx hb dX3_fill_102 (by decide) (fun c_102 => ?_) (fun c_102 => ?_)
          · have c_102 : ¬ k1 < (botE wa p_2.1 (nI i_2)) := i_ge c_102
            refine lv_iinc (v := (nI (i_2 + 1))) (lv' := [(4, .int (nI (i_2 + 1))), (0, .ref (ad 6)), (1, .int k1), (2, .int k2), (3, .int p_2.2)]) hx hb dX3_fill_121 hl (k := 4) rfl (nI_1 i_2) (by decide) rfl (fun ls hl => ?_)
            refine lv_goto (tgt := 64) hx hb dX3_fill_124 (by decide) ?_
            exact ih_2 (p_2.1, p_2.2) H locs ls ⟨((show (p_2.1, p_2.2) = (fiB wa k1) i_2 p_2 from (by simp only [fiB, c_82, eq_true c_92, eq_false c_102, gi_sl, gi_sA, gi_sB, gi_si_s, gi_si_n, gl_si, gl_sA, gl_sB, gl_sl_s, gl_sl_n, gA_si, gA_sl, gA_sB, gA_sA_s, gA_sA_n, gB_si, gB_sl, gB_sA, gB_sB_s, gB_sB_n, Nat.reduceBEq, if_true, if_false, eq_self, Bool.false_eq_true, Bool.true_eq_false, not_true_eq_false, not_false_eq_true, decide_true, decide_false, cond_true, cond_false, Bool.true_and, Bool.false_and, Bool.and_true, Bool.and_false, Bool.true_or, Bool.false_or, Bool.or_true, Bool.or_false, b2i_tt, b2i_ff, pr_eta]; done)).trans (lp_go h_2)), hP, hD, hS, lv_sub hl [1, 2, 3, 4, 0] rfl⟩
          · have c_102 : k1 < (botE wa p_2.1 (nI i_2)) := i_nge c_102
            refine lv_aload_n hx hb dX3_fill_105 rfl (lv_at hl 0 rfl) ?_
            refine lv_iload_n hx hb dX3_fill_106 rfl (lv_at hl 1 rfl) ?_
            refine lv_iload_n hx hb dX3_fill_107 rfl (lv_at hl 3 rfl) ?_
            refine lv_aload_n hx hb dX3_fill_108 rfl (lv_at hl 0 rfl) ?_
            refine lv_iload hx hb dX3_fill_109 (lv_at hl 4 rfl) ?_
            refine lv_iload_n hx hb dX3_fill_111 rfl (lv_at hl 1 rfl) ?_
            refine kI (rV (q0 := 6) (ci := 3) hx hb hml hown hg hN hK hP hD (c_pointOn l D cI cJ ad co fl ra li re wa p_2.1 (nI i_2) k1) mw_257 mw_258 mw_259 mw_260 mw_234 pdv_X3_pointOn ⟨Nat.le_of_ble_eq_true rfl, Nat.le_of_ble_eq_true rfl⟩ rfl xo6 rfl hl.1 rfl (Nat.le_of_ble_eq_true rfl) dX3_fill_112 ⟨Nat.le_of_ble_eq_true rfl, Nat.le_of_ble_eq_true rfl⟩) hD hS hA (fun r_6 u_6 H locs hp hP hD hS => ?_)
            obtain ⟨er, eu⟩ := hp
            obtain rfl := er.symm
            obtain rfl := eu.symm
            refine kV (rV (q0 := 6) (ci := 3) hx hb hml hown hg hN hK hP hD (c_putPoint l D cI cJ ad co fl ra li re wa p_2.1 k1 p_2.2 (pointOn wa p_2.1 (nI i_2) k1)) mw_261 mw_262 mw_263 mw_264 mw_234 pdv_X3_putPoint ⟨Nat.le_of_ble_eq_true rfl, Nat.le_of_ble_eq_true rfl⟩ rfl xo6 rfl hl.1 rfl (Nat.le_of_ble_eq_true rfl) dX3_fill_115 ⟨Nat.le_of_ble_eq_true rfl, Nat.le_of_ble_eq_true rfl⟩) hD hS hA (fun u_7 H locs hp hP hD hS => ?_)
            obtain rfl := hp.symm
            have hP : va_P D vwCl (XW ad cI cJ co fl ra li re wa (putPoint p_2.1 k1 p_2.2 (pointOn wa p_2.1 (nI i_2) k1))) H := hP
            have hD : va_D A (XW ad cI cJ co fl ra li re wa (putPoint p_2.1 k1 p_2.2 (pointOn wa p_2.1 (nI i_2) k1))) := hD
            refine lv_iinc (v := (p_2.2 + 1)) (lv' := [(3, .int (p_2.2 + 1)), (0, .ref (ad 6)), (1, .int k1), (2, .int k2), (4, .int (nI i_2))]) hx hb dX3_fill_118 hl (k := 3) rfl rfl (by decide) rfl (fun ls hl => ?_)
            refine lv_iinc (v := (nI (i_2 + 1))) (lv' := [(4, .int (nI (i_2 + 1))), (3, .int (p_2.2 + 1)), (0, .ref (ad 6)), (1, .int k1), (2, .int k2)]) hx hb dX3_fill_121 hl (k := 4) rfl (nI_1 i_2) (by decide) rfl (fun ls hl => ?_)
            refine lv_goto (tgt := 64) hx hb dX3_fill_124 (by decide) ?_
            exact ih_2 ((putPoint p_2.1 k1 p_2.2 (pointOn wa p_2.1 (nI i_2) k1)), (p_2.2 + 1)) H locs ls ⟨((show ((putPoint p_2.1 k1 p_2.2 (pointOn wa p_2.1 (nI i_2) k1)), (p_2.2 + 1)) = (fiB wa k1) i_2 p_2 from (by simp only [fiB, c_82, eq_true c_92, eq_true c_102, gi_sl, gi_sA, gi_sB, gi_si_s, gi_si_n, gl_si, gl_sA, gl_sB, gl_sl_s, gl_sl_n, gA_si, gA_sl, gA_sB, gA_sA_s, gA_sA_n, gB_si, gB_sl, gB_sA, gB_sB_s, gB_sB_n, Nat.reduceBEq, if_true, if_false, eq_self, Bool.false_eq_true, Bool.true_eq_false, not_true_eq_false, not_false_eq_true, decide_true, decide_false, cond_true, cond_false, Bool.true_and, Bool.false_and, Bool.and_true, Bool.and_false, Bool.true_or, Bool.false_or, Bool.or_true, Bool.or_false, b2i_tt, b2i_ff, pr_eta]; done)).trans (lp_go h_2)), hP, hD, hS, lv_sub hl [2, 3, 4, 1, 0] rfl⟩
  · obtain ⟨h_1, hP, hD, hS, hl⟩ := hI
    have hP : va_P D vwCl (XW ad cI cJ co fl ra li re wa p_1.1) H := hP
    have hD : va_D A (XW ad cI cJ co fl ra li re wa p_1.1) := hD
    have hl : lv_has ls 6 [(0, .ref (ad 6)), (1, .int k1), (2, .int k2), (3, .int p_1.2), (4, .int (nI i_1))] := hl
    refine lv_iload hx hb dX3_fill_5 (lv_at hl 4 rfl) ?_
    refine lv_aload_n hx hb dX3_fill_7 rfl (lv_at hl 0 rfl) ?_
    refine va_get (D := D) (ci := 3) (v := .ref (ad 7)) (C := RX3) (T := TX3) (N := 16) hx hb hg inGX3 hown hK hP 6 xo6 rfl 0 (by decide) (hg _ mw_227) (fun _ h9 => h9) xvX3_0 dX3_fill_8 ?_
    refine va_getN (D := D) (ci := 6) (v := .int (gi wa 0)) (C := RX6) (T := TX6) (N := 9) hx hb hg inGX6 hown hK hP 7 xo7 rfl 5 (by decide) (hN.use nw_58) (fun _ h9 => h9) (xvX6_5 rfl) dX3_fill_11 ?_
    refine lv_icmp_ge (tgt := 61) hx hb dX3_fill_14 (by decide) (fun c_14 => absurd c_14 (lp_in hi_1)) (fun _ => ?_)
    refine lv_aload_n hx hb dX3_fill_17 rfl (lv_at hl 0 rfl) ?_
    refine va_get (D := D) (ci := 3) (v := .ref (ad 7)) (C := RX3) (T := TX3) (N := 16) hx hb hg inGX3 hown hK hP 6 xo6 rfl 0 (by decide) (hg _ mw_227) (fun _ h9 => h9) xvX3_0 dX3_fill_18 ?_
    refine va_getN (D := D) (ci := 6) (v := .ref (ad 29)) (C := RX6) (T := TX6) (N := 9) hx hb hg inGX6 hown hK hP 7 xo7 rfl 0 (by decide) (hN.use nw_55) (fun _ h9 => h9) xvX6_0 dX3_fill_21 ?_
    refine lv_iload hx hb dX3_fill_24 (lv_at hl 4 rfl) ?_
    refine kI (rSN hx hb hml hown hg hN hK hP hD (c_at l D cI cJ (XW ad cI cJ co fl ra li re wa p_1.1) 29 (ad 29) 40 (gA wa 0) (nI i_1) (xg29 rfl) (by decide)) mw_84 nw_96 mw_85 mw_77 pd_X7_at ⟨Nat.le_of_ble_eq_true rfl, Nat.le_of_ble_eq_true rfl⟩ rfl hl.1 rfl (Nat.le_of_ble_eq_true rfl) dX3_fill_26 ⟨Nat.le_of_ble_eq_true rfl, Nat.le_of_ble_eq_true rfl⟩) hD hS hA (fun r_8 u_8 H locs hp hP hD hS => ?_)
    obtain ⟨er, eu⟩ := hp
    obtain rfl := er.symm
    obtain rfl := eu.symm
    refine lv_istore (lv' := [(5, .int (rd (gA wa 0) 40 (nI i_1))), (0, .ref (ad 6)), (1, .int k1), (2, .int k2), (3, .int p_1.2), (4, .int (nI i_1))]) hx hb dX3_fill_29 hl (by decide) rfl (fun ls hl => ?_)
    refine lv_aload_n hx hb dX3_fill_31 rfl (lv_at hl 1 rfl) ?_
    refine va_get (D := D) (ci := 3) (v := .ref (ad 34)) (C := RX3) (T := TX3) (N := 16) hx hb hg inGX3 hown hK hP 6 xo6 rfl 1 (by decide) (hg _ mw_226) (fun _ h9 => h9) xvX3_1 dX3_fill_32 ?_
    refine lv_iload hx hb dX3_fill_35 (lv_at hl 0 rfl) ?_
    refine kI (rSN hx hb hml hown hg hN hK hP hD (c_at l D cI cJ (XW ad cI cJ co fl ra li re wa p_1.1) 34 (ad 34) 40 (gA p_1.1 0) (rd (gA wa 0) 40 (nI i_1)) (xg34 rfl) (by decide)) mw_84 nw_96 mw_85 mw_77 pd_X7_at ⟨Nat.le_of_ble_eq_true rfl, Nat.le_of_ble_eq_true rfl⟩ rfl hl.1 rfl (Nat.le_of_ble_eq_true rfl) dX3_fill_37 ⟨Nat.le_of_ble_eq_true rfl, Nat.le_of_ble_eq_true rfl⟩) hD hS hA (fun r_9 u_9 H locs hp hP hD hS => ?_)
    obtain ⟨er, eu⟩ := hp
    obtain rfl := er.symm
    obtain rfl := eu.symm
    refine lv_iload_n hx hb dX3_fill_40 rfl (lv_at hl 2 rfl) ?_
    refine lv_icmp_ne (tgt := 55) hx hb dX3_fill_41 (by decide) (fun c_41 => ?_) (fun c_41 => ?_)
    · refine lv_iinc (v := (nI (i_1 + 1))) (lv' := [(4, .int (nI (i_1 + 1))), (5, .int (rd (gA wa 0) 40 (nI i_1))), (0, .ref (ad 6)), (1, .int k1), (2, .int k2), (3, .int p_1.2)]) hx hb dX3_fill_55 hl (k := 5) rfl (nI_1 i_1) (by decide) rfl (fun ls hl => ?_)
      refine lv_goto (tgt := 5) hx hb dX3_fill_58 (by decide) ?_
      exact ih_1 (p_1.1, p_1.2) H locs ls ⟨((show (p_1.1, p_1.2) = (fiA wa k1) i_1 p_1 from (by simp only [fiA, eq_false c_41, gi_sl, gi_sA, gi_sB, gi_si_s, gi_si_n, gl_si, gl_sA, gl_sB, gl_sl_s, gl_sl_n, gA_si, gA_sl, gA_sB, gA_sA_s, gA_sA_n, gB_si, gB_sl, gB_sA, gB_sB_s, gB_sB_n, Nat.reduceBEq, if_true, if_false, eq_self, Bool.false_eq_true, Bool.true_eq_false, not_true_eq_false, not_false_eq_true, decide_true, decide_false, cond_true, cond_false, Bool.true_and, Bool.false_and, Bool.and_true, Bool.and_false, Bool.true_or, Bool.false_or, Bool.or_true, Bool.or_false, b2i_tt, b2i_ff, pr_eta]; done)).trans (lp_go h_1)), hP, hD, hS, lv_sub hl [2, 3, 4, 5, 0] rfl⟩
    · refine lv_aload_n hx hb dX3_fill_44 rfl (lv_at hl 1 rfl) ?_
      refine lv_iload_n hx hb dX3_fill_45 rfl (lv_at hl 2 rfl) ?_
      refine lv_iload_n hx hb dX3_fill_46 rfl (lv_at hl 4 rfl) ?_
      refine lv_iload hx hb dX3_fill_47 (lv_at hl 0 rfl) ?_
      refine kV (rV (q0 := 6) (ci := 3) hx hb hml hown hg hN hK hP hD (c_putPoint l D cI cJ ad co fl ra li re wa p_1.1 k1 p_1.2 (rd (gA wa 0) 40 (nI i_1))) mw_261 mw_262 mw_263 mw_264 mw_234 pdv_X3_putPoint ⟨Nat.le_of_ble_eq_true rfl, Nat.le_of_ble_eq_true rfl⟩ rfl xo6 rfl hl.1 rfl (Nat.le_of_ble_eq_true rfl) dX3_fill_49 ⟨Nat.le_of_ble_eq_true rfl, Nat.le_of_ble_eq_true rfl⟩) hD hS hA (fun u_10 H locs hp hP hD hS => ?_)
      obtain rfl := hp.symm
      have hP : va_P D vwCl (XW ad cI cJ co fl ra li re wa (putPoint p_1.1 k1 p_1.2 (rd (gA wa 0) 40 (nI i_1)))) H := hP
      have hD : va_D A (XW ad cI cJ co fl ra li re wa (putPoint p_1.1 k1 p_1.2 (rd (gA wa 0) 40 (nI i_1)))) := hD
      refine lv_iinc (v := (p_1.2 + 1)) (lv' := [(3, .int (p_1.2 + 1)), (5, .int (rd (gA wa 0) 40 (nI i_1))), (0, .ref (ad 6)), (1, .int k1), (2, .int k2), (4, .int (nI i_1))]) hx hb dX3_fill_52 hl (k := 4) rfl rfl (by decide) rfl (fun ls hl => ?_)
      refine lv_iinc (v := (nI (i_1 + 1))) (lv' := [(4, .int (nI (i_1 + 1))), (3, .int (p_1.2 + 1)), (5, .int (rd (gA wa 0) 40 (nI i_1))), (0, .ref (ad 6)), (1, .int k1), (2, .int k2)]) hx hb dX3_fill_55 hl (k := 5) rfl (nI_1 i_1) (by decide) rfl (fun ls hl => ?_)
      refine lv_goto (tgt := 5) hx hb dX3_fill_58 (by decide) ?_
      exact ih_1 ((putPoint p_1.1 k1 p_1.2 (rd (gA wa 0) 40 (nI i_1))), (p_1.2 + 1)) H locs ls ⟨((show ((putPoint p_1.1 k1 p_1.2 (rd (gA wa 0) 40 (nI i_1))), (p_1.2 + 1)) = (fiA wa k1) i_1 p_1 from (by simp only [fiA, eq_true c_41, gi_sl, gi_sA, gi_sB, gi_si_s, gi_si_n, gl_si, gl_sA, gl_sB, gl_sl_s, gl_sl_n, gA_si, gA_sl, gA_sB, gA_sA_s, gA_sA_n, gB_si, gB_sl, gB_sA, gB_sB_s, gB_sB_n, Nat.reduceBEq, if_true, if_false, eq_self, Bool.false_eq_true, Bool.true_eq_false, not_true_eq_false, not_false_eq_true, decide_true, decide_false, cond_true, cond_false, Bool.true_and, Bool.false_and, Bool.and_true, Bool.and_false, Bool.true_or, Bool.false_or, Bool.or_true, Bool.or_false, b2i_tt, b2i_ff, pr_eta]; done)).trans (lp_go h_1)), hP, hD, hS, lv_sub hl [3, 4, 5, 1, 0] rfl⟩
