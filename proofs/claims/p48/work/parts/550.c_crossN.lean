theorem dX3_crossingsUnder_0 : decode cX3_crossingsUnder 0 = .ok (.iconst 0, 1) := by decide +kernel
theorem dX3_crossingsUnder_1 : decode cX3_crossingsUnder 1 = .ok (.istore_n 2, 1) := by decide +kernel
theorem dX3_crossingsUnder_2 : decode cX3_crossingsUnder 2 = .ok (.iconst 0, 1) := by decide +kernel
theorem dX3_crossingsUnder_3 : decode cX3_crossingsUnder 3 = .ok (.istore_n 3, 1) := by decide +kernel
theorem dX3_crossingsUnder_4 : decode cX3_crossingsUnder 4 = .ok (.iload_n 3, 1) := by decide +kernel
theorem dX3_crossingsUnder_5 : decode cX3_crossingsUnder 5 = .ok (.aload_n 0, 1) := by decide +kernel
theorem dX3_crossingsUnder_6 : decode cX3_crossingsUnder 6 = .ok (.getfield 58, 3) := by decide +kernel
theorem dX3_crossingsUnder_9 : decode cX3_crossingsUnder 9 = .ok (.if_icmp .ge 65, 3) := by decide +kernel
theorem dX3_crossingsUnder_12 : decode cX3_crossingsUnder 12 = .ok (.aload_n 0, 1) := by decide +kernel
theorem dX3_crossingsUnder_13 : decode cX3_crossingsUnder 13 = .ok (.iload_n 3, 1) := by decide +kernel
theorem dX3_crossingsUnder_14 : decode cX3_crossingsUnder 14 = .ok (.iload_n 1, 1) := by decide +kernel
theorem dX3_crossingsUnder_15 : decode cX3_crossingsUnder 15 = .ok (.invokevirtual 140, 3) := by decide +kernel
theorem dX3_crossingsUnder_18 : decode cX3_crossingsUnder 18 = .ok (.ifCond .eq 50, 3) := by decide +kernel
theorem dX3_crossingsUnder_21 : decode cX3_crossingsUnder 21 = .ok (.aload_n 0, 1) := by decide +kernel
theorem dX3_crossingsUnder_22 : decode cX3_crossingsUnder 22 = .ok (.getfield 46, 3) := by decide +kernel
theorem dX3_crossingsUnder_25 : decode cX3_crossingsUnder 25 = .ok (.iload_n 2, 1) := by decide +kernel
theorem dX3_crossingsUnder_26 : decode cX3_crossingsUnder 26 = .ok (.aload_n 0, 1) := by decide +kernel
theorem dX3_crossingsUnder_27 : decode cX3_crossingsUnder 27 = .ok (.getfield 34, 3) := by decide +kernel
theorem dX3_crossingsUnder_30 : decode cX3_crossingsUnder 30 = .ok (.aload_n 0, 1) := by decide +kernel
theorem dX3_crossingsUnder_31 : decode cX3_crossingsUnder 31 = .ok (.iload_n 3, 1) := by decide +kernel
theorem dX3_crossingsUnder_32 : decode cX3_crossingsUnder 32 = .ok (.iload_n 1, 1) := by decide +kernel
theorem dX3_crossingsUnder_33 : decode cX3_crossingsUnder 33 = .ok (.invokevirtual 134, 3) := by decide +kernel
theorem dX3_crossingsUnder_36 : decode cX3_crossingsUnder 36 = .ok (.invokestatic 95, 3) := by decide +kernel
theorem dX3_crossingsUnder_39 : decode cX3_crossingsUnder 39 = .ok (.invokestatic 75, 3) := by decide +kernel
theorem dX3_crossingsUnder_42 : decode cX3_crossingsUnder 42 = .ok (.aload_n 0, 1) := by decide +kernel
theorem dX3_crossingsUnder_43 : decode cX3_crossingsUnder 43 = .ok (.getfield 49, 3) := by decide +kernel
theorem dX3_crossingsUnder_46 : decode cX3_crossingsUnder 46 = .ok (.iload_n 2, 1) := by decide +kernel
theorem dX3_crossingsUnder_47 : decode cX3_crossingsUnder 47 = .ok (.aload_n 0, 1) := by decide +kernel
theorem dX3_crossingsUnder_48 : decode cX3_crossingsUnder 48 = .ok (.getfield 34, 3) := by decide +kernel
theorem dX3_crossingsUnder_51 : decode cX3_crossingsUnder 51 = .ok (.aload_n 0, 1) := by decide +kernel
theorem dX3_crossingsUnder_52 : decode cX3_crossingsUnder 52 = .ok (.iload_n 3, 1) := by decide +kernel
theorem dX3_crossingsUnder_53 : decode cX3_crossingsUnder 53 = .ok (.iload_n 1, 1) := by decide +kernel
theorem dX3_crossingsUnder_54 : decode cX3_crossingsUnder 54 = .ok (.iconst 1, 1) := by decide +kernel
theorem dX3_crossingsUnder_55 : decode cX3_crossingsUnder 55 = .ok (.iadd, 1) := by decide +kernel
theorem dX3_crossingsUnder_56 : decode cX3_crossingsUnder 56 = .ok (.invokevirtual 134, 3) := by decide +kernel
theorem dX3_crossingsUnder_59 : decode cX3_crossingsUnder 59 = .ok (.invokestatic 95, 3) := by decide +kernel
theorem dX3_crossingsUnder_62 : decode cX3_crossingsUnder 62 = .ok (.invokestatic 75, 3) := by decide +kernel
theorem dX3_crossingsUnder_65 : decode cX3_crossingsUnder 65 = .ok (.iinc 2 1, 3) := by decide +kernel
theorem dX3_crossingsUnder_68 : decode cX3_crossingsUnder 68 = .ok (.iinc 3 1, 3) := by decide +kernel
theorem dX3_crossingsUnder_71 : decode cX3_crossingsUnder 71 = .ok (.goto (-67), 3) := by decide +kernel
theorem dX3_crossingsUnder_74 : decode cX3_crossingsUnder 74 = .ok (.iconst 0, 1) := by decide +kernel
theorem dX3_crossingsUnder_75 : decode cX3_crossingsUnder 75 = .ok (.istore_n 3, 1) := by decide +kernel
theorem dX3_crossingsUnder_76 : decode cX3_crossingsUnder 76 = .ok (.iconst 0, 1) := by decide +kernel
theorem dX3_crossingsUnder_77 : decode cX3_crossingsUnder 77 = .ok (.istore 4, 2) := by decide +kernel
theorem dX3_crossingsUnder_79 : decode cX3_crossingsUnder 79 = .ok (.iload 4, 2) := by decide +kernel
theorem dX3_crossingsUnder_81 : decode cX3_crossingsUnder 81 = .ok (.iload_n 2, 1) := by decide +kernel
theorem dX3_crossingsUnder_82 : decode cX3_crossingsUnder 82 = .ok (.if_icmp .ge 70, 3) := by decide +kernel
theorem dX3_crossingsUnder_85 : decode cX3_crossingsUnder 85 = .ok (.iconst 0, 1) := by decide +kernel
theorem dX3_crossingsUnder_86 : decode cX3_crossingsUnder 86 = .ok (.istore 5, 2) := by decide +kernel
theorem dX3_crossingsUnder_88 : decode cX3_crossingsUnder 88 = .ok (.iload 5, 2) := by decide +kernel
theorem dX3_crossingsUnder_90 : decode cX3_crossingsUnder 90 = .ok (.iload 4, 2) := by decide +kernel
theorem dX3_crossingsUnder_92 : decode cX3_crossingsUnder 92 = .ok (.if_icmp .ge 54, 3) := by decide +kernel
theorem dX3_crossingsUnder_95 : decode cX3_crossingsUnder 95 = .ok (.aload_n 0, 1) := by decide +kernel
theorem dX3_crossingsUnder_96 : decode cX3_crossingsUnder 96 = .ok (.getfield 46, 3) := by decide +kernel
theorem dX3_crossingsUnder_99 : decode cX3_crossingsUnder 99 = .ok (.iload 4, 2) := by decide +kernel
theorem dX3_crossingsUnder_101 : decode cX3_crossingsUnder 101 = .ok (.invokestatic 95, 3) := by decide +kernel
theorem dX3_crossingsUnder_104 : decode cX3_crossingsUnder 104 = .ok (.aload_n 0, 1) := by decide +kernel
theorem dX3_crossingsUnder_105 : decode cX3_crossingsUnder 105 = .ok (.getfield 46, 3) := by decide +kernel
theorem dX3_crossingsUnder_108 : decode cX3_crossingsUnder 108 = .ok (.iload 5, 2) := by decide +kernel
theorem dX3_crossingsUnder_110 : decode cX3_crossingsUnder 110 = .ok (.invokestatic 95, 3) := by decide +kernel
theorem dX3_crossingsUnder_113 : decode cX3_crossingsUnder 113 = .ok (.isub, 1) := by decide +kernel
theorem dX3_crossingsUnder_114 : decode cX3_crossingsUnder 114 = .ok (.aload_n 0, 1) := by decide +kernel
theorem dX3_crossingsUnder_115 : decode cX3_crossingsUnder 115 = .ok (.getfield 49, 3) := by decide +kernel
theorem dX3_crossingsUnder_118 : decode cX3_crossingsUnder 118 = .ok (.iload 4, 2) := by decide +kernel
theorem dX3_crossingsUnder_120 : decode cX3_crossingsUnder 120 = .ok (.invokestatic 95, 3) := by decide +kernel
theorem dX3_crossingsUnder_123 : decode cX3_crossingsUnder 123 = .ok (.aload_n 0, 1) := by decide +kernel
theorem dX3_crossingsUnder_124 : decode cX3_crossingsUnder 124 = .ok (.getfield 49, 3) := by decide +kernel
theorem dX3_crossingsUnder_127 : decode cX3_crossingsUnder 127 = .ok (.iload 5, 2) := by decide +kernel
theorem dX3_crossingsUnder_129 : decode cX3_crossingsUnder 129 = .ok (.invokestatic 95, 3) := by decide +kernel
theorem dX3_crossingsUnder_132 : decode cX3_crossingsUnder 132 = .ok (.isub, 1) := by decide +kernel
theorem dX3_crossingsUnder_133 : decode cX3_crossingsUnder 133 = .ok (.imul, 1) := by decide +kernel
theorem dX3_crossingsUnder_134 : decode cX3_crossingsUnder 134 = .ok (.ifCond .ge 6, 3) := by decide +kernel
theorem dX3_crossingsUnder_137 : decode cX3_crossingsUnder 137 = .ok (.iinc 3 1, 3) := by decide +kernel
theorem dX3_crossingsUnder_140 : decode cX3_crossingsUnder 140 = .ok (.iinc 5 1, 3) := by decide +kernel
theorem dX3_crossingsUnder_143 : decode cX3_crossingsUnder 143 = .ok (.goto (-55), 3) := by decide +kernel
theorem dX3_crossingsUnder_146 : decode cX3_crossingsUnder 146 = .ok (.iinc 4 1, 3) := by decide +kernel
theorem dX3_crossingsUnder_149 : decode cX3_crossingsUnder 149 = .ok (.goto (-70), 3) := by decide +kernel
theorem dX3_crossingsUnder_152 : decode cX3_crossingsUnder 152 = .ok (.iload_n 3, 1) := by decide +kernel
theorem dX3_crossingsUnder_153 : decode cX3_crossingsUnder 153 = .ok (.ireturn, 1) := by decide +kernel
theorem mw_282 : Cond.fieldLink RX3 46 "OrielChart$Picture" "above" "[I" ∈ GW := gw_mem (inT2 _ (List.mem_of_getElem? (i := 25) rfl)) rfl
theorem mw_283 : Cond.fieldLink RX3 49 "OrielChart$Picture" "below" "[I" ∈ GW := gw_mem (inT2 _ (List.mem_of_getElem? (i := 26) rfl)) rfl
theorem mw_284 : Cond.code yX3_leaves cX3_leaves 3 (some Jvm.ClassFile.FieldType.boolean) ∈ GW := gw_mem (inT3 _ (List.mem_of_getElem? (i := 158) rfl)) rfl
theorem mw_285 : Cond.methodLink RX3 140 yX3_leaves ∈ GW := gw_mem (inT3 _ (List.mem_of_getElem? (i := 155) rfl)) rfl
theorem mw_286 : Cond.instanceMethod yX3_leaves ∈ GW := gw_mem (inT3 _ (List.mem_of_getElem? (i := 157) rfl)) rfl
theorem mw_287 : Cond.selects RX3 yX3_leaves yX3_leaves ∈ GW := gw_mem (inTp (q := (yX3_leaves, 16)) (List.mem_of_getElem? (i := 36) rfl)) rfl
theorem pdv_X3_leaves : yX3_leaves.cls = RX3 ∧ yX3_leaves.cls ≠ "java/lang/invoke/MethodHandle" ∧ yX3_leaves.cls ≠ "java/lang/invoke/VarHandle" ∧ (parseMethodDescriptor yX3_leaves.desc).map (fun d => d.parameters.length) = some 2 := by decide +kernel
theorem pointOn_9 (wa pi : Ob) (x : Nat → Int32) (e l : Int32) : pointOn wa (sA pi 9 x) e l = pointOn wa pi e l := (rfl)
set_option maxHeartbeats 4000000 in
set_option maxRecDepth 100000 in
theorem c_crossN (l : Launch) (D : va_G) (cI cJ : ClassId) (ad : Nat → Nat) (co fl ra li re wa pi : Ob) (k1 : Int32) : CT l D (TY cI cJ) yX3_crossingsUnder (.code yX3_crossingsUnder cX3_crossingsUnder 6 (some Jvm.ClassFile.FieldType.int)) 3 0 0 (XW ad cI cJ co fl ra li re wa pi) [.ref (ad 6), .int k1] (QI D (TY cI cJ) (fun r u => r = (crossN wa pi k1) ∧ u = (XW ad cI cJ co fl ra li re wa (cuP wa pi k1).1))) := by
  refine ent (by decide) (Nat.le_of_ble_eq_true rfl) ?_
  intro p e s m below meth c ls A hx hb hr hg hown hml hlocks hnm hP hK hD hS hA hN hl
  have hl : lv_has ls 6 [(0, .ref (ad 6)), (1, .int k1)] := hl
  refine lv_iconst (v := 0) hx hb dX3_crossingsUnder_0 (by decide) ?_
  refine lv_istore_n (lv' := [(2, .int 0), (0, .ref (ad 6)), (1, .int k1)]) hx hb dX3_crossingsUnder_1 rfl hl (by decide) rfl (fun ls hl => ?_)
  refine lv_iconst (v := 0) hx hb dX3_crossingsUnder_2 (by decide) ?_
  refine lv_istore_n (lv' := [(3, .int 0), (2, .int 0), (0, .ref (ad 6)), (1, .int k1)]) hx hb dX3_crossingsUnder_3 rfl hl (by decide) rfl (fun ls hl => ?_)
  refine w_loop (σ := Ob × Int32) (fun (i_1 : Nat) (p_1 : Ob × Int32) (H : Heap) (locs : List Loc) (ls : Array Slot) => p_1 = (lp (cuA wa k1) i_1 (pi, 0)) ∧ va_P D vwCl (XW ad cI cJ co fl ra li re wa p_1.1) H ∧ va_D A (XW ad cI cJ co fl ra li re wa p_1.1) ∧ va_S A s.heap H locs ∧ lv_has ls 6 [(0, .ref (ad 6)), (1, .int k1), (2, .int p_1.2), (3, .int (nI i_1))]) (nN (gi pi 0)) (fun p_1 H locs ls hI => ?_) (fun i_1 p_1 H locs ls hi_1 hI ih_1 => ?_) 0 (pi, 0) (Nat.zero_le _) ⟨(lp_0 _ _), hP, hD, hS, (by rw [nI_0]; exact lv_sub hl [2, 3, 1, 0] rfl)⟩
  · obtain ⟨h_1, hP, hD, hS, hl⟩ := hI
    have h_1 := h_1.symm
    subst h_1
    have hP : va_P D vwCl (XW ad cI cJ co fl ra li re wa ((lp (cuA wa k1) (nN (gi pi 0)) (pi, 0)).1)) H := hP
    have hD : va_D A (XW ad cI cJ co fl ra li re wa ((lp (cuA wa k1) (nN (gi pi 0)) (pi, 0)).1)) := hD
    have hl : lv_has ls 6 [(0, .ref (ad 6)), (1, .int k1), (2, .int ((lp (cuA wa k1) (nN (gi pi 0)) (pi, 0)).2)), (3, .int (nI ((nN (gi pi 0)))))] := hl
    refine lv_iload_n hx hb dX3_crossingsUnder_4 rfl (lv_at hl 3 rfl) ?_
    refine lv_aload_n hx hb dX3_crossingsUnder_5 rfl (lv_at hl 0 rfl) ?_
    refine va_get (D := D) (ci := 3) (v := .int (gi ((lp (cuA wa k1) (nN (gi pi 0)) (pi, 0)).1) 0)) (C := RX3) (T := TX3) (N := 16) hx hb hg inGX3 hown hK hP 6 xo6 rfl 12 (by decide) (hg _ mw_228) (fun _ h9 => h9) (xvX3_12 rfl) dX3_crossingsUnder_6 ?_
    refine lv_icmp_ge (tgt := 74) hx hb dX3_crossingsUnder_9 (by decide) (fun _ => ?_) (fun c_9 => absurd (by rw [k_cuAL]; exact lp_out _) c_9)
    refine lv_iconst (v := 0) hx hb dX3_crossingsUnder_74 (by decide) ?_
    refine lv_istore_n (lv' := [(3, .int 0), (0, .ref (ad 6)), (1, .int k1), (2, .int ((lp (cuA wa k1) (nN (gi pi 0)) (pi, 0)).2))]) hx hb dX3_crossingsUnder_75 rfl hl (by decide) rfl (fun ls hl => ?_)
    refine lv_iconst (v := 0) hx hb dX3_crossingsUnder_76 (by decide) ?_
    refine lv_istore (lv' := [(4, .int 0), (3, .int 0), (0, .ref (ad 6)), (1, .int k1), (2, .int ((lp (cuA wa k1) (nN (gi pi 0)) (pi, 0)).2))]) hx hb dX3_crossingsUnder_77 hl (by decide) rfl (fun ls hl => ?_)
    refine w_loop (σ := Int32) (fun (i_2 : Nat) (p_2 : Int32) (H : Heap) (locs : List Loc) (ls : Array Slot) => p_2 = (lp (cuC ((lp (cuA wa k1) (nN (gi pi 0)) (pi, 0)).1)) i_2 0) ∧ va_P D vwCl (XW ad cI cJ co fl ra li re wa ((lp (cuA wa k1) (nN (gi pi 0)) (pi, 0)).1)) H ∧ va_D A (XW ad cI cJ co fl ra li re wa ((lp (cuA wa k1) (nN (gi pi 0)) (pi, 0)).1)) ∧ va_S A s.heap H locs ∧ lv_has ls 6 [(0, .ref (ad 6)), (1, .int k1), (2, .int ((lp (cuA wa k1) (nN (gi pi 0)) (pi, 0)).2)), (3, .int p_2), (4, .int (nI i_2))]) (nN ((lp (cuA wa k1) (nN (gi pi 0)) (pi, 0)).2)) (fun p_2 H locs ls hI => ?_) (fun i_2 p_2 H locs ls hi_2 hI ih_2 => ?_) 0 0 (Nat.zero_le _) ⟨(lp_0 _ _), hP, hD, hS, (by rw [nI_0]; exact lv_sub hl [2, 3, 4, 1, 0] rfl)⟩
    · obtain ⟨h_2, hP, hD, hS, hl⟩ := hI
      have h_2 := h_2.symm
      subst h_2
      have hP : va_P D vwCl (XW ad cI cJ co fl ra li re wa ((lp (cuA wa k1) (nN (gi pi 0)) (pi, 0)).1)) H := hP
      have hD : va_D A (XW ad cI cJ co fl ra li re wa ((lp (cuA wa k1) (nN (gi pi 0)) (pi, 0)).1)) := hD
      have hl : lv_has ls 6 [(0, .ref (ad 6)), (1, .int k1), (2, .int ((lp (cuA wa k1) (nN (gi pi 0)) (pi, 0)).2)), (3, .int ((lp (cuC ((lp (cuA wa k1) (nN (gi pi 0)) (pi, 0)).1)) (nN ((lp (cuA wa k1) (nN (gi pi 0)) (pi, 0)).2)) 0))), (4, .int (nI ((nN ((lp (cuA wa k1) (nN (gi pi 0)) (pi, 0)).2)))))] := hl
      refine lv_iload hx hb dX3_crossingsUnder_79 (lv_at hl 4 rfl) ?_
      refine lv_iload_n hx hb dX3_crossingsUnder_81 rfl (lv_at hl 2 rfl) ?_
      refine lv_icmp_ge (tgt := 152) hx hb dX3_crossingsUnder_82 (by decide) (fun _ => ?_) (fun c_82 => absurd (lp_out _) c_82)
      refine lv_iload_n hx hb dX3_crossingsUnder_152 rfl (lv_at hl 3 rfl) ?_
      exact W.iret (v := ((lp (cuC ((lp (cuA wa k1) (nN (gi pi 0)) (pi, 0)).1)) (nN ((lp (cuA wa k1) (nN (gi pi 0)) (pi, 0)).2)) 0))) hx hb hr (fun t ht hW => ⟨⟨((lp (cuC ((lp (cuA wa k1) (nN (gi pi 0)) (pi, 0)).1)) (nN ((lp (cuA wa k1) (nN (gi pi 0)) (pi, 0)).2)) 0)), (XW ad cI cJ co fl ra li re wa ((lp (cuA wa k1) (nN (gi pi 0)) (pi, 0)).1)), rfl, ⟨(show (((lp (cuC ((lp (cuA wa k1) (nN (gi pi 0)) (pi, 0)).1)) (nN ((lp (cuA wa k1) (nN (gi pi 0)) (pi, 0)).2)) 0)) : Int32) = (crossN wa pi k1) from (by first | with_reducible rfl | (simp only [crossN, cuP, gi_sl, gi_sA, gi_sB, gi_si_s, gi_si_n, gl_si, gl_sA, gl_sB, gl_sl_s, gl_sl_n, gA_si, gA_sl, gA_sB, gA_sA_s, gA_sA_n, gB_si, gB_sl, gB_sA, gB_sB_s, gB_sB_n, Nat.reduceBEq, if_true, if_false, eq_self, Bool.false_eq_true, Bool.true_eq_false, not_true_eq_false, not_false_eq_true, decide_true, decide_false, cond_true, cond_false, Bool.true_and, Bool.false_and, Bool.and_true, Bool.and_false, Bool.true_or, Bool.false_or, Bool.or_true, Bool.or_false, b2i_tt, b2i_ff, pr_eta]; done))), xw_eq rfl rfl rfl rfl rfl rfl (show ((lp (cuA wa k1) (nN (gi pi 0)) (pi, 0)).1) = (cuP wa pi k1).1 from (by first | with_reducible rfl | (simp only [crossN, cuP, gi_sl, gi_sA, gi_sB, gi_si_s, gi_si_n, gl_si, gl_sA, gl_sB, gl_sl_s, gl_sl_n, gA_si, gA_sl, gA_sB, gA_sA_s, gA_sA_n, gB_si, gB_sl, gB_sA, gB_sB_s, gB_sB_n, Nat.reduceBEq, if_true, if_false, eq_self, Bool.false_eq_true, Bool.true_eq_false, not_true_eq_false, not_false_eq_true, decide_true, decide_false, cond_true, cond_false, Bool.true_and, Bool.false_and, Bool.and_true, Bool.and_false, Bool.true_or, Bool.false_or, Bool.or_true, Bool.or_false, b2i_tt, b2i_ff, pr_eta]; done)))⟩, ⟨by rw [ht]; exact hP, va_K.moved hW.alike hK, hD⟩⟩, hS.F ht⟩) hS.2.2 dX3_crossingsUnder_153
    · obtain ⟨h_2, hP, hD, hS, hl⟩ := hI
      have hP : va_P D vwCl (XW ad cI cJ co fl ra li re wa ((lp (cuA wa k1) (nN (gi pi 0)) (pi, 0)).1)) H := hP
      have hD : va_D A (XW ad cI cJ co fl ra li re wa ((lp (cuA wa k1) (nN (gi pi 0)) (pi, 0)).1)) := hD
      have hl : lv_has ls 6 [(0, .ref (ad 6)), (1, .int k1), (2, .int ((lp (cuA wa k1) (nN (gi pi 0)) (pi, 0)).2)), (3, .int p_2), (4, .int (nI i_2))] := hl
      refine lv_iload hx hb dX3_crossingsUnder_79 (lv_at hl 4 rfl) ?_
      refine lv_iload_n hx hb dX3_crossingsUnder_81 rfl (lv_at hl 2 rfl) ?_
      refine lv_icmp_ge (tgt := 152) hx hb dX3_crossingsUnder_82 (by decide) (fun c_82 => absurd c_82 (lp_in hi_2)) (fun _ => ?_)
      refine lv_iconst (v := 0) hx hb dX3_crossingsUnder_85 (by decide) ?_
      refine lv_istore (lv' := [(5, .int 0), (0, .ref (ad 6)), (1, .int k1), (2, .int ((lp (cuA wa k1) (nN (gi pi 0)) (pi, 0)).2)), (3, .int p_2), (4, .int (nI i_2))]) hx hb dX3_crossingsUnder_86 hl (by decide) rfl (fun ls hl => ?_)
      refine w_loop (σ := Int32) (fun (i_3 : Nat) (p_3 : Int32) (H : Heap) (locs : List Loc) (ls : Array Slot) => p_3 = (lp (cuB ((lp (cuA wa k1) (nN (gi pi 0)) (pi, 0)).1) i_2) i_3 p_2) ∧ va_P D vwCl (XW ad cI cJ co fl ra li re wa ((lp (cuA wa k1) (nN (gi pi 0)) (pi, 0)).1)) H ∧ va_D A (XW ad cI cJ co fl ra li re wa ((lp (cuA wa k1) (nN (gi pi 0)) (pi, 0)).1)) ∧ va_S A s.heap H locs ∧ lv_has ls 6 [(0, .ref (ad 6)), (1, .int k1), (2, .int ((lp (cuA wa k1) (nN (gi pi 0)) (pi, 0)).2)), (3, .int p_3), (4, .int (nI i_2)), (5, .int (nI i_3))]) (i_2) (fun p_3 H locs ls hI => ?_) (fun i_3 p_3 H locs ls hi_3 hI ih_3 => ?_) 0 p_2 (Nat.zero_le _) ⟨(lp_0 _ _), hP, hD, hS, (by rw [nI_0]; exact lv_sub hl [1, 2, 3, 4, 5, 0] rfl)⟩
      · obtain ⟨h_3, hP, hD, hS, hl⟩ := hI
        have h_3 := h_3.symm
        subst h_3
        have hP : va_P D vwCl (XW ad cI cJ co fl ra li re wa ((lp (cuA wa k1) (nN (gi pi 0)) (pi, 0)).1)) H := hP
        have hD : va_D A (XW ad cI cJ co fl ra li re wa ((lp (cuA wa k1) (nN (gi pi 0)) (pi, 0)).1)) := hD
        have hl : lv_has ls 6 [(0, .ref (ad 6)), (1, .int k1), (2, .int ((lp (cuA wa k1) (nN (gi pi 0)) (pi, 0)).2)), (3, .int ((lp (cuB ((lp (cuA wa k1) (nN (gi pi 0)) (pi, 0)).1) i_2) (i_2) p_2))), (4, .int (nI i_2)), (5, .int (nI i_2))] := hl
        refine lv_iload hx hb dX3_crossingsUnder_88 (lv_at hl 5 rfl) ?_
        refine lv_iload hx hb dX3_crossingsUnder_90 (lv_at hl 4 rfl) ?_
        refine lv_icmp_ge (tgt := 146) hx hb dX3_crossingsUnder_92 (by decide) (fun _ => ?_) (fun c_92 => absurd (Int32.le_refl _) c_92)
        refine lv_iinc (v := (nI (i_2 + 1))) (lv' := [(4, .int (nI (i_2 + 1))), (0, .ref (ad 6)), (1, .int k1), (2, .int ((lp (cuA wa k1) (nN (gi pi 0)) (pi, 0)).2)), (3, .int ((lp (cuB ((lp (cuA wa k1) (nN (gi pi 0)) (pi, 0)).1) i_2) (i_2) p_2))), (5, .int (nI i_2))]) hx hb dX3_crossingsUnder_146 hl (k := 4) rfl (nI_1 i_2) (by decide) rfl (fun ls hl => ?_)
        refine lv_goto (tgt := 79) hx hb dX3_crossingsUnder_149 (by decide) ?_
        exact ih_2 ((lp (cuB ((lp (cuA wa k1) (nN (gi pi 0)) (pi, 0)).1) i_2) (i_2) p_2)) H locs ls ⟨((show ((lp (cuB ((lp (cuA wa k1) (nN (gi pi 0)) (pi, 0)).1) i_2) (i_2) p_2)) = (cuC ((lp (cuA wa k1) (nN (gi pi 0)) (pi, 0)).1)) i_2 p_2 from (by first | with_reducible rfl | (simp only [cuC, gi_sl, gi_sA, gi_sB, gi_si_s, gi_si_n, gl_si, gl_sA, gl_sB, gl_sl_s, gl_sl_n, gA_si, gA_sl, gA_sB, gA_sA_s, gA_sA_n, gB_si, gB_sl, gB_sA, gB_sB_s, gB_sB_n, Nat.reduceBEq, if_true, if_false, eq_self, Bool.false_eq_true, Bool.true_eq_false, not_true_eq_false, not_false_eq_true, decide_true, decide_false, cond_true, cond_false, Bool.true_and, Bool.false_and, Bool.and_true, Bool.and_false, Bool.true_or, Bool.false_or, Bool.or_true, Bool.or_false, b2i_tt, b2i_ff, pr_eta]; done))).trans (lp_go h_2)), hP, hD, hS, lv_sub hl [1, 2, 3, 4, 0] rfl⟩
      · obtain ⟨h_3, hP, hD, hS, hl⟩ := hI
        have hP : va_P D vwCl (XW ad cI cJ co fl ra li re wa ((lp (cuA wa k1) (nN (gi pi 0)) (pi, 0)).1)) H := hP
        have hD : va_D A (XW ad cI cJ co fl ra li re wa ((lp (cuA wa k1) (nN (gi pi 0)) (pi, 0)).1)) := hD
        have hl : lv_has ls 6 [(0, .ref (ad 6)), (1, .int k1), (2, .int ((lp (cuA wa k1) (nN (gi pi 0)) (pi, 0)).2)), (3, .int p_3), (4, .int (nI i_2)), (5, .int (nI i_3))] := hl
        refine lv_iload hx hb dX3_crossingsUnder_88 (lv_at hl 5 rfl) ?_
        refine lv_iload hx hb dX3_crossingsUnder_90 (lv_at hl 4 rfl) ?_
        refine lv_icmp_ge (tgt := 146) hx hb dX3_crossingsUnder_92 (by decide) (fun c_92 => absurd c_92 (nI_ge hi_3 (Nat.lt_trans hi_2 (nN_lt _)))) (fun _ => ?_)
        refine lv_aload_n hx hb dX3_crossingsUnder_95 rfl (lv_at hl 0 rfl) ?_
        refine va_get (D := D) (ci := 3) (v := .ref (ad 43)) (C := RX3) (T := TX3) (N := 16) hx hb hg inGX3 hown hK hP 6 xo6 rfl 10 (by decide) (hg _ mw_282) (fun _ h9 => h9) xvX3_10 dX3_crossingsUnder_96 ?_
        refine lv_iload hx hb dX3_crossingsUnder_99 (lv_at hl 4 rfl) ?_
        refine kI (rSN hx hb hml hown hg hN hK hP hD (c_at l D cI cJ (XW ad cI cJ co fl ra li re wa ((lp (cuA wa k1) (nN (gi pi 0)) (pi, 0)).1)) 43 (ad 43) 80 (gA ((lp (cuA wa k1) (nN (gi pi 0)) (pi, 0)).1) 9) (nI i_2) (xg43 rfl) (by decide)) mw_84 nw_96 mw_85 mw_77 pd_X7_at ⟨Nat.le_of_ble_eq_true rfl, Nat.le_of_ble_eq_true rfl⟩ rfl hl.1 rfl (Nat.le_of_ble_eq_true rfl) dX3_crossingsUnder_101 ⟨Nat.le_of_ble_eq_true rfl, Nat.le_of_ble_eq_true rfl⟩) hD hS hA (fun r_4 u_4 H locs hp hP hD hS => ?_)
        obtain ⟨er, eu⟩ := hp
        obtain rfl := er.symm
        obtain rfl := eu.symm
        refine lv_aload_n hx hb dX3_crossingsUnder_104 rfl (lv_at hl 0 rfl) ?_
        refine va_get (D := D) (ci := 3) (v := .ref (ad 43)) (C := RX3) (T := TX3) (N := 16) hx hb hg inGX3 hown hK hP 6 xo6 rfl 10 (by decide) (hg _ mw_282) (fun _ h9 => h9) xvX3_10 dX3_crossingsUnder_105 ?_
        refine lv_iload hx hb dX3_crossingsUnder_108 (lv_at hl 5 rfl) ?_
        refine kI (rSN hx hb hml hown hg hN hK hP hD (c_at l D cI cJ (XW ad cI cJ co fl ra li re wa ((lp (cuA wa k1) (nN (gi pi 0)) (pi, 0)).1)) 43 (ad 43) 80 (gA ((lp (cuA wa k1) (nN (gi pi 0)) (pi, 0)).1) 9) (nI i_3) (xg43 rfl) (by decide)) mw_84 nw_96 mw_85 mw_77 pd_X7_at ⟨Nat.le_of_ble_eq_true rfl, Nat.le_of_ble_eq_true rfl⟩ rfl hl.1 rfl (Nat.le_of_ble_eq_true rfl) dX3_crossingsUnder_110 ⟨Nat.le_of_ble_eq_true rfl, Nat.le_of_ble_eq_true rfl⟩) hD hS hA (fun r_5 u_5 H locs hp hP hD hS => ?_)
        obtain ⟨er, eu⟩ := hp
        obtain rfl := er.symm
        obtain rfl := eu.symm
        refine lv_isub hx hb dX3_crossingsUnder_113 ?_
        refine lv_aload_n hx hb dX3_crossingsUnder_114 rfl (lv_at hl 0 rfl) ?_
        refine va_get (D := D) (ci := 3) (v := .ref (ad 44)) (C := RX3) (T := TX3) (N := 16) hx hb hg inGX3 hown hK hP 6 xo6 rfl 11 (by decide) (hg _ mw_283) (fun _ h9 => h9) xvX3_11 dX3_crossingsUnder_115 ?_
        refine lv_iload hx hb dX3_crossingsUnder_118 (lv_at hl 4 rfl) ?_
        refine kI (rSN hx hb hml hown hg hN hK hP hD (c_at l D cI cJ (XW ad cI cJ co fl ra li re wa ((lp (cuA wa k1) (nN (gi pi 0)) (pi, 0)).1)) 44 (ad 44) 80 (gA ((lp (cuA wa k1) (nN (gi pi 0)) (pi, 0)).1) 10) (nI i_2) (xg44 rfl) (by decide)) mw_84 nw_96 mw_85 mw_77 pd_X7_at ⟨Nat.le_of_ble_eq_true rfl, Nat.le_of_ble_eq_true rfl⟩ rfl hl.1 rfl (Nat.le_of_ble_eq_true rfl) dX3_crossingsUnder_120 ⟨Nat.le_of_ble_eq_true rfl, Nat.le_of_ble_eq_true rfl⟩) hD hS hA (fun r_6 u_6 H locs hp hP hD hS => ?_)
        obtain ⟨er, eu⟩ := hp
        obtain rfl := er.symm
        obtain rfl := eu.symm
        refine lv_aload_n hx hb dX3_crossingsUnder_123 rfl (lv_at hl 0 rfl) ?_
        refine va_get (D := D) (ci := 3) (v := .ref (ad 44)) (C := RX3) (T := TX3) (N := 16) hx hb hg inGX3 hown hK hP 6 xo6 rfl 11 (by decide) (hg _ mw_283) (fun _ h9 => h9) xvX3_11 dX3_crossingsUnder_124 ?_
        refine lv_iload hx hb dX3_crossingsUnder_127 (lv_at hl 5 rfl) ?_
        refine kI (rSN hx hb hml hown hg hN hK hP hD (c_at l D cI cJ (XW ad cI cJ co fl ra li re wa ((lp (cuA wa k1) (nN (gi pi 0)) (pi, 0)).1)) 44 (ad 44) 80 (gA ((lp (cuA wa k1) (nN (gi pi 0)) (pi, 0)).1) 10) (nI i_3) (xg44 rfl) (by decide)) mw_84 nw_96 mw_85 mw_77 pd_X7_at ⟨Nat.le_of_ble_eq_true rfl, Nat.le_of_ble_eq_true rfl⟩ rfl hl.1 rfl (Nat.le_of_ble_eq_true rfl) dX3_crossingsUnder_129 ⟨Nat.le_of_ble_eq_true rfl, Nat.le_of_ble_eq_true rfl⟩) hD hS hA (fun r_7 u_7 H locs hp hP hD hS => ?_)
        obtain ⟨er, eu⟩ := hp
        obtain rfl := er.symm
        obtain rfl := eu.symm
        refine lv_isub hx hb dX3_crossingsUnder_132 ?_
        refine lv_imul hx hb dX3_crossingsUnder_133 ?_
        refine lv_if_ge (tgt := 140) hx hb dX3_crossingsUnder_134 (by decide) (fun c_134 => ?_) (fun c_134 => ?_)
        · have c_134 : ¬ (((rd (gA ((lp (cuA wa k1) (nN (gi pi 0)) (pi, 0)).1) 9) 80 (nI i_2)) - (rd (gA ((lp (cuA wa k1) (nN (gi pi 0)) (pi, 0)).1) 9) 80 (nI i_3))) * ((rd (gA ((lp (cuA wa k1) (nN (gi pi 0)) (pi, 0)).1) 10) 80 (nI i_2)) - (rd (gA ((lp (cuA wa k1) (nN (gi pi 0)) (pi, 0)).1) 10) 80 (nI i_3)))) < 0 := i_ge c_134
          refine lv_iinc (v := (nI (i_3 + 1))) (lv' := [(5, .int (nI (i_3 + 1))), (0, .ref (ad 6)), (1, .int k1), (2, .int ((lp (cuA wa k1) (nN (gi pi 0)) (pi, 0)).2)), (3, .int p_3), (4, .int (nI i_2))]) hx hb dX3_crossingsUnder_140 hl (k := 5) rfl (nI_1 i_3) (by decide) rfl (fun ls hl => ?_)
          refine lv_goto (tgt := 88) hx hb dX3_crossingsUnder_143 (by decide) ?_
          exact ih_3 p_3 H locs ls ⟨((show p_3 = (cuB ((lp (cuA wa k1) (nN (gi pi 0)) (pi, 0)).1) i_2) i_3 p_3 from (by simp only [cuB, eq_false c_134, gi_sl, gi_sA, gi_sB, gi_si_s, gi_si_n, gl_si, gl_sA, gl_sB, gl_sl_s, gl_sl_n, gA_si, gA_sl, gA_sB, gA_sA_s, gA_sA_n, gB_si, gB_sl, gB_sA, gB_sB_s, gB_sB_n, Nat.reduceBEq, if_true, if_false, eq_self, Bool.false_eq_true, Bool.true_eq_false, not_true_eq_false, not_false_eq_true, decide_true, decide_false, cond_true, cond_false, Bool.true_and, Bool.false_and, Bool.and_true, Bool.and_false, Bool.true_or, Bool.false_or, Bool.or_true, Bool.or_false, b2i_tt, b2i_ff, pr_eta]; done)).trans (lp_go h_3)), hP, hD, hS, lv_sub hl [1, 2, 3, 4, 5, 0] rfl⟩
        · have c_134 : (((rd (gA ((lp (cuA wa k1) (nN (gi pi 0)) (pi, 0)).1) 9) 80 (nI i_2)) - (rd (gA ((lp (cuA wa k1) (nN (gi pi 0)) (pi, 0)).1) 9) 80 (nI i_3))) * ((rd (gA ((lp (cuA wa k1) (nN (gi pi 0)) (pi, 0)).1) 10) 80 (nI i_2)) - (rd (gA ((lp (cuA wa k1) (nN (gi pi 0)) (pi, 0)).1) 10) 80 (nI i_3)))) < 0 := i_nge c_134
          refine lv_iinc (v := (p_3 + 1)) (lv' := [(3, .int (p_3 + 1)), (0, .ref (ad 6)), (1, .int k1), (2, .int ((lp (cuA wa k1) (nN (gi pi 0)) (pi, 0)).2)), (4, .int (nI i_2)), (5, .int (nI i_3))]) hx hb dX3_crossingsUnder_137 hl (k := 3) rfl rfl (by decide) rfl (fun ls hl => ?_)
          refine lv_iinc (v := (nI (i_3 + 1))) (lv' := [(5, .int (nI (i_3 + 1))), (3, .int (p_3 + 1)), (0, .ref (ad 6)), (1, .int k1), (2, .int ((lp (cuA wa k1) (nN (gi pi 0)) (pi, 0)).2)), (4, .int (nI i_2))]) hx hb dX3_crossingsUnder_140 hl (k := 5) rfl (nI_1 i_3) (by decide) rfl (fun ls hl => ?_)
          refine lv_goto (tgt := 88) hx hb dX3_crossingsUnder_143 (by decide) ?_
          exact ih_3 (p_3 + 1) H locs ls ⟨((show (p_3 + 1) = (cuB ((lp (cuA wa k1) (nN (gi pi 0)) (pi, 0)).1) i_2) i_3 p_3 from (by simp only [cuB, eq_true c_134, gi_sl, gi_sA, gi_sB, gi_si_s, gi_si_n, gl_si, gl_sA, gl_sB, gl_sl_s, gl_sl_n, gA_si, gA_sl, gA_sB, gA_sA_s, gA_sA_n, gB_si, gB_sl, gB_sA, gB_sB_s, gB_sB_n, Nat.reduceBEq, if_true, if_false, eq_self, Bool.false_eq_true, Bool.true_eq_false, not_true_eq_false, not_false_eq_true, decide_true, decide_false, cond_true, cond_false, Bool.true_and, Bool.false_and, Bool.and_true, Bool.and_false, Bool.true_or, Bool.false_or, Bool.or_true, Bool.or_false, b2i_tt, b2i_ff, pr_eta]; done)).trans (lp_go h_3)), hP, hD, hS, lv_sub hl [2, 3, 4, 1, 5, 0] rfl⟩
  · obtain ⟨h_1, hP, hD, hS, hl⟩ := hI
    have hP : va_P D vwCl (XW ad cI cJ co fl ra li re wa p_1.1) H := hP
    have hD : va_D A (XW ad cI cJ co fl ra li re wa p_1.1) := hD
    have hl : lv_has ls 6 [(0, .ref (ad 6)), (1, .int k1), (2, .int p_1.2), (3, .int (nI i_1))] := hl
    refine lv_iload_n hx hb dX3_crossingsUnder_4 rfl (lv_at hl 3 rfl) ?_
    refine lv_aload_n hx hb dX3_crossingsUnder_5 rfl (lv_at hl 0 rfl) ?_
    refine va_get (D := D) (ci := 3) (v := .int (gi p_1.1 0)) (C := RX3) (T := TX3) (N := 16) hx hb hg inGX3 hown hK hP 6 xo6 rfl 12 (by decide) (hg _ mw_228) (fun _ h9 => h9) (xvX3_12 rfl) dX3_crossingsUnder_6 ?_
    refine lv_icmp_ge (tgt := 74) hx hb dX3_crossingsUnder_9 (by decide) (fun c_9 => absurd c_9 (by rw [h_1, k_cuAL]; exact lp_in hi_1)) (fun _ => ?_)
    refine lv_aload_n hx hb dX3_crossingsUnder_12 rfl (lv_at hl 0 rfl) ?_
    refine lv_iload_n hx hb dX3_crossingsUnder_13 rfl (lv_at hl 3 rfl) ?_
    refine lv_iload_n hx hb dX3_crossingsUnder_14 rfl (lv_at hl 1 rfl) ?_
    refine kI (rV (q0 := 6) (ci := 3) hx hb hml hown hg hN hK hP hD (c_leaves l D cI cJ ad co fl ra li re wa p_1.1 (nI i_1) k1) mw_284 mw_285 mw_286 mw_287 mw_234 pdv_X3_leaves ⟨Nat.le_of_ble_eq_true rfl, Nat.le_of_ble_eq_true rfl⟩ rfl xo6 rfl hl.1 rfl (Nat.le_of_ble_eq_true rfl) dX3_crossingsUnder_15 ⟨Nat.le_of_ble_eq_true rfl, Nat.le_of_ble_eq_true rfl⟩) hD hS hA (fun r_8 u_8 H locs hp hP hD hS => ?_)
    obtain ⟨er, eu⟩ := hp
    obtain rfl := er.symm
    obtain rfl := eu.symm
    refine lv_if_eq (tgt := 68) hx hb dX3_crossingsUnder_18 (by decide) (fun c_18 => ?_) (fun c_18 => ?_)
    · have c_18 : ¬ (leaves wa p_1.1 (nI i_1) k1) = true := b2i_0 c_18
      refine lv_iinc (v := (nI (i_1 + 1))) (lv' := [(3, .int (nI (i_1 + 1))), (0, .ref (ad 6)), (1, .int k1), (2, .int p_1.2)]) hx hb dX3_crossingsUnder_68 hl (k := 3) rfl (nI_1 i_1) (by decide) rfl (fun ls hl => ?_)
      refine lv_goto (tgt := 4) hx hb dX3_crossingsUnder_71 (by decide) ?_
      exact ih_1 (p_1.1, p_1.2) H locs ls ⟨((show (p_1.1, p_1.2) = (cuA wa k1) i_1 p_1 from (by simp only [cuA, pointOn_9, bf_of c_18, gi_sl, gi_sA, gi_sB, gi_si_s, gi_si_n, gl_si, gl_sA, gl_sB, gl_sl_s, gl_sl_n, gA_si, gA_sl, gA_sB, gA_sA_s, gA_sA_n, gB_si, gB_sl, gB_sA, gB_sB_s, gB_sB_n, Nat.reduceBEq, if_true, if_false, eq_self, Bool.false_eq_true, Bool.true_eq_false, not_true_eq_false, not_false_eq_true, decide_true, decide_false, cond_true, cond_false, Bool.true_and, Bool.false_and, Bool.and_true, Bool.and_false, Bool.true_or, Bool.false_or, Bool.or_true, Bool.or_false, b2i_tt, b2i_ff, pr_eta]; done)).trans (lp_go h_1)), hP, hD, hS, lv_sub hl [1, 2, 3, 0] rfl⟩
    · have c_18 : (leaves wa p_1.1 (nI i_1) k1) = true := b2i_1 c_18
      refine lv_aload_n hx hb dX3_crossingsUnder_21 rfl (lv_at hl 0 rfl) ?_
      refine va_get (D := D) (ci := 3) (v := .ref (ad 43)) (C := RX3) (T := TX3) (N := 16) hx hb hg inGX3 hown hK hP 6 xo6 rfl 10 (by decide) (hg _ mw_282) (fun _ h9 => h9) xvX3_10 dX3_crossingsUnder_22 ?_
      refine lv_iload_n hx hb dX3_crossingsUnder_25 rfl (lv_at hl 2 rfl) ?_
      refine lv_aload_n hx hb dX3_crossingsUnder_26 rfl (lv_at hl 0 rfl) ?_
      refine va_get (D := D) (ci := 3) (v := .ref (ad 39)) (C := RX3) (T := TX3) (N := 16) hx hb hg inGX3 hown hK hP 6 xo6 rfl 6 (by decide) (hg _ mw_255) (fun _ h9 => h9) xvX3_6 dX3_crossingsUnder_27 ?_
      refine lv_aload_n hx hb dX3_crossingsUnder_30 rfl (lv_at hl 0 rfl) ?_
      refine lv_iload_n hx hb dX3_crossingsUnder_31 rfl (lv_at hl 3 rfl) ?_
      refine lv_iload_n hx hb dX3_crossingsUnder_32 rfl (lv_at hl 1 rfl) ?_
      refine kI (rV (q0 := 6) (ci := 3) hx hb hml hown hg hN hK hP hD (c_pointOn l D cI cJ ad co fl ra li re wa p_1.1 (nI i_1) k1) mw_257 mw_258 mw_259 mw_260 mw_234 pdv_X3_pointOn ⟨Nat.le_of_ble_eq_true rfl, Nat.le_of_ble_eq_true rfl⟩ rfl xo6 rfl hl.1 rfl (Nat.le_of_ble_eq_true rfl) dX3_crossingsUnder_33 ⟨Nat.le_of_ble_eq_true rfl, Nat.le_of_ble_eq_true rfl⟩) hD hS hA (fun r_9 u_9 H locs hp hP hD hS => ?_)
      obtain ⟨er, eu⟩ := hp
      obtain rfl := er.symm
      obtain rfl := eu.symm
      refine kI (rSN hx hb hml hown hg hN hK hP hD (c_at l D cI cJ (XW ad cI cJ co fl ra li re wa p_1.1) 39 (ad 39) 1600 (gA p_1.1 5) (pointOn wa p_1.1 (nI i_1) k1) (xg39 rfl) (by decide)) mw_84 nw_96 mw_85 mw_77 pd_X7_at ⟨Nat.le_of_ble_eq_true rfl, Nat.le_of_ble_eq_true rfl⟩ rfl hl.1 rfl (Nat.le_of_ble_eq_true rfl) dX3_crossingsUnder_36 ⟨Nat.le_of_ble_eq_true rfl, Nat.le_of_ble_eq_true rfl⟩) hD hS hA (fun r_10 u_10 H locs hp hP hD hS => ?_)
      obtain ⟨er, eu⟩ := hp
      obtain rfl := er.symm
      obtain rfl := eu.symm
      refine kV (rSN hx hb hml hown hg hN hK hP hD (c_put l D cI cJ (XW ad cI cJ co fl ra li re wa p_1.1) 43 (ad 43) 80 (gA p_1.1 9) p_1.2 (rd (gA p_1.1 5) 1600 (pointOn wa p_1.1 (nI i_1) k1)) (xg43 rfl) (by decide)) mw_92 nw_95 mw_93 mw_77 pd_X7_put ⟨Nat.le_of_ble_eq_true rfl, Nat.le_of_ble_eq_true rfl⟩ rfl hl.1 rfl (Nat.le_of_ble_eq_true rfl) dX3_crossingsUnder_39 ⟨Nat.le_of_ble_eq_true rfl, Nat.le_of_ble_eq_true rfl⟩) hD hS hA (fun u_11 H locs hp hP hD hS => ?_)
      obtain rfl := hp.symm
      have hP : va_P D vwCl (XW ad cI cJ co fl ra li re wa (sA p_1.1 9 (wr (gA p_1.1 9) 80 p_1.2 (rd (gA p_1.1 5) 1600 (pointOn wa p_1.1 (nI i_1) k1))))) H := cgP xs43 hP
      have hD : va_D A (XW ad cI cJ co fl ra li re wa (sA p_1.1 9 (wr (gA p_1.1 9) 80 p_1.2 (rd (gA p_1.1 5) 1600 (pointOn wa p_1.1 (nI i_1) k1))))) := cgD xs43 hD
      refine lv_aload_n hx hb dX3_crossingsUnder_42 rfl (lv_at hl 0 rfl) ?_
      refine va_get (D := D) (ci := 3) (v := .ref (ad 44)) (C := RX3) (T := TX3) (N := 16) hx hb hg inGX3 hown hK hP 6 xo6 rfl 11 (by decide) (hg _ mw_283) (fun _ h9 => h9) xvX3_11 dX3_crossingsUnder_43 ?_
      refine lv_iload_n hx hb dX3_crossingsUnder_46 rfl (lv_at hl 2 rfl) ?_
      refine lv_aload_n hx hb dX3_crossingsUnder_47 rfl (lv_at hl 0 rfl) ?_
      refine va_get (D := D) (ci := 3) (v := .ref (ad 39)) (C := RX3) (T := TX3) (N := 16) hx hb hg inGX3 hown hK hP 6 xo6 rfl 6 (by decide) (hg _ mw_255) (fun _ h9 => h9) xvX3_6 dX3_crossingsUnder_48 ?_
      refine lv_aload_n hx hb dX3_crossingsUnder_51 rfl (lv_at hl 0 rfl) ?_
      refine lv_iload_n hx hb dX3_crossingsUnder_52 rfl (lv_at hl 3 rfl) ?_
      refine lv_iload_n hx hb dX3_crossingsUnder_53 rfl (lv_at hl 1 rfl) ?_
      refine lv_iconst (v := 1) hx hb dX3_crossingsUnder_54 (by decide) ?_
      refine lv_iadd hx hb dX3_crossingsUnder_55 ?_
      refine kI (rV (q0 := 6) (ci := 3) hx hb hml hown hg hN hK hP hD (c_pointOn l D cI cJ ad co fl ra li re wa (sA p_1.1 9 (wr (gA p_1.1 9) 80 p_1.2 (rd (gA p_1.1 5) 1600 (pointOn wa p_1.1 (nI i_1) k1)))) (nI i_1) (k1 + 1)) mw_257 mw_258 mw_259 mw_260 mw_234 pdv_X3_pointOn ⟨Nat.le_of_ble_eq_true rfl, Nat.le_of_ble_eq_true rfl⟩ rfl xo6 rfl hl.1 rfl (Nat.le_of_ble_eq_true rfl) dX3_crossingsUnder_56 ⟨Nat.le_of_ble_eq_true rfl, Nat.le_of_ble_eq_true rfl⟩) hD hS hA (fun r_12 u_12 H locs hp hP hD hS => ?_)
      obtain ⟨er, eu⟩ := hp
      obtain rfl := er.symm
      obtain rfl := eu.symm
      refine kI (rSN hx hb hml hown hg hN hK hP hD (c_at l D cI cJ (XW ad cI cJ co fl ra li re wa (sA p_1.1 9 (wr (gA p_1.1 9) 80 p_1.2 (rd (gA p_1.1 5) 1600 (pointOn wa p_1.1 (nI i_1) k1))))) 39 (ad 39) 1600 (gA p_1.1 5) (pointOn wa (sA p_1.1 9 (wr (gA p_1.1 9) 80 p_1.2 (rd (gA p_1.1 5) 1600 (pointOn wa p_1.1 (nI i_1) k1)))) (nI i_1) (k1 + 1)) (xg39 (by simp only [gi_sl, gi_sA, gi_sB, gi_si_s, gi_si_n, gl_si, gl_sA, gl_sB, gl_sl_s, gl_sl_n, gA_si, gA_sl, gA_sB, gA_sA_s, gA_sA_n, gB_si, gB_sl, gB_sA, gB_sB_s, gB_sB_n, Nat.reduceBEq])) (by decide)) mw_84 nw_96 mw_85 mw_77 pd_X7_at ⟨Nat.le_of_ble_eq_true rfl, Nat.le_of_ble_eq_true rfl⟩ rfl hl.1 rfl (Nat.le_of_ble_eq_true rfl) dX3_crossingsUnder_59 ⟨Nat.le_of_ble_eq_true rfl, Nat.le_of_ble_eq_true rfl⟩) hD hS hA (fun r_13 u_13 H locs hp hP hD hS => ?_)
      obtain ⟨er, eu⟩ := hp
      obtain rfl := er.symm
      obtain rfl := eu.symm
      refine kV (rSN hx hb hml hown hg hN hK hP hD (c_put l D cI cJ (XW ad cI cJ co fl ra li re wa (sA p_1.1 9 (wr (gA p_1.1 9) 80 p_1.2 (rd (gA p_1.1 5) 1600 (pointOn wa p_1.1 (nI i_1) k1))))) 44 (ad 44) 80 (gA p_1.1 10) p_1.2 (rd (gA p_1.1 5) 1600 (pointOn wa (sA p_1.1 9 (wr (gA p_1.1 9) 80 p_1.2 (rd (gA p_1.1 5) 1600 (pointOn wa p_1.1 (nI i_1) k1)))) (nI i_1) (k1 + 1))) (xg44 (by simp only [gi_sl, gi_sA, gi_sB, gi_si_s, gi_si_n, gl_si, gl_sA, gl_sB, gl_sl_s, gl_sl_n, gA_si, gA_sl, gA_sB, gA_sA_s, gA_sA_n, gB_si, gB_sl, gB_sA, gB_sB_s, gB_sB_n, Nat.reduceBEq])) (by decide)) mw_92 nw_95 mw_93 mw_77 pd_X7_put ⟨Nat.le_of_ble_eq_true rfl, Nat.le_of_ble_eq_true rfl⟩ rfl hl.1 rfl (Nat.le_of_ble_eq_true rfl) dX3_crossingsUnder_62 ⟨Nat.le_of_ble_eq_true rfl, Nat.le_of_ble_eq_true rfl⟩) hD hS hA (fun u_14 H locs hp hP hD hS => ?_)
      obtain rfl := hp.symm
      have hP : va_P D vwCl (XW ad cI cJ co fl ra li re wa (sA (sA p_1.1 9 (wr (gA p_1.1 9) 80 p_1.2 (rd (gA p_1.1 5) 1600 (pointOn wa p_1.1 (nI i_1) k1)))) 10 (wr (gA p_1.1 10) 80 p_1.2 (rd (gA p_1.1 5) 1600 (pointOn wa (sA p_1.1 9 (wr (gA p_1.1 9) 80 p_1.2 (rd (gA p_1.1 5) 1600 (pointOn wa p_1.1 (nI i_1) k1)))) (nI i_1) (k1 + 1)))))) H := cgP xs44 hP
      have hD : va_D A (XW ad cI cJ co fl ra li re wa (sA (sA p_1.1 9 (wr (gA p_1.1 9) 80 p_1.2 (rd (gA p_1.1 5) 1600 (pointOn wa p_1.1 (nI i_1) k1)))) 10 (wr (gA p_1.1 10) 80 p_1.2 (rd (gA p_1.1 5) 1600 (pointOn wa (sA p_1.1 9 (wr (gA p_1.1 9) 80 p_1.2 (rd (gA p_1.1 5) 1600 (pointOn wa p_1.1 (nI i_1) k1)))) (nI i_1) (k1 + 1)))))) := cgD xs44 hD
      refine lv_iinc (v := (p_1.2 + 1)) (lv' := [(2, .int (p_1.2 + 1)), (0, .ref (ad 6)), (1, .int k1), (3, .int (nI i_1))]) hx hb dX3_crossingsUnder_65 hl (k := 2) rfl rfl (by decide) rfl (fun ls hl => ?_)
      refine lv_iinc (v := (nI (i_1 + 1))) (lv' := [(3, .int (nI (i_1 + 1))), (2, .int (p_1.2 + 1)), (0, .ref (ad 6)), (1, .int k1)]) hx hb dX3_crossingsUnder_68 hl (k := 3) rfl (nI_1 i_1) (by decide) rfl (fun ls hl => ?_)
      refine lv_goto (tgt := 4) hx hb dX3_crossingsUnder_71 (by decide) ?_
      exact ih_1 ((sA (sA p_1.1 9 (wr (gA p_1.1 9) 80 p_1.2 (rd (gA p_1.1 5) 1600 (pointOn wa p_1.1 (nI i_1) k1)))) 10 (wr (gA p_1.1 10) 80 p_1.2 (rd (gA p_1.1 5) 1600 (pointOn wa (sA p_1.1 9 (wr (gA p_1.1 9) 80 p_1.2 (rd (gA p_1.1 5) 1600 (pointOn wa p_1.1 (nI i_1) k1)))) (nI i_1) (k1 + 1))))), (p_1.2 + 1)) H locs ls ⟨((show ((sA (sA p_1.1 9 (wr (gA p_1.1 9) 80 p_1.2 (rd (gA p_1.1 5) 1600 (pointOn wa p_1.1 (nI i_1) k1)))) 10 (wr (gA p_1.1 10) 80 p_1.2 (rd (gA p_1.1 5) 1600 (pointOn wa (sA p_1.1 9 (wr (gA p_1.1 9) 80 p_1.2 (rd (gA p_1.1 5) 1600 (pointOn wa p_1.1 (nI i_1) k1)))) (nI i_1) (k1 + 1))))), (p_1.2 + 1)) = (cuA wa k1) i_1 p_1 from (by simp only [cuA, pointOn_9, c_18, gi_sl, gi_sA, gi_sB, gi_si_s, gi_si_n, gl_si, gl_sA, gl_sB, gl_sl_s, gl_sl_n, gA_si, gA_sl, gA_sB, gA_sA_s, gA_sA_n, gB_si, gB_sl, gB_sA, gB_sB_s, gB_sB_n, Nat.reduceBEq, if_true, if_false, eq_self, Bool.false_eq_true, Bool.true_eq_false, not_true_eq_false, not_false_eq_true, decide_true, decide_false, cond_true, cond_false, Bool.true_and, Bool.false_and, Bool.and_true, Bool.and_false, Bool.true_or, Bool.false_or, Bool.or_true, Bool.or_false, b2i_tt, b2i_ff, pr_eta]; done)).trans (lp_go h_1)), hP, hD, hS, lv_sub hl [2, 3, 1, 0] rfl⟩
