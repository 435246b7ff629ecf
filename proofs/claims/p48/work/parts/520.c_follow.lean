theorem dX2_follow_0 : decode cX2_follow 0 = .ok (.iconst 0, 1) := by decide +kernel
theorem dX2_follow_1 : decode cX2_follow 1 = .ok (.istore_n 3, 1) := by decide +kernel
theorem dX2_follow_2 : decode cX2_follow 2 = .ok (.iload_n 3, 1) := by decide +kernel
theorem dX2_follow_3 : decode cX2_follow 3 = .ok (.bipush 40, 2) := by decide +kernel
theorem dX2_follow_5 : decode cX2_follow 5 = .ok (.if_icmp .ge 18, 3) := by decide +kernel
theorem dX2_follow_8 : decode cX2_follow 8 = .ok (.aload_n 0, 1) := by decide +kernel
theorem dX2_follow_9 : decode cX2_follow 9 = .ok (.getfield 9, 3) := by decide +kernel
theorem dX2_follow_12 : decode cX2_follow 12 = .ok (.iload_n 3, 1) := by decide +kernel
theorem dX2_follow_13 : decode cX2_follow 13 = .ok (.iconst 0, 1) := by decide +kernel
theorem dX2_follow_14 : decode cX2_follow 14 = .ok (.invokestatic 15, 3) := by decide +kernel
theorem dX2_follow_17 : decode cX2_follow 17 = .ok (.iinc 3 1, 3) := by decide +kernel
theorem dX2_follow_20 : decode cX2_follow 20 = .ok (.goto (-18), 3) := by decide +kernel
theorem dX2_follow_23 : decode cX2_follow 23 = .ok (.iconst 1, 1) := by decide +kernel
theorem dX2_follow_24 : decode cX2_follow 24 = .ok (.istore_n 3, 1) := by decide +kernel
theorem dX2_follow_25 : decode cX2_follow 25 = .ok (.iconst 0, 1) := by decide +kernel
theorem dX2_follow_26 : decode cX2_follow 26 = .ok (.istore 4, 2) := by decide +kernel
theorem dX2_follow_28 : decode cX2_follow 28 = .ok (.iload 4, 2) := by decide +kernel
theorem dX2_follow_30 : decode cX2_follow 30 = .ok (.bipush 40, 2) := by decide +kernel
theorem dX2_follow_32 : decode cX2_follow 32 = .ok (.if_icmp .gt 20, 3) := by decide +kernel
theorem dX2_follow_35 : decode cX2_follow 35 = .ok (.iload_n 3, 1) := by decide +kernel
theorem dX2_follow_36 : decode cX2_follow 36 = .ok (.ifCond .eq 16, 3) := by decide +kernel
theorem dX2_follow_39 : decode cX2_follow 39 = .ok (.aload_n 0, 1) := by decide +kernel
theorem dX2_follow_40 : decode cX2_follow 40 = .ok (.aload_n 1, 1) := by decide +kernel
theorem dX2_follow_41 : decode cX2_follow 41 = .ok (.aload_n 2, 1) := by decide +kernel
theorem dX2_follow_42 : decode cX2_follow 42 = .ok (.invokevirtual 19, 3) := by decide +kernel
theorem dX2_follow_45 : decode cX2_follow 45 = .ok (.istore_n 3, 1) := by decide +kernel
theorem dX2_follow_46 : decode cX2_follow 46 = .ok (.iinc 4 1, 3) := by decide +kernel
theorem dX2_follow_49 : decode cX2_follow 49 = .ok (.goto (-21), 3) := by decide +kernel
theorem dX2_follow_52 : decode cX2_follow 52 = .ok (.aload_n 0, 1) := by decide +kernel
theorem dX2_follow_53 : decode cX2_follow 53 = .ok (.iconst 0, 1) := by decide +kernel
theorem dX2_follow_54 : decode cX2_follow 54 = .ok (.putfield 23, 3) := by decide +kernel
theorem dX2_follow_57 : decode cX2_follow 57 = .ok (.iconst 0, 1) := by decide +kernel
theorem dX2_follow_58 : decode cX2_follow 58 = .ok (.istore 4, 2) := by decide +kernel
theorem dX2_follow_60 : decode cX2_follow 60 = .ok (.iload 4, 2) := by decide +kernel
theorem dX2_follow_62 : decode cX2_follow 62 = .ok (.aload_n 2, 1) := by decide +kernel
theorem dX2_follow_63 : decode cX2_follow 63 = .ok (.getfield 27, 3) := by decide +kernel
theorem dX2_follow_66 : decode cX2_follow 66 = .ok (.if_icmp .ge 38, 3) := by decide +kernel
theorem dX2_follow_69 : decode cX2_follow 69 = .ok (.aload_n 2, 1) := by decide +kernel
theorem dX2_follow_70 : decode cX2_follow 70 = .ok (.getfield 32, 3) := by decide +kernel
theorem dX2_follow_73 : decode cX2_follow 73 = .ok (.iload 4, 2) := by decide +kernel
theorem dX2_follow_75 : decode cX2_follow 75 = .ok (.invokestatic 36, 3) := by decide +kernel
theorem dX2_follow_78 : decode cX2_follow 78 = .ok (.ifCond .eq 20, 3) := by decide +kernel
theorem dX2_follow_81 : decode cX2_follow 81 = .ok (.aload_n 0, 1) := by decide +kernel
theorem dX2_follow_82 : decode cX2_follow 82 = .ok (.dup, 1) := by decide +kernel
theorem dX2_follow_83 : decode cX2_follow 83 = .ok (.getfield 23, 3) := by decide +kernel
theorem dX2_follow_86 : decode cX2_follow 86 = .ok (.aload_n 0, 1) := by decide +kernel
theorem dX2_follow_87 : decode cX2_follow 87 = .ok (.aload_n 1, 1) := by decide +kernel
theorem dX2_follow_88 : decode cX2_follow 88 = .ok (.aload_n 2, 1) := by decide +kernel
theorem dX2_follow_89 : decode cX2_follow 89 = .ok (.iload 4, 2) := by decide +kernel
theorem dX2_follow_91 : decode cX2_follow 91 = .ok (.invokevirtual 40, 3) := by decide +kernel
theorem dX2_follow_94 : decode cX2_follow 94 = .ok (.iadd, 1) := by decide +kernel
theorem dX2_follow_95 : decode cX2_follow 95 = .ok (.putfield 23, 3) := by decide +kernel
theorem dX2_follow_98 : decode cX2_follow 98 = .ok (.iinc 4 1, 3) := by decide +kernel
theorem dX2_follow_101 : decode cX2_follow 101 = .ok (.goto (-41), 3) := by decide +kernel
theorem dX2_follow_104 : decode cX2_follow 104 = .ok (.return_, 1) := by decide +kernel
theorem mw_156 : Cond.fieldLink RX2 23 "OrielChart$Lives" "vainCount" "I" ∈ GW := gw_mem (inT1 _ (List.mem_of_getElem? (i := 162) rfl)) rfl
theorem mw_157 : Cond.code yX2_vainIn cX2_vainIn 8 (some Jvm.ClassFile.FieldType.int) ∈ GW := gw_mem (inT2 _ (List.mem_of_getElem? (i := 204) rfl)) rfl
theorem mw_158 : Cond.methodLink RX2 40 yX2_vainIn ∈ GW := gw_mem (inT2 _ (List.mem_of_getElem? (i := 201) rfl)) rfl
theorem mw_159 : Cond.instanceMethod yX2_vainIn ∈ GW := gw_mem (inT2 _ (List.mem_of_getElem? (i := 203) rfl)) rfl
theorem mw_160 : Cond.selects RX2 yX2_vainIn yX2_vainIn ∈ GW := gw_mem (inTp (q := (yX2_vainIn, 3)) (List.mem_of_getElem? (i := 10) rfl)) rfl
theorem mw_161 : Cond.code yX2_passUp cX2_passUp 7 (some Jvm.ClassFile.FieldType.boolean) ∈ GW := gw_mem (inT2 _ (List.mem_of_getElem? (i := 190) rfl)) rfl
theorem mw_162 : Cond.methodLink RX2 19 yX2_passUp ∈ GW := gw_mem (inT2 _ (List.mem_of_getElem? (i := 187) rfl)) rfl
theorem mw_163 : Cond.instanceMethod yX2_passUp ∈ GW := gw_mem (inT2 _ (List.mem_of_getElem? (i := 189) rfl)) rfl
theorem mw_164 : Cond.selects RX2 yX2_passUp yX2_passUp ∈ GW := gw_mem (inTp (q := (yX2_passUp, 3)) (List.mem_of_getElem? (i := 8) rfl)) rfl
theorem pdv_X2_vainIn : yX2_vainIn.cls = RX2 ∧ yX2_vainIn.cls ≠ "java/lang/invoke/MethodHandle" ∧ yX2_vainIn.cls ≠ "java/lang/invoke/VarHandle" ∧ (parseMethodDescriptor yX2_vainIn.desc).map (fun d => d.parameters.length) = some 3 := by decide +kernel
theorem pdv_X2_passUp : yX2_passUp.cls = RX2 ∧ yX2_passUp.cls ≠ "java/lang/invoke/MethodHandle" ∧ yX2_passUp.cls ≠ "java/lang/invoke/VarHandle" ∧ (parseMethodDescriptor yX2_passUp.desc).map (fun d => d.parameters.length) = some 2 := by decide +kernel
set_option maxHeartbeats 4000000 in
set_option maxRecDepth 100000 in
theorem c_follow (l : Launch) (D : va_G) (cI cJ : ClassId) (ad : Nat → Nat) (co fl ra li re wa pi : Ob) (hlo : FlowLo fl) : CT l D (TY cI cJ) yX2_follow (.code yX2_follow cX2_follow 5 (none : Option FieldType)) 3 0 0 (XW ad cI cJ co fl ra li re wa pi) [.ref (ad 4), .ref (ad 1), .ref (ad 2)] (QV D (TY cI cJ) (fun u => u = (XW ad cI cJ co fl ra (follow co fl li) re wa pi))) := by
  refine ent (by decide) (Nat.le_of_ble_eq_true rfl) ?_
  intro p e s m below meth c ls A hx hb hr hg hown hml hlocks hnm hP hK hD hS hA hN hl
  have hl : lv_has ls 5 [(0, .ref (ad 4)), (1, .ref (ad 1)), (2, .ref (ad 2))] := hl
  refine lv_iconst (v := 0) hx hb dX2_follow_0 (by decide) ?_
  refine lv_istore_n (lv' := [(3, .int 0), (0, .ref (ad 4)), (1, .ref (ad 1)), (2, .ref (ad 2))]) hx hb dX2_follow_1 rfl hl (by decide) rfl (fun ls hl => ?_)
  refine w_loop (σ := Ob) (fun (i_1 : Nat) (p_1 : Ob) (H : Heap) (locs : List Loc) (ls : Array Slot) => p_1 = (lp liInit i_1 li) ∧ va_P D vwCl (XW ad cI cJ co fl ra p_1 re wa pi) H ∧ va_D A (XW ad cI cJ co fl ra p_1 re wa pi) ∧ va_S A s.heap H locs ∧ lv_has ls 5 [(0, .ref (ad 4)), (1, .ref (ad 1)), (2, .ref (ad 2)), (3, .int (nI i_1))]) (40) (fun p_1 H locs ls hI => ?_) (fun i_1 p_1 H locs ls hi_1 hI ih_1 => ?_) 0 li (Nat.zero_le _) ⟨(lp_0 _ _), hP, hD, hS, (by rw [nI_0]; exact lv_sub hl [1, 2, 3, 0] rfl)⟩
  · obtain ⟨h_1, hP, hD, hS, hl⟩ := hI
    have h_1 := h_1.symm
    subst h_1
    have hP : va_P D vwCl (XW ad cI cJ co fl ra ((lp liInit (40) li)) re wa pi) H := hP
    have hD : va_D A (XW ad cI cJ co fl ra ((lp liInit (40) li)) re wa pi) := hD
    have hl : lv_has ls 5 [(0, .ref (ad 4)), (1, .ref (ad 1)), (2, .ref (ad 2)), (3, .int (nI 40))] := hl
    refine lv_iload_n hx hb dX2_follow_2 rfl (lv_at hl 3 rfl) ?_
    refine lv_bipush (v := 40) hx hb dX2_follow_3 (by decide) ?_
    refine lv_icmp_ge (tgt := 23) hx hb dX2_follow_5 (by decide) (fun _ => ?_) (fun c_5 => absurd (by decide) c_5)
    refine lv_iconst (v := 1) hx hb dX2_follow_23 (by decide) ?_
    refine lv_istore_n (lv' := [(3, .int 1), (0, .ref (ad 4)), (1, .ref (ad 1)), (2, .ref (ad 2))]) hx hb dX2_follow_24 rfl hl (by decide) rfl (fun ls hl => ?_)
    refine lv_iconst (v := 0) hx hb dX2_follow_25 (by decide) ?_
    refine lv_istore (lv' := [(4, .int 0), (3, .int 1), (0, .ref (ad 4)), (1, .ref (ad 1)), (2, .ref (ad 2))]) hx hb dX2_follow_26 hl (by decide) rfl (fun ls hl => ?_)
    refine w_loop (σ := Ob × Bool) (fun (i_2 : Nat) (p_2 : Ob × Bool) (H : Heap) (locs : List Loc) (ls : Array Slot) => p_2 = (lpW (fun p : Ob × Bool => p.2) (fun p : Ob × Bool => passUp co fl p.1) i_2 (((lp liInit (40) li)), true)) ∧ va_P D vwCl (XW ad cI cJ co fl ra p_2.1 re wa pi) H ∧ va_D A (XW ad cI cJ co fl ra p_2.1 re wa pi) ∧ va_S A s.heap H locs ∧ lv_has ls 5 [(0, .ref (ad 4)), (1, .ref (ad 1)), (2, .ref (ad 2)), (3, .int (b2i p_2.2)), (4, .int (nI i_2))]) (41) (fun p_2 H locs ls hI => ?_) (fun i_2 p_2 H locs ls hi_2 hI ih_2 => ?_) 0 (((lp liInit (40) li)), true) (Nat.zero_le _) ⟨(lpW_0 _ _ _), hP, hD, hS, (by rw [nI_0]; exact lv_sub hl [2, 3, 4, 1, 0] rfl)⟩
    · obtain ⟨h_2, hP, hD, hS, hl⟩ := hI
      have h_2 := h_2.symm
      subst h_2
      have hP : va_P D vwCl (XW ad cI cJ co fl ra ((lpW (fun p : Ob × Bool => p.2) (fun p : Ob × Bool => passUp co fl p.1) (41) (((lp liInit (40) li)), true)).1) re wa pi) H := hP
      have hD : va_D A (XW ad cI cJ co fl ra ((lpW (fun p : Ob × Bool => p.2) (fun p : Ob × Bool => passUp co fl p.1) (41) (((lp liInit (40) li)), true)).1) re wa pi) := hD
      have hl : lv_has ls 5 [(0, .ref (ad 4)), (1, .ref (ad 1)), (2, .ref (ad 2)), (3, .int (b2i (lpW (fun p : Ob × Bool => p.2) (fun p : Ob × Bool => passUp co fl p.1) (41) (((lp liInit (40) li)), true)).2)), (4, .int (nI 41))] := hl
      refine lv_iload hx hb dX2_follow_28 (lv_at hl 4 rfl) ?_
      refine lv_bipush (v := 40) hx hb dX2_follow_30 (by decide) ?_
      refine lv_icmp_gt (tgt := 52) hx hb dX2_follow_32 (by decide) (fun _ => ?_) (fun c_32 => absurd (by decide) c_32)
      refine lv_aload_n hx hb dX2_follow_52 rfl (lv_at hl 0 rfl) ?_
      refine lv_iconst (v := 0) hx hb dX2_follow_53 (by decide) ?_
      refine va_put (D := D) (ci := 2) (v := .int 0) (C := RX2) (T := TX2) (N := 3) hx hb hg inGX2 tyX2 tyX2_ok nmX2 hown hK hP hD hS 4 xo4 rfl 1 (by decide) (hg _ mw_156) (fun _ h9 => h9) rfl (tyX2_ok 1 (by decide)) rfl rfl (Nat.le_of_ble_eq_true rfl) dX2_follow_54 (fun H locs hP hD hS => ?_)
      have hP : va_P D vwCl (XW ad cI cJ co fl ra (si ((lpW (fun p : Ob × Bool => p.2) (fun p : Ob × Bool => passUp co fl p.1) (41) (((lp liInit (40) li)), true)).1) 0 0) re wa pi) H := cgP xpX2_1 hP
      have hD : va_D A (XW ad cI cJ co fl ra (si ((lpW (fun p : Ob × Bool => p.2) (fun p : Ob × Bool => passUp co fl p.1) (41) (((lp liInit (40) li)), true)).1) 0 0) re wa pi) := cgD xpX2_1 hD
      refine lv_iconst (v := 0) hx hb dX2_follow_57 (by decide) ?_
      refine lv_istore (lv' := [(4, .int 0), (0, .ref (ad 4)), (1, .ref (ad 1)), (2, .ref (ad 2)), (3, .int (b2i (lpW (fun p : Ob × Bool => p.2) (fun p : Ob × Bool => passUp co fl p.1) (41) (((lp liInit (40) li)), true)).2))]) hx hb dX2_follow_58 hl (by decide) rfl (fun ls hl => ?_)
      refine w_loop (σ := Ob) (fun (i_3 : Nat) (p_3 : Ob) (H : Heap) (locs : List Loc) (ls : Array Slot) => p_3 = (lp (foV co fl) i_3 (si ((lpW (fun p : Ob × Bool => p.2) (fun p : Ob × Bool => passUp co fl p.1) (41) (((lp liInit (40) li)), true)).1) 0 0)) ∧ va_P D vwCl (XW ad cI cJ co fl ra p_3 re wa pi) H ∧ va_D A (XW ad cI cJ co fl ra p_3 re wa pi) ∧ va_S A s.heap H locs ∧ lv_has ls 5 [(0, .ref (ad 4)), (1, .ref (ad 1)), (2, .ref (ad 2)), (3, .int (b2i (lpW (fun p : Ob × Bool => p.2) (fun p : Ob × Bool => passUp co fl p.1) (41) (((lp liInit (40) li)), true)).2)), (4, .int (nI i_3))]) (nN (gi fl 0)) (fun p_3 H locs ls hI => ?_) (fun i_3 p_3 H locs ls hi_3 hI ih_3 => ?_) 0 (si ((lpW (fun p : Ob × Bool => p.2) (fun p : Ob × Bool => passUp co fl p.1) (41) (((lp liInit (40) li)), true)).1) 0 0) (Nat.zero_le _) ⟨(lp_0 _ _), hP, hD, hS, (by rw [nI_0]; exact lv_sub hl [1, 2, 3, 4, 0] rfl)⟩
      · obtain ⟨h_3, hP, hD, hS, hl⟩ := hI
        have h_3 := h_3.symm
        subst h_3
        have hP : va_P D vwCl (XW ad cI cJ co fl ra ((lp (foV co fl) (nN (gi fl 0)) (si ((lpW (fun p : Ob × Bool => p.2) (fun p : Ob × Bool => passUp co fl p.1) (41) (((lp liInit (40) li)), true)).1) 0 0))) re wa pi) H := hP
        have hD : va_D A (XW ad cI cJ co fl ra ((lp (foV co fl) (nN (gi fl 0)) (si ((lpW (fun p : Ob × Bool => p.2) (fun p : Ob × Bool => passUp co fl p.1) (41) (((lp liInit (40) li)), true)).1) 0 0))) re wa pi) := hD
        have hl : lv_has ls 5 [(0, .ref (ad 4)), (1, .ref (ad 1)), (2, .ref (ad 2)), (3, .int (b2i (lpW (fun p : Ob × Bool => p.2) (fun p : Ob × Bool => passUp co fl p.1) (41) (((lp liInit (40) li)), true)).2)), (4, .int (nI ((nN (gi fl 0)))))] := hl
        refine lv_iload hx hb dX2_follow_60 (lv_at hl 4 rfl) ?_
        refine lv_aload_n hx hb dX2_follow_62 rfl (lv_at hl 2 rfl) ?_
        refine va_getN (D := D) (ci := 1) (v := .int (gi fl 0)) (C := RX1) (T := TX1) (N := 11) hx hb hg inGX1 hown hK hP 2 xo2 rfl 7 (by decide) (hN.use nw_26) (fun _ h9 => h9) (xvX1_7 rfl) dX2_follow_63 ?_
        refine lv_icmp_ge (tgt := 104) hx hb dX2_follow_66 (by decide) (fun _ => ?_) (fun c_66 => absurd (lp_out _) c_66)
        exact W.vret hx hb hr (fun t ht hW => ⟨⟨(XW ad cI cJ co fl ra ((lp (foV co fl) (nN (gi fl 0)) (si ((lpW (fun p : Ob × Bool => p.2) (fun p : Ob × Bool => passUp co fl p.1) (41) (((lp liInit (40) li)), true)).1) 0 0))) re wa pi), rfl, xw_eq rfl rfl rfl (show ((lp (foV co fl) (nN (gi fl 0)) (si ((lpW (fun p : Ob × Bool => p.2) (fun p : Ob × Bool => passUp co fl p.1) (41) (((lp liInit (40) li)), true)).1) 0 0))) = (follow co fl li) from (by first | with_reducible rfl | (simp only [follow, foP, gi_sl, gi_sA, gi_sB, gi_si_s, gi_si_n, gl_si, gl_sA, gl_sB, gl_sl_s, gl_sl_n, gA_si, gA_sl, gA_sB, gA_sA_s, gA_sA_n, gB_si, gB_sl, gB_sA, gB_sB_s, gB_sB_n, Nat.reduceBEq, if_true, if_false, eq_self, Bool.false_eq_true, Bool.true_eq_false, not_true_eq_false, not_false_eq_true, decide_true, decide_false, cond_true, cond_false, Bool.true_and, Bool.false_and, Bool.and_true, Bool.and_false, Bool.true_or, Bool.false_or, Bool.or_true, Bool.or_false, b2i_tt, b2i_ff, pr_eta]; done))) rfl rfl rfl, ⟨by rw [ht]; exact hP, va_K.moved hW.alike hK, hD⟩⟩, hS.F ht⟩) hS.2.2 dX2_follow_104
      · obtain ⟨h_3, hP, hD, hS, hl⟩ := hI
        have hP : va_P D vwCl (XW ad cI cJ co fl ra p_3 re wa pi) H := hP
        have hD : va_D A (XW ad cI cJ co fl ra p_3 re wa pi) := hD
        have hl : lv_has ls 5 [(0, .ref (ad 4)), (1, .ref (ad 1)), (2, .ref (ad 2)), (3, .int (b2i (lpW (fun p : Ob × Bool => p.2) (fun p : Ob × Bool => passUp co fl p.1) (41) (((lp liInit (40) li)), true)).2)), (4, .int (nI i_3))] := hl
        refine lv_iload hx hb dX2_follow_60 (lv_at hl 4 rfl) ?_
        refine lv_aload_n hx hb dX2_follow_62 rfl (lv_at hl 2 rfl) ?_
        refine va_getN (D := D) (ci := 1) (v := .int (gi fl 0)) (C := RX1) (T := TX1) (N := 11) hx hb hg inGX1 hown hK hP 2 xo2 rfl 7 (by decide) (hN.use nw_26) (fun _ h9 => h9) (xvX1_7 rfl) dX2_follow_63 ?_
        refine lv_icmp_ge (tgt := 104) hx hb dX2_follow_66 (by decide) (fun c_66 => absurd c_66 (lp_in hi_3)) (fun _ => ?_)
        refine lv_aload_n hx hb dX2_follow_69 rfl (lv_at hl 2 rfl) ?_
        refine va_getN (D := D) (ci := 1) (v := .long (gl fl 0)) (C := RX1) (T := TX1) (N := 11) hx hb hg inGX1 hown hK hP 2 xo2 rfl 9 (by decide) (hN.use nw_34) (fun _ h9 => h9) (xvX1_9 rfl) dX2_follow_70 ?_
        refine lv_iload hx hb dX2_follow_73 (lv_at hl 4 rfl) ?_
        refine kI (rSN hx hb hml hown hg hN hK hP hD (c_has l D cI cJ (XW ad cI cJ co fl ra p_3 re wa pi) (gl fl 0) (nI i_3)) mw_89 nw_80 mw_90 mw_77 pd_X7_has ⟨Nat.le_of_ble_eq_true rfl, Nat.le_of_ble_eq_true rfl⟩ rfl hl.1 rfl (Nat.le_of_ble_eq_true rfl) dX2_follow_75 ⟨Nat.le_of_ble_eq_true rfl, Nat.le_of_ble_eq_true rfl⟩) hD hS hA (fun r_4 u_4 H locs hp hP hD hS => ?_)
        obtain ⟨er, eu⟩ := hp
        obtain rfl := er.symm
        obtain rfl := eu.symm
        refine lv_if_eq (tgt := 98) hx hb dX2_follow_78 (by decide) (fun c_78 => ?_) (fun c_78 => ?_)
        · have c_78 : ¬ (hs (gl fl 0) (nI i_3)) = true := b2i_0 c_78
          refine lv_iinc (v := (nI (i_3 + 1))) (lv' := [(4, .int (nI (i_3 + 1))), (0, .ref (ad 4)), (1, .ref (ad 1)), (2, .ref (ad 2)), (3, .int (b2i (lpW (fun p : Ob × Bool => p.2) (fun p : Ob × Bool => passUp co fl p.1) (41) (((lp liInit (40) li)), true)).2))]) hx hb dX2_follow_98 hl (k := 4) rfl (nI_1 i_3) (by decide) rfl (fun ls hl => ?_)
          refine lv_goto (tgt := 60) hx hb dX2_follow_101 (by decide) ?_
          exact ih_3 p_3 H locs ls ⟨((show p_3 = (foV co fl) i_3 p_3 from (by simp only [foV, bf_of c_78, gi_sl, gi_sA, gi_sB, gi_si_s, gi_si_n, gl_si, gl_sA, gl_sB, gl_sl_s, gl_sl_n, gA_si, gA_sl, gA_sB, gA_sA_s, gA_sA_n, gB_si, gB_sl, gB_sA, gB_sB_s, gB_sB_n, Nat.reduceBEq, if_true, if_false, eq_self, Bool.false_eq_true, Bool.true_eq_false, not_true_eq_false, not_false_eq_true, decide_true, decide_false, cond_true, cond_false, Bool.true_and, Bool.false_and, Bool.and_true, Bool.and_false, Bool.true_or, Bool.false_or, Bool.or_true, Bool.or_false, b2i_tt, b2i_ff, pr_eta]; done)).trans (lp_go h_3)), hP, hD, hS, lv_sub hl [1, 2, 3, 4, 0] rfl⟩
        · have c_78 : (hs (gl fl 0) (nI i_3)) = true := b2i_1 c_78
          refine lv_aload_n hx hb dX2_follow_81 rfl (lv_at hl 0 rfl) ?_
          refine lv_dup hx hb dX2_follow_82 rfl ?_
          refine va_get (D := D) (ci := 2) (v := .int (gi p_3 0)) (C := RX2) (T := TX2) (N := 3) hx hb hg inGX2 hown hK hP 4 xo4 rfl 1 (by decide) (hg _ mw_156) (fun _ h9 => h9) (xvX2_1 rfl) dX2_follow_83 ?_
          refine lv_aload_n hx hb dX2_follow_86 rfl (lv_at hl 0 rfl) ?_
          refine lv_aload_n hx hb dX2_follow_87 rfl (lv_at hl 1 rfl) ?_
          refine lv_aload_n hx hb dX2_follow_88 rfl (lv_at hl 2 rfl) ?_
          refine lv_iload hx hb dX2_follow_89 (lv_at hl 4 rfl) ?_
          refine kI (rV (q0 := 4) (ci := 2) hx hb hml hown hg hN hK hP hD (c_vainIn l D cI cJ ad co fl ra p_3 re wa pi (nI i_3) (hlo.2 _ hi_3)) mw_157 mw_158 mw_159 mw_160 mw_152 pdv_X2_vainIn ⟨Nat.le_of_ble_eq_true rfl, Nat.le_of_ble_eq_true rfl⟩ rfl xo4 rfl hl.1 rfl (Nat.le_of_ble_eq_true rfl) dX2_follow_91 ⟨Nat.le_of_ble_eq_true rfl, Nat.le_of_ble_eq_true rfl⟩) hD hS hA (fun r_5 u_5 H locs hp hP hD hS => ?_)
          obtain ⟨er, eu⟩ := hp
          obtain rfl := er.symm
          obtain rfl := eu.symm
          refine lv_iadd hx hb dX2_follow_94 ?_
          refine va_put (D := D) (ci := 2) (v := .int ((gi p_3 0) + (vainIn co fl p_3 (nI i_3)))) (C := RX2) (T := TX2) (N := 3) hx hb hg inGX2 tyX2 tyX2_ok nmX2 hown hK hP hD hS 4 xo4 rfl 1 (by decide) (hg _ mw_156) (fun _ h9 => h9) rfl (tyX2_ok 1 (by decide)) rfl rfl (Nat.le_of_ble_eq_true rfl) dX2_follow_95 (fun H locs hP hD hS => ?_)
          have hP : va_P D vwCl (XW ad cI cJ co fl ra (si p_3 0 ((gi p_3 0) + (vainIn co fl p_3 (nI i_3)))) re wa pi) H := cgP xpX2_1 hP
          have hD : va_D A (XW ad cI cJ co fl ra (si p_3 0 ((gi p_3 0) + (vainIn co fl p_3 (nI i_3)))) re wa pi) := cgD xpX2_1 hD
          refine lv_iinc (v := (nI (i_3 + 1))) (lv' := [(4, .int (nI (i_3 + 1))), (0, .ref (ad 4)), (1, .ref (ad 1)), (2, .ref (ad 2)), (3, .int (b2i (lpW (fun p : Ob × Bool => p.2) (fun p : Ob × Bool => passUp co fl p.1) (41) (((lp liInit (40) li)), true)).2))]) hx hb dX2_follow_98 hl (k := 4) rfl (nI_1 i_3) (by decide) rfl (fun ls hl => ?_)
          refine lv_goto (tgt := 60) hx hb dX2_follow_101 (by decide) ?_
          exact ih_3 (si p_3 0 ((gi p_3 0) + (vainIn co fl p_3 (nI i_3)))) H locs ls ⟨((show (si p_3 0 ((gi p_3 0) + (vainIn co fl p_3 (nI i_3)))) = (foV co fl) i_3 p_3 from (by simp only [foV, c_78, gi_sl, gi_sA, gi_sB, gi_si_s, gi_si_n, gl_si, gl_sA, gl_sB, gl_sl_s, gl_sl_n, gA_si, gA_sl, gA_sB, gA_sA_s, gA_sA_n, gB_si, gB_sl, gB_sA, gB_sB_s, gB_sB_n, Nat.reduceBEq, if_true, if_false, eq_self, Bool.false_eq_true, Bool.true_eq_false, not_true_eq_false, not_false_eq_true, decide_true, decide_false, cond_true, cond_false, Bool.true_and, Bool.false_and, Bool.and_true, Bool.and_false, Bool.true_or, Bool.false_or, Bool.or_true, Bool.or_false, b2i_tt, b2i_ff, pr_eta]; done)).trans (lp_go h_3)), hP, hD, hS, lv_sub hl [1, 2, 3, 4, 0] rfl⟩
    · obtain ⟨h_2, hP, hD, hS, hl⟩ := hI
      have hP : va_P D vwCl (XW ad cI cJ co fl ra p_2.1 re wa pi) H := hP
      have hD : va_D A (XW ad cI cJ co fl ra p_2.1 re wa pi) := hD
      have hl : lv_has ls 5 [(0, .ref (ad 4)), (1, .ref (ad 1)), (2, .ref (ad 2)), (3, .int (b2i p_2.2)), (4, .int (nI i_2))] := hl
      refine lv_iload hx hb dX2_follow_28 (lv_at hl 4 rfl) ?_
      refine lv_bipush (v := 40) hx hb dX2_follow_30 (by decide) ?_
      refine lv_icmp_gt (tgt := 52) hx hb dX2_follow_32 (by decide) (fun c_32 => absurd c_32 (nI_nlt (Nat.le_of_lt_succ hi_2) (by decide))) (fun _ => ?_)
      refine lv_iload_n hx hb dX2_follow_35 rfl (lv_at hl 3 rfl) ?_
      refine lv_if_eq (tgt := 52) hx hb dX2_follow_36 (by decide) (fun c_36 => ?_) (fun c_36 => ?_)
      · have c_36 : ¬ p_2.2 = true := b2i_0 c_36
        have h_2 : p_2 = (lpW (fun p : Ob × Bool => p.2) (fun p : Ob × Bool => passUp co fl p.1) (41) (((lp liInit (40) li)), true)) := lpW_stop h_2 (by simp only [bf_of c_36, gi_sl, gi_sA, gi_sB, gi_si_s, gi_si_n, gl_si, gl_sA, gl_sB, gl_sl_s, gl_sl_n, gA_si, gA_sl, gA_sB, gA_sA_s, gA_sA_n, gB_si, gB_sl, gB_sA, gB_sB_s, gB_sB_n, Nat.reduceBEq, if_true, if_false, eq_self, Bool.false_eq_true, Bool.true_eq_false, not_true_eq_false, not_false_eq_true, decide_true, decide_false, cond_true, cond_false, Bool.true_and, Bool.false_and, Bool.and_true, Bool.and_false, Bool.true_or, Bool.false_or, Bool.or_true, Bool.or_false, b2i_tt, b2i_ff, pr_eta]; done) (Nat.le_of_lt hi_2)
        have h_2 := h_2.symm
        subst h_2
        have hP : va_P D vwCl (XW ad cI cJ co fl ra ((lpW (fun p : Ob × Bool => p.2) (fun p : Ob × Bool => passUp co fl p.1) (41) (((lp liInit (40) li)), true)).1) re wa pi) H := hP
        have hD : va_D A (XW ad cI cJ co fl ra ((lpW (fun p : Ob × Bool => p.2) (fun p : Ob × Bool => passUp co fl p.1) (41) (((lp liInit (40) li)), true)).1) re wa pi) := hD
        have hl : lv_has ls 5 [(0, .ref (ad 4)), (1, .ref (ad 1)), (2, .ref (ad 2)), (3, .int (b2i (lpW (fun p : Ob × Bool => p.2) (fun p : Ob × Bool => passUp co fl p.1) (41) (((lp liInit (40) li)), true)).2)), (4, .int (nI i_2))] := hl
        refine lv_aload_n hx hb dX2_follow_52 rfl (lv_at hl 0 rfl) ?_
        refine lv_iconst (v := 0) hx hb dX2_follow_53 (by decide) ?_
        refine va_put (D := D) (ci := 2) (v := .int 0) (C := RX2) (T := TX2) (N := 3) hx hb hg inGX2 tyX2 tyX2_ok nmX2 hown hK hP hD hS 4 xo4 rfl 1 (by decide) (hg _ mw_156) (fun _ h9 => h9) rfl (tyX2_ok 1 (by decide)) rfl rfl (Nat.le_of_ble_eq_true rfl) dX2_follow_54 (fun H locs hP hD hS => ?_)
        have hP : va_P D vwCl (XW ad cI cJ co fl ra (si ((lpW (fun p : Ob × Bool => p.2) (fun p : Ob × Bool => passUp co fl p.1) (41) (((lp liInit (40) li)), true)).1) 0 0) re wa pi) H := cgP xpX2_1 hP
        have hD : va_D A (XW ad cI cJ co fl ra (si ((lpW (fun p : Ob × Bool => p.2) (fun p : Ob × Bool => passUp co fl p.1) (41) (((lp liInit (40) li)), true)).1) 0 0) re wa pi) := cgD xpX2_1 hD
        refine lv_iconst (v := 0) hx hb dX2_follow_57 (by decide) ?_
        refine lv_istore (lv' := [(4, .int 0), (0, .ref (ad 4)), (1, .ref (ad 1)), (2, .ref (ad 2)), (3, .int (b2i (lpW (fun p : Ob × Bool => p.2) (fun p : Ob × Bool => passUp co fl p.1) (41) (((lp liInit (40) li)), true)).2))]) hx hb dX2_follow_58 hl (by decide) rfl (fun ls hl => ?_)
        refine w_loop (σ := Ob) (fun (i_6 : Nat) (p_6 : Ob) (H : Heap) (locs : List Loc) (ls : Array Slot) => p_6 = (lp (foV co fl) i_6 (si ((lpW (fun p : Ob × Bool => p.2) (fun p : Ob × Bool => passUp co fl p.1) (41) (((lp liInit (40) li)), true)).1) 0 0)) ∧ va_P D vwCl (XW ad cI cJ co fl ra p_6 re wa pi) H ∧ va_D A (XW ad cI cJ co fl ra p_6 re wa pi) ∧ va_S A s.heap H locs ∧ lv_has ls 5 [(0, .ref (ad 4)), (1, .ref (ad 1)), (2, .ref (ad 2)), (3, .int (b2i (lpW (fun p : Ob × Bool => p.2) (fun p : Ob × Bool => passUp co fl p.1) (41) (((lp liInit (40) li)), true)).2)), (4, .int (nI i_6))]) (nN (gi fl 0)) (fun p_6 H locs ls hI => ?_) (fun i_6 p_6 H locs ls hi_6 hI ih_6 => ?_) 0 (si ((lpW (fun p : Ob × Bool => p.2) (fun p : Ob × Bool => passUp co fl p.1) (41) (((lp liInit (40) li)), true)).1) 0 0) (Nat.zero_le _) ⟨(lp_0 _ _), hP, hD, hS, (by rw [nI_0]; exact lv_sub hl [1, 2, 3, 4, 0] rfl)⟩
        · obtain ⟨h_6, hP, hD, hS, hl⟩ := hI
          have h_6 := h_6.symm
          subst h_6
          have hP : va_P D vwCl (XW ad cI cJ co fl ra ((lp (foV co fl) (nN (gi fl 0)) (si ((lpW (fun p : Ob × Bool => p.2) (fun p : Ob × Bool => passUp co fl p.1) (41) (((lp liInit (40) li)), true)).1) 0 0))) re wa pi) H := hP
          have hD : va_D A (XW ad cI cJ co fl ra ((lp (foV co fl) (nN (gi fl 0)) (si ((lpW (fun p : Ob × Bool => p.2) (fun p : Ob × Bool => passUp co fl p.1) (41) (((lp liInit (40) li)), true)).1) 0 0))) re wa pi) := hD
          have hl : lv_has ls 5 [(0, .ref (ad 4)), (1, .ref (ad 1)), (2, .ref (ad 2)), (3, .int (b2i (lpW (fun p : Ob × Bool => p.2) (fun p : Ob × Bool => passUp co fl p.1) (41) (((lp liInit (40) li)), true)).2)), (4, .int (nI ((nN (gi fl 0)))))] := hl
          refine lv_iload hx hb dX2_follow_60 (lv_at hl 4 rfl) ?_
          refine lv_aload_n hx hb dX2_follow_62 rfl (lv_at hl 2 rfl) ?_
          refine va_getN (D := D) (ci := 1) (v := .int (gi fl 0)) (C := RX1) (T := TX1) (N := 11) hx hb hg inGX1 hown hK hP 2 xo2 rfl 7 (by decide) (hN.use nw_26) (fun _ h9 => h9) (xvX1_7 rfl) dX2_follow_63 ?_
          refine lv_icmp_ge (tgt := 104) hx hb dX2_follow_66 (by decide) (fun _ => ?_) (fun c_66 => absurd (lp_out _) c_66)
          exact W.vret hx hb hr (fun t ht hW => ⟨⟨(XW ad cI cJ co fl ra ((lp (foV co fl) (nN (gi fl 0)) (si ((lpW (fun p : Ob × Bool => p.2) (fun p : Ob × Bool => passUp co fl p.1) (41) (((lp liInit (40) li)), true)).1) 0 0))) re wa pi), rfl, xw_eq rfl rfl rfl (show ((lp (foV co fl) (nN (gi fl 0)) (si ((lpW (fun p : Ob × Bool => p.2) (fun p : Ob × Bool => passUp co fl p.1) (41) (((lp liInit (40) li)), true)).1) 0 0))) = (follow co fl li) from (by simp only [follow, foP, bf_of c_36, gi_sl, gi_sA, gi_sB, gi_si_s, gi_si_n, gl_si, gl_sA, gl_sB, gl_sl_s, gl_sl_n, gA_si, gA_sl, gA_sB, gA_sA_s, gA_sA_n, gB_si, gB_sl, gB_sA, gB_sB_s, gB_sB_n, Nat.reduceBEq, if_true, if_false, eq_self, Bool.false_eq_true, Bool.true_eq_false, not_true_eq_false, not_false_eq_true, decide_true, decide_false, cond_true, cond_false, Bool.true_and, Bool.false_and, Bool.and_true, Bool.and_false, Bool.true_or, Bool.false_or, Bool.or_true, Bool.or_false, b2i_tt, b2i_ff, pr_eta]; done)) rfl rfl rfl, ⟨by rw [ht]; exact hP, va_K.moved hW.alike hK, hD⟩⟩, hS.F ht⟩) hS.2.2 dX2_follow_104
        · obtain ⟨h_6, hP, hD, hS, hl⟩ := hI
          have hP : va_P D vwCl (XW ad cI cJ co fl ra p_6 re wa pi) H := hP
          have hD : va_D A (XW ad cI cJ co fl ra p_6 re wa pi) := hD
          have hl : lv_has ls 5 [(0, .ref (ad 4)), (1, .ref (ad 1)), (2, .ref (ad 2)), (3, .int (b2i (lpW (fun p : Ob × Bool => p.2) (fun p : Ob × Bool => passUp co fl p.1) (41) (((lp liInit (40) li)), true)).2)), (4, .int (nI i_6))] := hl
          refine lv_iload hx hb dX2_follow_60 (lv_at hl 4 rfl) ?_
          refine lv_aload_n hx hb dX2_follow_62 rfl (lv_at hl 2 rfl) ?_
          refine va_getN (D := D) (ci := 1) (v := .int (gi fl 0)) (C := RX1) (T := TX1) (N := 11) hx hb hg inGX1 hown hK hP 2 xo2 rfl 7 (by decide) (hN.use nw_26) (fun _ h9 => h9) (xvX1_7 rfl) dX2_follow_63 ?_
          refine lv_icmp_ge (tgt := 104) hx hb dX2_follow_66 (by decide) (fun c_66 => absurd c_66 (lp_in hi_6)) (fun _ => ?_)
          refine lv_aload_n hx hb dX2_follow_69 rfl (lv_at hl 2 rfl) ?_
          refine va_getN (D := D) (ci := 1) (v := .long (gl fl 0)) (C := RX1) (T := TX1) (N := 11) hx hb hg inGX1 hown hK hP 2 xo2 rfl 9 (by decide) (hN.use nw_34) (fun _ h9 => h9) (xvX1_9 rfl) dX2_follow_70 ?_
          refine lv_iload hx hb dX2_follow_73 (lv_at hl 4 rfl) ?_
          refine kI (rSN hx hb hml hown hg hN hK hP hD (c_has l D cI cJ (XW ad cI cJ co fl ra p_6 re wa pi) (gl fl 0) (nI i_6)) mw_89 nw_80 mw_90 mw_77 pd_X7_has ⟨Nat.le_of_ble_eq_true rfl, Nat.le_of_ble_eq_true rfl⟩ rfl hl.1 rfl (Nat.le_of_ble_eq_true rfl) dX2_follow_75 ⟨Nat.le_of_ble_eq_true rfl, Nat.le_of_ble_eq_true rfl⟩) hD hS hA (fun r_7 u_7 H locs hp hP hD hS => ?_)
          obtain ⟨er, eu⟩ := hp
          obtain rfl := er.symm
          obtain rfl := eu.symm
          refine lv_if_eq (tgt := 98) hx hb dX2_follow_78 (by decide) (fun c_78 => ?_) (fun c_78 => ?_)
          · have c_78 : ¬ (hs (gl fl 0) (nI i_6)) = true := b2i_0 c_78
            refine lv_iinc (v := (nI (i_6 + 1))) (lv' := [(4, .int (nI (i_6 + 1))), (0, .ref (ad 4)), (1, .ref (ad 1)), (2, .ref (ad 2)), (3, .int (b2i (lpW (fun p : Ob × Bool => p.2) (fun p : Ob × Bool => passUp co fl p.1) (41) (((lp liInit (40) li)), true)).2))]) hx hb dX2_follow_98 hl (k := 4) rfl (nI_1 i_6) (by decide) rfl (fun ls hl => ?_)
            refine lv_goto (tgt := 60) hx hb dX2_follow_101 (by decide) ?_
            exact ih_6 p_6 H locs ls ⟨((show p_6 = (foV co fl) i_6 p_6 from (by simp only [foV, bf_of c_36, bf_of c_78, gi_sl, gi_sA, gi_sB, gi_si_s, gi_si_n, gl_si, gl_sA, gl_sB, gl_sl_s, gl_sl_n, gA_si, gA_sl, gA_sB, gA_sA_s, gA_sA_n, gB_si, gB_sl, gB_sA, gB_sB_s, gB_sB_n, Nat.reduceBEq, if_true, if_false, eq_self, Bool.false_eq_true, Bool.true_eq_false, not_true_eq_false, not_false_eq_true, decide_true, decide_false, cond_true, cond_false, Bool.true_and, Bool.false_and, Bool.and_true, Bool.and_false, Bool.true_or, Bool.false_or, Bool.or_true, Bool.or_false, b2i_tt, b2i_ff, pr_eta]; done)).trans (lp_go h_6)), hP, hD, hS, lv_sub hl [1, 2, 3, 4, 0] rfl⟩
          · have c_78 : (hs (gl fl 0) (nI i_6)) = true := b2i_1 c_78
            refine lv_aload_n hx hb dX2_follow_81 rfl (lv_at hl 0 rfl) ?_
            refine lv_dup hx hb dX2_follow_82 rfl ?_
            refine va_get (D := D) (ci := 2) (v := .int (gi p_6 0)) (C := RX2) (T := TX2) (N := 3) hx hb hg inGX2 hown hK hP 4 xo4 rfl 1 (by decide) (hg _ mw_156) (fun _ h9 => h9) (xvX2_1 rfl) dX2_follow_83 ?_
            refine lv_aload_n hx hb dX2_follow_86 rfl (lv_at hl 0 rfl) ?_
            refine lv_aload_n hx hb dX2_follow_87 rfl (lv_at hl 1 rfl) ?_
            refine lv_aload_n hx hb dX2_follow_88 rfl (lv_at hl 2 rfl) ?_
            refine lv_iload hx hb dX2_follow_89 (lv_at hl 4 rfl) ?_
            refine kI (rV (q0 := 4) (ci := 2) hx hb hml hown hg hN hK hP hD (c_vainIn l D cI cJ ad co fl ra p_6 re wa pi (nI i_6) (hlo.2 _ hi_6)) mw_157 mw_158 mw_159 mw_160 mw_152 pdv_X2_vainIn ⟨Nat.le_of_ble_eq_true rfl, Nat.le_of_ble_eq_true rfl⟩ rfl xo4 rfl hl.1 rfl (Nat.le_of_ble_eq_true rfl) dX2_follow_91 ⟨Nat.le_of_ble_eq_true rfl, Nat.le_of_ble_eq_true rfl⟩) hD hS hA (fun r_8 u_8 H locs hp hP hD hS => ?_)
            obtain ⟨er, eu⟩ := hp
            obtain rfl := er.symm
            obtain rfl := eu.symm
            refine lv_iadd hx hb dX2_follow_94 ?_
            refine va_put (D := D) (ci := 2) (v := .int ((gi p_6 0) + (vainIn co fl p_6 (nI i_6)))) (C := RX2) (T := TX2) (N := 3) hx hb hg inGX2 tyX2 tyX2_ok nmX2 hown hK hP hD hS 4 xo4 rfl 1 (by decide) (hg _ mw_156) (fun _ h9 => h9) rfl (tyX2_ok 1 (by decide)) rfl rfl (Nat.le_of_ble_eq_true rfl) dX2_follow_95 (fun H locs hP hD hS => ?_)
            have hP : va_P D vwCl (XW ad cI cJ co fl ra (si p_6 0 ((gi p_6 0) + (vainIn co fl p_6 (nI i_6)))) re wa pi) H := cgP xpX2_1 hP
            have hD : va_D A (XW ad cI cJ co fl ra (si p_6 0 ((gi p_6 0) + (vainIn co fl p_6 (nI i_6)))) re wa pi) := cgD xpX2_1 hD
            refine lv_iinc (v := (nI (i_6 + 1))) (lv' := [(4, .int (nI (i_6 + 1))), (0, .ref (ad 4)), (1, .ref (ad 1)), (2, .ref (ad 2)), (3, .int (b2i (lpW (fun p : Ob × Bool => p.2) (fun p : Ob × Bool => passUp co fl p.1) (41) (((lp liInit (40) li)), true)).2))]) hx hb dX2_follow_98 hl (k := 4) rfl (nI_1 i_6) (by decide) rfl (fun ls hl => ?_)
            refine lv_goto (tgt := 60) hx hb dX2_follow_101 (by decide) ?_
            exact ih_6 (si p_6 0 ((gi p_6 0) + (vainIn co fl p_6 (nI i_6)))) H locs ls ⟨((show (si p_6 0 ((gi p_6 0) + (vainIn co fl p_6 (nI i_6)))) = (foV co fl) i_6 p_6 from (by simp only [foV, bf_of c_36, c_78, gi_sl, gi_sA, gi_sB, gi_si_s, gi_si_n, gl_si, gl_sA, gl_sB, gl_sl_s, gl_sl_n, gA_si, gA_sl, gA_sB, gA_sA_s, gA_sA_n, gB_si, gB_sl, gB_sA, gB_sB_s, gB_sB_n, Nat.reduceBEq, if_true, if_false, eq_self, Bool.false_eq_true, Bool.true_eq_false, not_true_eq_false, not_false_eq_true, decide_true, decide_false, cond_true, cond_false, Bool.true_and, Bool.false_and, Bool.and_true, Bool.and_false, Bool.true_or, Bool.false_or, Bool.or_true, Bool.or_false, b2i_tt, b2i_ff, pr_eta]; done)).trans (lp_go h_6)), hP, hD, hS, lv_sub hl [1, 2, 3, 4, 0] rfl⟩
      · have c_36 : p_2.2 = true := b2i_1 c_36
        refine lv_aload_n hx hb dX2_follow_39 rfl (lv_at hl 0 rfl) ?_
        refine lv_aload_n hx hb dX2_follow_40 rfl (lv_at hl 1 rfl) ?_
        refine lv_aload_n hx hb dX2_follow_41 rfl (lv_at hl 2 rfl) ?_
        refine kI (rV (q0 := 4) (ci := 2) hx hb hml hown hg hN hK hP hD (c_passUp l D cI cJ ad co fl ra p_2.1 re wa pi hlo) mw_161 mw_162 mw_163 mw_164 mw_152 pdv_X2_passUp ⟨Nat.le_of_ble_eq_true rfl, Nat.le_of_ble_eq_true rfl⟩ rfl xo4 rfl hl.1 rfl (Nat.le_of_ble_eq_true rfl) dX2_follow_42 ⟨Nat.le_of_ble_eq_true rfl, Nat.le_of_ble_eq_true rfl⟩) hD hS hA (fun r_9 u_9 H locs hp hP hD hS => ?_)
        obtain ⟨er, eu⟩ := hp
        obtain rfl := er.symm
        obtain rfl := eu.symm
        have hP : va_P D vwCl (XW ad cI cJ co fl ra (passUp co fl p_2.1).1 re wa pi) H := hP
        have hD : va_D A (XW ad cI cJ co fl ra (passUp co fl p_2.1).1 re wa pi) := hD
        refine lv_istore_n (lv' := [(3, .int (b2i (passUp co fl p_2.1).2)), (0, .ref (ad 4)), (1, .ref (ad 1)), (2, .ref (ad 2)), (4, .int (nI i_2))]) hx hb dX2_follow_45 rfl hl (by decide) rfl (fun ls hl => ?_)
        refine lv_iinc (v := (nI (i_2 + 1))) (lv' := [(4, .int (nI (i_2 + 1))), (3, .int (b2i (passUp co fl p_2.1).2)), (0, .ref (ad 4)), (1, .ref (ad 1)), (2, .ref (ad 2))]) hx hb dX2_follow_46 hl (k := 4) rfl (nI_1 i_2) (by decide) rfl (fun ls hl => ?_)
        refine lv_goto (tgt := 28) hx hb dX2_follow_49 (by decide) ?_
        have h9 := lpW_go h_2 (by simp only [c_36, gi_sl, gi_sA, gi_sB, gi_si_s, gi_si_n, gl_si, gl_sA, gl_sB, gl_sl_s, gl_sl_n, gA_si, gA_sl, gA_sB, gA_sA_s, gA_sA_n, gB_si, gB_sl, gB_sA, gB_sB_s, gB_sB_n, Nat.reduceBEq, if_true, if_false, eq_self, Bool.false_eq_true, Bool.true_eq_false, not_true_eq_false, not_false_eq_true, decide_true, decide_false, cond_true, cond_false, Bool.true_and, Bool.false_and, Bool.and_true, Bool.and_false, Bool.true_or, Bool.false_or, Bool.or_true, Bool.or_false, b2i_tt, b2i_ff, pr_eta]; done)
        exact ih_2 (passUp co fl p_2.1) H locs ls ⟨h9, hP, hD, hS, lv_sub hl [2, 3, 4, 1, 0] rfl⟩
  · obtain ⟨h_1, hP, hD, hS, hl⟩ := hI
    have hP : va_P D vwCl (XW ad cI cJ co fl ra p_1 re wa pi) H := hP
    have hD : va_D A (XW ad cI cJ co fl ra p_1 re wa pi) := hD
    have hl : lv_has ls 5 [(0, .ref (ad 4)), (1, .ref (ad 1)), (2, .ref (ad 2)), (3, .int (nI i_1))] := hl
    refine lv_iload_n hx hb dX2_follow_2 rfl (lv_at hl 3 rfl) ?_
    refine lv_bipush (v := 40) hx hb dX2_follow_3 (by decide) ?_
    refine lv_icmp_ge (tgt := 23) hx hb dX2_follow_5 (by decide) (fun c_5 => absurd c_5 (nI_ge hi_1 (by decide))) (fun _ => ?_)
    refine lv_aload_n hx hb dX2_follow_8 rfl (lv_at hl 0 rfl) ?_
    refine va_get (D := D) (ci := 2) (v := .ref (ad 23)) (C := RX2) (T := TX2) (N := 3) hx hb hg inGX2 hown hK hP 4 xo4 rfl 0 (by decide) (hg _ mw_147) (fun _ h9 => h9) xvX2_0 dX2_follow_9 ?_
    refine lv_iload_n hx hb dX2_follow_12 rfl (lv_at hl 3 rfl) ?_
    refine lv_iconst (v := 0) hx hb dX2_follow_13 (by decide) ?_
    refine kV (rSN hx hb hml hown hg hN hK hP hD (c_put l D cI cJ (XW ad cI cJ co fl ra p_1 re wa pi) 23 (ad 23) 40 (gA p_1 0) (nI i_1) 0 (xg23 rfl) (by decide)) mw_92 nw_79 mw_93 mw_77 pd_X7_put ⟨Nat.le_of_ble_eq_true rfl, Nat.le_of_ble_eq_true rfl⟩ rfl hl.1 rfl (Nat.le_of_ble_eq_true rfl) dX2_follow_14 ⟨Nat.le_of_ble_eq_true rfl, Nat.le_of_ble_eq_true rfl⟩) hD hS hA (fun u_10 H locs hp hP hD hS => ?_)
    obtain rfl := hp.symm
    have hP : va_P D vwCl (XW ad cI cJ co fl ra (sA p_1 0 (wr (gA p_1 0) 40 (nI i_1) 0)) re wa pi) H := cgP xs23 hP
    have hD : va_D A (XW ad cI cJ co fl ra (sA p_1 0 (wr (gA p_1 0) 40 (nI i_1) 0)) re wa pi) := cgD xs23 hD
    refine lv_iinc (v := (nI (i_1 + 1))) (lv' := [(3, .int (nI (i_1 + 1))), (0, .ref (ad 4)), (1, .ref (ad 1)), (2, .ref (ad 2))]) hx hb dX2_follow_17 hl (k := 3) rfl (nI_1 i_1) (by decide) rfl (fun ls hl => ?_)
    refine lv_goto (tgt := 2) hx hb dX2_follow_20 (by decide) ?_
    exact ih_1 (sA p_1 0 (wr (gA p_1 0) 40 (nI i_1) 0)) H locs ls ⟨((show (sA p_1 0 (wr (gA p_1 0) 40 (nI i_1) 0)) = liInit i_1 p_1 from (by first | with_reducible rfl | (simp only [liInit, gi_sl, gi_sA, gi_sB, gi_si_s, gi_si_n, gl_si, gl_sA, gl_sB, gl_sl_s, gl_sl_n, gA_si, gA_sl, gA_sB, gA_sA_s, gA_sA_n, gB_si, gB_sl, gB_sA, gB_sB_s, gB_sB_n, Nat.reduceBEq, if_true, if_false, eq_self, Bool.false_eq_true, Bool.true_eq_false, not_true_eq_false, not_false_eq_true, decide_true, decide_false, cond_true, cond_false, Bool.true_and, Bool.false_and, Bool.and_true, Bool.and_false, Bool.true_or, Bool.false_or, Bool.or_true, Bool.or_false, b2i_tt, b2i_ff, pr_eta]; done))).trans (lp_go h_1)), hP, hD, hS, lv_sub hl [1, 2, 3, 0] rfl⟩
