theorem dX3_setLayers_0 : decode cX3_setLayers 0 = .ok (.iconst 0, 1) := by decide +kernel
theorem dX3_setLayers_1 : decode cX3_setLayers 1 = .ok (.istore_n 1, 1) := by decide +kernel
theorem dX3_setLayers_2 : decode cX3_setLayers 2 = .ok (.iload_n 1, 1) := by decide +kernel
theorem dX3_setLayers_3 : decode cX3_setLayers 3 = .ok (.bipush 40, 2) := by decide +kernel
theorem dX3_setLayers_5 : decode cX3_setLayers 5 = .ok (.if_icmp .ge 36, 3) := by decide +kernel
theorem dX3_setLayers_8 : decode cX3_setLayers 8 = .ok (.aload_n 0, 1) := by decide +kernel
theorem dX3_setLayers_9 : decode cX3_setLayers 9 = .ok (.getfield 18, 3) := by decide +kernel
theorem dX3_setLayers_12 : decode cX3_setLayers 12 = .ok (.iload_n 1, 1) := by decide +kernel
theorem dX3_setLayers_13 : decode cX3_setLayers 13 = .ok (.aload_n 0, 1) := by decide +kernel
theorem dX3_setLayers_14 : decode cX3_setLayers 14 = .ok (.getfield 12, 3) := by decide +kernel
theorem dX3_setLayers_17 : decode cX3_setLayers 17 = .ok (.getfield 83, 3) := by decide +kernel
theorem dX3_setLayers_20 : decode cX3_setLayers 20 = .ok (.iload_n 1, 1) := by decide +kernel
theorem dX3_setLayers_21 : decode cX3_setLayers 21 = .ok (.invokestatic 87, 3) := by decide +kernel
theorem dX3_setLayers_24 : decode cX3_setLayers 24 = .ok (.ifCond .eq 7, 3) := by decide +kernel
theorem dX3_setLayers_27 : decode cX3_setLayers 27 = .ok (.iconst 0, 1) := by decide +kernel
theorem dX3_setLayers_28 : decode cX3_setLayers 28 = .ok (.goto 4, 3) := by decide +kernel
theorem dX3_setLayers_31 : decode cX3_setLayers 31 = .ok (.iconst (-1), 1) := by decide +kernel
theorem dX3_setLayers_32 : decode cX3_setLayers 32 = .ok (.invokestatic 75, 3) := by decide +kernel
theorem dX3_setLayers_35 : decode cX3_setLayers 35 = .ok (.iinc 1 1, 3) := by decide +kernel
theorem dX3_setLayers_38 : decode cX3_setLayers 38 = .ok (.goto (-36), 3) := by decide +kernel
theorem dX3_setLayers_41 : decode cX3_setLayers 41 = .ok (.iconst 1, 1) := by decide +kernel
theorem dX3_setLayers_42 : decode cX3_setLayers 42 = .ok (.istore_n 1, 1) := by decide +kernel
theorem dX3_setLayers_43 : decode cX3_setLayers 43 = .ok (.iconst 0, 1) := by decide +kernel
theorem dX3_setLayers_44 : decode cX3_setLayers 44 = .ok (.istore_n 2, 1) := by decide +kernel
theorem dX3_setLayers_45 : decode cX3_setLayers 45 = .ok (.iload_n 2, 1) := by decide +kernel
theorem dX3_setLayers_46 : decode cX3_setLayers 46 = .ok (.bipush 40, 2) := by decide +kernel
theorem dX3_setLayers_48 : decode cX3_setLayers 48 = .ok (.if_icmp .ge 18, 3) := by decide +kernel
theorem dX3_setLayers_51 : decode cX3_setLayers 51 = .ok (.iload_n 1, 1) := by decide +kernel
theorem dX3_setLayers_52 : decode cX3_setLayers 52 = .ok (.ifCond .eq 14, 3) := by decide +kernel
theorem dX3_setLayers_55 : decode cX3_setLayers 55 = .ok (.aload_n 0, 1) := by decide +kernel
theorem dX3_setLayers_56 : decode cX3_setLayers 56 = .ok (.invokevirtual 91, 3) := by decide +kernel
theorem dX3_setLayers_59 : decode cX3_setLayers 59 = .ok (.istore_n 1, 1) := by decide +kernel
theorem dX3_setLayers_60 : decode cX3_setLayers 60 = .ok (.iinc 2 1, 3) := by decide +kernel
theorem dX3_setLayers_63 : decode cX3_setLayers 63 = .ok (.goto (-18), 3) := by decide +kernel
theorem dX3_setLayers_66 : decode cX3_setLayers 66 = .ok (.aload_n 0, 1) := by decide +kernel
theorem dX3_setLayers_67 : decode cX3_setLayers 67 = .ok (.iconst 0, 1) := by decide +kernel
theorem dX3_setLayers_68 : decode cX3_setLayers 68 = .ok (.putfield 72, 3) := by decide +kernel
theorem dX3_setLayers_71 : decode cX3_setLayers 71 = .ok (.iconst 0, 1) := by decide +kernel
theorem dX3_setLayers_72 : decode cX3_setLayers 72 = .ok (.istore_n 2, 1) := by decide +kernel
theorem dX3_setLayers_73 : decode cX3_setLayers 73 = .ok (.iload_n 2, 1) := by decide +kernel
theorem dX3_setLayers_74 : decode cX3_setLayers 74 = .ok (.bipush 40, 2) := by decide +kernel
theorem dX3_setLayers_76 : decode cX3_setLayers 76 = .ok (.if_icmp .ge 30, 3) := by decide +kernel
theorem dX3_setLayers_79 : decode cX3_setLayers 79 = .ok (.aload_n 0, 1) := by decide +kernel
theorem dX3_setLayers_80 : decode cX3_setLayers 80 = .ok (.aload_n 0, 1) := by decide +kernel
theorem dX3_setLayers_81 : decode cX3_setLayers 81 = .ok (.getfield 72, 3) := by decide +kernel
theorem dX3_setLayers_84 : decode cX3_setLayers 84 = .ok (.aload_n 0, 1) := by decide +kernel
theorem dX3_setLayers_85 : decode cX3_setLayers 85 = .ok (.getfield 18, 3) := by decide +kernel
theorem dX3_setLayers_88 : decode cX3_setLayers 88 = .ok (.iload_n 2, 1) := by decide +kernel
theorem dX3_setLayers_89 : decode cX3_setLayers 89 = .ok (.invokestatic 95, 3) := by decide +kernel
theorem dX3_setLayers_92 : decode cX3_setLayers 92 = .ok (.iconst 1, 1) := by decide +kernel
theorem dX3_setLayers_93 : decode cX3_setLayers 93 = .ok (.iadd, 1) := by decide +kernel
theorem dX3_setLayers_94 : decode cX3_setLayers 94 = .ok (.invokestatic 99, 3) := by decide +kernel
theorem dX3_setLayers_97 : decode cX3_setLayers 97 = .ok (.putfield 72, 3) := by decide +kernel
theorem dX3_setLayers_100 : decode cX3_setLayers 100 = .ok (.iinc 2 1, 3) := by decide +kernel
theorem dX3_setLayers_103 : decode cX3_setLayers 103 = .ok (.goto (-30), 3) := by decide +kernel
theorem dX3_setLayers_106 : decode cX3_setLayers 106 = .ok (.return_, 1) := by decide +kernel
theorem mw_235 : Cond.fieldLink RX3 72 "OrielChart$Picture" "layerCount" "I" ∈ GW := gw_mem (inT2 _ (List.mem_of_getElem? (i := 28) rfl)) rfl
theorem mw_236 : Cond.methodLink RX3 99 Lib.Math.max.name ∈ GW := gw_mem (inT3 _ (List.mem_of_getElem? (i := 54) rfl)) rfl
theorem mw_237 : Cond.static Lib.Math.max.name ∈ GW := gw_mem (inT3 _ (List.mem_of_getElem? (i := 55) rfl)) rfl
theorem mw_238 : Cond.initialized "java/lang/Math" ∈ GW := gw_mem (inT1 _ (List.mem_of_getElem? (i := 10) rfl)) rfl
theorem mw_239 : Cond.code Lib.Math.max.name Lib.Math.max.code 2 (some .int) ∈ GW := gw_mem (inT3 _ (List.mem_of_getElem? (i := 56) rfl)) rfl
theorem mw_240 : Cond.code yX3_pushDown cX3_pushDown 3 (some Jvm.ClassFile.FieldType.boolean) ∈ GW := gw_mem (inT3 _ (List.mem_of_getElem? (i := 44) rfl)) rfl
theorem mw_241 : Cond.methodLink RX3 91 yX3_pushDown ∈ GW := gw_mem (inT3 _ (List.mem_of_getElem? (i := 41) rfl)) rfl
theorem mw_242 : Cond.instanceMethod yX3_pushDown ∈ GW := gw_mem (inT3 _ (List.mem_of_getElem? (i := 43) rfl)) rfl
theorem mw_243 : Cond.selects RX3 yX3_pushDown yX3_pushDown ∈ GW := gw_mem (inTp (q := (yX3_pushDown, 16)) (List.mem_of_getElem? (i := 23) rfl)) rfl
theorem pdv_X3_pushDown : yX3_pushDown.cls = RX3 ∧ yX3_pushDown.cls ≠ "java/lang/invoke/MethodHandle" ∧ yX3_pushDown.cls ≠ "java/lang/invoke/VarHandle" ∧ (parseMethodDescriptor yX3_pushDown.desc).map (fun d => d.parameters.length) = some 0 := by decide +kernel
set_option maxHeartbeats 4000000 in
set_option maxRecDepth 100000 in
theorem c_setLayers (l : Launch) (D : va_G) (cI cJ : ClassId) (ad : Nat → Nat) (co fl ra li re wa pi : Ob) : CT l D (TY cI cJ) yX3_setLayers (.code yX3_setLayers cX3_setLayers 3 (none : Option FieldType)) 3 0 0 (XW ad cI cJ co fl ra li re wa pi) [.ref (ad 6)] (QV D (TY cI cJ) (fun u => u = (XW ad cI cJ co fl ra li re wa (setLayers wa pi)))) := by
  refine ent (by decide) (Nat.le_of_ble_eq_true rfl) ?_
  intro p e s m below meth c ls A hx hb hr hg hown hml hlocks hnm hP hK hD hS hA hN hl
  have hl : lv_has ls 3 [(0, .ref (ad 6))] := hl
  refine lv_iconst (v := 0) hx hb dX3_setLayers_0 (by decide) ?_
  refine lv_istore_n (lv' := [(1, .int 0), (0, .ref (ad 6))]) hx hb dX3_setLayers_1 rfl hl (by decide) rfl (fun ls hl => ?_)
  refine w_loop (σ := Ob) (fun (i_1 : Nat) (p_1 : Ob) (H : Heap) (locs : List Loc) (ls : Array Slot) => p_1 = (lp (slInit wa) i_1 pi) ∧ va_P D vwCl (XW ad cI cJ co fl ra li re wa p_1) H ∧ va_D A (XW ad cI cJ co fl ra li re wa p_1) ∧ va_S A s.heap H locs ∧ lv_has ls 3 [(0, .ref (ad 6)), (1, .int (nI i_1))]) (40) (fun p_1 H locs ls hI => ?_) (fun i_1 p_1 H locs ls hi_1 hI ih_1 => ?_) 0 pi (Nat.zero_le _) ⟨(lp_0 _ _), hP, hD, hS, (by rw [nI_0]; exact lv_sub hl [1, 0] rfl)⟩
  · obtain ⟨h_1, hP, hD, hS, hl⟩ := hI
    have h_1 := h_1.symm
    subst h_1
    have hP : va_P D vwCl (XW ad cI cJ co fl ra li re wa ((lp (slInit wa) (40) pi))) H := hP
    have hD : va_D A (XW ad cI cJ co fl ra li re wa ((lp (slInit wa) (40) pi))) := hD
    have hl : lv_has ls 3 [(0, .ref (ad 6)), (1, .int (nI 40))] := hl
    refine lv_iload_n hx hb dX3_setLayers_2 rfl (lv_at hl 1 rfl) ?_
    refine lv_bipush (v := 40) hx hb dX3_setLayers_3 (by decide) ?_
    refine lv_icmp_ge (tgt := 41) hx hb dX3_setLayers_5 (by decide) (fun _ => ?_) (fun c_5 => absurd (by decide) c_5)
    refine lv_iconst (v := 1) hx hb dX3_setLayers_41 (by decide) ?_
    refine lv_istore_n (lv' := [(1, .int 1), (0, .ref (ad 6))]) hx hb dX3_setLayers_42 rfl hl (by decide) rfl (fun ls hl => ?_)
    refine lv_iconst (v := 0) hx hb dX3_setLayers_43 (by decide) ?_
    refine lv_istore_n (lv' := [(2, .int 0), (1, .int 1), (0, .ref (ad 6))]) hx hb dX3_setLayers_44 rfl hl (by decide) rfl (fun ls hl => ?_)
    refine w_loop (σ := Ob × Bool) (fun (i_2 : Nat) (p_2 : Ob × Bool) (H : Heap) (locs : List Loc) (ls : Array Slot) => p_2 = (lpW (fun p : Ob × Bool => p.2) (fun p : Ob × Bool => pushDown wa p.1) i_2 (((lp (slInit wa) (40) pi)), true)) ∧ va_P D vwCl (XW ad cI cJ co fl ra li re wa p_2.1) H ∧ va_D A (XW ad cI cJ co fl ra li re wa p_2.1) ∧ va_S A s.heap H locs ∧ lv_has ls 3 [(0, .ref (ad 6)), (1, .int (b2i p_2.2)), (2, .int (nI i_2))]) (40) (fun p_2 H locs ls hI => ?_) (fun i_2 p_2 H locs ls hi_2 hI ih_2 => ?_) 0 (((lp (slInit wa) (40) pi)), true) (Nat.zero_le _) ⟨(lpW_0 _ _ _), hP, hD, hS, (by rw [nI_0]; exact lv_sub hl [2, 1, 0] rfl)⟩
    · obtain ⟨h_2, hP, hD, hS, hl⟩ := hI
      have h_2 := h_2.symm
      subst h_2
      have hP : va_P D vwCl (XW ad cI cJ co fl ra li re wa ((lpW (fun p : Ob × Bool => p.2) (fun p : Ob × Bool => pushDown wa p.1) (40) (((lp (slInit wa) (40) pi)), true)).1)) H := hP
      have hD : va_D A (XW ad cI cJ co fl ra li re wa ((lpW (fun p : Ob × Bool => p.2) (fun p : Ob × Bool => pushDown wa p.1) (40) (((lp (slInit wa) (40) pi)), true)).1)) := hD
      have hl : lv_has ls 3 [(0, .ref (ad 6)), (1, .int (b2i (lpW (fun p : Ob × Bool => p.2) (fun p : Ob × Bool => pushDown wa p.1) (40) (((lp (slInit wa) (40) pi)), true)).2)), (2, .int (nI 40))] := hl
      refine lv_iload_n hx hb dX3_setLayers_45 rfl (lv_at hl 2 rfl) ?_
      refine lv_bipush (v := 40) hx hb dX3_setLayers_46 (by decide) ?_
      refine lv_icmp_ge (tgt := 66) hx hb dX3_setLayers_48 (by decide) (fun _ => ?_) (fun c_48 => absurd (by decide) c_48)
      refine lv_aload_n hx hb dX3_setLayers_66 rfl (lv_at hl 0 rfl) ?_
      refine lv_iconst (v := 0) hx hb dX3_setLayers_67 (by decide) ?_
      refine va_put (D := D) (ci := 3) (v := .int 0) (C := RX3) (T := TX3) (N := 16) hx hb hg inGX3 tyX3 tyX3_ok nmX3 hown hK hP hD hS 6 xo6 rfl 13 (by decide) (hg _ mw_235) (fun _ h9 => h9) rfl (tyX3_ok 13 (by decide)) rfl rfl (Nat.le_of_ble_eq_true rfl) dX3_setLayers_68 (fun H locs hP hD hS => ?_)
      have hP : va_P D vwCl (XW ad cI cJ co fl ra li re wa (si ((lpW (fun p : Ob × Bool => p.2) (fun p : Ob × Bool => pushDown wa p.1) (40) (((lp (slInit wa) (40) pi)), true)).1) 1 0)) H := cgP xpX3_13 hP
      have hD : va_D A (XW ad cI cJ co fl ra li re wa (si ((lpW (fun p : Ob × Bool => p.2) (fun p : Ob × Bool => pushDown wa p.1) (40) (((lp (slInit wa) (40) pi)), true)).1) 1 0)) := cgD xpX3_13 hD
      refine lv_iconst (v := 0) hx hb dX3_setLayers_71 (by decide) ?_
      refine lv_istore_n (lv' := [(2, .int 0), (0, .ref (ad 6)), (1, .int (b2i (lpW (fun p : Ob × Bool => p.2) (fun p : Ob × Bool => pushDown wa p.1) (40) (((lp (slInit wa) (40) pi)), true)).2))]) hx hb dX3_setLayers_72 rfl hl (by decide) rfl (fun ls hl => ?_)
      refine w_loop (σ := Ob) (fun (i_3 : Nat) (p_3 : Ob) (H : Heap) (locs : List Loc) (ls : Array Slot) => p_3 = (lp slMax i_3 (si ((lpW (fun p : Ob × Bool => p.2) (fun p : Ob × Bool => pushDown wa p.1) (40) (((lp (slInit wa) (40) pi)), true)).1) 1 0)) ∧ va_P D vwCl (XW ad cI cJ co fl ra li re wa p_3) H ∧ va_D A (XW ad cI cJ co fl ra li re wa p_3) ∧ va_S A s.heap H locs ∧ lv_has ls 3 [(0, .ref (ad 6)), (2, .int (nI i_3))]) (40) (fun p_3 H locs ls hI => ?_) (fun i_3 p_3 H locs ls hi_3 hI ih_3 => ?_) 0 (si ((lpW (fun p : Ob × Bool => p.2) (fun p : Ob × Bool => pushDown wa p.1) (40) (((lp (slInit wa) (40) pi)), true)).1) 1 0) (Nat.zero_le _) ⟨(lp_0 _ _), hP, hD, hS, (by rw [nI_0]; exact lv_sub hl [1, 0] rfl)⟩
      · obtain ⟨h_3, hP, hD, hS, hl⟩ := hI
        have h_3 := h_3.symm
        subst h_3
        have hP : va_P D vwCl (XW ad cI cJ co fl ra li re wa ((lp slMax (40) (si ((lpW (fun p : Ob × Bool => p.2) (fun p : Ob × Bool => pushDown wa p.1) (40) (((lp (slInit wa) (40) pi)), true)).1) 1 0)))) H := hP
        have hD : va_D A (XW ad cI cJ co fl ra li re wa ((lp slMax (40) (si ((lpW (fun p : Ob × Bool => p.2) (fun p : Ob × Bool => pushDown wa p.1) (40) (((lp (slInit wa) (40) pi)), true)).1) 1 0)))) := hD
        have hl : lv_has ls 3 [(0, .ref (ad 6)), (2, .int (nI 40))] := hl
        refine lv_iload_n hx hb dX3_setLayers_73 rfl (lv_at hl 1 rfl) ?_
        refine lv_bipush (v := 40) hx hb dX3_setLayers_74 (by decide) ?_
        refine lv_icmp_ge (tgt := 106) hx hb dX3_setLayers_76 (by decide) (fun _ => ?_) (fun c_76 => absurd (by decide) c_76)
        exact W.vret hx hb hr (fun t ht hW => ⟨⟨(XW ad cI cJ co fl ra li re wa ((lp slMax (40) (si ((lpW (fun p : Ob × Bool => p.2) (fun p : Ob × Bool => pushDown wa p.1) (40) (((lp (slInit wa) (40) pi)), true)).1) 1 0)))), rfl, xw_eq rfl rfl rfl rfl rfl rfl (show ((lp slMax (40) (si ((lpW (fun p : Ob × Bool => p.2) (fun p : Ob × Bool => pushDown wa p.1) (40) (((lp (slInit wa) (40) pi)), true)).1) 1 0))) = (setLayers wa pi) from (by first | with_reducible rfl | (simp only [setLayers, slPush, gi_sl, gi_sA, gi_sB, gi_si_s, gi_si_n, gl_si, gl_sA, gl_sB, gl_sl_s, gl_sl_n, gA_si, gA_sl, gA_sB, gA_sA_s, gA_sA_n, gB_si, gB_sl, gB_sA, gB_sB_s, gB_sB_n, Nat.reduceBEq, if_true, if_false, eq_self, Bool.false_eq_true, Bool.true_eq_false, not_true_eq_false, not_false_eq_true, decide_true, decide_false, cond_true, cond_false, Bool.true_and, Bool.false_and, Bool.and_true, Bool.and_false, Bool.true_or, Bool.false_or, Bool.or_true, Bool.or_false, b2i_tt, b2i_ff, pr_eta]; done))), ⟨by rw [ht]; exact hP, va_K.moved hW.alike hK, hD⟩⟩, hS.F ht⟩) hS.2.2 dX3_setLayers_106
      · obtain ⟨h_3, hP, hD, hS, hl⟩ := hI
        have hP : va_P D vwCl (XW ad cI cJ co fl ra li re wa p_3) H := hP
        have hD : va_D A (XW ad cI cJ co fl ra li re wa p_3) := hD
        have hl : lv_has ls 3 [(0, .ref (ad 6)), (2, .int (nI i_3))] := hl
        refine lv_iload_n hx hb dX3_setLayers_73 rfl (lv_at hl 1 rfl) ?_
        refine lv_bipush (v := 40) hx hb dX3_setLayers_74 (by decide) ?_
        refine lv_icmp_ge (tgt := 106) hx hb dX3_setLayers_76 (by decide) (fun c_76 => absurd c_76 (nI_ge hi_3 (by decide))) (fun _ => ?_)
        refine lv_aload_n hx hb dX3_setLayers_79 rfl (lv_at hl 0 rfl) ?_
        refine lv_aload_n hx hb dX3_setLayers_80 rfl (lv_at hl 0 rfl) ?_
        refine va_get (D := D) (ci := 3) (v := .int (gi p_3 1)) (C := RX3) (T := TX3) (N := 16) hx hb hg inGX3 hown hK hP 6 xo6 rfl 13 (by decide) (hg _ mw_235) (fun _ h9 => h9) (xvX3_13 rfl) dX3_setLayers_81 ?_
        refine lv_aload_n hx hb dX3_setLayers_84 rfl (lv_at hl 0 rfl) ?_
        refine va_get (D := D) (ci := 3) (v := .ref (ad 34)) (C := RX3) (T := TX3) (N := 16) hx hb hg inGX3 hown hK hP 6 xo6 rfl 1 (by decide) (hg _ mw_226) (fun _ h9 => h9) xvX3_1 dX3_setLayers_85 ?_
        refine lv_iload_n hx hb dX3_setLayers_88 rfl (lv_at hl 1 rfl) ?_
        refine kI (rSN hx hb hml hown hg hN hK hP hD (c_at l D cI cJ (XW ad cI cJ co fl ra li re wa p_3) 34 (ad 34) 40 (gA p_3 0) (nI i_3) (xg34 rfl) (by decide)) mw_84 nw_96 mw_85 mw_77 pd_X7_at ⟨Nat.le_of_ble_eq_true rfl, Nat.le_of_ble_eq_true rfl⟩ rfl hl.1 rfl (Nat.le_of_ble_eq_true rfl) dX3_setLayers_89 ⟨Nat.le_of_ble_eq_true rfl, Nat.le_of_ble_eq_true rfl⟩) hD hS hA (fun r_4 u_4 H locs hp hP hD hS => ?_)
        obtain ⟨er, eu⟩ := hp
        obtain rfl := er.symm
        obtain rfl := eu.symm
        refine lv_iconst (v := 1) hx hb dX3_setLayers_92 (by decide) ?_
        refine lv_iadd hx hb dX3_setLayers_93 ?_
        refine va_mmax hx hb (by rw [hml]; exact hl.1.symm) hown (hg _ mw_236) (hg _ mw_237) (hg _ mw_238) (hg _ mw_239) (Nat.le_of_ble_eq_true rfl) (Nat.le_of_ble_eq_true rfl) (Nat.le_of_ble_eq_true rfl) (Nat.le_of_ble_eq_true rfl) dX3_setLayers_94 ?_
        refine W.eq (g2 := F0 m 97 ls [.int (imax (gi p_3 1) ((rd (gA p_3 0) 40 (nI i_3)) + 1)), .ref (ad 6)]) rfl ?_
        refine va_put (D := D) (ci := 3) (v := .int (imax (gi p_3 1) ((rd (gA p_3 0) 40 (nI i_3)) + 1))) (C := RX3) (T := TX3) (N := 16) hx hb hg inGX3 tyX3 tyX3_ok nmX3 hown hK hP hD hS 6 xo6 rfl 13 (by decide) (hg _ mw_235) (fun _ h9 => h9) rfl (tyX3_ok 13 (by decide)) rfl rfl (Nat.le_of_ble_eq_true rfl) dX3_setLayers_97 (fun H locs hP hD hS => ?_)
        have hP : va_P D vwCl (XW ad cI cJ co fl ra li re wa (si p_3 1 (imax (gi p_3 1) ((rd (gA p_3 0) 40 (nI i_3)) + 1)))) H := cgP xpX3_13 hP
        have hD : va_D A (XW ad cI cJ co fl ra li re wa (si p_3 1 (imax (gi p_3 1) ((rd (gA p_3 0) 40 (nI i_3)) + 1)))) := cgD xpX3_13 hD
        refine lv_iinc (v := (nI (i_3 + 1))) (lv' := [(2, .int (nI (i_3 + 1))), (0, .ref (ad 6))]) hx hb dX3_setLayers_100 hl (k := 1) rfl (nI_1 i_3) (by decide) rfl (fun ls hl => ?_)
        refine lv_goto (tgt := 73) hx hb dX3_setLayers_103 (by decide) ?_
        exact ih_3 (si p_3 1 (imax (gi p_3 1) ((rd (gA p_3 0) 40 (nI i_3)) + 1))) H locs ls ⟨((show (si p_3 1 (imax (gi p_3 1) ((rd (gA p_3 0) 40 (nI i_3)) + 1))) = slMax i_3 p_3 from (by first | with_reducible rfl | (simp only [slMax, gi_sl, gi_sA, gi_sB, gi_si_s, gi_si_n, gl_si, gl_sA, gl_sB, gl_sl_s, gl_sl_n, gA_si, gA_sl, gA_sB, gA_sA_s, gA_sA_n, gB_si, gB_sl, gB_sA, gB_sB_s, gB_sB_n, Nat.reduceBEq, if_true, if_false, eq_self, Bool.false_eq_true, Bool.true_eq_false, not_true_eq_false, not_false_eq_true, decide_true, decide_false, cond_true, cond_false, Bool.true_and, Bool.false_and, Bool.and_true, Bool.and_false, Bool.true_or, Bool.false_or, Bool.or_true, Bool.or_false, b2i_tt, b2i_ff, pr_eta]; done))).trans (lp_go h_3)), hP, hD, hS, lv_sub hl [1, 0] rfl⟩
    · obtain ⟨h_2, hP, hD, hS, hl⟩ := hI
      have hP : va_P D vwCl (XW ad cI cJ co fl ra li re wa p_2.1) H := hP
      have hD : va_D A (XW ad cI cJ co fl ra li re wa p_2.1) := hD
      have hl : lv_has ls 3 [(0, .ref (ad 6)), (1, .int (b2i p_2.2)), (2, .int (nI i_2))] := hl
      refine lv_iload_n hx hb dX3_setLayers_45 rfl (lv_at hl 2 rfl) ?_
      refine lv_bipush (v := 40) hx hb dX3_setLayers_46 (by decide) ?_
      refine lv_icmp_ge (tgt := 66) hx hb dX3_setLayers_48 (by decide) (fun c_48 => absurd c_48 (nI_ge hi_2 (by decide))) (fun _ => ?_)
      refine lv_iload_n hx hb dX3_setLayers_51 rfl (lv_at hl 1 rfl) ?_
      refine lv_if_eq (tgt := 66) hx hb dX3_setLayers_52 (by decide) (fun c_52 => ?_) (fun c_52 => ?_)
      · have c_52 : ¬ p_2.2 = true := b2i_0 c_52
        have h_2 : p_2 = (lpW (fun p : Ob × Bool => p.2) (fun p : Ob × Bool => pushDown wa p.1) (40) (((lp (slInit wa) (40) pi)), true)) := lpW_stop h_2 (by simp only [bf_of c_52, gi_sl, gi_sA, gi_sB, gi_si_s, gi_si_n, gl_si, gl_sA, gl_sB, gl_sl_s, gl_sl_n, gA_si, gA_sl, gA_sB, gA_sA_s, gA_sA_n, gB_si, gB_sl, gB_sA, gB_sB_s, gB_sB_n, Nat.reduceBEq, if_true, if_false, eq_self, Bool.false_eq_true, Bool.true_eq_false, not_true_eq_false, not_false_eq_true, decide_true, decide_false, cond_true, cond_false, Bool.true_and, Bool.false_and, Bool.and_true, Bool.and_false, Bool.true_or, Bool.false_or, Bool.or_true, Bool.or_false, b2i_tt, b2i_ff, pr_eta]; done) (Nat.le_of_lt hi_2)
        have h_2 := h_2.symm
        subst h_2
        have hP : va_P D vwCl (XW ad cI cJ co fl ra li re wa ((lpW (fun p : Ob × Bool => p.2) (fun p : Ob × Bool => pushDown wa p.1) (40) (((lp (slInit wa) (40) pi)), true)).1)) H := hP
        have hD : va_D A (XW ad cI cJ co fl ra li re wa ((lpW (fun p : Ob × Bool => p.2) (fun p : Ob × Bool => pushDown wa p.1) (40) (((lp (slInit wa) (40) pi)), true)).1)) := hD
        have hl : lv_has ls 3 [(0, .ref (ad 6)), (1, .int (b2i (lpW (fun p : Ob × Bool => p.2) (fun p : Ob × Bool => pushDown wa p.1) (40) (((lp (slInit wa) (40) pi)), true)).2)), (2, .int (nI i_2))] := hl
        refine lv_aload_n hx hb dX3_setLayers_66 rfl (lv_at hl 0 rfl) ?_
        refine lv_iconst (v := 0) hx hb dX3_setLayers_67 (by decide) ?_
        refine va_put (D := D) (ci := 3) (v := .int 0) (C := RX3) (T := TX3) (N := 16) hx hb hg inGX3 tyX3 tyX3_ok nmX3 hown hK hP hD hS 6 xo6 rfl 13 (by decide) (hg _ mw_235) (fun _ h9 => h9) rfl (tyX3_ok 13 (by decide)) rfl rfl (Nat.le_of_ble_eq_true rfl) dX3_setLayers_68 (fun H locs hP hD hS => ?_)
        have hP : va_P D vwCl (XW ad cI cJ co fl ra li re wa (si ((lpW (fun p : Ob × Bool => p.2) (fun p : Ob × Bool => pushDown wa p.1) (40) (((lp (slInit wa) (40) pi)), true)).1) 1 0)) H := cgP xpX3_13 hP
        have hD : va_D A (XW ad cI cJ co fl ra li re wa (si ((lpW (fun p : Ob × Bool => p.2) (fun p : Ob × Bool => pushDown wa p.1) (40) (((lp (slInit wa) (40) pi)), true)).1) 1 0)) := cgD xpX3_13 hD
        refine lv_iconst (v := 0) hx hb dX3_setLayers_71 (by decide) ?_
        refine lv_istore_n (lv' := [(2, .int 0), (0, .ref (ad 6)), (1, .int (b2i (lpW (fun p : Ob × Bool => p.2) (fun p : Ob × Bool => pushDown wa p.1) (40) (((lp (slInit wa) (40) pi)), true)).2))]) hx hb dX3_setLayers_72 rfl hl (by decide) rfl (fun ls hl => ?_)
        refine w_loop (σ := Ob) (fun (i_5 : Nat) (p_5 : Ob) (H : Heap) (locs : List Loc) (ls : Array Slot) => p_5 = (lp slMax i_5 (si ((lpW (fun p : Ob × Bool => p.2) (fun p : Ob × Bool => pushDown wa p.1) (40) (((lp (slInit wa) (40) pi)), true)).1) 1 0)) ∧ va_P D vwCl (XW ad cI cJ co fl ra li re wa p_5) H ∧ va_D A (XW ad cI cJ co fl ra li re wa p_5) ∧ va_S A s.heap H locs ∧ lv_has ls 3 [(0, .ref (ad 6)), (2, .int (nI i_5))]) (40) (fun p_5 H locs ls hI => ?_) (fun i_5 p_5 H locs ls hi_5 hI ih_5 => ?_) 0 (si ((lpW (fun p : Ob × Bool => p.2) (fun p : Ob × Bool => pushDown wa p.1) (40) (((lp (slInit wa) (40) pi)), true)).1) 1 0) (Nat.zero_le _) ⟨(lp_0 _ _), hP, hD, hS, (by rw [nI_0]; exact lv_sub hl [1, 0] rfl)⟩
        · obtain ⟨h_5, hP, hD, hS, hl⟩ := hI
          have h_5 := h_5.symm
          subst h_5
          have hP : va_P D vwCl (XW ad cI cJ co fl ra li re wa ((lp slMax (40) (si ((lpW (fun p : Ob × Bool => p.2) (fun p : Ob × Bool => pushDown wa p.1) (40) (((lp (slInit wa) (40) pi)), true)).1) 1 0)))) H := hP
          have hD : va_D A (XW ad cI cJ co fl ra li re wa ((lp slMax (40) (si ((lpW (fun p : Ob × Bool => p.2) (fun p : Ob × Bool => pushDown wa p.1) (40) (((lp (slInit wa) (40) pi)), true)).1) 1 0)))) := hD
          have hl : lv_has ls 3 [(0, .ref (ad 6)), (2, .int (nI 40))] := hl
          refine lv_iload_n hx hb dX3_setLayers_73 rfl (lv_at hl 1 rfl) ?_
          refine lv_bipush (v := 40) hx hb dX3_setLayers_74 (by decide) ?_
          refine lv_icmp_ge (tgt := 106) hx hb dX3_setLayers_76 (by decide) (fun _ => ?_) (fun c_76 => absurd (by decide) c_76)
          exact W.vret hx hb hr (fun t ht hW => ⟨⟨(XW ad cI cJ co fl ra li re wa ((lp slMax (40) (si ((lpW (fun p : Ob × Bool => p.2) (fun p : Ob × Bool => pushDown wa p.1) (40) (((lp (slInit wa) (40) pi)), true)).1) 1 0)))), rfl, xw_eq rfl rfl rfl rfl rfl rfl (show ((lp slMax (40) (si ((lpW (fun p : Ob × Bool => p.2) (fun p : Ob × Bool => pushDown wa p.1) (40) (((lp (slInit wa) (40) pi)), true)).1) 1 0))) = (setLayers wa pi) from (by simp only [setLayers, slPush, bf_of c_52, gi_sl, gi_sA, gi_sB, gi_si_s, gi_si_n, gl_si, gl_sA, gl_sB, gl_sl_s, gl_sl_n, gA_si, gA_sl, gA_sB, gA_sA_s, gA_sA_n, gB_si, gB_sl, gB_sA, gB_sB_s, gB_sB_n, Nat.reduceBEq, if_true, if_false, eq_self, Bool.false_eq_true, Bool.true_eq_false, not_true_eq_false, not_false_eq_true, decide_true, decide_false, cond_true, cond_false, Bool.true_and, Bool.false_and, Bool.and_true, Bool.and_false, Bool.true_or, Bool.false_or, Bool.or_true, Bool.or_false, b2i_tt, b2i_ff, pr_eta]; done)), ⟨by rw [ht]; exact hP, va_K.moved hW.alike hK, hD⟩⟩, hS.F ht⟩) hS.2.2 dX3_setLayers_106
        · obtain ⟨h_5, hP, hD, hS, hl⟩ := hI
          have hP : va_P D vwCl (XW ad cI cJ co fl ra li re wa p_5) H := hP
          have hD : va_D A (XW ad cI cJ co fl ra li re wa p_5) := hD
          have hl : lv_has ls 3 [(0, .ref (ad 6)), (2, .int (nI i_5))] := hl
          refine lv_iload_n hx hb dX3_setLayers_73 rfl (lv_at hl 1 rfl) ?_
          refine lv_bipush (v := 40) hx hb dX3_setLayers_74 (by decide) ?_
          refine lv_icmp_ge (tgt := 106) hx hb dX3_setLayers_76 (by decide) (fun c_76 => absurd c_76 (nI_ge hi_5 (by decide))) (fun _ => ?_)
          refine lv_aload_n hx hb dX3_setLayers_79 rfl (lv_at hl 0 rfl) ?_
          refine lv_aload_n hx hb dX3_setLayers_80 rfl (lv_at hl 0 rfl) ?_
          refine va_get (D := D) (ci := 3) (v := .int (gi p_5 1)) (C := RX3) (T := TX3) (N := 16) hx hb hg inGX3 hown hK hP 6 xo6 rfl 13 (by decide) (hg _ mw_235) (fun _ h9 => h9) (xvX3_13 rfl) dX3_setLayers_81 ?_
          refine lv_aload_n hx hb dX3_setLayers_84 rfl (lv_at hl 0 rfl) ?_
          refine va_get (D := D) (ci := 3) (v := .ref (ad 34)) (C := RX3) (T := TX3) (N := 16) hx hb hg inGX3 hown hK hP 6 xo6 rfl 1 (by decide) (hg _ mw_226) (fun _ h9 => h9) xvX3_1 dX3_setLayers_85 ?_
          refine lv_iload_n hx hb dX3_setLayers_88 rfl (lv_at hl 1 rfl) ?_
          refine kI (rSN hx hb hml hown hg hN hK hP hD (c_at l D cI cJ (XW ad cI cJ co fl ra li re wa p_5) 34 (ad 34) 40 (gA p_5 0) (nI i_5) (xg34 rfl) (by decide)) mw_84 nw_96 mw_85 mw_77 pd_X7_at ⟨Nat.le_of_ble_eq_true rfl, Nat.le_of_ble_eq_true rfl⟩ rfl hl.1 rfl (Nat.le_of_ble_eq_true rfl) dX3_setLayers_89 ⟨Nat.le_of_ble_eq_true rfl, Nat.le_of_ble_eq_true rfl⟩) hD hS hA (fun r_6 u_6 H locs hp hP hD hS => ?_)
          obtain ⟨er, eu⟩ := hp
          obtain rfl := er.symm
          obtain rfl := eu.symm
          refine lv_iconst (v := 1) hx hb dX3_setLayers_92 (by decide) ?_
          refine lv_iadd hx hb dX3_setLayers_93 ?_
          refine va_mmax hx hb (by rw [hml]; exact hl.1.symm) hown (hg _ mw_236) (hg _ mw_237) (hg _ mw_238) (hg _ mw_239) (Nat.le_of_ble_eq_true rfl) (Nat.le_of_ble_eq_true rfl) (Nat.le_of_ble_eq_true rfl) (Nat.le_of_ble_eq_true rfl) dX3_setLayers_94 ?_
          refine W.eq (g2 := F0 m 97 ls [.int (imax (gi p_5 1) ((rd (gA p_5 0) 40 (nI i_5)) + 1)), .ref (ad 6)]) rfl ?_
          refine va_put (D := D) (ci := 3) (v := .int (imax (gi p_5 1) ((rd (gA p_5 0) 40 (nI i_5)) + 1))) (C := RX3) (T := TX3) (N := 16) hx hb hg inGX3 tyX3 tyX3_ok nmX3 hown hK hP hD hS 6 xo6 rfl 13 (by decide) (hg _ mw_235) (fun _ h9 => h9) rfl (tyX3_ok 13 (by decide)) rfl rfl (Nat.le_of_ble_eq_true rfl) dX3_setLayers_97 (fun H locs hP hD hS => ?_)
          have hP : va_P D vwCl (XW ad cI cJ co fl ra li re wa (si p_5 1 (imax (gi p_5 1) ((rd (gA p_5 0) 40 (nI i_5)) + 1)))) H := cgP xpX3_13 hP
          have hD : va_D A (XW ad cI cJ co fl ra li re wa (si p_5 1 (imax (gi p_5 1) ((rd (gA p_5 0) 40 (nI i_5)) + 1)))) := cgD xpX3_13 hD
          refine lv_iinc (v := (nI (i_5 + 1))) (lv' := [(2, .int (nI (i_5 + 1))), (0, .ref (ad 6))]) hx hb dX3_setLayers_100 hl (k := 1) rfl (nI_1 i_5) (by decide) rfl (fun ls hl => ?_)
          refine lv_goto (tgt := 73) hx hb dX3_setLayers_103 (by decide) ?_
          exact ih_5 (si p_5 1 (imax (gi p_5 1) ((rd (gA p_5 0) 40 (nI i_5)) + 1))) H locs ls ⟨((show (si p_5 1 (imax (gi p_5 1) ((rd (gA p_5 0) 40 (nI i_5)) + 1))) = slMax i_5 p_5 from (by simp only [slMax, bf_of c_52, gi_sl, gi_sA, gi_sB, gi_si_s, gi_si_n, gl_si, gl_sA, gl_sB, gl_sl_s, gl_sl_n, gA_si, gA_sl, gA_sB, gA_sA_s, gA_sA_n, gB_si, gB_sl, gB_sA, gB_sB_s, gB_sB_n, Nat.reduceBEq, if_true, if_false, eq_self, Bool.false_eq_true, Bool.true_eq_false, not_true_eq_false, not_false_eq_true, decide_true, decide_false, cond_true, cond_false, Bool.true_and, Bool.false_and, Bool.and_true, Bool.and_false, Bool.true_or, Bool.false_or, Bool.or_true, Bool.or_false, b2i_tt, b2i_ff, pr_eta]; done)).trans (lp_go h_5)), hP, hD, hS, lv_sub hl [1, 0] rfl⟩
      · have c_52 : p_2.2 = true := b2i_1 c_52
        refine lv_aload_n hx hb dX3_setLayers_55 rfl (lv_at hl 0 rfl) ?_
        refine kI (rV (q0 := 6) (ci := 3) hx hb hml hown hg hN hK hP hD (c_pushDown l D cI cJ ad co fl ra li re wa p_2.1) mw_240 mw_241 mw_242 mw_243 mw_234 pdv_X3_pushDown ⟨Nat.le_of_ble_eq_true rfl, Nat.le_of_ble_eq_true rfl⟩ rfl xo6 rfl hl.1 rfl (Nat.le_of_ble_eq_true rfl) dX3_setLayers_56 ⟨Nat.le_of_ble_eq_true rfl, Nat.le_of_ble_eq_true rfl⟩) hD hS hA (fun r_7 u_7 H locs hp hP hD hS => ?_)
        obtain ⟨er, eu⟩ := hp
        obtain rfl := er.symm
        obtain rfl := eu.symm
        have hP : va_P D vwCl (XW ad cI cJ co fl ra li re wa (pushDown wa p_2.1).1) H := hP
        have hD : va_D A (XW ad cI cJ co fl ra li re wa (pushDown wa p_2.1).1) := hD
        refine lv_istore_n (lv' := [(1, .int (b2i (pushDown wa p_2.1).2)), (0, .ref (ad 6)), (2, .int (nI i_2))]) hx hb dX3_setLayers_59 rfl hl (by decide) rfl (fun ls hl => ?_)
        refine lv_iinc (v := (nI (i_2 + 1))) (lv' := [(2, .int (nI (i_2 + 1))), (1, .int (b2i (pushDown wa p_2.1).2)), (0, .ref (ad 6))]) hx hb dX3_setLayers_60 hl (k := 2) rfl (nI_1 i_2) (by decide) rfl (fun ls hl => ?_)
        refine lv_goto (tgt := 45) hx hb dX3_setLayers_63 (by decide) ?_
        have h9 := lpW_go h_2 (by simp only [c_52, gi_sl, gi_sA, gi_sB, gi_si_s, gi_si_n, gl_si, gl_sA, gl_sB, gl_sl_s, gl_sl_n, gA_si, gA_sl, gA_sB, gA_sA_s, gA_sA_n, gB_si, gB_sl, gB_sA, gB_sB_s, gB_sB_n, Nat.reduceBEq, if_true, if_false, eq_self, Bool.false_eq_true, Bool.true_eq_false, not_true_eq_false, not_false_eq_true, decide_true, decide_false, cond_true, cond_false, Bool.true_and, Bool.false_and, Bool.and_true, Bool.and_false, Bool.true_or, Bool.false_or, Bool.or_true, Bool.or_false, b2i_tt, b2i_ff, pr_eta]; done)
        exact ih_2 (pushDown wa p_2.1) H locs ls ⟨h9, hP, hD, hS, lv_sub hl [2, 1, 0] rfl⟩
  · obtain ⟨h_1, hP, hD, hS, hl⟩ := hI
    have hP : va_P D vwCl (XW ad cI cJ co fl ra li re wa p_1) H := hP
    have hD : va_D A (XW ad cI cJ co fl ra li re wa p_1) := hD
    have hl : lv_has ls 3 [(0, .ref (ad 6)), (1, .int (nI i_1))] := hl
    refine lv_iload_n hx hb dX3_setLayers_2 rfl (lv_at hl 1 rfl) ?_
    refine lv_bipush (v := 40) hx hb dX3_setLayers_3 (by decide) ?_
    refine lv_icmp_ge (tgt := 41) hx hb dX3_setLayers_5 (by decide) (fun c_5 => absurd c_5 (nI_ge hi_1 (by decide))) (fun _ => ?_)
    refine lv_aload_n hx hb dX3_setLayers_8 rfl (lv_at hl 0 rfl) ?_
    refine va_get (D := D) (ci := 3) (v := .ref (ad 34)) (C := RX3) (T := TX3) (N := 16) hx hb hg inGX3 hown hK hP 6 xo6 rfl 1 (by decide) (hg _ mw_226) (fun _ h9 => h9) xvX3_1 dX3_setLayers_9 ?_
    refine lv_iload_n hx hb dX3_setLayers_12 rfl (lv_at hl 1 rfl) ?_
    refine lv_aload_n hx hb dX3_setLayers_13 rfl (lv_at hl 0 rfl) ?_
    refine va_get (D := D) (ci := 3) (v := .ref (ad 7)) (C := RX3) (T := TX3) (N := 16) hx hb hg inGX3 hown hK hP 6 xo6 rfl 0 (by decide) (hg _ mw_227) (fun _ h9 => h9) xvX3_0 dX3_setLayers_14 ?_
    refine va_getN (D := D) (ci := 6) (v := .long (gl wa 0)) (C := RX6) (T := TX6) (N := 9) hx hb hg inGX6 hown hK hP 7 xo7 rfl 7 (by decide) (hN.use nw_59) (fun _ h9 => h9) (xvX6_7 rfl) dX3_setLayers_17 ?_
    refine lv_iload_n hx hb dX3_setLayers_20 rfl (lv_at hl 1 rfl) ?_
    refine kI (rSN hx hb hml hown hg hN hK hP hD (c_has l D cI cJ (XW ad cI cJ co fl ra li re wa p_1) (gl wa 0) (nI i_1)) mw_89 nw_94 mw_90 mw_77 pd_X7_has ⟨Nat.le_of_ble_eq_true rfl, Nat.le_of_ble_eq_true rfl⟩ rfl hl.1 rfl (Nat.le_of_ble_eq_true rfl) dX3_setLayers_21 ⟨Nat.le_of_ble_eq_true rfl, Nat.le_of_ble_eq_true rfl⟩) hD hS hA (fun r_8 u_8 H locs hp hP hD hS => ?_)
    obtain ⟨er, eu⟩ := hp
    obtain rfl := er.symm
    obtain rfl := eu.symm
    refine lv_if_eq (tgt := 31) hx hb dX3_setLayers_24 (by decide) (fun c_24 => ?_) (fun c_24 => ?_)
    · have c_24 : ¬ (hs (gl wa 0) (nI i_1)) = true := b2i_0 c_24
      refine lv_iconst (v := (-1)) hx hb dX3_setLayers_31 (by decide) ?_
      refine kV (rSN hx hb hml hown hg hN hK hP hD (c_put l D cI cJ (XW ad cI cJ co fl ra li re wa p_1) 34 (ad 34) 40 (gA p_1 0) (nI i_1) (-1) (xg34 rfl) (by decide)) mw_92 nw_95 mw_93 mw_77 pd_X7_put ⟨Nat.le_of_ble_eq_true rfl, Nat.le_of_ble_eq_true rfl⟩ rfl hl.1 rfl (Nat.le_of_ble_eq_true rfl) dX3_setLayers_32 ⟨Nat.le_of_ble_eq_true rfl, Nat.le_of_ble_eq_true rfl⟩) hD hS hA (fun u_9 H locs hp hP hD hS => ?_)
      obtain rfl := hp.symm
      have hP : va_P D vwCl (XW ad cI cJ co fl ra li re wa (sA p_1 0 (wr (gA p_1 0) 40 (nI i_1) (-1)))) H := cgP xs34 hP
      have hD : va_D A (XW ad cI cJ co fl ra li re wa (sA p_1 0 (wr (gA p_1 0) 40 (nI i_1) (-1)))) := cgD xs34 hD
      refine lv_iinc (v := (nI (i_1 + 1))) (lv' := [(1, .int (nI (i_1 + 1))), (0, .ref (ad 6))]) hx hb dX3_setLayers_35 hl (k := 1) rfl (nI_1 i_1) (by decide) rfl (fun ls hl => ?_)
      refine lv_goto (tgt := 2) hx hb dX3_setLayers_38 (by decide) ?_
      exact ih_1 (sA p_1 0 (wr (gA p_1 0) 40 (nI i_1) (-1))) H locs ls ⟨((show (sA p_1 0 (wr (gA p_1 0) 40 (nI i_1) (-1))) = (slInit wa) i_1 p_1 from (by simp only [slInit, bf_of c_24, gi_sl, gi_sA, gi_sB, gi_si_s, gi_si_n, gl_si, gl_sA, gl_sB, gl_sl_s, gl_sl_n, gA_si, gA_sl, gA_sB, gA_sA_s, gA_sA_n, gB_si, gB_sl, gB_sA, gB_sB_s, gB_sB_n, Nat.reduceBEq, if_true, if_false, eq_self, Bool.false_eq_true, Bool.true_eq_false, not_true_eq_false, not_false_eq_true, decide_true, decide_false, cond_true, cond_false, Bool.true_and, Bool.false_and, Bool.and_true, Bool.and_false, Bool.true_or, Bool.false_or, Bool.or_true, Bool.or_false, b2i_tt, b2i_ff, pr_eta]; done)).trans (lp_go h_1)), hP, hD, hS, lv_sub hl [1, 0] rfl⟩
    · have c_24 : (hs (gl wa 0) (nI i_1)) = true := b2i_1 c_24
      refine lv_iconst (v := 0) hx hb dX3_setLayers_27 (by decide) ?_
      refine lv_goto (tgt := 32) hx hb dX3_setLayers_28 (by decide) ?_
      refine kV (rSN hx hb hml hown hg hN hK hP hD (c_put l D cI cJ (XW ad cI cJ co fl ra li re wa p_1) 34 (ad 34) 40 (gA p_1 0) (nI i_1) 0 (xg34 rfl) (by decide)) mw_92 nw_95 mw_93 mw_77 pd_X7_put ⟨Nat.le_of_ble_eq_true rfl, Nat.le_of_ble_eq_true rfl⟩ rfl hl.1 rfl (Nat.le_of_ble_eq_true rfl) dX3_setLayers_32 ⟨Nat.le_of_ble_eq_true rfl, Nat.le_of_ble_eq_true rfl⟩) hD hS hA (fun u_10 H locs hp hP hD hS => ?_)
      obtain rfl := hp.symm
      have hP : va_P D vwCl (XW ad cI cJ co fl ra li re wa (sA p_1 0 (wr (gA p_1 0) 40 (nI i_1) 0))) H := cgP xs34 hP
      have hD : va_D A (XW ad cI cJ co fl ra li re wa (sA p_1 0 (wr (gA p_1 0) 40 (nI i_1) 0))) := cgD xs34 hD
      refine lv_iinc (v := (nI (i_1 + 1))) (lv' := [(1, .int (nI (i_1 + 1))), (0, .ref (ad 6))]) hx hb dX3_setLayers_35 hl (k := 1) rfl (nI_1 i_1) (by decide) rfl (fun ls hl => ?_)
      refine lv_goto (tgt := 2) hx hb dX3_setLayers_38 (by decide) ?_
      exact ih_1 (sA p_1 0 (wr (gA p_1 0) 40 (nI i_1) 0)) H locs ls ⟨((show (sA p_1 0 (wr (gA p_1 0) 40 (nI i_1) 0)) = (slInit wa) i_1 p_1 from (by simp only [slInit, c_24, gi_sl, gi_sA, gi_sB, gi_si_s, gi_si_n, gl_si, gl_sA, gl_sB, gl_sl_s, gl_sl_n, gA_si, gA_sl, gA_sB, gA_sA_s, gA_sA_n, gB_si, gB_sl, gB_sA, gB_sB_s, gB_sB_n, Nat.reduceBEq, if_true, if_false, eq_self, Bool.false_eq_true, Bool.true_eq_false, not_true_eq_false, not_false_eq_true, decide_true, decide_false, cond_true, cond_false, Bool.true_and, Bool.false_and, Bool.and_true, Bool.and_false, Bool.true_or, Bool.false_or, Bool.or_true, Bool.or_false, b2i_tt, b2i_ff, pr_eta]; done)).trans (lp_go h_1)), hP, hD, hS, lv_sub hl [1, 0] rfl⟩
