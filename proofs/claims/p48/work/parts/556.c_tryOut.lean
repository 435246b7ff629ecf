theorem dX3_tryOut_0 : decode cX3_tryOut 0 = .ok (.aload_n 0, 1) := by decide +kernel
theorem dX3_tryOut_1 : decode cX3_tryOut 1 = .ok (.getfield 59, 3) := by decide +kernel
theorem dX3_tryOut_4 : decode cX3_tryOut 4 = .ok (.istore_n 2, 1) := by decide +kernel
theorem dX3_tryOut_5 : decode cX3_tryOut 5 = .ok (.aload_n 0, 1) := by decide +kernel
theorem dX3_tryOut_6 : decode cX3_tryOut 6 = .ok (.getfield 22, 3) := by decide +kernel
theorem dX3_tryOut_9 : decode cX3_tryOut 9 = .ok (.aload_n 0, 1) := by decide +kernel
theorem dX3_tryOut_10 : decode cX3_tryOut 10 = .ok (.getfield 72, 3) := by decide +kernel
theorem dX3_tryOut_13 : decode cX3_tryOut 13 = .ok (.invokestatic 95, 3) := by decide +kernel
theorem dX3_tryOut_16 : decode cX3_tryOut 16 = .ok (.istore_n 3, 1) := by decide +kernel
theorem dX3_tryOut_17 : decode cX3_tryOut 17 = .ok (.iconst 0, 1) := by decide +kernel
theorem dX3_tryOut_18 : decode cX3_tryOut 18 = .ok (.istore 4, 2) := by decide +kernel
theorem dX3_tryOut_20 : decode cX3_tryOut 20 = .ok (.iload 4, 2) := by decide +kernel
theorem dX3_tryOut_22 : decode cX3_tryOut 22 = .ok (.iload_n 3, 1) := by decide +kernel
theorem dX3_tryOut_23 : decode cX3_tryOut 23 = .ok (.if_icmp .ge 27, 3) := by decide +kernel
theorem dX3_tryOut_26 : decode cX3_tryOut 26 = .ok (.aload_n 0, 1) := by decide +kernel
theorem dX3_tryOut_27 : decode cX3_tryOut 27 = .ok (.getfield 37, 3) := by decide +kernel
theorem dX3_tryOut_30 : decode cX3_tryOut 30 = .ok (.iload 4, 2) := by decide +kernel
theorem dX3_tryOut_32 : decode cX3_tryOut 32 = .ok (.aload_n 0, 1) := by decide +kernel
theorem dX3_tryOut_33 : decode cX3_tryOut 33 = .ok (.getfield 31, 3) := by decide +kernel
theorem dX3_tryOut_36 : decode cX3_tryOut 36 = .ok (.iload 4, 2) := by decide +kernel
theorem dX3_tryOut_38 : decode cX3_tryOut 38 = .ok (.invokestatic 95, 3) := by decide +kernel
theorem dX3_tryOut_41 : decode cX3_tryOut 41 = .ok (.invokestatic 75, 3) := by decide +kernel
theorem dX3_tryOut_44 : decode cX3_tryOut 44 = .ok (.iinc 4 1, 3) := by decide +kernel
theorem dX3_tryOut_47 : decode cX3_tryOut 47 = .ok (.goto (-27), 3) := by decide +kernel
theorem dX3_tryOut_50 : decode cX3_tryOut 50 = .ok (.aload_n 0, 1) := by decide +kernel
theorem dX3_tryOut_51 : decode cX3_tryOut 51 = .ok (.iload_n 1, 1) := by decide +kernel
theorem dX3_tryOut_52 : decode cX3_tryOut 52 = .ok (.invokevirtual 148, 3) := by decide +kernel
theorem dX3_tryOut_55 : decode cX3_tryOut 55 = .ok (.aload_n 0, 1) := by decide +kernel
theorem dX3_tryOut_56 : decode cX3_tryOut 56 = .ok (.invokevirtual 152, 3) := by decide +kernel
theorem dX3_tryOut_59 : decode cX3_tryOut 59 = .ok (.istore 4, 2) := by decide +kernel
theorem dX3_tryOut_61 : decode cX3_tryOut 61 = .ok (.iconst 0, 1) := by decide +kernel
theorem dX3_tryOut_62 : decode cX3_tryOut 62 = .ok (.istore 5, 2) := by decide +kernel
theorem dX3_tryOut_64 : decode cX3_tryOut 64 = .ok (.iload 5, 2) := by decide +kernel
theorem dX3_tryOut_66 : decode cX3_tryOut 66 = .ok (.aload_n 0, 1) := by decide +kernel
theorem dX3_tryOut_67 : decode cX3_tryOut 67 = .ok (.getfield 72, 3) := by decide +kernel
theorem dX3_tryOut_70 : decode cX3_tryOut 70 = .ok (.if_icmp .ge 59, 3) := by decide +kernel
theorem dX3_tryOut_73 : decode cX3_tryOut 73 = .ok (.aload_n 0, 1) := by decide +kernel
theorem dX3_tryOut_74 : decode cX3_tryOut 74 = .ok (.getfield 22, 3) := by decide +kernel
theorem dX3_tryOut_77 : decode cX3_tryOut 77 = .ok (.iload 5, 2) := by decide +kernel
theorem dX3_tryOut_79 : decode cX3_tryOut 79 = .ok (.invokestatic 95, 3) := by decide +kernel
theorem dX3_tryOut_82 : decode cX3_tryOut 82 = .ok (.istore 6, 2) := by decide +kernel
theorem dX3_tryOut_84 : decode cX3_tryOut 84 = .ok (.iload 6, 2) := by decide +kernel
theorem dX3_tryOut_86 : decode cX3_tryOut 86 = .ok (.aload_n 0, 1) := by decide +kernel
theorem dX3_tryOut_87 : decode cX3_tryOut 87 = .ok (.getfield 22, 3) := by decide +kernel
theorem dX3_tryOut_90 : decode cX3_tryOut 90 = .ok (.iload 5, 2) := by decide +kernel
theorem dX3_tryOut_92 : decode cX3_tryOut 92 = .ok (.iconst 1, 1) := by decide +kernel
theorem dX3_tryOut_93 : decode cX3_tryOut 93 = .ok (.iadd, 1) := by decide +kernel
theorem dX3_tryOut_94 : decode cX3_tryOut 94 = .ok (.invokestatic 95, 3) := by decide +kernel
theorem dX3_tryOut_97 : decode cX3_tryOut 97 = .ok (.if_icmp .ge 26, 3) := by decide +kernel
theorem dX3_tryOut_100 : decode cX3_tryOut 100 = .ok (.aload_n 0, 1) := by decide +kernel
theorem dX3_tryOut_101 : decode cX3_tryOut 101 = .ok (.iload 5, 2) := by decide +kernel
theorem dX3_tryOut_103 : decode cX3_tryOut 103 = .ok (.iload 6, 2) := by decide +kernel
theorem dX3_tryOut_105 : decode cX3_tryOut 105 = .ok (.aload_n 0, 1) := by decide +kernel
theorem dX3_tryOut_106 : decode cX3_tryOut 106 = .ok (.getfield 37, 3) := by decide +kernel
theorem dX3_tryOut_109 : decode cX3_tryOut 109 = .ok (.iload 6, 2) := by decide +kernel
theorem dX3_tryOut_111 : decode cX3_tryOut 111 = .ok (.invokestatic 95, 3) := by decide +kernel
theorem dX3_tryOut_114 : decode cX3_tryOut 114 = .ok (.invokevirtual 127, 3) := by decide +kernel
theorem dX3_tryOut_117 : decode cX3_tryOut 117 = .ok (.iinc 6 1, 3) := by decide +kernel
theorem dX3_tryOut_120 : decode cX3_tryOut 120 = .ok (.goto (-36), 3) := by decide +kernel
theorem dX3_tryOut_123 : decode cX3_tryOut 123 = .ok (.iinc 5 1, 3) := by decide +kernel
theorem dX3_tryOut_126 : decode cX3_tryOut 126 = .ok (.goto (-62), 3) := by decide +kernel
theorem dX3_tryOut_129 : decode cX3_tryOut 129 = .ok (.aload_n 0, 1) := by decide +kernel
theorem dX3_tryOut_130 : decode cX3_tryOut 130 = .ok (.iload_n 2, 1) := by decide +kernel
theorem dX3_tryOut_131 : decode cX3_tryOut 131 = .ok (.putfield 59, 3) := by decide +kernel
theorem dX3_tryOut_134 : decode cX3_tryOut 134 = .ok (.iload 4, 2) := by decide +kernel
theorem dX3_tryOut_136 : decode cX3_tryOut 136 = .ok (.ireturn, 1) := by decide +kernel
theorem mw_313 : Cond.code yX3_sweepOften cX3_sweepOften 5 (none : Option FieldType) ∈ GW := gw_mem (inT4 _ (List.mem_of_getElem? (i := 115) rfl)) rfl
theorem mw_314 : Cond.methodLink RX3 148 yX3_sweepOften ∈ GW := gw_mem (inT4 _ (List.mem_of_getElem? (i := 112) rfl)) rfl
theorem mw_315 : Cond.instanceMethod yX3_sweepOften ∈ GW := gw_mem (inT4 _ (List.mem_of_getElem? (i := 113) rfl)) rfl
theorem mw_316 : Cond.selects RX3 yX3_sweepOften yX3_sweepOften ∈ GW := gw_mem (inT4 _ (List.mem_of_getElem? (i := 114) rfl)) rfl
theorem mw_317 : Cond.code yX3_countCrossings cX3_countCrossings 3 (some Jvm.ClassFile.FieldType.int) ∈ GW := gw_mem (inT3 _ (List.mem_of_getElem? (i := 150) rfl)) rfl
theorem mw_318 : Cond.methodLink RX3 152 yX3_countCrossings ∈ GW := gw_mem (inT4 _ (List.mem_of_getElem? (i := 130) rfl)) rfl
theorem mw_319 : Cond.instanceMethod yX3_countCrossings ∈ GW := gw_mem (inT3 _ (List.mem_of_getElem? (i := 148) rfl)) rfl
theorem mw_320 : Cond.selects RX3 yX3_countCrossings yX3_countCrossings ∈ GW := gw_mem (inT3 _ (List.mem_of_getElem? (i := 149) rfl)) rfl
theorem mw_321 : Cond.fieldLink RX3 37 "OrielChart$Picture" "kept" "[I" ∈ GW := gw_mem (inT2 _ (List.mem_of_getElem? (i := 22) rfl)) rfl
theorem pdv_X3_sweepOften : yX3_sweepOften.cls = RX3 ∧ yX3_sweepOften.cls ≠ "java/lang/invoke/MethodHandle" ∧ yX3_sweepOften.cls ≠ "java/lang/invoke/VarHandle" ∧ (parseMethodDescriptor yX3_sweepOften.desc).map (fun d => d.parameters.length) = some 1 := by decide +kernel
theorem pdv_X3_countCrossings : yX3_countCrossings.cls = RX3 ∧ yX3_countCrossings.cls ≠ "java/lang/invoke/MethodHandle" ∧ yX3_countCrossings.cls ≠ "java/lang/invoke/VarHandle" ∧ (parseMethodDescriptor yX3_countCrossings.desc).map (fun d => d.parameters.length) = some 0 := by decide +kernel
set_option maxHeartbeats 4000000 in
set_option maxRecDepth 100000 in
theorem c_tryOut (l : Launch) (D : va_G) (cI cJ : ClassId) (ad : Nat → Nat) (co fl ra li re wa pi : Ob) (k1 : Int32) : CT l D (TY cI cJ) yX3_tryOut (.code yX3_tryOut cX3_tryOut 7 (some Jvm.ClassFile.FieldType.int)) 6 0 0 (XW ad cI cJ co fl ra li re wa pi) [.ref (ad 6), .int k1] (QI D (TY cI cJ) (fun r u => r = (toQ wa pi k1).2 ∧ u = (XW ad cI cJ co fl ra li re wa (tryOut wa pi k1)))) := by
  refine ent (by decide) (Nat.le_of_ble_eq_true rfl) ?_
  intro p e s m below meth c ls A hx hb hr hg hown hml hlocks hnm hP hK hD hS hA hN hl
  have hl : lv_has ls 7 [(0, .ref (ad 6)), (1, .int k1)] := hl
  refine lv_aload_n hx hb dX3_tryOut_0 rfl (lv_at hl 0 rfl) ?_
  refine va_get (D := D) (ci := 3) (v := .int (gi pi 2)) (C := RX3) (T := TX3) (N := 16) hx hb hg inGX3 hown hK hP 6 xo6 rfl 14 (by decide) (hg _ mw_265) (fun _ h9 => h9) (xvX3_14 rfl) dX3_tryOut_1 ?_
  refine lv_istore_n (lv' := [(2, .int (gi pi 2)), (0, .ref (ad 6)), (1, .int k1)]) hx hb dX3_tryOut_4 rfl hl (by decide) rfl (fun ls hl => ?_)
  refine lv_aload_n hx hb dX3_tryOut_5 rfl (lv_at hl 1 rfl) ?_
  refine va_get (D := D) (ci := 3) (v := .ref (ad 35)) (C := RX3) (T := TX3) (N := 16) hx hb hg inGX3 hown hK hP 6 xo6 rfl 2 (by decide) (hg _ mw_256) (fun _ h9 => h9) xvX3_2 dX3_tryOut_6 ?_
  refine lv_aload_n hx hb dX3_tryOut_9 rfl (lv_at hl 1 rfl) ?_
  refine va_get (D := D) (ci := 3) (v := .int (gi pi 1)) (C := RX3) (T := TX3) (N := 16) hx hb hg inGX3 hown hK hP 6 xo6 rfl 13 (by decide) (hg _ mw_235) (fun _ h9 => h9) (xvX3_13 rfl) dX3_tryOut_10 ?_
  refine kI (rSN hx hb hml hown hg hN hK hP hD (c_at l D cI cJ (XW ad cI cJ co fl ra li re wa pi) 35 (ad 35) 41 (gA pi 1) (gi pi 1) (xg35 rfl) (by decide)) mw_84 nw_96 mw_85 mw_77 pd_X7_at ⟨Nat.le_of_ble_eq_true rfl, Nat.le_of_ble_eq_true rfl⟩ rfl hl.1 rfl (Nat.le_of_ble_eq_true rfl) dX3_tryOut_13 ⟨Nat.le_of_ble_eq_true rfl, Nat.le_of_ble_eq_true rfl⟩) hD hS hA (fun r_1 u_1 H locs hp hP hD hS => ?_)
  obtain ⟨er, eu⟩ := hp
  obtain rfl := er.symm
  obtain rfl := eu.symm
  refine lv_istore_n (lv' := [(3, .int (rd (gA pi 1) 41 (gi pi 1))), (2, .int (gi pi 2)), (0, .ref (ad 6)), (1, .int k1)]) hx hb dX3_tryOut_16 rfl hl (by decide) rfl (fun ls hl => ?_)
  refine lv_iconst (v := 0) hx hb dX3_tryOut_17 (by decide) ?_
  refine lv_istore (lv' := [(4, .int 0), (3, .int (rd (gA pi 1) 41 (gi pi 1))), (2, .int (gi pi 2)), (0, .ref (ad 6)), (1, .int k1)]) hx hb dX3_tryOut_18 hl (by decide) rfl (fun ls hl => ?_)
  refine w_loop (σ := Ob) (fun (i_2 : Nat) (p_2 : Ob) (H : Heap) (locs : List Loc) (ls : Array Slot) => p_2 = (lp toKeep i_2 pi) ∧ va_P D vwCl (XW ad cI cJ co fl ra li re wa p_2) H ∧ va_D A (XW ad cI cJ co fl ra li re wa p_2) ∧ va_S A s.heap H locs ∧ lv_has ls 7 [(0, .ref (ad 6)), (1, .int k1), (2, .int (gi pi 2)), (3, .int (rd (gA pi 1) 41 (gi pi 1))), (4, .int (nI i_2))]) (nN (rd (gA pi 1) 41 (gi pi 1))) (fun p_2 H locs ls hI => ?_) (fun i_2 p_2 H locs ls hi_2 hI ih_2 => ?_) 0 pi (Nat.zero_le _) ⟨(lp_0 _ _), hP, hD, hS, (by rw [nI_0]; exact lv_sub hl [3, 4, 2, 1, 0] rfl)⟩
  · obtain ⟨h_2, hP, hD, hS, hl⟩ := hI
    have h_2 := h_2.symm
    subst h_2
    have hP : va_P D vwCl (XW ad cI cJ co fl ra li re wa ((lp toKeep (nN (rd (gA pi 1) 41 (gi pi 1))) pi))) H := hP
    have hD : va_D A (XW ad cI cJ co fl ra li re wa ((lp toKeep (nN (rd (gA pi 1) 41 (gi pi 1))) pi))) := hD
    have hl : lv_has ls 7 [(0, .ref (ad 6)), (1, .int k1), (2, .int (gi pi 2)), (3, .int (rd (gA pi 1) 41 (gi pi 1))), (4, .int (nI ((nN (rd (gA pi 1) 41 (gi pi 1))))))] := hl
    refine lv_iload hx hb dX3_tryOut_20 (lv_at hl 4 rfl) ?_
    refine lv_iload_n hx hb dX3_tryOut_22 rfl (lv_at hl 3 rfl) ?_
    refine lv_icmp_ge (tgt := 50) hx hb dX3_tryOut_23 (by decide) (fun _ => ?_) (fun c_23 => absurd (lp_out _) c_23)
    refine lv_aload_n hx hb dX3_tryOut_50 rfl (lv_at hl 0 rfl) ?_
    refine lv_iload_n hx hb dX3_tryOut_51 rfl (lv_at hl 1 rfl) ?_
    refine kV (rV (q0 := 6) (ci := 3) hx hb hml hown hg hN hK hP hD (c_sweepOften l D cI cJ ad co fl ra li re wa ((lp toKeep (nN (rd (gA pi 1) 41 (gi pi 1))) pi)) k1) mw_313 mw_314 mw_315 mw_316 mw_234 pdv_X3_sweepOften ⟨Nat.le_of_ble_eq_true rfl, Nat.le_of_ble_eq_true rfl⟩ rfl xo6 rfl hl.1 rfl (Nat.le_of_ble_eq_true rfl) dX3_tryOut_52 ⟨Nat.le_of_ble_eq_true rfl, Nat.le_of_ble_eq_true rfl⟩) hD hS hA (fun u_3 H locs hp hP hD hS => ?_)
    obtain rfl := hp.symm
    have hP : va_P D vwCl (XW ad cI cJ co fl ra li re wa (sweepOften wa ((lp toKeep (nN (rd (gA pi 1) 41 (gi pi 1))) pi)) k1)) H := hP
    have hD : va_D A (XW ad cI cJ co fl ra li re wa (sweepOften wa ((lp toKeep (nN (rd (gA pi 1) 41 (gi pi 1))) pi)) k1)) := hD
    refine lv_aload_n hx hb dX3_tryOut_55 rfl (lv_at hl 0 rfl) ?_
    refine kI (rV (q0 := 6) (ci := 3) hx hb hml hown hg hN hK hP hD (c_countCross l D cI cJ ad co fl ra li re wa (sweepOften wa ((lp toKeep (nN (rd (gA pi 1) 41 (gi pi 1))) pi)) k1)) mw_317 mw_318 mw_319 mw_320 mw_234 pdv_X3_countCrossings ⟨Nat.le_of_ble_eq_true rfl, Nat.le_of_ble_eq_true rfl⟩ rfl xo6 rfl hl.1 rfl (Nat.le_of_ble_eq_true rfl) dX3_tryOut_56 ⟨Nat.le_of_ble_eq_true rfl, Nat.le_of_ble_eq_true rfl⟩) hD hS hA (fun r_4 u_4 H locs hp hP hD hS => ?_)
    obtain ⟨er, eu⟩ := hp
    obtain rfl := er.symm
    obtain rfl := eu.symm
    have hP : va_P D vwCl (XW ad cI cJ co fl ra li re wa (countCross wa (sweepOften wa ((lp toKeep (nN (rd (gA pi 1) 41 (gi pi 1))) pi)) k1)).1) H := hP
    have hD : va_D A (XW ad cI cJ co fl ra li re wa (countCross wa (sweepOften wa ((lp toKeep (nN (rd (gA pi 1) 41 (gi pi 1))) pi)) k1)).1) := hD
    refine lv_istore (lv' := [(4, .int (countCross wa (sweepOften wa ((lp toKeep (nN (rd (gA pi 1) 41 (gi pi 1))) pi)) k1)).2), (0, .ref (ad 6)), (1, .int k1), (2, .int (gi pi 2)), (3, .int (rd (gA pi 1) 41 (gi pi 1)))]) hx hb dX3_tryOut_59 hl (by decide) rfl (fun ls hl => ?_)
    refine lv_iconst (v := 0) hx hb dX3_tryOut_61 (by decide) ?_
    refine lv_istore (lv' := [(5, .int 0), (4, .int (countCross wa (sweepOften wa ((lp toKeep (nN (rd (gA pi 1) 41 (gi pi 1))) pi)) k1)).2), (0, .ref (ad 6)), (1, .int k1), (2, .int (gi pi 2)), (3, .int (rd (gA pi 1) 41 (gi pi 1)))]) hx hb dX3_tryOut_62 hl (by decide) rfl (fun ls hl => ?_)
    refine w_loop (σ := Ob) (fun (i_5 : Nat) (p_5 : Ob) (H : Heap) (locs : List Loc) (ls : Array Slot) => p_5 = (lp toL i_5 (countCross wa (sweepOften wa ((lp toKeep (nN (rd (gA pi 1) 41 (gi pi 1))) pi)) k1)).1) ∧ va_P D vwCl (XW ad cI cJ co fl ra li re wa p_5) H ∧ va_D A (XW ad cI cJ co fl ra li re wa p_5) ∧ va_S A s.heap H locs ∧ lv_has ls 7 [(0, .ref (ad 6)), (1, .int k1), (2, .int (gi pi 2)), (3, .int (rd (gA pi 1) 41 (gi pi 1))), (4, .int (countCross wa (sweepOften wa ((lp toKeep (nN (rd (gA pi 1) 41 (gi pi 1))) pi)) k1)).2), (5, .int (nI i_5))]) (nN (gi (countCross wa (sweepOften wa ((lp toKeep (nN (rd (gA pi 1) 41 (gi pi 1))) pi)) k1)).1 1)) (fun p_5 H locs ls hI => ?_) (fun i_5 p_5 H locs ls hi_5 hI ih_5 => ?_) 0 (countCross wa (sweepOften wa ((lp toKeep (nN (rd (gA pi 1) 41 (gi pi 1))) pi)) k1)).1 (Nat.zero_le _) ⟨(lp_0 _ _), hP, hD, hS, (by rw [nI_0]; exact lv_sub hl [2, 3, 4, 5, 1, 0] rfl)⟩
    · obtain ⟨h_5, hP, hD, hS, hl⟩ := hI
      have h_5 := h_5.symm
      subst h_5
      have hP : va_P D vwCl (XW ad cI cJ co fl ra li re wa ((lp toL (nN (gi (countCross wa (sweepOften wa ((lp toKeep (nN (rd (gA pi 1) 41 (gi pi 1))) pi)) k1)).1 1)) (countCross wa (sweepOften wa ((lp toKeep (nN (rd (gA pi 1) 41 (gi pi 1))) pi)) k1)).1))) H := hP
      have hD : va_D A (XW ad cI cJ co fl ra li re wa ((lp toL (nN (gi (countCross wa (sweepOften wa ((lp toKeep (nN (rd (gA pi 1) 41 (gi pi 1))) pi)) k1)).1 1)) (countCross wa (sweepOften wa ((lp toKeep (nN (rd (gA pi 1) 41 (gi pi 1))) pi)) k1)).1))) := hD
      have hl : lv_has ls 7 [(0, .ref (ad 6)), (1, .int k1), (2, .int (gi pi 2)), (3, .int (rd (gA pi 1) 41 (gi pi 1))), (4, .int (countCross wa (sweepOften wa ((lp toKeep (nN (rd (gA pi 1) 41 (gi pi 1))) pi)) k1)).2), (5, .int (nI ((nN (gi (countCross wa (sweepOften wa ((lp toKeep (nN (rd (gA pi 1) 41 (gi pi 1))) pi)) k1)).1 1)))))] := hl
      refine lv_iload hx hb dX3_tryOut_64 (lv_at hl 5 rfl) ?_
      refine lv_aload_n hx hb dX3_tryOut_66 rfl (lv_at hl 0 rfl) ?_
      refine va_get (D := D) (ci := 3) (v := .int (gi ((lp toL (nN (gi (countCross wa (sweepOften wa ((lp toKeep (nN (rd (gA pi 1) 41 (gi pi 1))) pi)) k1)).1 1)) (countCross wa (sweepOften wa ((lp toKeep (nN (rd (gA pi 1) 41 (gi pi 1))) pi)) k1)).1)) 1)) (C := RX3) (T := TX3) (N := 16) hx hb hg inGX3 hown hK hP 6 xo6 rfl 13 (by decide) (hg _ mw_235) (fun _ h9 => h9) (xvX3_13 rfl) dX3_tryOut_67 ?_
      refine lv_icmp_ge (tgt := 129) hx hb dX3_tryOut_70 (by decide) (fun _ => ?_) (fun c_70 => absurd (by rw [k_toLL]; exact lp_out _) c_70)
      refine lv_aload_n hx hb dX3_tryOut_129 rfl (lv_at hl 0 rfl) ?_
      refine lv_iload_n hx hb dX3_tryOut_130 rfl (lv_at hl 2 rfl) ?_
      refine va_put (D := D) (ci := 3) (v := .int (gi pi 2)) (C := RX3) (T := TX3) (N := 16) hx hb hg inGX3 tyX3 tyX3_ok nmX3 hown hK hP hD hS 6 xo6 rfl 14 (by decide) (hg _ mw_265) (fun _ h9 => h9) rfl (tyX3_ok 14 (by decide)) rfl rfl (Nat.le_of_ble_eq_true rfl) dX3_tryOut_131 (fun H locs hP hD hS => ?_)
      have hP : va_P D vwCl (XW ad cI cJ co fl ra li re wa (si ((lp toL (nN (gi (countCross wa (sweepOften wa ((lp toKeep (nN (rd (gA pi 1) 41 (gi pi 1))) pi)) k1)).1 1)) (countCross wa (sweepOften wa ((lp toKeep (nN (rd (gA pi 1) 41 (gi pi 1))) pi)) k1)).1)) 2 (gi pi 2))) H := cgP xpX3_14 hP
      have hD : va_D A (XW ad cI cJ co fl ra li re wa (si ((lp toL (nN (gi (countCross wa (sweepOften wa ((lp toKeep (nN (rd (gA pi 1) 41 (gi pi 1))) pi)) k1)).1 1)) (countCross wa (sweepOften wa ((lp toKeep (nN (rd (gA pi 1) 41 (gi pi 1))) pi)) k1)).1)) 2 (gi pi 2))) := cgD xpX3_14 hD
      refine lv_iload hx hb dX3_tryOut_134 (lv_at hl 4 rfl) ?_
      exact W.iret (v := (countCross wa (sweepOften wa ((lp toKeep (nN (rd (gA pi 1) 41 (gi pi 1))) pi)) k1)).2) hx hb hr (fun t ht hW => ⟨⟨(countCross wa (sweepOften wa ((lp toKeep (nN (rd (gA pi 1) 41 (gi pi 1))) pi)) k1)).2, (XW ad cI cJ co fl ra li re wa (si ((lp toL (nN (gi (countCross wa (sweepOften wa ((lp toKeep (nN (rd (gA pi 1) 41 (gi pi 1))) pi)) k1)).1 1)) (countCross wa (sweepOften wa ((lp toKeep (nN (rd (gA pi 1) 41 (gi pi 1))) pi)) k1)).1)) 2 (gi pi 2))), rfl, ⟨(show ((countCross wa (sweepOften wa ((lp toKeep (nN (rd (gA pi 1) 41 (gi pi 1))) pi)) k1)).2 : Int32) = (toQ wa pi k1).2 from (by first | with_reducible rfl | (simp only [tryOut, toQ, toAll, gi_sl, gi_sA, gi_sB, gi_si_s, gi_si_n, gl_si, gl_sA, gl_sB, gl_sl_s, gl_sl_n, gA_si, gA_sl, gA_sB, gA_sA_s, gA_sA_n, gB_si, gB_sl, gB_sA, gB_sB_s, gB_sB_n, Nat.reduceBEq, if_true, if_false, eq_self, Bool.false_eq_true, Bool.true_eq_false, not_true_eq_false, not_false_eq_true, decide_true, decide_false, cond_true, cond_false, Bool.true_and, Bool.false_and, Bool.and_true, Bool.and_false, Bool.true_or, Bool.false_or, Bool.or_true, Bool.or_false, b2i_tt, b2i_ff, pr_eta]; done))), xw_eq rfl rfl rfl rfl rfl rfl (show (si ((lp toL (nN (gi (countCross wa (sweepOften wa ((lp toKeep (nN (rd (gA pi 1) 41 (gi pi 1))) pi)) k1)).1 1)) (countCross wa (sweepOften wa ((lp toKeep (nN (rd (gA pi 1) 41 (gi pi 1))) pi)) k1)).1)) 2 (gi pi 2)) = (tryOut wa pi k1) from (by first | with_reducible rfl | (simp only [tryOut, toQ, toAll, gi_sl, gi_sA, gi_sB, gi_si_s, gi_si_n, gl_si, gl_sA, gl_sB, gl_sl_s, gl_sl_n, gA_si, gA_sl, gA_sB, gA_sA_s, gA_sA_n, gB_si, gB_sl, gB_sA, gB_sB_s, gB_sB_n, Nat.reduceBEq, if_true, if_false, eq_self, Bool.false_eq_true, Bool.true_eq_false, not_true_eq_false, not_false_eq_true, decide_true, decide_false, cond_true, cond_false, Bool.true_and, Bool.false_and, Bool.and_true, Bool.and_false, Bool.true_or, Bool.false_or, Bool.or_true, Bool.or_false, b2i_tt, b2i_ff, pr_eta]; done)))⟩, ⟨by rw [ht]; exact hP, va_K.moved hW.alike hK, hD⟩⟩, hS.F ht⟩) hS.2.2 dX3_tryOut_136
    · obtain ⟨h_5, hP, hD, hS, hl⟩ := hI
      have hP : va_P D vwCl (XW ad cI cJ co fl ra li re wa p_5) H := hP
      have hD : va_D A (XW ad cI cJ co fl ra li re wa p_5) := hD
      have hl : lv_has ls 7 [(0, .ref (ad 6)), (1, .int k1), (2, .int (gi pi 2)), (3, .int (rd (gA pi 1) 41 (gi pi 1))), (4, .int (countCross wa (sweepOften wa ((lp toKeep (nN (rd (gA pi 1) 41 (gi pi 1))) pi)) k1)).2), (5, .int (nI i_5))] := hl
      refine lv_iload hx hb dX3_tryOut_64 (lv_at hl 5 rfl) ?_
      refine lv_aload_n hx hb dX3_tryOut_66 rfl (lv_at hl 0 rfl) ?_
      refine va_get (D := D) (ci := 3) (v := .int (gi p_5 1)) (C := RX3) (T := TX3) (N := 16) hx hb hg inGX3 hown hK hP 6 xo6 rfl 13 (by decide) (hg _ mw_235) (fun _ h9 => h9) (xvX3_13 rfl) dX3_tryOut_67 ?_
      refine lv_icmp_ge (tgt := 129) hx hb dX3_tryOut_70 (by decide) (fun c_70 => absurd c_70 (by rw [h_5, k_toLL]; exact lp_in hi_5)) (fun _ => ?_)
      refine lv_aload_n hx hb dX3_tryOut_73 rfl (lv_at hl 0 rfl) ?_
      refine va_get (D := D) (ci := 3) (v := .ref (ad 35)) (C := RX3) (T := TX3) (N := 16) hx hb hg inGX3 hown hK hP 6 xo6 rfl 2 (by decide) (hg _ mw_256) (fun _ h9 => h9) xvX3_2 dX3_tryOut_74 ?_
      refine lv_iload hx hb dX3_tryOut_77 (lv_at hl 5 rfl) ?_
      refine kI (rSN hx hb hml hown hg hN hK hP hD (c_at l D cI cJ (XW ad cI cJ co fl ra li re wa p_5) 35 (ad 35) 41 (gA p_5 1) (nI i_5) (xg35 rfl) (by decide)) mw_84 nw_96 mw_85 mw_77 pd_X7_at ⟨Nat.le_of_ble_eq_true rfl, Nat.le_of_ble_eq_true rfl⟩ rfl hl.1 rfl (Nat.le_of_ble_eq_true rfl) dX3_tryOut_79 ⟨Nat.le_of_ble_eq_true rfl, Nat.le_of_ble_eq_true rfl⟩) hD hS hA (fun r_6 u_6 H locs hp hP hD hS => ?_)
      obtain ⟨er, eu⟩ := hp
      obtain rfl := er.symm
      obtain rfl := eu.symm
      refine lv_istore (lv' := [(6, .int (rd (gA p_5 1) 41 (nI i_5))), (0, .ref (ad 6)), (1, .int k1), (2, .int (gi pi 2)), (3, .int (rd (gA pi 1) 41 (gi pi 1))), (4, .int (countCross wa (sweepOften wa ((lp toKeep (nN (rd (gA pi 1) 41 (gi pi 1))) pi)) k1)).2), (5, .int (nI i_5))]) hx hb dX3_tryOut_82 hl (by decide) rfl (fun ls hl => ?_)
      refine w_loop (σ := Ob) (fun (i_7 : Nat) (p_7 : Ob) (H : Heap) (locs : List Loc) (ls : Array Slot) => p_7 = (lp (toB (nI i_5) (rd (gA p_5 1) 41 (nI i_5))) i_7 p_5) ∧ va_P D vwCl (XW ad cI cJ co fl ra li re wa p_7) H ∧ va_D A (XW ad cI cJ co fl ra li re wa p_7) ∧ va_S A s.heap H locs ∧ lv_has ls 7 [(0, .ref (ad 6)), (1, .int k1), (2, .int (gi pi 2)), (3, .int (rd (gA pi 1) 41 (gi pi 1))), (4, .int (countCross wa (sweepOften wa ((lp toKeep (nN (rd (gA pi 1) 41 (gi pi 1))) pi)) k1)).2), (5, .int (nI i_5)), (6, .int ((rd (gA p_5 1) 41 (nI i_5)) + nI i_7))]) (((rd (gA p_5 1) 41 ((nI i_5) + 1)).toInt - (rd (gA p_5 1) 41 (nI i_5)).toInt).toNat) (fun p_7 H locs ls hI => ?_) (fun i_7 p_7 H locs ls hi_7 hI ih_7 => ?_) 0 p_5 (Nat.zero_le _) ⟨(lp_0 _ _), hP, hD, hS, (by rw [add_nI0]; exact lv_sub hl [1, 2, 3, 4, 5, 6, 0] rfl)⟩
      · obtain ⟨h_7, hP, hD, hS, hl⟩ := hI
        have h_7 := h_7.symm
        subst h_7
        have hP : va_P D vwCl (XW ad cI cJ co fl ra li re wa ((lp (toB (nI i_5) (rd (gA p_5 1) 41 (nI i_5))) (((rd (gA p_5 1) 41 ((nI i_5) + 1)).toInt - (rd (gA p_5 1) 41 (nI i_5)).toInt).toNat) p_5))) H := hP
        have hD : va_D A (XW ad cI cJ co fl ra li re wa ((lp (toB (nI i_5) (rd (gA p_5 1) 41 (nI i_5))) (((rd (gA p_5 1) 41 ((nI i_5) + 1)).toInt - (rd (gA p_5 1) 41 (nI i_5)).toInt).toNat) p_5))) := hD
        have hl : lv_has ls 7 [(0, .ref (ad 6)), (1, .int k1), (2, .int (gi pi 2)), (3, .int (rd (gA pi 1) 41 (gi pi 1))), (4, .int (countCross wa (sweepOften wa ((lp toKeep (nN (rd (gA pi 1) 41 (gi pi 1))) pi)) k1)).2), (5, .int (nI i_5)), (6, .int ((rd (gA p_5 1) 41 (nI i_5)) + nI ((((rd (gA p_5 1) 41 ((nI i_5) + 1)).toInt - (rd (gA p_5 1) 41 (nI i_5)).toInt).toNat))))] := hl
        refine lv_iload hx hb dX3_tryOut_84 (lv_at hl 6 rfl) ?_
        refine lv_aload_n hx hb dX3_tryOut_86 rfl (lv_at hl 0 rfl) ?_
        refine va_get (D := D) (ci := 3) (v := .ref (ad 35)) (C := RX3) (T := TX3) (N := 16) hx hb hg inGX3 hown hK hP 6 xo6 rfl 2 (by decide) (hg _ mw_256) (fun _ h9 => h9) xvX3_2 dX3_tryOut_87 ?_
        refine lv_iload hx hb dX3_tryOut_90 (lv_at hl 5 rfl) ?_
        refine lv_iconst (v := 1) hx hb dX3_tryOut_92 (by decide) ?_
        refine lv_iadd hx hb dX3_tryOut_93 ?_
        refine kI (rSN hx hb hml hown hg hN hK hP hD (c_at l D cI cJ (XW ad cI cJ co fl ra li re wa ((lp (toB (nI i_5) (rd (gA p_5 1) 41 (nI i_5))) (((rd (gA p_5 1) 41 ((nI i_5) + 1)).toInt - (rd (gA p_5 1) 41 (nI i_5)).toInt).toNat) p_5))) 35 (ad 35) 41 (gA ((lp (toB (nI i_5) (rd (gA p_5 1) 41 (nI i_5))) (((rd (gA p_5 1) 41 ((nI i_5) + 1)).toInt - (rd (gA p_5 1) 41 (nI i_5)).toInt).toNat) p_5)) 1) ((nI i_5) + 1) (xg35 rfl) (by decide)) mw_84 nw_96 mw_85 mw_77 pd_X7_at ⟨Nat.le_of_ble_eq_true rfl, Nat.le_of_ble_eq_true rfl⟩ rfl hl.1 rfl (Nat.le_of_ble_eq_true rfl) dX3_tryOut_94 ⟨Nat.le_of_ble_eq_true rfl, Nat.le_of_ble_eq_true rfl⟩) hD hS hA (fun r_8 u_8 H locs hp hP hD hS => ?_)
        obtain ⟨er, eu⟩ := hp
        obtain rfl := er.symm
        obtain rfl := eu.symm
        refine lv_icmp_ge (tgt := 123) hx hb dX3_tryOut_97 (by decide) (fun _ => ?_) (fun c_97 => absurd (by rw [a_toBL]; exact to_out _ _) c_97)
        refine lv_iinc (v := (nI (i_5 + 1))) (lv' := [(5, .int (nI (i_5 + 1))), (0, .ref (ad 6)), (1, .int k1), (2, .int (gi pi 2)), (3, .int (rd (gA pi 1) 41 (gi pi 1))), (4, .int (countCross wa (sweepOften wa ((lp toKeep (nN (rd (gA pi 1) 41 (gi pi 1))) pi)) k1)).2), (6, .int ((rd (gA p_5 1) 41 (nI i_5)) + nI ((((rd (gA p_5 1) 41 ((nI i_5) + 1)).toInt - (rd (gA p_5 1) 41 (nI i_5)).toInt).toNat))))]) hx hb dX3_tryOut_123 hl (k := 5) rfl (nI_1 i_5) (by decide) rfl (fun ls hl => ?_)
        refine lv_goto (tgt := 64) hx hb dX3_tryOut_126 (by decide) ?_
        exact ih_5 ((lp (toB (nI i_5) (rd (gA p_5 1) 41 (nI i_5))) (((rd (gA p_5 1) 41 ((nI i_5) + 1)).toInt - (rd (gA p_5 1) 41 (nI i_5)).toInt).toNat) p_5)) H locs ls ⟨((show ((lp (toB (nI i_5) (rd (gA p_5 1) 41 (nI i_5))) (((rd (gA p_5 1) 41 ((nI i_5) + 1)).toInt - (rd (gA p_5 1) 41 (nI i_5)).toInt).toNat) p_5)) = toL i_5 p_5 from (by first | with_reducible rfl | (simp only [toL, add_nI0, gi_sl, gi_sA, gi_sB, gi_si_s, gi_si_n, gl_si, gl_sA, gl_sB, gl_sl_s, gl_sl_n, gA_si, gA_sl, gA_sB, gA_sA_s, gA_sA_n, gB_si, gB_sl, gB_sA, gB_sB_s, gB_sB_n, Nat.reduceBEq, if_true, if_false, eq_self, Bool.false_eq_true, Bool.true_eq_false, not_true_eq_false, not_false_eq_true, decide_true, decide_false, cond_true, cond_false, Bool.true_and, Bool.false_and, Bool.and_true, Bool.and_false, Bool.true_or, Bool.false_or, Bool.or_true, Bool.or_false, b2i_tt, b2i_ff, pr_eta]; done))).trans (lp_go h_5)), hP, hD, hS, lv_sub hl [1, 2, 3, 4, 5, 0] rfl⟩
      · obtain ⟨h_7, hP, hD, hS, hl⟩ := hI
        have hP : va_P D vwCl (XW ad cI cJ co fl ra li re wa p_7) H := hP
        have hD : va_D A (XW ad cI cJ co fl ra li re wa p_7) := hD
        have hl : lv_has ls 7 [(0, .ref (ad 6)), (1, .int k1), (2, .int (gi pi 2)), (3, .int (rd (gA pi 1) 41 (gi pi 1))), (4, .int (countCross wa (sweepOften wa ((lp toKeep (nN (rd (gA pi 1) 41 (gi pi 1))) pi)) k1)).2), (5, .int (nI i_5)), (6, .int ((rd (gA p_5 1) 41 (nI i_5)) + nI i_7))] := hl
        refine lv_iload hx hb dX3_tryOut_84 (lv_at hl 6 rfl) ?_
        refine lv_aload_n hx hb dX3_tryOut_86 rfl (lv_at hl 0 rfl) ?_
        refine va_get (D := D) (ci := 3) (v := .ref (ad 35)) (C := RX3) (T := TX3) (N := 16) hx hb hg inGX3 hown hK hP 6 xo6 rfl 2 (by decide) (hg _ mw_256) (fun _ h9 => h9) xvX3_2 dX3_tryOut_87 ?_
        refine lv_iload hx hb dX3_tryOut_90 (lv_at hl 5 rfl) ?_
        refine lv_iconst (v := 1) hx hb dX3_tryOut_92 (by decide) ?_
        refine lv_iadd hx hb dX3_tryOut_93 ?_
        refine kI (rSN hx hb hml hown hg hN hK hP hD (c_at l D cI cJ (XW ad cI cJ co fl ra li re wa p_7) 35 (ad 35) 41 (gA p_7 1) ((nI i_5) + 1) (xg35 rfl) (by decide)) mw_84 nw_96 mw_85 mw_77 pd_X7_at ⟨Nat.le_of_ble_eq_true rfl, Nat.le_of_ble_eq_true rfl⟩ rfl hl.1 rfl (Nat.le_of_ble_eq_true rfl) dX3_tryOut_94 ⟨Nat.le_of_ble_eq_true rfl, Nat.le_of_ble_eq_true rfl⟩) hD hS hA (fun r_9 u_9 H locs hp hP hD hS => ?_)
        obtain ⟨er, eu⟩ := hp
        obtain rfl := er.symm
        obtain rfl := eu.symm
        refine lv_icmp_ge (tgt := 123) hx hb dX3_tryOut_97 (by decide) (fun c_97 => absurd c_97 (by rw [h_7, a_toBL]; exact to_in hi_7)) (fun _ => ?_)
        refine lv_aload_n hx hb dX3_tryOut_100 rfl (lv_at hl 0 rfl) ?_
        refine lv_iload hx hb dX3_tryOut_101 (lv_at hl 5 rfl) ?_
        refine lv_iload hx hb dX3_tryOut_103 (lv_at hl 6 rfl) ?_
        refine lv_aload_n hx hb dX3_tryOut_105 rfl (lv_at hl 0 rfl) ?_
        refine va_get (D := D) (ci := 3) (v := .ref (ad 40)) (C := RX3) (T := TX3) (N := 16) hx hb hg inGX3 hown hK hP 6 xo6 rfl 7 (by decide) (hg _ mw_321) (fun _ h9 => h9) xvX3_7 dX3_tryOut_106 ?_
        refine lv_iload hx hb dX3_tryOut_109 (lv_at hl 6 rfl) ?_
        refine kI (rSN hx hb hml hown hg hN hK hP hD (c_at l D cI cJ (XW ad cI cJ co fl ra li re wa p_7) 40 (ad 40) 1600 (gA p_7 6) ((rd (gA p_5 1) 41 (nI i_5)) + nI i_7) (xg40 rfl) (by decide)) mw_84 nw_96 mw_85 mw_77 pd_X7_at ⟨Nat.le_of_ble_eq_true rfl, Nat.le_of_ble_eq_true rfl⟩ rfl hl.1 rfl (Nat.le_of_ble_eq_true rfl) dX3_tryOut_111 ⟨Nat.le_of_ble_eq_true rfl, Nat.le_of_ble_eq_true rfl⟩) hD hS hA (fun r_10 u_10 H locs hp hP hD hS => ?_)
        obtain ⟨er, eu⟩ := hp
        obtain rfl := er.symm
        obtain rfl := eu.symm
        refine kV (rV (q0 := 6) (ci := 3) hx hb hml hown hg hN hK hP hD (c_putPoint l D cI cJ ad co fl ra li re wa p_7 (nI i_5) ((rd (gA p_5 1) 41 (nI i_5)) + nI i_7) (rd (gA p_7 6) 1600 ((rd (gA p_5 1) 41 (nI i_5)) + nI i_7))) mw_261 mw_262 mw_263 mw_264 mw_234 pdv_X3_putPoint ⟨Nat.le_of_ble_eq_true rfl, Nat.le_of_ble_eq_true rfl⟩ rfl xo6 rfl hl.1 rfl (Nat.le_of_ble_eq_true rfl) dX3_tryOut_114 ⟨Nat.le_of_ble_eq_true rfl, Nat.le_of_ble_eq_true rfl⟩) hD hS hA (fun u_11 H locs hp hP hD hS => ?_)
        obtain rfl := hp.symm
        have hP : va_P D vwCl (XW ad cI cJ co fl ra li re wa (putPoint p_7 (nI i_5) ((rd (gA p_5 1) 41 (nI i_5)) + nI i_7) (rd (gA p_7 6) 1600 ((rd (gA p_5 1) 41 (nI i_5)) + nI i_7)))) H := hP
        have hD : va_D A (XW ad cI cJ co fl ra li re wa (putPoint p_7 (nI i_5) ((rd (gA p_5 1) 41 (nI i_5)) + nI i_7) (rd (gA p_7 6) 1600 ((rd (gA p_5 1) 41 (nI i_5)) + nI i_7)))) := hD
        refine lv_iinc (v := ((rd (gA p_5 1) 41 (nI i_5)) + nI (i_7 + 1))) (lv' := [(6, .int ((rd (gA p_5 1) 41 (nI i_5)) + nI (i_7 + 1))), (0, .ref (ad 6)), (1, .int k1), (2, .int (gi pi 2)), (3, .int (rd (gA pi 1) 41 (gi pi 1))), (4, .int (countCross wa (sweepOften wa ((lp toKeep (nN (rd (gA pi 1) 41 (gi pi 1))) pi)) k1)).2), (5, .int (nI i_5))]) hx hb dX3_tryOut_117 hl (k := 6) rfl (add_nI1 _ i_7) (by decide) rfl (fun ls hl => ?_)
        refine lv_goto (tgt := 84) hx hb dX3_tryOut_120 (by decide) ?_
        exact ih_7 (putPoint p_7 (nI i_5) ((rd (gA p_5 1) 41 (nI i_5)) + nI i_7) (rd (gA p_7 6) 1600 ((rd (gA p_5 1) 41 (nI i_5)) + nI i_7))) H locs ls ⟨((show (putPoint p_7 (nI i_5) ((rd (gA p_5 1) 41 (nI i_5)) + nI i_7) (rd (gA p_7 6) 1600 ((rd (gA p_5 1) 41 (nI i_5)) + nI i_7))) = (toB (nI i_5) (rd (gA p_5 1) 41 (nI i_5))) i_7 p_7 from (by first | with_reducible rfl | (simp only [toB, gi_sl, gi_sA, gi_sB, gi_si_s, gi_si_n, gl_si, gl_sA, gl_sB, gl_sl_s, gl_sl_n, gA_si, gA_sl, gA_sB, gA_sA_s, gA_sA_n, gB_si, gB_sl, gB_sA, gB_sB_s, gB_sB_n, Nat.reduceBEq, if_true, if_false, eq_self, Bool.false_eq_true, Bool.true_eq_false, not_true_eq_false, not_false_eq_true, decide_true, decide_false, cond_true, cond_false, Bool.true_and, Bool.false_and, Bool.and_true, Bool.and_false, Bool.true_or, Bool.false_or, Bool.or_true, Bool.or_false, b2i_tt, b2i_ff, pr_eta]; done))).trans (lp_go h_7)), hP, hD, hS, lv_sub hl [1, 2, 3, 4, 5, 6, 0] rfl⟩
  · obtain ⟨h_2, hP, hD, hS, hl⟩ := hI
    have hP : va_P D vwCl (XW ad cI cJ co fl ra li re wa p_2) H := hP
    have hD : va_D A (XW ad cI cJ co fl ra li re wa p_2) := hD
    have hl : lv_has ls 7 [(0, .ref (ad 6)), (1, .int k1), (2, .int (gi pi 2)), (3, .int (rd (gA pi 1) 41 (gi pi 1))), (4, .int (nI i_2))] := hl
    refine lv_iload hx hb dX3_tryOut_20 (lv_at hl 4 rfl) ?_
    refine lv_iload_n hx hb dX3_tryOut_22 rfl (lv_at hl 3 rfl) ?_
    refine lv_icmp_ge (tgt := 50) hx hb dX3_tryOut_23 (by decide) (fun c_23 => absurd c_23 (lp_in hi_2)) (fun _ => ?_)
    refine lv_aload_n hx hb dX3_tryOut_26 rfl (lv_at hl 0 rfl) ?_
    refine va_get (D := D) (ci := 3) (v := .ref (ad 40)) (C := RX3) (T := TX3) (N := 16) hx hb hg inGX3 hown hK hP 6 xo6 rfl 7 (by decide) (hg _ mw_321) (fun _ h9 => h9) xvX3_7 dX3_tryOut_27 ?_
    refine lv_iload hx hb dX3_tryOut_30 (lv_at hl 4 rfl) ?_
    refine lv_aload_n hx hb dX3_tryOut_32 rfl (lv_at hl 0 rfl) ?_
    refine va_get (D := D) (ci := 3) (v := .ref (ad 38)) (C := RX3) (T := TX3) (N := 16) hx hb hg inGX3 hown hK hP 6 xo6 rfl 5 (by decide) (hg _ mw_254) (fun _ h9 => h9) xvX3_5 dX3_tryOut_33 ?_
    refine lv_iload hx hb dX3_tryOut_36 (lv_at hl 4 rfl) ?_
    refine kI (rSN hx hb hml hown hg hN hK hP hD (c_at l D cI cJ (XW ad cI cJ co fl ra li re wa p_2) 38 (ad 38) 1600 (gA p_2 4) (nI i_2) (xg38 rfl) (by decide)) mw_84 nw_96 mw_85 mw_77 pd_X7_at ⟨Nat.le_of_ble_eq_true rfl, Nat.le_of_ble_eq_true rfl⟩ rfl hl.1 rfl (Nat.le_of_ble_eq_true rfl) dX3_tryOut_38 ⟨Nat.le_of_ble_eq_true rfl, Nat.le_of_ble_eq_true rfl⟩) hD hS hA (fun r_12 u_12 H locs hp hP hD hS => ?_)
    obtain ⟨er, eu⟩ := hp
    obtain rfl := er.symm
    obtain rfl := eu.symm
    refine kV (rSN hx hb hml hown hg hN hK hP hD (c_put l D cI cJ (XW ad cI cJ co fl ra li re wa p_2) 40 (ad 40) 1600 (gA p_2 6) (nI i_2) (rd (gA p_2 4) 1600 (nI i_2)) (xg40 rfl) (by decide)) mw_92 nw_95 mw_93 mw_77 pd_X7_put ⟨Nat.le_of_ble_eq_true rfl, Nat.le_of_ble_eq_true rfl⟩ rfl hl.1 rfl (Nat.le_of_ble_eq_true rfl) dX3_tryOut_41 ⟨Nat.le_of_ble_eq_true rfl, Nat.le_of_ble_eq_true rfl⟩) hD hS hA (fun u_13 H locs hp hP hD hS => ?_)
    obtain rfl := hp.symm
    have hP : va_P D vwCl (XW ad cI cJ co fl ra li re wa (sA p_2 6 (wr (gA p_2 6) 1600 (nI i_2) (rd (gA p_2 4) 1600 (nI i_2))))) H := cgP xs40 hP
    have hD : va_D A (XW ad cI cJ co fl ra li re wa (sA p_2 6 (wr (gA p_2 6) 1600 (nI i_2) (rd (gA p_2 4) 1600 (nI i_2))))) := cgD xs40 hD
    refine lv_iinc (v := (nI (i_2 + 1))) (lv' := [(4, .int (nI (i_2 + 1))), (0, .ref (ad 6)), (1, .int k1), (2, .int (gi pi 2)), (3, .int (rd (gA pi 1) 41 (gi pi 1)))]) hx hb dX3_tryOut_44 hl (k := 4) rfl (nI_1 i_2) (by decide) rfl (fun ls hl => ?_)
    refine lv_goto (tgt := 20) hx hb dX3_tryOut_47 (by decide) ?_
    exact ih_2 (sA p_2 6 (wr (gA p_2 6) 1600 (nI i_2) (rd (gA p_2 4) 1600 (nI i_2)))) H locs ls ⟨((show (sA p_2 6 (wr (gA p_2 6) 1600 (nI i_2) (rd (gA p_2 4) 1600 (nI i_2)))) = toKeep i_2 p_2 from (by first | with_reducible rfl | (simp only [toKeep, gi_sl, gi_sA, gi_sB, gi_si_s, gi_si_n, gl_si, gl_sA, gl_sB, gl_sl_s, gl_sl_n, gA_si, gA_sl, gA_sB, gA_sA_s, gA_sA_n, gB_si, gB_sl, gB_sA, gB_sB_s, gB_sB_n, Nat.reduceBEq, if_true, if_false, eq_self, Bool.false_eq_true, Bool.true_eq_false, not_true_eq_false, not_false_eq_true, decide_true, decide_false, cond_true, cond_false, Bool.true_and, Bool.false_and, Bool.and_true, Bool.and_false, Bool.true_or, Bool.false_or, Bool.or_true, Bool.or_false, b2i_tt, b2i_ff, pr_eta]; done))).trans (lp_go h_2)), hP, hD, hS, lv_sub hl [1, 2, 3, 4, 0] rfl⟩
