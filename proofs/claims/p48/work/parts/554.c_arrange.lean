theorem dX3_arrange_0 : decode cX3_arrange 0 = .ok (.aload_n 0, 1) := by decide +kernel
theorem dX3_arrange_1 : decode cX3_arrange 1 = .ok (.getfield 22, 3) := by decide +kernel
theorem dX3_arrange_4 : decode cX3_arrange 4 = .ok (.iload_n 1, 1) := by decide +kernel
theorem dX3_arrange_5 : decode cX3_arrange 5 = .ok (.invokestatic 95, 3) := by decide +kernel
theorem dX3_arrange_8 : decode cX3_arrange 8 = .ok (.istore_n 3, 1) := by decide +kernel
theorem dX3_arrange_9 : decode cX3_arrange 9 = .ok (.aload_n 0, 1) := by decide +kernel
theorem dX3_arrange_10 : decode cX3_arrange 10 = .ok (.iload_n 1, 1) := by decide +kernel
theorem dX3_arrange_11 : decode cX3_arrange 11 = .ok (.invokevirtual 156, 3) := by decide +kernel
theorem dX3_arrange_14 : decode cX3_arrange 14 = .ok (.istore 4, 2) := by decide +kernel
theorem dX3_arrange_16 : decode cX3_arrange 16 = .ok (.aload_n 0, 1) := by decide +kernel
theorem dX3_arrange_17 : decode cX3_arrange 17 = .ok (.iload_n 1, 1) := by decide +kernel
theorem dX3_arrange_18 : decode cX3_arrange 18 = .ok (.iload_n 2, 1) := by decide +kernel
theorem dX3_arrange_19 : decode cX3_arrange 19 = .ok (.iload 4, 2) := by decide +kernel
theorem dX3_arrange_21 : decode cX3_arrange 21 = .ok (.invokevirtual 159, 3) := by decide +kernel
theorem dX3_arrange_24 : decode cX3_arrange 24 = .ok (.iconst 1, 1) := by decide +kernel
theorem dX3_arrange_25 : decode cX3_arrange 25 = .ok (.istore 5, 2) := by decide +kernel
theorem dX3_arrange_27 : decode cX3_arrange 27 = .ok (.iload 5, 2) := by decide +kernel
theorem dX3_arrange_29 : decode cX3_arrange 29 = .ok (.iload 4, 2) := by decide +kernel
theorem dX3_arrange_31 : decode cX3_arrange 31 = .ok (.if_icmp .ge 96, 3) := by decide +kernel
theorem dX3_arrange_34 : decode cX3_arrange 34 = .ok (.aload_n 0, 1) := by decide +kernel
theorem dX3_arrange_35 : decode cX3_arrange 35 = .ok (.getfield 31, 3) := by decide +kernel
theorem dX3_arrange_38 : decode cX3_arrange 38 = .ok (.iload_n 3, 1) := by decide +kernel
theorem dX3_arrange_39 : decode cX3_arrange 39 = .ok (.iload 5, 2) := by decide +kernel
theorem dX3_arrange_41 : decode cX3_arrange 41 = .ok (.iadd, 1) := by decide +kernel
theorem dX3_arrange_42 : decode cX3_arrange 42 = .ok (.invokestatic 95, 3) := by decide +kernel
theorem dX3_arrange_45 : decode cX3_arrange 45 = .ok (.istore 6, 2) := by decide +kernel
theorem dX3_arrange_47 : decode cX3_arrange 47 = .ok (.iload 5, 2) := by decide +kernel
theorem dX3_arrange_49 : decode cX3_arrange 49 = .ok (.istore 7, 2) := by decide +kernel
theorem dX3_arrange_51 : decode cX3_arrange 51 = .ok (.iload 7, 2) := by decide +kernel
theorem dX3_arrange_53 : decode cX3_arrange 53 = .ok (.ifCond .le 55, 3) := by decide +kernel
theorem dX3_arrange_56 : decode cX3_arrange 56 = .ok (.aload_n 0, 1) := by decide +kernel
theorem dX3_arrange_57 : decode cX3_arrange 57 = .ok (.iload 6, 2) := by decide +kernel
theorem dX3_arrange_59 : decode cX3_arrange 59 = .ok (.aload_n 0, 1) := by decide +kernel
theorem dX3_arrange_60 : decode cX3_arrange 60 = .ok (.getfield 31, 3) := by decide +kernel
theorem dX3_arrange_63 : decode cX3_arrange 63 = .ok (.iload_n 3, 1) := by decide +kernel
theorem dX3_arrange_64 : decode cX3_arrange 64 = .ok (.iload 7, 2) := by decide +kernel
theorem dX3_arrange_66 : decode cX3_arrange 66 = .ok (.iadd, 1) := by decide +kernel
theorem dX3_arrange_67 : decode cX3_arrange 67 = .ok (.iconst 1, 1) := by decide +kernel
theorem dX3_arrange_68 : decode cX3_arrange 68 = .ok (.isub, 1) := by decide +kernel
theorem dX3_arrange_69 : decode cX3_arrange 69 = .ok (.invokestatic 95, 3) := by decide +kernel
theorem dX3_arrange_72 : decode cX3_arrange 72 = .ok (.invokevirtual 162, 3) := by decide +kernel
theorem dX3_arrange_75 : decode cX3_arrange 75 = .ok (.ifCond .eq 33, 3) := by decide +kernel
theorem dX3_arrange_78 : decode cX3_arrange 78 = .ok (.aload_n 0, 1) := by decide +kernel
theorem dX3_arrange_79 : decode cX3_arrange 79 = .ok (.getfield 31, 3) := by decide +kernel
theorem dX3_arrange_82 : decode cX3_arrange 82 = .ok (.iload_n 3, 1) := by decide +kernel
theorem dX3_arrange_83 : decode cX3_arrange 83 = .ok (.iload 7, 2) := by decide +kernel
theorem dX3_arrange_85 : decode cX3_arrange 85 = .ok (.iadd, 1) := by decide +kernel
theorem dX3_arrange_86 : decode cX3_arrange 86 = .ok (.aload_n 0, 1) := by decide +kernel
theorem dX3_arrange_87 : decode cX3_arrange 87 = .ok (.getfield 31, 3) := by decide +kernel
theorem dX3_arrange_90 : decode cX3_arrange 90 = .ok (.iload_n 3, 1) := by decide +kernel
theorem dX3_arrange_91 : decode cX3_arrange 91 = .ok (.iload 7, 2) := by decide +kernel
theorem dX3_arrange_93 : decode cX3_arrange 93 = .ok (.iadd, 1) := by decide +kernel
theorem dX3_arrange_94 : decode cX3_arrange 94 = .ok (.iconst 1, 1) := by decide +kernel
theorem dX3_arrange_95 : decode cX3_arrange 95 = .ok (.isub, 1) := by decide +kernel
theorem dX3_arrange_96 : decode cX3_arrange 96 = .ok (.invokestatic 95, 3) := by decide +kernel
theorem dX3_arrange_99 : decode cX3_arrange 99 = .ok (.invokestatic 75, 3) := by decide +kernel
theorem dX3_arrange_102 : decode cX3_arrange 102 = .ok (.iinc 7 (-1), 3) := by decide +kernel
theorem dX3_arrange_105 : decode cX3_arrange 105 = .ok (.goto (-54), 3) := by decide +kernel
theorem dX3_arrange_108 : decode cX3_arrange 108 = .ok (.aload_n 0, 1) := by decide +kernel
theorem dX3_arrange_109 : decode cX3_arrange 109 = .ok (.getfield 31, 3) := by decide +kernel
theorem dX3_arrange_112 : decode cX3_arrange 112 = .ok (.iload_n 3, 1) := by decide +kernel
theorem dX3_arrange_113 : decode cX3_arrange 113 = .ok (.iload 7, 2) := by decide +kernel
theorem dX3_arrange_115 : decode cX3_arrange 115 = .ok (.iadd, 1) := by decide +kernel
theorem dX3_arrange_116 : decode cX3_arrange 116 = .ok (.iload 6, 2) := by decide +kernel
theorem dX3_arrange_118 : decode cX3_arrange 118 = .ok (.invokestatic 75, 3) := by decide +kernel
theorem dX3_arrange_121 : decode cX3_arrange 121 = .ok (.iinc 5 1, 3) := by decide +kernel
theorem dX3_arrange_124 : decode cX3_arrange 124 = .ok (.goto (-97), 3) := by decide +kernel
theorem dX3_arrange_127 : decode cX3_arrange 127 = .ok (.iconst 0, 1) := by decide +kernel
theorem dX3_arrange_128 : decode cX3_arrange 128 = .ok (.istore 5, 2) := by decide +kernel
theorem dX3_arrange_130 : decode cX3_arrange 130 = .ok (.iload 5, 2) := by decide +kernel
theorem dX3_arrange_132 : decode cX3_arrange 132 = .ok (.iload 4, 2) := by decide +kernel
theorem dX3_arrange_134 : decode cX3_arrange 134 = .ok (.if_icmp .ge 29, 3) := by decide +kernel
theorem dX3_arrange_137 : decode cX3_arrange 137 = .ok (.aload_n 0, 1) := by decide +kernel
theorem dX3_arrange_138 : decode cX3_arrange 138 = .ok (.iload_n 1, 1) := by decide +kernel
theorem dX3_arrange_139 : decode cX3_arrange 139 = .ok (.iload_n 3, 1) := by decide +kernel
theorem dX3_arrange_140 : decode cX3_arrange 140 = .ok (.iload 5, 2) := by decide +kernel
theorem dX3_arrange_142 : decode cX3_arrange 142 = .ok (.iadd, 1) := by decide +kernel
theorem dX3_arrange_143 : decode cX3_arrange 143 = .ok (.aload_n 0, 1) := by decide +kernel
theorem dX3_arrange_144 : decode cX3_arrange 144 = .ok (.getfield 31, 3) := by decide +kernel
theorem dX3_arrange_147 : decode cX3_arrange 147 = .ok (.iload_n 3, 1) := by decide +kernel
theorem dX3_arrange_148 : decode cX3_arrange 148 = .ok (.iload 5, 2) := by decide +kernel
theorem dX3_arrange_150 : decode cX3_arrange 150 = .ok (.iadd, 1) := by decide +kernel
theorem dX3_arrange_151 : decode cX3_arrange 151 = .ok (.invokestatic 95, 3) := by decide +kernel
theorem dX3_arrange_154 : decode cX3_arrange 154 = .ok (.invokevirtual 127, 3) := by decide +kernel
theorem dX3_arrange_157 : decode cX3_arrange 157 = .ok (.iinc 5 1, 3) := by decide +kernel
theorem dX3_arrange_160 : decode cX3_arrange 160 = .ok (.goto (-30), 3) := by decide +kernel
theorem dX3_arrange_163 : decode cX3_arrange 163 = .ok (.return_, 1) := by decide +kernel
theorem mw_297 : Cond.code yX3_sizeOf cX3_sizeOf 2 (some Jvm.ClassFile.FieldType.int) ∈ GW := gw_mem (inT3 _ (List.mem_of_getElem? (i := 142) rfl)) rfl
theorem mw_298 : Cond.methodLink RX3 156 yX3_sizeOf ∈ GW := gw_mem (inT4 _ (List.mem_of_getElem? (i := 120) rfl)) rfl
theorem mw_299 : Cond.instanceMethod yX3_sizeOf ∈ GW := gw_mem (inT3 _ (List.mem_of_getElem? (i := 140) rfl)) rfl
theorem mw_300 : Cond.selects RX3 yX3_sizeOf yX3_sizeOf ∈ GW := gw_mem (inT3 _ (List.mem_of_getElem? (i := 141) rfl)) rfl
theorem mw_301 : Cond.code yX3_weigh cX3_weigh 7 (none : Option FieldType) ∈ GW := gw_mem (inT4 _ (List.mem_of_getElem? (i := 124) rfl)) rfl
theorem mw_302 : Cond.methodLink RX3 159 yX3_weigh ∈ GW := gw_mem (inT4 _ (List.mem_of_getElem? (i := 121) rfl)) rfl
theorem mw_303 : Cond.instanceMethod yX3_weigh ∈ GW := gw_mem (inT4 _ (List.mem_of_getElem? (i := 123) rfl)) rfl
theorem mw_304 : Cond.selects RX3 yX3_weigh yX3_weigh ∈ GW := gw_mem (inTp (q := (yX3_weigh, 16)) (List.mem_of_getElem? (i := 43) rfl)) rfl
theorem mw_305 : Cond.code yX3_isAhead cX3_isAhead 5 (some Jvm.ClassFile.FieldType.boolean) ∈ GW := gw_mem (inT4 _ (List.mem_of_getElem? (i := 129) rfl)) rfl
theorem mw_306 : Cond.methodLink RX3 162 yX3_isAhead ∈ GW := gw_mem (inT4 _ (List.mem_of_getElem? (i := 126) rfl)) rfl
theorem mw_307 : Cond.instanceMethod yX3_isAhead ∈ GW := gw_mem (inT4 _ (List.mem_of_getElem? (i := 128) rfl)) rfl
theorem mw_308 : Cond.selects RX3 yX3_isAhead yX3_isAhead ∈ GW := gw_mem (inTp (q := (yX3_isAhead, 16)) (List.mem_of_getElem? (i := 44) rfl)) rfl
theorem pdv_X3_sizeOf : yX3_sizeOf.cls = RX3 ∧ yX3_sizeOf.cls ≠ "java/lang/invoke/MethodHandle" ∧ yX3_sizeOf.cls ≠ "java/lang/invoke/VarHandle" ∧ (parseMethodDescriptor yX3_sizeOf.desc).map (fun d => d.parameters.length) = some 1 := by decide +kernel
theorem pdv_X3_weigh : yX3_weigh.cls = RX3 ∧ yX3_weigh.cls ≠ "java/lang/invoke/MethodHandle" ∧ yX3_weigh.cls ≠ "java/lang/invoke/VarHandle" ∧ (parseMethodDescriptor yX3_weigh.desc).map (fun d => d.parameters.length) = some 3 := by decide +kernel
theorem pdv_X3_isAhead : yX3_isAhead.cls = RX3 ∧ yX3_isAhead.cls ≠ "java/lang/invoke/MethodHandle" ∧ yX3_isAhead.cls ≠ "java/lang/invoke/VarHandle" ∧ (parseMethodDescriptor yX3_isAhead.desc).map (fun d => d.parameters.length) = some 2 := by decide +kernel
set_option maxHeartbeats 4000000 in
set_option maxRecDepth 100000 in
theorem c_arrange (l : Launch) (D : va_G) (cI cJ : ClassId) (ad : Nat → Nat) (co fl ra li re wa pi : Ob) (k1 : Int32) (k2 : Int32) : CT l D (TY cI cJ) yX3_arrange (.code yX3_arrange cX3_arrange 8 (none : Option FieldType)) 4 0 0 (XW ad cI cJ co fl ra li re wa pi) [.ref (ad 6), .int k1, .int k2] (QV D (TY cI cJ) (fun u => u = (XW ad cI cJ co fl ra li re wa (arrange wa pi k1 k2)))) := by
  refine ent (by decide) (Nat.le_of_ble_eq_true rfl) ?_
  intro p e s m below meth c ls A hx hb hr hg hown hml hlocks hnm hP hK hD hS hA hN hl
  have hl : lv_has ls 8 [(0, .ref (ad 6)), (1, .int k1), (2, .int k2)] := hl
  refine lv_aload_n hx hb dX3_arrange_0 rfl (lv_at hl 0 rfl) ?_
  refine va_get (D := D) (ci := 3) (v := .ref (ad 35)) (C := RX3) (T := TX3) (N := 16) hx hb hg inGX3 hown hK hP 6 xo6 rfl 2 (by decide) (hg _ mw_256) (fun _ h9 => h9) xvX3_2 dX3_arrange_1 ?_
  refine lv_iload_n hx hb dX3_arrange_4 rfl (lv_at hl 1 rfl) ?_
  refine kI (rSN hx hb hml hown hg hN hK hP hD (c_at l D cI cJ (XW ad cI cJ co fl ra li re wa pi) 35 (ad 35) 41 (gA pi 1) k1 (xg35 rfl) (by decide)) mw_84 nw_96 mw_85 mw_77 pd_X7_at ⟨Nat.le_of_ble_eq_true rfl, Nat.le_of_ble_eq_true rfl⟩ rfl hl.1 rfl (Nat.le_of_ble_eq_true rfl) dX3_arrange_5 ⟨Nat.le_of_ble_eq_true rfl, Nat.le_of_ble_eq_true rfl⟩) hD hS hA (fun r_1 u_1 H locs hp hP hD hS => ?_)
  obtain ⟨er, eu⟩ := hp
  obtain rfl := er.symm
  obtain rfl := eu.symm
  refine lv_istore_n (lv' := [(3, .int (rd (gA pi 1) 41 k1)), (0, .ref (ad 6)), (1, .int k1), (2, .int k2)]) hx hb dX3_arrange_8 rfl hl (by decide) rfl (fun ls hl => ?_)
  refine lv_aload_n hx hb dX3_arrange_9 rfl (lv_at hl 1 rfl) ?_
  refine lv_iload_n hx hb dX3_arrange_10 rfl (lv_at hl 2 rfl) ?_
  refine kI (rV (q0 := 6) (ci := 3) hx hb hml hown hg hN hK hP hD (c_sizeOf l D cI cJ ad co fl ra li re wa pi k1) mw_297 mw_298 mw_299 mw_300 mw_234 pdv_X3_sizeOf ⟨Nat.le_of_ble_eq_true rfl, Nat.le_of_ble_eq_true rfl⟩ rfl xo6 rfl hl.1 rfl (Nat.le_of_ble_eq_true rfl) dX3_arrange_11 ⟨Nat.le_of_ble_eq_true rfl, Nat.le_of_ble_eq_true rfl⟩) hD hS hA (fun r_2 u_2 H locs hp hP hD hS => ?_)
  obtain ⟨er, eu⟩ := hp
  obtain rfl := er.symm
  obtain rfl := eu.symm
  refine lv_istore (lv' := [(4, .int (sizeOf pi k1)), (3, .int (rd (gA pi 1) 41 k1)), (0, .ref (ad 6)), (1, .int k1), (2, .int k2)]) hx hb dX3_arrange_14 hl (by decide) rfl (fun ls hl => ?_)
  refine lv_aload_n hx hb dX3_arrange_16 rfl (lv_at hl 2 rfl) ?_
  refine lv_iload_n hx hb dX3_arrange_17 rfl (lv_at hl 3 rfl) ?_
  refine lv_iload_n hx hb dX3_arrange_18 rfl (lv_at hl 4 rfl) ?_
  refine lv_iload hx hb dX3_arrange_19 (lv_at hl 0 rfl) ?_
  refine kV (rV (q0 := 6) (ci := 3) hx hb hml hown hg hN hK hP hD (c_weigh l D cI cJ ad co fl ra li re wa pi k1 k2 (sizeOf pi k1)) mw_301 mw_302 mw_303 mw_304 mw_234 pdv_X3_weigh ⟨Nat.le_of_ble_eq_true rfl, Nat.le_of_ble_eq_true rfl⟩ rfl xo6 rfl hl.1 rfl (Nat.le_of_ble_eq_true rfl) dX3_arrange_21 ⟨Nat.le_of_ble_eq_true rfl, Nat.le_of_ble_eq_true rfl⟩) hD hS hA (fun u_3 H locs hp hP hD hS => ?_)
  obtain rfl := hp.symm
  have hP : va_P D vwCl (XW ad cI cJ co fl ra li re wa (weigh wa pi k1 k2 (sizeOf pi k1))) H := hP
  have hD : va_D A (XW ad cI cJ co fl ra li re wa (weigh wa pi k1 k2 (sizeOf pi k1))) := hD
  refine lv_iconst (v := 1) hx hb dX3_arrange_24 (by decide) ?_
  refine lv_istore (lv' := [(5, .int 1), (4, .int (sizeOf pi k1)), (3, .int (rd (gA pi 1) 41 k1)), (0, .ref (ad 6)), (1, .int k1), (2, .int k2)]) hx hb dX3_arrange_25 hl (by decide) rfl (fun ls hl => ?_)
  refine w_loop (σ := Ob) (fun (i_4 : Nat) (p_4 : Ob) (H : Heap) (locs : List Loc) (ls : Array Slot) => p_4 = (lp (arStep (rd (gA pi 1) 41 k1)) i_4 (weigh wa pi k1 k2 (sizeOf pi k1))) ∧ va_P D vwCl (XW ad cI cJ co fl ra li re wa p_4) H ∧ va_D A (XW ad cI cJ co fl ra li re wa p_4) ∧ va_S A s.heap H locs ∧ lv_has ls 8 [(0, .ref (ad 6)), (1, .int k1), (2, .int k2), (3, .int (rd (gA pi 1) 41 k1)), (4, .int (sizeOf pi k1)), (5, .int (nI (i_4 + 1)))]) (nN (sizeOf pi k1) - 1) (fun p_4 H locs ls hI => ?_) (fun i_4 p_4 H locs ls hi_4 hI ih_4 => ?_) 0 (weigh wa pi k1 k2 (sizeOf pi k1)) (Nat.zero_le _) ⟨(lp_0 _ _), hP, hD, hS, (by rw [nI_01]; exact lv_sub hl [3, 4, 5, 2, 1, 0] rfl)⟩
  · obtain ⟨h_4, hP, hD, hS, hl⟩ := hI
    have h_4 := h_4.symm
    subst h_4
    have hP : va_P D vwCl (XW ad cI cJ co fl ra li re wa ((lp (arStep (rd (gA pi 1) 41 k1)) (nN (sizeOf pi k1) - 1) (weigh wa pi k1 k2 (sizeOf pi k1))))) H := hP
    have hD : va_D A (XW ad cI cJ co fl ra li re wa ((lp (arStep (rd (gA pi 1) 41 k1)) (nN (sizeOf pi k1) - 1) (weigh wa pi k1 k2 (sizeOf pi k1))))) := hD
    have hl : lv_has ls 8 [(0, .ref (ad 6)), (1, .int k1), (2, .int k2), (3, .int (rd (gA pi 1) 41 k1)), (4, .int (sizeOf pi k1)), (5, .int (nI ((nN (sizeOf pi k1) - 1) + 1)))] := hl
    refine lv_iload hx hb dX3_arrange_27 (lv_at hl 5 rfl) ?_
    refine lv_iload hx hb dX3_arrange_29 (lv_at hl 4 rfl) ?_
    refine lv_icmp_ge (tgt := 127) hx hb dX3_arrange_31 (by decide) (fun _ => ?_) (fun c_31 => absurd (n1_out _) c_31)
    refine lv_iconst (v := 0) hx hb dX3_arrange_127 (by decide) ?_
    refine lv_istore (lv' := [(5, .int 0), (0, .ref (ad 6)), (1, .int k1), (2, .int k2), (3, .int (rd (gA pi 1) 41 k1)), (4, .int (sizeOf pi k1))]) hx hb dX3_arrange_128 hl (by decide) rfl (fun ls hl => ?_)
    refine w_loop (σ := Ob) (fun (i_5 : Nat) (p_5 : Ob) (H : Heap) (locs : List Loc) (ls : Array Slot) => p_5 = (lp (arPut k1 (rd (gA pi 1) 41 k1)) i_5 ((lp (arStep (rd (gA pi 1) 41 k1)) (nN (sizeOf pi k1) - 1) (weigh wa pi k1 k2 (sizeOf pi k1))))) ∧ va_P D vwCl (XW ad cI cJ co fl ra li re wa p_5) H ∧ va_D A (XW ad cI cJ co fl ra li re wa p_5) ∧ va_S A s.heap H locs ∧ lv_has ls 8 [(0, .ref (ad 6)), (1, .int k1), (2, .int k2), (3, .int (rd (gA pi 1) 41 k1)), (4, .int (sizeOf pi k1)), (5, .int (nI i_5))]) (nN (sizeOf pi k1)) (fun p_5 H locs ls hI => ?_) (fun i_5 p_5 H locs ls hi_5 hI ih_5 => ?_) 0 ((lp (arStep (rd (gA pi 1) 41 k1)) (nN (sizeOf pi k1) - 1) (weigh wa pi k1 k2 (sizeOf pi k1)))) (Nat.zero_le _) ⟨(lp_0 _ _), hP, hD, hS, (by rw [nI_0]; exact lv_sub hl [1, 2, 3, 4, 5, 0] rfl)⟩
    · obtain ⟨h_5, hP, hD, hS, hl⟩ := hI
      have h_5 := h_5.symm
      subst h_5
      have hP : va_P D vwCl (XW ad cI cJ co fl ra li re wa ((lp (arPut k1 (rd (gA pi 1) 41 k1)) (nN (sizeOf pi k1)) ((lp (arStep (rd (gA pi 1) 41 k1)) (nN (sizeOf pi k1) - 1) (weigh wa pi k1 k2 (sizeOf pi k1))))))) H := hP
      have hD : va_D A (XW ad cI cJ co fl ra li re wa ((lp (arPut k1 (rd (gA pi 1) 41 k1)) (nN (sizeOf pi k1)) ((lp (arStep (rd (gA pi 1) 41 k1)) (nN (sizeOf pi k1) - 1) (weigh wa pi k1 k2 (sizeOf pi k1))))))) := hD
      have hl : lv_has ls 8 [(0, .ref (ad 6)), (1, .int k1), (2, .int k2), (3, .int (rd (gA pi 1) 41 k1)), (4, .int (sizeOf pi k1)), (5, .int (nI ((nN (sizeOf pi k1)))))] := hl
      refine lv_iload hx hb dX3_arrange_130 (lv_at hl 5 rfl) ?_
      refine lv_iload hx hb dX3_arrange_132 (lv_at hl 4 rfl) ?_
      refine lv_icmp_ge (tgt := 163) hx hb dX3_arrange_134 (by decide) (fun _ => ?_) (fun c_134 => absurd (lp_out _) c_134)
      exact W.vret hx hb hr (fun t ht hW => ⟨⟨(XW ad cI cJ co fl ra li re wa ((lp (arPut k1 (rd (gA pi 1) 41 k1)) (nN (sizeOf pi k1)) ((lp (arStep (rd (gA pi 1) 41 k1)) (nN (sizeOf pi k1) - 1) (weigh wa pi k1 k2 (sizeOf pi k1))))))), rfl, xw_eq rfl rfl rfl rfl rfl rfl (show ((lp (arPut k1 (rd (gA pi 1) 41 k1)) (nN (sizeOf pi k1)) ((lp (arStep (rd (gA pi 1) 41 k1)) (nN (sizeOf pi k1) - 1) (weigh wa pi k1 k2 (sizeOf pi k1)))))) = (arrange wa pi k1 k2) from (by first | with_reducible rfl | (simp only [arrange, gi_sl, gi_sA, gi_sB, gi_si_s, gi_si_n, gl_si, gl_sA, gl_sB, gl_sl_s, gl_sl_n, gA_si, gA_sl, gA_sB, gA_sA_s, gA_sA_n, gB_si, gB_sl, gB_sA, gB_sB_s, gB_sB_n, Nat.reduceBEq, if_true, if_false, eq_self, Bool.false_eq_true, Bool.true_eq_false, not_true_eq_false, not_false_eq_true, decide_true, decide_false, cond_true, cond_false, Bool.true_and, Bool.false_and, Bool.and_true, Bool.and_false, Bool.true_or, Bool.false_or, Bool.or_true, Bool.or_false, b2i_tt, b2i_ff, pr_eta]; done))), ⟨by rw [ht]; exact hP, va_K.moved hW.alike hK, hD⟩⟩, hS.F ht⟩) hS.2.2 dX3_arrange_163
    · obtain ⟨h_5, hP, hD, hS, hl⟩ := hI
      have hP : va_P D vwCl (XW ad cI cJ co fl ra li re wa p_5) H := hP
      have hD : va_D A (XW ad cI cJ co fl ra li re wa p_5) := hD
      have hl : lv_has ls 8 [(0, .ref (ad 6)), (1, .int k1), (2, .int k2), (3, .int (rd (gA pi 1) 41 k1)), (4, .int (sizeOf pi k1)), (5, .int (nI i_5))] := hl
      refine lv_iload hx hb dX3_arrange_130 (lv_at hl 5 rfl) ?_
      refine lv_iload hx hb dX3_arrange_132 (lv_at hl 4 rfl) ?_
      refine lv_icmp_ge (tgt := 163) hx hb dX3_arrange_134 (by decide) (fun c_134 => absurd c_134 (lp_in hi_5)) (fun _ => ?_)
      refine lv_aload_n hx hb dX3_arrange_137 rfl (lv_at hl 0 rfl) ?_
      refine lv_iload_n hx hb dX3_arrange_138 rfl (lv_at hl 1 rfl) ?_
      refine lv_iload_n hx hb dX3_arrange_139 rfl (lv_at hl 3 rfl) ?_
      refine lv_iload hx hb dX3_arrange_140 (lv_at hl 5 rfl) ?_
      refine lv_iadd hx hb dX3_arrange_142 ?_
      refine lv_aload_n hx hb dX3_arrange_143 rfl (lv_at hl 0 rfl) ?_
      refine va_get (D := D) (ci := 3) (v := .ref (ad 38)) (C := RX3) (T := TX3) (N := 16) hx hb hg inGX3 hown hK hP 6 xo6 rfl 5 (by decide) (hg _ mw_254) (fun _ h9 => h9) xvX3_5 dX3_arrange_144 ?_
      refine lv_iload_n hx hb dX3_arrange_147 rfl (lv_at hl 3 rfl) ?_
      refine lv_iload hx hb dX3_arrange_148 (lv_at hl 5 rfl) ?_
      refine lv_iadd hx hb dX3_arrange_150 ?_
      refine kI (rSN hx hb hml hown hg hN hK hP hD (c_at l D cI cJ (XW ad cI cJ co fl ra li re wa p_5) 38 (ad 38) 1600 (gA p_5 4) ((rd (gA pi 1) 41 k1) + (nI i_5)) (xg38 rfl) (by decide)) mw_84 nw_96 mw_85 mw_77 pd_X7_at ⟨Nat.le_of_ble_eq_true rfl, Nat.le_of_ble_eq_true rfl⟩ rfl hl.1 rfl (Nat.le_of_ble_eq_true rfl) dX3_arrange_151 ⟨Nat.le_of_ble_eq_true rfl, Nat.le_of_ble_eq_true rfl⟩) hD hS hA (fun r_6 u_6 H locs hp hP hD hS => ?_)
      obtain ⟨er, eu⟩ := hp
      obtain rfl := er.symm
      obtain rfl := eu.symm
      refine kV (rV (q0 := 6) (ci := 3) hx hb hml hown hg hN hK hP hD (c_putPoint l D cI cJ ad co fl ra li re wa p_5 k1 ((rd (gA pi 1) 41 k1) + (nI i_5)) (rd (gA p_5 4) 1600 ((rd (gA pi 1) 41 k1) + (nI i_5)))) mw_261 mw_262 mw_263 mw_264 mw_234 pdv_X3_putPoint ⟨Nat.le_of_ble_eq_true rfl, Nat.le_of_ble_eq_true rfl⟩ rfl xo6 rfl hl.1 rfl (Nat.le_of_ble_eq_true rfl) dX3_arrange_154 ⟨Nat.le_of_ble_eq_true rfl, Nat.le_of_ble_eq_true rfl⟩) hD hS hA (fun u_7 H locs hp hP hD hS => ?_)
      obtain rfl := hp.symm
      have hP : va_P D vwCl (XW ad cI cJ co fl ra li re wa (putPoint p_5 k1 ((rd (gA pi 1) 41 k1) + (nI i_5)) (rd (gA p_5 4) 1600 ((rd (gA pi 1) 41 k1) + (nI i_5))))) H := hP
      have hD : va_D A (XW ad cI cJ co fl ra li re wa (putPoint p_5 k1 ((rd (gA pi 1) 41 k1) + (nI i_5)) (rd (gA p_5 4) 1600 ((rd (gA pi 1) 41 k1) + (nI i_5))))) := hD
      refine lv_iinc (v := (nI (i_5 + 1))) (lv' := [(5, .int (nI (i_5 + 1))), (0, .ref (ad 6)), (1, .int k1), (2, .int k2), (3, .int (rd (gA pi 1) 41 k1)), (4, .int (sizeOf pi k1))]) hx hb dX3_arrange_157 hl (k := 5) rfl (nI_1 i_5) (by decide) rfl (fun ls hl => ?_)
      refine lv_goto (tgt := 130) hx hb dX3_arrange_160 (by decide) ?_
      exact ih_5 (putPoint p_5 k1 ((rd (gA pi 1) 41 k1) + (nI i_5)) (rd (gA p_5 4) 1600 ((rd (gA pi 1) 41 k1) + (nI i_5)))) H locs ls ⟨((show (putPoint p_5 k1 ((rd (gA pi 1) 41 k1) + (nI i_5)) (rd (gA p_5 4) 1600 ((rd (gA pi 1) 41 k1) + (nI i_5)))) = (arPut k1 (rd (gA pi 1) 41 k1)) i_5 p_5 from (by first | with_reducible rfl | (simp only [arPut, gi_sl, gi_sA, gi_sB, gi_si_s, gi_si_n, gl_si, gl_sA, gl_sB, gl_sl_s, gl_sl_n, gA_si, gA_sl, gA_sB, gA_sA_s, gA_sA_n, gB_si, gB_sl, gB_sA, gB_sB_s, gB_sB_n, Nat.reduceBEq, if_true, if_false, eq_self, Bool.false_eq_true, Bool.true_eq_false, not_true_eq_false, not_false_eq_true, decide_true, decide_false, cond_true, cond_false, Bool.true_and, Bool.false_and, Bool.and_true, Bool.and_false, Bool.true_or, Bool.false_or, Bool.or_true, Bool.or_false, b2i_tt, b2i_ff, pr_eta]; done))).trans (lp_go h_5)), hP, hD, hS, lv_sub hl [1, 2, 3, 4, 5, 0] rfl⟩
  · obtain ⟨h_4, hP, hD, hS, hl⟩ := hI
    have hP : va_P D vwCl (XW ad cI cJ co fl ra li re wa p_4) H := hP
    have hD : va_D A (XW ad cI cJ co fl ra li re wa p_4) := hD
    have hl : lv_has ls 8 [(0, .ref (ad 6)), (1, .int k1), (2, .int k2), (3, .int (rd (gA pi 1) 41 k1)), (4, .int (sizeOf pi k1)), (5, .int (nI (i_4 + 1)))] := hl
    refine lv_iload hx hb dX3_arrange_27 (lv_at hl 5 rfl) ?_
    refine lv_iload hx hb dX3_arrange_29 (lv_at hl 4 rfl) ?_
    refine lv_icmp_ge (tgt := 127) hx hb dX3_arrange_31 (by decide) (fun c_31 => absurd c_31 (n1_in hi_4)) (fun _ => ?_)
    refine lv_aload_n hx hb dX3_arrange_34 rfl (lv_at hl 0 rfl) ?_
    refine va_get (D := D) (ci := 3) (v := .ref (ad 38)) (C := RX3) (T := TX3) (N := 16) hx hb hg inGX3 hown hK hP 6 xo6 rfl 5 (by decide) (hg _ mw_254) (fun _ h9 => h9) xvX3_5 dX3_arrange_35 ?_
    refine lv_iload_n hx hb dX3_arrange_38 rfl (lv_at hl 3 rfl) ?_
    refine lv_iload hx hb dX3_arrange_39 (lv_at hl 5 rfl) ?_
    refine lv_iadd hx hb dX3_arrange_41 ?_
    refine kI (rSN hx hb hml hown hg hN hK hP hD (c_at l D cI cJ (XW ad cI cJ co fl ra li re wa p_4) 38 (ad 38) 1600 (gA p_4 4) ((rd (gA pi 1) 41 k1) + (nI (i_4 + 1))) (xg38 rfl) (by decide)) mw_84 nw_96 mw_85 mw_77 pd_X7_at ⟨Nat.le_of_ble_eq_true rfl, Nat.le_of_ble_eq_true rfl⟩ rfl hl.1 rfl (Nat.le_of_ble_eq_true rfl) dX3_arrange_42 ⟨Nat.le_of_ble_eq_true rfl, Nat.le_of_ble_eq_true rfl⟩) hD hS hA (fun r_8 u_8 H locs hp hP hD hS => ?_)
    obtain ⟨er, eu⟩ := hp
    obtain rfl := er.symm
    obtain rfl := eu.symm
    refine lv_istore (lv' := [(6, .int (rd (gA p_4 4) 1600 ((rd (gA pi 1) 41 k1) + (nI (i_4 + 1))))), (0, .ref (ad 6)), (1, .int k1), (2, .int k2), (3, .int (rd (gA pi 1) 41 k1)), (4, .int (sizeOf pi k1)), (5, .int (nI (i_4 + 1)))]) hx hb dX3_arrange_45 hl (by decide) rfl (fun ls hl => ?_)
    refine lv_iload hx hb dX3_arrange_47 (lv_at hl 6 rfl) ?_
    refine lv_istore (lv' := [(7, .int (nI (i_4 + 1))), (6, .int (rd (gA p_4 4) 1600 ((rd (gA pi 1) 41 k1) + (nI (i_4 + 1))))), (0, .ref (ad 6)), (1, .int k1), (2, .int k2), (3, .int (rd (gA pi 1) 41 k1)), (4, .int (sizeOf pi k1)), (5, .int (nI (i_4 + 1)))]) hx hb dX3_arrange_49 hl (by decide) rfl (fun ls hl => ?_)
    refine w_loop (σ := Ob × Nat) (fun (i_9 : Nat) (p_9 : Ob × Nat) (H : Heap) (locs : List Loc) (ls : Array Slot) => p_9 = (lpW (slC (rd (gA pi 1) 41 k1) (rd (gA p_4 4) 1600 ((rd (gA pi 1) 41 k1) + (nI (i_4 + 1))))) (slF (rd (gA pi 1) 41 k1)) i_9 (p_4, ((i_4 + 1)))) ∧ ((lpW (slC (rd (gA pi 1) 41 k1) (rd (gA p_4 4) 1600 ((rd (gA pi 1) 41 k1) + (nI (i_4 + 1))))) (slF (rd (gA pi 1) 41 k1)) i_9 (p_4, ((i_4 + 1)))).2 + i_9 = i_4 + 1) ∧ va_P D vwCl (XW ad cI cJ co fl ra li re wa p_9.1) H ∧ va_D A (XW ad cI cJ co fl ra li re wa p_9.1) ∧ va_S A s.heap H locs ∧ lv_has ls 8 [(0, .ref (ad 6)), (1, .int k1), (2, .int k2), (3, .int (rd (gA pi 1) 41 k1)), (4, .int (sizeOf pi k1)), (5, .int (nI (i_4 + 1))), (6, .int (rd (gA p_4 4) 1600 ((rd (gA pi 1) 41 k1) + (nI (i_4 + 1))))), (7, .int (nI p_9.2))]) (i_4 + 1) (fun p_9 H locs ls hI => ?_) (fun i_9 p_9 H locs ls hi_9 hI ih_9 => ?_) 0 (p_4, ((i_4 + 1))) (Nat.zero_le _) ⟨(lpW_0 _ _ _), (lpW_00 _ _ _ _), hP, hD, hS, lv_sub hl [2, 3, 4, 5, 6, 7, 1, 0] rfl⟩
    · obtain ⟨h_9, hf_9, hP, hD, hS, hl⟩ := hI
      have h_9 := h_9.symm
      subst h_9
      have hP : va_P D vwCl (XW ad cI cJ co fl ra li re wa ((lpW (slC (rd (gA pi 1) 41 k1) (rd (gA p_4 4) 1600 ((rd (gA pi 1) 41 k1) + (nI (i_4 + 1))))) (slF (rd (gA pi 1) 41 k1)) (i_4 + 1) (p_4, ((i_4 + 1)))).1)) H := hP
      have hD : va_D A (XW ad cI cJ co fl ra li re wa ((lpW (slC (rd (gA pi 1) 41 k1) (rd (gA p_4 4) 1600 ((rd (gA pi 1) 41 k1) + (nI (i_4 + 1))))) (slF (rd (gA pi 1) 41 k1)) (i_4 + 1) (p_4, ((i_4 + 1)))).1)) := hD
      have hl : lv_has ls 8 [(0, .ref (ad 6)), (1, .int k1), (2, .int k2), (3, .int (rd (gA pi 1) 41 k1)), (4, .int (sizeOf pi k1)), (5, .int (nI (i_4 + 1))), (6, .int (rd (gA p_4 4) 1600 ((rd (gA pi 1) 41 k1) + (nI (i_4 + 1))))), (7, .int (nI ((lpW (slC (rd (gA pi 1) 41 k1) (rd (gA p_4 4) 1600 ((rd (gA pi 1) 41 k1) + (nI (i_4 + 1))))) (slF (rd (gA pi 1) 41 k1)) (i_4 + 1) (p_4, ((i_4 + 1)))).2)))] := hl
      refine lv_iload hx hb dX3_arrange_51 (lv_at hl 7 rfl) ?_
      refine lv_if_le (tgt := 108) hx hb dX3_arrange_53 (by decide) (fun _ => ?_) (fun c_53 => absurd (le0 hf_9) c_53)
      refine lv_aload_n hx hb dX3_arrange_108 rfl (lv_at hl 0 rfl) ?_
      refine va_get (D := D) (ci := 3) (v := .ref (ad 38)) (C := RX3) (T := TX3) (N := 16) hx hb hg inGX3 hown hK hP 6 xo6 rfl 5 (by decide) (hg _ mw_254) (fun _ h9 => h9) xvX3_5 dX3_arrange_109 ?_
      refine lv_iload_n hx hb dX3_arrange_112 rfl (lv_at hl 3 rfl) ?_
      refine lv_iload hx hb dX3_arrange_113 (lv_at hl 7 rfl) ?_
      refine lv_iadd hx hb dX3_arrange_115 ?_
      refine lv_iload hx hb dX3_arrange_116 (lv_at hl 6 rfl) ?_
      refine kV (rSN hx hb hml hown hg hN hK hP hD (c_put l D cI cJ (XW ad cI cJ co fl ra li re wa ((lpW (slC (rd (gA pi 1) 41 k1) (rd (gA p_4 4) 1600 ((rd (gA pi 1) 41 k1) + (nI (i_4 + 1))))) (slF (rd (gA pi 1) 41 k1)) (i_4 + 1) (p_4, ((i_4 + 1)))).1)) 38 (ad 38) 1600 (gA ((lpW (slC (rd (gA pi 1) 41 k1) (rd (gA p_4 4) 1600 ((rd (gA pi 1) 41 k1) + (nI (i_4 + 1))))) (slF (rd (gA pi 1) 41 k1)) (i_4 + 1) (p_4, ((i_4 + 1)))).1) 4) ((rd (gA pi 1) 41 k1) + (nI ((lpW (slC (rd (gA pi 1) 41 k1) (rd (gA p_4 4) 1600 ((rd (gA pi 1) 41 k1) + (nI (i_4 + 1))))) (slF (rd (gA pi 1) 41 k1)) (i_4 + 1) (p_4, ((i_4 + 1)))).2))) (rd (gA p_4 4) 1600 ((rd (gA pi 1) 41 k1) + (nI (i_4 + 1)))) (xg38 rfl) (by decide)) mw_92 nw_95 mw_93 mw_77 pd_X7_put ⟨Nat.le_of_ble_eq_true rfl, Nat.le_of_ble_eq_true rfl⟩ rfl hl.1 rfl (Nat.le_of_ble_eq_true rfl) dX3_arrange_118 ⟨Nat.le_of_ble_eq_true rfl, Nat.le_of_ble_eq_true rfl⟩) hD hS hA (fun u_10 H locs hp hP hD hS => ?_)
      obtain rfl := hp.symm
      have hP : va_P D vwCl (XW ad cI cJ co fl ra li re wa (sA ((lpW (slC (rd (gA pi 1) 41 k1) (rd (gA p_4 4) 1600 ((rd (gA pi 1) 41 k1) + (nI (i_4 + 1))))) (slF (rd (gA pi 1) 41 k1)) (i_4 + 1) (p_4, ((i_4 + 1)))).1) 4 (wr (gA ((lpW (slC (rd (gA pi 1) 41 k1) (rd (gA p_4 4) 1600 ((rd (gA pi 1) 41 k1) + (nI (i_4 + 1))))) (slF (rd (gA pi 1) 41 k1)) (i_4 + 1) (p_4, ((i_4 + 1)))).1) 4) 1600 ((rd (gA pi 1) 41 k1) + (nI ((lpW (slC (rd (gA pi 1) 41 k1) (rd (gA p_4 4) 1600 ((rd (gA pi 1) 41 k1) + (nI (i_4 + 1))))) (slF (rd (gA pi 1) 41 k1)) (i_4 + 1) (p_4, ((i_4 + 1)))).2))) (rd (gA p_4 4) 1600 ((rd (gA pi 1) 41 k1) + (nI (i_4 + 1))))))) H := cgP xs38 hP
      have hD : va_D A (XW ad cI cJ co fl ra li re wa (sA ((lpW (slC (rd (gA pi 1) 41 k1) (rd (gA p_4 4) 1600 ((rd (gA pi 1) 41 k1) + (nI (i_4 + 1))))) (slF (rd (gA pi 1) 41 k1)) (i_4 + 1) (p_4, ((i_4 + 1)))).1) 4 (wr (gA ((lpW (slC (rd (gA pi 1) 41 k1) (rd (gA p_4 4) 1600 ((rd (gA pi 1) 41 k1) + (nI (i_4 + 1))))) (slF (rd (gA pi 1) 41 k1)) (i_4 + 1) (p_4, ((i_4 + 1)))).1) 4) 1600 ((rd (gA pi 1) 41 k1) + (nI ((lpW (slC (rd (gA pi 1) 41 k1) (rd (gA p_4 4) 1600 ((rd (gA pi 1) 41 k1) + (nI (i_4 + 1))))) (slF (rd (gA pi 1) 41 k1)) (i_4 + 1) (p_4, ((i_4 + 1)))).2))) (rd (gA p_4 4) 1600 ((rd (gA pi 1) 41 k1) + (nI (i_4 + 1))))))) := cgD xs38 hD
      refine lv_iinc (v := (nI (i_4 + 1 + 1))) (lv' := [(5, .int (nI (i_4 + 1 + 1))), (0, .ref (ad 6)), (1, .int k1), (2, .int k2), (3, .int (rd (gA pi 1) 41 k1)), (4, .int (sizeOf pi k1)), (6, .int (rd (gA p_4 4) 1600 ((rd (gA pi 1) 41 k1) + (nI (i_4 + 1))))), (7, .int (nI ((lpW (slC (rd (gA pi 1) 41 k1) (rd (gA p_4 4) 1600 ((rd (gA pi 1) 41 k1) + (nI (i_4 + 1))))) (slF (rd (gA pi 1) 41 k1)) (i_4 + 1) (p_4, ((i_4 + 1)))).2)))]) hx hb dX3_arrange_121 hl (k := 5) rfl (nI_1 (i_4 + 1)) (by decide) rfl (fun ls hl => ?_)
      refine lv_goto (tgt := 27) hx hb dX3_arrange_124 (by decide) ?_
      exact ih_4 (sA ((lpW (slC (rd (gA pi 1) 41 k1) (rd (gA p_4 4) 1600 ((rd (gA pi 1) 41 k1) + (nI (i_4 + 1))))) (slF (rd (gA pi 1) 41 k1)) (i_4 + 1) (p_4, ((i_4 + 1)))).1) 4 (wr (gA ((lpW (slC (rd (gA pi 1) 41 k1) (rd (gA p_4 4) 1600 ((rd (gA pi 1) 41 k1) + (nI (i_4 + 1))))) (slF (rd (gA pi 1) 41 k1)) (i_4 + 1) (p_4, ((i_4 + 1)))).1) 4) 1600 ((rd (gA pi 1) 41 k1) + (nI ((lpW (slC (rd (gA pi 1) 41 k1) (rd (gA p_4 4) 1600 ((rd (gA pi 1) 41 k1) + (nI (i_4 + 1))))) (slF (rd (gA pi 1) 41 k1)) (i_4 + 1) (p_4, ((i_4 + 1)))).2))) (rd (gA p_4 4) 1600 ((rd (gA pi 1) 41 k1) + (nI (i_4 + 1)))))) H locs ls ⟨((show (sA ((lpW (slC (rd (gA pi 1) 41 k1) (rd (gA p_4 4) 1600 ((rd (gA pi 1) 41 k1) + (nI (i_4 + 1))))) (slF (rd (gA pi 1) 41 k1)) (i_4 + 1) (p_4, ((i_4 + 1)))).1) 4 (wr (gA ((lpW (slC (rd (gA pi 1) 41 k1) (rd (gA p_4 4) 1600 ((rd (gA pi 1) 41 k1) + (nI (i_4 + 1))))) (slF (rd (gA pi 1) 41 k1)) (i_4 + 1) (p_4, ((i_4 + 1)))).1) 4) 1600 ((rd (gA pi 1) 41 k1) + (nI ((lpW (slC (rd (gA pi 1) 41 k1) (rd (gA p_4 4) 1600 ((rd (gA pi 1) 41 k1) + (nI (i_4 + 1))))) (slF (rd (gA pi 1) 41 k1)) (i_4 + 1) (p_4, ((i_4 + 1)))).2))) (rd (gA p_4 4) 1600 ((rd (gA pi 1) 41 k1) + (nI (i_4 + 1)))))) = (arStep (rd (gA pi 1) 41 k1)) i_4 p_4 from (by first | with_reducible rfl | (simp only [arStep, arPoint, slide_w, gi_sl, gi_sA, gi_sB, gi_si_s, gi_si_n, gl_si, gl_sA, gl_sB, gl_sl_s, gl_sl_n, gA_si, gA_sl, gA_sB, gA_sA_s, gA_sA_n, gB_si, gB_sl, gB_sA, gB_sB_s, gB_sB_n, Nat.reduceBEq, if_true, if_false, eq_self, Bool.false_eq_true, Bool.true_eq_false, not_true_eq_false, not_false_eq_true, decide_true, decide_false, cond_true, cond_false, Bool.true_and, Bool.false_and, Bool.and_true, Bool.and_false, Bool.true_or, Bool.false_or, Bool.or_true, Bool.or_false, b2i_tt, b2i_ff, pr_eta]; done))).trans (lp_go h_4)), hP, hD, hS, lv_sub hl [1, 2, 3, 4, 5, 0] rfl⟩
    · obtain ⟨h_9, hf_9, hP, hD, hS, hl⟩ := hI
      have hP : va_P D vwCl (XW ad cI cJ co fl ra li re wa p_9.1) H := hP
      have hD : va_D A (XW ad cI cJ co fl ra li re wa p_9.1) := hD
      have hl : lv_has ls 8 [(0, .ref (ad 6)), (1, .int k1), (2, .int k2), (3, .int (rd (gA pi 1) 41 k1)), (4, .int (sizeOf pi k1)), (5, .int (nI (i_4 + 1))), (6, .int (rd (gA p_4 4) 1600 ((rd (gA pi 1) 41 k1) + (nI (i_4 + 1))))), (7, .int (nI p_9.2))] := hl
      refine lv_iload hx hb dX3_arrange_51 (lv_at hl 7 rfl) ?_
      refine lv_if_le (tgt := 108) hx hb dX3_arrange_53 (by decide) (fun c_53 => absurd c_53 (gt0' h_9 hf_9 hi_9 (by have := nN_lt (sizeOf pi k1); omega))) (fun _ => ?_)
      refine lv_aload_n hx hb dX3_arrange_56 rfl (lv_at hl 0 rfl) ?_
      refine lv_iload hx hb dX3_arrange_57 (lv_at hl 6 rfl) ?_
      refine lv_aload_n hx hb dX3_arrange_59 rfl (lv_at hl 0 rfl) ?_
      refine va_get (D := D) (ci := 3) (v := .ref (ad 38)) (C := RX3) (T := TX3) (N := 16) hx hb hg inGX3 hown hK hP 6 xo6 rfl 5 (by decide) (hg _ mw_254) (fun _ h9 => h9) xvX3_5 dX3_arrange_60 ?_
      refine lv_iload_n hx hb dX3_arrange_63 rfl (lv_at hl 3 rfl) ?_
      refine lv_iload hx hb dX3_arrange_64 (lv_at hl 7 rfl) ?_
      refine lv_iadd hx hb dX3_arrange_66 ?_
      refine lv_iconst (v := 1) hx hb dX3_arrange_67 (by decide) ?_
      refine lv_isub hx hb dX3_arrange_68 ?_
      refine kI (rSN hx hb hml hown hg hN hK hP hD (c_at l D cI cJ (XW ad cI cJ co fl ra li re wa p_9.1) 38 (ad 38) 1600 (gA p_9.1 4) (((rd (gA pi 1) 41 k1) + (nI p_9.2)) - 1) (xg38 rfl) (by decide)) mw_84 nw_96 mw_85 mw_77 pd_X7_at ⟨Nat.le_of_ble_eq_true rfl, Nat.le_of_ble_eq_true rfl⟩ rfl hl.1 rfl (Nat.le_of_ble_eq_true rfl) dX3_arrange_69 ⟨Nat.le_of_ble_eq_true rfl, Nat.le_of_ble_eq_true rfl⟩) hD hS hA (fun r_11 u_11 H locs hp hP hD hS => ?_)
      obtain ⟨er, eu⟩ := hp
      obtain rfl := er.symm
      obtain rfl := eu.symm
      refine kI (rV (q0 := 6) (ci := 3) hx hb hml hown hg hN hK hP hD (c_isAhead l D cI cJ ad co fl ra li re wa p_9.1 (rd (gA p_4 4) 1600 ((rd (gA pi 1) 41 k1) + (nI (i_4 + 1)))) (rd (gA p_9.1 4) 1600 (((rd (gA pi 1) 41 k1) + (nI p_9.2)) - 1))) mw_305 mw_306 mw_307 mw_308 mw_234 pdv_X3_isAhead ⟨Nat.le_of_ble_eq_true rfl, Nat.le_of_ble_eq_true rfl⟩ rfl xo6 rfl hl.1 rfl (Nat.le_of_ble_eq_true rfl) dX3_arrange_72 ⟨Nat.le_of_ble_eq_true rfl, Nat.le_of_ble_eq_true rfl⟩) hD hS hA (fun r_12 u_12 H locs hp hP hD hS => ?_)
      obtain ⟨er, eu⟩ := hp
      obtain rfl := er.symm
      obtain rfl := eu.symm
      refine lv_if_eq (tgt := 108) hx hb dX3_arrange_75 (by decide) (fun c_75 => ?_) (fun c_75 => ?_)
      · have c_75 : ¬ (isAhead p_9.1 (rd (gA p_4 4) 1600 ((rd (gA pi 1) 41 k1) + (nI (i_4 + 1)))) (rd (gA p_9.1 4) 1600 (((rd (gA pi 1) 41 k1) + (nI p_9.2)) - 1))) = true := b2i_0 c_75
        have h_9 : p_9 = (lpW (slC (rd (gA pi 1) 41 k1) (rd (gA p_4 4) 1600 ((rd (gA pi 1) 41 k1) + (nI (i_4 + 1))))) (slF (rd (gA pi 1) 41 k1)) (i_4 + 1) (p_4, ((i_4 + 1)))) := lpW_stop h_9 (by simp only [slC, bf_of c_75, gi_sl, gi_sA, gi_sB, gi_si_s, gi_si_n, gl_si, gl_sA, gl_sB, gl_sl_s, gl_sl_n, gA_si, gA_sl, gA_sB, gA_sA_s, gA_sA_n, gB_si, gB_sl, gB_sA, gB_sB_s, gB_sB_n, Nat.reduceBEq, if_true, if_false, eq_self, Bool.false_eq_true, Bool.true_eq_false, not_true_eq_false, not_false_eq_true, decide_true, decide_false, cond_true, cond_false, Bool.true_and, Bool.false_and, Bool.and_true, Bool.and_false, Bool.true_or, Bool.false_or, Bool.or_true, Bool.or_false, b2i_tt, b2i_ff, pr_eta]; done) (Nat.le_of_lt hi_9)
        have h_9 := h_9.symm
        subst h_9
        have hP : va_P D vwCl (XW ad cI cJ co fl ra li re wa ((lpW (slC (rd (gA pi 1) 41 k1) (rd (gA p_4 4) 1600 ((rd (gA pi 1) 41 k1) + (nI (i_4 + 1))))) (slF (rd (gA pi 1) 41 k1)) (i_4 + 1) (p_4, ((i_4 + 1)))).1)) H := hP
        have hD : va_D A (XW ad cI cJ co fl ra li re wa ((lpW (slC (rd (gA pi 1) 41 k1) (rd (gA p_4 4) 1600 ((rd (gA pi 1) 41 k1) + (nI (i_4 + 1))))) (slF (rd (gA pi 1) 41 k1)) (i_4 + 1) (p_4, ((i_4 + 1)))).1)) := hD
        have hl : lv_has ls 8 [(0, .ref (ad 6)), (1, .int k1), (2, .int k2), (3, .int (rd (gA pi 1) 41 k1)), (4, .int (sizeOf pi k1)), (5, .int (nI (i_4 + 1))), (6, .int (rd (gA p_4 4) 1600 ((rd (gA pi 1) 41 k1) + (nI (i_4 + 1))))), (7, .int (nI ((lpW (slC (rd (gA pi 1) 41 k1) (rd (gA p_4 4) 1600 ((rd (gA pi 1) 41 k1) + (nI (i_4 + 1))))) (slF (rd (gA pi 1) 41 k1)) (i_4 + 1) (p_4, ((i_4 + 1)))).2)))] := hl
        refine lv_aload_n hx hb dX3_arrange_108 rfl (lv_at hl 0 rfl) ?_
        refine va_get (D := D) (ci := 3) (v := .ref (ad 38)) (C := RX3) (T := TX3) (N := 16) hx hb hg inGX3 hown hK hP 6 xo6 rfl 5 (by decide) (hg _ mw_254) (fun _ h9 => h9) xvX3_5 dX3_arrange_109 ?_
        refine lv_iload_n hx hb dX3_arrange_112 rfl (lv_at hl 3 rfl) ?_
        refine lv_iload hx hb dX3_arrange_113 (lv_at hl 7 rfl) ?_
        refine lv_iadd hx hb dX3_arrange_115 ?_
        refine lv_iload hx hb dX3_arrange_116 (lv_at hl 6 rfl) ?_
        refine kV (rSN hx hb hml hown hg hN hK hP hD (c_put l D cI cJ (XW ad cI cJ co fl ra li re wa ((lpW (slC (rd (gA pi 1) 41 k1) (rd (gA p_4 4) 1600 ((rd (gA pi 1) 41 k1) + (nI (i_4 + 1))))) (slF (rd (gA pi 1) 41 k1)) (i_4 + 1) (p_4, ((i_4 + 1)))).1)) 38 (ad 38) 1600 (gA ((lpW (slC (rd (gA pi 1) 41 k1) (rd (gA p_4 4) 1600 ((rd (gA pi 1) 41 k1) + (nI (i_4 + 1))))) (slF (rd (gA pi 1) 41 k1)) (i_4 + 1) (p_4, ((i_4 + 1)))).1) 4) ((rd (gA pi 1) 41 k1) + (nI ((lpW (slC (rd (gA pi 1) 41 k1) (rd (gA p_4 4) 1600 ((rd (gA pi 1) 41 k1) + (nI (i_4 + 1))))) (slF (rd (gA pi 1) 41 k1)) (i_4 + 1) (p_4, ((i_4 + 1)))).2))) (rd (gA p_4 4) 1600 ((rd (gA pi 1) 41 k1) + (nI (i_4 + 1)))) (xg38 rfl) (by decide)) mw_92 nw_95 mw_93 mw_77 pd_X7_put ⟨Nat.le_of_ble_eq_true rfl, Nat.le_of_ble_eq_true rfl⟩ rfl hl.1 rfl (Nat.le_of_ble_eq_true rfl) dX3_arrange_118 ⟨Nat.le_of_ble_eq_true rfl, Nat.le_of_ble_eq_true rfl⟩) hD hS hA (fun u_13 H locs hp hP hD hS => ?_)
        obtain rfl := hp.symm
        have hP : va_P D vwCl (XW ad cI cJ co fl ra li re wa (sA ((lpW (slC (rd (gA pi 1) 41 k1) (rd (gA p_4 4) 1600 ((rd (gA pi 1) 41 k1) + (nI (i_4 + 1))))) (slF (rd (gA pi 1) 41 k1)) (i_4 + 1) (p_4, ((i_4 + 1)))).1) 4 (wr (gA ((lpW (slC (rd (gA pi 1) 41 k1) (rd (gA p_4 4) 1600 ((rd (gA pi 1) 41 k1) + (nI (i_4 + 1))))) (slF (rd (gA pi 1) 41 k1)) (i_4 + 1) (p_4, ((i_4 + 1)))).1) 4) 1600 ((rd (gA pi 1) 41 k1) + (nI ((lpW (slC (rd (gA pi 1) 41 k1) (rd (gA p_4 4) 1600 ((rd (gA pi 1) 41 k1) + (nI (i_4 + 1))))) (slF (rd (gA pi 1) 41 k1)) (i_4 + 1) (p_4, ((i_4 + 1)))).2))) (rd (gA p_4 4) 1600 ((rd (gA pi 1) 41 k1) + (nI (i_4 + 1))))))) H := cgP xs38 hP
        have hD : va_D A (XW ad cI cJ co fl ra li re wa (sA ((lpW (slC (rd (gA pi 1) 41 k1) (rd (gA p_4 4) 1600 ((rd (gA pi 1) 41 k1) + (nI (i_4 + 1))))) (slF (rd (gA pi 1) 41 k1)) (i_4 + 1) (p_4, ((i_4 + 1)))).1) 4 (wr (gA ((lpW (slC (rd (gA pi 1) 41 k1) (rd (gA p_4 4) 1600 ((rd (gA pi 1) 41 k1) + (nI (i_4 + 1))))) (slF (rd (gA pi 1) 41 k1)) (i_4 + 1) (p_4, ((i_4 + 1)))).1) 4) 1600 ((rd (gA pi 1) 41 k1) + (nI ((lpW (slC (rd (gA pi 1) 41 k1) (rd (gA p_4 4) 1600 ((rd (gA pi 1) 41 k1) + (nI (i_4 + 1))))) (slF (rd (gA pi 1) 41 k1)) (i_4 + 1) (p_4, ((i_4 + 1)))).2))) (rd (gA p_4 4) 1600 ((rd (gA pi 1) 41 k1) + (nI (i_4 + 1))))))) := cgD xs38 hD
        refine lv_iinc (v := (nI (i_4 + 1 + 1))) (lv' := [(5, .int (nI (i_4 + 1 + 1))), (0, .ref (ad 6)), (1, .int k1), (2, .int k2), (3, .int (rd (gA pi 1) 41 k1)), (4, .int (sizeOf pi k1)), (6, .int (rd (gA p_4 4) 1600 ((rd (gA pi 1) 41 k1) + (nI (i_4 + 1))))), (7, .int (nI ((lpW (slC (rd (gA pi 1) 41 k1) (rd (gA p_4 4) 1600 ((rd (gA pi 1) 41 k1) + (nI (i_4 + 1))))) (slF (rd (gA pi 1) 41 k1)) (i_4 + 1) (p_4, ((i_4 + 1)))).2)))]) hx hb dX3_arrange_121 hl (k := 5) rfl (nI_1 (i_4 + 1)) (by decide) rfl (fun ls hl => ?_)
        refine lv_goto (tgt := 27) hx hb dX3_arrange_124 (by decide) ?_
        exact ih_4 (sA ((lpW (slC (rd (gA pi 1) 41 k1) (rd (gA p_4 4) 1600 ((rd (gA pi 1) 41 k1) + (nI (i_4 + 1))))) (slF (rd (gA pi 1) 41 k1)) (i_4 + 1) (p_4, ((i_4 + 1)))).1) 4 (wr (gA ((lpW (slC (rd (gA pi 1) 41 k1) (rd (gA p_4 4) 1600 ((rd (gA pi 1) 41 k1) + (nI (i_4 + 1))))) (slF (rd (gA pi 1) 41 k1)) (i_4 + 1) (p_4, ((i_4 + 1)))).1) 4) 1600 ((rd (gA pi 1) 41 k1) + (nI ((lpW (slC (rd (gA pi 1) 41 k1) (rd (gA p_4 4) 1600 ((rd (gA pi 1) 41 k1) + (nI (i_4 + 1))))) (slF (rd (gA pi 1) 41 k1)) (i_4 + 1) (p_4, ((i_4 + 1)))).2))) (rd (gA p_4 4) 1600 ((rd (gA pi 1) 41 k1) + (nI (i_4 + 1)))))) H locs ls ⟨((show (sA ((lpW (slC (rd (gA pi 1) 41 k1) (rd (gA p_4 4) 1600 ((rd (gA pi 1) 41 k1) + (nI (i_4 + 1))))) (slF (rd (gA pi 1) 41 k1)) (i_4 + 1) (p_4, ((i_4 + 1)))).1) 4 (wr (gA ((lpW (slC (rd (gA pi 1) 41 k1) (rd (gA p_4 4) 1600 ((rd (gA pi 1) 41 k1) + (nI (i_4 + 1))))) (slF (rd (gA pi 1) 41 k1)) (i_4 + 1) (p_4, ((i_4 + 1)))).1) 4) 1600 ((rd (gA pi 1) 41 k1) + (nI ((lpW (slC (rd (gA pi 1) 41 k1) (rd (gA p_4 4) 1600 ((rd (gA pi 1) 41 k1) + (nI (i_4 + 1))))) (slF (rd (gA pi 1) 41 k1)) (i_4 + 1) (p_4, ((i_4 + 1)))).2))) (rd (gA p_4 4) 1600 ((rd (gA pi 1) 41 k1) + (nI (i_4 + 1)))))) = (arStep (rd (gA pi 1) 41 k1)) i_4 p_4 from (by simp only [arStep, arPoint, slide_w, bf_of c_75, gi_sl, gi_sA, gi_sB, gi_si_s, gi_si_n, gl_si, gl_sA, gl_sB, gl_sl_s, gl_sl_n, gA_si, gA_sl, gA_sB, gA_sA_s, gA_sA_n, gB_si, gB_sl, gB_sA, gB_sB_s, gB_sB_n, Nat.reduceBEq, if_true, if_false, eq_self, Bool.false_eq_true, Bool.true_eq_false, not_true_eq_false, not_false_eq_true, decide_true, decide_false, cond_true, cond_false, Bool.true_and, Bool.false_and, Bool.and_true, Bool.and_false, Bool.true_or, Bool.false_or, Bool.or_true, Bool.or_false, b2i_tt, b2i_ff, pr_eta]; done)).trans (lp_go h_4)), hP, hD, hS, lv_sub hl [1, 2, 3, 4, 5, 0] rfl⟩
      · have c_75 : (isAhead p_9.1 (rd (gA p_4 4) 1600 ((rd (gA pi 1) 41 k1) + (nI (i_4 + 1)))) (rd (gA p_9.1 4) 1600 (((rd (gA pi 1) 41 k1) + (nI p_9.2)) - 1))) = true := b2i_1 c_75
        refine lv_aload_n hx hb dX3_arrange_78 rfl (lv_at hl 0 rfl) ?_
        refine va_get (D := D) (ci := 3) (v := .ref (ad 38)) (C := RX3) (T := TX3) (N := 16) hx hb hg inGX3 hown hK hP 6 xo6 rfl 5 (by decide) (hg _ mw_254) (fun _ h9 => h9) xvX3_5 dX3_arrange_79 ?_
        refine lv_iload_n hx hb dX3_arrange_82 rfl (lv_at hl 3 rfl) ?_
        refine lv_iload hx hb dX3_arrange_83 (lv_at hl 7 rfl) ?_
        refine lv_iadd hx hb dX3_arrange_85 ?_
        refine lv_aload_n hx hb dX3_arrange_86 rfl (lv_at hl 0 rfl) ?_
        refine va_get (D := D) (ci := 3) (v := .ref (ad 38)) (C := RX3) (T := TX3) (N := 16) hx hb hg inGX3 hown hK hP 6 xo6 rfl 5 (by decide) (hg _ mw_254) (fun _ h9 => h9) xvX3_5 dX3_arrange_87 ?_
        refine lv_iload_n hx hb dX3_arrange_90 rfl (lv_at hl 3 rfl) ?_
        refine lv_iload hx hb dX3_arrange_91 (lv_at hl 7 rfl) ?_
        refine lv_iadd hx hb dX3_arrange_93 ?_
        refine lv_iconst (v := 1) hx hb dX3_arrange_94 (by decide) ?_
        refine lv_isub hx hb dX3_arrange_95 ?_
        refine kI (rSN hx hb hml hown hg hN hK hP hD (c_at l D cI cJ (XW ad cI cJ co fl ra li re wa p_9.1) 38 (ad 38) 1600 (gA p_9.1 4) (((rd (gA pi 1) 41 k1) + (nI p_9.2)) - 1) (xg38 rfl) (by decide)) mw_84 nw_96 mw_85 mw_77 pd_X7_at ⟨Nat.le_of_ble_eq_true rfl, Nat.le_of_ble_eq_true rfl⟩ rfl hl.1 rfl (Nat.le_of_ble_eq_true rfl) dX3_arrange_96 ⟨Nat.le_of_ble_eq_true rfl, Nat.le_of_ble_eq_true rfl⟩) hD hS hA (fun r_14 u_14 H locs hp hP hD hS => ?_)
        obtain ⟨er, eu⟩ := hp
        obtain rfl := er.symm
        obtain rfl := eu.symm
        refine kV (rSN hx hb hml hown hg hN hK hP hD (c_put l D cI cJ (XW ad cI cJ co fl ra li re wa p_9.1) 38 (ad 38) 1600 (gA p_9.1 4) ((rd (gA pi 1) 41 k1) + (nI p_9.2)) (rd (gA p_9.1 4) 1600 (((rd (gA pi 1) 41 k1) + (nI p_9.2)) - 1)) (xg38 rfl) (by decide)) mw_92 nw_95 mw_93 mw_77 pd_X7_put ⟨Nat.le_of_ble_eq_true rfl, Nat.le_of_ble_eq_true rfl⟩ rfl hl.1 rfl (Nat.le_of_ble_eq_true rfl) dX3_arrange_99 ⟨Nat.le_of_ble_eq_true rfl, Nat.le_of_ble_eq_true rfl⟩) hD hS hA (fun u_15 H locs hp hP hD hS => ?_)
        obtain rfl := hp.symm
        have hP : va_P D vwCl (XW ad cI cJ co fl ra li re wa (sA p_9.1 4 (wr (gA p_9.1 4) 1600 ((rd (gA pi 1) 41 k1) + (nI p_9.2)) (rd (gA p_9.1 4) 1600 (((rd (gA pi 1) 41 k1) + (nI p_9.2)) - 1))))) H := cgP xs38 hP
        have hD : va_D A (XW ad cI cJ co fl ra li re wa (sA p_9.1 4 (wr (gA p_9.1 4) 1600 ((rd (gA pi 1) 41 k1) + (nI p_9.2)) (rd (gA p_9.1 4) 1600 (((rd (gA pi 1) 41 k1) + (nI p_9.2)) - 1))))) := cgD xs38 hD
        refine lv_iinc (v := (nI (p_9.2 - 1))) (lv' := [(7, .int (nI (p_9.2 - 1))), (0, .ref (ad 6)), (1, .int k1), (2, .int k2), (3, .int (rd (gA pi 1) 41 k1)), (4, .int (sizeOf pi k1)), (5, .int (nI (i_4 + 1))), (6, .int (rd (gA p_4 4) 1600 ((rd (gA pi 1) 41 k1) + (nI (i_4 + 1)))))]) hx hb dX3_arrange_102 hl (k := 7) rfl (sb_m1 (gt0 h_9 hf_9 hi_9)) (by decide) rfl (fun ls hl => ?_)
        refine lv_goto (tgt := 51) hx hb dX3_arrange_105 (by decide) ?_
        exact ih_9 ((sA p_9.1 4 (wr (gA p_9.1 4) 1600 ((rd (gA pi 1) 41 k1) + (nI p_9.2)) (rd (gA p_9.1 4) 1600 (((rd (gA pi 1) 41 k1) + (nI p_9.2)) - 1)))), ((p_9.2 - 1))) H locs ls ⟨((show ((sA p_9.1 4 (wr (gA p_9.1 4) 1600 ((rd (gA pi 1) 41 k1) + (nI p_9.2)) (rd (gA p_9.1 4) 1600 (((rd (gA pi 1) 41 k1) + (nI p_9.2)) - 1)))), ((p_9.2 - 1))) = (slF (rd (gA pi 1) 41 k1)) p_9 from (by simp only [slF, slidePut, Nat.sub_add_cancel (Nat.succ_le_of_lt (gt0 h_9 hf_9 hi_9)), c_75, gi_sl, gi_sA, gi_sB, gi_si_s, gi_si_n, gl_si, gl_sA, gl_sB, gl_sl_s, gl_sl_n, gA_si, gA_sl, gA_sB, gA_sA_s, gA_sA_n, gB_si, gB_sl, gB_sA, gB_sB_s, gB_sB_n, Nat.reduceBEq, if_true, if_false, eq_self, Bool.false_eq_true, Bool.true_eq_false, not_true_eq_false, not_false_eq_true, decide_true, decide_false, cond_true, cond_false, Bool.true_and, Bool.false_and, Bool.and_true, Bool.and_false, Bool.true_or, Bool.false_or, Bool.or_true, Bool.or_false, b2i_tt, b2i_ff, pr_eta]; done)).trans (lpW_go h_9 (by simp only [slC, decide_eq_true (gt0 h_9 hf_9 hi_9), c_75, gi_sl, gi_sA, gi_sB, gi_si_s, gi_si_n, gl_si, gl_sA, gl_sB, gl_sl_s, gl_sl_n, gA_si, gA_sl, gA_sB, gA_sA_s, gA_sA_n, gB_si, gB_sl, gB_sA, gB_sB_s, gB_sB_n, Nat.reduceBEq, if_true, if_false, eq_self, Bool.false_eq_true, Bool.true_eq_false, not_true_eq_false, not_false_eq_true, decide_true, decide_false, cond_true, cond_false, Bool.true_and, Bool.false_and, Bool.and_true, Bool.and_false, Bool.true_or, Bool.false_or, Bool.or_true, Bool.or_false, b2i_tt, b2i_ff, pr_eta]; done))), (sl_fact h_9 (by simp only [slC, decide_eq_true (gt0 h_9 hf_9 hi_9), c_75, gi_sl, gi_sA, gi_sB, gi_si_s, gi_si_n, gl_si, gl_sA, gl_sB, gl_sl_s, gl_sl_n, gA_si, gA_sl, gA_sB, gA_sA_s, gA_sA_n, gB_si, gB_sl, gB_sA, gB_sB_s, gB_sB_n, Nat.reduceBEq, if_true, if_false, eq_self, Bool.false_eq_true, Bool.true_eq_false, not_true_eq_false, not_false_eq_true, decide_true, decide_false, cond_true, cond_false, Bool.true_and, Bool.false_and, Bool.and_true, Bool.and_false, Bool.true_or, Bool.false_or, Bool.or_true, Bool.or_false, b2i_tt, b2i_ff, pr_eta]; done) hf_9 hi_9), hP, hD, hS, lv_sub hl [1, 2, 3, 4, 5, 6, 7, 0] rfl⟩
