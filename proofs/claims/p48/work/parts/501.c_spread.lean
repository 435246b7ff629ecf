theorem dX7_spread_0 : decode cX7_spread 0 = .ok (.lload_n 1, 1) := by decide +kernel
theorem dX7_spread_1 : decode cX7_spread 1 = .ok (.lload_n 3, 1) := by decide +kernel
theorem dX7_spread_2 : decode cX7_spread 2 = .ok (.ldc2_w 355, 3) := by decide +kernel
theorem dX7_spread_5 : decode cX7_spread 5 = .ok (.lxor, 1) := by decide +kernel
theorem dX7_spread_6 : decode cX7_spread 6 = .ok (.land, 1) := by decide +kernel
theorem dX7_spread_7 : decode cX7_spread 7 = .ok (.lstore 5, 2) := by decide +kernel
theorem dX7_spread_9 : decode cX7_spread 9 = .ok (.lload 5, 2) := by decide +kernel
theorem dX7_spread_11 : decode cX7_spread 11 = .ok (.lstore 7, 2) := by decide +kernel
theorem dX7_spread_13 : decode cX7_spread 13 = .ok (.iconst 0, 1) := by decide +kernel
theorem dX7_spread_14 : decode cX7_spread 14 = .ok (.istore 9, 2) := by decide +kernel
theorem dX7_spread_16 : decode cX7_spread 16 = .ok (.iload 9, 2) := by decide +kernel
theorem dX7_spread_18 : decode cX7_spread 18 = .ok (.bipush 40, 2) := by decide +kernel
theorem dX7_spread_20 : decode cX7_spread 20 = .ok (.if_icmp .gt 72, 3) := by decide +kernel
theorem dX7_spread_23 : decode cX7_spread 23 = .ok (.lload 7, 2) := by decide +kernel
theorem dX7_spread_25 : decode cX7_spread 25 = .ok (.lconst 0, 1) := by decide +kernel
theorem dX7_spread_26 : decode cX7_spread 26 = .ok (.lcmp, 1) := by decide +kernel
theorem dX7_spread_27 : decode cX7_spread 27 = .ok (.ifCond .eq 65, 3) := by decide +kernel
theorem dX7_spread_30 : decode cX7_spread 30 = .ok (.lload 7, 2) := by decide +kernel
theorem dX7_spread_32 : decode cX7_spread 32 = .ok (.invokestatic 357, 3) := by decide +kernel
theorem dX7_spread_35 : decode cX7_spread 35 = .ok (.istore 10, 2) := by decide +kernel
theorem dX7_spread_37 : decode cX7_spread 37 = .ok (.lload 7, 2) := by decide +kernel
theorem dX7_spread_39 : decode cX7_spread 39 = .ok (.iload 10, 2) := by decide +kernel
theorem dX7_spread_41 : decode cX7_spread 41 = .ok (.invokestatic 360, 3) := by decide +kernel
theorem dX7_spread_44 : decode cX7_spread 44 = .ok (.ldc2_w 355, 3) := by decide +kernel
theorem dX7_spread_47 : decode cX7_spread 47 = .ok (.lxor, 1) := by decide +kernel
theorem dX7_spread_48 : decode cX7_spread 48 = .ok (.land, 1) := by decide +kernel
theorem dX7_spread_49 : decode cX7_spread 49 = .ok (.lstore 7, 2) := by decide +kernel
theorem dX7_spread_51 : decode cX7_spread 51 = .ok (.aload_n 0, 1) := by decide +kernel
theorem dX7_spread_52 : decode cX7_spread 52 = .ok (.iload 10, 2) := by decide +kernel
theorem dX7_spread_54 : decode cX7_spread 54 = .ok (.invokestatic 185, 3) := by decide +kernel
theorem dX7_spread_57 : decode cX7_spread 57 = .ok (.lload 5, 2) := by decide +kernel
theorem dX7_spread_59 : decode cX7_spread 59 = .ok (.ldc2_w 355, 3) := by decide +kernel
theorem dX7_spread_62 : decode cX7_spread 62 = .ok (.lxor, 1) := by decide +kernel
theorem dX7_spread_63 : decode cX7_spread 63 = .ok (.land, 1) := by decide +kernel
theorem dX7_spread_64 : decode cX7_spread 64 = .ok (.lload_n 3, 1) := by decide +kernel
theorem dX7_spread_65 : decode cX7_spread 65 = .ok (.ldc2_w 355, 3) := by decide +kernel
theorem dX7_spread_68 : decode cX7_spread 68 = .ok (.lxor, 1) := by decide +kernel
theorem dX7_spread_69 : decode cX7_spread 69 = .ok (.land, 1) := by decide +kernel
theorem dX7_spread_70 : decode cX7_spread 70 = .ok (.lstore 11, 2) := by decide +kernel
theorem dX7_spread_72 : decode cX7_spread 72 = .ok (.lload 5, 2) := by decide +kernel
theorem dX7_spread_74 : decode cX7_spread 74 = .ok (.lload 11, 2) := by decide +kernel
theorem dX7_spread_76 : decode cX7_spread 76 = .ok (.lor, 1) := by decide +kernel
theorem dX7_spread_77 : decode cX7_spread 77 = .ok (.lstore 5, 2) := by decide +kernel
theorem dX7_spread_79 : decode cX7_spread 79 = .ok (.lload 7, 2) := by decide +kernel
theorem dX7_spread_81 : decode cX7_spread 81 = .ok (.lload 11, 2) := by decide +kernel
theorem dX7_spread_83 : decode cX7_spread 83 = .ok (.lor, 1) := by decide +kernel
theorem dX7_spread_84 : decode cX7_spread 84 = .ok (.lstore 7, 2) := by decide +kernel
theorem dX7_spread_86 : decode cX7_spread 86 = .ok (.iinc 9 1, 3) := by decide +kernel
theorem dX7_spread_89 : decode cX7_spread 89 = .ok (.goto (-73), 3) := by decide +kernel
theorem dX7_spread_92 : decode cX7_spread 92 = .ok (.lload 5, 2) := by decide +kernel
theorem dX7_spread_94 : decode cX7_spread 94 = .ok (.lreturn, 1) := by decide +kernel
theorem mw_73 : Cond.constantLong RX7 355 (-1) ∈ GW := gw_mem (inT2 _ (List.mem_of_getElem? (i := 140) rfl)) rfl
theorem mw_74 : Cond.code yX7_lowest cX7_lowest 2 (some Jvm.ClassFile.FieldType.int) ∈ GW := gw_mem (inT2 _ (List.mem_of_getElem? (i := 143) rfl)) rfl
theorem mw_75 : Cond.methodLink RX7 357 yX7_lowest ∈ GW := gw_mem (inT2 _ (List.mem_of_getElem? (i := 141) rfl)) rfl
theorem mw_76 : Cond.static yX7_lowest ∈ GW := gw_mem (inT2 _ (List.mem_of_getElem? (i := 142) rfl)) rfl
theorem mw_77 : Cond.initialized RX7 ∈ GW := gw_mem (inT1 _ (List.mem_of_getElem? (i := 1) rfl)) rfl
theorem mw_78 : Cond.code yX7_bit cX7_bit 1 (some Jvm.ClassFile.FieldType.long) ∈ GW := gw_mem (inT2 _ (List.mem_of_getElem? (i := 109) rfl)) rfl
theorem mw_79 : Cond.methodLink RX7 360 yX7_bit ∈ GW := gw_mem (inT2 _ (List.mem_of_getElem? (i := 150) rfl)) rfl
theorem mw_80 : Cond.static yX7_bit ∈ GW := gw_mem (inT2 _ (List.mem_of_getElem? (i := 108) rfl)) rfl
theorem mw_81 : Cond.code yX7_at_ cX7_at_ 2 (some Jvm.ClassFile.FieldType.long) ∈ GW := gw_mem (inT2 _ (List.mem_of_getElem? (i := 136) rfl)) rfl
theorem mw_82 : Cond.methodLink RX7 185 yX7_at_ ∈ GW := gw_mem (inT2 _ (List.mem_of_getElem? (i := 151) rfl)) rfl
theorem mw_83 : Cond.static yX7_at_ ∈ GW := gw_mem (inT2 _ (List.mem_of_getElem? (i := 135) rfl)) rfl
theorem pd_X7_lowest : yX7_lowest.cls ≠ "java/lang/invoke/MethodHandle" ∧ yX7_lowest.cls ≠ "java/lang/invoke/VarHandle" ∧ (parseMethodDescriptor yX7_lowest.desc).map (fun d => d.parameters.length) = some 1 := by decide +kernel
theorem pd_X7_bit : yX7_bit.cls ≠ "java/lang/invoke/MethodHandle" ∧ yX7_bit.cls ≠ "java/lang/invoke/VarHandle" ∧ (parseMethodDescriptor yX7_bit.desc).map (fun d => d.parameters.length) = some 1 := by decide +kernel
theorem pd_X7_at_ : yX7_at_.cls ≠ "java/lang/invoke/MethodHandle" ∧ yX7_at_.cls ≠ "java/lang/invoke/VarHandle" ∧ (parseMethodDescriptor yX7_at_.desc).map (fun d => d.parameters.length) = some 2 := by decide +kernel
set_option maxHeartbeats 4000000 in
set_option maxRecDepth 100000 in
theorem c_spread (l : Launch) (D : va_G) (cI cJ : ClassId) (w : va_W) (q0 a : Nat) (f : Nat → Int64) (x y : Int64) (hq : w[q0]? = some (a, .inl (cJ, 40, .inr (.inl f)))) : CT l D (TY cI cJ) yX7_spread (.code yX7_spread cX7_spread 13 (some Jvm.ClassFile.FieldType.long)) 2 0 0 w [.ref a, .long x, .long y] (QL D (TY cI cJ) (fun r u => r = spread f x y ∧ u = w)) := by
  refine ent (by decide) (Nat.le_of_ble_eq_true rfl) ?_
  intro p e s m below meth c ls A hx hb hr hg hown hml hlocks hnm hP hK hD hS hA hN hl
  have hl : lv_has ls 13 [(0, .ref a), (1, .long x), (3, .long y)] := hl
  refine lv_lload_n hx hb dX7_spread_0 rfl (lv_at hl 1 rfl) ?_
  refine lv_lload_n hx hb dX7_spread_1 rfl (lv_at hl 2 rfl) ?_
  refine lv_ldc2 (v := (-1)) hx hb hown (hg _ mw_73) dX7_spread_2 ?_
  refine lv_lxor hx hb dX7_spread_5 ?_
  refine lv_land hx hb dX7_spread_6 ?_
  refine lv_lstore (lv' := [(5, .long (x &&& (y ^^^ (-1)))), (0, .ref a), (1, .long x), (3, .long y)]) hx hb dX7_spread_7 hl (by decide) rfl (fun ls hl => ?_)
  refine lv_lload hx hb dX7_spread_9 (lv_at hl 0 rfl) ?_
  refine lv_lstore (lv' := [(7, .long (x &&& (y ^^^ (-1)))), (5, .long (x &&& (y ^^^ (-1)))), (0, .ref a), (1, .long x), (3, .long y)]) hx hb dX7_spread_11 hl (by decide) rfl (fun ls hl => ?_)
  refine lv_iconst (v := 0) hx hb dX7_spread_13 (by decide) ?_
  refine lv_istore (lv' := [(9, .int 0), (7, .long (x &&& (y ^^^ (-1)))), (5, .long (x &&& (y ^^^ (-1)))), (0, .ref a), (1, .long x), (3, .long y)]) hx hb dX7_spread_14 hl (by decide) rfl (fun ls hl => ?_)
  refine w_loop (σ := Int64 × Int64) (fun (i_1 : Nat) (p_1 : Int64 × Int64) (H : Heap) (locs : List Loc) (ls : Array Slot) => p_1 = (lpW spGo (spStep f y) i_1 ((x &&& (y ^^^ (-1))), (x &&& (y ^^^ (-1))))) ∧ va_P D vwCl w H ∧ va_D A w ∧ va_S A s.heap H locs ∧ lv_has ls 13 [(0, .ref a), (1, .long x), (3, .long y), (5, .long p_1.1), (7, .long p_1.2), (9, .int (nI i_1))]) (41) (fun p_1 H locs ls hI => ?_) (fun i_1 p_1 H locs ls hi_1 hI ih_1 => ?_) 0 ((x &&& (y ^^^ (-1))), (x &&& (y ^^^ (-1)))) (Nat.zero_le _) ⟨(lpW_0 _ _ _), hP, hD, hS, (by rw [nI_0]; exact lv_sub hl [3, 4, 5, 2, 1, 0] rfl)⟩
  · obtain ⟨h_1, hP, hD, hS, hl⟩ := hI
    have h_1 := h_1.symm
    subst h_1
    have hP : va_P D vwCl w H := hP
    have hD : va_D A w := hD
    have hl : lv_has ls 13 [(0, .ref a), (1, .long x), (3, .long y), (5, .long ((lpW spGo (spStep f y) (41) ((x &&& (y ^^^ (-1))), (x &&& (y ^^^ (-1))))).1)), (7, .long ((lpW spGo (spStep f y) (41) ((x &&& (y ^^^ (-1))), (x &&& (y ^^^ (-1))))).2)), (9, .int (nI 41))] := hl
    refine lv_iload hx hb dX7_spread_16 (lv_at hl 5 rfl) ?_
    refine lv_bipush (v := 40) hx hb dX7_spread_18 (by decide) ?_
    refine lv_icmp_gt (tgt := 92) hx hb dX7_spread_20 (by decide) (fun _ => ?_) (fun c_20 => absurd (by decide) c_20)
    refine lv_lload hx hb dX7_spread_92 (lv_at hl 3 rfl) ?_
    exact W.lret (v := ((lpW spGo (spStep f y) (41) ((x &&& (y ^^^ (-1))), (x &&& (y ^^^ (-1))))).1)) hx hb hr (fun t ht hW => ⟨⟨((lpW spGo (spStep f y) (41) ((x &&& (y ^^^ (-1))), (x &&& (y ^^^ (-1))))).1), w, rfl, ⟨(show ((lpW spGo (spStep f y) (41) ((x &&& (y ^^^ (-1))), (x &&& (y ^^^ (-1))))).1) = spread f x y from (by rfl)), rfl⟩, ⟨by rw [ht]; exact hP, va_K.moved hW.alike hK, hD⟩⟩, hS.F ht⟩) hS.2.2 dX7_spread_94
  · obtain ⟨h_1, hP, hD, hS, hl⟩ := hI
    have hP : va_P D vwCl w H := hP
    have hD : va_D A w := hD
    have hl : lv_has ls 13 [(0, .ref a), (1, .long x), (3, .long y), (5, .long p_1.1), (7, .long p_1.2), (9, .int (nI i_1))] := hl
    refine lv_iload hx hb dX7_spread_16 (lv_at hl 5 rfl) ?_
    refine lv_bipush (v := 40) hx hb dX7_spread_18 (by decide) ?_
    refine lv_icmp_gt (tgt := 92) hx hb dX7_spread_20 (by decide) (fun c_20 => absurd c_20 (nI_nlt (Nat.le_of_lt_succ hi_1) (by decide))) (fun _ => ?_)
    refine lv_lload hx hb dX7_spread_23 (lv_at hl 4 rfl) ?_
    refine lv_lconst (v := 0) hx hb dX7_spread_25 (by decide) ?_
    refine W.lcmp hx hb dX7_spread_26 ?_
    refine lv_if_eq (tgt := 92) hx hb dX7_spread_27 (by decide) (fun c_27 => ?_) (fun c_27 => ?_)
    · have c_27 : p_1.2 = 0 := lcmp_0 c_27
      have h_1 : p_1 = (lpW spGo (spStep f y) (41) ((x &&& (y ^^^ (-1))), (x &&& (y ^^^ (-1))))) := lpW_stop h_1 (by simp only [spGo, eq_true c_27, gi_sl, gi_sA, gi_sB, gi_si_s, gi_si_n, gl_si, gl_sA, gl_sB, gl_sl_s, gl_sl_n, gA_si, gA_sl, gA_sB, gA_sA_s, gA_sA_n, gB_si, gB_sl, gB_sA, gB_sB_s, gB_sB_n, Nat.reduceBEq, if_true, if_false, eq_self, Bool.false_eq_true, Bool.true_eq_false, not_true_eq_false, not_false_eq_true, decide_true, decide_false, cond_true, cond_false, Bool.true_and, Bool.false_and, Bool.and_true, Bool.and_false, Bool.true_or, Bool.false_or, Bool.or_true, Bool.or_false, b2i_tt, b2i_ff, pr_eta]; done) (Nat.le_of_lt hi_1)
      have h_1 := h_1.symm
      subst h_1
      have hP : va_P D vwCl w H := hP
      have hD : va_D A w := hD
      have hl : lv_has ls 13 [(0, .ref a), (1, .long x), (3, .long y), (5, .long ((lpW spGo (spStep f y) (41) ((x &&& (y ^^^ (-1))), (x &&& (y ^^^ (-1))))).1)), (7, .long ((lpW spGo (spStep f y) (41) ((x &&& (y ^^^ (-1))), (x &&& (y ^^^ (-1))))).2)), (9, .int (nI i_1))] := hl
      refine lv_lload hx hb dX7_spread_92 (lv_at hl 3 rfl) ?_
      exact W.lret (v := ((lpW spGo (spStep f y) (41) ((x &&& (y ^^^ (-1))), (x &&& (y ^^^ (-1))))).1)) hx hb hr (fun t ht hW => ⟨⟨((lpW spGo (spStep f y) (41) ((x &&& (y ^^^ (-1))), (x &&& (y ^^^ (-1))))).1), w, rfl, ⟨(show ((lpW spGo (spStep f y) (41) ((x &&& (y ^^^ (-1))), (x &&& (y ^^^ (-1))))).1) = spread f x y from (by rfl)), rfl⟩, ⟨by rw [ht]; exact hP, va_K.moved hW.alike hK, hD⟩⟩, hS.F ht⟩) hS.2.2 dX7_spread_94
    · have c_27 : ¬ p_1.2 = 0 := lcmp_1 c_27
      refine lv_lload hx hb dX7_spread_30 (lv_at hl 4 rfl) ?_
      refine kI (rS hx hb hml hown hg hN hK hP hD (c_lowest l D cI cJ w p_1.2) mw_74 mw_75 mw_76 mw_77 pd_X7_lowest ⟨Nat.le_of_ble_eq_true rfl, Nat.le_of_ble_eq_true rfl⟩ rfl hl.1 rfl (Nat.le_of_ble_eq_true rfl) dX7_spread_32 ⟨Nat.le_of_ble_eq_true rfl, Nat.le_of_ble_eq_true rfl⟩) hD hS hA (fun r_2 u_2 H locs hp hP hD hS => ?_)
      obtain ⟨er, eu⟩ := hp
      obtain rfl := er.symm
      obtain rfl := eu.symm
      refine lv_istore (lv' := [(10, .int (lowest p_1.2)), (0, .ref a), (1, .long x), (3, .long y), (5, .long p_1.1), (7, .long p_1.2), (9, .int (nI i_1))]) hx hb dX7_spread_35 hl (by decide) rfl (fun ls hl => ?_)
      refine lv_lload hx hb dX7_spread_37 (lv_at hl 5 rfl) ?_
      refine lv_iload hx hb dX7_spread_39 (lv_at hl 0 rfl) ?_
      refine kL (rS hx hb hml hown hg hN hK hP hD (c_bit l D cI cJ w (lowest p_1.2)) mw_78 mw_79 mw_80 mw_77 pd_X7_bit ⟨Nat.le_of_ble_eq_true rfl, Nat.le_of_ble_eq_true rfl⟩ rfl hl.1 rfl (Nat.le_of_ble_eq_true rfl) dX7_spread_41 ⟨Nat.le_of_ble_eq_true rfl, Nat.le_of_ble_eq_true rfl⟩) hD hS hA (fun r_3 u_3 H locs hp hP hD hS => ?_)
      obtain ⟨er, eu⟩ := hp
      obtain rfl := er.symm
      obtain rfl := eu.symm
      refine lv_ldc2 (v := (-1)) hx hb hown (hg _ mw_73) dX7_spread_44 ?_
      refine lv_lxor hx hb dX7_spread_47 ?_
      refine lv_land hx hb dX7_spread_48 ?_
      refine lv_lstore (lv' := [(7, .long (p_1.2 &&& ((bitL (lowest p_1.2)) ^^^ (-1)))), (10, .int (lowest p_1.2)), (0, .ref a), (1, .long x), (3, .long y), (5, .long p_1.1), (9, .int (nI i_1))]) hx hb dX7_spread_49 hl (by decide) rfl (fun ls hl => ?_)
      refine lv_aload_n hx hb dX7_spread_51 rfl (lv_at hl 2 rfl) ?_
      refine lv_iload hx hb dX7_spread_52 (lv_at hl 1 rfl) ?_
      refine kL (rS hx hb hml hown hg hN hK hP hD (c_atL l D cI cJ w q0 a 40 f (lowest p_1.2) hq (by decide)) mw_81 mw_82 mw_83 mw_77 pd_X7_at_ ⟨Nat.le_of_ble_eq_true rfl, Nat.le_of_ble_eq_true rfl⟩ rfl hl.1 rfl (Nat.le_of_ble_eq_true rfl) dX7_spread_54 ⟨Nat.le_of_ble_eq_true rfl, Nat.le_of_ble_eq_true rfl⟩) hD hS hA (fun r_4 u_4 H locs hp hP hD hS => ?_)
      obtain ⟨er, eu⟩ := hp
      obtain rfl := er.symm
      obtain rfl := eu.symm
      refine lv_lload hx hb dX7_spread_57 (lv_at hl 5 rfl) ?_
      refine lv_ldc2 (v := (-1)) hx hb hown (hg _ mw_73) dX7_spread_59 ?_
      refine lv_lxor hx hb dX7_spread_62 ?_
      refine lv_land hx hb dX7_spread_63 ?_
      refine lv_lload_n hx hb dX7_spread_64 rfl (lv_at hl 4 rfl) ?_
      refine lv_ldc2 (v := (-1)) hx hb hown (hg _ mw_73) dX7_spread_65 ?_
      refine lv_lxor hx hb dX7_spread_68 ?_
      refine lv_land hx hb dX7_spread_69 ?_
      refine lv_lstore (lv' := [(11, .long (((rdL f 40 (lowest p_1.2)) &&& (p_1.1 ^^^ (-1))) &&& (y ^^^ (-1)))), (7, .long (p_1.2 &&& ((bitL (lowest p_1.2)) ^^^ (-1)))), (10, .int (lowest p_1.2)), (0, .ref a), (1, .long x), (3, .long y), (5, .long p_1.1), (9, .int (nI i_1))]) hx hb dX7_spread_70 hl (by decide) rfl (fun ls hl => ?_)
      refine lv_lload hx hb dX7_spread_72 (lv_at hl 6 rfl) ?_
      refine lv_lload hx hb dX7_spread_74 (lv_at hl 0 rfl) ?_
      refine lv_lor hx hb dX7_spread_76 ?_
      refine lv_lstore (lv' := [(5, .long (p_1.1 ||| (((rdL f 40 (lowest p_1.2)) &&& (p_1.1 ^^^ (-1))) &&& (y ^^^ (-1))))), (11, .long (((rdL f 40 (lowest p_1.2)) &&& (p_1.1 ^^^ (-1))) &&& (y ^^^ (-1)))), (7, .long (p_1.2 &&& ((bitL (lowest p_1.2)) ^^^ (-1)))), (10, .int (lowest p_1.2)), (0, .ref a), (1, .long x), (3, .long y), (9, .int (nI i_1))]) hx hb dX7_spread_77 hl (by decide) rfl (fun ls hl => ?_)
      refine lv_lload hx hb dX7_spread_79 (lv_at hl 2 rfl) ?_
      refine lv_lload hx hb dX7_spread_81 (lv_at hl 1 rfl) ?_
      refine lv_lor hx hb dX7_spread_83 ?_
      refine lv_lstore (lv' := [(7, .long ((p_1.2 &&& ((bitL (lowest p_1.2)) ^^^ (-1))) ||| (((rdL f 40 (lowest p_1.2)) &&& (p_1.1 ^^^ (-1))) &&& (y ^^^ (-1))))), (5, .long (p_1.1 ||| (((rdL f 40 (lowest p_1.2)) &&& (p_1.1 ^^^ (-1))) &&& (y ^^^ (-1))))), (11, .long (((rdL f 40 (lowest p_1.2)) &&& (p_1.1 ^^^ (-1))) &&& (y ^^^ (-1)))), (10, .int (lowest p_1.2)), (0, .ref a), (1, .long x), (3, .long y), (9, .int (nI i_1))]) hx hb dX7_spread_84 hl (by decide) rfl (fun ls hl => ?_)
      refine lv_iinc (v := (nI (i_1 + 1))) (lv' := [(9, .int (nI (i_1 + 1))), (7, .long ((p_1.2 &&& ((bitL (lowest p_1.2)) ^^^ (-1))) ||| (((rdL f 40 (lowest p_1.2)) &&& (p_1.1 ^^^ (-1))) &&& (y ^^^ (-1))))), (5, .long (p_1.1 ||| (((rdL f 40 (lowest p_1.2)) &&& (p_1.1 ^^^ (-1))) &&& (y ^^^ (-1))))), (11, .long (((rdL f 40 (lowest p_1.2)) &&& (p_1.1 ^^^ (-1))) &&& (y ^^^ (-1)))), (10, .int (lowest p_1.2)), (0, .ref a), (1, .long x), (3, .long y)]) hx hb dX7_spread_86 hl (k := 7) rfl (nI_1 i_1) (by decide) rfl (fun ls hl => ?_)
      refine lv_goto (tgt := 16) hx hb dX7_spread_89 (by decide) ?_
      exact ih_1 ((p_1.1 ||| (((rdL f 40 (lowest p_1.2)) &&& (p_1.1 ^^^ (-1))) &&& (y ^^^ (-1)))), ((p_1.2 &&& ((bitL (lowest p_1.2)) ^^^ (-1))) ||| (((rdL f 40 (lowest p_1.2)) &&& (p_1.1 ^^^ (-1))) &&& (y ^^^ (-1))))) H locs ls ⟨((show ((p_1.1 ||| (((rdL f 40 (lowest p_1.2)) &&& (p_1.1 ^^^ (-1))) &&& (y ^^^ (-1)))), ((p_1.2 &&& ((bitL (lowest p_1.2)) ^^^ (-1))) ||| (((rdL f 40 (lowest p_1.2)) &&& (p_1.1 ^^^ (-1))) &&& (y ^^^ (-1))))) = (spStep f y) p_1 from (by simp only [spStep, eq_false c_27, gi_sl, gi_sA, gi_sB, gi_si_s, gi_si_n, gl_si, gl_sA, gl_sB, gl_sl_s, gl_sl_n, gA_si, gA_sl, gA_sB, gA_sA_s, gA_sA_n, gB_si, gB_sl, gB_sA, gB_sB_s, gB_sB_n, Nat.reduceBEq, if_true, if_false, eq_self, Bool.false_eq_true, Bool.true_eq_false, not_true_eq_false, not_false_eq_true, decide_true, decide_false, cond_true, cond_false, Bool.true_and, Bool.false_and, Bool.and_true, Bool.and_false, Bool.true_or, Bool.false_or, Bool.or_true, Bool.or_false, b2i_tt, b2i_ff, pr_eta]; done)).trans (lpW_go h_1 (by simp only [spGo, eq_false c_27, gi_sl, gi_sA, gi_sB, gi_si_s, gi_si_n, gl_si, gl_sA, gl_sB, gl_sl_s, gl_sl_n, gA_si, gA_sl, gA_sB, gA_sA_s, gA_sA_n, gB_si, gB_sl, gB_sA, gB_sB_s, gB_sB_n, Nat.reduceBEq, if_true, if_false, eq_self, Bool.false_eq_true, Bool.true_eq_false, not_true_eq_false, not_false_eq_true, decide_true, decide_false, cond_true, cond_false, Bool.true_and, Bool.false_and, Bool.and_true, Bool.and_false, Bool.true_or, Bool.false_or, Bool.or_true, Bool.or_false, b2i_tt, b2i_ff, pr_eta]; done))), hP, hD, hS, lv_sub hl [5, 6, 7, 2, 1, 0] rfl⟩
