theorem dX5_takeStep_0 : decode cX5_takeStep 0 = .ok (.aload_n 0, 1) := by decide +kernel
theorem dX5_takeStep_1 : decode cX5_takeStep 1 = .ok (.invokevirtual 61, 3) := by decide +kernel
theorem dX5_takeStep_4 : decode cX5_takeStep 4 = .ok (.iconst 0, 1) := by decide +kernel
theorem dX5_takeStep_5 : decode cX5_takeStep 5 = .ok (.istore_n 1, 1) := by decide +kernel
theorem dX5_takeStep_6 : decode cX5_takeStep 6 = .ok (.iload_n 1, 1) := by decide +kernel
theorem dX5_takeStep_7 : decode cX5_takeStep 7 = .ok (.bipush 40, 2) := by decide +kernel
theorem dX5_takeStep_9 : decode cX5_takeStep 9 = .ok (.if_icmp .ge 77, 3) := by decide +kernel
theorem dX5_takeStep_12 : decode cX5_takeStep 12 = .ok (.aload_n 0, 1) := by decide +kernel
theorem dX5_takeStep_13 : decode cX5_takeStep 13 = .ok (.getfield 34, 3) := by decide +kernel
theorem dX5_takeStep_16 : decode cX5_takeStep 16 = .ok (.iload_n 1, 1) := by decide +kernel
theorem dX5_takeStep_17 : decode cX5_takeStep 17 = .ok (.invokestatic 41, 3) := by decide +kernel
theorem dX5_takeStep_20 : decode cX5_takeStep 20 = .ok (.ifCond .eq 11, 3) := by decide +kernel
theorem dX5_takeStep_23 : decode cX5_takeStep 23 = .ok (.aload_n 0, 1) := by decide +kernel
theorem dX5_takeStep_24 : decode cX5_takeStep 24 = .ok (.iload_n 1, 1) := by decide +kernel
theorem dX5_takeStep_25 : decode cX5_takeStep 25 = .ok (.invokevirtual 64, 3) := by decide +kernel
theorem dX5_takeStep_28 : decode cX5_takeStep 28 = .ok (.goto 4, 3) := by decide +kernel
theorem dX5_takeStep_31 : decode cX5_takeStep 31 = .ok (.iconst (-1), 1) := by decide +kernel
theorem dX5_takeStep_32 : decode cX5_takeStep 32 = .ok (.istore_n 2, 1) := by decide +kernel
theorem dX5_takeStep_33 : decode cX5_takeStep 33 = .ok (.iload_n 2, 1) := by decide +kernel
theorem dX5_takeStep_34 : decode cX5_takeStep 34 = .ok (.iconst (-1), 1) := by decide +kernel
theorem dX5_takeStep_35 : decode cX5_takeStep 35 = .ok (.if_icmp .eq 45, 3) := by decide +kernel
theorem dX5_takeStep_38 : decode cX5_takeStep 38 = .ok (.aload_n 0, 1) := by decide +kernel
theorem dX5_takeStep_39 : decode cX5_takeStep 39 = .ok (.getfield 19, 3) := by decide +kernel
theorem dX5_takeStep_42 : decode cX5_takeStep 42 = .ok (.aload_n 0, 1) := by decide +kernel
theorem dX5_takeStep_43 : decode cX5_takeStep 43 = .ok (.getfield 37, 3) := by decide +kernel
theorem dX5_takeStep_46 : decode cX5_takeStep 46 = .ok (.iload_n 2, 1) := by decide +kernel
theorem dX5_takeStep_47 : decode cX5_takeStep 47 = .ok (.invokestatic 54, 3) := by decide +kernel
theorem dX5_takeStep_50 : decode cX5_takeStep 50 = .ok (.aload_n 0, 1) := by decide +kernel
theorem dX5_takeStep_51 : decode cX5_takeStep 51 = .ok (.getfield 22, 3) := by decide +kernel
theorem dX5_takeStep_54 : decode cX5_takeStep 54 = .ok (.aload_n 0, 1) := by decide +kernel
theorem dX5_takeStep_55 : decode cX5_takeStep 55 = .ok (.getfield 37, 3) := by decide +kernel
theorem dX5_takeStep_58 : decode cX5_takeStep 58 = .ok (.iload_n 1, 1) := by decide +kernel
theorem dX5_takeStep_59 : decode cX5_takeStep 59 = .ok (.invokestatic 54, 3) := by decide +kernel
theorem dX5_takeStep_62 : decode cX5_takeStep 62 = .ok (.aload_n 0, 1) := by decide +kernel
theorem dX5_takeStep_63 : decode cX5_takeStep 63 = .ok (.dup, 1) := by decide +kernel
theorem dX5_takeStep_64 : decode cX5_takeStep 64 = .ok (.getfield 37, 3) := by decide +kernel
theorem dX5_takeStep_67 : decode cX5_takeStep 67 = .ok (.iconst 1, 1) := by decide +kernel
theorem dX5_takeStep_68 : decode cX5_takeStep 68 = .ok (.iadd, 1) := by decide +kernel
theorem dX5_takeStep_69 : decode cX5_takeStep 69 = .ok (.putfield 37, 3) := by decide +kernel
theorem dX5_takeStep_72 : decode cX5_takeStep 72 = .ok (.aload_n 0, 1) := by decide +kernel
theorem dX5_takeStep_73 : decode cX5_takeStep 73 = .ok (.iload_n 2, 1) := by decide +kernel
theorem dX5_takeStep_74 : decode cX5_takeStep 74 = .ok (.iload_n 1, 1) := by decide +kernel
theorem dX5_takeStep_75 : decode cX5_takeStep 75 = .ok (.invokevirtual 68, 3) := by decide +kernel
theorem dX5_takeStep_78 : decode cX5_takeStep 78 = .ok (.iconst 1, 1) := by decide +kernel
theorem dX5_takeStep_79 : decode cX5_takeStep 79 = .ok (.ireturn, 1) := by decide +kernel
theorem dX5_takeStep_80 : decode cX5_takeStep 80 = .ok (.iinc 1 1, 3) := by decide +kernel
theorem dX5_takeStep_83 : decode cX5_takeStep 83 = .ok (.goto (-77), 3) := by decide +kernel
theorem dX5_takeStep_86 : decode cX5_takeStep 86 = .ok (.iconst 0, 1) := by decide +kernel
theorem dX5_takeStep_87 : decode cX5_takeStep 87 = .ok (.ireturn, 1) := by decide +kernel
theorem mw_184 : Cond.code yX5_findEntries cX5_findEntries 11 (none : Option FieldType) ∈ GW := gw_mem (inT2 _ (List.mem_of_getElem? (i := 224) rfl)) rfl
theorem mw_185 : Cond.methodLink RX5 61 yX5_findEntries ∈ GW := gw_mem (inT2 _ (List.mem_of_getElem? (i := 221) rfl)) rfl
theorem mw_186 : Cond.instanceMethod yX5_findEntries ∈ GW := gw_mem (inT2 _ (List.mem_of_getElem? (i := 223) rfl)) rfl
theorem mw_187 : Cond.selects RX5 yX5_findEntries yX5_findEntries ∈ GW := gw_mem (inTp (q := (yX5_findEntries, 8)) (List.mem_of_getElem? (i := 13) rfl)) rfl
theorem mw_188 : Cond.code yX5_ruleFor cX5_ruleFor 7 (some Jvm.ClassFile.FieldType.int) ∈ GW := gw_mem (inT2 _ (List.mem_of_getElem? (i := 230) rfl)) rfl
theorem mw_189 : Cond.methodLink RX5 64 yX5_ruleFor ∈ GW := gw_mem (inT2 _ (List.mem_of_getElem? (i := 227) rfl)) rfl
theorem mw_190 : Cond.instanceMethod yX5_ruleFor ∈ GW := gw_mem (inT2 _ (List.mem_of_getElem? (i := 229) rfl)) rfl
theorem mw_191 : Cond.selects RX5 yX5_ruleFor yX5_ruleFor ∈ GW := gw_mem (inTp (q := (yX5_ruleFor, 8)) (List.mem_of_getElem? (i := 14) rfl)) rfl
theorem mw_192 : Cond.fieldLink RX5 19 "OrielChart$Reduction" "rule" "[I" ∈ GW := gw_mem (inT1 _ (List.mem_of_getElem? (i := 181) rfl)) rfl
theorem mw_193 : Cond.fieldLink RX5 37 "OrielChart$Reduction" "stepCount" "I" ∈ GW := gw_mem (inT1 _ (List.mem_of_getElem? (i := 188) rfl)) rfl
theorem mw_194 : Cond.fieldLink RX5 22 "OrielChart$Reduction" "node" "[I" ∈ GW := gw_mem (inT1 _ (List.mem_of_getElem? (i := 183) rfl)) rfl
theorem mw_195 : Cond.code yX5_apply cX5_apply 9 (none : Option FieldType) ∈ GW := gw_mem (inT3 _ (List.mem_of_getElem? (i := 5) rfl)) rfl
theorem mw_196 : Cond.methodLink RX5 68 yX5_apply ∈ GW := gw_mem (inT3 _ (List.mem_of_getElem? (i := 2) rfl)) rfl
theorem mw_197 : Cond.instanceMethod yX5_apply ∈ GW := gw_mem (inT3 _ (List.mem_of_getElem? (i := 4) rfl)) rfl
theorem mw_198 : Cond.selects RX5 yX5_apply yX5_apply ∈ GW := gw_mem (inTp (q := (yX5_apply, 8)) (List.mem_of_getElem? (i := 17) rfl)) rfl
theorem pdv_X5_findEntries : yX5_findEntries.cls = RX5 ∧ yX5_findEntries.cls ≠ "java/lang/invoke/MethodHandle" ∧ yX5_findEntries.cls ≠ "java/lang/invoke/VarHandle" ∧ (parseMethodDescriptor yX5_findEntries.desc).map (fun d => d.parameters.length) = some 0 := by decide +kernel
theorem pdv_X5_ruleFor : yX5_ruleFor.cls = RX5 ∧ yX5_ruleFor.cls ≠ "java/lang/invoke/MethodHandle" ∧ yX5_ruleFor.cls ≠ "java/lang/invoke/VarHandle" ∧ (parseMethodDescriptor yX5_ruleFor.desc).map (fun d => d.parameters.length) = some 1 := by decide +kernel
theorem pdv_X5_apply : yX5_apply.cls = RX5 ∧ yX5_apply.cls ≠ "java/lang/invoke/MethodHandle" ∧ yX5_apply.cls ≠ "java/lang/invoke/VarHandle" ∧ (parseMethodDescriptor yX5_apply.desc).map (fun d => d.parameters.length) = some 2 := by decide +kernel
set_option maxHeartbeats 4000000 in
set_option maxRecDepth 100000 in
theorem c_takeStep (l : Launch) (D : va_G) (cI cJ : ClassId) (ad : Nat → Nat) (co fl ra li re wa pi : Ob) : CT l D (TY cI cJ) yX5_takeStep (.code yX5_takeStep cX5_takeStep 3 (some Jvm.ClassFile.FieldType.boolean)) 4 0 0 (XW ad cI cJ co fl ra li re wa pi) [.ref (ad 5)] (QI D (TY cI cJ) (fun r u => r = (b2i (takeStep re).2) ∧ u = (XW ad cI cJ co fl ra li (takeStep re).1 wa pi))) := by
  refine ent (by decide) (Nat.le_of_ble_eq_true rfl) ?_
  intro p e s m below meth c ls A hx hb hr hg hown hml hlocks hnm hP hK hD hS hA hN hl
  have hl : lv_has ls 3 [(0, .ref (ad 5))] := hl
  refine lv_aload_n hx hb dX5_takeStep_0 rfl (lv_at hl 0 rfl) ?_
  refine kV (rV (q0 := 5) (ci := 5) hx hb hml hown hg hN hK hP hD (c_findEntries l D cI cJ ad co fl ra li re wa pi) mw_184 mw_185 mw_186 mw_187 mw_173 pdv_X5_findEntries ⟨Nat.le_of_ble_eq_true rfl, Nat.le_of_ble_eq_true rfl⟩ rfl xo5 rfl hl.1 rfl (Nat.le_of_ble_eq_true rfl) dX5_takeStep_1 ⟨Nat.le_of_ble_eq_true rfl, Nat.le_of_ble_eq_true rfl⟩) hD hS hA (fun u_1 H locs hp hP hD hS => ?_)
  obtain rfl := hp.symm
  have hP : va_P D vwCl (XW ad cI cJ co fl ra li (findEntries re) wa pi) H := hP
  have hD : va_D A (XW ad cI cJ co fl ra li (findEntries re) wa pi) := hD
  refine lv_iconst (v := 0) hx hb dX5_takeStep_4 (by decide) ?_
  refine lv_istore_n (lv' := [(1, .int 0), (0, .ref (ad 5))]) hx hb dX5_takeStep_5 rfl hl (by decide) rfl (fun ls hl => ?_)
  refine w_loop (σ := Unit) (fun (i_2 : Nat) (p_2 : Unit) (H : Heap) (locs : List Loc) (ls : Array Slot) => p_2 = () ∧ (fnd (isFound (findEntries re)) i_2 = i_2) ∧ va_P D vwCl (XW ad cI cJ co fl ra li (findEntries re) wa pi) H ∧ va_D A (XW ad cI cJ co fl ra li (findEntries re) wa pi) ∧ va_S A s.heap H locs ∧ lv_has ls 3 [(0, .ref (ad 5)), (1, .int (nI i_2))]) (40) (fun p_2 H locs ls hI => ?_) (fun i_2 p_2 H locs ls hi_2 hI ih_2 => ?_) 0 () (Nat.zero_le _) ⟨rfl, rfl, hP, hD, hS, (by rw [nI_0]; exact lv_sub hl [1, 0] rfl)⟩
  · obtain ⟨h_2, hf_2, hP, hD, hS, hl⟩ := hI
    have h_2 := h_2.symm
    subst h_2
    have hP : va_P D vwCl (XW ad cI cJ co fl ra li (findEntries re) wa pi) H := hP
    have hD : va_D A (XW ad cI cJ co fl ra li (findEntries re) wa pi) := hD
    have hl : lv_has ls 3 [(0, .ref (ad 5)), (1, .int (nI 40))] := hl
    refine lv_iload_n hx hb dX5_takeStep_6 rfl (lv_at hl 1 rfl) ?_
    refine lv_bipush (v := 40) hx hb dX5_takeStep_7 (by decide) ?_
    refine lv_icmp_ge (tgt := 86) hx hb dX5_takeStep_9 (by decide) (fun _ => ?_) (fun c_9 => absurd (by decide) c_9)
    refine lv_iconst (v := 0) hx hb dX5_takeStep_86 (by decide) ?_
    exact W.zret (v := 0) hx hb hr rfl (fun t ht hW => ⟨⟨0, (XW ad cI cJ co fl ra li (findEntries re) wa pi), rfl, ⟨(show (0 : Int32) = b2i (takeStep re).2 from by rw [ts_no hf_2]; rfl), xw_eq rfl rfl rfl rfl (show (findEntries re) = (takeStep re).1 from by rw [ts_no hf_2]) rfl rfl⟩, ⟨by rw [ht]; exact hP, va_K.moved hW.alike hK, hD⟩⟩, hS.F ht⟩) hS.2.2 dX5_takeStep_87
  · obtain ⟨h_2, hf_2, hP, hD, hS, hl⟩ := hI
    have hP : va_P D vwCl (XW ad cI cJ co fl ra li (findEntries re) wa pi) H := hP
    have hD : va_D A (XW ad cI cJ co fl ra li (findEntries re) wa pi) := hD
    have hl : lv_has ls 3 [(0, .ref (ad 5)), (1, .int (nI i_2))] := hl
    refine lv_iload_n hx hb dX5_takeStep_6 rfl (lv_at hl 1 rfl) ?_
    refine lv_bipush (v := 40) hx hb dX5_takeStep_7 (by decide) ?_
    refine lv_icmp_ge (tgt := 86) hx hb dX5_takeStep_9 (by decide) (fun c_9 => absurd c_9 (nI_ge hi_2 (by decide))) (fun _ => ?_)
    refine lv_aload_n hx hb dX5_takeStep_12 rfl (lv_at hl 0 rfl) ?_
    refine va_get (D := D) (ci := 5) (v := .long (gl (findEntries re) 0)) (C := RX5) (T := TX5) (N := 8) hx hb hg inGX5 hown hK hP 5 xo5 rfl 5 (by decide) (hg _ mw_178) (fun _ h9 => h9) (xvX5_5 rfl) dX5_takeStep_13 ?_
    refine lv_iload_n hx hb dX5_takeStep_16 rfl (lv_at hl 1 rfl) ?_
    refine kI (rSN hx hb hml hown hg hN hK hP hD (c_has l D cI cJ (XW ad cI cJ co fl ra li (findEntries re) wa pi) (gl (findEntries re) 0) (nI i_2)) mw_89 nw_83 mw_90 mw_77 pd_X7_has ⟨Nat.le_of_ble_eq_true rfl, Nat.le_of_ble_eq_true rfl⟩ rfl hl.1 rfl (Nat.le_of_ble_eq_true rfl) dX5_takeStep_17 ⟨Nat.le_of_ble_eq_true rfl, Nat.le_of_ble_eq_true rfl⟩) hD hS hA (fun r_3 u_3 H locs hp hP hD hS => ?_)
    obtain ⟨er, eu⟩ := hp
    obtain rfl := er.symm
    obtain rfl := eu.symm
    refine lv_if_eq (tgt := 31) hx hb dX5_takeStep_20 (by decide) (fun c_20 => ?_) (fun c_20 => ?_)
    · have c_20 : ¬ (hs (gl (findEntries re) 0) (nI i_2)) = true := b2i_0 c_20
      refine lv_iconst (v := (-1)) hx hb dX5_takeStep_31 (by decide) ?_
      refine lv_istore_n (lv' := [(2, .int (-1)), (0, .ref (ad 5)), (1, .int (nI i_2))]) hx hb dX5_takeStep_32 rfl hl (by decide) rfl (fun ls hl => ?_)
      refine lv_iload_n hx hb dX5_takeStep_33 rfl (lv_at hl 0 rfl) ?_
      refine lv_iconst (v := (-1)) hx hb dX5_takeStep_34 (by decide) ?_
      refine lv_icmp_eq (tgt := 80) hx hb dX5_takeStep_35 (by decide) (fun _ => ?_) (fun c_35 => absurd (by decide) c_35)
      refine lv_iinc (v := (nI (i_2 + 1))) (lv' := [(1, .int (nI (i_2 + 1))), (2, .int (-1)), (0, .ref (ad 5))]) hx hb dX5_takeStep_80 hl (k := 2) rfl (nI_1 i_2) (by decide) rfl (fun ls hl => ?_)
      refine lv_goto (tgt := 6) hx hb dX5_takeStep_83 (by decide) ?_
      exact ih_2 () H locs ls ⟨rfl, (fnd_s hf_2 (show isFound (findEntries re) i_2 = false from (by simp only [isFound, foundAt, bf_of c_20, gi_sl, gi_sA, gi_sB, gi_si_s, gi_si_n, gl_si, gl_sA, gl_sB, gl_sl_s, gl_sl_n, gA_si, gA_sl, gA_sB, gA_sA_s, gA_sA_n, gB_si, gB_sl, gB_sA, gB_sB_s, gB_sB_n, Nat.reduceBEq, if_true, if_false, eq_self, Bool.false_eq_true, Bool.true_eq_false, not_true_eq_false, not_false_eq_true, decide_true, decide_false, cond_true, cond_false, Bool.true_and, Bool.false_and, Bool.and_true, Bool.and_false, Bool.true_or, Bool.false_or, Bool.or_true, Bool.or_false, b2i_tt, b2i_ff, pr_eta]; done))), hP, hD, hS, lv_sub hl [2, 0] rfl⟩
    · have c_20 : (hs (gl (findEntries re) 0) (nI i_2)) = true := b2i_1 c_20
      refine lv_aload_n hx hb dX5_takeStep_23 rfl (lv_at hl 0 rfl) ?_
      refine lv_iload_n hx hb dX5_takeStep_24 rfl (lv_at hl 1 rfl) ?_
      refine kI (rV (q0 := 5) (ci := 5) hx hb hml hown hg hN hK hP hD (c_ruleFor l D cI cJ ad co fl ra li (findEntries re) wa pi (nI i_2)) mw_188 mw_189 mw_190 mw_191 mw_173 pdv_X5_ruleFor ⟨Nat.le_of_ble_eq_true rfl, Nat.le_of_ble_eq_true rfl⟩ rfl xo5 rfl hl.1 rfl (Nat.le_of_ble_eq_true rfl) dX5_takeStep_25 ⟨Nat.le_of_ble_eq_true rfl, Nat.le_of_ble_eq_true rfl⟩) hD hS hA (fun r_4 u_4 H locs hp hP hD hS => ?_)
      obtain ⟨er, eu⟩ := hp
      obtain rfl := er.symm
      obtain rfl := eu.symm
      refine lv_goto (tgt := 32) hx hb dX5_takeStep_28 (by decide) ?_
      refine lv_istore_n (lv' := [(2, .int (ruleFor (findEntries re) (nI i_2))), (0, .ref (ad 5)), (1, .int (nI i_2))]) hx hb dX5_takeStep_32 rfl hl (by decide) rfl (fun ls hl => ?_)
      refine lv_iload_n hx hb dX5_takeStep_33 rfl (lv_at hl 0 rfl) ?_
      refine lv_iconst (v := (-1)) hx hb dX5_takeStep_34 (by decide) ?_
      refine lv_icmp_eq (tgt := 80) hx hb dX5_takeStep_35 (by decide) (fun c_35 => ?_) (fun c_35 => ?_)
      · refine lv_iinc (v := (nI (i_2 + 1))) (lv' := [(1, .int (nI (i_2 + 1))), (2, .int (ruleFor (findEntries re) (nI i_2))), (0, .ref (ad 5))]) hx hb dX5_takeStep_80 hl (k := 2) rfl (nI_1 i_2) (by decide) rfl (fun ls hl => ?_)
        refine lv_goto (tgt := 6) hx hb dX5_takeStep_83 (by decide) ?_
        exact ih_2 () H locs ls ⟨rfl, (fnd_s hf_2 (show isFound (findEntries re) i_2 = false from (by simp only [isFound, foundAt, c_20, eq_true c_35, gi_sl, gi_sA, gi_sB, gi_si_s, gi_si_n, gl_si, gl_sA, gl_sB, gl_sl_s, gl_sl_n, gA_si, gA_sl, gA_sB, gA_sA_s, gA_sA_n, gB_si, gB_sl, gB_sA, gB_sB_s, gB_sB_n, Nat.reduceBEq, if_true, if_false, eq_self, Bool.false_eq_true, Bool.true_eq_false, not_true_eq_false, not_false_eq_true, decide_true, decide_false, cond_true, cond_false, Bool.true_and, Bool.false_and, Bool.and_true, Bool.and_false, Bool.true_or, Bool.false_or, Bool.or_true, Bool.or_false, b2i_tt, b2i_ff, pr_eta]; done))), hP, hD, hS, lv_sub hl [2, 0] rfl⟩
      · refine lv_aload_n hx hb dX5_takeStep_38 rfl (lv_at hl 1 rfl) ?_
        refine va_get (D := D) (ci := 5) (v := .ref (ad 26)) (C := RX5) (T := TX5) (N := 8) hx hb hg inGX5 hown hK hP 5 xo5 rfl 2 (by decide) (hg _ mw_192) (fun _ h9 => h9) xvX5_2 dX5_takeStep_39 ?_
        refine lv_aload_n hx hb dX5_takeStep_42 rfl (lv_at hl 1 rfl) ?_
        refine va_get (D := D) (ci := 5) (v := .int (gi (findEntries re) 0)) (C := RX5) (T := TX5) (N := 8) hx hb hg inGX5 hown hK hP 5 xo5 rfl 6 (by decide) (hg _ mw_193) (fun _ h9 => h9) (xvX5_6 rfl) dX5_takeStep_43 ?_
        refine lv_iload_n hx hb dX5_takeStep_46 rfl (lv_at hl 0 rfl) ?_
        refine kV (rSN hx hb hml hown hg hN hK hP hD (c_put l D cI cJ (XW ad cI cJ co fl ra li (findEntries re) wa pi) 26 (ad 26) 120 (gA (findEntries re) 1) (gi (findEntries re) 0) (ruleFor (findEntries re) (nI i_2)) (xg26 rfl) (by decide)) mw_92 nw_86 mw_93 mw_77 pd_X7_put ⟨Nat.le_of_ble_eq_true rfl, Nat.le_of_ble_eq_true rfl⟩ rfl hl.1 rfl (Nat.le_of_ble_eq_true rfl) dX5_takeStep_47 ⟨Nat.le_of_ble_eq_true rfl, Nat.le_of_ble_eq_true rfl⟩) hD hS hA (fun u_5 H locs hp hP hD hS => ?_)
        obtain rfl := hp.symm
        have hP : va_P D vwCl (XW ad cI cJ co fl ra li (sA (findEntries re) 1 (wr (gA (findEntries re) 1) 120 (gi (findEntries re) 0) (ruleFor (findEntries re) (nI i_2)))) wa pi) H := cgP xs26 hP
        have hD : va_D A (XW ad cI cJ co fl ra li (sA (findEntries re) 1 (wr (gA (findEntries re) 1) 120 (gi (findEntries re) 0) (ruleFor (findEntries re) (nI i_2)))) wa pi) := cgD xs26 hD
        refine lv_aload_n hx hb dX5_takeStep_50 rfl (lv_at hl 1 rfl) ?_
        refine va_get (D := D) (ci := 5) (v := .ref (ad 27)) (C := RX5) (T := TX5) (N := 8) hx hb hg inGX5 hown hK hP 5 xo5 rfl 3 (by decide) (hg _ mw_194) (fun _ h9 => h9) xvX5_3 dX5_takeStep_51 ?_
        refine lv_aload_n hx hb dX5_takeStep_54 rfl (lv_at hl 1 rfl) ?_
        refine va_get (D := D) (ci := 5) (v := .int (gi (findEntries re) 0)) (C := RX5) (T := TX5) (N := 8) hx hb hg inGX5 hown hK hP 5 xo5 rfl 6 (by decide) (hg _ mw_193) (fun _ h9 => h9) (xvX5_6 (by simp only [gi_sl, gi_sA, gi_sB, gi_si_s, gi_si_n, gl_si, gl_sA, gl_sB, gl_sl_s, gl_sl_n, gA_si, gA_sl, gA_sB, gA_sA_s, gA_sA_n, gB_si, gB_sl, gB_sA, gB_sB_s, gB_sB_n, Nat.reduceBEq])) dX5_takeStep_55 ?_
        refine lv_iload_n hx hb dX5_takeStep_58 rfl (lv_at hl 2 rfl) ?_
        refine kV (rSN hx hb hml hown hg hN hK hP hD (c_put l D cI cJ (XW ad cI cJ co fl ra li (sA (findEntries re) 1 (wr (gA (findEntries re) 1) 120 (gi (findEntries re) 0) (ruleFor (findEntries re) (nI i_2)))) wa pi) 27 (ad 27) 120 (gA (findEntries re) 2) (gi (findEntries re) 0) (nI i_2) (xg27 (by simp only [gi_sl, gi_sA, gi_sB, gi_si_s, gi_si_n, gl_si, gl_sA, gl_sB, gl_sl_s, gl_sl_n, gA_si, gA_sl, gA_sB, gA_sA_s, gA_sA_n, gB_si, gB_sl, gB_sA, gB_sB_s, gB_sB_n, Nat.reduceBEq])) (by decide)) mw_92 nw_86 mw_93 mw_77 pd_X7_put ⟨Nat.le_of_ble_eq_true rfl, Nat.le_of_ble_eq_true rfl⟩ rfl hl.1 rfl (Nat.le_of_ble_eq_true rfl) dX5_takeStep_59 ⟨Nat.le_of_ble_eq_true rfl, Nat.le_of_ble_eq_true rfl⟩) hD hS hA (fun u_6 H locs hp hP hD hS => ?_)
        obtain rfl := hp.symm
        have hP : va_P D vwCl (XW ad cI cJ co fl ra li (sA (sA (findEntries re) 1 (wr (gA (findEntries re) 1) 120 (gi (findEntries re) 0) (ruleFor (findEntries re) (nI i_2)))) 2 (wr (gA (findEntries re) 2) 120 (gi (findEntries re) 0) (nI i_2))) wa pi) H := cgP xs27 hP
        have hD : va_D A (XW ad cI cJ co fl ra li (sA (sA (findEntries re) 1 (wr (gA (findEntries re) 1) 120 (gi (findEntries re) 0) (ruleFor (findEntries re) (nI i_2)))) 2 (wr (gA (findEntries re) 2) 120 (gi (findEntries re) 0) (nI i_2))) wa pi) := cgD xs27 hD
        refine lv_aload_n hx hb dX5_takeStep_62 rfl (lv_at hl 1 rfl) ?_
        refine lv_dup hx hb dX5_takeStep_63 rfl ?_
        refine va_get (D := D) (ci := 5) (v := .int (gi (findEntries re) 0)) (C := RX5) (T := TX5) (N := 8) hx hb hg inGX5 hown hK hP 5 xo5 rfl 6 (by decide) (hg _ mw_193) (fun _ h9 => h9) (xvX5_6 (by simp only [gi_sl, gi_sA, gi_sB, gi_si_s, gi_si_n, gl_si, gl_sA, gl_sB, gl_sl_s, gl_sl_n, gA_si, gA_sl, gA_sB, gA_sA_s, gA_sA_n, gB_si, gB_sl, gB_sA, gB_sB_s, gB_sB_n, Nat.reduceBEq])) dX5_takeStep_64 ?_
        refine lv_iconst (v := 1) hx hb dX5_takeStep_67 (by decide) ?_
        refine lv_iadd hx hb dX5_takeStep_68 ?_
        refine va_put (D := D) (ci := 5) (v := .int ((gi (findEntries re) 0) + 1)) (C := RX5) (T := TX5) (N := 8) hx hb hg inGX5 tyX5 tyX5_ok nmX5 hown hK hP hD hS 5 xo5 rfl 6 (by decide) (hg _ mw_193) (fun _ h9 => h9) rfl (tyX5_ok 6 (by decide)) rfl rfl (Nat.le_of_ble_eq_true rfl) dX5_takeStep_69 (fun H locs hP hD hS => ?_)
        have hP : va_P D vwCl (XW ad cI cJ co fl ra li (si (sA (sA (findEntries re) 1 (wr (gA (findEntries re) 1) 120 (gi (findEntries re) 0) (ruleFor (findEntries re) (nI i_2)))) 2 (wr (gA (findEntries re) 2) 120 (gi (findEntries re) 0) (nI i_2))) 0 ((gi (findEntries re) 0) + 1)) wa pi) H := cgP xpX5_6 hP
        have hD : va_D A (XW ad cI cJ co fl ra li (si (sA (sA (findEntries re) 1 (wr (gA (findEntries re) 1) 120 (gi (findEntries re) 0) (ruleFor (findEntries re) (nI i_2)))) 2 (wr (gA (findEntries re) 2) 120 (gi (findEntries re) 0) (nI i_2))) 0 ((gi (findEntries re) 0) + 1)) wa pi) := cgD xpX5_6 hD
        refine lv_aload_n hx hb dX5_takeStep_72 rfl (lv_at hl 1 rfl) ?_
        refine lv_iload_n hx hb dX5_takeStep_73 rfl (lv_at hl 0 rfl) ?_
        refine lv_iload_n hx hb dX5_takeStep_74 rfl (lv_at hl 2 rfl) ?_
        refine kV (rV (q0 := 5) (ci := 5) hx hb hml hown hg hN hK hP hD (c_apply l D cI cJ ad co fl ra li (si (sA (sA (findEntries re) 1 (wr (gA (findEntries re) 1) 120 (gi (findEntries re) 0) (ruleFor (findEntries re) (nI i_2)))) 2 (wr (gA (findEntries re) 2) 120 (gi (findEntries re) 0) (nI i_2))) 0 ((gi (findEntries re) 0) + 1)) wa pi (ruleFor (findEntries re) (nI i_2)) (nI i_2)) mw_195 mw_196 mw_197 mw_198 mw_173 pdv_X5_apply ⟨Nat.le_of_ble_eq_true rfl, Nat.le_of_ble_eq_true rfl⟩ rfl xo5 rfl hl.1 rfl (Nat.le_of_ble_eq_true rfl) dX5_takeStep_75 ⟨Nat.le_of_ble_eq_true rfl, Nat.le_of_ble_eq_true rfl⟩) hD hS hA (fun u_7 H locs hp hP hD hS => ?_)
        obtain rfl := hp.symm
        have hP : va_P D vwCl (XW ad cI cJ co fl ra li (apply (si (sA (sA (findEntries re) 1 (wr (gA (findEntries re) 1) 120 (gi (findEntries re) 0) (ruleFor (findEntries re) (nI i_2)))) 2 (wr (gA (findEntries re) 2) 120 (gi (findEntries re) 0) (nI i_2))) 0 ((gi (findEntries re) 0) + 1)) (ruleFor (findEntries re) (nI i_2)) (nI i_2)) wa pi) H := hP
        have hD : va_D A (XW ad cI cJ co fl ra li (apply (si (sA (sA (findEntries re) 1 (wr (gA (findEntries re) 1) 120 (gi (findEntries re) 0) (ruleFor (findEntries re) (nI i_2)))) 2 (wr (gA (findEntries re) 2) 120 (gi (findEntries re) 0) (nI i_2))) 0 ((gi (findEntries re) 0) + 1)) (ruleFor (findEntries re) (nI i_2)) (nI i_2)) wa pi) := hD
        refine lv_iconst (v := 1) hx hb dX5_takeStep_78 (by decide) ?_
        exact W.zret (v := 1) hx hb hr rfl (fun t ht hW => ⟨⟨1, (XW ad cI cJ co fl ra li (apply (si (sA (sA (findEntries re) 1 (wr (gA (findEntries re) 1) 120 (gi (findEntries re) 0) (ruleFor (findEntries re) (nI i_2)))) 2 (wr (gA (findEntries re) 2) 120 (gi (findEntries re) 0) (nI i_2))) 0 ((gi (findEntries re) 0) + 1)) (ruleFor (findEntries re) (nI i_2)) (nI i_2)) wa pi), rfl, ⟨(show (1 : Int32) = b2i (takeStep re).2 from by rw [(ts_yes hi_2 hf_2 (show isFound (findEntries re) i_2 = true from (by simp only [isFound, foundAt, c_20, eq_false c_35, gi_sl, gi_sA, gi_sB, gi_si_s, gi_si_n, gl_si, gl_sA, gl_sB, gl_sl_s, gl_sl_n, gA_si, gA_sl, gA_sB, gA_sA_s, gA_sA_n, gB_si, gB_sl, gB_sA, gB_sB_s, gB_sB_n, Nat.reduceBEq, if_true, if_false, eq_self, Bool.false_eq_true, Bool.true_eq_false, not_true_eq_false, not_false_eq_true, decide_true, decide_false, cond_true, cond_false, Bool.true_and, Bool.false_and, Bool.and_true, Bool.and_false, Bool.true_or, Bool.false_or, Bool.or_true, Bool.or_false, b2i_tt, b2i_ff, pr_eta]; done)))]; rfl), xw_eq rfl rfl rfl rfl (show (apply (si (sA (sA (findEntries re) 1 (wr (gA (findEntries re) 1) 120 (gi (findEntries re) 0) (ruleFor (findEntries re) (nI i_2)))) 2 (wr (gA (findEntries re) 2) 120 (gi (findEntries re) 0) (nI i_2))) 0 ((gi (findEntries re) 0) + 1)) (ruleFor (findEntries re) (nI i_2)) (nI i_2)) = (takeStep re).1 from by rw [(ts_yes hi_2 hf_2 (show isFound (findEntries re) i_2 = true from (by simp only [isFound, foundAt, c_20, eq_false c_35, gi_sl, gi_sA, gi_sB, gi_si_s, gi_si_n, gl_si, gl_sA, gl_sB, gl_sl_s, gl_sl_n, gA_si, gA_sl, gA_sB, gA_sA_s, gA_sA_n, gB_si, gB_sl, gB_sA, gB_sB_s, gB_sB_n, Nat.reduceBEq, if_true, if_false, eq_self, Bool.false_eq_true, Bool.true_eq_false, not_true_eq_false, not_false_eq_true, decide_true, decide_false, cond_true, cond_false, Bool.true_and, Bool.false_and, Bool.and_true, Bool.and_false, Bool.true_or, Bool.false_or, Bool.or_true, Bool.or_false, b2i_tt, b2i_ff, pr_eta]; done)))]; exact (by simp only [tsPut, foundAt, c_20, eq_false c_35, gi_sl, gi_sA, gi_sB, gi_si_s, gi_si_n, gl_si, gl_sA, gl_sB, gl_sl_s, gl_sl_n, gA_si, gA_sl, gA_sB, gA_sA_s, gA_sA_n, gB_si, gB_sl, gB_sA, gB_sB_s, gB_sB_n, Nat.reduceBEq, if_true, if_false, eq_self, Bool.false_eq_true, Bool.true_eq_false, not_true_eq_false, not_false_eq_true, decide_true, decide_false, cond_true, cond_false, Bool.true_and, Bool.false_and, Bool.and_true, Bool.and_false, Bool.true_or, Bool.false_or, Bool.or_true, Bool.or_false, b2i_tt, b2i_ff, pr_eta]; done)) rfl rfl⟩, ⟨by rw [ht]; exact hP, va_K.moved hW.alike hK, hD⟩⟩, hS.F ht⟩) hS.2.2 dX5_takeStep_79
