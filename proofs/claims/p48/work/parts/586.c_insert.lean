theorem dX7_insert_0 : decode cX7_insert 0 = .ok (.iload_n 1, 1) := by decide +kernel
theorem dX7_insert_1 : decode cX7_insert 1 = .ok (.ifCond .lt 14, 3) := by decide +kernel
theorem dX7_insert_4 : decode cX7_insert 4 = .ok (.iload_n 1, 1) := by decide +kernel
theorem dX7_insert_5 : decode cX7_insert 5 = .ok (.aload_n 0, 1) := by decide +kernel
theorem dX7_insert_6 : decode cX7_insert 6 = .ok (.getfield 10, 3) := by decide +kernel
theorem dX7_insert_9 : decode cX7_insert 9 = .ok (.getfield 51, 3) := by decide +kernel
theorem dX7_insert_12 : decode cX7_insert 12 = .ok (.if_icmp .le 13, 3) := by decide +kernel
theorem dX7_insert_25 : decode cX7_insert 25 = .ok (.iload_n 2, 1) := by decide +kernel
theorem dX7_insert_26 : decode cX7_insert 26 = .ok (.ifCond .lt 8, 3) := by decide +kernel
theorem dX7_insert_29 : decode cX7_insert 29 = .ok (.iload_n 2, 1) := by decide +kernel
theorem dX7_insert_30 : decode cX7_insert 30 = .ok (.iconst 3, 1) := by decide +kernel
theorem dX7_insert_31 : decode cX7_insert 31 = .ok (.if_icmp .le 13, 3) := by decide +kernel
theorem dX7_insert_44 : decode cX7_insert 44 = .ok (.iload_n 2, 1) := by decide +kernel
theorem dX7_insert_45 : decode cX7_insert 45 = .ok (.invokestatic 64, 3) := by decide +kernel
theorem dX7_insert_48 : decode cX7_insert 48 = .ok (.ifCond .eq 20, 3) := by decide +kernel
theorem dX7_insert_51 : decode cX7_insert 51 = .ok (.iload_n 3, 1) := by decide +kernel
theorem dX7_insert_52 : decode cX7_insert 52 = .ok (.invokestatic 68, 3) := by decide +kernel
theorem dX7_insert_55 : decode cX7_insert 55 = .ok (.ifCond .ne 13, 3) := by decide +kernel
theorem dX7_insert_68 : decode cX7_insert 68 = .ok (.aload_n 0, 1) := by decide +kernel
theorem dX7_insert_69 : decode cX7_insert 69 = .ok (.getfield 10, 3) := by decide +kernel
theorem dX7_insert_72 : decode cX7_insert 72 = .ok (.getfield 51, 3) := by decide +kernel
theorem dX7_insert_75 : decode cX7_insert 75 = .ok (.bipush 40, 2) := by decide +kernel
theorem dX7_insert_77 : decode cX7_insert 77 = .ok (.if_icmp .lt 13, 3) := by decide +kernel
theorem dX7_insert_90 : decode cX7_insert 90 = .ok (.aload_n 0, 1) := by decide +kernel
theorem dX7_insert_91 : decode cX7_insert 91 = .ok (.getfield 10, 3) := by decide +kernel
theorem dX7_insert_94 : decode cX7_insert 94 = .ok (.iload_n 1, 1) := by decide +kernel
theorem dX7_insert_95 : decode cX7_insert 95 = .ok (.iload_n 2, 1) := by decide +kernel
theorem dX7_insert_96 : decode cX7_insert 96 = .ok (.iload_n 2, 1) := by decide +kernel
theorem dX7_insert_97 : decode cX7_insert 97 = .ok (.invokestatic 64, 3) := by decide +kernel
theorem dX7_insert_100 : decode cX7_insert 100 = .ok (.ifCond .eq 7, 3) := by decide +kernel
theorem dX7_insert_103 : decode cX7_insert 103 = .ok (.iload_n 3, 1) := by decide +kernel
theorem dX7_insert_104 : decode cX7_insert 104 = .ok (.goto 4, 3) := by decide +kernel
theorem dX7_insert_107 : decode cX7_insert 107 = .ok (.iconst 0, 1) := by decide +kernel
theorem dX7_insert_108 : decode cX7_insert 108 = .ok (.invokevirtual 78, 3) := by decide +kernel
theorem dX7_insert_111 : decode cX7_insert 111 = .ok (.aload_n 0, 1) := by decide +kernel
theorem dX7_insert_112 : decode cX7_insert 112 = .ok (.invokevirtual 82, 3) := by decide +kernel
theorem dX7_insert_115 : decode cX7_insert 115 = .ok (.aload_n 0, 1) := by decide +kernel
theorem dX7_insert_116 : decode cX7_insert 116 = .ok (.getfield 10, 3) := by decide +kernel
theorem dX7_insert_119 : decode cX7_insert 119 = .ok (.getfield 51, 3) := by decide +kernel
theorem dX7_insert_122 : decode cX7_insert 122 = .ok (.ireturn, 1) := by decide +kernel
theorem mw_445 : Cond.methodLink RX7 64 yX7_jumps ∈ GW := gw_mem (inT4 _ (List.mem_of_getElem? (i := 14) rfl)) rfl
theorem mw_446 : Cond.code yX0_add cX0_add 5 (none : Option FieldType) ∈ GW := gw_mem (inT4 _ (List.mem_of_getElem? (i := 38) rfl)) rfl
theorem mw_447 : Cond.methodLink RX7 78 yX0_add ∈ GW := gw_mem (inT4 _ (List.mem_of_getElem? (i := 35) rfl)) rfl
theorem mw_448 : Cond.instanceMethod yX0_add ∈ GW := gw_mem (inT4 _ (List.mem_of_getElem? (i := 36) rfl)) rfl
theorem mw_449 : Cond.selects RX0 yX0_add yX0_add ∈ GW := gw_mem (inT4 _ (List.mem_of_getElem? (i := 37) rfl)) rfl
theorem mw_450 : Cond.code yX7_forget cX7_forget 1 (none : Option FieldType) ∈ GW := gw_mem (inT4 _ (List.mem_of_getElem? (i := 55) rfl)) rfl
theorem mw_451 : Cond.methodLink RX7 82 yX7_forget ∈ GW := gw_mem (inT4 _ (List.mem_of_getElem? (i := 52) rfl)) rfl
theorem mw_452 : Cond.instanceMethod yX7_forget ∈ GW := gw_mem (inT4 _ (List.mem_of_getElem? (i := 54) rfl)) rfl
theorem mw_453 : Cond.selects RX7 yX7_forget yX7_forget ∈ GW := gw_mem (inTp (q := (yX7_forget, 6)) (List.mem_of_getElem? (i := 40) rfl)) rfl
theorem mw_454 : Cond.code yX7_isTarget cX7_isTarget 1 (some Jvm.ClassFile.FieldType.boolean) ∈ GW := gw_mem (inT4 _ (List.mem_of_getElem? (i := 17) rfl)) rfl
theorem mw_455 : Cond.methodLink RX7 68 yX7_isTarget ∈ GW := gw_mem (inT4 _ (List.mem_of_getElem? (i := 15) rfl)) rfl
theorem mw_456 : Cond.static yX7_isTarget ∈ GW := gw_mem (inT4 _ (List.mem_of_getElem? (i := 16) rfl)) rfl
theorem pdv_X0_add : yX0_add.cls = RX0 ∧ yX0_add.cls ≠ "java/lang/invoke/MethodHandle" ∧ yX0_add.cls ≠ "java/lang/invoke/VarHandle" ∧ (parseMethodDescriptor yX0_add.desc).map (fun d => d.parameters.length) = some 3 := by decide +kernel
theorem pdv_X7_forget : yX7_forget.cls = RX7 ∧ yX7_forget.cls ≠ "java/lang/invoke/MethodHandle" ∧ yX7_forget.cls ≠ "java/lang/invoke/VarHandle" ∧ (parseMethodDescriptor yX7_forget.desc).map (fun d => d.parameters.length) = some 0 := by decide +kernel
theorem pd_X7_isTarget : yX7_isTarget.cls ≠ "java/lang/invoke/MethodHandle" ∧ yX7_isTarget.cls ≠ "java/lang/invoke/VarHandle" ∧ (parseMethodDescriptor yX7_isTarget.desc).map (fun d => d.parameters.length) = some 1 := by decide +kernel
set_option maxHeartbeats 4000000 in
set_option maxRecDepth 100000 in
theorem c_insert (l : Launch) (D : va_G) (cI cJ : ClassId) (ad : Nat → Nat) (co fl ra li re wa pi : Ob) (k1 : Int32) (k2 : Int32) (k3 : Int32) (k0 : ¬ k1 < 0) (k1c : ¬ gi co 0 < k1) (k20 : ¬ k2 < 0) (k23 : ¬ 3 < k2) (ht : isT k3 = true) (hc : gi co 0 < 40) : CT l D (TY cI cJ) yX7_insert (.code yX7_insert cX7_insert 4 (some Jvm.ClassFile.FieldType.int)) 3 0 0 (XW ad cI cJ co fl ra li re wa pi) [.ref (ad 0), .int k1, .int k2, .int k3] (QI D (TY cI cJ) (fun r u => r = (gi (coAdd co k1 k2 (if jmp k2 = true then k3 else 0)) 0) ∧ u = (XW ad cI cJ (coAdd co k1 k2 (if jmp k2 = true then k3 else 0)) (si fl 2 0) (si ra 2 0) (si li 1 0) (si re 1 0) wa (si pi 3 0)))) := by
  refine ent (by decide) (Nat.le_of_ble_eq_true rfl) ?_
  intro p e s m below meth c ls A hx hb hr hg hown hml hlocks hnm hP hK hD hS hA hN hl
  have hl : lv_has ls 4 [(0, .ref (ad 0)), (1, .int k1), (2, .int k2), (3, .int k3)] := hl
  refine lv_iload_n hx hb dX7_insert_0 rfl (lv_at hl 1 rfl) ?_
  refine lv_if_lt (tgt := 15) hx hb dX7_insert_1 (by decide) (fun c_1 => absurd c_1 k0) (fun _ => ?_)
  refine lv_iload_n hx hb dX7_insert_4 rfl (lv_at hl 1 rfl) ?_
  refine lv_aload_n hx hb dX7_insert_5 rfl (lv_at hl 0 rfl) ?_
  refine va_get (D := D) (ci := 7) (v := .ref (ad 1)) (C := RX7) (T := TX7) (N := 6) hx hb hg inGX7 hown hK hP 0 xo0 rfl 0 (by decide) (hg _ mw_323) (fun _ h9 => h9) xvX7_0 dX7_insert_6 ?_
  refine va_getN (D := D) (ci := 0) (v := .int (gi co 0)) (C := RX0) (T := TX0) (N := 5) hx hb hg inGX0 hown hK hP 1 xo1 rfl 4 (by decide) (hN.use nw_10) (fun _ h9 => h9) (xvX0_4 rfl) dX7_insert_9 ?_
  refine lv_icmp_le (tgt := 25) hx hb dX7_insert_12 (by decide) (fun _ => ?_) (fun c_12 => absurd (i_ge' k1c) c_12)
  refine lv_iload_n hx hb dX7_insert_25 rfl (lv_at hl 2 rfl) ?_
  refine lv_if_lt (tgt := 34) hx hb dX7_insert_26 (by decide) (fun c_26 => absurd c_26 k20) (fun _ => ?_)
  refine lv_iload_n hx hb dX7_insert_29 rfl (lv_at hl 2 rfl) ?_
  refine lv_iconst (v := 3) hx hb dX7_insert_30 (by decide) ?_
  refine lv_icmp_le (tgt := 44) hx hb dX7_insert_31 (by decide) (fun _ => ?_) (fun c_31 => absurd (i_ge' k23) c_31)
  refine lv_iload_n hx hb dX7_insert_44 rfl (lv_at hl 2 rfl) ?_
  refine kI (rS hx hb hml hown hg hN hK hP hD (c_jumps l D cI cJ (XW ad cI cJ co fl ra li re wa pi) k2) mw_86 mw_445 mw_87 mw_77 pd_X7_jumps ⟨Nat.le_of_ble_eq_true rfl, Nat.le_of_ble_eq_true rfl⟩ rfl hl.1 rfl (Nat.le_of_ble_eq_true rfl) dX7_insert_45 ⟨Nat.le_of_ble_eq_true rfl, Nat.le_of_ble_eq_true rfl⟩) hD hS hA (fun r_1 u_1 H locs hp hP hD hS => ?_)
  obtain ⟨er, eu⟩ := hp
  obtain rfl := er.symm
  obtain rfl := eu.symm
  refine lv_if_eq (tgt := 68) hx hb dX7_insert_48 (by decide) (fun c_48 => ?_) (fun c_48 => ?_)
  · have c_48 : ¬ (jmp k2) = true := b2i_0 c_48
    refine lv_aload_n hx hb dX7_insert_68 rfl (lv_at hl 0 rfl) ?_
    refine va_get (D := D) (ci := 7) (v := .ref (ad 1)) (C := RX7) (T := TX7) (N := 6) hx hb hg inGX7 hown hK hP 0 xo0 rfl 0 (by decide) (hg _ mw_323) (fun _ h9 => h9) xvX7_0 dX7_insert_69 ?_
    refine va_getN (D := D) (ci := 0) (v := .int (gi co 0)) (C := RX0) (T := TX0) (N := 5) hx hb hg inGX0 hown hK hP 1 xo1 rfl 4 (by decide) (hN.use nw_10) (fun _ h9 => h9) (xvX0_4 rfl) dX7_insert_72 ?_
    refine lv_bipush (v := 40) hx hb dX7_insert_75 (by decide) ?_
    refine lv_icmp_lt (tgt := 90) hx hb dX7_insert_77 (by decide) (fun _ => ?_) (fun c_77 => absurd hc c_77)
    refine lv_aload_n hx hb dX7_insert_90 rfl (lv_at hl 0 rfl) ?_
    refine va_get (D := D) (ci := 7) (v := .ref (ad 1)) (C := RX7) (T := TX7) (N := 6) hx hb hg inGX7 hown hK hP 0 xo0 rfl 0 (by decide) (hg _ mw_323) (fun _ h9 => h9) xvX7_0 dX7_insert_91 ?_
    refine lv_iload_n hx hb dX7_insert_94 rfl (lv_at hl 1 rfl) ?_
    refine lv_iload_n hx hb dX7_insert_95 rfl (lv_at hl 2 rfl) ?_
    refine lv_iload_n hx hb dX7_insert_96 rfl (lv_at hl 2 rfl) ?_
    refine kI (rS hx hb hml hown hg hN hK hP hD (c_jumps l D cI cJ (XW ad cI cJ co fl ra li re wa pi) k2) mw_86 mw_445 mw_87 mw_77 pd_X7_jumps ⟨Nat.le_of_ble_eq_true rfl, Nat.le_of_ble_eq_true rfl⟩ rfl hl.1 rfl (Nat.le_of_ble_eq_true rfl) dX7_insert_97 ⟨Nat.le_of_ble_eq_true rfl, Nat.le_of_ble_eq_true rfl⟩) hD hS hA (fun r_2 u_2 H locs hp hP hD hS => ?_)
    obtain ⟨er, eu⟩ := hp
    obtain rfl := er.symm
    obtain rfl := eu.symm
    refine lv_if_eq (tgt := 107) hx hb dX7_insert_100 (by decide) (fun _ => ?_) (fun c_100 => absurd (b2i_f c_48) c_100)
    refine lv_iconst (v := 0) hx hb dX7_insert_107 (by decide) ?_
    refine kV (rV (q0 := 1) (ci := 0) hx hb hml hown hg hN hK hP hD (c_add l D cI cJ ad co fl ra li re wa pi k1 k2 0) mw_446 mw_447 mw_448 mw_449 mw_362 pdv_X0_add ⟨Nat.le_of_ble_eq_true rfl, Nat.le_of_ble_eq_true rfl⟩ rfl xo1 rfl hl.1 rfl (Nat.le_of_ble_eq_true rfl) dX7_insert_108 ⟨Nat.le_of_ble_eq_true rfl, Nat.le_of_ble_eq_true rfl⟩) hD hS hA (fun u_3 H locs hp hP hD hS => ?_)
    obtain rfl := hp.symm
    have hP : va_P D vwCl (XW ad cI cJ (coAdd co k1 k2 0) fl ra li re wa pi) H := hP
    have hD : va_D A (XW ad cI cJ (coAdd co k1 k2 0) fl ra li re wa pi) := hD
    refine lv_aload_n hx hb dX7_insert_111 rfl (lv_at hl 0 rfl) ?_
    refine kV (rV (q0 := 0) (ci := 7) hx hb hml hown hg hN hK hP hD (c_forget l D cI cJ ad (coAdd co k1 k2 0) fl ra li re wa pi) mw_450 mw_451 mw_452 mw_453 mw_77 pdv_X7_forget ⟨Nat.le_of_ble_eq_true rfl, Nat.le_of_ble_eq_true rfl⟩ rfl xo0 rfl hl.1 rfl (Nat.le_of_ble_eq_true rfl) dX7_insert_112 ⟨Nat.le_of_ble_eq_true rfl, Nat.le_of_ble_eq_true rfl⟩) hD hS hA (fun u_4 H locs hp hP hD hS => ?_)
    obtain rfl := hp.symm
    have hP : va_P D vwCl (XW ad cI cJ (coAdd co k1 k2 0) (si fl 2 0) (si ra 2 0) (si li 1 0) (si re 1 0) wa (si pi 3 0)) H := hP
    have hD : va_D A (XW ad cI cJ (coAdd co k1 k2 0) (si fl 2 0) (si ra 2 0) (si li 1 0) (si re 1 0) wa (si pi 3 0)) := hD
    refine lv_aload_n hx hb dX7_insert_115 rfl (lv_at hl 0 rfl) ?_
    refine va_get (D := D) (ci := 7) (v := .ref (ad 1)) (C := RX7) (T := TX7) (N := 6) hx hb hg inGX7 hown hK hP 0 xo0 rfl 0 (by decide) (hg _ mw_323) (fun _ h9 => h9) xvX7_0 dX7_insert_116 ?_
    refine va_getN (D := D) (ci := 0) (v := .int (gi (coAdd co k1 k2 0) 0)) (C := RX0) (T := TX0) (N := 5) hx hb hg inGX0 hown hK hP 1 xo1 rfl 4 (by decide) (hN.use nw_10) (fun _ h9 => h9) (xvX0_4 rfl) dX7_insert_119 ?_
    exact W.iret (v := (gi (coAdd co k1 k2 0) 0)) hx hb hr (fun t ht hW => ⟨⟨(gi (coAdd co k1 k2 0) 0), (XW ad cI cJ (coAdd co k1 k2 0) (si fl 2 0) (si ra 2 0) (si li 1 0) (si re 1 0) wa (si pi 3 0)), rfl, ⟨(show ((gi (coAdd co k1 k2 0) 0) : Int32) = (gi (coAdd co k1 k2 (if jmp k2 = true then k3 else 0)) 0) from (by simp only [bf_of c_48, gi_sl, gi_sA, gi_sB, gi_si_s, gi_si_n, gl_si, gl_sA, gl_sB, gl_sl_s, gl_sl_n, gA_si, gA_sl, gA_sB, gA_sA_s, gA_sA_n, gB_si, gB_sl, gB_sA, gB_sB_s, gB_sB_n, Nat.reduceBEq, if_true, if_false, eq_self, Bool.false_eq_true, Bool.true_eq_false, not_true_eq_false, not_false_eq_true, decide_true, decide_false, cond_true, cond_false, Bool.true_and, Bool.false_and, Bool.and_true, Bool.and_false, Bool.true_or, Bool.false_or, Bool.or_true, Bool.or_false, b2i_tt, b2i_ff, pr_eta]; done)), xw_eq (show (coAdd co k1 k2 0) = (coAdd co k1 k2 (if jmp k2 = true then k3 else 0)) from (by simp only [bf_of c_48, gi_sl, gi_sA, gi_sB, gi_si_s, gi_si_n, gl_si, gl_sA, gl_sB, gl_sl_s, gl_sl_n, gA_si, gA_sl, gA_sB, gA_sA_s, gA_sA_n, gB_si, gB_sl, gB_sA, gB_sB_s, gB_sB_n, Nat.reduceBEq, if_true, if_false, eq_self, Bool.false_eq_true, Bool.true_eq_false, not_true_eq_false, not_false_eq_true, decide_true, decide_false, cond_true, cond_false, Bool.true_and, Bool.false_and, Bool.and_true, Bool.and_false, Bool.true_or, Bool.false_or, Bool.or_true, Bool.or_false, b2i_tt, b2i_ff, pr_eta]; done)) (show (si fl 2 0) = (si fl 2 0) from (by simp only [bf_of c_48, gi_sl, gi_sA, gi_sB, gi_si_s, gi_si_n, gl_si, gl_sA, gl_sB, gl_sl_s, gl_sl_n, gA_si, gA_sl, gA_sB, gA_sA_s, gA_sA_n, gB_si, gB_sl, gB_sA, gB_sB_s, gB_sB_n, Nat.reduceBEq, if_true, if_false, eq_self, Bool.false_eq_true, Bool.true_eq_false, not_true_eq_false, not_false_eq_true, decide_true, decide_false, cond_true, cond_false, Bool.true_and, Bool.false_and, Bool.and_true, Bool.and_false, Bool.true_or, Bool.false_or, Bool.or_true, Bool.or_false, b2i_tt, b2i_ff, pr_eta]; done)) (show (si ra 2 0) = (si ra 2 0) from (by simp only [bf_of c_48, gi_sl, gi_sA, gi_sB, gi_si_s, gi_si_n, gl_si, gl_sA, gl_sB, gl_sl_s, gl_sl_n, gA_si, gA_sl, gA_sB, gA_sA_s, gA_sA_n, gB_si, gB_sl, gB_sA, gB_sB_s, gB_sB_n, Nat.reduceBEq, if_true, if_false, eq_self, Bool.false_eq_true, Bool.true_eq_false, not_true_eq_false, not_false_eq_true, decide_true, decide_false, cond_true, cond_false, Bool.true_and, Bool.false_and, Bool.and_true, Bool.and_false, Bool.true_or, Bool.false_or, Bool.or_true, Bool.or_false, b2i_tt, b2i_ff, pr_eta]; done)) (show (si li 1 0) = (si li 1 0) from (by simp only [bf_of c_48, gi_sl, gi_sA, gi_sB, gi_si_s, gi_si_n, gl_si, gl_sA, gl_sB, gl_sl_s, gl_sl_n, gA_si, gA_sl, gA_sB, gA_sA_s, gA_sA_n, gB_si, gB_sl, gB_sA, gB_sB_s, gB_sB_n, Nat.reduceBEq, if_true, if_false, eq_self, Bool.false_eq_true, Bool.true_eq_false, not_true_eq_false, not_false_eq_true, decide_true, decide_false, cond_true, cond_false, Bool.true_and, Bool.false_and, Bool.and_true, Bool.and_false, Bool.true_or, Bool.false_or, Bool.or_true, Bool.or_false, b2i_tt, b2i_ff, pr_eta]; done)) (show (si re 1 0) = (si re 1 0) from (by simp only [bf_of c_48, gi_sl, gi_sA, gi_sB, gi_si_s, gi_si_n, gl_si, gl_sA, gl_sB, gl_sl_s, gl_sl_n, gA_si, gA_sl, gA_sB, gA_sA_s, gA_sA_n, gB_si, gB_sl, gB_sA, gB_sB_s, gB_sB_n, Nat.reduceBEq, if_true, if_false, eq_self, Bool.false_eq_true, Bool.true_eq_false, not_true_eq_false, not_false_eq_true, decide_true, decide_false, cond_true, cond_false, Bool.true_and, Bool.false_and, Bool.and_true, Bool.and_false, Bool.true_or, Bool.false_or, Bool.or_true, Bool.or_false, b2i_tt, b2i_ff, pr_eta]; done)) rfl (show (si pi 3 0) = (si pi 3 0) from (by simp only [bf_of c_48, gi_sl, gi_sA, gi_sB, gi_si_s, gi_si_n, gl_si, gl_sA, gl_sB, gl_sl_s, gl_sl_n, gA_si, gA_sl, gA_sB, gA_sA_s, gA_sA_n, gB_si, gB_sl, gB_sA, gB_sB_s, gB_sB_n, Nat.reduceBEq, if_true, if_false, eq_self, Bool.false_eq_true, Bool.true_eq_false, not_true_eq_false, not_false_eq_true, decide_true, decide_false, cond_true, cond_false, Bool.true_and, Bool.false_and, Bool.and_true, Bool.and_false, Bool.true_or, Bool.false_or, Bool.or_true, Bool.or_false, b2i_tt, b2i_ff, pr_eta]; done))⟩, ⟨by rw [ht]; exact hP, va_K.moved hW.alike hK, hD⟩⟩, hS.F ht⟩) hS.2.2 dX7_insert_122
  · have c_48 : (jmp k2) = true := b2i_1 c_48
    refine lv_iload_n hx hb dX7_insert_51 rfl (lv_at hl 3 rfl) ?_
    refine kI (rS hx hb hml hown hg hN hK hP hD (c_isTarget l D cI cJ (XW ad cI cJ co fl ra li re wa pi) k3) mw_454 mw_455 mw_456 mw_77 pd_X7_isTarget ⟨Nat.le_of_ble_eq_true rfl, Nat.le_of_ble_eq_true rfl⟩ rfl hl.1 rfl (Nat.le_of_ble_eq_true rfl) dX7_insert_52 ⟨Nat.le_of_ble_eq_true rfl, Nat.le_of_ble_eq_true rfl⟩) hD hS hA (fun r_5 u_5 H locs hp hP hD hS => ?_)
    obtain ⟨er, eu⟩ := hp
    obtain rfl := er.symm
    obtain rfl := eu.symm
    refine lv_if_ne (tgt := 68) hx hb dX7_insert_55 (by decide) (fun _ => ?_) (fun c_55 => absurd c_55 (b2i_t ht))
    refine lv_aload_n hx hb dX7_insert_68 rfl (lv_at hl 0 rfl) ?_
    refine va_get (D := D) (ci := 7) (v := .ref (ad 1)) (C := RX7) (T := TX7) (N := 6) hx hb hg inGX7 hown hK hP 0 xo0 rfl 0 (by decide) (hg _ mw_323) (fun _ h9 => h9) xvX7_0 dX7_insert_69 ?_
    refine va_getN (D := D) (ci := 0) (v := .int (gi co 0)) (C := RX0) (T := TX0) (N := 5) hx hb hg inGX0 hown hK hP 1 xo1 rfl 4 (by decide) (hN.use nw_10) (fun _ h9 => h9) (xvX0_4 rfl) dX7_insert_72 ?_
    refine lv_bipush (v := 40) hx hb dX7_insert_75 (by decide) ?_
    refine lv_icmp_lt (tgt := 90) hx hb dX7_insert_77 (by decide) (fun _ => ?_) (fun c_77 => absurd hc c_77)
    refine lv_aload_n hx hb dX7_insert_90 rfl (lv_at hl 0 rfl) ?_
    refine va_get (D := D) (ci := 7) (v := .ref (ad 1)) (C := RX7) (T := TX7) (N := 6) hx hb hg inGX7 hown hK hP 0 xo0 rfl 0 (by decide) (hg _ mw_323) (fun _ h9 => h9) xvX7_0 dX7_insert_91 ?_
    refine lv_iload_n hx hb dX7_insert_94 rfl (lv_at hl 1 rfl) ?_
    refine lv_iload_n hx hb dX7_insert_95 rfl (lv_at hl 2 rfl) ?_
    refine lv_iload_n hx hb dX7_insert_96 rfl (lv_at hl 2 rfl) ?_
    refine kI (rS hx hb hml hown hg hN hK hP hD (c_jumps l D cI cJ (XW ad cI cJ co fl ra li re wa pi) k2) mw_86 mw_445 mw_87 mw_77 pd_X7_jumps ⟨Nat.le_of_ble_eq_true rfl, Nat.le_of_ble_eq_true rfl⟩ rfl hl.1 rfl (Nat.le_of_ble_eq_true rfl) dX7_insert_97 ⟨Nat.le_of_ble_eq_true rfl, Nat.le_of_ble_eq_true rfl⟩) hD hS hA (fun r_6 u_6 H locs hp hP hD hS => ?_)
    obtain ⟨er, eu⟩ := hp
    obtain rfl := er.symm
    obtain rfl := eu.symm
    refine lv_if_eq (tgt := 107) hx hb dX7_insert_100 (by decide) (fun c_100 => absurd c_100 (b2i_t c_48)) (fun _ => ?_)
    refine lv_iload_n hx hb dX7_insert_103 rfl (lv_at hl 3 rfl) ?_
    refine lv_goto (tgt := 108) hx hb dX7_insert_104 (by decide) ?_
    refine kV (rV (q0 := 1) (ci := 0) hx hb hml hown hg hN hK hP hD (c_add l D cI cJ ad co fl ra li re wa pi k1 k2 k3) mw_446 mw_447 mw_448 mw_449 mw_362 pdv_X0_add ⟨Nat.le_of_ble_eq_true rfl, Nat.le_of_ble_eq_true rfl⟩ rfl xo1 rfl hl.1 rfl (Nat.le_of_ble_eq_true rfl) dX7_insert_108 ⟨Nat.le_of_ble_eq_true rfl, Nat.le_of_ble_eq_true rfl⟩) hD hS hA (fun u_7 H locs hp hP hD hS => ?_)
    obtain rfl := hp.symm
    have hP : va_P D vwCl (XW ad cI cJ (coAdd co k1 k2 k3) fl ra li re wa pi) H := hP
    have hD : va_D A (XW ad cI cJ (coAdd co k1 k2 k3) fl ra li re wa pi) := hD
    refine lv_aload_n hx hb dX7_insert_111 rfl (lv_at hl 0 rfl) ?_
    refine kV (rV (q0 := 0) (ci := 7) hx hb hml hown hg hN hK hP hD (c_forget l D cI cJ ad (coAdd co k1 k2 k3) fl ra li re wa pi) mw_450 mw_451 mw_452 mw_453 mw_77 pdv_X7_forget ⟨Nat.le_of_ble_eq_true rfl, Nat.le_of_ble_eq_true rfl⟩ rfl xo0 rfl hl.1 rfl (Nat.le_of_ble_eq_true rfl) dX7_insert_112 ⟨Nat.le_of_ble_eq_true rfl, Nat.le_of_ble_eq_true rfl⟩) hD hS hA (fun u_8 H locs hp hP hD hS => ?_)
    obtain rfl := hp.symm
    have hP : va_P D vwCl (XW ad cI cJ (coAdd co k1 k2 k3) (si fl 2 0) (si ra 2 0) (si li 1 0) (si re 1 0) wa (si pi 3 0)) H := hP
    have hD : va_D A (XW ad cI cJ (coAdd co k1 k2 k3) (si fl 2 0) (si ra 2 0) (si li 1 0) (si re 1 0) wa (si pi 3 0)) := hD
    refine lv_aload_n hx hb dX7_insert_115 rfl (lv_at hl 0 rfl) ?_
    refine va_get (D := D) (ci := 7) (v := .ref (ad 1)) (C := RX7) (T := TX7) (N := 6) hx hb hg inGX7 hown hK hP 0 xo0 rfl 0 (by decide) (hg _ mw_323) (fun _ h9 => h9) xvX7_0 dX7_insert_116 ?_
    refine va_getN (D := D) (ci := 0) (v := .int (gi (coAdd co k1 k2 k3) 0)) (C := RX0) (T := TX0) (N := 5) hx hb hg inGX0 hown hK hP 1 xo1 rfl 4 (by decide) (hN.use nw_10) (fun _ h9 => h9) (xvX0_4 rfl) dX7_insert_119 ?_
    exact W.iret (v := (gi (coAdd co k1 k2 k3) 0)) hx hb hr (fun t ht hW => ⟨⟨(gi (coAdd co k1 k2 k3) 0), (XW ad cI cJ (coAdd co k1 k2 k3) (si fl 2 0) (si ra 2 0) (si li 1 0) (si re 1 0) wa (si pi 3 0)), rfl, ⟨(show ((gi (coAdd co k1 k2 k3) 0) : Int32) = (gi (coAdd co k1 k2 (if jmp k2 = true then k3 else 0)) 0) from (by simp only [c_48, gi_sl, gi_sA, gi_sB, gi_si_s, gi_si_n, gl_si, gl_sA, gl_sB, gl_sl_s, gl_sl_n, gA_si, gA_sl, gA_sB, gA_sA_s, gA_sA_n, gB_si, gB_sl, gB_sA, gB_sB_s, gB_sB_n, Nat.reduceBEq, if_true, if_false, eq_self, Bool.false_eq_true, Bool.true_eq_false, not_true_eq_false, not_false_eq_true, decide_true, decide_false, cond_true, cond_false, Bool.true_and, Bool.false_and, Bool.and_true, Bool.and_false, Bool.true_or, Bool.false_or, Bool.or_true, Bool.or_false, b2i_tt, b2i_ff, pr_eta]; done)), xw_eq (show (coAdd co k1 k2 k3) = (coAdd co k1 k2 (if jmp k2 = true then k3 else 0)) from (by simp only [c_48, gi_sl, gi_sA, gi_sB, gi_si_s, gi_si_n, gl_si, gl_sA, gl_sB, gl_sl_s, gl_sl_n, gA_si, gA_sl, gA_sB, gA_sA_s, gA_sA_n, gB_si, gB_sl, gB_sA, gB_sB_s, gB_sB_n, Nat.reduceBEq, if_true, if_false, eq_self, Bool.false_eq_true, Bool.true_eq_false, not_true_eq_false, not_false_eq_true, decide_true, decide_false, cond_true, cond_false, Bool.true_and, Bool.false_and, Bool.and_true, Bool.and_false, Bool.true_or, Bool.false_or, Bool.or_true, Bool.or_false, b2i_tt, b2i_ff, pr_eta]; done)) (show (si fl 2 0) = (si fl 2 0) from (by simp only [c_48, gi_sl, gi_sA, gi_sB, gi_si_s, gi_si_n, gl_si, gl_sA, gl_sB, gl_sl_s, gl_sl_n, gA_si, gA_sl, gA_sB, gA_sA_s, gA_sA_n, gB_si, gB_sl, gB_sA, gB_sB_s, gB_sB_n, Nat.reduceBEq, if_true, if_false, eq_self, Bool.false_eq_true, Bool.true_eq_false, not_true_eq_false, not_false_eq_true, decide_true, decide_false, cond_true, cond_false, Bool.true_and, Bool.false_and, Bool.and_true, Bool.and_false, Bool.true_or, Bool.false_or, Bool.or_true, Bool.or_false, b2i_tt, b2i_ff, pr_eta]; done)) (show (si ra 2 0) = (si ra 2 0) from (by simp only [c_48, gi_sl, gi_sA, gi_sB, gi_si_s, gi_si_n, gl_si, gl_sA, gl_sB, gl_sl_s, gl_sl_n, gA_si, gA_sl, gA_sB, gA_sA_s, gA_sA_n, gB_si, gB_sl, gB_sA, gB_sB_s, gB_sB_n, Nat.reduceBEq, if_true, if_false, eq_self, Bool.false_eq_true, Bool.true_eq_false, not_true_eq_false, not_false_eq_true, decide_true, decide_false, cond_true, cond_false, Bool.true_and, Bool.false_and, Bool.and_true, Bool.and_false, Bool.true_or, Bool.false_or, Bool.or_true, Bool.or_false, b2i_tt, b2i_ff, pr_eta]; done)) (show (si li 1 0) = (si li 1 0) from (by simp only [c_48, gi_sl, gi_sA, gi_sB, gi_si_s, gi_si_n, gl_si, gl_sA, gl_sB, gl_sl_s, gl_sl_n, gA_si, gA_sl, gA_sB, gA_sA_s, gA_sA_n, gB_si, gB_sl, gB_sA, gB_sB_s, gB_sB_n, Nat.reduceBEq, if_true, if_false, eq_self, Bool.false_eq_true, Bool.true_eq_false, not_true_eq_false, not_false_eq_true, decide_true, decide_false, cond_true, cond_false, Bool.true_and, Bool.false_and, Bool.and_true, Bool.and_false, Bool.true_or, Bool.false_or, Bool.or_true, Bool.or_false, b2i_tt, b2i_ff, pr_eta]; done)) (show (si re 1 0) = (si re 1 0) from (by simp only [c_48, gi_sl, gi_sA, gi_sB, gi_si_s, gi_si_n, gl_si, gl_sA, gl_sB, gl_sl_s, gl_sl_n, gA_si, gA_sl, gA_sB, gA_sA_s, gA_sA_n, gB_si, gB_sl, gB_sA, gB_sB_s, gB_sB_n, Nat.reduceBEq, if_true, if_false, eq_self, Bool.false_eq_true, Bool.true_eq_false, not_true_eq_false, not_false_eq_true, decide_true, decide_false, cond_true, cond_false, Bool.true_and, Bool.false_and, Bool.and_true, Bool.and_false, Bool.true_or, Bool.false_or, Bool.or_true, Bool.or_false, b2i_tt, b2i_ff, pr_eta]; done)) rfl (show (si pi 3 0) = (si pi 3 0) from (by simp only [c_48, gi_sl, gi_sA, gi_sB, gi_si_s, gi_si_n, gl_si, gl_sA, gl_sB, gl_sl_s, gl_sl_n, gA_si, gA_sl, gA_sB, gA_sA_s, gA_sA_n, gB_si, gB_sl, gB_sA, gB_sB_s, gB_sB_n, Nat.reduceBEq, if_true, if_false, eq_self, Bool.false_eq_true, Bool.true_eq_false, not_true_eq_false, not_false_eq_true, decide_true, decide_false, cond_true, cond_false, Bool.true_and, Bool.false_and, Bool.and_true, Bool.and_false, Bool.true_or, Bool.false_or, Bool.or_true, Bool.or_false, b2i_tt, b2i_ff, pr_eta]; done))⟩, ⟨by rw [ht]; exact hP, va_K.moved hW.alike hK, hD⟩⟩, hS.F ht⟩) hS.2.2 dX7_insert_122
