theorem dX5_ruleFor_0 : decode cX5_ruleFor 0 = .ok (.aload_n 0, 1) := by decide +kernel
theorem dX5_ruleFor_1 : decode cX5_ruleFor 1 = .ok (.getfield 9, 3) := by decide +kernel
theorem dX5_ruleFor_4 : decode cX5_ruleFor 4 = .ok (.iload_n 1, 1) := by decide +kernel
theorem dX5_ruleFor_5 : decode cX5_ruleFor 5 = .ok (.invokestatic 46, 3) := by decide +kernel
theorem dX5_ruleFor_8 : decode cX5_ruleFor 8 = .ok (.lstore_n 2, 1) := by decide +kernel
theorem dX5_ruleFor_9 : decode cX5_ruleFor 9 = .ok (.lload_n 2, 1) := by decide +kernel
theorem dX5_ruleFor_10 : decode cX5_ruleFor 10 = .ok (.iload_n 1, 1) := by decide +kernel
theorem dX5_ruleFor_11 : decode cX5_ruleFor 11 = .ok (.invokestatic 41, 3) := by decide +kernel
theorem dX5_ruleFor_14 : decode cX5_ruleFor 14 = .ok (.ifCond .eq 5, 3) := by decide +kernel
theorem dX5_ruleFor_17 : decode cX5_ruleFor 17 = .ok (.iconst 0, 1) := by decide +kernel
theorem dX5_ruleFor_18 : decode cX5_ruleFor 18 = .ok (.ireturn, 1) := by decide +kernel
theorem dX5_ruleFor_19 : decode cX5_ruleFor 19 = .ok (.lload_n 2, 1) := by decide +kernel
theorem dX5_ruleFor_20 : decode cX5_ruleFor 20 = .ok (.invokestatic 78, 3) := by decide +kernel
theorem dX5_ruleFor_23 : decode cX5_ruleFor 23 = .ok (.istore 4, 2) := by decide +kernel
theorem dX5_ruleFor_25 : decode cX5_ruleFor 25 = .ok (.lload_n 2, 1) := by decide +kernel
theorem dX5_ruleFor_26 : decode cX5_ruleFor 26 = .ok (.invokestatic 84, 3) := by decide +kernel
theorem dX5_ruleFor_29 : decode cX5_ruleFor 29 = .ok (.istore 5, 2) := by decide +kernel
theorem dX5_ruleFor_31 : decode cX5_ruleFor 31 = .ok (.iload 4, 2) := by decide +kernel
theorem dX5_ruleFor_33 : decode cX5_ruleFor 33 = .ok (.iconst 1, 1) := by decide +kernel
theorem dX5_ruleFor_34 : decode cX5_ruleFor 34 = .ok (.if_icmp .ne 22, 3) := by decide +kernel
theorem dX5_ruleFor_37 : decode cX5_ruleFor 37 = .ok (.aload_n 0, 1) := by decide +kernel
theorem dX5_ruleFor_38 : decode cX5_ruleFor 38 = .ok (.getfield 25, 3) := by decide +kernel
theorem dX5_ruleFor_41 : decode cX5_ruleFor 41 = .ok (.iload 5, 2) := by decide +kernel
theorem dX5_ruleFor_43 : decode cX5_ruleFor 43 = .ok (.invokestatic 87, 3) := by decide +kernel
theorem dX5_ruleFor_46 : decode cX5_ruleFor 46 = .ok (.iload_n 1, 1) := by decide +kernel
theorem dX5_ruleFor_47 : decode cX5_ruleFor 47 = .ok (.if_icmp .ne 7, 3) := by decide +kernel
theorem dX5_ruleFor_50 : decode cX5_ruleFor 50 = .ok (.iconst 1, 1) := by decide +kernel
theorem dX5_ruleFor_51 : decode cX5_ruleFor 51 = .ok (.goto 4, 3) := by decide +kernel
theorem dX5_ruleFor_54 : decode cX5_ruleFor 54 = .ok (.iconst (-1), 1) := by decide +kernel
theorem dX5_ruleFor_55 : decode cX5_ruleFor 55 = .ok (.ireturn, 1) := by decide +kernel
theorem dX5_ruleFor_56 : decode cX5_ruleFor 56 = .ok (.iload 4, 2) := by decide +kernel
theorem dX5_ruleFor_58 : decode cX5_ruleFor 58 = .ok (.iconst 2, 1) := by decide +kernel
theorem dX5_ruleFor_59 : decode cX5_ruleFor 59 = .ok (.if_icmp .eq 5, 3) := by decide +kernel
theorem dX5_ruleFor_62 : decode cX5_ruleFor 62 = .ok (.iconst (-1), 1) := by decide +kernel
theorem dX5_ruleFor_63 : decode cX5_ruleFor 63 = .ok (.ireturn, 1) := by decide +kernel
theorem dX5_ruleFor_64 : decode cX5_ruleFor 64 = .ok (.lload_n 2, 1) := by decide +kernel
theorem dX5_ruleFor_65 : decode cX5_ruleFor 65 = .ok (.iload 5, 2) := by decide +kernel
theorem dX5_ruleFor_67 : decode cX5_ruleFor 67 = .ok (.invokestatic 72, 3) := by decide +kernel
theorem dX5_ruleFor_70 : decode cX5_ruleFor 70 = .ok (.ldc2_w 76, 3) := by decide +kernel
theorem dX5_ruleFor_73 : decode cX5_ruleFor 73 = .ok (.lxor, 1) := by decide +kernel
theorem dX5_ruleFor_74 : decode cX5_ruleFor 74 = .ok (.land, 1) := by decide +kernel
theorem dX5_ruleFor_75 : decode cX5_ruleFor 75 = .ok (.invokestatic 84, 3) := by decide +kernel
theorem dX5_ruleFor_78 : decode cX5_ruleFor 78 = .ok (.istore 6, 2) := by decide +kernel
theorem dX5_ruleFor_80 : decode cX5_ruleFor 80 = .ok (.aload_n 0, 1) := by decide +kernel
theorem dX5_ruleFor_81 : decode cX5_ruleFor 81 = .ok (.iload_n 1, 1) := by decide +kernel
theorem dX5_ruleFor_82 : decode cX5_ruleFor 82 = .ok (.iload 5, 2) := by decide +kernel
theorem dX5_ruleFor_84 : decode cX5_ruleFor 84 = .ok (.iload 6, 2) := by decide +kernel
theorem dX5_ruleFor_86 : decode cX5_ruleFor 86 = .ok (.invokevirtual 90, 3) := by decide +kernel
theorem dX5_ruleFor_89 : decode cX5_ruleFor 89 = .ok (.ifCond .ne 15, 3) := by decide +kernel
theorem dX5_ruleFor_92 : decode cX5_ruleFor 92 = .ok (.aload_n 0, 1) := by decide +kernel
theorem dX5_ruleFor_93 : decode cX5_ruleFor 93 = .ok (.iload_n 1, 1) := by decide +kernel
theorem dX5_ruleFor_94 : decode cX5_ruleFor 94 = .ok (.iload 6, 2) := by decide +kernel
theorem dX5_ruleFor_96 : decode cX5_ruleFor 96 = .ok (.iload 5, 2) := by decide +kernel
theorem dX5_ruleFor_98 : decode cX5_ruleFor 98 = .ok (.invokevirtual 90, 3) := by decide +kernel
theorem dX5_ruleFor_101 : decode cX5_ruleFor 101 = .ok (.ifCond .eq 5, 3) := by decide +kernel
theorem dX5_ruleFor_104 : decode cX5_ruleFor 104 = .ok (.iconst 2, 1) := by decide +kernel
theorem dX5_ruleFor_105 : decode cX5_ruleFor 105 = .ok (.ireturn, 1) := by decide +kernel
theorem dX5_ruleFor_106 : decode cX5_ruleFor 106 = .ok (.aload_n 0, 1) := by decide +kernel
theorem dX5_ruleFor_107 : decode cX5_ruleFor 107 = .ok (.iload_n 1, 1) := by decide +kernel
theorem dX5_ruleFor_108 : decode cX5_ruleFor 108 = .ok (.iload 5, 2) := by decide +kernel
theorem dX5_ruleFor_110 : decode cX5_ruleFor 110 = .ok (.iload 6, 2) := by decide +kernel
theorem dX5_ruleFor_112 : decode cX5_ruleFor 112 = .ok (.invokevirtual 94, 3) := by decide +kernel
theorem dX5_ruleFor_115 : decode cX5_ruleFor 115 = .ok (.ifCond .eq 7, 3) := by decide +kernel
theorem dX5_ruleFor_118 : decode cX5_ruleFor 118 = .ok (.iconst 3, 1) := by decide +kernel
theorem dX5_ruleFor_119 : decode cX5_ruleFor 119 = .ok (.goto 4, 3) := by decide +kernel
theorem dX5_ruleFor_122 : decode cX5_ruleFor 122 = .ok (.iconst (-1), 1) := by decide +kernel
theorem dX5_ruleFor_123 : decode cX5_ruleFor 123 = .ok (.ireturn, 1) := by decide +kernel
theorem mw_168 : Cond.constantLong RX5 76 (-1) ∈ GW := gw_mem (inT2 _ (List.mem_of_getElem? (i := 226) rfl)) rfl
theorem mw_169 : Cond.code yX5_isSingle cX5_isSingle 4 (some Jvm.ClassFile.FieldType.boolean) ∈ GW := gw_mem (inT2 _ (List.mem_of_getElem? (i := 237) rfl)) rfl
theorem mw_170 : Cond.methodLink RX5 90 yX5_isSingle ∈ GW := gw_mem (inT2 _ (List.mem_of_getElem? (i := 234) rfl)) rfl
theorem mw_171 : Cond.instanceMethod yX5_isSingle ∈ GW := gw_mem (inT2 _ (List.mem_of_getElem? (i := 236) rfl)) rfl
theorem mw_172 : Cond.selects RX5 yX5_isSingle yX5_isSingle ∈ GW := gw_mem (inTp (q := (yX5_isSingle, 8)) (List.mem_of_getElem? (i := 15) rfl)) rfl
theorem mw_173 : Cond.initialized RX5 ∈ GW := gw_mem (inT1 _ (List.mem_of_getElem? (i := 6) rfl)) rfl
theorem mw_174 : Cond.code yX5_isDouble cX5_isDouble 6 (some Jvm.ClassFile.FieldType.boolean) ∈ GW := gw_mem (inT3 _ (List.mem_of_getElem? (i := 1) rfl)) rfl
theorem mw_175 : Cond.methodLink RX5 94 yX5_isDouble ∈ GW := gw_mem (inT2 _ (List.mem_of_getElem? (i := 238) rfl)) rfl
theorem mw_176 : Cond.instanceMethod yX5_isDouble ∈ GW := gw_mem (inT3 _ (List.mem_of_getElem? (i := 0) rfl)) rfl
theorem mw_177 : Cond.selects RX5 yX5_isDouble yX5_isDouble ∈ GW := gw_mem (inTp (q := (yX5_isDouble, 8)) (List.mem_of_getElem? (i := 16) rfl)) rfl
theorem pdv_X5_isSingle : yX5_isSingle.cls = RX5 ∧ yX5_isSingle.cls ≠ "java/lang/invoke/MethodHandle" ∧ yX5_isSingle.cls ≠ "java/lang/invoke/VarHandle" ∧ (parseMethodDescriptor yX5_isSingle.desc).map (fun d => d.parameters.length) = some 3 := by decide +kernel
theorem pdv_X5_isDouble : yX5_isDouble.cls = RX5 ∧ yX5_isDouble.cls ≠ "java/lang/invoke/MethodHandle" ∧ yX5_isDouble.cls ≠ "java/lang/invoke/VarHandle" ∧ (parseMethodDescriptor yX5_isDouble.desc).map (fun d => d.parameters.length) = some 3 := by decide +kernel
set_option maxHeartbeats 4000000 in
set_option maxRecDepth 100000 in
theorem c_ruleFor (l : Launch) (D : va_G) (cI cJ : ClassId) (ad : Nat → Nat) (co fl ra li re wa pi : Ob) (k1 : Int32) : CT l D (TY cI cJ) yX5_ruleFor (.code yX5_ruleFor cX5_ruleFor 7 (some Jvm.ClassFile.FieldType.int)) 3 0 0 (XW ad cI cJ co fl ra li re wa pi) [.ref (ad 5), .int k1] (QI D (TY cI cJ) (fun r u => r = (ruleFor re k1) ∧ u = (XW ad cI cJ co fl ra li re wa pi))) := by
  refine ent (by decide) (Nat.le_of_ble_eq_true rfl) ?_
  intro p e s m below meth c ls A hx hb hr hg hown hml hlocks hnm hP hK hD hS hA hN hl
  have hl : lv_has ls 7 [(0, .ref (ad 5)), (1, .int k1)] := hl
  refine lv_aload_n hx hb dX5_ruleFor_0 rfl (lv_at hl 0 rfl) ?_
  refine va_get (D := D) (ci := 5) (v := .ref (ad 24)) (C := RX5) (T := TX5) (N := 8) hx hb hg inGX5 hown hK hP 5 xo5 rfl 0 (by decide) (hg _ mw_166) (fun _ h9 => h9) xvX5_0 dX5_ruleFor_1 ?_
  refine lv_iload_n hx hb dX5_ruleFor_4 rfl (lv_at hl 1 rfl) ?_
  refine kL (rSN hx hb hml hown hg hN hK hP hD (c_atL l D cI cJ (XW ad cI cJ co fl ra li re wa pi) 24 (ad 24) 40 (gB re 0) k1 (xg24 rfl) (by decide)) mw_81 nw_84 mw_83 mw_77 pd_X7_at_ ⟨Nat.le_of_ble_eq_true rfl, Nat.le_of_ble_eq_true rfl⟩ rfl hl.1 rfl (Nat.le_of_ble_eq_true rfl) dX5_ruleFor_5 ⟨Nat.le_of_ble_eq_true rfl, Nat.le_of_ble_eq_true rfl⟩) hD hS hA (fun r_1 u_1 H locs hp hP hD hS => ?_)
  obtain ⟨er, eu⟩ := hp
  obtain rfl := er.symm
  obtain rfl := eu.symm
  refine lv_lstore_n (lv' := [(2, .long (rdL (gB re 0) 40 k1)), (0, .ref (ad 5)), (1, .int k1)]) hx hb dX5_ruleFor_8 rfl hl (by decide) rfl (fun ls hl => ?_)
  refine lv_lload_n hx hb dX5_ruleFor_9 rfl (lv_at hl 0 rfl) ?_
  refine lv_iload_n hx hb dX5_ruleFor_10 rfl (lv_at hl 2 rfl) ?_
  refine kI (rSN hx hb hml hown hg hN hK hP hD (c_has l D cI cJ (XW ad cI cJ co fl ra li re wa pi) (rdL (gB re 0) 40 k1) k1) mw_89 nw_83 mw_90 mw_77 pd_X7_has ⟨Nat.le_of_ble_eq_true rfl, Nat.le_of_ble_eq_true rfl⟩ rfl hl.1 rfl (Nat.le_of_ble_eq_true rfl) dX5_ruleFor_11 ⟨Nat.le_of_ble_eq_true rfl, Nat.le_of_ble_eq_true rfl⟩) hD hS hA (fun r_2 u_2 H locs hp hP hD hS => ?_)
  obtain ⟨er, eu⟩ := hp
  obtain rfl := er.symm
  obtain rfl := eu.symm
  refine lv_if_eq (tgt := 19) hx hb dX5_ruleFor_14 (by decide) (fun c_14 => ?_) (fun c_14 => ?_)
  · have c_14 : ¬ (hs (rdL (gB re 0) 40 k1) k1) = true := b2i_0 c_14
    refine lv_lload_n hx hb dX5_ruleFor_19 rfl (lv_at hl 0 rfl) ?_
    refine kI (rS hx hb hml hown hg hN hK hP hD (c_bitCount l D cI cJ (XW ad cI cJ co fl ra li re wa pi) (rdL (gB re 0) 40 k1)) mw_68 mw_167 mw_70 mw_71 pd_J13_bitCount_95d88 ⟨Nat.le_of_ble_eq_true rfl, Nat.le_of_ble_eq_true rfl⟩ rfl hl.1 rfl (Nat.le_of_ble_eq_true rfl) dX5_ruleFor_20 ⟨Nat.le_of_ble_eq_true rfl, Nat.le_of_ble_eq_true rfl⟩) hD hS hA (fun r_3 u_3 H locs hp hP hD hS => ?_)
    obtain ⟨er, eu⟩ := hp
    obtain rfl := er.symm
    obtain rfl := eu.symm
    refine lv_istore (lv' := [(4, .int (bc (rdL (gB re 0) 40 k1))), (2, .long (rdL (gB re 0) 40 k1)), (0, .ref (ad 5)), (1, .int k1)]) hx hb dX5_ruleFor_23 hl (by decide) rfl (fun ls hl => ?_)
    refine lv_lload_n hx hb dX5_ruleFor_25 rfl (lv_at hl 1 rfl) ?_
    refine kI (rSN hx hb hml hown hg hN hK hP hD (c_lowest l D cI cJ (XW ad cI cJ co fl ra li re wa pi) (rdL (gB re 0) 40 k1)) mw_74 nw_88 mw_76 mw_77 pd_X7_lowest ⟨Nat.le_of_ble_eq_true rfl, Nat.le_of_ble_eq_true rfl⟩ rfl hl.1 rfl (Nat.le_of_ble_eq_true rfl) dX5_ruleFor_26 ⟨Nat.le_of_ble_eq_true rfl, Nat.le_of_ble_eq_true rfl⟩) hD hS hA (fun r_4 u_4 H locs hp hP hD hS => ?_)
    obtain ⟨er, eu⟩ := hp
    obtain rfl := er.symm
    obtain rfl := eu.symm
    refine lv_istore (lv' := [(5, .int (lowest (rdL (gB re 0) 40 k1))), (4, .int (bc (rdL (gB re 0) 40 k1))), (2, .long (rdL (gB re 0) 40 k1)), (0, .ref (ad 5)), (1, .int k1)]) hx hb dX5_ruleFor_29 hl (by decide) rfl (fun ls hl => ?_)
    refine lv_iload hx hb dX5_ruleFor_31 (lv_at hl 1 rfl) ?_
    refine lv_iconst (v := 1) hx hb dX5_ruleFor_33 (by decide) ?_
    refine lv_icmp_ne (tgt := 56) hx hb dX5_ruleFor_34 (by decide) (fun c_34 => ?_) (fun c_34 => ?_)
    · refine lv_iload hx hb dX5_ruleFor_56 (lv_at hl 1 rfl) ?_
      refine lv_iconst (v := 2) hx hb dX5_ruleFor_58 (by decide) ?_
      refine lv_icmp_eq (tgt := 64) hx hb dX5_ruleFor_59 (by decide) (fun c_59 => ?_) (fun c_59 => ?_)
      · refine lv_lload_n hx hb dX5_ruleFor_64 rfl (lv_at hl 2 rfl) ?_
        refine lv_iload hx hb dX5_ruleFor_65 (lv_at hl 0 rfl) ?_
        refine kL (rSN hx hb hml hown hg hN hK hP hD (c_bit l D cI cJ (XW ad cI cJ co fl ra li re wa pi) (lowest (rdL (gB re 0) 40 k1))) mw_78 nw_87 mw_80 mw_77 pd_X7_bit ⟨Nat.le_of_ble_eq_true rfl, Nat.le_of_ble_eq_true rfl⟩ rfl hl.1 rfl (Nat.le_of_ble_eq_true rfl) dX5_ruleFor_67 ⟨Nat.le_of_ble_eq_true rfl, Nat.le_of_ble_eq_true rfl⟩) hD hS hA (fun r_5 u_5 H locs hp hP hD hS => ?_)
        obtain ⟨er, eu⟩ := hp
        obtain rfl := er.symm
        obtain rfl := eu.symm
        refine lv_ldc2 (v := (-1)) hx hb hown (hg _ mw_168) dX5_ruleFor_70 ?_
        refine lv_lxor hx hb dX5_ruleFor_73 ?_
        refine lv_land hx hb dX5_ruleFor_74 ?_
        refine kI (rSN hx hb hml hown hg hN hK hP hD (c_lowest l D cI cJ (XW ad cI cJ co fl ra li re wa pi) ((rdL (gB re 0) 40 k1) &&& ((bitL (lowest (rdL (gB re 0) 40 k1))) ^^^ (-1)))) mw_74 nw_88 mw_76 mw_77 pd_X7_lowest ⟨Nat.le_of_ble_eq_true rfl, Nat.le_of_ble_eq_true rfl⟩ rfl hl.1 rfl (Nat.le_of_ble_eq_true rfl) dX5_ruleFor_75 ⟨Nat.le_of_ble_eq_true rfl, Nat.le_of_ble_eq_true rfl⟩) hD hS hA (fun r_6 u_6 H locs hp hP hD hS => ?_)
        obtain ⟨er, eu⟩ := hp
        obtain rfl := er.symm
        obtain rfl := eu.symm
        refine lv_istore (lv' := [(6, .int (lowest ((rdL (gB re 0) 40 k1) &&& ((bitL (lowest (rdL (gB re 0) 40 k1))) ^^^ (-1))))), (5, .int (lowest (rdL (gB re 0) 40 k1))), (4, .int (bc (rdL (gB re 0) 40 k1))), (2, .long (rdL (gB re 0) 40 k1)), (0, .ref (ad 5)), (1, .int k1)]) hx hb dX5_ruleFor_78 hl (by decide) rfl (fun ls hl => ?_)
        refine lv_aload_n hx hb dX5_ruleFor_80 rfl (lv_at hl 4 rfl) ?_
        refine lv_iload_n hx hb dX5_ruleFor_81 rfl (lv_at hl 5 rfl) ?_
        refine lv_iload hx hb dX5_ruleFor_82 (lv_at hl 1 rfl) ?_
        refine lv_iload hx hb dX5_ruleFor_84 (lv_at hl 0 rfl) ?_
        refine kI (rV (q0 := 5) (ci := 5) hx hb hml hown hg hN hK hP hD (c_isSingle l D cI cJ ad co fl ra li re wa pi k1 (lowest (rdL (gB re 0) 40 k1)) (lowest ((rdL (gB re 0) 40 k1) &&& ((bitL (lowest (rdL (gB re 0) 40 k1))) ^^^ (-1))))) mw_169 mw_170 mw_171 mw_172 mw_173 pdv_X5_isSingle ⟨Nat.le_of_ble_eq_true rfl, Nat.le_of_ble_eq_true rfl⟩ rfl xo5 rfl hl.1 rfl (Nat.le_of_ble_eq_true rfl) dX5_ruleFor_86 ⟨Nat.le_of_ble_eq_true rfl, Nat.le_of_ble_eq_true rfl⟩) hD hS hA (fun r_7 u_7 H locs hp hP hD hS => ?_)
        obtain ⟨er, eu⟩ := hp
        obtain rfl := er.symm
        obtain rfl := eu.symm
        refine lv_if_ne (tgt := 104) hx hb dX5_ruleFor_89 (by decide) (fun c_89 => ?_) (fun c_89 => ?_)
        · have c_89 : (isSingle re k1 (lowest (rdL (gB re 0) 40 k1)) (lowest ((rdL (gB re 0) 40 k1) &&& ((bitL (lowest (rdL (gB re 0) 40 k1))) ^^^ (-1))))) = true := b2i_1 c_89
          refine lv_iconst (v := 2) hx hb dX5_ruleFor_104 (by decide) ?_
          exact W.iret (v := 2) hx hb hr (fun t ht hW => ⟨⟨2, (XW ad cI cJ co fl ra li re wa pi), rfl, ⟨(show (2 : Int32) = (ruleFor re k1) from (by simp only [ruleFor, ruleTwo, rfC, bf_of c_14, eq_false c_34, eq_true c_59, c_89, gi_sl, gi_sA, gi_sB, gi_si_s, gi_si_n, gl_si, gl_sA, gl_sB, gl_sl_s, gl_sl_n, gA_si, gA_sl, gA_sB, gA_sA_s, gA_sA_n, gB_si, gB_sl, gB_sA, gB_sB_s, gB_sB_n, Nat.reduceBEq, if_true, if_false, eq_self, Bool.false_eq_true, Bool.true_eq_false, not_true_eq_false, not_false_eq_true, decide_true, decide_false, cond_true, cond_false, Bool.true_and, Bool.false_and, Bool.and_true, Bool.and_false, Bool.true_or, Bool.false_or, Bool.or_true, Bool.or_false, b2i_tt, b2i_ff, pr_eta]; done)), xw_eq rfl rfl rfl rfl rfl rfl rfl⟩, ⟨by rw [ht]; exact hP, va_K.moved hW.alike hK, hD⟩⟩, hS.F ht⟩) hS.2.2 dX5_ruleFor_105
        · have c_89 : ¬ (isSingle re k1 (lowest (rdL (gB re 0) 40 k1)) (lowest ((rdL (gB re 0) 40 k1) &&& ((bitL (lowest (rdL (gB re 0) 40 k1))) ^^^ (-1))))) = true := b2i_0 c_89
          refine lv_aload_n hx hb dX5_ruleFor_92 rfl (lv_at hl 4 rfl) ?_
          refine lv_iload_n hx hb dX5_ruleFor_93 rfl (lv_at hl 5 rfl) ?_
          refine lv_iload hx hb dX5_ruleFor_94 (lv_at hl 0 rfl) ?_
          refine lv_iload hx hb dX5_ruleFor_96 (lv_at hl 1 rfl) ?_
          refine kI (rV (q0 := 5) (ci := 5) hx hb hml hown hg hN hK hP hD (c_isSingle l D cI cJ ad co fl ra li re wa pi k1 (lowest ((rdL (gB re 0) 40 k1) &&& ((bitL (lowest (rdL (gB re 0) 40 k1))) ^^^ (-1)))) (lowest (rdL (gB re 0) 40 k1))) mw_169 mw_170 mw_171 mw_172 mw_173 pdv_X5_isSingle ⟨Nat.le_of_ble_eq_true rfl, Nat.le_of_ble_eq_true rfl⟩ rfl xo5 rfl hl.1 rfl (Nat.le_of_ble_eq_true rfl) dX5_ruleFor_98 ⟨Nat.le_of_ble_eq_true rfl, Nat.le_of_ble_eq_true rfl⟩) hD hS hA (fun r_8 u_8 H locs hp hP hD hS => ?_)
          obtain ⟨er, eu⟩ := hp
          obtain rfl := er.symm
          obtain rfl := eu.symm
          refine lv_if_eq (tgt := 106) hx hb dX5_ruleFor_101 (by decide) (fun c_101 => ?_) (fun c_101 => ?_)
          · have c_101 : ¬ (isSingle re k1 (lowest ((rdL (gB re 0) 40 k1) &&& ((bitL (lowest (rdL (gB re 0) 40 k1))) ^^^ (-1)))) (lowest (rdL (gB re 0) 40 k1))) = true := b2i_0 c_101
            refine lv_aload_n hx hb dX5_ruleFor_106 rfl (lv_at hl 4 rfl) ?_
            refine lv_iload_n hx hb dX5_ruleFor_107 rfl (lv_at hl 5 rfl) ?_
            refine lv_iload hx hb dX5_ruleFor_108 (lv_at hl 1 rfl) ?_
            refine lv_iload hx hb dX5_ruleFor_110 (lv_at hl 0 rfl) ?_
            refine kI (rV (q0 := 5) (ci := 5) hx hb hml hown hg hN hK hP hD (c_isDouble l D cI cJ ad co fl ra li re wa pi k1 (lowest (rdL (gB re 0) 40 k1)) (lowest ((rdL (gB re 0) 40 k1) &&& ((bitL (lowest (rdL (gB re 0) 40 k1))) ^^^ (-1))))) mw_174 mw_175 mw_176 mw_177 mw_173 pdv_X5_isDouble ⟨Nat.le_of_ble_eq_true rfl, Nat.le_of_ble_eq_true rfl⟩ rfl xo5 rfl hl.1 rfl (Nat.le_of_ble_eq_true rfl) dX5_ruleFor_112 ⟨Nat.le_of_ble_eq_true rfl, Nat.le_of_ble_eq_true rfl⟩) hD hS hA (fun r_9 u_9 H locs hp hP hD hS => ?_)
            obtain ⟨er, eu⟩ := hp
            obtain rfl := er.symm
            obtain rfl := eu.symm
            refine lv_if_eq (tgt := 122) hx hb dX5_ruleFor_115 (by decide) (fun c_115 => ?_) (fun c_115 => ?_)
            · have c_115 : ¬ (isDouble re k1 (lowest (rdL (gB re 0) 40 k1)) (lowest ((rdL (gB re 0) 40 k1) &&& ((bitL (lowest (rdL (gB re 0) 40 k1))) ^^^ (-1))))) = true := b2i_0 c_115
              refine lv_iconst (v := (-1)) hx hb dX5_ruleFor_122 (by decide) ?_
              exact W.iret (v := (-1)) hx hb hr (fun t ht hW => ⟨⟨(-1), (XW ad cI cJ co fl ra li re wa pi), rfl, ⟨(show ((-1) : Int32) = (ruleFor re k1) from (by simp only [ruleFor, ruleTwo, rfC, bf_of c_14, eq_false c_34, eq_true c_59, bf_of c_89, bf_of c_101, bf_of c_115, gi_sl, gi_sA, gi_sB, gi_si_s, gi_si_n, gl_si, gl_sA, gl_sB, gl_sl_s, gl_sl_n, gA_si, gA_sl, gA_sB, gA_sA_s, gA_sA_n, gB_si, gB_sl, gB_sA, gB_sB_s, gB_sB_n, Nat.reduceBEq, if_true, if_false, eq_self, Bool.false_eq_true, Bool.true_eq_false, not_true_eq_false, not_false_eq_true, decide_true, decide_false, cond_true, cond_false, Bool.true_and, Bool.false_and, Bool.and_true, Bool.and_false, Bool.true_or, Bool.false_or, Bool.or_true, Bool.or_false, b2i_tt, b2i_ff, pr_eta]; done)), xw_eq rfl rfl rfl rfl rfl rfl rfl⟩, ⟨by rw [ht]; exact hP, va_K.moved hW.alike hK, hD⟩⟩, hS.F ht⟩) hS.2.2 dX5_ruleFor_123
            · have c_115 : (isDouble re k1 (lowest (rdL (gB re 0) 40 k1)) (lowest ((rdL (gB re 0) 40 k1) &&& ((bitL (lowest (rdL (gB re 0) 40 k1))) ^^^ (-1))))) = true := b2i_1 c_115
              refine lv_iconst (v := 3) hx hb dX5_ruleFor_118 (by decide) ?_
              refine lv_goto (tgt := 123) hx hb dX5_ruleFor_119 (by decide) ?_
              exact W.iret (v := 3) hx hb hr (fun t ht hW => ⟨⟨3, (XW ad cI cJ co fl ra li re wa pi), rfl, ⟨(show (3 : Int32) = (ruleFor re k1) from (by simp only [ruleFor, ruleTwo, rfC, bf_of c_14, eq_false c_34, eq_true c_59, bf_of c_89, bf_of c_101, c_115, gi_sl, gi_sA, gi_sB, gi_si_s, gi_si_n, gl_si, gl_sA, gl_sB, gl_sl_s, gl_sl_n, gA_si, gA_sl, gA_sB, gA_sA_s, gA_sA_n, gB_si, gB_sl, gB_sA, gB_sB_s, gB_sB_n, Nat.reduceBEq, if_true, if_false, eq_self, Bool.false_eq_true, Bool.true_eq_false, not_true_eq_false, not_false_eq_true, decide_true, decide_false, cond_true, cond_false, Bool.true_and, Bool.false_and, Bool.and_true, Bool.and_false, Bool.true_or, Bool.false_or, Bool.or_true, Bool.or_false, b2i_tt, b2i_ff, pr_eta]; done)), xw_eq rfl rfl rfl rfl rfl rfl rfl⟩, ⟨by rw [ht]; exact hP, va_K.moved hW.alike hK, hD⟩⟩, hS.F ht⟩) hS.2.2 dX5_ruleFor_123
          · have c_101 : (isSingle re k1 (lowest ((rdL (gB re 0) 40 k1) &&& ((bitL (lowest (rdL (gB re 0) 40 k1))) ^^^ (-1)))) (lowest (rdL (gB re 0) 40 k1))) = true := b2i_1 c_101
            refine lv_iconst (v := 2) hx hb dX5_ruleFor_104 (by decide) ?_
            exact W.iret (v := 2) hx hb hr (fun t ht hW => ⟨⟨2, (XW ad cI cJ co fl ra li re wa pi), rfl, ⟨(show (2 : Int32) = (ruleFor re k1) from (by simp only [ruleFor, ruleTwo, rfC, bf_of c_14, eq_false c_34, eq_true c_59, bf_of c_89, c_101, gi_sl, gi_sA, gi_sB, gi_si_s, gi_si_n, gl_si, gl_sA, gl_sB, gl_sl_s, gl_sl_n, gA_si, gA_sl, gA_sB, gA_sA_s, gA_sA_n, gB_si, gB_sl, gB_sA, gB_sB_s, gB_sB_n, Nat.reduceBEq, if_true, if_false, eq_self, Bool.false_eq_true, Bool.true_eq_false, not_true_eq_false, not_false_eq_true, decide_true, decide_false, cond_true, cond_false, Bool.true_and, Bool.false_and, Bool.and_true, Bool.and_false, Bool.true_or, Bool.false_or, Bool.or_true, Bool.or_false, b2i_tt, b2i_ff, pr_eta]; done)), xw_eq rfl rfl rfl rfl rfl rfl rfl⟩, ⟨by rw [ht]; exact hP, va_K.moved hW.alike hK, hD⟩⟩, hS.F ht⟩) hS.2.2 dX5_ruleFor_105
      · refine lv_iconst (v := (-1)) hx hb dX5_ruleFor_62 (by decide) ?_
        exact W.iret (v := (-1)) hx hb hr (fun t ht hW => ⟨⟨(-1), (XW ad cI cJ co fl ra li re wa pi), rfl, ⟨(show ((-1) : Int32) = (ruleFor re k1) from (by simp only [ruleFor, ruleTwo, rfC, bf_of c_14, eq_false c_34, eq_false c_59, gi_sl, gi_sA, gi_sB, gi_si_s, gi_si_n, gl_si, gl_sA, gl_sB, gl_sl_s, gl_sl_n, gA_si, gA_sl, gA_sB, gA_sA_s, gA_sA_n, gB_si, gB_sl, gB_sA, gB_sB_s, gB_sB_n, Nat.reduceBEq, if_true, if_false, eq_self, Bool.false_eq_true, Bool.true_eq_false, not_true_eq_false, not_false_eq_true, decide_true, decide_false, cond_true, cond_false, Bool.true_and, Bool.false_and, Bool.and_true, Bool.and_false, Bool.true_or, Bool.false_or, Bool.or_true, Bool.or_false, b2i_tt, b2i_ff, pr_eta]; done)), xw_eq rfl rfl rfl rfl rfl rfl rfl⟩, ⟨by rw [ht]; exact hP, va_K.moved hW.alike hK, hD⟩⟩, hS.F ht⟩) hS.2.2 dX5_ruleFor_63
    · refine lv_aload_n hx hb dX5_ruleFor_37 rfl (lv_at hl 3 rfl) ?_
      refine va_get (D := D) (ci := 5) (v := .ref (ad 28)) (C := RX5) (T := TX5) (N := 8) hx hb hg inGX5 hown hK hP 5 xo5 rfl 4 (by decide) (hg _ mw_165) (fun _ h9 => h9) xvX5_4 dX5_ruleFor_38 ?_
      refine lv_iload hx hb dX5_ruleFor_41 (lv_at hl 0 rfl) ?_
      refine kI (rSN hx hb hml hown hg hN hK hP hD (c_at l D cI cJ (XW ad cI cJ co fl ra li re wa pi) 28 (ad 28) 41 (gA re 3) (lowest (rdL (gB re 0) 40 k1)) (xg28 rfl) (by decide)) mw_84 nw_89 mw_85 mw_77 pd_X7_at ⟨Nat.le_of_ble_eq_true rfl, Nat.le_of_ble_eq_true rfl⟩ rfl hl.1 rfl (Nat.le_of_ble_eq_true rfl) dX5_ruleFor_43 ⟨Nat.le_of_ble_eq_true rfl, Nat.le_of_ble_eq_true rfl⟩) hD hS hA (fun r_10 u_10 H locs hp hP hD hS => ?_)
      obtain ⟨er, eu⟩ := hp
      obtain rfl := er.symm
      obtain rfl := eu.symm
      refine lv_iload_n hx hb dX5_ruleFor_46 rfl (lv_at hl 4 rfl) ?_
      refine lv_icmp_ne (tgt := 54) hx hb dX5_ruleFor_47 (by decide) (fun c_47 => ?_) (fun c_47 => ?_)
      · refine lv_iconst (v := (-1)) hx hb dX5_ruleFor_54 (by decide) ?_
        exact W.iret (v := (-1)) hx hb hr (fun t ht hW => ⟨⟨(-1), (XW ad cI cJ co fl ra li re wa pi), rfl, ⟨(show ((-1) : Int32) = (ruleFor re k1) from (by simp only [ruleFor, ruleTwo, rfC, bf_of c_14, eq_true c_34, eq_false c_47, gi_sl, gi_sA, gi_sB, gi_si_s, gi_si_n, gl_si, gl_sA, gl_sB, gl_sl_s, gl_sl_n, gA_si, gA_sl, gA_sB, gA_sA_s, gA_sA_n, gB_si, gB_sl, gB_sA, gB_sB_s, gB_sB_n, Nat.reduceBEq, if_true, if_false, eq_self, Bool.false_eq_true, Bool.true_eq_false, not_true_eq_false, not_false_eq_true, decide_true, decide_false, cond_true, cond_false, Bool.true_and, Bool.false_and, Bool.and_true, Bool.and_false, Bool.true_or, Bool.false_or, Bool.or_true, Bool.or_false, b2i_tt, b2i_ff, pr_eta]; done)), xw_eq rfl rfl rfl rfl rfl rfl rfl⟩, ⟨by rw [ht]; exact hP, va_K.moved hW.alike hK, hD⟩⟩, hS.F ht⟩) hS.2.2 dX5_ruleFor_55
      · refine lv_iconst (v := 1) hx hb dX5_ruleFor_50 (by decide) ?_
        refine lv_goto (tgt := 55) hx hb dX5_ruleFor_51 (by decide) ?_
        exact W.iret (v := 1) hx hb hr (fun t ht hW => ⟨⟨1, (XW ad cI cJ co fl ra li re wa pi), rfl, ⟨(show (1 : Int32) = (ruleFor re k1) from (by simp only [ruleFor, ruleTwo, rfC, bf_of c_14, eq_true c_34, eq_true c_47, gi_sl, gi_sA, gi_sB, gi_si_s, gi_si_n, gl_si, gl_sA, gl_sB, gl_sl_s, gl_sl_n, gA_si, gA_sl, gA_sB, gA_sA_s, gA_sA_n, gB_si, gB_sl, gB_sA, gB_sB_s, gB_sB_n, Nat.reduceBEq, if_true, if_false, eq_self, Bool.false_eq_true, Bool.true_eq_false, not_true_eq_false, not_false_eq_true, decide_true, decide_false, cond_true, cond_false, Bool.true_and, Bool.false_and, Bool.and_true, Bool.and_false, Bool.true_or, Bool.false_or, Bool.or_true, Bool.or_false, b2i_tt, b2i_ff, pr_eta]; done)), xw_eq rfl rfl rfl rfl rfl rfl rfl⟩, ⟨by rw [ht]; exact hP, va_K.moved hW.alike hK, hD⟩⟩, hS.F ht⟩) hS.2.2 dX5_ruleFor_55
  · have c_14 : (hs (rdL (gB re 0) 40 k1) k1) = true := b2i_1 c_14
    refine lv_iconst (v := 0) hx hb dX5_ruleFor_17 (by decide) ?_
    exact W.iret (v := 0) hx hb hr (fun t ht hW => ⟨⟨0, (XW ad cI cJ co fl ra li re wa pi), rfl, ⟨(show (0 : Int32) = (ruleFor re k1) from (by simp only [ruleFor, ruleTwo, rfC, c_14, gi_sl, gi_sA, gi_sB, gi_si_s, gi_si_n, gl_si, gl_sA, gl_sB, gl_sl_s, gl_sl_n, gA_si, gA_sl, gA_sB, gA_sA_s, gA_sA_n, gB_si, gB_sl, gB_sA, gB_sB_s, gB_sB_n, Nat.reduceBEq, if_true, if_false, eq_self, Bool.false_eq_true, Bool.true_eq_false, not_true_eq_false, not_false_eq_true, decide_true, decide_false, cond_true, cond_false, Bool.true_and, Bool.false_and, Bool.and_true, Bool.and_false, Bool.true_or, Bool.false_or, Bool.or_true, Bool.or_false, b2i_tt, b2i_ff, pr_eta]; done)), xw_eq rfl rfl rfl rfl rfl rfl rfl⟩, ⟨by rw [ht]; exact hP, va_K.moved hW.alike hK, hD⟩⟩, hS.F ht⟩) hS.2.2 dX5_ruleFor_18
