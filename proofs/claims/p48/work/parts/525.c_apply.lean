theorem dX5_apply_0 : decode cX5_apply 0 = .ok (.aload_n 0, 1) := by decide +kernel
theorem dX5_apply_1 : decode cX5_apply 1 = .ok (.getfield 9, 3) := by decide +kernel
theorem dX5_apply_4 : decode cX5_apply 4 = .ok (.iload_n 2, 1) := by decide +kernel
theorem dX5_apply_5 : decode cX5_apply 5 = .ok (.invokestatic 46, 3) := by decide +kernel
theorem dX5_apply_8 : decode cX5_apply 8 = .ok (.lstore_n 3, 1) := by decide +kernel
theorem dX5_apply_9 : decode cX5_apply 9 = .ok (.iload_n 1, 1) := by decide +kernel
theorem dX5_apply_10 : decode cX5_apply 10 = .ok (.ifCond .ne 22, 3) := by decide +kernel
theorem dX5_apply_13 : decode cX5_apply 13 = .ok (.aload_n 0, 1) := by decide +kernel
theorem dX5_apply_14 : decode cX5_apply 14 = .ok (.getfield 9, 3) := by decide +kernel
theorem dX5_apply_17 : decode cX5_apply 17 = .ok (.iload_n 2, 1) := by decide +kernel
theorem dX5_apply_18 : decode cX5_apply 18 = .ok (.lload_n 3, 1) := by decide +kernel
theorem dX5_apply_19 : decode cX5_apply 19 = .ok (.iload_n 2, 1) := by decide +kernel
theorem dX5_apply_20 : decode cX5_apply 20 = .ok (.invokestatic 72, 3) := by decide +kernel
theorem dX5_apply_23 : decode cX5_apply 23 = .ok (.ldc2_w 76, 3) := by decide +kernel
theorem dX5_apply_26 : decode cX5_apply 26 = .ok (.lxor, 1) := by decide +kernel
theorem dX5_apply_27 : decode cX5_apply 27 = .ok (.land, 1) := by decide +kernel
theorem dX5_apply_28 : decode cX5_apply 28 = .ok (.invokestatic 50, 3) := by decide +kernel
theorem dX5_apply_31 : decode cX5_apply 31 = .ok (.return_, 1) := by decide +kernel
theorem dX5_apply_32 : decode cX5_apply 32 = .ok (.iload_n 2, 1) := by decide +kernel
theorem dX5_apply_33 : decode cX5_apply 33 = .ok (.invokestatic 72, 3) := by decide +kernel
theorem dX5_apply_36 : decode cX5_apply 36 = .ok (.lload_n 3, 1) := by decide +kernel
theorem dX5_apply_37 : decode cX5_apply 37 = .ok (.lor, 1) := by decide +kernel
theorem dX5_apply_38 : decode cX5_apply 38 = .ok (.lstore 5, 2) := by decide +kernel
theorem dX5_apply_40 : decode cX5_apply 40 = .ok (.iload_n 1, 1) := by decide +kernel
theorem dX5_apply_41 : decode cX5_apply 41 = .ok (.iconst 2, 1) := by decide +kernel
theorem dX5_apply_42 : decode cX5_apply 42 = .ok (.if_icmp .ne 56, 3) := by decide +kernel
theorem dX5_apply_45 : decode cX5_apply 45 = .ok (.lload_n 3, 1) := by decide +kernel
theorem dX5_apply_46 : decode cX5_apply 46 = .ok (.invokestatic 84, 3) := by decide +kernel
theorem dX5_apply_49 : decode cX5_apply 49 = .ok (.istore 7, 2) := by decide +kernel
theorem dX5_apply_51 : decode cX5_apply 51 = .ok (.lload_n 3, 1) := by decide +kernel
theorem dX5_apply_52 : decode cX5_apply 52 = .ok (.iload 7, 2) := by decide +kernel
theorem dX5_apply_54 : decode cX5_apply 54 = .ok (.invokestatic 72, 3) := by decide +kernel
theorem dX5_apply_57 : decode cX5_apply 57 = .ok (.ldc2_w 76, 3) := by decide +kernel
theorem dX5_apply_60 : decode cX5_apply 60 = .ok (.lxor, 1) := by decide +kernel
theorem dX5_apply_61 : decode cX5_apply 61 = .ok (.land, 1) := by decide +kernel
theorem dX5_apply_62 : decode cX5_apply 62 = .ok (.invokestatic 84, 3) := by decide +kernel
theorem dX5_apply_65 : decode cX5_apply 65 = .ok (.istore 8, 2) := by decide +kernel
theorem dX5_apply_67 : decode cX5_apply 67 = .ok (.lload 5, 2) := by decide +kernel
theorem dX5_apply_69 : decode cX5_apply 69 = .ok (.aload_n 0, 1) := by decide +kernel
theorem dX5_apply_70 : decode cX5_apply 70 = .ok (.iload_n 2, 1) := by decide +kernel
theorem dX5_apply_71 : decode cX5_apply 71 = .ok (.iload 7, 2) := by decide +kernel
theorem dX5_apply_73 : decode cX5_apply 73 = .ok (.iload 8, 2) := by decide +kernel
theorem dX5_apply_75 : decode cX5_apply 75 = .ok (.invokevirtual 90, 3) := by decide +kernel
theorem dX5_apply_78 : decode cX5_apply 78 = .ok (.ifCond .eq 8, 3) := by decide +kernel
theorem dX5_apply_81 : decode cX5_apply 81 = .ok (.iload 8, 2) := by decide +kernel
theorem dX5_apply_83 : decode cX5_apply 83 = .ok (.goto 5, 3) := by decide +kernel
theorem dX5_apply_86 : decode cX5_apply 86 = .ok (.iload 7, 2) := by decide +kernel
theorem dX5_apply_88 : decode cX5_apply 88 = .ok (.invokestatic 72, 3) := by decide +kernel
theorem dX5_apply_91 : decode cX5_apply 91 = .ok (.ldc2_w 76, 3) := by decide +kernel
theorem dX5_apply_94 : decode cX5_apply 94 = .ok (.lxor, 1) := by decide +kernel
theorem dX5_apply_95 : decode cX5_apply 95 = .ok (.land, 1) := by decide +kernel
theorem dX5_apply_96 : decode cX5_apply 96 = .ok (.lstore 5, 2) := by decide +kernel
theorem dX5_apply_98 : decode cX5_apply 98 = .ok (.iload_n 1, 1) := by decide +kernel
theorem dX5_apply_99 : decode cX5_apply 99 = .ok (.iconst 1, 1) := by decide +kernel
theorem dX5_apply_100 : decode cX5_apply 100 = .ok (.if_icmp .ne 25, 3) := by decide +kernel
theorem dX5_apply_103 : decode cX5_apply 103 = .ok (.aload_n 0, 1) := by decide +kernel
theorem dX5_apply_104 : decode cX5_apply 104 = .ok (.getfield 9, 3) := by decide +kernel
theorem dX5_apply_107 : decode cX5_apply 107 = .ok (.lload_n 3, 1) := by decide +kernel
theorem dX5_apply_108 : decode cX5_apply 108 = .ok (.invokestatic 84, 3) := by decide +kernel
theorem dX5_apply_111 : decode cX5_apply 111 = .ok (.invokestatic 46, 3) := by decide +kernel
theorem dX5_apply_114 : decode cX5_apply 114 = .ok (.iload_n 2, 1) := by decide +kernel
theorem dX5_apply_115 : decode cX5_apply 115 = .ok (.invokestatic 41, 3) := by decide +kernel
theorem dX5_apply_118 : decode cX5_apply 118 = .ok (.ifCond .eq 7, 3) := by decide +kernel
theorem dX5_apply_121 : decode cX5_apply 121 = .ok (.iconst 1, 1) := by decide +kernel
theorem dX5_apply_122 : decode cX5_apply 122 = .ok (.goto 4, 3) := by decide +kernel
theorem dX5_apply_125 : decode cX5_apply 125 = .ok (.iconst 0, 1) := by decide +kernel
theorem dX5_apply_126 : decode cX5_apply 126 = .ok (.istore 7, 2) := by decide +kernel
theorem dX5_apply_128 : decode cX5_apply 128 = .ok (.aload_n 0, 1) := by decide +kernel
theorem dX5_apply_129 : decode cX5_apply 129 = .ok (.lload 5, 2) := by decide +kernel
theorem dX5_apply_131 : decode cX5_apply 131 = .ok (.lload 5, 2) := by decide +kernel
theorem dX5_apply_133 : decode cX5_apply 133 = .ok (.invokestatic 84, 3) := by decide +kernel
theorem dX5_apply_136 : decode cX5_apply 136 = .ok (.iload 7, 2) := by decide +kernel
theorem dX5_apply_138 : decode cX5_apply 138 = .ok (.invokevirtual 97, 3) := by decide +kernel
theorem dX5_apply_141 : decode cX5_apply 141 = .ok (.return_, 1) := by decide +kernel
theorem mw_180 : Cond.code yX5_merge cX5_merge 11 (none : Option FieldType) ∈ GW := gw_mem (inT3 _ (List.mem_of_getElem? (i := 9) rfl)) rfl
theorem mw_181 : Cond.methodLink RX5 97 yX5_merge ∈ GW := gw_mem (inT3 _ (List.mem_of_getElem? (i := 6) rfl)) rfl
theorem mw_182 : Cond.instanceMethod yX5_merge ∈ GW := gw_mem (inT3 _ (List.mem_of_getElem? (i := 8) rfl)) rfl
theorem mw_183 : Cond.selects RX5 yX5_merge yX5_merge ∈ GW := gw_mem (inTp (q := (yX5_merge, 8)) (List.mem_of_getElem? (i := 18) rfl)) rfl
theorem pdv_X5_merge : yX5_merge.cls = RX5 ∧ yX5_merge.cls ≠ "java/lang/invoke/MethodHandle" ∧ yX5_merge.cls ≠ "java/lang/invoke/VarHandle" ∧ (parseMethodDescriptor yX5_merge.desc).map (fun d => d.parameters.length) = some 3 := by decide +kernel
set_option maxHeartbeats 4000000 in
set_option maxRecDepth 100000 in
theorem c_apply (l : Launch) (D : va_G) (cI cJ : ClassId) (ad : Nat → Nat) (co fl ra li re wa pi : Ob) (k1 : Int32) (k2 : Int32) : CT l D (TY cI cJ) yX5_apply (.code yX5_apply cX5_apply 9 (none : Option FieldType)) 3 0 0 (XW ad cI cJ co fl ra li re wa pi) [.ref (ad 5), .int k1, .int k2] (QV D (TY cI cJ) (fun u => u = (XW ad cI cJ co fl ra li (apply re k1 k2) wa pi))) := by
  refine ent (by decide) (Nat.le_of_ble_eq_true rfl) ?_
  intro p e s m below meth c ls A hx hb hr hg hown hml hlocks hnm hP hK hD hS hA hN hl
  have hl : lv_has ls 9 [(0, .ref (ad 5)), (1, .int k1), (2, .int k2)] := hl
  refine lv_aload_n hx hb dX5_apply_0 rfl (lv_at hl 0 rfl) ?_
  refine va_get (D := D) (ci := 5) (v := .ref (ad 24)) (C := RX5) (T := TX5) (N := 8) hx hb hg inGX5 hown hK hP 5 xo5 rfl 0 (by decide) (hg _ mw_166) (fun _ h9 => h9) xvX5_0 dX5_apply_1 ?_
  refine lv_iload_n hx hb dX5_apply_4 rfl (lv_at hl 2 rfl) ?_
  refine kL (rSN hx hb hml hown hg hN hK hP hD (c_atL l D cI cJ (XW ad cI cJ co fl ra li re wa pi) 24 (ad 24) 40 (gB re 0) k2 (xg24 rfl) (by decide)) mw_81 nw_84 mw_83 mw_77 pd_X7_at_ ⟨Nat.le_of_ble_eq_true rfl, Nat.le_of_ble_eq_true rfl⟩ rfl hl.1 rfl (Nat.le_of_ble_eq_true rfl) dX5_apply_5 ⟨Nat.le_of_ble_eq_true rfl, Nat.le_of_ble_eq_true rfl⟩) hD hS hA (fun r_1 u_1 H locs hp hP hD hS => ?_)
  obtain ⟨er, eu⟩ := hp
  obtain rfl := er.symm
  obtain rfl := eu.symm
  refine lv_lstore_n (lv' := [(3, .long (rdL (gB re 0) 40 k2)), (0, .ref (ad 5)), (1, .int k1), (2, .int k2)]) hx hb dX5_apply_8 rfl hl (by decide) rfl (fun ls hl => ?_)
  refine lv_iload_n hx hb dX5_apply_9 rfl (lv_at hl 2 rfl) ?_
  refine lv_if_ne (tgt := 32) hx hb dX5_apply_10 (by decide) (fun c_10 => ?_) (fun c_10 => ?_)
  · refine lv_iload_n hx hb dX5_apply_32 rfl (lv_at hl 3 rfl) ?_
    refine kL (rSN hx hb hml hown hg hN hK hP hD (c_bit l D cI cJ (XW ad cI cJ co fl ra li re wa pi) k2) mw_78 nw_87 mw_80 mw_77 pd_X7_bit ⟨Nat.le_of_ble_eq_true rfl, Nat.le_of_ble_eq_true rfl⟩ rfl hl.1 rfl (Nat.le_of_ble_eq_true rfl) dX5_apply_33 ⟨Nat.le_of_ble_eq_true rfl, Nat.le_of_ble_eq_true rfl⟩) hD hS hA (fun r_2 u_2 H locs hp hP hD hS => ?_)
    obtain ⟨er, eu⟩ := hp
    obtain rfl := er.symm
    obtain rfl := eu.symm
    refine lv_lload_n hx hb dX5_apply_36 rfl (lv_at hl 0 rfl) ?_
    refine lv_lor hx hb dX5_apply_37 ?_
    refine lv_lstore (lv' := [(5, .long ((bitL k2) ||| (rdL (gB re 0) 40 k2))), (3, .long (rdL (gB re 0) 40 k2)), (0, .ref (ad 5)), (1, .int k1), (2, .int k2)]) hx hb dX5_apply_38 hl (by decide) rfl (fun ls hl => ?_)
    refine lv_iload_n hx hb dX5_apply_40 rfl (lv_at hl 3 rfl) ?_
    refine lv_iconst (v := 2) hx hb dX5_apply_41 (by decide) ?_
    refine lv_icmp_ne (tgt := 98) hx hb dX5_apply_42 (by decide) (fun c_42 => ?_) (fun c_42 => ?_)
    · refine lv_iload_n hx hb dX5_apply_98 rfl (lv_at hl 3 rfl) ?_
      refine lv_iconst (v := 1) hx hb dX5_apply_99 (by decide) ?_
      refine lv_icmp_ne (tgt := 125) hx hb dX5_apply_100 (by decide) (fun c_100 => ?_) (fun c_100 => ?_)
      · refine lv_iconst (v := 0) hx hb dX5_apply_125 (by decide) ?_
        refine lv_istore (lv' := [(7, .int 0), (5, .long ((bitL k2) ||| (rdL (gB re 0) 40 k2))), (3, .long (rdL (gB re 0) 40 k2)), (0, .ref (ad 5)), (1, .int k1), (2, .int k2)]) hx hb dX5_apply_126 hl (by decide) rfl (fun ls hl => ?_)
        refine lv_aload_n hx hb dX5_apply_128 rfl (lv_at hl 3 rfl) ?_
        refine lv_lload hx hb dX5_apply_129 (lv_at hl 1 rfl) ?_
        refine lv_lload hx hb dX5_apply_131 (lv_at hl 1 rfl) ?_
        refine kI (rSN hx hb hml hown hg hN hK hP hD (c_lowest l D cI cJ (XW ad cI cJ co fl ra li re wa pi) ((bitL k2) ||| (rdL (gB re 0) 40 k2))) mw_74 nw_88 mw_76 mw_77 pd_X7_lowest ⟨Nat.le_of_ble_eq_true rfl, Nat.le_of_ble_eq_true rfl⟩ rfl hl.1 rfl (Nat.le_of_ble_eq_true rfl) dX5_apply_133 ⟨Nat.le_of_ble_eq_true rfl, Nat.le_of_ble_eq_true rfl⟩) hD hS hA (fun r_3 u_3 H locs hp hP hD hS => ?_)
        obtain ⟨er, eu⟩ := hp
        obtain rfl := er.symm
        obtain rfl := eu.symm
        refine lv_iload hx hb dX5_apply_136 (lv_at hl 0 rfl) ?_
        refine kV (rV (q0 := 5) (ci := 5) hx hb hml hown hg hN hK hP hD (c_merge l D cI cJ ad co fl ra li re wa pi ((bitL k2) ||| (rdL (gB re 0) 40 k2)) (lowest ((bitL k2) ||| (rdL (gB re 0) 40 k2))) false) mw_180 mw_181 mw_182 mw_183 mw_173 pdv_X5_merge ⟨Nat.le_of_ble_eq_true rfl, Nat.le_of_ble_eq_true rfl⟩ rfl xo5 rfl hl.1 rfl (Nat.le_of_ble_eq_true rfl) dX5_apply_138 ⟨Nat.le_of_ble_eq_true rfl, Nat.le_of_ble_eq_true rfl⟩) hD hS hA (fun u_4 H locs hp hP hD hS => ?_)
        obtain rfl := hp.symm
        have hP : va_P D vwCl (XW ad cI cJ co fl ra li (merge re ((bitL k2) ||| (rdL (gB re 0) 40 k2)) (lowest ((bitL k2) ||| (rdL (gB re 0) 40 k2))) false) wa pi) H := hP
        have hD : va_D A (XW ad cI cJ co fl ra li (merge re ((bitL k2) ||| (rdL (gB re 0) 40 k2)) (lowest ((bitL k2) ||| (rdL (gB re 0) 40 k2))) false) wa pi) := hD
        exact W.vret hx hb hr (fun t ht hW => ⟨⟨(XW ad cI cJ co fl ra li (merge re ((bitL k2) ||| (rdL (gB re 0) 40 k2)) (lowest ((bitL k2) ||| (rdL (gB re 0) 40 k2))) false) wa pi), rfl, xw_eq rfl rfl rfl rfl (show (merge re ((bitL k2) ||| (rdL (gB re 0) 40 k2)) (lowest ((bitL k2) ||| (rdL (gB re 0) 40 k2))) false) = (apply re k1 k2) from (by simp only [apply, apM, apC, rfC, eq_false c_10, eq_false c_42, eq_false c_100, gi_sl, gi_sA, gi_sB, gi_si_s, gi_si_n, gl_si, gl_sA, gl_sB, gl_sl_s, gl_sl_n, gA_si, gA_sl, gA_sB, gA_sA_s, gA_sA_n, gB_si, gB_sl, gB_sA, gB_sB_s, gB_sB_n, Nat.reduceBEq, if_true, if_false, eq_self, Bool.false_eq_true, Bool.true_eq_false, not_true_eq_false, not_false_eq_true, decide_true, decide_false, cond_true, cond_false, Bool.true_and, Bool.false_and, Bool.and_true, Bool.and_false, Bool.true_or, Bool.false_or, Bool.or_true, Bool.or_false, b2i_tt, b2i_ff, pr_eta]; done)) rfl rfl, ⟨by rw [ht]; exact hP, va_K.moved hW.alike hK, hD⟩⟩, hS.F ht⟩) hS.2.2 dX5_apply_141
      · refine lv_aload_n hx hb dX5_apply_103 rfl (lv_at hl 2 rfl) ?_
        refine va_get (D := D) (ci := 5) (v := .ref (ad 24)) (C := RX5) (T := TX5) (N := 8) hx hb hg inGX5 hown hK hP 5 xo5 rfl 0 (by decide) (hg _ mw_166) (fun _ h9 => h9) xvX5_0 dX5_apply_104 ?_
        refine lv_lload_n hx hb dX5_apply_107 rfl (lv_at hl 1 rfl) ?_
        refine kI (rSN hx hb hml hown hg hN hK hP hD (c_lowest l D cI cJ (XW ad cI cJ co fl ra li re wa pi) (rdL (gB re 0) 40 k2)) mw_74 nw_88 mw_76 mw_77 pd_X7_lowest ⟨Nat.le_of_ble_eq_true rfl, Nat.le_of_ble_eq_true rfl⟩ rfl hl.1 rfl (Nat.le_of_ble_eq_true rfl) dX5_apply_108 ⟨Nat.le_of_ble_eq_true rfl, Nat.le_of_ble_eq_true rfl⟩) hD hS hA (fun r_5 u_5 H locs hp hP hD hS => ?_)
        obtain ⟨er, eu⟩ := hp
        obtain rfl := er.symm
        obtain rfl := eu.symm
        refine kL (rSN hx hb hml hown hg hN hK hP hD (c_atL l D cI cJ (XW ad cI cJ co fl ra li re wa pi) 24 (ad 24) 40 (gB re 0) (lowest (rdL (gB re 0) 40 k2)) (xg24 rfl) (by decide)) mw_81 nw_84 mw_83 mw_77 pd_X7_at_ ⟨Nat.le_of_ble_eq_true rfl, Nat.le_of_ble_eq_true rfl⟩ rfl hl.1 rfl (Nat.le_of_ble_eq_true rfl) dX5_apply_111 ⟨Nat.le_of_ble_eq_true rfl, Nat.le_of_ble_eq_true rfl⟩) hD hS hA (fun r_6 u_6 H locs hp hP hD hS => ?_)
        obtain ⟨er, eu⟩ := hp
        obtain rfl := er.symm
        obtain rfl := eu.symm
        refine lv_iload_n hx hb dX5_apply_114 rfl (lv_at hl 4 rfl) ?_
        refine kI (rSN hx hb hml hown hg hN hK hP hD (c_has l D cI cJ (XW ad cI cJ co fl ra li re wa pi) (rdL (gB re 0) 40 (lowest (rdL (gB re 0) 40 k2))) k2) mw_89 nw_83 mw_90 mw_77 pd_X7_has ⟨Nat.le_of_ble_eq_true rfl, Nat.le_of_ble_eq_true rfl⟩ rfl hl.1 rfl (Nat.le_of_ble_eq_true rfl) dX5_apply_115 ⟨Nat.le_of_ble_eq_true rfl, Nat.le_of_ble_eq_true rfl⟩) hD hS hA (fun r_7 u_7 H locs hp hP hD hS => ?_)
        obtain ⟨er, eu⟩ := hp
        obtain rfl := er.symm
        obtain rfl := eu.symm
        refine lv_if_eq (tgt := 125) hx hb dX5_apply_118 (by decide) (fun c_118 => ?_) (fun c_118 => ?_)
        · have c_118 : ¬ (hs (rdL (gB re 0) 40 (lowest (rdL (gB re 0) 40 k2))) k2) = true := b2i_0 c_118
          refine lv_iconst (v := 0) hx hb dX5_apply_125 (by decide) ?_
          refine lv_istore (lv' := [(7, .int 0), (5, .long ((bitL k2) ||| (rdL (gB re 0) 40 k2))), (3, .long (rdL (gB re 0) 40 k2)), (0, .ref (ad 5)), (1, .int k1), (2, .int k2)]) hx hb dX5_apply_126 hl (by decide) rfl (fun ls hl => ?_)
          refine lv_aload_n hx hb dX5_apply_128 rfl (lv_at hl 3 rfl) ?_
          refine lv_lload hx hb dX5_apply_129 (lv_at hl 1 rfl) ?_
          refine lv_lload hx hb dX5_apply_131 (lv_at hl 1 rfl) ?_
          refine kI (rSN hx hb hml hown hg hN hK hP hD (c_lowest l D cI cJ (XW ad cI cJ co fl ra li re wa pi) ((bitL k2) ||| (rdL (gB re 0) 40 k2))) mw_74 nw_88 mw_76 mw_77 pd_X7_lowest ⟨Nat.le_of_ble_eq_true rfl, Nat.le_of_ble_eq_true rfl⟩ rfl hl.1 rfl (Nat.le_of_ble_eq_true rfl) dX5_apply_133 ⟨Nat.le_of_ble_eq_true rfl, Nat.le_of_ble_eq_true rfl⟩) hD hS hA (fun r_8 u_8 H locs hp hP hD hS => ?_)
          obtain ⟨er, eu⟩ := hp
          obtain rfl := er.symm
          obtain rfl := eu.symm
          refine lv_iload hx hb dX5_apply_136 (lv_at hl 0 rfl) ?_
          refine kV (rV (q0 := 5) (ci := 5) hx hb hml hown hg hN hK hP hD (c_merge l D cI cJ ad co fl ra li re wa pi ((bitL k2) ||| (rdL (gB re 0) 40 k2)) (lowest ((bitL k2) ||| (rdL (gB re 0) 40 k2))) false) mw_180 mw_181 mw_182 mw_183 mw_173 pdv_X5_merge ⟨Nat.le_of_ble_eq_true rfl, Nat.le_of_ble_eq_true rfl⟩ rfl xo5 rfl hl.1 rfl (Nat.le_of_ble_eq_true rfl) dX5_apply_138 ⟨Nat.le_of_ble_eq_true rfl, Nat.le_of_ble_eq_true rfl⟩) hD hS hA (fun u_9 H locs hp hP hD hS => ?_)
          obtain rfl := hp.symm
          have hP : va_P D vwCl (XW ad cI cJ co fl ra li (merge re ((bitL k2) ||| (rdL (gB re 0) 40 k2)) (lowest ((bitL k2) ||| (rdL (gB re 0) 40 k2))) false) wa pi) H := hP
          have hD : va_D A (XW ad cI cJ co fl ra li (merge re ((bitL k2) ||| (rdL (gB re 0) 40 k2)) (lowest ((bitL k2) ||| (rdL (gB re 0) 40 k2))) false) wa pi) := hD
          exact W.vret hx hb hr (fun t ht hW => ⟨⟨(XW ad cI cJ co fl ra li (merge re ((bitL k2) ||| (rdL (gB re 0) 40 k2)) (lowest ((bitL k2) ||| (rdL (gB re 0) 40 k2))) false) wa pi), rfl, xw_eq rfl rfl rfl rfl (show (merge re ((bitL k2) ||| (rdL (gB re 0) 40 k2)) (lowest ((bitL k2) ||| (rdL (gB re 0) 40 k2))) false) = (apply re k1 k2) from (by simp only [apply, apM, apC, rfC, eq_false c_10, eq_false c_42, eq_true c_100, bf_of c_118, gi_sl, gi_sA, gi_sB, gi_si_s, gi_si_n, gl_si, gl_sA, gl_sB, gl_sl_s, gl_sl_n, gA_si, gA_sl, gA_sB, gA_sA_s, gA_sA_n, gB_si, gB_sl, gB_sA, gB_sB_s, gB_sB_n, Nat.reduceBEq, if_true, if_false, eq_self, Bool.false_eq_true, Bool.true_eq_false, not_true_eq_false, not_false_eq_true, decide_true, decide_false, cond_true, cond_false, Bool.true_and, Bool.false_and, Bool.and_true, Bool.and_false, Bool.true_or, Bool.false_or, Bool.or_true, Bool.or_false, b2i_tt, b2i_ff, pr_eta]; done)) rfl rfl, ⟨by rw [ht]; exact hP, va_K.moved hW.alike hK, hD⟩⟩, hS.F ht⟩) hS.2.2 dX5_apply_141
        · have c_118 : (hs (rdL (gB re 0) 40 (lowest (rdL (gB re 0) 40 k2))) k2) = true := b2i_1 c_118
          refine lv_iconst (v := 1) hx hb dX5_apply_121 (by decide) ?_
          refine lv_goto (tgt := 126) hx hb dX5_apply_122 (by decide) ?_
          refine lv_istore (lv' := [(7, .int 1), (5, .long ((bitL k2) ||| (rdL (gB re 0) 40 k2))), (3, .long (rdL (gB re 0) 40 k2)), (0, .ref (ad 5)), (1, .int k1), (2, .int k2)]) hx hb dX5_apply_126 hl (by decide) rfl (fun ls hl => ?_)
          refine lv_aload_n hx hb dX5_apply_128 rfl (lv_at hl 3 rfl) ?_
          refine lv_lload hx hb dX5_apply_129 (lv_at hl 1 rfl) ?_
          refine lv_lload hx hb dX5_apply_131 (lv_at hl 1 rfl) ?_
          refine kI (rSN hx hb hml hown hg hN hK hP hD (c_lowest l D cI cJ (XW ad cI cJ co fl ra li re wa pi) ((bitL k2) ||| (rdL (gB re 0) 40 k2))) mw_74 nw_88 mw_76 mw_77 pd_X7_lowest ⟨Nat.le_of_ble_eq_true rfl, Nat.le_of_ble_eq_true rfl⟩ rfl hl.1 rfl (Nat.le_of_ble_eq_true rfl) dX5_apply_133 ⟨Nat.le_of_ble_eq_true rfl, Nat.le_of_ble_eq_true rfl⟩) hD hS hA (fun r_10 u_10 H locs hp hP hD hS => ?_)
          obtain ⟨er, eu⟩ := hp
          obtain rfl := er.symm
          obtain rfl := eu.symm
          refine lv_iload hx hb dX5_apply_136 (lv_at hl 0 rfl) ?_
          refine kV (rV (q0 := 5) (ci := 5) hx hb hml hown hg hN hK hP hD (c_merge l D cI cJ ad co fl ra li re wa pi ((bitL k2) ||| (rdL (gB re 0) 40 k2)) (lowest ((bitL k2) ||| (rdL (gB re 0) 40 k2))) true) mw_180 mw_181 mw_182 mw_183 mw_173 pdv_X5_merge ⟨Nat.le_of_ble_eq_true rfl, Nat.le_of_ble_eq_true rfl⟩ rfl xo5 rfl hl.1 rfl (Nat.le_of_ble_eq_true rfl) dX5_apply_138 ⟨Nat.le_of_ble_eq_true rfl, Nat.le_of_ble_eq_true rfl⟩) hD hS hA (fun u_11 H locs hp hP hD hS => ?_)
          obtain rfl := hp.symm
          have hP : va_P D vwCl (XW ad cI cJ co fl ra li (merge re ((bitL k2) ||| (rdL (gB re 0) 40 k2)) (lowest ((bitL k2) ||| (rdL (gB re 0) 40 k2))) true) wa pi) H := hP
          have hD : va_D A (XW ad cI cJ co fl ra li (merge re ((bitL k2) ||| (rdL (gB re 0) 40 k2)) (lowest ((bitL k2) ||| (rdL (gB re 0) 40 k2))) true) wa pi) := hD
          exact W.vret hx hb hr (fun t ht hW => ⟨⟨(XW ad cI cJ co fl ra li (merge re ((bitL k2) ||| (rdL (gB re 0) 40 k2)) (lowest ((bitL k2) ||| (rdL (gB re 0) 40 k2))) true) wa pi), rfl, xw_eq rfl rfl rfl rfl (show (merge re ((bitL k2) ||| (rdL (gB re 0) 40 k2)) (lowest ((bitL k2) ||| (rdL (gB re 0) 40 k2))) true) = (apply re k1 k2) from (by simp only [apply, apM, apC, rfC, eq_false c_10, eq_false c_42, eq_true c_100, c_118, gi_sl, gi_sA, gi_sB, gi_si_s, gi_si_n, gl_si, gl_sA, gl_sB, gl_sl_s, gl_sl_n, gA_si, gA_sl, gA_sB, gA_sA_s, gA_sA_n, gB_si, gB_sl, gB_sA, gB_sB_s, gB_sB_n, Nat.reduceBEq, if_true, if_false, eq_self, Bool.false_eq_true, Bool.true_eq_false, not_true_eq_false, not_false_eq_true, decide_true, decide_false, cond_true, cond_false, Bool.true_and, Bool.false_and, Bool.and_true, Bool.and_false, Bool.true_or, Bool.false_or, Bool.or_true, Bool.or_false, b2i_tt, b2i_ff, pr_eta]; done)) rfl rfl, ⟨by rw [ht]; exact hP, va_K.moved hW.alike hK, hD⟩⟩, hS.F ht⟩) hS.2.2 dX5_apply_141
    · refine lv_lload_n hx hb dX5_apply_45 rfl (lv_at hl 1 rfl) ?_
      refine kI (rSN hx hb hml hown hg hN hK hP hD (c_lowest l D cI cJ (XW ad cI cJ co fl ra li re wa pi) (rdL (gB re 0) 40 k2)) mw_74 nw_88 mw_76 mw_77 pd_X7_lowest ⟨Nat.le_of_ble_eq_true rfl, Nat.le_of_ble_eq_true rfl⟩ rfl hl.1 rfl (Nat.le_of_ble_eq_true rfl) dX5_apply_46 ⟨Nat.le_of_ble_eq_true rfl, Nat.le_of_ble_eq_true rfl⟩) hD hS hA (fun r_12 u_12 H locs hp hP hD hS => ?_)
      obtain ⟨er, eu⟩ := hp
      obtain rfl := er.symm
      obtain rfl := eu.symm
      refine lv_istore (lv' := [(7, .int (lowest (rdL (gB re 0) 40 k2))), (5, .long ((bitL k2) ||| (rdL (gB re 0) 40 k2))), (3, .long (rdL (gB re 0) 40 k2)), (0, .ref (ad 5)), (1, .int k1), (2, .int k2)]) hx hb dX5_apply_49 hl (by decide) rfl (fun ls hl => ?_)
      refine lv_lload_n hx hb dX5_apply_51 rfl (lv_at hl 2 rfl) ?_
      refine lv_iload hx hb dX5_apply_52 (lv_at hl 0 rfl) ?_
      refine kL (rSN hx hb hml hown hg hN hK hP hD (c_bit l D cI cJ (XW ad cI cJ co fl ra li re wa pi) (lowest (rdL (gB re 0) 40 k2))) mw_78 nw_87 mw_80 mw_77 pd_X7_bit ⟨Nat.le_of_ble_eq_true rfl, Nat.le_of_ble_eq_true rfl⟩ rfl hl.1 rfl (Nat.le_of_ble_eq_true rfl) dX5_apply_54 ⟨Nat.le_of_ble_eq_true rfl, Nat.le_of_ble_eq_true rfl⟩) hD hS hA (fun r_13 u_13 H locs hp hP hD hS => ?_)
      obtain ⟨er, eu⟩ := hp
      obtain rfl := er.symm
      obtain rfl := eu.symm
      refine lv_ldc2 (v := (-1)) hx hb hown (hg _ mw_168) dX5_apply_57 ?_
      refine lv_lxor hx hb dX5_apply_60 ?_
      refine lv_land hx hb dX5_apply_61 ?_
      refine kI (rSN hx hb hml hown hg hN hK hP hD (c_lowest l D cI cJ (XW ad cI cJ co fl ra li re wa pi) ((rdL (gB re 0) 40 k2) &&& ((bitL (lowest (rdL (gB re 0) 40 k2))) ^^^ (-1)))) mw_74 nw_88 mw_76 mw_77 pd_X7_lowest ⟨Nat.le_of_ble_eq_true rfl, Nat.le_of_ble_eq_true rfl⟩ rfl hl.1 rfl (Nat.le_of_ble_eq_true rfl) dX5_apply_62 ⟨Nat.le_of_ble_eq_true rfl, Nat.le_of_ble_eq_true rfl⟩) hD hS hA (fun r_14 u_14 H locs hp hP hD hS => ?_)
      obtain ⟨er, eu⟩ := hp
      obtain rfl := er.symm
      obtain rfl := eu.symm
      refine lv_istore (lv' := [(8, .int (lowest ((rdL (gB re 0) 40 k2) &&& ((bitL (lowest (rdL (gB re 0) 40 k2))) ^^^ (-1))))), (7, .int (lowest (rdL (gB re 0) 40 k2))), (5, .long ((bitL k2) ||| (rdL (gB re 0) 40 k2))), (3, .long (rdL (gB re 0) 40 k2)), (0, .ref (ad 5)), (1, .int k1), (2, .int k2)]) hx hb dX5_apply_65 hl (by decide) rfl (fun ls hl => ?_)
      refine lv_lload hx hb dX5_apply_67 (lv_at hl 2 rfl) ?_
      refine lv_aload_n hx hb dX5_apply_69 rfl (lv_at hl 4 rfl) ?_
      refine lv_iload_n hx hb dX5_apply_70 rfl (lv_at hl 6 rfl) ?_
      refine lv_iload hx hb dX5_apply_71 (lv_at hl 1 rfl) ?_
      refine lv_iload hx hb dX5_apply_73 (lv_at hl 0 rfl) ?_
      refine kI (rV (q0 := 5) (ci := 5) hx hb hml hown hg hN hK hP hD (c_isSingle l D cI cJ ad co fl ra li re wa pi k2 (lowest (rdL (gB re 0) 40 k2)) (lowest ((rdL (gB re 0) 40 k2) &&& ((bitL (lowest (rdL (gB re 0) 40 k2))) ^^^ (-1))))) mw_169 mw_170 mw_171 mw_172 mw_173 pdv_X5_isSingle ⟨Nat.le_of_ble_eq_true rfl, Nat.le_of_ble_eq_true rfl⟩ rfl xo5 rfl hl.1 rfl (Nat.le_of_ble_eq_true rfl) dX5_apply_75 ⟨Nat.le_of_ble_eq_true rfl, Nat.le_of_ble_eq_true rfl⟩) hD hS hA (fun r_15 u_15 H locs hp hP hD hS => ?_)
      obtain ⟨er, eu⟩ := hp
      obtain rfl := er.symm
      obtain rfl := eu.symm
      refine lv_if_eq (tgt := 86) hx hb dX5_apply_78 (by decide) (fun c_78 => ?_) (fun c_78 => ?_)
      · have c_78 : ¬ (isSingle re k2 (lowest (rdL (gB re 0) 40 k2)) (lowest ((rdL (gB re 0) 40 k2) &&& ((bitL (lowest (rdL (gB re 0) 40 k2))) ^^^ (-1))))) = true := b2i_0 c_78
        refine lv_iload hx hb dX5_apply_86 (lv_at hl 1 rfl) ?_
        refine kL (rSN hx hb hml hown hg hN hK hP hD (c_bit l D cI cJ (XW ad cI cJ co fl ra li re wa pi) (lowest (rdL (gB re 0) 40 k2))) mw_78 nw_87 mw_80 mw_77 pd_X7_bit ⟨Nat.le_of_ble_eq_true rfl, Nat.le_of_ble_eq_true rfl⟩ rfl hl.1 rfl (Nat.le_of_ble_eq_true rfl) dX5_apply_88 ⟨Nat.le_of_ble_eq_true rfl, Nat.le_of_ble_eq_true rfl⟩) hD hS hA (fun r_16 u_16 H locs hp hP hD hS => ?_)
        obtain ⟨er, eu⟩ := hp
        obtain rfl := er.symm
        obtain rfl := eu.symm
        refine lv_ldc2 (v := (-1)) hx hb hown (hg _ mw_168) dX5_apply_91 ?_
        refine lv_lxor hx hb dX5_apply_94 ?_
        refine lv_land hx hb dX5_apply_95 ?_
        refine lv_lstore (lv' := [(5, .long (((bitL k2) ||| (rdL (gB re 0) 40 k2)) &&& ((bitL (lowest (rdL (gB re 0) 40 k2))) ^^^ (-1)))), (8, .int (lowest ((rdL (gB re 0) 40 k2) &&& ((bitL (lowest (rdL (gB re 0) 40 k2))) ^^^ (-1))))), (7, .int (lowest (rdL (gB re 0) 40 k2))), (3, .long (rdL (gB re 0) 40 k2)), (0, .ref (ad 5)), (1, .int k1), (2, .int k2)]) hx hb dX5_apply_96 hl (by decide) rfl (fun ls hl => ?_)
        refine lv_iload_n hx hb dX5_apply_98 rfl (lv_at hl 5 rfl) ?_
        refine lv_iconst (v := 1) hx hb dX5_apply_99 (by decide) ?_
        refine lv_icmp_ne (tgt := 125) hx hb dX5_apply_100 (by decide) (fun c_100 => ?_) (fun c_100 => ?_)
        · refine lv_iconst (v := 0) hx hb dX5_apply_125 (by decide) ?_
          refine lv_istore (lv' := [(7, .int 0), (5, .long (((bitL k2) ||| (rdL (gB re 0) 40 k2)) &&& ((bitL (lowest (rdL (gB re 0) 40 k2))) ^^^ (-1)))), (8, .int (lowest ((rdL (gB re 0) 40 k2) &&& ((bitL (lowest (rdL (gB re 0) 40 k2))) ^^^ (-1))))), (3, .long (rdL (gB re 0) 40 k2)), (0, .ref (ad 5)), (1, .int k1), (2, .int k2)]) hx hb dX5_apply_126 hl (by decide) rfl (fun ls hl => ?_)
          refine lv_aload_n hx hb dX5_apply_128 rfl (lv_at hl 4 rfl) ?_
          refine lv_lload hx hb dX5_apply_129 (lv_at hl 1 rfl) ?_
          refine lv_lload hx hb dX5_apply_131 (lv_at hl 1 rfl) ?_
          refine kI (rSN hx hb hml hown hg hN hK hP hD (c_lowest l D cI cJ (XW ad cI cJ co fl ra li re wa pi) (((bitL k2) ||| (rdL (gB re 0) 40 k2)) &&& ((bitL (lowest (rdL (gB re 0) 40 k2))) ^^^ (-1)))) mw_74 nw_88 mw_76 mw_77 pd_X7_lowest ⟨Nat.le_of_ble_eq_true rfl, Nat.le_of_ble_eq_true rfl⟩ rfl hl.1 rfl (Nat.le_of_ble_eq_true rfl) dX5_apply_133 ⟨Nat.le_of_ble_eq_true rfl, Nat.le_of_ble_eq_true rfl⟩) hD hS hA (fun r_17 u_17 H locs hp hP hD hS => ?_)
          obtain ⟨er, eu⟩ := hp
          obtain rfl := er.symm
          obtain rfl := eu.symm
          refine lv_iload hx hb dX5_apply_136 (lv_at hl 0 rfl) ?_
          refine kV (rV (q0 := 5) (ci := 5) hx hb hml hown hg hN hK hP hD (c_merge l D cI cJ ad co fl ra li re wa pi (((bitL k2) ||| (rdL (gB re 0) 40 k2)) &&& ((bitL (lowest (rdL (gB re 0) 40 k2))) ^^^ (-1))) (lowest (((bitL k2) ||| (rdL (gB re 0) 40 k2)) &&& ((bitL (lowest (rdL (gB re 0) 40 k2))) ^^^ (-1)))) false) mw_180 mw_181 mw_182 mw_183 mw_173 pdv_X5_merge ⟨Nat.le_of_ble_eq_true rfl, Nat.le_of_ble_eq_true rfl⟩ rfl xo5 rfl hl.1 rfl (Nat.le_of_ble_eq_true rfl) dX5_apply_138 ⟨Nat.le_of_ble_eq_true rfl, Nat.le_of_ble_eq_true rfl⟩) hD hS hA (fun u_18 H locs hp hP hD hS => ?_)
          obtain rfl := hp.symm
          have hP : va_P D vwCl (XW ad cI cJ co fl ra li (merge re (((bitL k2) ||| (rdL (gB re 0) 40 k2)) &&& ((bitL (lowest (rdL (gB re 0) 40 k2))) ^^^ (-1))) (lowest (((bitL k2) ||| (rdL (gB re 0) 40 k2)) &&& ((bitL (lowest (rdL (gB re 0) 40 k2))) ^^^ (-1)))) false) wa pi) H := hP
          have hD : va_D A (XW ad cI cJ co fl ra li (merge re (((bitL k2) ||| (rdL (gB re 0) 40 k2)) &&& ((bitL (lowest (rdL (gB re 0) 40 k2))) ^^^ (-1))) (lowest (((bitL k2) ||| (rdL (gB re 0) 40 k2)) &&& ((bitL (lowest (rdL (gB re 0) 40 k2))) ^^^ (-1)))) false) wa pi) := hD
          exact W.vret hx hb hr (fun t ht hW => ⟨⟨(XW ad cI cJ co fl ra li (merge re (((bitL k2) ||| (rdL (gB re 0) 40 k2)) &&& ((bitL (lowest (rdL (gB re 0) 40 k2))) ^^^ (-1))) (lowest (((bitL k2) ||| (rdL (gB re 0) 40 k2)) &&& ((bitL (lowest (rdL (gB re 0) 40 k2))) ^^^ (-1)))) false) wa pi), rfl, xw_eq rfl rfl rfl rfl (show (merge re (((bitL k2) ||| (rdL (gB re 0) 40 k2)) &&& ((bitL (lowest (rdL (gB re 0) 40 k2))) ^^^ (-1))) (lowest (((bitL k2) ||| (rdL (gB re 0) 40 k2)) &&& ((bitL (lowest (rdL (gB re 0) 40 k2))) ^^^ (-1)))) false) = (apply re k1 k2) from (by simp only [apply, apM, apC, rfC, eq_false c_10, eq_true c_42, bf_of c_78, eq_false c_100, gi_sl, gi_sA, gi_sB, gi_si_s, gi_si_n, gl_si, gl_sA, gl_sB, gl_sl_s, gl_sl_n, gA_si, gA_sl, gA_sB, gA_sA_s, gA_sA_n, gB_si, gB_sl, gB_sA, gB_sB_s, gB_sB_n, Nat.reduceBEq, if_true, if_false, eq_self, Bool.false_eq_true, Bool.true_eq_false, not_true_eq_false, not_false_eq_true, decide_true, decide_false, cond_true, cond_false, Bool.true_and, Bool.false_and, Bool.and_true, Bool.and_false, Bool.true_or, Bool.false_or, Bool.or_true, Bool.or_false, b2i_tt, b2i_ff, pr_eta]; done)) rfl rfl, ⟨by rw [ht]; exact hP, va_K.moved hW.alike hK, hD⟩⟩, hS.F ht⟩) hS.2.2 dX5_apply_141
        · refine lv_aload_n hx hb dX5_apply_103 rfl (lv_at hl 4 rfl) ?_
          refine va_get (D := D) (ci := 5) (v := .ref (ad 24)) (C := RX5) (T := TX5) (N := 8) hx hb hg inGX5 hown hK hP 5 xo5 rfl 0 (by decide) (hg _ mw_166) (fun _ h9 => h9) xvX5_0 dX5_apply_104 ?_
          refine lv_lload_n hx hb dX5_apply_107 rfl (lv_at hl 3 rfl) ?_
          refine kI (rSN hx hb hml hown hg hN hK hP hD (c_lowest l D cI cJ (XW ad cI cJ co fl ra li re wa pi) (rdL (gB re 0) 40 k2)) mw_74 nw_88 mw_76 mw_77 pd_X7_lowest ⟨Nat.le_of_ble_eq_true rfl, Nat.le_of_ble_eq_true rfl⟩ rfl hl.1 rfl (Nat.le_of_ble_eq_true rfl) dX5_apply_108 ⟨Nat.le_of_ble_eq_true rfl, Nat.le_of_ble_eq_true rfl⟩) hD hS hA (fun r_19 u_19 H locs hp hP hD hS => ?_)
          obtain ⟨er, eu⟩ := hp
          obtain rfl := er.symm
          obtain rfl := eu.symm
          refine kL (rSN hx hb hml hown hg hN hK hP hD (c_atL l D cI cJ (XW ad cI cJ co fl ra li re wa pi) 24 (ad 24) 40 (gB re 0) (lowest (rdL (gB re 0) 40 k2)) (xg24 rfl) (by decide)) mw_81 nw_84 mw_83 mw_77 pd_X7_at_ ⟨Nat.le_of_ble_eq_true rfl, Nat.le_of_ble_eq_true rfl⟩ rfl hl.1 rfl (Nat.le_of_ble_eq_true rfl) dX5_apply_111 ⟨Nat.le_of_ble_eq_true rfl, Nat.le_of_ble_eq_true rfl⟩) hD hS hA (fun r_20 u_20 H locs hp hP hD hS => ?_)
          obtain ⟨er, eu⟩ := hp
          obtain rfl := er.symm
          obtain rfl := eu.symm
          refine lv_iload_n hx hb dX5_apply_114 rfl (lv_at hl 6 rfl) ?_
          refine kI (rSN hx hb hml hown hg hN hK hP hD (c_has l D cI cJ (XW ad cI cJ co fl ra li re wa pi) (rdL (gB re 0) 40 (lowest (rdL (gB re 0) 40 k2))) k2) mw_89 nw_83 mw_90 mw_77 pd_X7_has ⟨Nat.le_of_ble_eq_true rfl, Nat.le_of_ble_eq_true rfl⟩ rfl hl.1 rfl (Nat.le_of_ble_eq_true rfl) dX5_apply_115 ⟨Nat.le_of_ble_eq_true rfl, Nat.le_of_ble_eq_true rfl⟩) hD hS hA (fun r_21 u_21 H locs hp hP hD hS => ?_)
          obtain ⟨er, eu⟩ := hp
          obtain rfl := er.symm
          obtain rfl := eu.symm
          refine lv_if_eq (tgt := 125) hx hb dX5_apply_118 (by decide) (fun c_118 => ?_) (fun c_118 => ?_)
          · have c_118 : ¬ (hs (rdL (gB re 0) 40 (lowest (rdL (gB re 0) 40 k2))) k2) = true := b2i_0 c_118
            refine lv_iconst (v := 0) hx hb dX5_apply_125 (by decide) ?_
            refine lv_istore (lv' := [(7, .int 0), (5, .long (((bitL k2) ||| (rdL (gB re 0) 40 k2)) &&& ((bitL (lowest (rdL (gB re 0) 40 k2))) ^^^ (-1)))), (8, .int (lowest ((rdL (gB re 0) 40 k2) &&& ((bitL (lowest (rdL (gB re 0) 40 k2))) ^^^ (-1))))), (3, .long (rdL (gB re 0) 40 k2)), (0, .ref (ad 5)), (1, .int k1), (2, .int k2)]) hx hb dX5_apply_126 hl (by decide) rfl (fun ls hl => ?_)
            refine lv_aload_n hx hb dX5_apply_128 rfl (lv_at hl 4 rfl) ?_
            refine lv_lload hx hb dX5_apply_129 (lv_at hl 1 rfl) ?_
            refine lv_lload hx hb dX5_apply_131 (lv_at hl 1 rfl) ?_
            refine kI (rSN hx hb hml hown hg hN hK hP hD (c_lowest l D cI cJ (XW ad cI cJ co fl ra li re wa pi) (((bitL k2) ||| (rdL (gB re 0) 40 k2)) &&& ((bitL (lowest (rdL (gB re 0) 40 k2))) ^^^ (-1)))) mw_74 nw_88 mw_76 mw_77 pd_X7_lowest ⟨Nat.le_of_ble_eq_true rfl, Nat.le_of_ble_eq_true rfl⟩ rfl hl.1 rfl (Nat.le_of_ble_eq_true rfl) dX5_apply_133 ⟨Nat.le_of_ble_eq_true rfl, Nat.le_of_ble_eq_true rfl⟩) hD hS hA (fun r_22 u_22 H locs hp hP hD hS => ?_)
            obtain ⟨er, eu⟩ := hp
            obtain rfl := er.symm
            obtain rfl := eu.symm
            refine lv_iload hx hb dX5_apply_136 (lv_at hl 0 rfl) ?_
            refine kV (rV (q0 := 5) (ci := 5) hx hb hml hown hg hN hK hP hD (c_merge l D cI cJ ad co fl ra li re wa pi (((bitL k2) ||| (rdL (gB re 0) 40 k2)) &&& ((bitL (lowest (rdL (gB re 0) 40 k2))) ^^^ (-1))) (lowest (((bitL k2) ||| (rdL (gB re 0) 40 k2)) &&& ((bitL (lowest (rdL (gB re 0) 40 k2))) ^^^ (-1)))) false) mw_180 mw_181 mw_182 mw_183 mw_173 pdv_X5_merge ⟨Nat.le_of_ble_eq_true rfl, Nat.le_of_ble_eq_true rfl⟩ rfl xo5 rfl hl.1 rfl (Nat.le_of_ble_eq_true rfl) dX5_apply_138 ⟨Nat.le_of_ble_eq_true rfl, Nat.le_of_ble_eq_true rfl⟩) hD hS hA (fun u_23 H locs hp hP hD hS => ?_)
            obtain rfl := hp.symm
            have hP : va_P D vwCl (XW ad cI cJ co fl ra li (merge re (((bitL k2) ||| (rdL (gB re 0) 40 k2)) &&& ((bitL (lowest (rdL (gB re 0) 40 k2))) ^^^ (-1))) (lowest (((bitL k2) ||| (rdL (gB re 0) 40 k2)) &&& ((bitL (lowest (rdL (gB re 0) 40 k2))) ^^^ (-1)))) false) wa pi) H := hP
            have hD : va_D A (XW ad cI cJ co fl ra li (merge re (((bitL k2) ||| (rdL (gB re 0) 40 k2)) &&& ((bitL (lowest (rdL (gB re 0) 40 k2))) ^^^ (-1))) (lowest (((bitL k2) ||| (rdL (gB re 0) 40 k2)) &&& ((bitL (lowest (rdL (gB re 0) 40 k2))) ^^^ (-1)))) false) wa pi) := hD
            exact W.vret hx hb hr (fun t ht hW => ⟨⟨(XW ad cI cJ co fl ra li (merge re (((bitL k2) ||| (rdL (gB re 0) 40 k2)) &&& ((bitL (lowest (rdL (gB re 0) 40 k2))) ^^^ (-1))) (lowest (((bitL k2) ||| (rdL (gB re 0) 40 k2)) &&& ((bitL (lowest (rdL (gB re 0) 40 k2))) ^^^ (-1)))) false) wa pi), rfl, xw_eq rfl rfl rfl rfl (show (merge re (((bitL k2) ||| (rdL (gB re 0) 40 k2)) &&& ((bitL (lowest (rdL (gB re 0) 40 k2))) ^^^ (-1))) (lowest (((bitL k2) ||| (rdL (gB re 0) 40 k2)) &&& ((bitL (lowest (rdL (gB re 0) 40 k2))) ^^^ (-1)))) false) = (apply re k1 k2) from (by simp only [apply, apM, apC, rfC, eq_false c_10, eq_true c_42, bf_of c_78, eq_true c_100, bf_of c_118, gi_sl, gi_sA, gi_sB, gi_si_s, gi_si_n, gl_si, gl_sA, gl_sB, gl_sl_s, gl_sl_n, gA_si, gA_sl, gA_sB, gA_sA_s, gA_sA_n, gB_si, gB_sl, gB_sA, gB_sB_s, gB_sB_n, Nat.reduceBEq, if_true, if_false, eq_self, Bool.false_eq_true, Bool.true_eq_false, not_true_eq_false, not_false_eq_true, decide_true, decide_false, cond_true, cond_false, Bool.true_and, Bool.false_and, Bool.and_true, Bool.and_false, Bool.true_or, Bool.false_or, Bool.or_true, Bool.or_false, b2i_tt, b2i_ff, pr_eta]; done)) rfl rfl, ⟨by rw [ht]; exact hP, va_K.moved hW.alike hK, hD⟩⟩, hS.F ht⟩) hS.2.2 dX5_apply_141
          · have c_118 : (hs (rdL (gB re 0) 40 (lowest (rdL (gB re 0) 40 k2))) k2) = true := b2i_1 c_118
            refine lv_iconst (v := 1) hx hb dX5_apply_121 (by decide) ?_
            refine lv_goto (tgt := 126) hx hb dX5_apply_122 (by decide) ?_
            refine lv_istore (lv' := [(7, .int 1), (5, .long (((bitL k2) ||| (rdL (gB re 0) 40 k2)) &&& ((bitL (lowest (rdL (gB re 0) 40 k2))) ^^^ (-1)))), (8, .int (lowest ((rdL (gB re 0) 40 k2) &&& ((bitL (lowest (rdL (gB re 0) 40 k2))) ^^^ (-1))))), (3, .long (rdL (gB re 0) 40 k2)), (0, .ref (ad 5)), (1, .int k1), (2, .int k2)]) hx hb dX5_apply_126 hl (by decide) rfl (fun ls hl => ?_)
            refine lv_aload_n hx hb dX5_apply_128 rfl (lv_at hl 4 rfl) ?_
            refine lv_lload hx hb dX5_apply_129 (lv_at hl 1 rfl) ?_
            refine lv_lload hx hb dX5_apply_131 (lv_at hl 1 rfl) ?_
            refine kI (rSN hx hb hml hown hg hN hK hP hD (c_lowest l D cI cJ (XW ad cI cJ co fl ra li re wa pi) (((bitL k2) ||| (rdL (gB re 0) 40 k2)) &&& ((bitL (lowest (rdL (gB re 0) 40 k2))) ^^^ (-1)))) mw_74 nw_88 mw_76 mw_77 pd_X7_lowest ⟨Nat.le_of_ble_eq_true rfl, Nat.le_of_ble_eq_true rfl⟩ rfl hl.1 rfl (Nat.le_of_ble_eq_true rfl) dX5_apply_133 ⟨Nat.le_of_ble_eq_true rfl, Nat.le_of_ble_eq_true rfl⟩) hD hS hA (fun r_24 u_24 H locs hp hP hD hS => ?_)
            obtain ⟨er, eu⟩ := hp
            obtain rfl := er.symm
            obtain rfl := eu.symm
            refine lv_iload hx hb dX5_apply_136 (lv_at hl 0 rfl) ?_
            refine kV (rV (q0 := 5) (ci := 5) hx hb hml hown hg hN hK hP hD (c_merge l D cI cJ ad co fl ra li re wa pi (((bitL k2) ||| (rdL (gB re 0) 40 k2)) &&& ((bitL (lowest (rdL (gB re 0) 40 k2))) ^^^ (-1))) (lowest (((bitL k2) ||| (rdL (gB re 0) 40 k2)) &&& ((bitL (lowest (rdL (gB re 0) 40 k2))) ^^^ (-1)))) true) mw_180 mw_181 mw_182 mw_183 mw_173 pdv_X5_merge ⟨Nat.le_of_ble_eq_true rfl, Nat.le_of_ble_eq_true rfl⟩ rfl xo5 rfl hl.1 rfl (Nat.le_of_ble_eq_true rfl) dX5_apply_138 ⟨Nat.le_of_ble_eq_true rfl, Nat.le_of_ble_eq_true rfl⟩) hD hS hA (fun u_25 H locs hp hP hD hS => ?_)
            obtain rfl := hp.symm
            have hP : va_P D vwCl (XW ad cI cJ co fl ra li (merge re (((bitL k2) ||| (rdL (gB re 0) 40 k2)) &&& ((bitL (lowest (rdL (gB re 0) 40 k2))) ^^^ (-1))) (lowest (((bitL k2) ||| (rdL (gB re 0) 40 k2)) &&& ((bitL (lowest (rdL (gB re 0) 40 k2))) ^^^ (-1)))) true) wa pi) H := hP
            have hD : va_D A (XW ad cI cJ co fl ra li (merge re (((bitL k2) ||| (rdL (gB re 0) 40 k2)) &&& ((bitL (lowest (rdL (gB re 0) 40 k2))) ^^^ (-1))) (lowest (((bitL k2) ||| (rdL (gB re 0) 40 k2)) &&& ((bitL (lowest (rdL (gB re 0) 40 k2))) ^^^ (-1)))) true) wa pi) := hD
            exact W.vret hx hb hr (fun t ht hW => ⟨⟨(XW ad cI cJ co fl ra li (merge re (((bitL k2) ||| (rdL (gB re 0) 40 k2)) &&& ((bitL (lowest (rdL (gB re 0) 40 k2))) ^^^ (-1))) (lowest (((bitL k2) ||| (rdL (gB re 0) 40 k2)) &&& ((bitL (lowest (rdL (gB re 0) 40 k2))) ^^^ (-1)))) true) wa pi), rfl, xw_eq rfl rfl rfl rfl (show (merge re (((bitL k2) ||| (rdL (gB re 0) 40 k2)) &&& ((bitL (lowest (rdL (gB re 0) 40 k2))) ^^^ (-1))) (lowest (((bitL k2) ||| (rdL (gB re 0) 40 k2)) &&& ((bitL (lowest (rdL (gB re 0) 40 k2))) ^^^ (-1)))) true) = (apply re k1 k2) from (by simp only [apply, apM, apC, rfC, eq_false c_10, eq_true c_42, bf_of c_78, eq_true c_100, c_118, gi_sl, gi_sA, gi_sB, gi_si_s, gi_si_n, gl_si, gl_sA, gl_sB, gl_sl_s, gl_sl_n, gA_si, gA_sl, gA_sB, gA_sA_s, gA_sA_n, gB_si, gB_sl, gB_sA, gB_sB_s, gB_sB_n, Nat.reduceBEq, if_true, if_false, eq_self, Bool.false_eq_true, Bool.true_eq_false, not_true_eq_false, not_false_eq_true, decide_true, decide_false, cond_true, cond_false, Bool.true_and, Bool.false_and, Bool.and_true, Bool.and_false, Bool.true_or, Bool.false_or, Bool.or_true, Bool.or_false, b2i_tt, b2i_ff, pr_eta]; done)) rfl rfl, ⟨by rw [ht]; exact hP, va_K.moved hW.alike hK, hD⟩⟩, hS.F ht⟩) hS.2.2 dX5_apply_141
      · have c_78 : (isSingle re k2 (lowest (rdL (gB re 0) 40 k2)) (lowest ((rdL (gB re 0) 40 k2) &&& ((bitL (lowest (rdL (gB re 0) 40 k2))) ^^^ (-1))))) = true := b2i_1 c_78
        refine lv_iload hx hb dX5_apply_81 (lv_at hl 0 rfl) ?_
        refine lv_goto (tgt := 88) hx hb dX5_apply_83 (by decide) ?_
        refine kL (rSN hx hb hml hown hg hN hK hP hD (c_bit l D cI cJ (XW ad cI cJ co fl ra li re wa pi) (lowest ((rdL (gB re 0) 40 k2) &&& ((bitL (lowest (rdL (gB re 0) 40 k2))) ^^^ (-1))))) mw_78 nw_87 mw_80 mw_77 pd_X7_bit ⟨Nat.le_of_ble_eq_true rfl, Nat.le_of_ble_eq_true rfl⟩ rfl hl.1 rfl (Nat.le_of_ble_eq_true rfl) dX5_apply_88 ⟨Nat.le_of_ble_eq_true rfl, Nat.le_of_ble_eq_true rfl⟩) hD hS hA (fun r_26 u_26 H locs hp hP hD hS => ?_)
        obtain ⟨er, eu⟩ := hp
        obtain rfl := er.symm
        obtain rfl := eu.symm
        refine lv_ldc2 (v := (-1)) hx hb hown (hg _ mw_168) dX5_apply_91 ?_
        refine lv_lxor hx hb dX5_apply_94 ?_
        refine lv_land hx hb dX5_apply_95 ?_
        refine lv_lstore (lv' := [(5, .long (((bitL k2) ||| (rdL (gB re 0) 40 k2)) &&& ((bitL (lowest ((rdL (gB re 0) 40 k2) &&& ((bitL (lowest (rdL (gB re 0) 40 k2))) ^^^ (-1))))) ^^^ (-1)))), (8, .int (lowest ((rdL (gB re 0) 40 k2) &&& ((bitL (lowest (rdL (gB re 0) 40 k2))) ^^^ (-1))))), (7, .int (lowest (rdL (gB re 0) 40 k2))), (3, .long (rdL (gB re 0) 40 k2)), (0, .ref (ad 5)), (1, .int k1), (2, .int k2)]) hx hb dX5_apply_96 hl (by decide) rfl (fun ls hl => ?_)
        refine lv_iload_n hx hb dX5_apply_98 rfl (lv_at hl 5 rfl) ?_
        refine lv_iconst (v := 1) hx hb dX5_apply_99 (by decide) ?_
        refine lv_icmp_ne (tgt := 125) hx hb dX5_apply_100 (by decide) (fun c_100 => ?_) (fun c_100 => ?_)
        · refine lv_iconst (v := 0) hx hb dX5_apply_125 (by decide) ?_
          refine lv_istore (lv' := [(7, .int 0), (5, .long (((bitL k2) ||| (rdL (gB re 0) 40 k2)) &&& ((bitL (lowest ((rdL (gB re 0) 40 k2) &&& ((bitL (lowest (rdL (gB re 0) 40 k2))) ^^^ (-1))))) ^^^ (-1)))), (8, .int (lowest ((rdL (gB re 0) 40 k2) &&& ((bitL (lowest (rdL (gB re 0) 40 k2))) ^^^ (-1))))), (3, .long (rdL (gB re 0) 40 k2)), (0, .ref (ad 5)), (1, .int k1), (2, .int k2)]) hx hb dX5_apply_126 hl (by decide) rfl (fun ls hl => ?_)
          refine lv_aload_n hx hb dX5_apply_128 rfl (lv_at hl 4 rfl) ?_
          refine lv_lload hx hb dX5_apply_129 (lv_at hl 1 rfl) ?_
          refine lv_lload hx hb dX5_apply_131 (lv_at hl 1 rfl) ?_
          refine kI (rSN hx hb hml hown hg hN hK hP hD (c_lowest l D cI cJ (XW ad cI cJ co fl ra li re wa pi) (((bitL k2) ||| (rdL (gB re 0) 40 k2)) &&& ((bitL (lowest ((rdL (gB re 0) 40 k2) &&& ((bitL (lowest (rdL (gB re 0) 40 k2))) ^^^ (-1))))) ^^^ (-1)))) mw_74 nw_88 mw_76 mw_77 pd_X7_lowest ⟨Nat.le_of_ble_eq_true rfl, Nat.le_of_ble_eq_true rfl⟩ rfl hl.1 rfl (Nat.le_of_ble_eq_true rfl) dX5_apply_133 ⟨Nat.le_of_ble_eq_true rfl, Nat.le_of_ble_eq_true rfl⟩) hD hS hA (fun r_27 u_27 H locs hp hP hD hS => ?_)
          obtain ⟨er, eu⟩ := hp
          obtain rfl := er.symm
          obtain rfl := eu.symm
          refine lv_iload hx hb dX5_apply_136 (lv_at hl 0 rfl) ?_
          refine kV (rV (q0 := 5) (ci := 5) hx hb hml hown hg hN hK hP hD (c_merge l D cI cJ ad co fl ra li re wa pi (((bitL k2) ||| (rdL (gB re 0) 40 k2)) &&& ((bitL (lowest ((rdL (gB re 0) 40 k2) &&& ((bitL (lowest (rdL (gB re 0) 40 k2))) ^^^ (-1))))) ^^^ (-1))) (lowest (((bitL k2) ||| (rdL (gB re 0) 40 k2)) &&& ((bitL (lowest ((rdL (gB re 0) 40 k2) &&& ((bitL (lowest (rdL (gB re 0) 40 k2))) ^^^ (-1))))) ^^^ (-1)))) false) mw_180 mw_181 mw_182 mw_183 mw_173 pdv_X5_merge ⟨Nat.le_of_ble_eq_true rfl, Nat.le_of_ble_eq_true rfl⟩ rfl xo5 rfl hl.1 rfl (Nat.le_of_ble_eq_true rfl) dX5_apply_138 ⟨Nat.le_of_ble_eq_true rfl, Nat.le_of_ble_eq_true rfl⟩) hD hS hA (fun u_28 H locs hp hP hD hS => ?_)
          obtain rfl := hp.symm
          have hP : va_P D vwCl (XW ad cI cJ co fl ra li (merge re (((bitL k2) ||| (rdL (gB re 0) 40 k2)) &&& ((bitL (lowest ((rdL (gB re 0) 40 k2) &&& ((bitL (lowest (rdL (gB re 0) 40 k2))) ^^^ (-1))))) ^^^ (-1))) (lowest (((bitL k2) ||| (rdL (gB re 0) 40 k2)) &&& ((bitL (lowest ((rdL (gB re 0) 40 k2) &&& ((bitL (lowest (rdL (gB re 0) 40 k2))) ^^^ (-1))))) ^^^ (-1)))) false) wa pi) H := hP
          have hD : va_D A (XW ad cI cJ co fl ra li (merge re (((bitL k2) ||| (rdL (gB re 0) 40 k2)) &&& ((bitL (lowest ((rdL (gB re 0) 40 k2) &&& ((bitL (lowest (rdL (gB re 0) 40 k2))) ^^^ (-1))))) ^^^ (-1))) (lowest (((bitL k2) ||| (rdL (gB re 0) 40 k2)) &&& ((bitL (lowest ((rdL (gB re 0) 40 k2) &&& ((bitL (lowest (rdL (gB re 0) 40 k2))) ^^^ (-1))))) ^^^ (-1)))) false) wa pi) := hD
          exact W.vret hx hb hr (fun t ht hW => ⟨⟨(XW ad cI cJ co fl ra li (merge re (((bitL k2) ||| (rdL (gB re 0) 40 k2)) &&& ((bitL (lowest ((rdL (gB re 0) 40 k2) &&& ((bitL (lowest (rdL (gB re 0) 40 k2))) ^^^ (-1))))) ^^^ (-1))) (lowest (((bitL k2) ||| (rdL (gB re 0) 40 k2)) &&& ((bitL (lowest ((rdL (gB re 0) 40 k2) &&& ((bitL (lowest (rdL (gB re 0) 40 k2))) ^^^ (-1))))) ^^^ (-1)))) false) wa pi), rfl, xw_eq rfl rfl rfl rfl (show (merge re (((bitL k2) ||| (rdL (gB re 0) 40 k2)) &&& ((bitL (lowest ((rdL (gB re 0) 40 k2) &&& ((bitL (lowest (rdL (gB re 0) 40 k2))) ^^^ (-1))))) ^^^ (-1))) (lowest (((bitL k2) ||| (rdL (gB re 0) 40 k2)) &&& ((bitL (lowest ((rdL (gB re 0) 40 k2) &&& ((bitL (lowest (rdL (gB re 0) 40 k2))) ^^^ (-1))))) ^^^ (-1)))) false) = (apply re k1 k2) from (by simp only [apply, apM, apC, rfC, eq_false c_10, eq_true c_42, c_78, eq_false c_100, gi_sl, gi_sA, gi_sB, gi_si_s, gi_si_n, gl_si, gl_sA, gl_sB, gl_sl_s, gl_sl_n, gA_si, gA_sl, gA_sB, gA_sA_s, gA_sA_n, gB_si, gB_sl, gB_sA, gB_sB_s, gB_sB_n, Nat.reduceBEq, if_true, if_false, eq_self, Bool.false_eq_true, Bool.true_eq_false, not_true_eq_false, not_false_eq_true, decide_true, decide_false, cond_true, cond_false, Bool.true_and, Bool.false_and, Bool.and_true, Bool.and_false, Bool.true_or, Bool.false_or, Bool.or_true, Bool.or_false, b2i_tt, b2i_ff, pr_eta]; done)) rfl rfl, ⟨by rw [ht]; exact hP, va_K.moved hW.alike hK, hD⟩⟩, hS.F ht⟩) hS.2.2 dX5_apply_141
        · refine lv_aload_n hx hb dX5_apply_103 rfl (lv_at hl 4 rfl) ?_
          refine va_get (D := D) (ci := 5) (v := .ref (ad 24)) (C := RX5) (T := TX5) (N := 8) hx hb hg inGX5 hown hK hP 5 xo5 rfl 0 (by decide) (hg _ mw_166) (fun _ h9 => h9) xvX5_0 dX5_apply_104 ?_
          refine lv_lload_n hx hb dX5_apply_107 rfl (lv_at hl 3 rfl) ?_
          refine kI (rSN hx hb hml hown hg hN hK hP hD (c_lowest l D cI cJ (XW ad cI cJ co fl ra li re wa pi) (rdL (gB re 0) 40 k2)) mw_74 nw_88 mw_76 mw_77 pd_X7_lowest ⟨Nat.le_of_ble_eq_true rfl, Nat.le_of_ble_eq_true rfl⟩ rfl hl.1 rfl (Nat.le_of_ble_eq_true rfl) dX5_apply_108 ⟨Nat.le_of_ble_eq_true rfl, Nat.le_of_ble_eq_true rfl⟩) hD hS hA (fun r_29 u_29 H locs hp hP hD hS => ?_)
          obtain ⟨er, eu⟩ := hp
          obtain rfl := er.symm
          obtain rfl := eu.symm
          refine kL (rSN hx hb hml hown hg hN hK hP hD (c_atL l D cI cJ (XW ad cI cJ co fl ra li re wa pi) 24 (ad 24) 40 (gB re 0) (lowest (rdL (gB re 0) 40 k2)) (xg24 rfl) (by decide)) mw_81 nw_84 mw_83 mw_77 pd_X7_at_ ⟨Nat.le_of_ble_eq_true rfl, Nat.le_of_ble_eq_true rfl⟩ rfl hl.1 rfl (Nat.le_of_ble_eq_true rfl) dX5_apply_111 ⟨Nat.le_of_ble_eq_true rfl, Nat.le_of_ble_eq_true rfl⟩) hD hS hA (fun r_30 u_30 H locs hp hP hD hS => ?_)
          obtain ⟨er, eu⟩ := hp
          obtain rfl := er.symm
          obtain rfl := eu.symm
          refine lv_iload_n hx hb dX5_apply_114 rfl (lv_at hl 6 rfl) ?_
          refine kI (rSN hx hb hml hown hg hN hK hP hD (c_has l D cI cJ (XW ad cI cJ co fl ra li re wa pi) (rdL (gB re 0) 40 (lowest (rdL (gB re 0) 40 k2))) k2) mw_89 nw_83 mw_90 mw_77 pd_X7_has ⟨Nat.le_of_ble_eq_true rfl, Nat.le_of_ble_eq_true rfl⟩ rfl hl.1 rfl (Nat.le_of_ble_eq_true rfl) dX5_apply_115 ⟨Nat.le_of_ble_eq_true rfl, Nat.le_of_ble_eq_true rfl⟩) hD hS hA (fun r_31 u_31 H locs hp hP hD hS => ?_)
          obtain ⟨er, eu⟩ := hp
          obtain rfl := er.symm
          obtain rfl := eu.symm
          refine lv_if_eq (tgt := 125) hx hb dX5_apply_118 (by decide) (fun c_118 => ?_) (fun c_118 => ?_)
          · have c_118 : ¬ (hs (rdL (gB re 0) 40 (lowest (rdL (gB re 0) 40 k2))) k2) = true := b2i_0 c_118
            refine lv_iconst (v := 0) hx hb dX5_apply_125 (by decide) ?_
            refine lv_istore (lv' := [(7, .int 0), (5, .long (((bitL k2) ||| (rdL (gB re 0) 40 k2)) &&& ((bitL (lowest ((rdL (gB re 0) 40 k2) &&& ((bitL (lowest (rdL (gB re 0) 40 k2))) ^^^ (-1))))) ^^^ (-1)))), (8, .int (lowest ((rdL (gB re 0) 40 k2) &&& ((bitL (lowest (rdL (gB re 0) 40 k2))) ^^^ (-1))))), (3, .long (rdL (gB re 0) 40 k2)), (0, .ref (ad 5)), (1, .int k1), (2, .int k2)]) hx hb dX5_apply_126 hl (by decide) rfl (fun ls hl => ?_)
            refine lv_aload_n hx hb dX5_apply_128 rfl (lv_at hl 4 rfl) ?_
            refine lv_lload hx hb dX5_apply_129 (lv_at hl 1 rfl) ?_
            refine lv_lload hx hb dX5_apply_131 (lv_at hl 1 rfl) ?_
            refine kI (rSN hx hb hml hown hg hN hK hP hD (c_lowest l D cI cJ (XW ad cI cJ co fl ra li re wa pi) (((bitL k2) ||| (rdL (gB re 0) 40 k2)) &&& ((bitL (lowest ((rdL (gB re 0) 40 k2) &&& ((bitL (lowest (rdL (gB re 0) 40 k2))) ^^^ (-1))))) ^^^ (-1)))) mw_74 nw_88 mw_76 mw_77 pd_X7_lowest ⟨Nat.le_of_ble_eq_true rfl, Nat.le_of_ble_eq_true rfl⟩ rfl hl.1 rfl (Nat.le_of_ble_eq_true rfl) dX5_apply_133 ⟨Nat.le_of_ble_eq_true rfl, Nat.le_of_ble_eq_true rfl⟩) hD hS hA (fun r_32 u_32 H locs hp hP hD hS => ?_)
            obtain ⟨er, eu⟩ := hp
            obtain rfl := er.symm
            obtain rfl := eu.symm
            refine lv_iload hx hb dX5_apply_136 (lv_at hl 0 rfl) ?_
            refine kV (rV (q0 := 5) (ci := 5) hx hb hml hown hg hN hK hP hD (c_merge l D cI cJ ad co fl ra li re wa pi (((bitL k2) ||| (rdL (gB re 0) 40 k2)) &&& ((bitL (lowest ((rdL (gB re 0) 40 k2) &&& ((bitL (lowest (rdL (gB re 0) 40 k2))) ^^^ (-1))))) ^^^ (-1))) (lowest (((bitL k2) ||| (rdL (gB re 0) 40 k2)) &&& ((bitL (lowest ((rdL (gB re 0) 40 k2) &&& ((bitL (lowest (rdL (gB re 0) 40 k2))) ^^^ (-1))))) ^^^ (-1)))) false) mw_180 mw_181 mw_182 mw_183 mw_173 pdv_X5_merge ⟨Nat.le_of_ble_eq_true rfl, Nat.le_of_ble_eq_true rfl⟩ rfl xo5 rfl hl.1 rfl (Nat.le_of_ble_eq_true rfl) dX5_apply_138 ⟨Nat.le_of_ble_eq_true rfl, Nat.le_of_ble_eq_true rfl⟩) hD hS hA (fun u_33 H locs hp hP hD hS => ?_)
            obtain rfl := hp.symm
            have hP : va_P D vwCl (XW ad cI cJ co fl ra li (merge re (((bitL k2) ||| (rdL (gB re 0) 40 k2)) &&& ((bitL (lowest ((rdL (gB re 0) 40 k2) &&& ((bitL (lowest (rdL (gB re 0) 40 k2))) ^^^ (-1))))) ^^^ (-1))) (lowest (((bitL k2) ||| (rdL (gB re 0) 40 k2)) &&& ((bitL (lowest ((rdL (gB re 0) 40 k2) &&& ((bitL (lowest (rdL (gB re 0) 40 k2))) ^^^ (-1))))) ^^^ (-1)))) false) wa pi) H := hP
            have hD : va_D A (XW ad cI cJ co fl ra li (merge re (((bitL k2) ||| (rdL (gB re 0) 40 k2)) &&& ((bitL (lowest ((rdL (gB re 0) 40 k2) &&& ((bitL (lowest (rdL (gB re 0) 40 k2))) ^^^ (-1))))) ^^^ (-1))) (lowest (((bitL k2) ||| (rdL (gB re 0) 40 k2)) &&& ((bitL (lowest ((rdL (gB re 0) 40 k2) &&& ((bitL (lowest (rdL (gB re 0) 40 k2))) ^^^ (-1))))) ^^^ (-1)))) false) wa pi) := hD
            exact W.vret hx hb hr (fun t ht hW => ⟨⟨(XW ad cI cJ co fl ra li (merge re (((bitL k2) ||| (rdL (gB re 0) 40 k2)) &&& ((bitL (lowest ((rdL (gB re 0) 40 k2) &&& ((bitL (lowest (rdL (gB re 0) 40 k2))) ^^^ (-1))))) ^^^ (-1))) (lowest (((bitL k2) ||| (rdL (gB re 0) 40 k2)) &&& ((bitL (lowest ((rdL (gB re 0) 40 k2) &&& ((bitL (lowest (rdL (gB re 0) 40 k2))) ^^^ (-1))))) ^^^ (-1)))) false) wa pi), rfl, xw_eq rfl rfl rfl rfl (show (merge re (((bitL k2) ||| (rdL (gB re 0) 40 k2)) &&& ((bitL (lowest ((rdL (gB re 0) 40 k2) &&& ((bitL (lowest (rdL (gB re 0) 40 k2))) ^^^ (-1))))) ^^^ (-1))) (lowest (((bitL k2) ||| (rdL (gB re 0) 40 k2)) &&& ((bitL (lowest ((rdL (gB re 0) 40 k2) &&& ((bitL (lowest (rdL (gB re 0) 40 k2))) ^^^ (-1))))) ^^^ (-1)))) false) = (apply re k1 k2) from (by simp only [apply, apM, apC, rfC, eq_false c_10, eq_true c_42, c_78, eq_true c_100, bf_of c_118, gi_sl, gi_sA, gi_sB, gi_si_s, gi_si_n, gl_si, gl_sA, gl_sB, gl_sl_s, gl_sl_n, gA_si, gA_sl, gA_sB, gA_sA_s, gA_sA_n, gB_si, gB_sl, gB_sA, gB_sB_s, gB_sB_n, Nat.reduceBEq, if_true, if_false, eq_self, Bool.false_eq_true, Bool.true_eq_false, not_true_eq_false, not_false_eq_true, decide_true, decide_false, cond_true, cond_false, Bool.true_and, Bool.false_and, Bool.and_true, Bool.and_false, Bool.true_or, Bool.false_or, Bool.or_true, Bool.or_false, b2i_tt, b2i_ff, pr_eta]; done)) rfl rfl, ⟨by rw [ht]; exact hP, va_K.moved hW.alike hK, hD⟩⟩, hS.F ht⟩) hS.2.2 dX5_apply_141
          · have c_118 : (hs (rdL (gB re 0) 40 (lowest (rdL (gB re 0) 40 k2))) k2) = true := b2i_1 c_118
            refine lv_iconst (v := 1) hx hb dX5_apply_121 (by decide) ?_
            refine lv_goto (tgt := 126) hx hb dX5_apply_122 (by decide) ?_
            refine lv_istore (lv' := [(7, .int 1), (5, .long (((bitL k2) ||| (rdL (gB re 0) 40 k2)) &&& ((bitL (lowest ((rdL (gB re 0) 40 k2) &&& ((bitL (lowest (rdL (gB re 0) 40 k2))) ^^^ (-1))))) ^^^ (-1)))), (8, .int (lowest ((rdL (gB re 0) 40 k2) &&& ((bitL (lowest (rdL (gB re 0) 40 k2))) ^^^ (-1))))), (3, .long (rdL (gB re 0) 40 k2)), (0, .ref (ad 5)), (1, .int k1), (2, .int k2)]) hx hb dX5_apply_126 hl (by decide) rfl (fun ls hl => ?_)
            refine lv_aload_n hx hb dX5_apply_128 rfl (lv_at hl 4 rfl) ?_
            refine lv_lload hx hb dX5_apply_129 (lv_at hl 1 rfl) ?_
            refine lv_lload hx hb dX5_apply_131 (lv_at hl 1 rfl) ?_
            refine kI (rSN hx hb hml hown hg hN hK hP hD (c_lowest l D cI cJ (XW ad cI cJ co fl ra li re wa pi) (((bitL k2) ||| (rdL (gB re 0) 40 k2)) &&& ((bitL (lowest ((rdL (gB re 0) 40 k2) &&& ((bitL (lowest (rdL (gB re 0) 40 k2))) ^^^ (-1))))) ^^^ (-1)))) mw_74 nw_88 mw_76 mw_77 pd_X7_lowest ⟨Nat.le_of_ble_eq_true rfl, Nat.le_of_ble_eq_true rfl⟩ rfl hl.1 rfl (Nat.le_of_ble_eq_true rfl) dX5_apply_133 ⟨Nat.le_of_ble_eq_true rfl, Nat.le_of_ble_eq_true rfl⟩) hD hS hA (fun r_34 u_34 H locs hp hP hD hS => ?_)
            obtain ⟨er, eu⟩ := hp
            obtain rfl := er.symm
            obtain rfl := eu.symm
            refine lv_iload hx hb dX5_apply_136 (lv_at hl 0 rfl) ?_
            refine kV (rV (q0 := 5) (ci := 5) hx hb hml hown hg hN hK hP hD (c_merge l D cI cJ ad co fl ra li re wa pi (((bitL k2) ||| (rdL (gB re 0) 40 k2)) &&& ((bitL (lowest ((rdL (gB re 0) 40 k2) &&& ((bitL (lowest (rdL (gB re 0) 40 k2))) ^^^ (-1))))) ^^^ (-1))) (lowest (((bitL k2) ||| (rdL (gB re 0) 40 k2)) &&& ((bitL (lowest ((rdL (gB re 0) 40 k2) &&& ((bitL (lowest (rdL (gB re 0) 40 k2))) ^^^ (-1))))) ^^^ (-1)))) true) mw_180 mw_181 mw_182 mw_183 mw_173 pdv_X5_merge ⟨Nat.le_of_ble_eq_true rfl, Nat.le_of_ble_eq_true rfl⟩ rfl xo5 rfl hl.1 rfl (Nat.le_of_ble_eq_true rfl) dX5_apply_138 ⟨Nat.le_of_ble_eq_true rfl, Nat.le_of_ble_eq_true rfl⟩) hD hS hA (fun u_35 H locs hp hP hD hS => ?_)
            obtain rfl := hp.symm
            have hP : va_P D vwCl (XW ad cI cJ co fl ra li (merge re (((bitL k2) ||| (rdL (gB re 0) 40 k2)) &&& ((bitL (lowest ((rdL (gB re 0) 40 k2) &&& ((bitL (lowest (rdL (gB re 0) 40 k2))) ^^^ (-1))))) ^^^ (-1))) (lowest (((bitL k2) ||| (rdL (gB re 0) 40 k2)) &&& ((bitL (lowest ((rdL (gB re 0) 40 k2) &&& ((bitL (lowest (rdL (gB re 0) 40 k2))) ^^^ (-1))))) ^^^ (-1)))) true) wa pi) H := hP
            have hD : va_D A (XW ad cI cJ co fl ra li (merge re (((bitL k2) ||| (rdL (gB re 0) 40 k2)) &&& ((bitL (lowest ((rdL (gB re 0) 40 k2) &&& ((bitL (lowest (rdL (gB re 0) 40 k2))) ^^^ (-1))))) ^^^ (-1))) (lowest (((bitL k2) ||| (rdL (gB re 0) 40 k2)) &&& ((bitL (lowest ((rdL (gB re 0) 40 k2) &&& ((bitL (lowest (rdL (gB re 0) 40 k2))) ^^^ (-1))))) ^^^ (-1)))) true) wa pi) := hD
            exact W.vret hx hb hr (fun t ht hW => ⟨⟨(XW ad cI cJ co fl ra li (merge re (((bitL k2) ||| (rdL (gB re 0) 40 k2)) &&& ((bitL (lowest ((rdL (gB re 0) 40 k2) &&& ((bitL (lowest (rdL (gB re 0) 40 k2))) ^^^ (-1))))) ^^^ (-1))) (lowest (((bitL k2) ||| (rdL (gB re 0) 40 k2)) &&& ((bitL (lowest ((rdL (gB re 0) 40 k2) &&& ((bitL (lowest (rdL (gB re 0) 40 k2))) ^^^ (-1))))) ^^^ (-1)))) true) wa pi), rfl, xw_eq rfl rfl rfl rfl (show (merge re (((bitL k2) ||| (rdL (gB re 0) 40 k2)) &&& ((bitL (lowest ((rdL (gB re 0) 40 k2) &&& ((bitL (lowest (rdL (gB re 0) 40 k2))) ^^^ (-1))))) ^^^ (-1))) (lowest (((bitL k2) ||| (rdL (gB re 0) 40 k2)) &&& ((bitL (lowest ((rdL (gB re 0) 40 k2) &&& ((bitL (lowest (rdL (gB re 0) 40 k2))) ^^^ (-1))))) ^^^ (-1)))) true) = (apply re k1 k2) from (by simp only [apply, apM, apC, rfC, eq_false c_10, eq_true c_42, c_78, eq_true c_100, c_118, gi_sl, gi_sA, gi_sB, gi_si_s, gi_si_n, gl_si, gl_sA, gl_sB, gl_sl_s, gl_sl_n, gA_si, gA_sl, gA_sB, gA_sA_s, gA_sA_n, gB_si, gB_sl, gB_sA, gB_sB_s, gB_sB_n, Nat.reduceBEq, if_true, if_false, eq_self, Bool.false_eq_true, Bool.true_eq_false, not_true_eq_false, not_false_eq_true, decide_true, decide_false, cond_true, cond_false, Bool.true_and, Bool.false_and, Bool.and_true, Bool.and_false, Bool.true_or, Bool.false_or, Bool.or_true, Bool.or_false, b2i_tt, b2i_ff, pr_eta]; done)) rfl rfl, ⟨by rw [ht]; exact hP, va_K.moved hW.alike hK, hD⟩⟩, hS.F ht⟩) hS.2.2 dX5_apply_141
  · refine lv_aload_n hx hb dX5_apply_13 rfl (lv_at hl 1 rfl) ?_
    refine va_get (D := D) (ci := 5) (v := .ref (ad 24)) (C := RX5) (T := TX5) (N := 8) hx hb hg inGX5 hown hK hP 5 xo5 rfl 0 (by decide) (hg _ mw_166) (fun _ h9 => h9) xvX5_0 dX5_apply_14 ?_
    refine lv_iload_n hx hb dX5_apply_17 rfl (lv_at hl 3 rfl) ?_
    refine lv_lload_n hx hb dX5_apply_18 rfl (lv_at hl 0 rfl) ?_
    refine lv_iload_n hx hb dX5_apply_19 rfl (lv_at hl 3 rfl) ?_
    refine kL (rSN hx hb hml hown hg hN hK hP hD (c_bit l D cI cJ (XW ad cI cJ co fl ra li re wa pi) k2) mw_78 nw_87 mw_80 mw_77 pd_X7_bit ⟨Nat.le_of_ble_eq_true rfl, Nat.le_of_ble_eq_true rfl⟩ rfl hl.1 rfl (Nat.le_of_ble_eq_true rfl) dX5_apply_20 ⟨Nat.le_of_ble_eq_true rfl, Nat.le_of_ble_eq_true rfl⟩) hD hS hA (fun r_36 u_36 H locs hp hP hD hS => ?_)
    obtain ⟨er, eu⟩ := hp
    obtain rfl := er.symm
    obtain rfl := eu.symm
    refine lv_ldc2 (v := (-1)) hx hb hown (hg _ mw_168) dX5_apply_23 ?_
    refine lv_lxor hx hb dX5_apply_26 ?_
    refine lv_land hx hb dX5_apply_27 ?_
    refine kV (rSN hx hb hml hown hg hN hK hP hD (c_putL l D cI cJ (XW ad cI cJ co fl ra li re wa pi) 24 (ad 24) 40 (gB re 0) k2 ((rdL (gB re 0) 40 k2) &&& ((bitL k2) ^^^ (-1))) (xg24 rfl) (by decide)) mw_97 nw_85 mw_98 mw_77 pd_X7_put_ ⟨Nat.le_of_ble_eq_true rfl, Nat.le_of_ble_eq_true rfl⟩ rfl hl.1 rfl (Nat.le_of_ble_eq_true rfl) dX5_apply_28 ⟨Nat.le_of_ble_eq_true rfl, Nat.le_of_ble_eq_true rfl⟩) hD hS hA (fun u_37 H locs hp hP hD hS => ?_)
    obtain rfl := hp.symm
    have hP : va_P D vwCl (XW ad cI cJ co fl ra li (sB re 0 (wrL (gB re 0) 40 k2 ((rdL (gB re 0) 40 k2) &&& ((bitL k2) ^^^ (-1))))) wa pi) H := cgP xs24 hP
    have hD : va_D A (XW ad cI cJ co fl ra li (sB re 0 (wrL (gB re 0) 40 k2 ((rdL (gB re 0) 40 k2) &&& ((bitL k2) ^^^ (-1))))) wa pi) := cgD xs24 hD
    exact W.vret hx hb hr (fun t ht hW => ⟨⟨(XW ad cI cJ co fl ra li (sB re 0 (wrL (gB re 0) 40 k2 ((rdL (gB re 0) 40 k2) &&& ((bitL k2) ^^^ (-1))))) wa pi), rfl, xw_eq rfl rfl rfl rfl (show (sB re 0 (wrL (gB re 0) 40 k2 ((rdL (gB re 0) 40 k2) &&& ((bitL k2) ^^^ (-1))))) = (apply re k1 k2) from (by simp only [apply, apM, apC, rfC, eq_true c_10, gi_sl, gi_sA, gi_sB, gi_si_s, gi_si_n, gl_si, gl_sA, gl_sB, gl_sl_s, gl_sl_n, gA_si, gA_sl, gA_sB, gA_sA_s, gA_sA_n, gB_si, gB_sl, gB_sA, gB_sB_s, gB_sB_n, Nat.reduceBEq, if_true, if_false, eq_self, Bool.false_eq_true, Bool.true_eq_false, not_true_eq_false, not_false_eq_true, decide_true, decide_false, cond_true, cond_false, Bool.true_and, Bool.false_and, Bool.and_true, Bool.and_false, Bool.true_or, Bool.false_or, Bool.or_true, Bool.or_false, b2i_tt, b2i_ff, pr_eta]; done)) rfl rfl, ⟨by rw [ht]; exact hP, va_K.moved hW.alike hK, hD⟩⟩, hS.F ht⟩) hS.2.2 dX5_apply_31
