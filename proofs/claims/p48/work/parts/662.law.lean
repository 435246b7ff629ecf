theorem dL_law_10 : decode cL_law 10 = .ok (.iload_n 2, 1) := by decide +kernel
theorem dL_law_11 : decode cL_law 11 = .ok (.bipush 48, 2) := by decide +kernel
theorem dL_law_13 : decode cL_law 13 = .ok (.if_icmp .ge 76, 3) := by decide +kernel
theorem dL_law_16 : decode cL_law 16 = .ok (.aload_n 1, 1) := by decide +kernel
theorem dL_law_17 : decode cL_law 17 = .ok (.aload_n 0, 1) := by decide +kernel
theorem dL_law_18 : decode cL_law 18 = .ok (.iload_n 2, 1) := by decide +kernel
theorem dL_law_19 : decode cL_law 19 = .ok (.bipush 32, 2) := by decide +kernel
theorem dL_law_21 : decode cL_law 21 = .ok (.irem, 1) := by decide +kernel
theorem dL_law_22 : decode cL_law 22 = .ok (.invokestatic 12, 3) := by decide +kernel
theorem dL_law_25 : decode cL_law 25 = .ok (.iload_n 2, 1) := by decide +kernel
theorem dL_law_26 : decode cL_law 26 = .ok (.bipush 32, 2) := by decide +kernel
theorem dL_law_28 : decode cL_law 28 = .ok (.idiv, 1) := by decide +kernel
theorem dL_law_29 : decode cL_law 29 = .ok (.bipush 11, 2) := by decide +kernel
theorem dL_law_31 : decode cL_law 31 = .ok (.imul, 1) := by decide +kernel
theorem dL_law_32 : decode cL_law 32 = .ok (.ishr, 1) := by decide +kernel
theorem dL_law_33 : decode cL_law 33 = .ok (.invokestatic 18, 3) := by decide +kernel
theorem dL_law_36 : decode cL_law 36 = .ok (.ifCond .ne 5, 3) := by decide +kernel
theorem dL_law_41 : decode cL_law 41 = .ok (.iload_n 2, 1) := by decide +kernel
theorem dL_law_42 : decode cL_law 42 = .ok (.bipush 8, 2) := by decide +kernel
theorem dL_law_44 : decode cL_law 44 = .ok (.irem, 1) := by decide +kernel
theorem dL_law_45 : decode cL_law 45 = .ok (.bipush 7, 2) := by decide +kernel
theorem dL_law_47 : decode cL_law 47 = .ok (.if_icmp .eq 6, 3) := by decide +kernel
theorem dL_law_50 : decode cL_law 50 = .ok (.goto 33, 3) := by decide +kernel
theorem dL_law_53 : decode cL_law 53 = .ok (.aload_n 1, 1) := by decide +kernel
theorem dL_law_54 : decode cL_law 54 = .ok (.invokevirtual 22, 3) := by decide +kernel
theorem dL_law_57 : decode cL_law 57 = .ok (.lstore_n 3, 1) := by decide +kernel
theorem dL_law_58 : decode cL_law 58 = .ok (.aload_n 1, 1) := by decide +kernel
theorem dL_law_59 : decode cL_law 59 = .ok (.invokestatic 26, 3) := by decide +kernel
theorem dL_law_62 : decode cL_law 62 = .ok (.ifCond .eq 19, 3) := by decide +kernel
theorem dL_law_65 : decode cL_law 65 = .ok (.aload_n 1, 1) := by decide +kernel
theorem dL_law_66 : decode cL_law 66 = .ok (.invokestatic 30, 3) := by decide +kernel
theorem dL_law_69 : decode cL_law 69 = .ok (.ifCond .eq 12, 3) := by decide +kernel
theorem dL_law_72 : decode cL_law 72 = .ok (.aload_n 1, 1) := by decide +kernel
theorem dL_law_73 : decode cL_law 73 = .ok (.invokevirtual 22, 3) := by decide +kernel
theorem dL_law_76 : decode cL_law 76 = .ok (.lload_n 3, 1) := by decide +kernel
theorem dL_law_77 : decode cL_law 77 = .ok (.lcmp, 1) := by decide +kernel
theorem dL_law_78 : decode cL_law 78 = .ok (.ifCond .eq 5, 3) := by decide +kernel
theorem dL_law_83 : decode cL_law 83 = .ok (.iinc 2 1, 3) := by decide +kernel
theorem dL_law_86 : decode cL_law 86 = .ok (.goto (-76), 3) := by decide +kernel
theorem dL_law_89 : decode cL_law 89 = .ok (.iconst 1, 1) := by decide +kernel
theorem dL_law_90 : decode cL_law 90 = .ok (.ireturn, 1) := by decide +kernel
theorem mw_699 : Cond.code yL_cell cL_cell 2 (some Jvm.ClassFile.FieldType.int) ∈ GW := gw_mem (inT3 _ (List.mem_of_getElem? (i := 161) rfl)) rfl
theorem mw_700 : Cond.methodLink RL 12 yL_cell ∈ GW := gw_mem (inT3 _ (List.mem_of_getElem? (i := 159) rfl)) rfl
theorem mw_701 : Cond.static yL_cell ∈ GW := gw_mem (inT3 _ (List.mem_of_getElem? (i := 160) rfl)) rfl
theorem mw_702 : Cond.codeWith yL_act cL_act 8 (some Jvm.ClassFile.FieldType.boolean) [((23), (144), (329), (75)), ((145), (169), (329), (75)), ((170), (211), (329), (75)), ((212), (261), (329), (75)), ((262), (325), (329), (75)), ((23), (144), (353), (77)), ((145), (169), (353), (77)), ((170), (211), (353), (77)), ((212), (261), (353), (77)), ((262), (325), (353), (77))] ∈ GW := gw_mem (inT3 _ (List.mem_of_getElem? (i := 165) rfl)) rfl
theorem mw_703 : Cond.methodLink RL 18 yL_act ∈ GW := gw_mem (inT3 _ (List.mem_of_getElem? (i := 163) rfl)) rfl
theorem mw_704 : Cond.static yL_act ∈ GW := gw_mem (inT3 _ (List.mem_of_getElem? (i := 164) rfl)) rfl
theorem mw_705 : Cond.code yX7_digest cX7_digest 3 (some Jvm.ClassFile.FieldType.long) ∈ GW := gw_mem (inT2 _ (List.mem_of_getElem? (i := 88) rfl)) rfl
theorem mw_706 : Cond.methodLink RL 22 yX7_digest ∈ GW := gw_mem (inT2 _ (List.mem_of_getElem? (i := 85) rfl)) rfl
theorem mw_707 : Cond.instanceMethod yX7_digest ∈ GW := gw_mem (inT2 _ (List.mem_of_getElem? (i := 86) rfl)) rfl
theorem mw_708 : Cond.selects RX7 yX7_digest yX7_digest ∈ GW := gw_mem (inT2 _ (List.mem_of_getElem? (i := 87) rfl)) rfl
theorem mw_709 : Cond.code yL_areBlocksRight cL_areBlocksRight 8 (some Jvm.ClassFile.FieldType.boolean) ∈ GW := gw_mem (inT4 _ (List.mem_of_getElem? (i := 142) rfl)) rfl
theorem mw_710 : Cond.methodLink RL 26 yL_areBlocksRight ∈ GW := gw_mem (inT4 _ (List.mem_of_getElem? (i := 140) rfl)) rfl
theorem mw_711 : Cond.static yL_areBlocksRight ∈ GW := gw_mem (inT4 _ (List.mem_of_getElem? (i := 141) rfl)) rfl
theorem mw_712 : Cond.code yL_isDrawn cL_isDrawn 11 (some Jvm.ClassFile.FieldType.boolean) ∈ GW := gw_mem (inT5 _ (List.mem_of_getElem? (i := 1) rfl)) rfl
theorem mw_713 : Cond.methodLink RL 30 yL_isDrawn ∈ GW := gw_mem (inT4 _ (List.mem_of_getElem? (i := 239) rfl)) rfl
theorem mw_714 : Cond.static yL_isDrawn ∈ GW := gw_mem (inT5 _ (List.mem_of_getElem? (i := 0) rfl)) rfl
theorem pd_L_cell : yL_cell.cls ≠ "java/lang/invoke/MethodHandle" ∧ yL_cell.cls ≠ "java/lang/invoke/VarHandle" ∧ (parseMethodDescriptor yL_cell.desc).map (fun d => d.parameters.length) = some 2 := by decide +kernel
theorem pd_L_act : yL_act.cls ≠ "java/lang/invoke/MethodHandle" ∧ yL_act.cls ≠ "java/lang/invoke/VarHandle" ∧ (parseMethodDescriptor yL_act.desc).map (fun d => d.parameters.length) = some 2 := by decide +kernel
theorem pdv_X7_digest : yX7_digest.cls = RX7 ∧ yX7_digest.cls ≠ "java/lang/invoke/MethodHandle" ∧ yX7_digest.cls ≠ "java/lang/invoke/VarHandle" ∧ (parseMethodDescriptor yX7_digest.desc).map (fun d => d.parameters.length) = some 0 := by decide +kernel
theorem pd_L_areBlocksRight : yL_areBlocksRight.cls ≠ "java/lang/invoke/MethodHandle" ∧ yL_areBlocksRight.cls ≠ "java/lang/invoke/VarHandle" ∧ (parseMethodDescriptor yL_areBlocksRight.desc).map (fun d => d.parameters.length) = some 1 := by decide +kernel
theorem pd_L_isDrawn : yL_isDrawn.cls ≠ "java/lang/invoke/MethodHandle" ∧ yL_isDrawn.cls ≠ "java/lang/invoke/VarHandle" ∧ (parseMethodDescriptor yL_isDrawn.desc).map (fun d => d.parameters.length) = some 1 := by decide +kernel
set_option maxHeartbeats 4000000 in
set_option maxRecDepth 100000 in
theorem law_loop {p : Program} {l : Launch} {e : Env} {s : State} {m : MethodId} {below : List Frame} {meth : Method} {c : Code} {b L : Nat} {xs : Nat → Int32} {A : Nat → Prop} (hL : L ≤ 260) (hfl : l.stackTraces = false) (D : va_G) (cI cJ : ClassId) (ad : Nat → Nat) (C0 : lw_At p s m meth c b L xs) (hN : NW s) (hST : ST A s) (hSR : SR s) (hK : va_K D vwCl (TY cI cJ) s) (hA : ∀ q, s.heap.size ≤ q → A q) (hAl : ∀ q, A q → s.heap.size ≤ q) (hbA : ¬ A b) : ∀ (k i : Nat), i + k = 48 → ∀ (n : Nat) (co fl ra li re wa pi : Ob) (hI : INV n co fl ra li re wa pi) (H : Heap) (locs : List Loc) (ls : Array Slot) (hP : va_P D vwCl (XW ad cI cJ co fl ra li re wa pi) H) (hD : va_D A (XW ad cI cJ co fl ra li re wa pi)) (hS : va_S A s.heap H locs) (hl : lv_has ls 5 [(0, .ref b), (1, .ref (ad 0)), (2, .int (nI i))]),
    W p l e room_1 s m #[Value.ref b] below meth c H locs (45 + i) (8388 + 6 * i) (lw_Z below #[Value.ref b] s) (F0 m 10 ls []) := by
  obtain ⟨hx, hb, hr, hml, hown, hts, hX, hbl, hlocks, hgv⟩ := id C0
  have hg : ∀ w ∈ GW, w.before #[Value.ref b] s = true := fun w hw => hts w (gw_tbl hw)
  intro k
  induction k with
  | zero =>
    intro i hik n co fl ra li re wa pi hI H locs ls hP hD hS hl
    obtain rfl : i = 48 := by omega
    refine lv_iload_n hx hb dL_law_10 rfl (lv_at hl 2 rfl) ?_
    refine lv_bipush (v := 48) hx hb dL_law_11 (by decide) ?_
    refine lv_icmp_ge (tgt := 89) hx hb dL_law_13 (by decide) (fun _ => ?_) (fun z => absurd (by decide) z)
    refine lv_iconst (v := 1) hx hb dL_law_89 (by decide) ?_
    refine va_forget (fun q hq => hAl _ (hS.2.2 q hq)) ?_
    refine W.widen (k := 190) (n := 9518) (by omega) (by omega) ?_
    refine W.base ?_
    exact lw_ret (Drawn.sameBut.refl s.drawn lw_cs) hx hb hr hlocks dL_law_90
  | succ k ih =>
    intro i hik n co fl ra li re wa pi hI H locs ls hP hD hS hl
    have hi48 : i < 48 := by omega
    refine lv_iload_n hx hb dL_law_10 rfl (lv_at hl 2 rfl) ?_
    refine lv_bipush (v := 48) hx hb dL_law_11 (by decide) ?_
    refine lv_icmp_ge (tgt := 89) hx hb dL_law_13 (by decide) (fun c_13 => absurd c_13 (nI_ge hi48 (by decide))) (fun _ => ?_)
    refine lv_aload_n hx hb dL_law_16 rfl (lv_at hl 1 rfl) ?_
    refine lv_aload_n hx hb dL_law_17 rfl (lv_at hl 0 rfl) ?_
    refine lv_iload_n hx hb dL_law_18 rfl (lv_at hl 2 rfl) ?_
    refine lv_bipush (v := 32) hx hb dL_law_19 (by decide) ?_
    refine lv_irem hx hb dL_law_21 (by decide) ?_
    refine kI (rSC hx hb hml hown hg hN hK hP hD hX hbl hbA hS (c_cell l D cI cJ (XW ad cI cJ co fl ra li re wa pi) b L xs ((nI i) - (nI i) / 32 * 32) (by rw [show (32 : Int32) = nI 32 from rfl, pk_rem (by omega) (by decide) (by decide)]; exact nI_pos (by omega)) (by omega)) mw_699 mw_700 mw_701 mw_550 pd_L_cell ⟨Nat.le_of_ble_eq_true rfl, Nat.le_of_ble_eq_true rfl⟩ rfl hl.1 rfl (Nat.le_of_ble_eq_true rfl) dL_law_22 ⟨by show _ ≤ 190; omega, by show _ ≤ 9518; omega⟩) hD hS hA (fun r_1 u_1 H locs hp hP hD hS => ?_)
    obtain rfl := hp
    refine lv_iload_n hx hb dL_law_25 rfl (lv_at hl 2 rfl) ?_
    refine lv_bipush (v := 32) hx hb dL_law_26 (by decide) ?_
    refine lv_idiv hx hb dL_law_28 (by decide) ?_
    refine lv_bipush (v := 11) hx hb dL_law_29 (by decide) ?_
    refine lv_imul hx hb dL_law_31 ?_
    refine lv_ishr hx hb dL_law_32 ?_
    refine kI (rSW hx hb hml hown hg hN hK hP hD hST hSR hS hA (c_act l hfl D cI cJ ad co fl ra li re wa pi n hI (r_1 >>> ((((nI i) / 32) * 11) &&& 31))) mw_702 mw_703 mw_704 mw_550 pd_L_act ⟨Nat.le_of_ble_eq_true rfl, Nat.le_of_ble_eq_true rfl⟩ rfl hl.1 rfl (Nat.le_of_ble_eq_true rfl) dL_law_33 ⟨by show _ ≤ 190; omega, by show _ ≤ 9518; omega⟩) hD hS hA (fun r_2 u_2 H locs hp hP hD hS => ?_)
    obtain ⟨rfl, n2, co2, fl2, ra2, li2, re2, wa2, pi2, rfl, hI2⟩ := hp
    refine lv_if_ne (tgt := 41) hx hb dL_law_36 (by decide) (fun _ => ?_) (fun c_36 => absurd c_36 (by decide))
    refine lv_iload_n hx hb dL_law_41 rfl (lv_at hl 2 rfl) ?_
    refine lv_bipush (v := 8) hx hb dL_law_42 (by decide) ?_
    refine lv_irem hx hb dL_law_44 (by decide) ?_
    refine lv_bipush (v := 7) hx hb dL_law_45 (by decide) ?_
    refine lv_icmp_eq (tgt := 53) hx hb dL_law_47 (by decide) (fun c_47 => ?_) (fun c_47 => ?_)
    · refine lv_aload_n hx hb dL_law_53 rfl (lv_at hl 1 rfl) ?_
      refine kL (rV (q0 := 0) (ci := 7) hx hb hml hown hg hN hK hP hD (c_digest l D cI cJ ad co2 fl2 ra2 li2 re2 wa2 pi2 (fun _ => hI2.ranks.1.lo)) mw_705 mw_706 mw_707 mw_708 mw_77 pdv_X7_digest ⟨Nat.le_of_ble_eq_true rfl, Nat.le_of_ble_eq_true rfl⟩ rfl xo0 rfl hl.1 rfl (Nat.le_of_ble_eq_true rfl) dL_law_54 ⟨by show _ ≤ 190; omega, by show _ ≤ 9518; omega⟩) hD hS hA (fun r_3 u_3 H locs hp hP hD hS => ?_)
      obtain ⟨er, eu⟩ := hp
      obtain rfl := er.symm
      obtain rfl := eu.symm
      have hP : va_P D vwCl (XW ad cI cJ co2 (frPf co2 (frDf co2 (frLf co2 (frRf co2 fl2 ra2) li2) re2) pi2) (frR co2 fl2 ra2) (frL co2 (frRf co2 fl2 ra2) li2) (frD co2 (frLf co2 (frRf co2 fl2 ra2) li2) re2) (frPw co2 (frDf co2 (frLf co2 (frRf co2 fl2 ra2) li2) re2) wa2 pi2) (countCross (frPw co2 (frDf co2 (frLf co2 (frRf co2 fl2 ra2) li2) re2) wa2 pi2) (frP co2 (frDf co2 (frLf co2 (frRf co2 fl2 ra2) li2) re2) wa2 pi2)).1) H := hP
      have hD : va_D A (XW ad cI cJ co2 (frPf co2 (frDf co2 (frLf co2 (frRf co2 fl2 ra2) li2) re2) pi2) (frR co2 fl2 ra2) (frL co2 (frRf co2 fl2 ra2) li2) (frD co2 (frLf co2 (frRf co2 fl2 ra2) li2) re2) (frPw co2 (frDf co2 (frLf co2 (frRf co2 fl2 ra2) li2) re2) wa2 pi2) (countCross (frPw co2 (frDf co2 (frLf co2 (frRf co2 fl2 ra2) li2) re2) wa2 pi2) (frP co2 (frDf co2 (frLf co2 (frRf co2 fl2 ra2) li2) re2) wa2 pi2)).1) := hD
      obtain ⟨hI3, zf, zr, zl, zd, zp3⟩ := hI2.all
      obtain ⟨hI4, hr4, -⟩ := hI3.cross zp3
      have zp4 : ¬ gi (countCross (frPw co2 (frDf co2 (frLf co2 (frRf co2 fl2 ra2) li2) re2) wa2 pi2) (frP co2 (frDf co2 (frLf co2 (frRf co2 fl2 ra2) li2) re2) wa2 pi2)).1 3 = 0 := by rw [hr4.gi 3]; exact zp3
      obtain ⟨cN, E, hm, fs, fr, eg, fe, sd, cc, L9, ca, ht, ly, hZ⟩ := hI4.afx zf zr zl zd zp4
      obtain ⟨hI5, hr5, -⟩ := hI4.cross zp4
      have zp5 : ¬ gi (countCross (frPw co2 (frDf co2 (frLf co2 (frRf co2 fl2 ra2) li2) re2) wa2 pi2) (countCross (frPw co2 (frDf co2 (frLf co2 (frRf co2 fl2 ra2) li2) re2) wa2 pi2) (frP co2 (frDf co2 (frLf co2 (frRf co2 fl2 ra2) li2) re2) wa2 pi2)).1).1 3 = 0 := by rw [hr5.gi 3]; exact zp4
      obtain ⟨hI6, -, -⟩ := hI5.cross zp5
      have hdg := (dg_same hI4 zp4).trans (dg_same hI3 zp3)
      refine lv_lstore_n (lv' := [(3, .long (dgAll co2 (frPf co2 (frDf co2 (frLf co2 (frRf co2 fl2 ra2) li2) re2) pi2) (frR co2 fl2 ra2) (frL co2 (frRf co2 fl2 ra2) li2) (frD co2 (frLf co2 (frRf co2 fl2 ra2) li2) re2) (frPw co2 (frDf co2 (frLf co2 (frRf co2 fl2 ra2) li2) re2) wa2 pi2) (frP co2 (frDf co2 (frLf co2 (frRf co2 fl2 ra2) li2) re2) wa2 pi2))), (0, .ref b), (1, .ref (ad 0)), (2, .int (nI i))]) hx hb dL_law_57 rfl hl (by decide) rfl (fun ls hl => ?_)
      refine lv_aload_n hx hb dL_law_58 rfl (lv_at hl 2 rfl) ?_
      refine kI (rS hx hb hml hown hg hN hK hP hD (c_areBlocksRight l D cI cJ ad co2 (frPf co2 (frDf co2 (frLf co2 (frRf co2 fl2 ra2) li2) re2) pi2) (frR co2 fl2 ra2) (frL co2 (frRf co2 fl2 ra2) li2) (frD co2 (frLf co2 (frRf co2 fl2 ra2) li2) re2) (frPw co2 (frDf co2 (frLf co2 (frRf co2 fl2 ra2) li2) re2) wa2 pi2) (countCross (frPw co2 (frDf co2 (frLf co2 (frRf co2 fl2 ra2) li2) re2) wa2 pi2) (frP co2 (frDf co2 (frLf co2 (frRf co2 fl2 ra2) li2) re2) wa2 pi2)).1 n2 cN E hm fs fr eg fe sd cc L9 ca ht ly hZ) mw_709 mw_710 mw_711 mw_550 pd_L_areBlocksRight ⟨Nat.le_of_ble_eq_true rfl, Nat.le_of_ble_eq_true rfl⟩ rfl hl.1 rfl (Nat.le_of_ble_eq_true rfl) dL_law_59 ⟨by show _ ≤ 190; omega, by show _ ≤ 9518; omega⟩) hD hS hA (fun r_4 u_4 H locs hp hP hD hS => ?_)
      obtain ⟨er, eu⟩ := hp
      obtain rfl := er.symm
      obtain rfl := eu.symm
      refine lv_if_eq (tgt := 81) hx hb dL_law_62 (by decide) (fun c_62 => absurd c_62 (by decide)) (fun _ => ?_)
      refine lv_aload_n hx hb dL_law_65 rfl (lv_at hl 2 rfl) ?_
      refine kI (rS hx hb hml hown hg hN hK hP hD (c_isDrawn l D cI cJ ad co2 (frPf co2 (frDf co2 (frLf co2 (frRf co2 fl2 ra2) li2) re2) pi2) (frR co2 fl2 ra2) (frL co2 (frRf co2 fl2 ra2) li2) (frD co2 (frLf co2 (frRf co2 fl2 ra2) li2) re2) (frPw co2 (frDf co2 (frLf co2 (frRf co2 fl2 ra2) li2) re2) wa2 pi2) (countCross (frPw co2 (frDf co2 (frLf co2 (frRf co2 fl2 ra2) li2) re2) wa2 pi2) (frP co2 (frDf co2 (frLf co2 (frRf co2 fl2 ra2) li2) re2) wa2 pi2)).1 n2 cN E hm fs fr eg fe sd cc L9 ca ht ly hZ hI4) mw_712 mw_713 mw_714 mw_550 pd_L_isDrawn ⟨Nat.le_of_ble_eq_true rfl, Nat.le_of_ble_eq_true rfl⟩ rfl hl.1 rfl (Nat.le_of_ble_eq_true rfl) dL_law_66 ⟨by show _ ≤ 190; omega, by show _ ≤ 9518; omega⟩) hD hS hA (fun r_5 u_5 H locs hp hP hD hS => ?_)
      obtain ⟨er, eu⟩ := hp
      obtain rfl := er.symm
      obtain rfl := eu.symm
      have hP : va_P D vwCl (XW ad cI cJ co2 (frPf co2 (frDf co2 (frLf co2 (frRf co2 fl2 ra2) li2) re2) pi2) (frR co2 fl2 ra2) (frL co2 (frRf co2 fl2 ra2) li2) (frD co2 (frLf co2 (frRf co2 fl2 ra2) li2) re2) (frPw co2 (frDf co2 (frLf co2 (frRf co2 fl2 ra2) li2) re2) wa2 pi2) (countCross (frPw co2 (frDf co2 (frLf co2 (frRf co2 fl2 ra2) li2) re2) wa2 pi2) (countCross (frPw co2 (frDf co2 (frLf co2 (frRf co2 fl2 ra2) li2) re2) wa2 pi2) (frP co2 (frDf co2 (frLf co2 (frRf co2 fl2 ra2) li2) re2) wa2 pi2)).1).1) H := hP
      have hD : va_D A (XW ad cI cJ co2 (frPf co2 (frDf co2 (frLf co2 (frRf co2 fl2 ra2) li2) re2) pi2) (frR co2 fl2 ra2) (frL co2 (frRf co2 fl2 ra2) li2) (frD co2 (frLf co2 (frRf co2 fl2 ra2) li2) re2) (frPw co2 (frDf co2 (frLf co2 (frRf co2 fl2 ra2) li2) re2) wa2 pi2) (countCross (frPw co2 (frDf co2 (frLf co2 (frRf co2 fl2 ra2) li2) re2) wa2 pi2) (countCross (frPw co2 (frDf co2 (frLf co2 (frRf co2 fl2 ra2) li2) re2) wa2 pi2) (frP co2 (frDf co2 (frLf co2 (frRf co2 fl2 ra2) li2) re2) wa2 pi2)).1).1) := hD
      refine lv_if_eq (tgt := 81) hx hb dL_law_69 (by decide) (fun c_69 => absurd c_69 (by decide)) (fun _ => ?_)
      refine lv_aload_n hx hb dL_law_72 rfl (lv_at hl 2 rfl) ?_
      refine kL (rV (q0 := 0) (ci := 7) hx hb hml hown hg hN hK hP hD (c_digest1 l D cI cJ ad co2 (frPf co2 (frDf co2 (frLf co2 (frRf co2 fl2 ra2) li2) re2) pi2) (frR co2 fl2 ra2) (frL co2 (frRf co2 fl2 ra2) li2) (frD co2 (frLf co2 (frRf co2 fl2 ra2) li2) re2) (frPw co2 (frDf co2 (frLf co2 (frRf co2 fl2 ra2) li2) re2) wa2 pi2) (countCross (frPw co2 (frDf co2 (frLf co2 (frRf co2 fl2 ra2) li2) re2) wa2 pi2) (countCross (frPw co2 (frDf co2 (frLf co2 (frRf co2 fl2 ra2) li2) re2) wa2 pi2) (frP co2 (frDf co2 (frLf co2 (frRf co2 fl2 ra2) li2) re2) wa2 pi2)).1).1 zr zl zd zp5) mw_705 mw_706 mw_707 mw_708 mw_77 pdv_X7_digest ⟨Nat.le_of_ble_eq_true rfl, Nat.le_of_ble_eq_true rfl⟩ rfl xo0 rfl hl.1 rfl (Nat.le_of_ble_eq_true rfl) dL_law_73 ⟨by show _ ≤ 190; omega, by show _ ≤ 9518; omega⟩) hD hS hA (fun r_6 u_6 H locs hp hP hD hS => ?_)
      obtain ⟨er, eu⟩ := hp
      obtain rfl := er.symm
      obtain rfl := eu.symm
      have hP : va_P D vwCl (XW ad cI cJ co2 (frPf co2 (frDf co2 (frLf co2 (frRf co2 fl2 ra2) li2) re2) pi2) (frR co2 fl2 ra2) (frL co2 (frRf co2 fl2 ra2) li2) (frD co2 (frLf co2 (frRf co2 fl2 ra2) li2) re2) (frPw co2 (frDf co2 (frLf co2 (frRf co2 fl2 ra2) li2) re2) wa2 pi2) (countCross (frPw co2 (frDf co2 (frLf co2 (frRf co2 fl2 ra2) li2) re2) wa2 pi2) (countCross (frPw co2 (frDf co2 (frLf co2 (frRf co2 fl2 ra2) li2) re2) wa2 pi2) (countCross (frPw co2 (frDf co2 (frLf co2 (frRf co2 fl2 ra2) li2) re2) wa2 pi2) (frP co2 (frDf co2 (frLf co2 (frRf co2 fl2 ra2) li2) re2) wa2 pi2)).1).1).1) H := hP
      have hD : va_D A (XW ad cI cJ co2 (frPf co2 (frDf co2 (frLf co2 (frRf co2 fl2 ra2) li2) re2) pi2) (frR co2 fl2 ra2) (frL co2 (frRf co2 fl2 ra2) li2) (frD co2 (frLf co2 (frRf co2 fl2 ra2) li2) re2) (frPw co2 (frDf co2 (frLf co2 (frRf co2 fl2 ra2) li2) re2) wa2 pi2) (countCross (frPw co2 (frDf co2 (frLf co2 (frRf co2 fl2 ra2) li2) re2) wa2 pi2) (countCross (frPw co2 (frDf co2 (frLf co2 (frRf co2 fl2 ra2) li2) re2) wa2 pi2) (countCross (frPw co2 (frDf co2 (frLf co2 (frRf co2 fl2 ra2) li2) re2) wa2 pi2) (frP co2 (frDf co2 (frLf co2 (frRf co2 fl2 ra2) li2) re2) wa2 pi2)).1).1).1) := hD
      refine lv_lload_n hx hb dL_law_76 rfl (lv_at hl 0 rfl) ?_
      refine W.lcmp hx hb dL_law_77 ?_
      refine lv_if_eq (tgt := 83) hx hb dL_law_78 (by decide) (fun _ => ?_) (fun c_78 => absurd (lcmp_eq hdg) c_78)
      refine lv_iinc (v := nI (i + 1)) (lv' := [(2, .int (nI (i + 1))), (3, .long (dgAll co2 (frPf co2 (frDf co2 (frLf co2 (frRf co2 fl2 ra2) li2) re2) pi2) (frR co2 fl2 ra2) (frL co2 (frRf co2 fl2 ra2) li2) (frD co2 (frLf co2 (frRf co2 fl2 ra2) li2) re2) (frPw co2 (frDf co2 (frLf co2 (frRf co2 fl2 ra2) li2) re2) wa2 pi2) (frP co2 (frDf co2 (frLf co2 (frRf co2 fl2 ra2) li2) re2) wa2 pi2))), (0, .ref b), (1, .ref (ad 0))]) hx hb dL_law_83 hl (k := 3) rfl (nI_1 i) (by decide) rfl (fun ls hl => ?_)
      refine lv_goto (tgt := 10) hx hb dL_law_86 (by decide) ?_
      refine W.widen (k := 45 + (i + 1)) (n := 8388 + 6 * (i + 1)) (by omega) (by omega) ?_
      exact ih (i + 1) (by omega) n2 co2 (frPf co2 (frDf co2 (frLf co2 (frRf co2 fl2 ra2) li2) re2) pi2) (frR co2 fl2 ra2) (frL co2 (frRf co2 fl2 ra2) li2) (frD co2 (frLf co2 (frRf co2 fl2 ra2) li2) re2) (frPw co2 (frDf co2 (frLf co2 (frRf co2 fl2 ra2) li2) re2) wa2 pi2) (countCross (frPw co2 (frDf co2 (frLf co2 (frRf co2 fl2 ra2) li2) re2) wa2 pi2) (countCross (frPw co2 (frDf co2 (frLf co2 (frRf co2 fl2 ra2) li2) re2) wa2 pi2) (countCross (frPw co2 (frDf co2 (frLf co2 (frRf co2 fl2 ra2) li2) re2) wa2 pi2) (frP co2 (frDf co2 (frLf co2 (frRf co2 fl2 ra2) li2) re2) wa2 pi2)).1).1).1 hI6 H locs ls hP hD hS (lv_sub hl [2, 3, 0] rfl)
    · refine lv_goto (tgt := 83) hx hb dL_law_50 (by decide) ?_
      refine lv_iinc (v := nI (i + 1)) (lv' := [(2, .int (nI (i + 1))), (0, .ref b), (1, .ref (ad 0))]) hx hb dL_law_83 hl (k := 2) rfl (nI_1 i) (by decide) rfl (fun ls hl => ?_)
      refine lv_goto (tgt := 10) hx hb dL_law_86 (by decide) ?_
      refine W.widen (k := 45 + (i + 1)) (n := 8388 + 6 * (i + 1)) (by omega) (by omega) ?_
      exact ih (i + 1) (by omega) n2 co2 fl2 ra2 li2 re2 wa2 pi2 hI2 H locs ls hP hD hS (lv_sub hl [1, 2, 0] rfl)
