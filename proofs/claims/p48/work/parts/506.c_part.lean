theorem dX1_part_0 : decode cX1_part 0 = .ok (.aload_n 0, 1) := by decide +kernel
theorem dX1_part_1 : decode cX1_part 1 = .ok (.aload_n 1, 1) := by decide +kernel
theorem dX1_part_2 : decode cX1_part 2 = .ok (.getfield 34, 3) := by decide +kernel
theorem dX1_part_5 : decode cX1_part 5 = .ok (.aload_n 1, 1) := by decide +kernel
theorem dX1_part_6 : decode cX1_part 6 = .ok (.invokestatic 40, 3) := by decide +kernel
theorem dX1_part_9 : decode cX1_part 9 = .ok (.invokevirtual 44, 3) := by decide +kernel
theorem dX1_part_12 : decode cX1_part 12 = .ok (.aload_n 0, 1) := by decide +kernel
theorem dX1_part_13 : decode cX1_part 13 = .ok (.iconst 0, 1) := by decide +kernel
theorem dX1_part_14 : decode cX1_part 14 = .ok (.putfield 48, 3) := by decide +kernel
theorem dX1_part_17 : decode cX1_part 17 = .ok (.iconst 0, 1) := by decide +kernel
theorem dX1_part_18 : decode cX1_part 18 = .ok (.istore_n 2, 1) := by decide +kernel
theorem dX1_part_19 : decode cX1_part 19 = .ok (.iload_n 2, 1) := by decide +kernel
theorem dX1_part_20 : decode cX1_part 20 = .ok (.aload_n 0, 1) := by decide +kernel
theorem dX1_part_21 : decode cX1_part 21 = .ok (.getfield 51, 3) := by decide +kernel
theorem dX1_part_24 : decode cX1_part 24 = .ok (.if_icmp .ge 36, 3) := by decide +kernel
theorem dX1_part_27 : decode cX1_part 27 = .ok (.aload_n 0, 1) := by decide +kernel
theorem dX1_part_28 : decode cX1_part 28 = .ok (.getfield 27, 3) := by decide +kernel
theorem dX1_part_31 : decode cX1_part 31 = .ok (.iload_n 2, 1) := by decide +kernel
theorem dX1_part_32 : decode cX1_part 32 = .ok (.aload_n 0, 1) := by decide +kernel
theorem dX1_part_33 : decode cX1_part 33 = .ok (.getfield 48, 3) := by decide +kernel
theorem dX1_part_36 : decode cX1_part 36 = .ok (.invokestatic 54, 3) := by decide +kernel
theorem dX1_part_39 : decode cX1_part 39 = .ok (.aload_n 0, 1) := by decide +kernel
theorem dX1_part_40 : decode cX1_part 40 = .ok (.getfield 30, 3) := by decide +kernel
theorem dX1_part_43 : decode cX1_part 43 = .ok (.iload_n 2, 1) := by decide +kernel
theorem dX1_part_44 : decode cX1_part 44 = .ok (.lconst 0, 1) := by decide +kernel
theorem dX1_part_45 : decode cX1_part 45 = .ok (.invokestatic 58, 3) := by decide +kernel
theorem dX1_part_48 : decode cX1_part 48 = .ok (.aload_n 0, 1) := by decide +kernel
theorem dX1_part_49 : decode cX1_part 49 = .ok (.aload_n 1, 1) := by decide +kernel
theorem dX1_part_50 : decode cX1_part 50 = .ok (.iload_n 2, 1) := by decide +kernel
theorem dX1_part_51 : decode cX1_part 51 = .ok (.invokevirtual 61, 3) := by decide +kernel
theorem dX1_part_54 : decode cX1_part 54 = .ok (.iinc 2 1, 3) := by decide +kernel
theorem dX1_part_57 : decode cX1_part 57 = .ok (.goto (-38), 3) := by decide +kernel
theorem dX1_part_60 : decode cX1_part 60 = .ok (.aload_n 0, 1) := by decide +kernel
theorem dX1_part_61 : decode cX1_part 61 = .ok (.getfield 27, 3) := by decide +kernel
theorem dX1_part_64 : decode cX1_part 64 = .ok (.aload_n 0, 1) := by decide +kernel
theorem dX1_part_65 : decode cX1_part 65 = .ok (.getfield 51, 3) := by decide +kernel
theorem dX1_part_68 : decode cX1_part 68 = .ok (.aload_n 0, 1) := by decide +kernel
theorem dX1_part_69 : decode cX1_part 69 = .ok (.getfield 48, 3) := by decide +kernel
theorem dX1_part_72 : decode cX1_part 72 = .ok (.invokestatic 54, 3) := by decide +kernel
theorem dX1_part_75 : decode cX1_part 75 = .ok (.aload_n 0, 1) := by decide +kernel
theorem dX1_part_76 : decode cX1_part 76 = .ok (.aload_n 0, 1) := by decide +kernel
theorem dX1_part_77 : decode cX1_part 77 = .ok (.getfield 51, 3) := by decide +kernel
theorem dX1_part_80 : decode cX1_part 80 = .ok (.ifCond .le 19, 3) := by decide +kernel
theorem dX1_part_83 : decode cX1_part 83 = .ok (.aload_n 0, 1) := by decide +kernel
theorem dX1_part_84 : decode cX1_part 84 = .ok (.getfield 30, 3) := by decide +kernel
theorem dX1_part_87 : decode cX1_part 87 = .ok (.lconst 1, 1) := by decide +kernel
theorem dX1_part_88 : decode cX1_part 88 = .ok (.bipush 40, 2) := by decide +kernel
theorem dX1_part_90 : decode cX1_part 90 = .ok (.invokestatic 65, 3) := by decide +kernel
theorem dX1_part_93 : decode cX1_part 93 = .ok (.invokestatic 69, 3) := by decide +kernel
theorem dX1_part_96 : decode cX1_part 96 = .ok (.goto 4, 3) := by decide +kernel
theorem dX1_part_99 : decode cX1_part 99 = .ok (.lconst 0, 1) := by decide +kernel
theorem dX1_part_100 : decode cX1_part 100 = .ok (.putfield 73, 3) := by decide +kernel
theorem dX1_part_103 : decode cX1_part 103 = .ok (.return_, 1) := by decide +kernel
theorem mw_107 : Cond.code yX1_leadersOf cX1_leadersOf 5 (some Jvm.ClassFile.FieldType.long) ∈ GW := gw_mem (inT2 _ (List.mem_of_getElem? (i := 103) rfl)) rfl
theorem mw_108 : Cond.methodLink RX1 40 yX1_leadersOf ∈ GW := gw_mem (inT2 _ (List.mem_of_getElem? (i := 101) rfl)) rfl
theorem mw_109 : Cond.static yX1_leadersOf ∈ GW := gw_mem (inT2 _ (List.mem_of_getElem? (i := 102) rfl)) rfl
theorem mw_110 : Cond.code yX1_cut cX1_cut 5 (none : Option FieldType) ∈ GW := gw_mem (inT2 _ (List.mem_of_getElem? (i := 116) rfl)) rfl
theorem mw_111 : Cond.methodLink RX1 44 yX1_cut ∈ GW := gw_mem (inT2 _ (List.mem_of_getElem? (i := 113) rfl)) rfl
theorem mw_112 : Cond.instanceMethod yX1_cut ∈ GW := gw_mem (inT2 _ (List.mem_of_getElem? (i := 115) rfl)) rfl
theorem mw_113 : Cond.selects RX1 yX1_cut yX1_cut ∈ GW := gw_mem (inTp (q := (yX1_cut, 11)) (List.mem_of_getElem? (i := 2) rfl)) rfl
theorem mw_114 : Cond.fieldLink RX1 27 "OrielChart$Flow" "firstEdge" "[I" ∈ GW := gw_mem (inT1 _ (List.mem_of_getElem? (i := 78) rfl)) rfl
theorem mw_115 : Cond.fieldLink RX1 73 "OrielChart$Flow" "reached" "J" ∈ GW := gw_mem (inT1 _ (List.mem_of_getElem? (i := 96) rfl)) rfl
theorem mw_116 : Cond.code yX7_spread cX7_spread 13 (some Jvm.ClassFile.FieldType.long) ∈ GW := gw_mem (inT2 _ (List.mem_of_getElem? (i := 139) rfl)) rfl
theorem mw_117 : Cond.static yX7_spread ∈ GW := gw_mem (inT2 _ (List.mem_of_getElem? (i := 138) rfl)) rfl
theorem mw_118 : Cond.code yX1_leave cX1_leave 5 (none : Option FieldType) ∈ GW := gw_mem (inT2 _ (List.mem_of_getElem? (i := 129) rfl)) rfl
theorem mw_119 : Cond.methodLink RX1 61 yX1_leave ∈ GW := gw_mem (inT2 _ (List.mem_of_getElem? (i := 126) rfl)) rfl
theorem mw_120 : Cond.instanceMethod yX1_leave ∈ GW := gw_mem (inT2 _ (List.mem_of_getElem? (i := 128) rfl)) rfl
theorem mw_121 : Cond.selects RX1 yX1_leave yX1_leave ∈ GW := gw_mem (inTp (q := (yX1_leave, 11)) (List.mem_of_getElem? (i := 3) rfl)) rfl
theorem pd_X1_leadersOf : yX1_leadersOf.cls ≠ "java/lang/invoke/MethodHandle" ∧ yX1_leadersOf.cls ≠ "java/lang/invoke/VarHandle" ∧ (parseMethodDescriptor yX1_leadersOf.desc).map (fun d => d.parameters.length) = some 1 := by decide +kernel
theorem pdv_X1_cut : yX1_cut.cls = RX1 ∧ yX1_cut.cls ≠ "java/lang/invoke/MethodHandle" ∧ yX1_cut.cls ≠ "java/lang/invoke/VarHandle" ∧ (parseMethodDescriptor yX1_cut.desc).map (fun d => d.parameters.length) = some 2 := by decide +kernel
theorem pd_X7_spread : yX7_spread.cls ≠ "java/lang/invoke/MethodHandle" ∧ yX7_spread.cls ≠ "java/lang/invoke/VarHandle" ∧ (parseMethodDescriptor yX7_spread.desc).map (fun d => d.parameters.length) = some 3 := by decide +kernel
theorem pdv_X1_leave : yX1_leave.cls = RX1 ∧ yX1_leave.cls ≠ "java/lang/invoke/MethodHandle" ∧ yX1_leave.cls ≠ "java/lang/invoke/VarHandle" ∧ (parseMethodDescriptor yX1_leave.desc).map (fun d => d.parameters.length) = some 2 := by decide +kernel
theorem join_bc (fl : Ob) (b i n : Int32) : gi (join fl b i n) 0 = gi fl 0 := by
  unfold join joinP
  split <;> rfl
theorem leave_bc (co fl : Ob) (b : Int32) : gi (leave co fl b) 0 = gi fl 0 := by
  unfold leave leaveC
  split
  · rw [join_bc]
    unfold leaveB
    split
    · rw [join_bc]; unfold leaveA; split
      · rw [join_bc]
      · split
        · rw [join_bc]
        · rfl
    · unfold leaveA; split
      · rw [join_bc]
      · split
        · rw [join_bc]
        · rfl
  · unfold leaveB
    split
    · rw [join_bc]; unfold leaveA; split
      · rw [join_bc]
      · split
        · rw [join_bc]
        · rfl
    · unfold leaveA; split
      · rw [join_bc]
      · split
        · rw [join_bc]
        · rfl
theorem part_bc (co : Ob) (i : Nat) (s : Ob) : gi (lp (partStep co) i s) 0 = gi s 0 := by
  induction i with
  | zero => rfl
  | succ i ih =>
    show gi (partStep co i (lp (partStep co) i s)) 0 = _
    unfold partStep
    rw [leave_bc]
    exact ih
set_option maxHeartbeats 4000000 in
set_option maxRecDepth 100000 in
theorem c_part (l : Launch) (D : va_G) (cI cJ : ClassId) (ad : Nat → Nat) (co fl ra li re wa pi : Ob) : CT l D (TY cI cJ) yX1_part (.code yX1_part cX1_part 3 (none : Option FieldType)) 3 0 0 (XW ad cI cJ co fl ra li re wa pi) [.ref (ad 2), .ref (ad 1)] (QV D (TY cI cJ) (fun u => u = (XW ad cI cJ co (part co fl) ra li re wa pi))) := by
  refine ent (by decide) (Nat.le_of_ble_eq_true rfl) ?_
  intro p e s m below meth c ls A hx hb hr hg hown hml hlocks hnm hP hK hD hS hA hN hl
  have hl : lv_has ls 3 [(0, .ref (ad 2)), (1, .ref (ad 1))] := hl
  refine lv_aload_n hx hb dX1_part_0 rfl (lv_at hl 0 rfl) ?_
  refine lv_aload_n hx hb dX1_part_1 rfl (lv_at hl 1 rfl) ?_
  refine va_getN (D := D) (ci := 0) (v := .int (gi co 0)) (C := RX0) (T := TX0) (N := 5) hx hb hg inGX0 hown hK hP 1 xo1 rfl 4 (by decide) (hN.use nw_9) (fun _ h9 => h9) (xvX0_4 rfl) dX1_part_2 ?_
  refine lv_aload_n hx hb dX1_part_5 rfl (lv_at hl 1 rfl) ?_
  refine kL (rS hx hb hml hown hg hN hK hP hD (c_leadersOf l D cI cJ ad co fl ra li re wa pi) mw_107 mw_108 mw_109 mw_106 pd_X1_leadersOf ⟨Nat.le_of_ble_eq_true rfl, Nat.le_of_ble_eq_true rfl⟩ rfl hl.1 rfl (Nat.le_of_ble_eq_true rfl) dX1_part_6 ⟨Nat.le_of_ble_eq_true rfl, Nat.le_of_ble_eq_true rfl⟩) hD hS hA (fun r_1 u_1 H locs hp hP hD hS => ?_)
  obtain ⟨er, eu⟩ := hp
  obtain rfl := er.symm
  obtain rfl := eu.symm
  refine kV (rV (q0 := 2) (ci := 1) hx hb hml hown hg hN hK hP hD (c_cut l D cI cJ ad co fl ra li re wa pi (gi co 0) (leaders co)) mw_110 mw_111 mw_112 mw_113 mw_106 pdv_X1_cut ⟨Nat.le_of_ble_eq_true rfl, Nat.le_of_ble_eq_true rfl⟩ rfl xo2 rfl hl.1 rfl (Nat.le_of_ble_eq_true rfl) dX1_part_9 ⟨Nat.le_of_ble_eq_true rfl, Nat.le_of_ble_eq_true rfl⟩) hD hS hA (fun u_2 H locs hp hP hD hS => ?_)
  obtain rfl := hp.symm
  have hP : va_P D vwCl (XW ad cI cJ co (cut fl (gi co 0) (leaders co)) ra li re wa pi) H := hP
  have hD : va_D A (XW ad cI cJ co (cut fl (gi co 0) (leaders co)) ra li re wa pi) := hD
  refine lv_aload_n hx hb dX1_part_12 rfl (lv_at hl 0 rfl) ?_
  refine lv_iconst (v := 0) hx hb dX1_part_13 (by decide) ?_
  refine va_put (D := D) (ci := 1) (v := .int 0) (C := RX1) (T := TX1) (N := 11) hx hb hg inGX1 tyX1 tyX1_ok nmX1 hown hK hP hD hS 2 xo2 rfl 8 (by decide) (hg _ mw_100) (fun _ h9 => h9) rfl (tyX1_ok 8 (by decide)) rfl rfl (Nat.le_of_ble_eq_true rfl) dX1_part_14 (fun H locs hP hD hS => ?_)
  have hP : va_P D vwCl (XW ad cI cJ co (si (cut fl (gi co 0) (leaders co)) 1 0) ra li re wa pi) H := cgP xpX1_8 hP
  have hD : va_D A (XW ad cI cJ co (si (cut fl (gi co 0) (leaders co)) 1 0) ra li re wa pi) := cgD xpX1_8 hD
  refine lv_iconst (v := 0) hx hb dX1_part_17 (by decide) ?_
  refine lv_istore_n (lv' := [(2, .int 0), (0, .ref (ad 2)), (1, .ref (ad 1))]) hx hb dX1_part_18 rfl hl (by decide) rfl (fun ls hl => ?_)
  refine w_loop (σ := Ob) (fun (i_3 : Nat) (p_3 : Ob) (H : Heap) (locs : List Loc) (ls : Array Slot) => p_3 = (lp (partStep co) i_3 (si (cut fl (gi co 0) (leaders co)) 1 0)) ∧ va_P D vwCl (XW ad cI cJ co p_3 ra li re wa pi) H ∧ va_D A (XW ad cI cJ co p_3 ra li re wa pi) ∧ va_S A s.heap H locs ∧ lv_has ls 3 [(0, .ref (ad 2)), (1, .ref (ad 1)), (2, .int (nI i_3))]) (nN (gi (cut fl (gi co 0) (leaders co)) 0)) (fun p_3 H locs ls hI => ?_) (fun i_3 p_3 H locs ls hi_3 hI ih_3 => ?_) 0 (si (cut fl (gi co 0) (leaders co)) 1 0) (Nat.zero_le _) ⟨(lp_0 _ _), hP, hD, hS, (by rw [nI_0]; exact lv_sub hl [1, 2, 0] rfl)⟩
  · obtain ⟨h_3, hP, hD, hS, hl⟩ := hI
    have h_3 := h_3.symm
    subst h_3
    have hP : va_P D vwCl (XW ad cI cJ co ((lp (partStep co) (nN (gi (cut fl (gi co 0) (leaders co)) 0)) (si (cut fl (gi co 0) (leaders co)) 1 0))) ra li re wa pi) H := hP
    have hD : va_D A (XW ad cI cJ co ((lp (partStep co) (nN (gi (cut fl (gi co 0) (leaders co)) 0)) (si (cut fl (gi co 0) (leaders co)) 1 0))) ra li re wa pi) := hD
    have hl : lv_has ls 3 [(0, .ref (ad 2)), (1, .ref (ad 1)), (2, .int (nI ((nN (gi (cut fl (gi co 0) (leaders co)) 0)))))] := hl
    refine lv_iload_n hx hb dX1_part_19 rfl (lv_at hl 2 rfl) ?_
    refine lv_aload_n hx hb dX1_part_20 rfl (lv_at hl 0 rfl) ?_
    refine va_get (D := D) (ci := 1) (v := .int (gi ((lp (partStep co) (nN (gi (cut fl (gi co 0) (leaders co)) 0)) (si (cut fl (gi co 0) (leaders co)) 1 0))) 0)) (C := RX1) (T := TX1) (N := 11) hx hb hg inGX1 hown hK hP 2 xo2 rfl 7 (by decide) (hg _ mw_88) (fun _ h9 => h9) (xvX1_7 rfl) dX1_part_21 ?_
    refine lv_icmp_ge (tgt := 60) hx hb dX1_part_24 (by decide) (fun _ => ?_) (fun c_24 => absurd (by rw [part_bc]; exact lp_out _) c_24)
    refine lv_aload_n hx hb dX1_part_60 rfl (lv_at hl 0 rfl) ?_
    refine va_get (D := D) (ci := 1) (v := .ref (ad 17)) (C := RX1) (T := TX1) (N := 11) hx hb hg inGX1 hown hK hP 2 xo2 rfl 5 (by decide) (hg _ mw_114) (fun _ h9 => h9) xvX1_5 dX1_part_61 ?_
    refine lv_aload_n hx hb dX1_part_64 rfl (lv_at hl 0 rfl) ?_
    refine va_get (D := D) (ci := 1) (v := .int (gi ((lp (partStep co) (nN (gi (cut fl (gi co 0) (leaders co)) 0)) (si (cut fl (gi co 0) (leaders co)) 1 0))) 0)) (C := RX1) (T := TX1) (N := 11) hx hb hg inGX1 hown hK hP 2 xo2 rfl 7 (by decide) (hg _ mw_88) (fun _ h9 => h9) (xvX1_7 rfl) dX1_part_65 ?_
    refine lv_aload_n hx hb dX1_part_68 rfl (lv_at hl 0 rfl) ?_
    refine va_get (D := D) (ci := 1) (v := .int (gi ((lp (partStep co) (nN (gi (cut fl (gi co 0) (leaders co)) 0)) (si (cut fl (gi co 0) (leaders co)) 1 0))) 1)) (C := RX1) (T := TX1) (N := 11) hx hb hg inGX1 hown hK hP 2 xo2 rfl 8 (by decide) (hg _ mw_100) (fun _ h9 => h9) (xvX1_8 rfl) dX1_part_69 ?_
    refine kV (rSN hx hb hml hown hg hN hK hP hD (c_put l D cI cJ (XW ad cI cJ co ((lp (partStep co) (nN (gi (cut fl (gi co 0) (leaders co)) 0)) (si (cut fl (gi co 0) (leaders co)) 1 0))) ra li re wa pi) 17 (ad 17) 41 (gA ((lp (partStep co) (nN (gi (cut fl (gi co 0) (leaders co)) 0)) (si (cut fl (gi co 0) (leaders co)) 1 0))) 5) (gi ((lp (partStep co) (nN (gi (cut fl (gi co 0) (leaders co)) 0)) (si (cut fl (gi co 0) (leaders co)) 1 0))) 0) (gi ((lp (partStep co) (nN (gi (cut fl (gi co 0) (leaders co)) 0)) (si (cut fl (gi co 0) (leaders co)) 1 0))) 1) (xg17 rfl) (by decide)) mw_92 nw_69 mw_93 mw_77 pd_X7_put ⟨Nat.le_of_ble_eq_true rfl, Nat.le_of_ble_eq_true rfl⟩ rfl hl.1 rfl (Nat.le_of_ble_eq_true rfl) dX1_part_72 ⟨Nat.le_of_ble_eq_true rfl, Nat.le_of_ble_eq_true rfl⟩) hD hS hA (fun u_4 H locs hp hP hD hS => ?_)
    obtain rfl := hp.symm
    have hP : va_P D vwCl (XW ad cI cJ co (sA ((lp (partStep co) (nN (gi (cut fl (gi co 0) (leaders co)) 0)) (si (cut fl (gi co 0) (leaders co)) 1 0))) 5 (wr (gA ((lp (partStep co) (nN (gi (cut fl (gi co 0) (leaders co)) 0)) (si (cut fl (gi co 0) (leaders co)) 1 0))) 5) 41 (gi ((lp (partStep co) (nN (gi (cut fl (gi co 0) (leaders co)) 0)) (si (cut fl (gi co 0) (leaders co)) 1 0))) 0) (gi ((lp (partStep co) (nN (gi (cut fl (gi co 0) (leaders co)) 0)) (si (cut fl (gi co 0) (leaders co)) 1 0))) 1))) ra li re wa pi) H := cgP xs17 hP
    have hD : va_D A (XW ad cI cJ co (sA ((lp (partStep co) (nN (gi (cut fl (gi co 0) (leaders co)) 0)) (si (cut fl (gi co 0) (leaders co)) 1 0))) 5 (wr (gA ((lp (partStep co) (nN (gi (cut fl (gi co 0) (leaders co)) 0)) (si (cut fl (gi co 0) (leaders co)) 1 0))) 5) 41 (gi ((lp (partStep co) (nN (gi (cut fl (gi co 0) (leaders co)) 0)) (si (cut fl (gi co 0) (leaders co)) 1 0))) 0) (gi ((lp (partStep co) (nN (gi (cut fl (gi co 0) (leaders co)) 0)) (si (cut fl (gi co 0) (leaders co)) 1 0))) 1))) ra li re wa pi) := cgD xs17 hD
    refine lv_aload_n hx hb dX1_part_75 rfl (lv_at hl 0 rfl) ?_
    refine lv_aload_n hx hb dX1_part_76 rfl (lv_at hl 0 rfl) ?_
    refine va_get (D := D) (ci := 1) (v := .int (gi ((lp (partStep co) (nN (gi (cut fl (gi co 0) (leaders co)) 0)) (si (cut fl (gi co 0) (leaders co)) 1 0))) 0)) (C := RX1) (T := TX1) (N := 11) hx hb hg inGX1 hown hK hP 2 xo2 rfl 7 (by decide) (hg _ mw_88) (fun _ h9 => h9) (xvX1_7 (by simp only [gi_sl, gi_sA, gi_sB, gi_si_s, gi_si_n, gl_si, gl_sA, gl_sB, gl_sl_s, gl_sl_n, gA_si, gA_sl, gA_sB, gA_sA_s, gA_sA_n, gB_si, gB_sl, gB_sA, gB_sB_s, gB_sB_n, Nat.reduceBEq])) dX1_part_77 ?_
    refine lv_if_le (tgt := 99) hx hb dX1_part_80 (by decide) (fun c_80 => ?_) (fun c_80 => ?_)
    · have c_80 : ¬ 0 < (gi ((lp (partStep co) (nN (gi (cut fl (gi co 0) (leaders co)) 0)) (si (cut fl (gi co 0) (leaders co)) 1 0))) 0) := i_ge c_80
      refine lv_lconst (v := 0) hx hb dX1_part_99 (by decide) ?_
      refine va_put (D := D) (ci := 1) (v := .long 0) (C := RX1) (T := TX1) (N := 11) hx hb hg inGX1 tyX1 tyX1_ok nmX1 hown hK hP hD hS 2 xo2 rfl 9 (by decide) (hg _ mw_115) (fun _ h9 => h9) rfl (tyX1_ok 9 (by decide)) rfl rfl (Nat.le_of_ble_eq_true rfl) dX1_part_100 (fun H locs hP hD hS => ?_)
      have hP : va_P D vwCl (XW ad cI cJ co (sl (sA ((lp (partStep co) (nN (gi (cut fl (gi co 0) (leaders co)) 0)) (si (cut fl (gi co 0) (leaders co)) 1 0))) 5 (wr (gA ((lp (partStep co) (nN (gi (cut fl (gi co 0) (leaders co)) 0)) (si (cut fl (gi co 0) (leaders co)) 1 0))) 5) 41 (gi ((lp (partStep co) (nN (gi (cut fl (gi co 0) (leaders co)) 0)) (si (cut fl (gi co 0) (leaders co)) 1 0))) 0) (gi ((lp (partStep co) (nN (gi (cut fl (gi co 0) (leaders co)) 0)) (si (cut fl (gi co 0) (leaders co)) 1 0))) 1))) 0 0) ra li re wa pi) H := cgP xpX1_9 hP
      have hD : va_D A (XW ad cI cJ co (sl (sA ((lp (partStep co) (nN (gi (cut fl (gi co 0) (leaders co)) 0)) (si (cut fl (gi co 0) (leaders co)) 1 0))) 5 (wr (gA ((lp (partStep co) (nN (gi (cut fl (gi co 0) (leaders co)) 0)) (si (cut fl (gi co 0) (leaders co)) 1 0))) 5) 41 (gi ((lp (partStep co) (nN (gi (cut fl (gi co 0) (leaders co)) 0)) (si (cut fl (gi co 0) (leaders co)) 1 0))) 0) (gi ((lp (partStep co) (nN (gi (cut fl (gi co 0) (leaders co)) 0)) (si (cut fl (gi co 0) (leaders co)) 1 0))) 1))) 0 0) ra li re wa pi) := cgD xpX1_9 hD
      exact W.vret hx hb hr (fun t ht hW => ⟨⟨(XW ad cI cJ co (sl (sA ((lp (partStep co) (nN (gi (cut fl (gi co 0) (leaders co)) 0)) (si (cut fl (gi co 0) (leaders co)) 1 0))) 5 (wr (gA ((lp (partStep co) (nN (gi (cut fl (gi co 0) (leaders co)) 0)) (si (cut fl (gi co 0) (leaders co)) 1 0))) 5) 41 (gi ((lp (partStep co) (nN (gi (cut fl (gi co 0) (leaders co)) 0)) (si (cut fl (gi co 0) (leaders co)) 1 0))) 0) (gi ((lp (partStep co) (nN (gi (cut fl (gi co 0) (leaders co)) 0)) (si (cut fl (gi co 0) (leaders co)) 1 0))) 1))) 0 0) ra li re wa pi), rfl, xw_eq rfl (show (sl (sA ((lp (partStep co) (nN (gi (cut fl (gi co 0) (leaders co)) 0)) (si (cut fl (gi co 0) (leaders co)) 1 0))) 5 (wr (gA ((lp (partStep co) (nN (gi (cut fl (gi co 0) (leaders co)) 0)) (si (cut fl (gi co 0) (leaders co)) 1 0))) 5) 41 (gi ((lp (partStep co) (nN (gi (cut fl (gi co 0) (leaders co)) 0)) (si (cut fl (gi co 0) (leaders co)) 1 0))) 0) (gi ((lp (partStep co) (nN (gi (cut fl (gi co 0) (leaders co)) 0)) (si (cut fl (gi co 0) (leaders co)) 1 0))) 1))) 0 0) = (part co fl) from (by simp only [part, partE, partL, eq_false c_80, gi_sl, gi_sA, gi_sB, gi_si_s, gi_si_n, gl_si, gl_sA, gl_sB, gl_sl_s, gl_sl_n, gA_si, gA_sl, gA_sB, gA_sA_s, gA_sA_n, gB_si, gB_sl, gB_sA, gB_sB_s, gB_sB_n, Nat.reduceBEq, if_true, if_false, eq_self, Bool.false_eq_true, Bool.true_eq_false, not_true_eq_false, not_false_eq_true, decide_true, decide_false, cond_true, cond_false, Bool.true_and, Bool.false_and, Bool.and_true, Bool.and_false, Bool.true_or, Bool.false_or, Bool.or_true, Bool.or_false, b2i_tt, b2i_ff, pr_eta]; done)) rfl rfl rfl rfl rfl, ⟨by rw [ht]; exact hP, va_K.moved hW.alike hK, hD⟩⟩, hS.F ht⟩) hS.2.2 dX1_part_103
    · have c_80 : 0 < (gi ((lp (partStep co) (nN (gi (cut fl (gi co 0) (leaders co)) 0)) (si (cut fl (gi co 0) (leaders co)) 1 0))) 0) := i_nge c_80
      refine lv_aload_n hx hb dX1_part_83 rfl (lv_at hl 0 rfl) ?_
      refine va_get (D := D) (ci := 1) (v := .ref (ad 18)) (C := RX1) (T := TX1) (N := 11) hx hb hg inGX1 hown hK hP 2 xo2 rfl 6 (by decide) (hg _ mw_96) (fun _ h9 => h9) xvX1_6 dX1_part_84 ?_
      refine lv_lconst (v := 1) hx hb dX1_part_87 (by decide) ?_
      refine lv_bipush (v := 40) hx hb dX1_part_88 (by decide) ?_
      refine kL (rSN hx hb hml hown hg hN hK hP hD (c_bit l D cI cJ (XW ad cI cJ co (sA ((lp (partStep co) (nN (gi (cut fl (gi co 0) (leaders co)) 0)) (si (cut fl (gi co 0) (leaders co)) 1 0))) 5 (wr (gA ((lp (partStep co) (nN (gi (cut fl (gi co 0) (leaders co)) 0)) (si (cut fl (gi co 0) (leaders co)) 1 0))) 5) 41 (gi ((lp (partStep co) (nN (gi (cut fl (gi co 0) (leaders co)) 0)) (si (cut fl (gi co 0) (leaders co)) 1 0))) 0) (gi ((lp (partStep co) (nN (gi (cut fl (gi co 0) (leaders co)) 0)) (si (cut fl (gi co 0) (leaders co)) 1 0))) 1))) ra li re wa pi) 40) mw_78 nw_66 mw_80 mw_77 pd_X7_bit ⟨Nat.le_of_ble_eq_true rfl, Nat.le_of_ble_eq_true rfl⟩ rfl hl.1 rfl (Nat.le_of_ble_eq_true rfl) dX1_part_90 ⟨Nat.le_of_ble_eq_true rfl, Nat.le_of_ble_eq_true rfl⟩) hD hS hA (fun r_5 u_5 H locs hp hP hD hS => ?_)
      obtain ⟨er, eu⟩ := hp
      obtain rfl := er.symm
      obtain rfl := eu.symm
      refine kL (rSN hx hb hml hown hg hN hK hP hD (c_spread l D cI cJ (XW ad cI cJ co (sA ((lp (partStep co) (nN (gi (cut fl (gi co 0) (leaders co)) 0)) (si (cut fl (gi co 0) (leaders co)) 1 0))) 5 (wr (gA ((lp (partStep co) (nN (gi (cut fl (gi co 0) (leaders co)) 0)) (si (cut fl (gi co 0) (leaders co)) 1 0))) 5) 41 (gi ((lp (partStep co) (nN (gi (cut fl (gi co 0) (leaders co)) 0)) (si (cut fl (gi co 0) (leaders co)) 1 0))) 0) (gi ((lp (partStep co) (nN (gi (cut fl (gi co 0) (leaders co)) 0)) (si (cut fl (gi co 0) (leaders co)) 1 0))) 1))) ra li re wa pi) 18 (ad 18) (gB ((lp (partStep co) (nN (gi (cut fl (gi co 0) (leaders co)) 0)) (si (cut fl (gi co 0) (leaders co)) 1 0))) 0) 1 (bitL 40) (xg18 (by simp only [gi_sl, gi_sA, gi_sB, gi_si_s, gi_si_n, gl_si, gl_sA, gl_sB, gl_sl_s, gl_sl_n, gA_si, gA_sl, gA_sB, gA_sA_s, gA_sA_n, gB_si, gB_sl, gB_sA, gB_sB_s, gB_sB_n, Nat.reduceBEq]))) mw_116 nw_72 mw_117 mw_77 pd_X7_spread ⟨Nat.le_of_ble_eq_true rfl, Nat.le_of_ble_eq_true rfl⟩ rfl hl.1 rfl (Nat.le_of_ble_eq_true rfl) dX1_part_93 ⟨Nat.le_of_ble_eq_true rfl, Nat.le_of_ble_eq_true rfl⟩) hD hS hA (fun r_6 u_6 H locs hp hP hD hS => ?_)
      obtain ⟨er, eu⟩ := hp
      obtain rfl := er.symm
      obtain rfl := eu.symm
      refine lv_goto (tgt := 100) hx hb dX1_part_96 (by decide) ?_
      refine va_put (D := D) (ci := 1) (v := .long (spread (gB ((lp (partStep co) (nN (gi (cut fl (gi co 0) (leaders co)) 0)) (si (cut fl (gi co 0) (leaders co)) 1 0))) 0) 1 (bitL 40))) (C := RX1) (T := TX1) (N := 11) hx hb hg inGX1 tyX1 tyX1_ok nmX1 hown hK hP hD hS 2 xo2 rfl 9 (by decide) (hg _ mw_115) (fun _ h9 => h9) rfl (tyX1_ok 9 (by decide)) rfl rfl (Nat.le_of_ble_eq_true rfl) dX1_part_100 (fun H locs hP hD hS => ?_)
      have hP : va_P D vwCl (XW ad cI cJ co (sl (sA ((lp (partStep co) (nN (gi (cut fl (gi co 0) (leaders co)) 0)) (si (cut fl (gi co 0) (leaders co)) 1 0))) 5 (wr (gA ((lp (partStep co) (nN (gi (cut fl (gi co 0) (leaders co)) 0)) (si (cut fl (gi co 0) (leaders co)) 1 0))) 5) 41 (gi ((lp (partStep co) (nN (gi (cut fl (gi co 0) (leaders co)) 0)) (si (cut fl (gi co 0) (leaders co)) 1 0))) 0) (gi ((lp (partStep co) (nN (gi (cut fl (gi co 0) (leaders co)) 0)) (si (cut fl (gi co 0) (leaders co)) 1 0))) 1))) 0 (spread (gB ((lp (partStep co) (nN (gi (cut fl (gi co 0) (leaders co)) 0)) (si (cut fl (gi co 0) (leaders co)) 1 0))) 0) 1 (bitL 40))) ra li re wa pi) H := cgP xpX1_9 hP
      have hD : va_D A (XW ad cI cJ co (sl (sA ((lp (partStep co) (nN (gi (cut fl (gi co 0) (leaders co)) 0)) (si (cut fl (gi co 0) (leaders co)) 1 0))) 5 (wr (gA ((lp (partStep co) (nN (gi (cut fl (gi co 0) (leaders co)) 0)) (si (cut fl (gi co 0) (leaders co)) 1 0))) 5) 41 (gi ((lp (partStep co) (nN (gi (cut fl (gi co 0) (leaders co)) 0)) (si (cut fl (gi co 0) (leaders co)) 1 0))) 0) (gi ((lp (partStep co) (nN (gi (cut fl (gi co 0) (leaders co)) 0)) (si (cut fl (gi co 0) (leaders co)) 1 0))) 1))) 0 (spread (gB ((lp (partStep co) (nN (gi (cut fl (gi co 0) (leaders co)) 0)) (si (cut fl (gi co 0) (leaders co)) 1 0))) 0) 1 (bitL 40))) ra li re wa pi) := cgD xpX1_9 hD
      exact W.vret hx hb hr (fun t ht hW => ⟨⟨(XW ad cI cJ co (sl (sA ((lp (partStep co) (nN (gi (cut fl (gi co 0) (leaders co)) 0)) (si (cut fl (gi co 0) (leaders co)) 1 0))) 5 (wr (gA ((lp (partStep co) (nN (gi (cut fl (gi co 0) (leaders co)) 0)) (si (cut fl (gi co 0) (leaders co)) 1 0))) 5) 41 (gi ((lp (partStep co) (nN (gi (cut fl (gi co 0) (leaders co)) 0)) (si (cut fl (gi co 0) (leaders co)) 1 0))) 0) (gi ((lp (partStep co) (nN (gi (cut fl (gi co 0) (leaders co)) 0)) (si (cut fl (gi co 0) (leaders co)) 1 0))) 1))) 0 (spread (gB ((lp (partStep co) (nN (gi (cut fl (gi co 0) (leaders co)) 0)) (si (cut fl (gi co 0) (leaders co)) 1 0))) 0) 1 (bitL 40))) ra li re wa pi), rfl, xw_eq rfl (show (sl (sA ((lp (partStep co) (nN (gi (cut fl (gi co 0) (leaders co)) 0)) (si (cut fl (gi co 0) (leaders co)) 1 0))) 5 (wr (gA ((lp (partStep co) (nN (gi (cut fl (gi co 0) (leaders co)) 0)) (si (cut fl (gi co 0) (leaders co)) 1 0))) 5) 41 (gi ((lp (partStep co) (nN (gi (cut fl (gi co 0) (leaders co)) 0)) (si (cut fl (gi co 0) (leaders co)) 1 0))) 0) (gi ((lp (partStep co) (nN (gi (cut fl (gi co 0) (leaders co)) 0)) (si (cut fl (gi co 0) (leaders co)) 1 0))) 1))) 0 (spread (gB ((lp (partStep co) (nN (gi (cut fl (gi co 0) (leaders co)) 0)) (si (cut fl (gi co 0) (leaders co)) 1 0))) 0) 1 (bitL 40))) = (part co fl) from (by simp only [part, partE, partL, eq_true c_80, gi_sl, gi_sA, gi_sB, gi_si_s, gi_si_n, gl_si, gl_sA, gl_sB, gl_sl_s, gl_sl_n, gA_si, gA_sl, gA_sB, gA_sA_s, gA_sA_n, gB_si, gB_sl, gB_sA, gB_sB_s, gB_sB_n, Nat.reduceBEq, if_true, if_false, eq_self, Bool.false_eq_true, Bool.true_eq_false, not_true_eq_false, not_false_eq_true, decide_true, decide_false, cond_true, cond_false, Bool.true_and, Bool.false_and, Bool.and_true, Bool.and_false, Bool.true_or, Bool.false_or, Bool.or_true, Bool.or_false, b2i_tt, b2i_ff, pr_eta]; done)) rfl rfl rfl rfl rfl, ⟨by rw [ht]; exact hP, va_K.moved hW.alike hK, hD⟩⟩, hS.F ht⟩) hS.2.2 dX1_part_103
  · obtain ⟨h_3, hP, hD, hS, hl⟩ := hI
    have hP : va_P D vwCl (XW ad cI cJ co p_3 ra li re wa pi) H := hP
    have hD : va_D A (XW ad cI cJ co p_3 ra li re wa pi) := hD
    have hl : lv_has ls 3 [(0, .ref (ad 2)), (1, .ref (ad 1)), (2, .int (nI i_3))] := hl
    refine lv_iload_n hx hb dX1_part_19 rfl (lv_at hl 2 rfl) ?_
    refine lv_aload_n hx hb dX1_part_20 rfl (lv_at hl 0 rfl) ?_
    refine va_get (D := D) (ci := 1) (v := .int (gi p_3 0)) (C := RX1) (T := TX1) (N := 11) hx hb hg inGX1 hown hK hP 2 xo2 rfl 7 (by decide) (hg _ mw_88) (fun _ h9 => h9) (xvX1_7 rfl) dX1_part_21 ?_
    refine lv_icmp_ge (tgt := 60) hx hb dX1_part_24 (by decide) (fun c_24 => absurd c_24 (by rw [h_3, part_bc]; exact lp_in hi_3)) (fun _ => ?_)
    refine lv_aload_n hx hb dX1_part_27 rfl (lv_at hl 0 rfl) ?_
    refine va_get (D := D) (ci := 1) (v := .ref (ad 17)) (C := RX1) (T := TX1) (N := 11) hx hb hg inGX1 hown hK hP 2 xo2 rfl 5 (by decide) (hg _ mw_114) (fun _ h9 => h9) xvX1_5 dX1_part_28 ?_
    refine lv_iload_n hx hb dX1_part_31 rfl (lv_at hl 2 rfl) ?_
    refine lv_aload_n hx hb dX1_part_32 rfl (lv_at hl 0 rfl) ?_
    refine va_get (D := D) (ci := 1) (v := .int (gi p_3 1)) (C := RX1) (T := TX1) (N := 11) hx hb hg inGX1 hown hK hP 2 xo2 rfl 8 (by decide) (hg _ mw_100) (fun _ h9 => h9) (xvX1_8 rfl) dX1_part_33 ?_
    refine kV (rSN hx hb hml hown hg hN hK hP hD (c_put l D cI cJ (XW ad cI cJ co p_3 ra li re wa pi) 17 (ad 17) 41 (gA p_3 5) (nI i_3) (gi p_3 1) (xg17 rfl) (by decide)) mw_92 nw_69 mw_93 mw_77 pd_X7_put ⟨Nat.le_of_ble_eq_true rfl, Nat.le_of_ble_eq_true rfl⟩ rfl hl.1 rfl (Nat.le_of_ble_eq_true rfl) dX1_part_36 ⟨Nat.le_of_ble_eq_true rfl, Nat.le_of_ble_eq_true rfl⟩) hD hS hA (fun u_7 H locs hp hP hD hS => ?_)
    obtain rfl := hp.symm
    have hP : va_P D vwCl (XW ad cI cJ co (sA p_3 5 (wr (gA p_3 5) 41 (nI i_3) (gi p_3 1))) ra li re wa pi) H := cgP xs17 hP
    have hD : va_D A (XW ad cI cJ co (sA p_3 5 (wr (gA p_3 5) 41 (nI i_3) (gi p_3 1))) ra li re wa pi) := cgD xs17 hD
    refine lv_aload_n hx hb dX1_part_39 rfl (lv_at hl 0 rfl) ?_
    refine va_get (D := D) (ci := 1) (v := .ref (ad 18)) (C := RX1) (T := TX1) (N := 11) hx hb hg inGX1 hown hK hP 2 xo2 rfl 6 (by decide) (hg _ mw_96) (fun _ h9 => h9) xvX1_6 dX1_part_40 ?_
    refine lv_iload_n hx hb dX1_part_43 rfl (lv_at hl 2 rfl) ?_
    refine lv_lconst (v := 0) hx hb dX1_part_44 (by decide) ?_
    refine kV (rSN hx hb hml hown hg hN hK hP hD (c_putL l D cI cJ (XW ad cI cJ co (sA p_3 5 (wr (gA p_3 5) 41 (nI i_3) (gi p_3 1))) ra li re wa pi) 18 (ad 18) 40 (gB p_3 0) (nI i_3) 0 (xg18 (by simp only [gi_sl, gi_sA, gi_sB, gi_si_s, gi_si_n, gl_si, gl_sA, gl_sB, gl_sl_s, gl_sl_n, gA_si, gA_sl, gA_sB, gA_sA_s, gA_sA_n, gB_si, gB_sl, gB_sA, gB_sB_s, gB_sB_n, Nat.reduceBEq])) (by decide)) mw_97 nw_70 mw_98 mw_77 pd_X7_put_ ⟨Nat.le_of_ble_eq_true rfl, Nat.le_of_ble_eq_true rfl⟩ rfl hl.1 rfl (Nat.le_of_ble_eq_true rfl) dX1_part_45 ⟨Nat.le_of_ble_eq_true rfl, Nat.le_of_ble_eq_true rfl⟩) hD hS hA (fun u_8 H locs hp hP hD hS => ?_)
    obtain rfl := hp.symm
    have hP : va_P D vwCl (XW ad cI cJ co (sB (sA p_3 5 (wr (gA p_3 5) 41 (nI i_3) (gi p_3 1))) 0 (wrL (gB p_3 0) 40 (nI i_3) 0)) ra li re wa pi) H := cgP xs18 hP
    have hD : va_D A (XW ad cI cJ co (sB (sA p_3 5 (wr (gA p_3 5) 41 (nI i_3) (gi p_3 1))) 0 (wrL (gB p_3 0) 40 (nI i_3) 0)) ra li re wa pi) := cgD xs18 hD
    refine lv_aload_n hx hb dX1_part_48 rfl (lv_at hl 0 rfl) ?_
    refine lv_aload_n hx hb dX1_part_49 rfl (lv_at hl 1 rfl) ?_
    refine lv_iload_n hx hb dX1_part_50 rfl (lv_at hl 2 rfl) ?_
    refine kV (rV (q0 := 2) (ci := 1) hx hb hml hown hg hN hK hP hD (c_leave l D cI cJ ad co (sB (sA p_3 5 (wr (gA p_3 5) 41 (nI i_3) (gi p_3 1))) 0 (wrL (gB p_3 0) 40 (nI i_3) 0)) ra li re wa pi (nI i_3)) mw_118 mw_119 mw_120 mw_121 mw_106 pdv_X1_leave ⟨Nat.le_of_ble_eq_true rfl, Nat.le_of_ble_eq_true rfl⟩ rfl xo2 rfl hl.1 rfl (Nat.le_of_ble_eq_true rfl) dX1_part_51 ⟨Nat.le_of_ble_eq_true rfl, Nat.le_of_ble_eq_true rfl⟩) hD hS hA (fun u_9 H locs hp hP hD hS => ?_)
    obtain rfl := hp.symm
    have hP : va_P D vwCl (XW ad cI cJ co (leave co (sB (sA p_3 5 (wr (gA p_3 5) 41 (nI i_3) (gi p_3 1))) 0 (wrL (gB p_3 0) 40 (nI i_3) 0)) (nI i_3)) ra li re wa pi) H := hP
    have hD : va_D A (XW ad cI cJ co (leave co (sB (sA p_3 5 (wr (gA p_3 5) 41 (nI i_3) (gi p_3 1))) 0 (wrL (gB p_3 0) 40 (nI i_3) 0)) (nI i_3)) ra li re wa pi) := hD
    refine lv_iinc (v := (nI (i_3 + 1))) (lv' := [(2, .int (nI (i_3 + 1))), (0, .ref (ad 2)), (1, .ref (ad 1))]) hx hb dX1_part_54 hl (k := 2) rfl (nI_1 i_3) (by decide) rfl (fun ls hl => ?_)
    refine lv_goto (tgt := 19) hx hb dX1_part_57 (by decide) ?_
    exact ih_3 (leave co (sB (sA p_3 5 (wr (gA p_3 5) 41 (nI i_3) (gi p_3 1))) 0 (wrL (gB p_3 0) 40 (nI i_3) 0)) (nI i_3)) H locs ls ⟨((show (leave co (sB (sA p_3 5 (wr (gA p_3 5) 41 (nI i_3) (gi p_3 1))) 0 (wrL (gB p_3 0) 40 (nI i_3) 0)) (nI i_3)) = (partStep co) i_3 p_3 from (by first | with_reducible rfl | (simp only [partStep, gi_sl, gi_sA, gi_sB, gi_si_s, gi_si_n, gl_si, gl_sA, gl_sB, gl_sl_s, gl_sl_n, gA_si, gA_sl, gA_sB, gA_sA_s, gA_sA_n, gB_si, gB_sl, gB_sA, gB_sB_s, gB_sB_n, Nat.reduceBEq, if_true, if_false, eq_self, Bool.false_eq_true, Bool.true_eq_false, not_true_eq_false, not_false_eq_true, decide_true, decide_false, cond_true, cond_false, Bool.true_and, Bool.false_and, Bool.and_true, Bool.and_false, Bool.true_or, Bool.false_or, Bool.or_true, Bool.or_false, b2i_tt, b2i_ff, pr_eta]; done))).trans (lp_go h_3)), hP, hD, hS, lv_sub hl [1, 2, 0] rfl⟩
