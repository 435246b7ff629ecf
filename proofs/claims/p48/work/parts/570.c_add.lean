theorem dX0_add_0 : decode cX0_add 0 = .ok (.aload_n 0, 1) := by decide +kernel
theorem dX0_add_1 : decode cX0_add 1 = .ok (.iload_n 1, 1) := by decide +kernel
theorem dX0_add_2 : decode cX0_add 2 = .ok (.iconst 1, 1) := by decide +kernel
theorem dX0_add_3 : decode cX0_add 3 = .ok (.invokevirtual 24, 3) := by decide +kernel
theorem dX0_add_6 : decode cX0_add 6 = .ok (.aload_n 0, 1) := by decide +kernel
theorem dX0_add_7 : decode cX0_add 7 = .ok (.getfield 28, 3) := by decide +kernel
theorem dX0_add_10 : decode cX0_add 10 = .ok (.istore 4, 2) := by decide +kernel
theorem dX0_add_12 : decode cX0_add 12 = .ok (.iload 4, 2) := by decide +kernel
theorem dX0_add_14 : decode cX0_add 14 = .ok (.iload_n 1, 1) := by decide +kernel
theorem dX0_add_15 : decode cX0_add 15 = .ok (.if_icmp .le 19, 3) := by decide +kernel
theorem dX0_add_18 : decode cX0_add 18 = .ok (.aload_n 0, 1) := by decide +kernel
theorem dX0_add_19 : decode cX0_add 19 = .ok (.iload 4, 2) := by decide +kernel
theorem dX0_add_21 : decode cX0_add 21 = .ok (.iconst 1, 1) := by decide +kernel
theorem dX0_add_22 : decode cX0_add 22 = .ok (.isub, 1) := by decide +kernel
theorem dX0_add_23 : decode cX0_add 23 = .ok (.iload 4, 2) := by decide +kernel
theorem dX0_add_25 : decode cX0_add 25 = .ok (.invokevirtual 32, 3) := by decide +kernel
theorem dX0_add_28 : decode cX0_add 28 = .ok (.iinc 4 (-1), 3) := by decide +kernel
theorem dX0_add_31 : decode cX0_add 31 = .ok (.goto (-19), 3) := by decide +kernel
theorem dX0_add_34 : decode cX0_add 34 = .ok (.aload_n 0, 1) := by decide +kernel
theorem dX0_add_35 : decode cX0_add 35 = .ok (.getfield 9, 3) := by decide +kernel
theorem dX0_add_38 : decode cX0_add 38 = .ok (.iload_n 1, 1) := by decide +kernel
theorem dX0_add_39 : decode cX0_add 39 = .ok (.iload_n 2, 1) := by decide +kernel
theorem dX0_add_40 : decode cX0_add 40 = .ok (.invokestatic 35, 3) := by decide +kernel
theorem dX0_add_43 : decode cX0_add 43 = .ok (.aload_n 0, 1) := by decide +kernel
theorem dX0_add_44 : decode cX0_add 44 = .ok (.getfield 15, 3) := by decide +kernel
theorem dX0_add_47 : decode cX0_add 47 = .ok (.iload_n 1, 1) := by decide +kernel
theorem dX0_add_48 : decode cX0_add 48 = .ok (.iload_n 3, 1) := by decide +kernel
theorem dX0_add_49 : decode cX0_add 49 = .ok (.invokestatic 35, 3) := by decide +kernel
theorem dX0_add_52 : decode cX0_add 52 = .ok (.aload_n 0, 1) := by decide +kernel
theorem dX0_add_53 : decode cX0_add 53 = .ok (.getfield 18, 3) := by decide +kernel
theorem dX0_add_56 : decode cX0_add 56 = .ok (.iload_n 1, 1) := by decide +kernel
theorem dX0_add_57 : decode cX0_add 57 = .ok (.iconst (-1), 1) := by decide +kernel
theorem dX0_add_58 : decode cX0_add 58 = .ok (.invokestatic 35, 3) := by decide +kernel
theorem dX0_add_61 : decode cX0_add 61 = .ok (.aload_n 0, 1) := by decide +kernel
theorem dX0_add_62 : decode cX0_add 62 = .ok (.getfield 21, 3) := by decide +kernel
theorem dX0_add_65 : decode cX0_add 65 = .ok (.iload_n 1, 1) := by decide +kernel
theorem dX0_add_66 : decode cX0_add 66 = .ok (.iconst 0, 1) := by decide +kernel
theorem dX0_add_67 : decode cX0_add 67 = .ok (.invokestatic 35, 3) := by decide +kernel
theorem dX0_add_70 : decode cX0_add 70 = .ok (.aload_n 0, 1) := by decide +kernel
theorem dX0_add_71 : decode cX0_add 71 = .ok (.dup, 1) := by decide +kernel
theorem dX0_add_72 : decode cX0_add 72 = .ok (.getfield 28, 3) := by decide +kernel
theorem dX0_add_75 : decode cX0_add 75 = .ok (.iconst 1, 1) := by decide +kernel
theorem dX0_add_76 : decode cX0_add 76 = .ok (.iadd, 1) := by decide +kernel
theorem dX0_add_77 : decode cX0_add 77 = .ok (.putfield 28, 3) := by decide +kernel
theorem dX0_add_80 : decode cX0_add 80 = .ok (.return_, 1) := by decide +kernel
theorem mw_358 : Cond.code yX0_shiftTargets cX0_shiftTargets 5 (none : Option FieldType) ∈ GW := gw_mem (inT4 _ (List.mem_of_getElem? (i := 42) rfl)) rfl
theorem mw_359 : Cond.methodLink RX0 24 yX0_shiftTargets ∈ GW := gw_mem (inT4 _ (List.mem_of_getElem? (i := 39) rfl)) rfl
theorem mw_360 : Cond.instanceMethod yX0_shiftTargets ∈ GW := gw_mem (inT4 _ (List.mem_of_getElem? (i := 41) rfl)) rfl
theorem mw_361 : Cond.selects RX0 yX0_shiftTargets yX0_shiftTargets ∈ GW := gw_mem (inTp (q := (yX0_shiftTargets, 5)) (List.mem_of_getElem? (i := 38) rfl)) rfl
theorem mw_362 : Cond.initialized RX0 ∈ GW := gw_mem (inT1 _ (List.mem_of_getElem? (i := 2) rfl)) rfl
theorem mw_363 : Cond.code yX0_copy cX0_copy 3 (none : Option FieldType) ∈ GW := gw_mem (inT4 _ (List.mem_of_getElem? (i := 51) rfl)) rfl
theorem mw_364 : Cond.methodLink RX0 32 yX0_copy ∈ GW := gw_mem (inT4 _ (List.mem_of_getElem? (i := 48) rfl)) rfl
theorem mw_365 : Cond.instanceMethod yX0_copy ∈ GW := gw_mem (inT4 _ (List.mem_of_getElem? (i := 50) rfl)) rfl
theorem mw_366 : Cond.selects RX0 yX0_copy yX0_copy ∈ GW := gw_mem (inTp (q := (yX0_copy, 5)) (List.mem_of_getElem? (i := 39) rfl)) rfl
theorem pdv_X0_shiftTargets : yX0_shiftTargets.cls = RX0 ∧ yX0_shiftTargets.cls ≠ "java/lang/invoke/MethodHandle" ∧ yX0_shiftTargets.cls ≠ "java/lang/invoke/VarHandle" ∧ (parseMethodDescriptor yX0_shiftTargets.desc).map (fun d => d.parameters.length) = some 2 := by decide +kernel
theorem pdv_X0_copy : yX0_copy.cls = RX0 ∧ yX0_copy.cls ≠ "java/lang/invoke/MethodHandle" ∧ yX0_copy.cls ≠ "java/lang/invoke/VarHandle" ∧ (parseMethodDescriptor yX0_copy.desc).map (fun d => d.parameters.length) = some 2 := by decide +kernel
set_option maxHeartbeats 4000000 in
set_option maxRecDepth 100000 in
theorem c_add (l : Launch) (D : va_G) (cI cJ : ClassId) (ad : Nat → Nat) (co fl ra li re wa pi : Ob) (k1 : Int32) (k2 : Int32) (k3 : Int32) : CT l D (TY cI cJ) yX0_add (.code yX0_add cX0_add 5 (none : Option FieldType)) 2 0 0 (XW ad cI cJ co fl ra li re wa pi) [.ref (ad 1), .int k1, .int k2, .int k3] (QV D (TY cI cJ) (fun u => u = (XW ad cI cJ (coAdd co k1 k2 k3) fl ra li re wa pi))) := by
  refine ent (by decide) (Nat.le_of_ble_eq_true rfl) ?_
  intro p e s m below meth c ls A hx hb hr hg hown hml hlocks hnm hP hK hD hS hA hN hl
  have hl : lv_has ls 5 [(0, .ref (ad 1)), (1, .int k1), (2, .int k2), (3, .int k3)] := hl
  refine lv_aload_n hx hb dX0_add_0 rfl (lv_at hl 0 rfl) ?_
  refine lv_iload_n hx hb dX0_add_1 rfl (lv_at hl 1 rfl) ?_
  refine lv_iconst (v := 1) hx hb dX0_add_2 (by decide) ?_
  refine kV (rV (q0 := 1) (ci := 0) hx hb hml hown hg hN hK hP hD (c_shift l D cI cJ ad co fl ra li re wa pi k1 1) mw_358 mw_359 mw_360 mw_361 mw_362 pdv_X0_shiftTargets ⟨Nat.le_of_ble_eq_true rfl, Nat.le_of_ble_eq_true rfl⟩ rfl xo1 rfl hl.1 rfl (Nat.le_of_ble_eq_true rfl) dX0_add_3 ⟨Nat.le_of_ble_eq_true rfl, Nat.le_of_ble_eq_true rfl⟩) hD hS hA (fun u_1 H locs hp hP hD hS => ?_)
  obtain rfl := hp.symm
  have hP : va_P D vwCl (XW ad cI cJ (coShift co k1 1) fl ra li re wa pi) H := hP
  have hD : va_D A (XW ad cI cJ (coShift co k1 1) fl ra li re wa pi) := hD
  refine lv_aload_n hx hb dX0_add_6 rfl (lv_at hl 0 rfl) ?_
  refine va_get (D := D) (ci := 0) (v := .int (gi (coShift co k1 1) 0)) (C := RX0) (T := TX0) (N := 5) hx hb hg inGX0 hown hK hP 1 xo1 rfl 4 (by decide) (hg _ mw_352) (fun _ h9 => h9) (xvX0_4 rfl) dX0_add_7 ?_
  refine lv_istore (lv' := [(4, .int (gi (coShift co k1 1) 0)), (0, .ref (ad 1)), (1, .int k1), (2, .int k2), (3, .int k3)]) hx hb dX0_add_10 hl (by decide) rfl (fun ls hl => ?_)
  refine w_loop (σ := Ob) (fun (i_2 : Nat) (p_2 : Ob) (H : Heap) (locs : List Loc) (ls : Array Slot) => p_2 = (lp (cpDn (gi (coShift co k1 1) 0)) i_2 (coShift co k1 1)) ∧ va_P D vwCl (XW ad cI cJ p_2 fl ra li re wa pi) H ∧ va_D A (XW ad cI cJ p_2 fl ra li re wa pi) ∧ va_S A s.heap H locs ∧ lv_has ls 5 [(0, .ref (ad 1)), (1, .int k1), (2, .int k2), (3, .int k3), (4, .int ((gi (coShift co k1 1) 0) - nI i_2))]) (((gi (coShift co k1 1) 0).toInt - k1.toInt).toNat) (fun p_2 H locs ls hI => ?_) (fun i_2 p_2 H locs ls hi_2 hI ih_2 => ?_) 0 (coShift co k1 1) (Nat.zero_le _) ⟨(lp_0 _ _), hP, hD, hS, (by rw [sub_nI0]; exact lv_sub hl [1, 2, 3, 4, 0] rfl)⟩
  · obtain ⟨h_2, hP, hD, hS, hl⟩ := hI
    have h_2 := h_2.symm
    subst h_2
    have hP : va_P D vwCl (XW ad cI cJ ((lp (cpDn (gi (coShift co k1 1) 0)) (((gi (coShift co k1 1) 0).toInt - k1.toInt).toNat) (coShift co k1 1))) fl ra li re wa pi) H := hP
    have hD : va_D A (XW ad cI cJ ((lp (cpDn (gi (coShift co k1 1) 0)) (((gi (coShift co k1 1) 0).toInt - k1.toInt).toNat) (coShift co k1 1))) fl ra li re wa pi) := hD
    have hl : lv_has ls 5 [(0, .ref (ad 1)), (1, .int k1), (2, .int k2), (3, .int k3), (4, .int ((gi (coShift co k1 1) 0) - nI ((((gi (coShift co k1 1) 0).toInt - k1.toInt).toNat))))] := hl
    refine lv_iload hx hb dX0_add_12 (lv_at hl 4 rfl) ?_
    refine lv_iload_n hx hb dX0_add_14 rfl (lv_at hl 1 rfl) ?_
    refine lv_icmp_le (tgt := 34) hx hb dX0_add_15 (by decide) (fun _ => ?_) (fun c_15 => absurd (dx_out _ _) c_15)
    refine lv_aload_n hx hb dX0_add_34 rfl (lv_at hl 0 rfl) ?_
    refine va_get (D := D) (ci := 0) (v := .ref (ad 8)) (C := RX0) (T := TX0) (N := 5) hx hb hg inGX0 hown hK hP 1 xo1 rfl 0 (by decide) (hg _ mw_355) (fun _ h9 => h9) xvX0_0 dX0_add_35 ?_
    refine lv_iload_n hx hb dX0_add_38 rfl (lv_at hl 1 rfl) ?_
    refine lv_iload_n hx hb dX0_add_39 rfl (lv_at hl 2 rfl) ?_
    refine kV (rSN hx hb hml hown hg hN hK hP hD (c_put l D cI cJ (XW ad cI cJ ((lp (cpDn (gi (coShift co k1 1) 0)) (((gi (coShift co k1 1) 0).toInt - k1.toInt).toNat) (coShift co k1 1))) fl ra li re wa pi) 8 (ad 8) 40 (gA ((lp (cpDn (gi (coShift co k1 1) 0)) (((gi (coShift co k1 1) 0).toInt - k1.toInt).toNat) (coShift co k1 1))) 0) k1 k2 (xg8 rfl) (by decide)) mw_92 nw_98 mw_93 mw_77 pd_X7_put ⟨Nat.le_of_ble_eq_true rfl, Nat.le_of_ble_eq_true rfl⟩ rfl hl.1 rfl (Nat.le_of_ble_eq_true rfl) dX0_add_40 ⟨Nat.le_of_ble_eq_true rfl, Nat.le_of_ble_eq_true rfl⟩) hD hS hA (fun u_3 H locs hp hP hD hS => ?_)
    obtain rfl := hp.symm
    have hP : va_P D vwCl (XW ad cI cJ (sA ((lp (cpDn (gi (coShift co k1 1) 0)) (((gi (coShift co k1 1) 0).toInt - k1.toInt).toNat) (coShift co k1 1))) 0 (wr (gA ((lp (cpDn (gi (coShift co k1 1) 0)) (((gi (coShift co k1 1) 0).toInt - k1.toInt).toNat) (coShift co k1 1))) 0) 40 k1 k2)) fl ra li re wa pi) H := cgP xs8 hP
    have hD : va_D A (XW ad cI cJ (sA ((lp (cpDn (gi (coShift co k1 1) 0)) (((gi (coShift co k1 1) 0).toInt - k1.toInt).toNat) (coShift co k1 1))) 0 (wr (gA ((lp (cpDn (gi (coShift co k1 1) 0)) (((gi (coShift co k1 1) 0).toInt - k1.toInt).toNat) (coShift co k1 1))) 0) 40 k1 k2)) fl ra li re wa pi) := cgD xs8 hD
    refine lv_aload_n hx hb dX0_add_43 rfl (lv_at hl 0 rfl) ?_
    refine va_get (D := D) (ci := 0) (v := .ref (ad 9)) (C := RX0) (T := TX0) (N := 5) hx hb hg inGX0 hown hK hP 1 xo1 rfl 1 (by decide) (hg _ mw_353) (fun _ h9 => h9) xvX0_1 dX0_add_44 ?_
    refine lv_iload_n hx hb dX0_add_47 rfl (lv_at hl 1 rfl) ?_
    refine lv_iload_n hx hb dX0_add_48 rfl (lv_at hl 3 rfl) ?_
    refine kV (rSN hx hb hml hown hg hN hK hP hD (c_put l D cI cJ (XW ad cI cJ (sA ((lp (cpDn (gi (coShift co k1 1) 0)) (((gi (coShift co k1 1) 0).toInt - k1.toInt).toNat) (coShift co k1 1))) 0 (wr (gA ((lp (cpDn (gi (coShift co k1 1) 0)) (((gi (coShift co k1 1) 0).toInt - k1.toInt).toNat) (coShift co k1 1))) 0) 40 k1 k2)) fl ra li re wa pi) 9 (ad 9) 40 (gA ((lp (cpDn (gi (coShift co k1 1) 0)) (((gi (coShift co k1 1) 0).toInt - k1.toInt).toNat) (coShift co k1 1))) 1) k1 k3 (xg9 (by simp only [gi_sl, gi_sA, gi_sB, gi_si_s, gi_si_n, gl_si, gl_sA, gl_sB, gl_sl_s, gl_sl_n, gA_si, gA_sl, gA_sB, gA_sA_s, gA_sA_n, gB_si, gB_sl, gB_sA, gB_sB_s, gB_sB_n, Nat.reduceBEq])) (by decide)) mw_92 nw_98 mw_93 mw_77 pd_X7_put ⟨Nat.le_of_ble_eq_true rfl, Nat.le_of_ble_eq_true rfl⟩ rfl hl.1 rfl (Nat.le_of_ble_eq_true rfl) dX0_add_49 ⟨Nat.le_of_ble_eq_true rfl, Nat.le_of_ble_eq_true rfl⟩) hD hS hA (fun u_4 H locs hp hP hD hS => ?_)
    obtain rfl := hp.symm
    have hP : va_P D vwCl (XW ad cI cJ (sA (sA ((lp (cpDn (gi (coShift co k1 1) 0)) (((gi (coShift co k1 1) 0).toInt - k1.toInt).toNat) (coShift co k1 1))) 0 (wr (gA ((lp (cpDn (gi (coShift co k1 1) 0)) (((gi (coShift co k1 1) 0).toInt - k1.toInt).toNat) (coShift co k1 1))) 0) 40 k1 k2)) 1 (wr (gA ((lp (cpDn (gi (coShift co k1 1) 0)) (((gi (coShift co k1 1) 0).toInt - k1.toInt).toNat) (coShift co k1 1))) 1) 40 k1 k3)) fl ra li re wa pi) H := cgP xs9 hP
    have hD : va_D A (XW ad cI cJ (sA (sA ((lp (cpDn (gi (coShift co k1 1) 0)) (((gi (coShift co k1 1) 0).toInt - k1.toInt).toNat) (coShift co k1 1))) 0 (wr (gA ((lp (cpDn (gi (coShift co k1 1) 0)) (((gi (coShift co k1 1) 0).toInt - k1.toInt).toNat) (coShift co k1 1))) 0) 40 k1 k2)) 1 (wr (gA ((lp (cpDn (gi (coShift co k1 1) 0)) (((gi (coShift co k1 1) 0).toInt - k1.toInt).toNat) (coShift co k1 1))) 1) 40 k1 k3)) fl ra li re wa pi) := cgD xs9 hD
    refine lv_aload_n hx hb dX0_add_52 rfl (lv_at hl 0 rfl) ?_
    refine va_get (D := D) (ci := 0) (v := .ref (ad 10)) (C := RX0) (T := TX0) (N := 5) hx hb hg inGX0 hown hK hP 1 xo1 rfl 2 (by decide) (hg _ mw_356) (fun _ h9 => h9) xvX0_2 dX0_add_53 ?_
    refine lv_iload_n hx hb dX0_add_56 rfl (lv_at hl 1 rfl) ?_
    refine lv_iconst (v := (-1)) hx hb dX0_add_57 (by decide) ?_
    refine kV (rSN hx hb hml hown hg hN hK hP hD (c_put l D cI cJ (XW ad cI cJ (sA (sA ((lp (cpDn (gi (coShift co k1 1) 0)) (((gi (coShift co k1 1) 0).toInt - k1.toInt).toNat) (coShift co k1 1))) 0 (wr (gA ((lp (cpDn (gi (coShift co k1 1) 0)) (((gi (coShift co k1 1) 0).toInt - k1.toInt).toNat) (coShift co k1 1))) 0) 40 k1 k2)) 1 (wr (gA ((lp (cpDn (gi (coShift co k1 1) 0)) (((gi (coShift co k1 1) 0).toInt - k1.toInt).toNat) (coShift co k1 1))) 1) 40 k1 k3)) fl ra li re wa pi) 10 (ad 10) 40 (gA ((lp (cpDn (gi (coShift co k1 1) 0)) (((gi (coShift co k1 1) 0).toInt - k1.toInt).toNat) (coShift co k1 1))) 2) k1 (-1) (xg10 (by simp only [gi_sl, gi_sA, gi_sB, gi_si_s, gi_si_n, gl_si, gl_sA, gl_sB, gl_sl_s, gl_sl_n, gA_si, gA_sl, gA_sB, gA_sA_s, gA_sA_n, gB_si, gB_sl, gB_sA, gB_sB_s, gB_sB_n, Nat.reduceBEq])) (by decide)) mw_92 nw_98 mw_93 mw_77 pd_X7_put ⟨Nat.le_of_ble_eq_true rfl, Nat.le_of_ble_eq_true rfl⟩ rfl hl.1 rfl (Nat.le_of_ble_eq_true rfl) dX0_add_58 ⟨Nat.le_of_ble_eq_true rfl, Nat.le_of_ble_eq_true rfl⟩) hD hS hA (fun u_5 H locs hp hP hD hS => ?_)
    obtain rfl := hp.symm
    have hP : va_P D vwCl (XW ad cI cJ (sA (sA (sA ((lp (cpDn (gi (coShift co k1 1) 0)) (((gi (coShift co k1 1) 0).toInt - k1.toInt).toNat) (coShift co k1 1))) 0 (wr (gA ((lp (cpDn (gi (coShift co k1 1) 0)) (((gi (coShift co k1 1) 0).toInt - k1.toInt).toNat) (coShift co k1 1))) 0) 40 k1 k2)) 1 (wr (gA ((lp (cpDn (gi (coShift co k1 1) 0)) (((gi (coShift co k1 1) 0).toInt - k1.toInt).toNat) (coShift co k1 1))) 1) 40 k1 k3)) 2 (wr (gA ((lp (cpDn (gi (coShift co k1 1) 0)) (((gi (coShift co k1 1) 0).toInt - k1.toInt).toNat) (coShift co k1 1))) 2) 40 k1 (-1))) fl ra li re wa pi) H := cgP xs10 hP
    have hD : va_D A (XW ad cI cJ (sA (sA (sA ((lp (cpDn (gi (coShift co k1 1) 0)) (((gi (coShift co k1 1) 0).toInt - k1.toInt).toNat) (coShift co k1 1))) 0 (wr (gA ((lp (cpDn (gi (coShift co k1 1) 0)) (((gi (coShift co k1 1) 0).toInt - k1.toInt).toNat) (coShift co k1 1))) 0) 40 k1 k2)) 1 (wr (gA ((lp (cpDn (gi (coShift co k1 1) 0)) (((gi (coShift co k1 1) 0).toInt - k1.toInt).toNat) (coShift co k1 1))) 1) 40 k1 k3)) 2 (wr (gA ((lp (cpDn (gi (coShift co k1 1) 0)) (((gi (coShift co k1 1) 0).toInt - k1.toInt).toNat) (coShift co k1 1))) 2) 40 k1 (-1))) fl ra li re wa pi) := cgD xs10 hD
    refine lv_aload_n hx hb dX0_add_61 rfl (lv_at hl 0 rfl) ?_
    refine va_get (D := D) (ci := 0) (v := .ref (ad 11)) (C := RX0) (T := TX0) (N := 5) hx hb hg inGX0 hown hK hP 1 xo1 rfl 3 (by decide) (hg _ mw_357) (fun _ h9 => h9) xvX0_3 dX0_add_62 ?_
    refine lv_iload_n hx hb dX0_add_65 rfl (lv_at hl 1 rfl) ?_
    refine lv_iconst (v := 0) hx hb dX0_add_66 (by decide) ?_
    refine kV (rSN hx hb hml hown hg hN hK hP hD (c_put l D cI cJ (XW ad cI cJ (sA (sA (sA ((lp (cpDn (gi (coShift co k1 1) 0)) (((gi (coShift co k1 1) 0).toInt - k1.toInt).toNat) (coShift co k1 1))) 0 (wr (gA ((lp (cpDn (gi (coShift co k1 1) 0)) (((gi (coShift co k1 1) 0).toInt - k1.toInt).toNat) (coShift co k1 1))) 0) 40 k1 k2)) 1 (wr (gA ((lp (cpDn (gi (coShift co k1 1) 0)) (((gi (coShift co k1 1) 0).toInt - k1.toInt).toNat) (coShift co k1 1))) 1) 40 k1 k3)) 2 (wr (gA ((lp (cpDn (gi (coShift co k1 1) 0)) (((gi (coShift co k1 1) 0).toInt - k1.toInt).toNat) (coShift co k1 1))) 2) 40 k1 (-1))) fl ra li re wa pi) 11 (ad 11) 40 (gA ((lp (cpDn (gi (coShift co k1 1) 0)) (((gi (coShift co k1 1) 0).toInt - k1.toInt).toNat) (coShift co k1 1))) 3) k1 0 (xg11 (by simp only [gi_sl, gi_sA, gi_sB, gi_si_s, gi_si_n, gl_si, gl_sA, gl_sB, gl_sl_s, gl_sl_n, gA_si, gA_sl, gA_sB, gA_sA_s, gA_sA_n, gB_si, gB_sl, gB_sA, gB_sB_s, gB_sB_n, Nat.reduceBEq])) (by decide)) mw_92 nw_98 mw_93 mw_77 pd_X7_put ⟨Nat.le_of_ble_eq_true rfl, Nat.le_of_ble_eq_true rfl⟩ rfl hl.1 rfl (Nat.le_of_ble_eq_true rfl) dX0_add_67 ⟨Nat.le_of_ble_eq_true rfl, Nat.le_of_ble_eq_true rfl⟩) hD hS hA (fun u_6 H locs hp hP hD hS => ?_)
    obtain rfl := hp.symm
    have hP : va_P D vwCl (XW ad cI cJ (sA (sA (sA (sA ((lp (cpDn (gi (coShift co k1 1) 0)) (((gi (coShift co k1 1) 0).toInt - k1.toInt).toNat) (coShift co k1 1))) 0 (wr (gA ((lp (cpDn (gi (coShift co k1 1) 0)) (((gi (coShift co k1 1) 0).toInt - k1.toInt).toNat) (coShift co k1 1))) 0) 40 k1 k2)) 1 (wr (gA ((lp (cpDn (gi (coShift co k1 1) 0)) (((gi (coShift co k1 1) 0).toInt - k1.toInt).toNat) (coShift co k1 1))) 1) 40 k1 k3)) 2 (wr (gA ((lp (cpDn (gi (coShift co k1 1) 0)) (((gi (coShift co k1 1) 0).toInt - k1.toInt).toNat) (coShift co k1 1))) 2) 40 k1 (-1))) 3 (wr (gA ((lp (cpDn (gi (coShift co k1 1) 0)) (((gi (coShift co k1 1) 0).toInt - k1.toInt).toNat) (coShift co k1 1))) 3) 40 k1 0)) fl ra li re wa pi) H := cgP xs11 hP
    have hD : va_D A (XW ad cI cJ (sA (sA (sA (sA ((lp (cpDn (gi (coShift co k1 1) 0)) (((gi (coShift co k1 1) 0).toInt - k1.toInt).toNat) (coShift co k1 1))) 0 (wr (gA ((lp (cpDn (gi (coShift co k1 1) 0)) (((gi (coShift co k1 1) 0).toInt - k1.toInt).toNat) (coShift co k1 1))) 0) 40 k1 k2)) 1 (wr (gA ((lp (cpDn (gi (coShift co k1 1) 0)) (((gi (coShift co k1 1) 0).toInt - k1.toInt).toNat) (coShift co k1 1))) 1) 40 k1 k3)) 2 (wr (gA ((lp (cpDn (gi (coShift co k1 1) 0)) (((gi (coShift co k1 1) 0).toInt - k1.toInt).toNat) (coShift co k1 1))) 2) 40 k1 (-1))) 3 (wr (gA ((lp (cpDn (gi (coShift co k1 1) 0)) (((gi (coShift co k1 1) 0).toInt - k1.toInt).toNat) (coShift co k1 1))) 3) 40 k1 0)) fl ra li re wa pi) := cgD xs11 hD
    refine lv_aload_n hx hb dX0_add_70 rfl (lv_at hl 0 rfl) ?_
    refine lv_dup hx hb dX0_add_71 rfl ?_
    refine va_get (D := D) (ci := 0) (v := .int (gi ((lp (cpDn (gi (coShift co k1 1) 0)) (((gi (coShift co k1 1) 0).toInt - k1.toInt).toNat) (coShift co k1 1))) 0)) (C := RX0) (T := TX0) (N := 5) hx hb hg inGX0 hown hK hP 1 xo1 rfl 4 (by decide) (hg _ mw_352) (fun _ h9 => h9) (xvX0_4 (by simp only [gi_sl, gi_sA, gi_sB, gi_si_s, gi_si_n, gl_si, gl_sA, gl_sB, gl_sl_s, gl_sl_n, gA_si, gA_sl, gA_sB, gA_sA_s, gA_sA_n, gB_si, gB_sl, gB_sA, gB_sB_s, gB_sB_n, Nat.reduceBEq])) dX0_add_72 ?_
    refine lv_iconst (v := 1) hx hb dX0_add_75 (by decide) ?_
    refine lv_iadd hx hb dX0_add_76 ?_
    refine va_put (D := D) (ci := 0) (v := .int ((gi ((lp (cpDn (gi (coShift co k1 1) 0)) (((gi (coShift co k1 1) 0).toInt - k1.toInt).toNat) (coShift co k1 1))) 0) + 1)) (C := RX0) (T := TX0) (N := 5) hx hb hg inGX0 tyX0 tyX0_ok nmX0 hown hK hP hD hS 1 xo1 rfl 4 (by decide) (hg _ mw_352) (fun _ h9 => h9) rfl (tyX0_ok 4 (by decide)) rfl rfl (Nat.le_of_ble_eq_true rfl) dX0_add_77 (fun H locs hP hD hS => ?_)
    have hP : va_P D vwCl (XW ad cI cJ (si (sA (sA (sA (sA ((lp (cpDn (gi (coShift co k1 1) 0)) (((gi (coShift co k1 1) 0).toInt - k1.toInt).toNat) (coShift co k1 1))) 0 (wr (gA ((lp (cpDn (gi (coShift co k1 1) 0)) (((gi (coShift co k1 1) 0).toInt - k1.toInt).toNat) (coShift co k1 1))) 0) 40 k1 k2)) 1 (wr (gA ((lp (cpDn (gi (coShift co k1 1) 0)) (((gi (coShift co k1 1) 0).toInt - k1.toInt).toNat) (coShift co k1 1))) 1) 40 k1 k3)) 2 (wr (gA ((lp (cpDn (gi (coShift co k1 1) 0)) (((gi (coShift co k1 1) 0).toInt - k1.toInt).toNat) (coShift co k1 1))) 2) 40 k1 (-1))) 3 (wr (gA ((lp (cpDn (gi (coShift co k1 1) 0)) (((gi (coShift co k1 1) 0).toInt - k1.toInt).toNat) (coShift co k1 1))) 3) 40 k1 0)) 0 ((gi ((lp (cpDn (gi (coShift co k1 1) 0)) (((gi (coShift co k1 1) 0).toInt - k1.toInt).toNat) (coShift co k1 1))) 0) + 1)) fl ra li re wa pi) H := cgP xpX0_4 hP
    have hD : va_D A (XW ad cI cJ (si (sA (sA (sA (sA ((lp (cpDn (gi (coShift co k1 1) 0)) (((gi (coShift co k1 1) 0).toInt - k1.toInt).toNat) (coShift co k1 1))) 0 (wr (gA ((lp (cpDn (gi (coShift co k1 1) 0)) (((gi (coShift co k1 1) 0).toInt - k1.toInt).toNat) (coShift co k1 1))) 0) 40 k1 k2)) 1 (wr (gA ((lp (cpDn (gi (coShift co k1 1) 0)) (((gi (coShift co k1 1) 0).toInt - k1.toInt).toNat) (coShift co k1 1))) 1) 40 k1 k3)) 2 (wr (gA ((lp (cpDn (gi (coShift co k1 1) 0)) (((gi (coShift co k1 1) 0).toInt - k1.toInt).toNat) (coShift co k1 1))) 2) 40 k1 (-1))) 3 (wr (gA ((lp (cpDn (gi (coShift co k1 1) 0)) (((gi (coShift co k1 1) 0).toInt - k1.toInt).toNat) (coShift co k1 1))) 3) 40 k1 0)) 0 ((gi ((lp (cpDn (gi (coShift co k1 1) 0)) (((gi (coShift co k1 1) 0).toInt - k1.toInt).toNat) (coShift co k1 1))) 0) + 1)) fl ra li re wa pi) := cgD xpX0_4 hD
    exact W.vret hx hb hr (fun t ht hW => ⟨⟨(XW ad cI cJ (si (sA (sA (sA (sA ((lp (cpDn (gi (coShift co k1 1) 0)) (((gi (coShift co k1 1) 0).toInt - k1.toInt).toNat) (coShift co k1 1))) 0 (wr (gA ((lp (cpDn (gi (coShift co k1 1) 0)) (((gi (coShift co k1 1) 0).toInt - k1.toInt).toNat) (coShift co k1 1))) 0) 40 k1 k2)) 1 (wr (gA ((lp (cpDn (gi (coShift co k1 1) 0)) (((gi (coShift co k1 1) 0).toInt - k1.toInt).toNat) (coShift co k1 1))) 1) 40 k1 k3)) 2 (wr (gA ((lp (cpDn (gi (coShift co k1 1) 0)) (((gi (coShift co k1 1) 0).toInt - k1.toInt).toNat) (coShift co k1 1))) 2) 40 k1 (-1))) 3 (wr (gA ((lp (cpDn (gi (coShift co k1 1) 0)) (((gi (coShift co k1 1) 0).toInt - k1.toInt).toNat) (coShift co k1 1))) 3) 40 k1 0)) 0 ((gi ((lp (cpDn (gi (coShift co k1 1) 0)) (((gi (coShift co k1 1) 0).toInt - k1.toInt).toNat) (coShift co k1 1))) 0) + 1)) fl ra li re wa pi), rfl, xw_eq (show (si (sA (sA (sA (sA ((lp (cpDn (gi (coShift co k1 1) 0)) (((gi (coShift co k1 1) 0).toInt - k1.toInt).toNat) (coShift co k1 1))) 0 (wr (gA ((lp (cpDn (gi (coShift co k1 1) 0)) (((gi (coShift co k1 1) 0).toInt - k1.toInt).toNat) (coShift co k1 1))) 0) 40 k1 k2)) 1 (wr (gA ((lp (cpDn (gi (coShift co k1 1) 0)) (((gi (coShift co k1 1) 0).toInt - k1.toInt).toNat) (coShift co k1 1))) 1) 40 k1 k3)) 2 (wr (gA ((lp (cpDn (gi (coShift co k1 1) 0)) (((gi (coShift co k1 1) 0).toInt - k1.toInt).toNat) (coShift co k1 1))) 2) 40 k1 (-1))) 3 (wr (gA ((lp (cpDn (gi (coShift co k1 1) 0)) (((gi (coShift co k1 1) 0).toInt - k1.toInt).toNat) (coShift co k1 1))) 3) 40 k1 0)) 0 ((gi ((lp (cpDn (gi (coShift co k1 1) 0)) (((gi (coShift co k1 1) 0).toInt - k1.toInt).toNat) (coShift co k1 1))) 0) + 1)) = (coAdd co k1 k2 k3) from (by first | with_reducible rfl | (simp only [coAdd, coAddP, coAddL, gi_sl, gi_sA, gi_sB, gi_si_s, gi_si_n, gl_si, gl_sA, gl_sB, gl_sl_s, gl_sl_n, gA_si, gA_sl, gA_sB, gA_sA_s, gA_sA_n, gB_si, gB_sl, gB_sA, gB_sB_s, gB_sB_n, Nat.reduceBEq, if_true, if_false, eq_self, Bool.false_eq_true, Bool.true_eq_false, not_true_eq_false, not_false_eq_true, decide_true, decide_false, cond_true, cond_false, Bool.true_and, Bool.false_and, Bool.and_true, Bool.and_false, Bool.true_or, Bool.false_or, Bool.or_true, Bool.or_false, b2i_tt, b2i_ff, pr_eta]; done))) rfl rfl rfl rfl rfl rfl, ⟨by rw [ht]; exact hP, va_K.moved hW.alike hK, hD⟩⟩, hS.F ht⟩) hS.2.2 dX0_add_80
  · obtain ⟨h_2, hP, hD, hS, hl⟩ := hI
    have hP : va_P D vwCl (XW ad cI cJ p_2 fl ra li re wa pi) H := hP
    have hD : va_D A (XW ad cI cJ p_2 fl ra li re wa pi) := hD
    have hl : lv_has ls 5 [(0, .ref (ad 1)), (1, .int k1), (2, .int k2), (3, .int k3), (4, .int ((gi (coShift co k1 1) 0) - nI i_2))] := hl
    refine lv_iload hx hb dX0_add_12 (lv_at hl 4 rfl) ?_
    refine lv_iload_n hx hb dX0_add_14 rfl (lv_at hl 1 rfl) ?_
    refine lv_icmp_le (tgt := 34) hx hb dX0_add_15 (by decide) (fun c_15 => absurd c_15 (dx_in hi_2)) (fun _ => ?_)
    refine lv_aload_n hx hb dX0_add_18 rfl (lv_at hl 0 rfl) ?_
    refine lv_iload hx hb dX0_add_19 (lv_at hl 4 rfl) ?_
    refine lv_iconst (v := 1) hx hb dX0_add_21 (by decide) ?_
    refine lv_isub hx hb dX0_add_22 ?_
    refine lv_iload hx hb dX0_add_23 (lv_at hl 4 rfl) ?_
    refine kV (rV (q0 := 1) (ci := 0) hx hb hml hown hg hN hK hP hD (c_copy l D cI cJ ad p_2 fl ra li re wa pi (((gi (coShift co k1 1) 0) - nI i_2) - 1) ((gi (coShift co k1 1) 0) - nI i_2)) mw_363 mw_364 mw_365 mw_366 mw_362 pdv_X0_copy ⟨Nat.le_of_ble_eq_true rfl, Nat.le_of_ble_eq_true rfl⟩ rfl xo1 rfl hl.1 rfl (Nat.le_of_ble_eq_true rfl) dX0_add_25 ⟨Nat.le_of_ble_eq_true rfl, Nat.le_of_ble_eq_true rfl⟩) hD hS hA (fun u_7 H locs hp hP hD hS => ?_)
    obtain rfl := hp.symm
    have hP : va_P D vwCl (XW ad cI cJ (coCopy p_2 (((gi (coShift co k1 1) 0) - nI i_2) - 1) ((gi (coShift co k1 1) 0) - nI i_2)) fl ra li re wa pi) H := hP
    have hD : va_D A (XW ad cI cJ (coCopy p_2 (((gi (coShift co k1 1) 0) - nI i_2) - 1) ((gi (coShift co k1 1) 0) - nI i_2)) fl ra li re wa pi) := hD
    refine lv_iinc (v := ((gi (coShift co k1 1) 0) - nI (i_2 + 1))) (lv' := [(4, .int ((gi (coShift co k1 1) 0) - nI (i_2 + 1))), (0, .ref (ad 1)), (1, .int k1), (2, .int k2), (3, .int k3)]) hx hb dX0_add_28 hl (k := 4) rfl (sub_nI1 _ i_2) (by decide) rfl (fun ls hl => ?_)
    refine lv_goto (tgt := 12) hx hb dX0_add_31 (by decide) ?_
    exact ih_2 (coCopy p_2 (((gi (coShift co k1 1) 0) - nI i_2) - 1) ((gi (coShift co k1 1) 0) - nI i_2)) H locs ls ⟨((show (coCopy p_2 (((gi (coShift co k1 1) 0) - nI i_2) - 1) ((gi (coShift co k1 1) 0) - nI i_2)) = (cpDn (gi (coShift co k1 1) 0)) i_2 p_2 from (by first | with_reducible rfl | (simp only [cpDn, gi_sl, gi_sA, gi_sB, gi_si_s, gi_si_n, gl_si, gl_sA, gl_sB, gl_sl_s, gl_sl_n, gA_si, gA_sl, gA_sB, gA_sA_s, gA_sA_n, gB_si, gB_sl, gB_sA, gB_sB_s, gB_sB_n, Nat.reduceBEq, if_true, if_false, eq_self, Bool.false_eq_true, Bool.true_eq_false, not_true_eq_false, not_false_eq_true, decide_true, decide_false, cond_true, cond_false, Bool.true_and, Bool.false_and, Bool.and_true, Bool.and_false, Bool.true_or, Bool.false_or, Bool.or_true, Bool.or_false, b2i_tt, b2i_ff, pr_eta]; done))).trans (lp_go h_2)), hP, hD, hS, lv_sub hl [1, 2, 3, 4, 0] rfl⟩
