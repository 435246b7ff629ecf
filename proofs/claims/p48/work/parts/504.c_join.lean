theorem dX1_join_0 : decode cX1_join 0 = .ok (.iload_n 2, 1) := by decide +kernel
theorem dX1_join_1 : decode cX1_join 1 = .ok (.iload_n 3, 1) := by decide +kernel
theorem dX1_join_2 : decode cX1_join 2 = .ok (.if_icmp .ge 14, 3) := by decide +kernel
theorem dX1_join_5 : decode cX1_join 5 = .ok (.aload_n 0, 1) := by decide +kernel
theorem dX1_join_6 : decode cX1_join 6 = .ok (.getfield 9, 3) := by decide +kernel
theorem dX1_join_9 : decode cX1_join 9 = .ok (.iload_n 2, 1) := by decide +kernel
theorem dX1_join_10 : decode cX1_join 10 = .ok (.invokestatic 80, 3) := by decide +kernel
theorem dX1_join_13 : decode cX1_join 13 = .ok (.goto 5, 3) := by decide +kernel
theorem dX1_join_16 : decode cX1_join 16 = .ok (.bipush 40, 2) := by decide +kernel
theorem dX1_join_18 : decode cX1_join 18 = .ok (.istore 4, 2) := by decide +kernel
theorem dX1_join_20 : decode cX1_join 20 = .ok (.aload_n 0, 1) := by decide +kernel
theorem dX1_join_21 : decode cX1_join 21 = .ok (.getfield 30, 3) := by decide +kernel
theorem dX1_join_24 : decode cX1_join 24 = .ok (.iload_n 1, 1) := by decide +kernel
theorem dX1_join_25 : decode cX1_join 25 = .ok (.invokestatic 99, 3) := by decide +kernel
theorem dX1_join_28 : decode cX1_join 28 = .ok (.lstore 5, 2) := by decide +kernel
theorem dX1_join_30 : decode cX1_join 30 = .ok (.lload 5, 2) := by decide +kernel
theorem dX1_join_32 : decode cX1_join 32 = .ok (.iload 4, 2) := by decide +kernel
theorem dX1_join_34 : decode cX1_join 34 = .ok (.invokestatic 91, 3) := by decide +kernel
theorem dX1_join_37 : decode cX1_join 37 = .ok (.ifCond .eq 4, 3) := by decide +kernel
theorem dX1_join_40 : decode cX1_join 40 = .ok (.return_, 1) := by decide +kernel
theorem dX1_join_41 : decode cX1_join 41 = .ok (.aload_n 0, 1) := by decide +kernel
theorem dX1_join_42 : decode cX1_join 42 = .ok (.getfield 30, 3) := by decide +kernel
theorem dX1_join_45 : decode cX1_join 45 = .ok (.iload_n 1, 1) := by decide +kernel
theorem dX1_join_46 : decode cX1_join 46 = .ok (.lload 5, 2) := by decide +kernel
theorem dX1_join_48 : decode cX1_join 48 = .ok (.iload 4, 2) := by decide +kernel
theorem dX1_join_50 : decode cX1_join 50 = .ok (.invokestatic 65, 3) := by decide +kernel
theorem dX1_join_53 : decode cX1_join 53 = .ok (.lor, 1) := by decide +kernel
theorem dX1_join_54 : decode cX1_join 54 = .ok (.invokestatic 58, 3) := by decide +kernel
theorem dX1_join_57 : decode cX1_join 57 = .ok (.aload_n 0, 1) := by decide +kernel
theorem dX1_join_58 : decode cX1_join 58 = .ok (.getfield 21, 3) := by decide +kernel
theorem dX1_join_61 : decode cX1_join 61 = .ok (.aload_n 0, 1) := by decide +kernel
theorem dX1_join_62 : decode cX1_join 62 = .ok (.getfield 48, 3) := by decide +kernel
theorem dX1_join_65 : decode cX1_join 65 = .ok (.iload_n 1, 1) := by decide +kernel
theorem dX1_join_66 : decode cX1_join 66 = .ok (.invokestatic 54, 3) := by decide +kernel
theorem dX1_join_69 : decode cX1_join 69 = .ok (.aload_n 0, 1) := by decide +kernel
theorem dX1_join_70 : decode cX1_join 70 = .ok (.getfield 24, 3) := by decide +kernel
theorem dX1_join_73 : decode cX1_join 73 = .ok (.aload_n 0, 1) := by decide +kernel
theorem dX1_join_74 : decode cX1_join 74 = .ok (.getfield 48, 3) := by decide +kernel
theorem dX1_join_77 : decode cX1_join 77 = .ok (.iload 4, 2) := by decide +kernel
theorem dX1_join_79 : decode cX1_join 79 = .ok (.bipush 40, 2) := by decide +kernel
theorem dX1_join_81 : decode cX1_join 81 = .ok (.if_icmp .ne 7, 3) := by decide +kernel
theorem dX1_join_84 : decode cX1_join 84 = .ok (.iconst (-1), 1) := by decide +kernel
theorem dX1_join_85 : decode cX1_join 85 = .ok (.goto 5, 3) := by decide +kernel
theorem dX1_join_88 : decode cX1_join 88 = .ok (.iload 4, 2) := by decide +kernel
theorem dX1_join_90 : decode cX1_join 90 = .ok (.invokestatic 54, 3) := by decide +kernel
theorem dX1_join_93 : decode cX1_join 93 = .ok (.aload_n 0, 1) := by decide +kernel
theorem dX1_join_94 : decode cX1_join 94 = .ok (.dup, 1) := by decide +kernel
theorem dX1_join_95 : decode cX1_join 95 = .ok (.getfield 48, 3) := by decide +kernel
theorem dX1_join_98 : decode cX1_join 98 = .ok (.iconst 1, 1) := by decide +kernel
theorem dX1_join_99 : decode cX1_join 99 = .ok (.iadd, 1) := by decide +kernel
theorem dX1_join_100 : decode cX1_join 100 = .ok (.putfield 48, 3) := by decide +kernel
theorem dX1_join_103 : decode cX1_join 103 = .ok (.return_, 1) := by decide +kernel
theorem mw_96 : Cond.fieldLink RX1 30 "OrielChart$Flow" "next" "[J" ∈ GW := gw_mem (inT1 _ (List.mem_of_getElem? (i := 80) rfl)) rfl
theorem mw_97 : Cond.code yX7_put_ cX7_put_ 4 (none : Option FieldType) ∈ GW := gw_mem (inT2 _ (List.mem_of_getElem? (i := 125) rfl)) rfl
theorem mw_98 : Cond.static yX7_put_ ∈ GW := gw_mem (inT2 _ (List.mem_of_getElem? (i := 124) rfl)) rfl
theorem mw_99 : Cond.fieldLink RX1 21 "OrielChart$Flow" "from" "[I" ∈ GW := gw_mem (inT1 _ (List.mem_of_getElem? (i := 71) rfl)) rfl
theorem mw_100 : Cond.fieldLink RX1 48 "OrielChart$Flow" "edgeCount" "I" ∈ GW := gw_mem (inT1 _ (List.mem_of_getElem? (i := 90) rfl)) rfl
theorem mw_101 : Cond.fieldLink RX1 24 "OrielChart$Flow" "to" "[I" ∈ GW := gw_mem (inT1 _ (List.mem_of_getElem? (i := 74) rfl)) rfl
theorem pd_X7_put_ : yX7_put_.cls ≠ "java/lang/invoke/MethodHandle" ∧ yX7_put_.cls ≠ "java/lang/invoke/VarHandle" ∧ (parseMethodDescriptor yX7_put_.desc).map (fun d => d.parameters.length) = some 3 := by decide +kernel
set_option maxHeartbeats 4000000 in
set_option maxRecDepth 100000 in
theorem c_join (l : Launch) (D : va_G) (cI cJ : ClassId) (ad : Nat → Nat) (co fl ra li re wa pi : Ob) (k1 : Int32) (k2 : Int32) (k3 : Int32) : CT l D (TY cI cJ) yX1_join (.code yX1_join cX1_join 7 (none : Option FieldType)) 1 0 0 (XW ad cI cJ co fl ra li re wa pi) [.ref (ad 2), .int k1, .int k2, .int k3] (QV D (TY cI cJ) (fun u => u = (XW ad cI cJ co (join fl k1 k2 k3) ra li re wa pi))) := by
  refine ent (by decide) (Nat.le_of_ble_eq_true rfl) ?_
  intro p e s m below meth c ls A hx hb hr hg hown hml hlocks hnm hP hK hD hS hA hN hl
  have hl : lv_has ls 7 [(0, .ref (ad 2)), (1, .int k1), (2, .int k2), (3, .int k3)] := hl
  refine lv_iload_n hx hb dX1_join_0 rfl (lv_at hl 2 rfl) ?_
  refine lv_iload_n hx hb dX1_join_1 rfl (lv_at hl 3 rfl) ?_
  refine lv_icmp_ge (tgt := 16) hx hb dX1_join_2 (by decide) (fun c_2 => ?_) (fun c_2 => ?_)
  · have c_2 : ¬ k2 < k3 := i_ge c_2
    refine lv_bipush (v := 40) hx hb dX1_join_16 (by decide) ?_
    refine lv_istore (lv' := [(4, .int 40), (0, .ref (ad 2)), (1, .int k1), (2, .int k2), (3, .int k3)]) hx hb dX1_join_18 hl (by decide) rfl (fun ls hl => ?_)
    refine lv_aload_n hx hb dX1_join_20 rfl (lv_at hl 1 rfl) ?_
    refine va_get (D := D) (ci := 1) (v := .ref (ad 18)) (C := RX1) (T := TX1) (N := 11) hx hb hg inGX1 hown hK hP 2 xo2 rfl 6 (by decide) (hg _ mw_96) (fun _ h9 => h9) xvX1_6 dX1_join_21 ?_
    refine lv_iload_n hx hb dX1_join_24 rfl (lv_at hl 2 rfl) ?_
    refine kL (rSN hx hb hml hown hg hN hK hP hD (c_atL l D cI cJ (XW ad cI cJ co fl ra li re wa pi) 18 (ad 18) 40 (gB fl 0) k1 (xg18 rfl) (by decide)) mw_81 nw_71 mw_83 mw_77 pd_X7_at_ ⟨Nat.le_of_ble_eq_true rfl, Nat.le_of_ble_eq_true rfl⟩ rfl hl.1 rfl (Nat.le_of_ble_eq_true rfl) dX1_join_25 ⟨Nat.le_of_ble_eq_true rfl, Nat.le_of_ble_eq_true rfl⟩) hD hS hA (fun r_1 u_1 H locs hp hP hD hS => ?_)
    obtain ⟨er, eu⟩ := hp
    obtain rfl := er.symm
    obtain rfl := eu.symm
    refine lv_lstore (lv' := [(5, .long (rdL (gB fl 0) 40 k1)), (4, .int 40), (0, .ref (ad 2)), (1, .int k1), (2, .int k2), (3, .int k3)]) hx hb dX1_join_28 hl (by decide) rfl (fun ls hl => ?_)
    refine lv_lload hx hb dX1_join_30 (lv_at hl 0 rfl) ?_
    refine lv_iload hx hb dX1_join_32 (lv_at hl 1 rfl) ?_
    refine kI (rSN hx hb hml hown hg hN hK hP hD (c_has l D cI cJ (XW ad cI cJ co fl ra li re wa pi) (rdL (gB fl 0) 40 k1) 40) mw_89 nw_68 mw_90 mw_77 pd_X7_has ⟨Nat.le_of_ble_eq_true rfl, Nat.le_of_ble_eq_true rfl⟩ rfl hl.1 rfl (Nat.le_of_ble_eq_true rfl) dX1_join_34 ⟨Nat.le_of_ble_eq_true rfl, Nat.le_of_ble_eq_true rfl⟩) hD hS hA (fun r_2 u_2 H locs hp hP hD hS => ?_)
    obtain ⟨er, eu⟩ := hp
    obtain rfl := er.symm
    obtain rfl := eu.symm
    refine lv_if_eq (tgt := 41) hx hb dX1_join_37 (by decide) (fun c_37 => ?_) (fun c_37 => ?_)
    · have c_37 : ¬ (hs (rdL (gB fl 0) 40 k1) 40) = true := b2i_0 c_37
      refine lv_aload_n hx hb dX1_join_41 rfl (lv_at hl 2 rfl) ?_
      refine va_get (D := D) (ci := 1) (v := .ref (ad 18)) (C := RX1) (T := TX1) (N := 11) hx hb hg inGX1 hown hK hP 2 xo2 rfl 6 (by decide) (hg _ mw_96) (fun _ h9 => h9) xvX1_6 dX1_join_42 ?_
      refine lv_iload_n hx hb dX1_join_45 rfl (lv_at hl 3 rfl) ?_
      refine lv_lload hx hb dX1_join_46 (lv_at hl 0 rfl) ?_
      refine lv_iload hx hb dX1_join_48 (lv_at hl 1 rfl) ?_
      refine kL (rSN hx hb hml hown hg hN hK hP hD (c_bit l D cI cJ (XW ad cI cJ co fl ra li re wa pi) 40) mw_78 nw_66 mw_80 mw_77 pd_X7_bit ⟨Nat.le_of_ble_eq_true rfl, Nat.le_of_ble_eq_true rfl⟩ rfl hl.1 rfl (Nat.le_of_ble_eq_true rfl) dX1_join_50 ⟨Nat.le_of_ble_eq_true rfl, Nat.le_of_ble_eq_true rfl⟩) hD hS hA (fun r_3 u_3 H locs hp hP hD hS => ?_)
      obtain ⟨er, eu⟩ := hp
      obtain rfl := er.symm
      obtain rfl := eu.symm
      refine lv_lor hx hb dX1_join_53 ?_
      refine kV (rSN hx hb hml hown hg hN hK hP hD (c_putL l D cI cJ (XW ad cI cJ co fl ra li re wa pi) 18 (ad 18) 40 (gB fl 0) k1 ((rdL (gB fl 0) 40 k1) ||| (bitL 40)) (xg18 rfl) (by decide)) mw_97 nw_70 mw_98 mw_77 pd_X7_put_ ⟨Nat.le_of_ble_eq_true rfl, Nat.le_of_ble_eq_true rfl⟩ rfl hl.1 rfl (Nat.le_of_ble_eq_true rfl) dX1_join_54 ⟨Nat.le_of_ble_eq_true rfl, Nat.le_of_ble_eq_true rfl⟩) hD hS hA (fun u_4 H locs hp hP hD hS => ?_)
      obtain rfl := hp.symm
      have hP : va_P D vwCl (XW ad cI cJ co (sB fl 0 (wrL (gB fl 0) 40 k1 ((rdL (gB fl 0) 40 k1) ||| (bitL 40)))) ra li re wa pi) H := cgP xs18 hP
      have hD : va_D A (XW ad cI cJ co (sB fl 0 (wrL (gB fl 0) 40 k1 ((rdL (gB fl 0) 40 k1) ||| (bitL 40)))) ra li re wa pi) := cgD xs18 hD
      refine lv_aload_n hx hb dX1_join_57 rfl (lv_at hl 2 rfl) ?_
      refine va_get (D := D) (ci := 1) (v := .ref (ad 15)) (C := RX1) (T := TX1) (N := 11) hx hb hg inGX1 hown hK hP 2 xo2 rfl 3 (by decide) (hg _ mw_99) (fun _ h9 => h9) xvX1_3 dX1_join_58 ?_
      refine lv_aload_n hx hb dX1_join_61 rfl (lv_at hl 2 rfl) ?_
      refine va_get (D := D) (ci := 1) (v := .int (gi fl 1)) (C := RX1) (T := TX1) (N := 11) hx hb hg inGX1 hown hK hP 2 xo2 rfl 8 (by decide) (hg _ mw_100) (fun _ h9 => h9) (xvX1_8 (by simp only [gi_sl, gi_sA, gi_sB, gi_si_s, gi_si_n, gl_si, gl_sA, gl_sB, gl_sl_s, gl_sl_n, gA_si, gA_sl, gA_sB, gA_sA_s, gA_sA_n, gB_si, gB_sl, gB_sA, gB_sB_s, gB_sB_n, Nat.reduceBEq])) dX1_join_62 ?_
      refine lv_iload_n hx hb dX1_join_65 rfl (lv_at hl 3 rfl) ?_
      refine kV (rSN hx hb hml hown hg hN hK hP hD (c_put l D cI cJ (XW ad cI cJ co (sB fl 0 (wrL (gB fl 0) 40 k1 ((rdL (gB fl 0) 40 k1) ||| (bitL 40)))) ra li re wa pi) 15 (ad 15) 80 (gA fl 3) (gi fl 1) k1 (xg15 (by simp only [gi_sl, gi_sA, gi_sB, gi_si_s, gi_si_n, gl_si, gl_sA, gl_sB, gl_sl_s, gl_sl_n, gA_si, gA_sl, gA_sB, gA_sA_s, gA_sA_n, gB_si, gB_sl, gB_sA, gB_sB_s, gB_sB_n, Nat.reduceBEq])) (by decide)) mw_92 nw_69 mw_93 mw_77 pd_X7_put ⟨Nat.le_of_ble_eq_true rfl, Nat.le_of_ble_eq_true rfl⟩ rfl hl.1 rfl (Nat.le_of_ble_eq_true rfl) dX1_join_66 ⟨Nat.le_of_ble_eq_true rfl, Nat.le_of_ble_eq_true rfl⟩) hD hS hA (fun u_5 H locs hp hP hD hS => ?_)
      obtain rfl := hp.symm
      have hP : va_P D vwCl (XW ad cI cJ co (sA (sB fl 0 (wrL (gB fl 0) 40 k1 ((rdL (gB fl 0) 40 k1) ||| (bitL 40)))) 3 (wr (gA fl 3) 80 (gi fl 1) k1)) ra li re wa pi) H := cgP xs15 hP
      have hD : va_D A (XW ad cI cJ co (sA (sB fl 0 (wrL (gB fl 0) 40 k1 ((rdL (gB fl 0) 40 k1) ||| (bitL 40)))) 3 (wr (gA fl 3) 80 (gi fl 1) k1)) ra li re wa pi) := cgD xs15 hD
      refine lv_aload_n hx hb dX1_join_69 rfl (lv_at hl 2 rfl) ?_
      refine va_get (D := D) (ci := 1) (v := .ref (ad 16)) (C := RX1) (T := TX1) (N := 11) hx hb hg inGX1 hown hK hP 2 xo2 rfl 4 (by decide) (hg _ mw_101) (fun _ h9 => h9) xvX1_4 dX1_join_70 ?_
      refine lv_aload_n hx hb dX1_join_73 rfl (lv_at hl 2 rfl) ?_
      refine va_get (D := D) (ci := 1) (v := .int (gi fl 1)) (C := RX1) (T := TX1) (N := 11) hx hb hg inGX1 hown hK hP 2 xo2 rfl 8 (by decide) (hg _ mw_100) (fun _ h9 => h9) (xvX1_8 (by simp only [gi_sl, gi_sA, gi_sB, gi_si_s, gi_si_n, gl_si, gl_sA, gl_sB, gl_sl_s, gl_sl_n, gA_si, gA_sl, gA_sB, gA_sA_s, gA_sA_n, gB_si, gB_sl, gB_sA, gB_sB_s, gB_sB_n, Nat.reduceBEq])) dX1_join_74 ?_
      refine lv_iload hx hb dX1_join_77 (lv_at hl 1 rfl) ?_
      refine lv_bipush (v := 40) hx hb dX1_join_79 (by decide) ?_
      refine lv_icmp_ne (tgt := 88) hx hb dX1_join_81 (by decide) (fun c_81 => absurd (by decide) c_81) (fun _ => ?_)
      refine lv_iconst (v := (-1)) hx hb dX1_join_84 (by decide) ?_
      refine lv_goto (tgt := 90) hx hb dX1_join_85 (by decide) ?_
      refine kV (rSN hx hb hml hown hg hN hK hP hD (c_put l D cI cJ (XW ad cI cJ co (sA (sB fl 0 (wrL (gB fl 0) 40 k1 ((rdL (gB fl 0) 40 k1) ||| (bitL 40)))) 3 (wr (gA fl 3) 80 (gi fl 1) k1)) ra li re wa pi) 16 (ad 16) 80 (gA fl 4) (gi fl 1) (-1) (xg16 (by simp only [gi_sl, gi_sA, gi_sB, gi_si_s, gi_si_n, gl_si, gl_sA, gl_sB, gl_sl_s, gl_sl_n, gA_si, gA_sl, gA_sB, gA_sA_s, gA_sA_n, gB_si, gB_sl, gB_sA, gB_sB_s, gB_sB_n, Nat.reduceBEq])) (by decide)) mw_92 nw_69 mw_93 mw_77 pd_X7_put ⟨Nat.le_of_ble_eq_true rfl, Nat.le_of_ble_eq_true rfl⟩ rfl hl.1 rfl (Nat.le_of_ble_eq_true rfl) dX1_join_90 ⟨Nat.le_of_ble_eq_true rfl, Nat.le_of_ble_eq_true rfl⟩) hD hS hA (fun u_6 H locs hp hP hD hS => ?_)
      obtain rfl := hp.symm
      have hP : va_P D vwCl (XW ad cI cJ co (sA (sA (sB fl 0 (wrL (gB fl 0) 40 k1 ((rdL (gB fl 0) 40 k1) ||| (bitL 40)))) 3 (wr (gA fl 3) 80 (gi fl 1) k1)) 4 (wr (gA fl 4) 80 (gi fl 1) (-1))) ra li re wa pi) H := cgP xs16 hP
      have hD : va_D A (XW ad cI cJ co (sA (sA (sB fl 0 (wrL (gB fl 0) 40 k1 ((rdL (gB fl 0) 40 k1) ||| (bitL 40)))) 3 (wr (gA fl 3) 80 (gi fl 1) k1)) 4 (wr (gA fl 4) 80 (gi fl 1) (-1))) ra li re wa pi) := cgD xs16 hD
      refine lv_aload_n hx hb dX1_join_93 rfl (lv_at hl 2 rfl) ?_
      refine lv_dup hx hb dX1_join_94 rfl ?_
      refine va_get (D := D) (ci := 1) (v := .int (gi fl 1)) (C := RX1) (T := TX1) (N := 11) hx hb hg inGX1 hown hK hP 2 xo2 rfl 8 (by decide) (hg _ mw_100) (fun _ h9 => h9) (xvX1_8 (by simp only [gi_sl, gi_sA, gi_sB, gi_si_s, gi_si_n, gl_si, gl_sA, gl_sB, gl_sl_s, gl_sl_n, gA_si, gA_sl, gA_sB, gA_sA_s, gA_sA_n, gB_si, gB_sl, gB_sA, gB_sB_s, gB_sB_n, Nat.reduceBEq])) dX1_join_95 ?_
      refine lv_iconst (v := 1) hx hb dX1_join_98 (by decide) ?_
      refine lv_iadd hx hb dX1_join_99 ?_
      refine va_put (D := D) (ci := 1) (v := .int ((gi fl 1) + 1)) (C := RX1) (T := TX1) (N := 11) hx hb hg inGX1 tyX1 tyX1_ok nmX1 hown hK hP hD hS 2 xo2 rfl 8 (by decide) (hg _ mw_100) (fun _ h9 => h9) rfl (tyX1_ok 8 (by decide)) rfl rfl (Nat.le_of_ble_eq_true rfl) dX1_join_100 (fun H locs hP hD hS => ?_)
      have hP : va_P D vwCl (XW ad cI cJ co (si (sA (sA (sB fl 0 (wrL (gB fl 0) 40 k1 ((rdL (gB fl 0) 40 k1) ||| (bitL 40)))) 3 (wr (gA fl 3) 80 (gi fl 1) k1)) 4 (wr (gA fl 4) 80 (gi fl 1) (-1))) 1 ((gi fl 1) + 1)) ra li re wa pi) H := cgP xpX1_8 hP
      have hD : va_D A (XW ad cI cJ co (si (sA (sA (sB fl 0 (wrL (gB fl 0) 40 k1 ((rdL (gB fl 0) 40 k1) ||| (bitL 40)))) 3 (wr (gA fl 3) 80 (gi fl 1) k1)) 4 (wr (gA fl 4) 80 (gi fl 1) (-1))) 1 ((gi fl 1) + 1)) ra li re wa pi) := cgD xpX1_8 hD
      exact W.vret hx hb hr (fun t ht hW => ⟨⟨(XW ad cI cJ co (si (sA (sA (sB fl 0 (wrL (gB fl 0) 40 k1 ((rdL (gB fl 0) 40 k1) ||| (bitL 40)))) 3 (wr (gA fl 3) 80 (gi fl 1) k1)) 4 (wr (gA fl 4) 80 (gi fl 1) (-1))) 1 ((gi fl 1) + 1)) ra li re wa pi), rfl, xw_eq rfl (show (si (sA (sA (sB fl 0 (wrL (gB fl 0) 40 k1 ((rdL (gB fl 0) 40 k1) ||| (bitL 40)))) 3 (wr (gA fl 3) 80 (gi fl 1) k1)) 4 (wr (gA fl 4) 80 (gi fl 1) (-1))) 1 ((gi fl 1) + 1)) = (join fl k1 k2 k3) from (by simp only [join, joinG, joinP, eq_false c_2, bf_of c_37, gi_sl, gi_sA, gi_sB, gi_si_s, gi_si_n, gl_si, gl_sA, gl_sB, gl_sl_s, gl_sl_n, gA_si, gA_sl, gA_sB, gA_sA_s, gA_sA_n, gB_si, gB_sl, gB_sA, gB_sB_s, gB_sB_n, Nat.reduceBEq, if_true, if_false, eq_self, Bool.false_eq_true, Bool.true_eq_false, not_true_eq_false, not_false_eq_true, decide_true, decide_false, cond_true, cond_false, Bool.true_and, Bool.false_and, Bool.and_true, Bool.and_false, Bool.true_or, Bool.false_or, Bool.or_true, Bool.or_false, b2i_tt, b2i_ff, pr_eta]; done)) rfl rfl rfl rfl rfl, ⟨by rw [ht]; exact hP, va_K.moved hW.alike hK, hD⟩⟩, hS.F ht⟩) hS.2.2 dX1_join_103
    · have c_37 : (hs (rdL (gB fl 0) 40 k1) 40) = true := b2i_1 c_37
      exact W.vret hx hb hr (fun t ht hW => ⟨⟨(XW ad cI cJ co fl ra li re wa pi), rfl, xw_eq rfl (show fl = (join fl k1 k2 k3) from (by simp only [join, joinG, joinP, eq_false c_2, c_37, gi_sl, gi_sA, gi_sB, gi_si_s, gi_si_n, gl_si, gl_sA, gl_sB, gl_sl_s, gl_sl_n, gA_si, gA_sl, gA_sB, gA_sA_s, gA_sA_n, gB_si, gB_sl, gB_sA, gB_sB_s, gB_sB_n, Nat.reduceBEq, if_true, if_false, eq_self, Bool.false_eq_true, Bool.true_eq_false, not_true_eq_false, not_false_eq_true, decide_true, decide_false, cond_true, cond_false, Bool.true_and, Bool.false_and, Bool.and_true, Bool.and_false, Bool.true_or, Bool.false_or, Bool.or_true, Bool.or_false, b2i_tt, b2i_ff, pr_eta]; done)) rfl rfl rfl rfl rfl, ⟨by rw [ht]; exact hP, va_K.moved hW.alike hK, hD⟩⟩, hS.F ht⟩) hS.2.2 dX1_join_40
  · have c_2 : k2 < k3 := i_nge c_2
    refine lv_aload_n hx hb dX1_join_5 rfl (lv_at hl 0 rfl) ?_
    refine va_get (D := D) (ci := 1) (v := .ref (ad 12)) (C := RX1) (T := TX1) (N := 11) hx hb hg inGX1 hown hK hP 2 xo2 rfl 0 (by decide) (hg _ mw_91) (fun _ h9 => h9) xvX1_0 dX1_join_6 ?_
    refine lv_iload_n hx hb dX1_join_9 rfl (lv_at hl 2 rfl) ?_
    refine kI (rSN hx hb hml hown hg hN hK hP hD (c_at l D cI cJ (XW ad cI cJ co fl ra li re wa pi) 12 (ad 12) 40 (gA fl 0) k2 (xg12 rfl) (by decide)) mw_84 nw_65 mw_85 mw_77 pd_X7_at ⟨Nat.le_of_ble_eq_true rfl, Nat.le_of_ble_eq_true rfl⟩ rfl hl.1 rfl (Nat.le_of_ble_eq_true rfl) dX1_join_10 ⟨Nat.le_of_ble_eq_true rfl, Nat.le_of_ble_eq_true rfl⟩) hD hS hA (fun r_7 u_7 H locs hp hP hD hS => ?_)
    obtain ⟨er, eu⟩ := hp
    obtain rfl := er.symm
    obtain rfl := eu.symm
    refine lv_goto (tgt := 18) hx hb dX1_join_13 (by decide) ?_
    refine lv_istore (lv' := [(4, .int (rd (gA fl 0) 40 k2)), (0, .ref (ad 2)), (1, .int k1), (2, .int k2), (3, .int k3)]) hx hb dX1_join_18 hl (by decide) rfl (fun ls hl => ?_)
    refine lv_aload_n hx hb dX1_join_20 rfl (lv_at hl 1 rfl) ?_
    refine va_get (D := D) (ci := 1) (v := .ref (ad 18)) (C := RX1) (T := TX1) (N := 11) hx hb hg inGX1 hown hK hP 2 xo2 rfl 6 (by decide) (hg _ mw_96) (fun _ h9 => h9) xvX1_6 dX1_join_21 ?_
    refine lv_iload_n hx hb dX1_join_24 rfl (lv_at hl 2 rfl) ?_
    refine kL (rSN hx hb hml hown hg hN hK hP hD (c_atL l D cI cJ (XW ad cI cJ co fl ra li re wa pi) 18 (ad 18) 40 (gB fl 0) k1 (xg18 rfl) (by decide)) mw_81 nw_71 mw_83 mw_77 pd_X7_at_ ⟨Nat.le_of_ble_eq_true rfl, Nat.le_of_ble_eq_true rfl⟩ rfl hl.1 rfl (Nat.le_of_ble_eq_true rfl) dX1_join_25 ⟨Nat.le_of_ble_eq_true rfl, Nat.le_of_ble_eq_true rfl⟩) hD hS hA (fun r_8 u_8 H locs hp hP hD hS => ?_)
    obtain ⟨er, eu⟩ := hp
    obtain rfl := er.symm
    obtain rfl := eu.symm
    refine lv_lstore (lv' := [(5, .long (rdL (gB fl 0) 40 k1)), (4, .int (rd (gA fl 0) 40 k2)), (0, .ref (ad 2)), (1, .int k1), (2, .int k2), (3, .int k3)]) hx hb dX1_join_28 hl (by decide) rfl (fun ls hl => ?_)
    refine lv_lload hx hb dX1_join_30 (lv_at hl 0 rfl) ?_
    refine lv_iload hx hb dX1_join_32 (lv_at hl 1 rfl) ?_
    refine kI (rSN hx hb hml hown hg hN hK hP hD (c_has l D cI cJ (XW ad cI cJ co fl ra li re wa pi) (rdL (gB fl 0) 40 k1) (rd (gA fl 0) 40 k2)) mw_89 nw_68 mw_90 mw_77 pd_X7_has ⟨Nat.le_of_ble_eq_true rfl, Nat.le_of_ble_eq_true rfl⟩ rfl hl.1 rfl (Nat.le_of_ble_eq_true rfl) dX1_join_34 ⟨Nat.le_of_ble_eq_true rfl, Nat.le_of_ble_eq_true rfl⟩) hD hS hA (fun r_9 u_9 H locs hp hP hD hS => ?_)
    obtain ⟨er, eu⟩ := hp
    obtain rfl := er.symm
    obtain rfl := eu.symm
    refine lv_if_eq (tgt := 41) hx hb dX1_join_37 (by decide) (fun c_37 => ?_) (fun c_37 => ?_)
    · have c_37 : ¬ (hs (rdL (gB fl 0) 40 k1) (rd (gA fl 0) 40 k2)) = true := b2i_0 c_37
      refine lv_aload_n hx hb dX1_join_41 rfl (lv_at hl 2 rfl) ?_
      refine va_get (D := D) (ci := 1) (v := .ref (ad 18)) (C := RX1) (T := TX1) (N := 11) hx hb hg inGX1 hown hK hP 2 xo2 rfl 6 (by decide) (hg _ mw_96) (fun _ h9 => h9) xvX1_6 dX1_join_42 ?_
      refine lv_iload_n hx hb dX1_join_45 rfl (lv_at hl 3 rfl) ?_
      refine lv_lload hx hb dX1_join_46 (lv_at hl 0 rfl) ?_
      refine lv_iload hx hb dX1_join_48 (lv_at hl 1 rfl) ?_
      refine kL (rSN hx hb hml hown hg hN hK hP hD (c_bit l D cI cJ (XW ad cI cJ co fl ra li re wa pi) (rd (gA fl 0) 40 k2)) mw_78 nw_66 mw_80 mw_77 pd_X7_bit ⟨Nat.le_of_ble_eq_true rfl, Nat.le_of_ble_eq_true rfl⟩ rfl hl.1 rfl (Nat.le_of_ble_eq_true rfl) dX1_join_50 ⟨Nat.le_of_ble_eq_true rfl, Nat.le_of_ble_eq_true rfl⟩) hD hS hA (fun r_10 u_10 H locs hp hP hD hS => ?_)
      obtain ⟨er, eu⟩ := hp
      obtain rfl := er.symm
      obtain rfl := eu.symm
      refine lv_lor hx hb dX1_join_53 ?_
      refine kV (rSN hx hb hml hown hg hN hK hP hD (c_putL l D cI cJ (XW ad cI cJ co fl ra li re wa pi) 18 (ad 18) 40 (gB fl 0) k1 ((rdL (gB fl 0) 40 k1) ||| (bitL (rd (gA fl 0) 40 k2))) (xg18 rfl) (by decide)) mw_97 nw_70 mw_98 mw_77 pd_X7_put_ ⟨Nat.le_of_ble_eq_true rfl, Nat.le_of_ble_eq_true rfl⟩ rfl hl.1 rfl (Nat.le_of_ble_eq_true rfl) dX1_join_54 ⟨Nat.le_of_ble_eq_true rfl, Nat.le_of_ble_eq_true rfl⟩) hD hS hA (fun u_11 H locs hp hP hD hS => ?_)
      obtain rfl := hp.symm
      have hP : va_P D vwCl (XW ad cI cJ co (sB fl 0 (wrL (gB fl 0) 40 k1 ((rdL (gB fl 0) 40 k1) ||| (bitL (rd (gA fl 0) 40 k2))))) ra li re wa pi) H := cgP xs18 hP
      have hD : va_D A (XW ad cI cJ co (sB fl 0 (wrL (gB fl 0) 40 k1 ((rdL (gB fl 0) 40 k1) ||| (bitL (rd (gA fl 0) 40 k2))))) ra li re wa pi) := cgD xs18 hD
      refine lv_aload_n hx hb dX1_join_57 rfl (lv_at hl 2 rfl) ?_
      refine va_get (D := D) (ci := 1) (v := .ref (ad 15)) (C := RX1) (T := TX1) (N := 11) hx hb hg inGX1 hown hK hP 2 xo2 rfl 3 (by decide) (hg _ mw_99) (fun _ h9 => h9) xvX1_3 dX1_join_58 ?_
      refine lv_aload_n hx hb dX1_join_61 rfl (lv_at hl 2 rfl) ?_
      refine va_get (D := D) (ci := 1) (v := .int (gi fl 1)) (C := RX1) (T := TX1) (N := 11) hx hb hg inGX1 hown hK hP 2 xo2 rfl 8 (by decide) (hg _ mw_100) (fun _ h9 => h9) (xvX1_8 (by simp only [gi_sl, gi_sA, gi_sB, gi_si_s, gi_si_n, gl_si, gl_sA, gl_sB, gl_sl_s, gl_sl_n, gA_si, gA_sl, gA_sB, gA_sA_s, gA_sA_n, gB_si, gB_sl, gB_sA, gB_sB_s, gB_sB_n, Nat.reduceBEq])) dX1_join_62 ?_
      refine lv_iload_n hx hb dX1_join_65 rfl (lv_at hl 3 rfl) ?_
      refine kV (rSN hx hb hml hown hg hN hK hP hD (c_put l D cI cJ (XW ad cI cJ co (sB fl 0 (wrL (gB fl 0) 40 k1 ((rdL (gB fl 0) 40 k1) ||| (bitL (rd (gA fl 0) 40 k2))))) ra li re wa pi) 15 (ad 15) 80 (gA fl 3) (gi fl 1) k1 (xg15 (by simp only [gi_sl, gi_sA, gi_sB, gi_si_s, gi_si_n, gl_si, gl_sA, gl_sB, gl_sl_s, gl_sl_n, gA_si, gA_sl, gA_sB, gA_sA_s, gA_sA_n, gB_si, gB_sl, gB_sA, gB_sB_s, gB_sB_n, Nat.reduceBEq])) (by decide)) mw_92 nw_69 mw_93 mw_77 pd_X7_put ⟨Nat.le_of_ble_eq_true rfl, Nat.le_of_ble_eq_true rfl⟩ rfl hl.1 rfl (Nat.le_of_ble_eq_true rfl) dX1_join_66 ⟨Nat.le_of_ble_eq_true rfl, Nat.le_of_ble_eq_true rfl⟩) hD hS hA (fun u_12 H locs hp hP hD hS => ?_)
      obtain rfl := hp.symm
      have hP : va_P D vwCl (XW ad cI cJ co (sA (sB fl 0 (wrL (gB fl 0) 40 k1 ((rdL (gB fl 0) 40 k1) ||| (bitL (rd (gA fl 0) 40 k2))))) 3 (wr (gA fl 3) 80 (gi fl 1) k1)) ra li re wa pi) H := cgP xs15 hP
      have hD : va_D A (XW ad cI cJ co (sA (sB fl 0 (wrL (gB fl 0) 40 k1 ((rdL (gB fl 0) 40 k1) ||| (bitL (rd (gA fl 0) 40 k2))))) 3 (wr (gA fl 3) 80 (gi fl 1) k1)) ra li re wa pi) := cgD xs15 hD
      refine lv_aload_n hx hb dX1_join_69 rfl (lv_at hl 2 rfl) ?_
      refine va_get (D := D) (ci := 1) (v := .ref (ad 16)) (C := RX1) (T := TX1) (N := 11) hx hb hg inGX1 hown hK hP 2 xo2 rfl 4 (by decide) (hg _ mw_101) (fun _ h9 => h9) xvX1_4 dX1_join_70 ?_
      refine lv_aload_n hx hb dX1_join_73 rfl (lv_at hl 2 rfl) ?_
      refine va_get (D := D) (ci := 1) (v := .int (gi fl 1)) (C := RX1) (T := TX1) (N := 11) hx hb hg inGX1 hown hK hP 2 xo2 rfl 8 (by decide) (hg _ mw_100) (fun _ h9 => h9) (xvX1_8 (by simp only [gi_sl, gi_sA, gi_sB, gi_si_s, gi_si_n, gl_si, gl_sA, gl_sB, gl_sl_s, gl_sl_n, gA_si, gA_sl, gA_sB, gA_sA_s, gA_sA_n, gB_si, gB_sl, gB_sA, gB_sB_s, gB_sB_n, Nat.reduceBEq])) dX1_join_74 ?_
      refine lv_iload hx hb dX1_join_77 (lv_at hl 1 rfl) ?_
      refine lv_bipush (v := 40) hx hb dX1_join_79 (by decide) ?_
      refine lv_icmp_ne (tgt := 88) hx hb dX1_join_81 (by decide) (fun c_81 => ?_) (fun c_81 => ?_)
      · refine lv_iload hx hb dX1_join_88 (lv_at hl 1 rfl) ?_
        refine kV (rSN hx hb hml hown hg hN hK hP hD (c_put l D cI cJ (XW ad cI cJ co (sA (sB fl 0 (wrL (gB fl 0) 40 k1 ((rdL (gB fl 0) 40 k1) ||| (bitL (rd (gA fl 0) 40 k2))))) 3 (wr (gA fl 3) 80 (gi fl 1) k1)) ra li re wa pi) 16 (ad 16) 80 (gA fl 4) (gi fl 1) (rd (gA fl 0) 40 k2) (xg16 (by simp only [gi_sl, gi_sA, gi_sB, gi_si_s, gi_si_n, gl_si, gl_sA, gl_sB, gl_sl_s, gl_sl_n, gA_si, gA_sl, gA_sB, gA_sA_s, gA_sA_n, gB_si, gB_sl, gB_sA, gB_sB_s, gB_sB_n, Nat.reduceBEq])) (by decide)) mw_92 nw_69 mw_93 mw_77 pd_X7_put ⟨Nat.le_of_ble_eq_true rfl, Nat.le_of_ble_eq_true rfl⟩ rfl hl.1 rfl (Nat.le_of_ble_eq_true rfl) dX1_join_90 ⟨Nat.le_of_ble_eq_true rfl, Nat.le_of_ble_eq_true rfl⟩) hD hS hA (fun u_13 H locs hp hP hD hS => ?_)
        obtain rfl := hp.symm
        have hP : va_P D vwCl (XW ad cI cJ co (sA (sA (sB fl 0 (wrL (gB fl 0) 40 k1 ((rdL (gB fl 0) 40 k1) ||| (bitL (rd (gA fl 0) 40 k2))))) 3 (wr (gA fl 3) 80 (gi fl 1) k1)) 4 (wr (gA fl 4) 80 (gi fl 1) (rd (gA fl 0) 40 k2))) ra li re wa pi) H := cgP xs16 hP
        have hD : va_D A (XW ad cI cJ co (sA (sA (sB fl 0 (wrL (gB fl 0) 40 k1 ((rdL (gB fl 0) 40 k1) ||| (bitL (rd (gA fl 0) 40 k2))))) 3 (wr (gA fl 3) 80 (gi fl 1) k1)) 4 (wr (gA fl 4) 80 (gi fl 1) (rd (gA fl 0) 40 k2))) ra li re wa pi) := cgD xs16 hD
        refine lv_aload_n hx hb dX1_join_93 rfl (lv_at hl 2 rfl) ?_
        refine lv_dup hx hb dX1_join_94 rfl ?_
        refine va_get (D := D) (ci := 1) (v := .int (gi fl 1)) (C := RX1) (T := TX1) (N := 11) hx hb hg inGX1 hown hK hP 2 xo2 rfl 8 (by decide) (hg _ mw_100) (fun _ h9 => h9) (xvX1_8 (by simp only [gi_sl, gi_sA, gi_sB, gi_si_s, gi_si_n, gl_si, gl_sA, gl_sB, gl_sl_s, gl_sl_n, gA_si, gA_sl, gA_sB, gA_sA_s, gA_sA_n, gB_si, gB_sl, gB_sA, gB_sB_s, gB_sB_n, Nat.reduceBEq])) dX1_join_95 ?_
        refine lv_iconst (v := 1) hx hb dX1_join_98 (by decide) ?_
        refine lv_iadd hx hb dX1_join_99 ?_
        refine va_put (D := D) (ci := 1) (v := .int ((gi fl 1) + 1)) (C := RX1) (T := TX1) (N := 11) hx hb hg inGX1 tyX1 tyX1_ok nmX1 hown hK hP hD hS 2 xo2 rfl 8 (by decide) (hg _ mw_100) (fun _ h9 => h9) rfl (tyX1_ok 8 (by decide)) rfl rfl (Nat.le_of_ble_eq_true rfl) dX1_join_100 (fun H locs hP hD hS => ?_)
        have hP : va_P D vwCl (XW ad cI cJ co (si (sA (sA (sB fl 0 (wrL (gB fl 0) 40 k1 ((rdL (gB fl 0) 40 k1) ||| (bitL (rd (gA fl 0) 40 k2))))) 3 (wr (gA fl 3) 80 (gi fl 1) k1)) 4 (wr (gA fl 4) 80 (gi fl 1) (rd (gA fl 0) 40 k2))) 1 ((gi fl 1) + 1)) ra li re wa pi) H := cgP xpX1_8 hP
        have hD : va_D A (XW ad cI cJ co (si (sA (sA (sB fl 0 (wrL (gB fl 0) 40 k1 ((rdL (gB fl 0) 40 k1) ||| (bitL (rd (gA fl 0) 40 k2))))) 3 (wr (gA fl 3) 80 (gi fl 1) k1)) 4 (wr (gA fl 4) 80 (gi fl 1) (rd (gA fl 0) 40 k2))) 1 ((gi fl 1) + 1)) ra li re wa pi) := cgD xpX1_8 hD
        exact W.vret hx hb hr (fun t ht hW => ⟨⟨(XW ad cI cJ co (si (sA (sA (sB fl 0 (wrL (gB fl 0) 40 k1 ((rdL (gB fl 0) 40 k1) ||| (bitL (rd (gA fl 0) 40 k2))))) 3 (wr (gA fl 3) 80 (gi fl 1) k1)) 4 (wr (gA fl 4) 80 (gi fl 1) (rd (gA fl 0) 40 k2))) 1 ((gi fl 1) + 1)) ra li re wa pi), rfl, xw_eq rfl (show (si (sA (sA (sB fl 0 (wrL (gB fl 0) 40 k1 ((rdL (gB fl 0) 40 k1) ||| (bitL (rd (gA fl 0) 40 k2))))) 3 (wr (gA fl 3) 80 (gi fl 1) k1)) 4 (wr (gA fl 4) 80 (gi fl 1) (rd (gA fl 0) 40 k2))) 1 ((gi fl 1) + 1)) = (join fl k1 k2 k3) from (by simp only [join, joinG, joinP, eq_true c_2, bf_of c_37, eq_false c_81, gi_sl, gi_sA, gi_sB, gi_si_s, gi_si_n, gl_si, gl_sA, gl_sB, gl_sl_s, gl_sl_n, gA_si, gA_sl, gA_sB, gA_sA_s, gA_sA_n, gB_si, gB_sl, gB_sA, gB_sB_s, gB_sB_n, Nat.reduceBEq, if_true, if_false, eq_self, Bool.false_eq_true, Bool.true_eq_false, not_true_eq_false, not_false_eq_true, decide_true, decide_false, cond_true, cond_false, Bool.true_and, Bool.false_and, Bool.and_true, Bool.and_false, Bool.true_or, Bool.false_or, Bool.or_true, Bool.or_false, b2i_tt, b2i_ff, pr_eta]; done)) rfl rfl rfl rfl rfl, ⟨by rw [ht]; exact hP, va_K.moved hW.alike hK, hD⟩⟩, hS.F ht⟩) hS.2.2 dX1_join_103
      · refine lv_iconst (v := (-1)) hx hb dX1_join_84 (by decide) ?_
        refine lv_goto (tgt := 90) hx hb dX1_join_85 (by decide) ?_
        refine kV (rSN hx hb hml hown hg hN hK hP hD (c_put l D cI cJ (XW ad cI cJ co (sA (sB fl 0 (wrL (gB fl 0) 40 k1 ((rdL (gB fl 0) 40 k1) ||| (bitL (rd (gA fl 0) 40 k2))))) 3 (wr (gA fl 3) 80 (gi fl 1) k1)) ra li re wa pi) 16 (ad 16) 80 (gA fl 4) (gi fl 1) (-1) (xg16 (by simp only [gi_sl, gi_sA, gi_sB, gi_si_s, gi_si_n, gl_si, gl_sA, gl_sB, gl_sl_s, gl_sl_n, gA_si, gA_sl, gA_sB, gA_sA_s, gA_sA_n, gB_si, gB_sl, gB_sA, gB_sB_s, gB_sB_n, Nat.reduceBEq])) (by decide)) mw_92 nw_69 mw_93 mw_77 pd_X7_put ⟨Nat.le_of_ble_eq_true rfl, Nat.le_of_ble_eq_true rfl⟩ rfl hl.1 rfl (Nat.le_of_ble_eq_true rfl) dX1_join_90 ⟨Nat.le_of_ble_eq_true rfl, Nat.le_of_ble_eq_true rfl⟩) hD hS hA (fun u_14 H locs hp hP hD hS => ?_)
        obtain rfl := hp.symm
        have hP : va_P D vwCl (XW ad cI cJ co (sA (sA (sB fl 0 (wrL (gB fl 0) 40 k1 ((rdL (gB fl 0) 40 k1) ||| (bitL (rd (gA fl 0) 40 k2))))) 3 (wr (gA fl 3) 80 (gi fl 1) k1)) 4 (wr (gA fl 4) 80 (gi fl 1) (-1))) ra li re wa pi) H := cgP xs16 hP
        have hD : va_D A (XW ad cI cJ co (sA (sA (sB fl 0 (wrL (gB fl 0) 40 k1 ((rdL (gB fl 0) 40 k1) ||| (bitL (rd (gA fl 0) 40 k2))))) 3 (wr (gA fl 3) 80 (gi fl 1) k1)) 4 (wr (gA fl 4) 80 (gi fl 1) (-1))) ra li re wa pi) := cgD xs16 hD
        refine lv_aload_n hx hb dX1_join_93 rfl (lv_at hl 2 rfl) ?_
        refine lv_dup hx hb dX1_join_94 rfl ?_
        refine va_get (D := D) (ci := 1) (v := .int (gi fl 1)) (C := RX1) (T := TX1) (N := 11) hx hb hg inGX1 hown hK hP 2 xo2 rfl 8 (by decide) (hg _ mw_100) (fun _ h9 => h9) (xvX1_8 (by simp only [gi_sl, gi_sA, gi_sB, gi_si_s, gi_si_n, gl_si, gl_sA, gl_sB, gl_sl_s, gl_sl_n, gA_si, gA_sl, gA_sB, gA_sA_s, gA_sA_n, gB_si, gB_sl, gB_sA, gB_sB_s, gB_sB_n, Nat.reduceBEq])) dX1_join_95 ?_
        refine lv_iconst (v := 1) hx hb dX1_join_98 (by decide) ?_
        refine lv_iadd hx hb dX1_join_99 ?_
        refine va_put (D := D) (ci := 1) (v := .int ((gi fl 1) + 1)) (C := RX1) (T := TX1) (N := 11) hx hb hg inGX1 tyX1 tyX1_ok nmX1 hown hK hP hD hS 2 xo2 rfl 8 (by decide) (hg _ mw_100) (fun _ h9 => h9) rfl (tyX1_ok 8 (by decide)) rfl rfl (Nat.le_of_ble_eq_true rfl) dX1_join_100 (fun H locs hP hD hS => ?_)
        have hP : va_P D vwCl (XW ad cI cJ co (si (sA (sA (sB fl 0 (wrL (gB fl 0) 40 k1 ((rdL (gB fl 0) 40 k1) ||| (bitL (rd (gA fl 0) 40 k2))))) 3 (wr (gA fl 3) 80 (gi fl 1) k1)) 4 (wr (gA fl 4) 80 (gi fl 1) (-1))) 1 ((gi fl 1) + 1)) ra li re wa pi) H := cgP xpX1_8 hP
        have hD : va_D A (XW ad cI cJ co (si (sA (sA (sB fl 0 (wrL (gB fl 0) 40 k1 ((rdL (gB fl 0) 40 k1) ||| (bitL (rd (gA fl 0) 40 k2))))) 3 (wr (gA fl 3) 80 (gi fl 1) k1)) 4 (wr (gA fl 4) 80 (gi fl 1) (-1))) 1 ((gi fl 1) + 1)) ra li re wa pi) := cgD xpX1_8 hD
        exact W.vret hx hb hr (fun t ht hW => ⟨⟨(XW ad cI cJ co (si (sA (sA (sB fl 0 (wrL (gB fl 0) 40 k1 ((rdL (gB fl 0) 40 k1) ||| (bitL (rd (gA fl 0) 40 k2))))) 3 (wr (gA fl 3) 80 (gi fl 1) k1)) 4 (wr (gA fl 4) 80 (gi fl 1) (-1))) 1 ((gi fl 1) + 1)) ra li re wa pi), rfl, xw_eq rfl (show (si (sA (sA (sB fl 0 (wrL (gB fl 0) 40 k1 ((rdL (gB fl 0) 40 k1) ||| (bitL (rd (gA fl 0) 40 k2))))) 3 (wr (gA fl 3) 80 (gi fl 1) k1)) 4 (wr (gA fl 4) 80 (gi fl 1) (-1))) 1 ((gi fl 1) + 1)) = (join fl k1 k2 k3) from (by simp only [join, joinG, joinP, eq_true c_2, bf_of c_37, eq_true c_81, gi_sl, gi_sA, gi_sB, gi_si_s, gi_si_n, gl_si, gl_sA, gl_sB, gl_sl_s, gl_sl_n, gA_si, gA_sl, gA_sB, gA_sA_s, gA_sA_n, gB_si, gB_sl, gB_sA, gB_sB_s, gB_sB_n, Nat.reduceBEq, if_true, if_false, eq_self, Bool.false_eq_true, Bool.true_eq_false, not_true_eq_false, not_false_eq_true, decide_true, decide_false, cond_true, cond_false, Bool.true_and, Bool.false_and, Bool.and_true, Bool.and_false, Bool.true_or, Bool.false_or, Bool.or_true, Bool.or_false, b2i_tt, b2i_ff, pr_eta]; done)) rfl rfl rfl rfl rfl, ⟨by rw [ht]; exact hP, va_K.moved hW.alike hK, hD⟩⟩, hS.F ht⟩) hS.2.2 dX1_join_103
    · have c_37 : (hs (rdL (gB fl 0) 40 k1) (rd (gA fl 0) 40 k2)) = true := b2i_1 c_37
      exact W.vret hx hb hr (fun t ht hW => ⟨⟨(XW ad cI cJ co fl ra li re wa pi), rfl, xw_eq rfl (show fl = (join fl k1 k2 k3) from (by simp only [join, joinG, joinP, eq_true c_2, c_37, gi_sl, gi_sA, gi_sB, gi_si_s, gi_si_n, gl_si, gl_sA, gl_sB, gl_sl_s, gl_sl_n, gA_si, gA_sl, gA_sB, gA_sA_s, gA_sA_n, gB_si, gB_sl, gB_sA, gB_sB_s, gB_sB_n, Nat.reduceBEq, if_true, if_false, eq_self, Bool.false_eq_true, Bool.true_eq_false, not_true_eq_false, not_false_eq_true, decide_true, decide_false, cond_true, cond_false, Bool.true_and, Bool.false_and, Bool.and_true, Bool.and_false, Bool.true_or, Bool.false_or, Bool.or_true, Bool.or_false, b2i_tt, b2i_ff, pr_eta]; done)) rfl rfl rfl rfl rfl, ⟨by rw [ht]; exact hP, va_K.moved hW.alike hK, hD⟩⟩, hS.F ht⟩) hS.2.2 dX1_join_40
