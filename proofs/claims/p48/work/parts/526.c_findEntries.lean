theorem dX5_findEntries_0 : decode cX5_findEntries 0 = .ok (.lconst 0, 1) := by decide +kernel
theorem dX5_findEntries_1 : decode cX5_findEntries 1 = .ok (.lstore_n 1, 1) := by decide +kernel
theorem dX5_findEntries_2 : decode cX5_findEntries 2 = .ok (.bipush 40, 2) := by decide +kernel
theorem dX5_findEntries_4 : decode cX5_findEntries 4 = .ok (.invokestatic 72, 3) := by decide +kernel
theorem dX5_findEntries_7 : decode cX5_findEntries 7 = .ok (.lconst 1, 1) := by decide +kernel
theorem dX5_findEntries_8 : decode cX5_findEntries 8 = .ok (.lor, 1) := by decide +kernel
theorem dX5_findEntries_9 : decode cX5_findEntries 9 = .ok (.lstore_n 3, 1) := by decide +kernel
theorem dX5_findEntries_10 : decode cX5_findEntries 10 = .ok (.iconst 0, 1) := by decide +kernel
theorem dX5_findEntries_11 : decode cX5_findEntries 11 = .ok (.istore 5, 2) := by decide +kernel
theorem dX5_findEntries_13 : decode cX5_findEntries 13 = .ok (.iload 5, 2) := by decide +kernel
theorem dX5_findEntries_15 : decode cX5_findEntries 15 = .ok (.bipush 40, 2) := by decide +kernel
theorem dX5_findEntries_17 : decode cX5_findEntries 17 = .ok (.if_icmp .ge 32, 3) := by decide +kernel
theorem dX5_findEntries_20 : decode cX5_findEntries 20 = .ok (.aload_n 0, 1) := by decide +kernel
theorem dX5_findEntries_21 : decode cX5_findEntries 21 = .ok (.getfield 9, 3) := by decide +kernel
theorem dX5_findEntries_24 : decode cX5_findEntries 24 = .ok (.iload 5, 2) := by decide +kernel
theorem dX5_findEntries_26 : decode cX5_findEntries 26 = .ok (.invokestatic 46, 3) := by decide +kernel
theorem dX5_findEntries_29 : decode cX5_findEntries 29 = .ok (.lstore 6, 2) := by decide +kernel
theorem dX5_findEntries_31 : decode cX5_findEntries 31 = .ok (.lload_n 3, 1) := by decide +kernel
theorem dX5_findEntries_32 : decode cX5_findEntries 32 = .ok (.lload_n 1, 1) := by decide +kernel
theorem dX5_findEntries_33 : decode cX5_findEntries 33 = .ok (.lload 6, 2) := by decide +kernel
theorem dX5_findEntries_35 : decode cX5_findEntries 35 = .ok (.land, 1) := by decide +kernel
theorem dX5_findEntries_36 : decode cX5_findEntries 36 = .ok (.lor, 1) := by decide +kernel
theorem dX5_findEntries_37 : decode cX5_findEntries 37 = .ok (.lstore_n 3, 1) := by decide +kernel
theorem dX5_findEntries_38 : decode cX5_findEntries 38 = .ok (.lload_n 1, 1) := by decide +kernel
theorem dX5_findEntries_39 : decode cX5_findEntries 39 = .ok (.lload 6, 2) := by decide +kernel
theorem dX5_findEntries_41 : decode cX5_findEntries 41 = .ok (.lor, 1) := by decide +kernel
theorem dX5_findEntries_42 : decode cX5_findEntries 42 = .ok (.lstore_n 1, 1) := by decide +kernel
theorem dX5_findEntries_43 : decode cX5_findEntries 43 = .ok (.iinc 5 1, 3) := by decide +kernel
theorem dX5_findEntries_46 : decode cX5_findEntries 46 = .ok (.goto (-33), 3) := by decide +kernel
theorem dX5_findEntries_49 : decode cX5_findEntries 49 = .ok (.lload_n 1, 1) := by decide +kernel
theorem dX5_findEntries_50 : decode cX5_findEntries 50 = .ok (.lload_n 3, 1) := by decide +kernel
theorem dX5_findEntries_51 : decode cX5_findEntries 51 = .ok (.ldc2_w 76, 3) := by decide +kernel
theorem dX5_findEntries_54 : decode cX5_findEntries 54 = .ok (.lxor, 1) := by decide +kernel
theorem dX5_findEntries_55 : decode cX5_findEntries 55 = .ok (.land, 1) := by decide +kernel
theorem dX5_findEntries_56 : decode cX5_findEntries 56 = .ok (.lstore 5, 2) := by decide +kernel
theorem dX5_findEntries_58 : decode cX5_findEntries 58 = .ok (.iconst 0, 1) := by decide +kernel
theorem dX5_findEntries_59 : decode cX5_findEntries 59 = .ok (.istore 7, 2) := by decide +kernel
theorem dX5_findEntries_61 : decode cX5_findEntries 61 = .ok (.iload 7, 2) := by decide +kernel
theorem dX5_findEntries_63 : decode cX5_findEntries 63 = .ok (.bipush 40, 2) := by decide +kernel
theorem dX5_findEntries_65 : decode cX5_findEntries 65 = .ok (.if_icmp .gt 19, 3) := by decide +kernel
theorem dX5_findEntries_68 : decode cX5_findEntries 68 = .ok (.aload_n 0, 1) := by decide +kernel
theorem dX5_findEntries_69 : decode cX5_findEntries 69 = .ok (.getfield 25, 3) := by decide +kernel
theorem dX5_findEntries_72 : decode cX5_findEntries 72 = .ok (.iload 7, 2) := by decide +kernel
theorem dX5_findEntries_74 : decode cX5_findEntries 74 = .ok (.iconst (-1), 1) := by decide +kernel
theorem dX5_findEntries_75 : decode cX5_findEntries 75 = .ok (.invokestatic 54, 3) := by decide +kernel
theorem dX5_findEntries_78 : decode cX5_findEntries 78 = .ok (.iinc 7 1, 3) := by decide +kernel
theorem dX5_findEntries_81 : decode cX5_findEntries 81 = .ok (.goto (-20), 3) := by decide +kernel
theorem dX5_findEntries_84 : decode cX5_findEntries 84 = .ok (.iconst 0, 1) := by decide +kernel
theorem dX5_findEntries_85 : decode cX5_findEntries 85 = .ok (.istore 7, 2) := by decide +kernel
theorem dX5_findEntries_87 : decode cX5_findEntries 87 = .ok (.iload 7, 2) := by decide +kernel
theorem dX5_findEntries_89 : decode cX5_findEntries 89 = .ok (.bipush 40, 2) := by decide +kernel
theorem dX5_findEntries_91 : decode cX5_findEntries 91 = .ok (.if_icmp .ge 67, 3) := by decide +kernel
theorem dX5_findEntries_94 : decode cX5_findEntries 94 = .ok (.aload_n 0, 1) := by decide +kernel
theorem dX5_findEntries_95 : decode cX5_findEntries 95 = .ok (.getfield 9, 3) := by decide +kernel
theorem dX5_findEntries_98 : decode cX5_findEntries 98 = .ok (.iload 7, 2) := by decide +kernel
theorem dX5_findEntries_100 : decode cX5_findEntries 100 = .ok (.invokestatic 46, 3) := by decide +kernel
theorem dX5_findEntries_103 : decode cX5_findEntries 103 = .ok (.lload 5, 2) := by decide +kernel
theorem dX5_findEntries_105 : decode cX5_findEntries 105 = .ok (.land, 1) := by decide +kernel
theorem dX5_findEntries_106 : decode cX5_findEntries 106 = .ok (.lstore 8, 2) := by decide +kernel
theorem dX5_findEntries_108 : decode cX5_findEntries 108 = .ok (.iconst 0, 1) := by decide +kernel
theorem dX5_findEntries_109 : decode cX5_findEntries 109 = .ok (.istore 10, 2) := by decide +kernel
theorem dX5_findEntries_111 : decode cX5_findEntries 111 = .ok (.iload 10, 2) := by decide +kernel
theorem dX5_findEntries_113 : decode cX5_findEntries 113 = .ok (.bipush 40, 2) := by decide +kernel
theorem dX5_findEntries_115 : decode cX5_findEntries 115 = .ok (.if_icmp .ge 37, 3) := by decide +kernel
theorem dX5_findEntries_118 : decode cX5_findEntries 118 = .ok (.lload 8, 2) := by decide +kernel
theorem dX5_findEntries_120 : decode cX5_findEntries 120 = .ok (.lconst 0, 1) := by decide +kernel
theorem dX5_findEntries_121 : decode cX5_findEntries 121 = .ok (.lcmp, 1) := by decide +kernel
theorem dX5_findEntries_122 : decode cX5_findEntries 122 = .ok (.ifCond .eq 30, 3) := by decide +kernel
theorem dX5_findEntries_125 : decode cX5_findEntries 125 = .ok (.lload 8, 2) := by decide +kernel
theorem dX5_findEntries_127 : decode cX5_findEntries 127 = .ok (.iload 10, 2) := by decide +kernel
theorem dX5_findEntries_129 : decode cX5_findEntries 129 = .ok (.invokestatic 41, 3) := by decide +kernel
theorem dX5_findEntries_132 : decode cX5_findEntries 132 = .ok (.ifCond .eq 14, 3) := by decide +kernel
theorem dX5_findEntries_135 : decode cX5_findEntries 135 = .ok (.aload_n 0, 1) := by decide +kernel
theorem dX5_findEntries_136 : decode cX5_findEntries 136 = .ok (.getfield 25, 3) := by decide +kernel
theorem dX5_findEntries_139 : decode cX5_findEntries 139 = .ok (.iload 10, 2) := by decide +kernel
theorem dX5_findEntries_141 : decode cX5_findEntries 141 = .ok (.iload 7, 2) := by decide +kernel
theorem dX5_findEntries_143 : decode cX5_findEntries 143 = .ok (.invokestatic 54, 3) := by decide +kernel
theorem dX5_findEntries_146 : decode cX5_findEntries 146 = .ok (.iinc 10 1, 3) := by decide +kernel
theorem dX5_findEntries_149 : decode cX5_findEntries 149 = .ok (.goto (-38), 3) := by decide +kernel
theorem dX5_findEntries_152 : decode cX5_findEntries 152 = .ok (.iinc 7 1, 3) := by decide +kernel
theorem dX5_findEntries_155 : decode cX5_findEntries 155 = .ok (.goto (-68), 3) := by decide +kernel
theorem dX5_findEntries_158 : decode cX5_findEntries 158 = .ok (.return_, 1) := by decide +kernel
set_option maxHeartbeats 4000000 in
set_option maxRecDepth 100000 in
theorem c_findEntries (l : Launch) (D : va_G) (cI cJ : ClassId) (ad : Nat → Nat) (co fl ra li re wa pi : Ob) : CT l D (TY cI cJ) yX5_findEntries (.code yX5_findEntries cX5_findEntries 11 (none : Option FieldType)) 1 0 0 (XW ad cI cJ co fl ra li re wa pi) [.ref (ad 5)] (QV D (TY cI cJ) (fun u => u = (XW ad cI cJ co fl ra li (findEntries re) wa pi))) := by
  refine ent (by decide) (Nat.le_of_ble_eq_true rfl) ?_
  intro p e s m below meth c ls A hx hb hr hg hown hml hlocks hnm hP hK hD hS hA hN hl
  have hl : lv_has ls 11 [(0, .ref (ad 5))] := hl
  refine lv_lconst (v := 0) hx hb dX5_findEntries_0 (by decide) ?_
  refine lv_lstore_n (lv' := [(1, .long 0), (0, .ref (ad 5))]) hx hb dX5_findEntries_1 rfl hl (by decide) rfl (fun ls hl => ?_)
  refine lv_bipush (v := 40) hx hb dX5_findEntries_2 (by decide) ?_
  refine kL (rSN hx hb hml hown hg hN hK hP hD (c_bit l D cI cJ (XW ad cI cJ co fl ra li re wa pi) 40) mw_78 nw_87 mw_80 mw_77 pd_X7_bit ⟨Nat.le_of_ble_eq_true rfl, Nat.le_of_ble_eq_true rfl⟩ rfl hl.1 rfl (Nat.le_of_ble_eq_true rfl) dX5_findEntries_4 ⟨Nat.le_of_ble_eq_true rfl, Nat.le_of_ble_eq_true rfl⟩) hD hS hA (fun r_1 u_1 H locs hp hP hD hS => ?_)
  obtain ⟨er, eu⟩ := hp
  obtain rfl := er.symm
  obtain rfl := eu.symm
  refine lv_lconst (v := 1) hx hb dX5_findEntries_7 (by decide) ?_
  refine lv_lor hx hb dX5_findEntries_8 ?_
  refine lv_lstore_n (lv' := [(3, .long ((bitL 40) ||| 1)), (1, .long 0), (0, .ref (ad 5))]) hx hb dX5_findEntries_9 rfl hl (by decide) rfl (fun ls hl => ?_)
  refine lv_iconst (v := 0) hx hb dX5_findEntries_10 (by decide) ?_
  refine lv_istore (lv' := [(5, .int 0), (3, .long ((bitL 40) ||| 1)), (1, .long 0), (0, .ref (ad 5))]) hx hb dX5_findEntries_11 hl (by decide) rfl (fun ls hl => ?_)
  refine w_loop (σ := Int64 × Int64) (fun (i_2 : Nat) (p_2 : Int64 × Int64) (H : Heap) (locs : List Loc) (ls : Array Slot) => p_2 = (lp (feA re) i_2 (0, ((bitL 40) ||| 1))) ∧ va_P D vwCl (XW ad cI cJ co fl ra li re wa pi) H ∧ va_D A (XW ad cI cJ co fl ra li re wa pi) ∧ va_S A s.heap H locs ∧ lv_has ls 11 [(0, .ref (ad 5)), (1, .long p_2.1), (3, .long p_2.2), (5, .int (nI i_2))]) (40) (fun p_2 H locs ls hI => ?_) (fun i_2 p_2 H locs ls hi_2 hI ih_2 => ?_) 0 (0, ((bitL 40) ||| 1)) (Nat.zero_le _) ⟨(lp_0 _ _), hP, hD, hS, (by rw [nI_0]; exact lv_sub hl [3, 2, 1, 0] rfl)⟩
  · obtain ⟨h_2, hP, hD, hS, hl⟩ := hI
    have h_2 := h_2.symm
    subst h_2
    have hP : va_P D vwCl (XW ad cI cJ co fl ra li re wa pi) H := hP
    have hD : va_D A (XW ad cI cJ co fl ra li re wa pi) := hD
    have hl : lv_has ls 11 [(0, .ref (ad 5)), (1, .long ((lp (feA re) (40) (0, ((bitL 40) ||| 1))).1)), (3, .long ((lp (feA re) (40) (0, ((bitL 40) ||| 1))).2)), (5, .int (nI 40))] := hl
    refine lv_iload hx hb dX5_findEntries_13 (lv_at hl 3 rfl) ?_
    refine lv_bipush (v := 40) hx hb dX5_findEntries_15 (by decide) ?_
    refine lv_icmp_ge (tgt := 49) hx hb dX5_findEntries_17 (by decide) (fun _ => ?_) (fun c_17 => absurd (by decide) c_17)
    refine lv_lload_n hx hb dX5_findEntries_49 rfl (lv_at hl 1 rfl) ?_
    refine lv_lload_n hx hb dX5_findEntries_50 rfl (lv_at hl 2 rfl) ?_
    refine lv_ldc2 (v := (-1)) hx hb hown (hg _ mw_168) dX5_findEntries_51 ?_
    refine lv_lxor hx hb dX5_findEntries_54 ?_
    refine lv_land hx hb dX5_findEntries_55 ?_
    refine lv_lstore (lv' := [(5, .long (((lp (feA re) (40) (0, ((bitL 40) ||| 1))).1) &&& (((lp (feA re) (40) (0, ((bitL 40) ||| 1))).2) ^^^ (-1)))), (0, .ref (ad 5)), (1, .long ((lp (feA re) (40) (0, ((bitL 40) ||| 1))).1)), (3, .long ((lp (feA re) (40) (0, ((bitL 40) ||| 1))).2))]) hx hb dX5_findEntries_56 hl (by decide) rfl (fun ls hl => ?_)
    refine lv_iconst (v := 0) hx hb dX5_findEntries_58 (by decide) ?_
    refine lv_istore (lv' := [(7, .int 0), (5, .long (((lp (feA re) (40) (0, ((bitL 40) ||| 1))).1) &&& (((lp (feA re) (40) (0, ((bitL 40) ||| 1))).2) ^^^ (-1)))), (0, .ref (ad 5)), (1, .long ((lp (feA re) (40) (0, ((bitL 40) ||| 1))).1)), (3, .long ((lp (feA re) (40) (0, ((bitL 40) ||| 1))).2))]) hx hb dX5_findEntries_59 hl (by decide) rfl (fun ls hl => ?_)
    refine w_loop (σ := Ob) (fun (i_3 : Nat) (p_3 : Ob) (H : Heap) (locs : List Loc) (ls : Array Slot) => p_3 = (lp feC i_3 re) ∧ va_P D vwCl (XW ad cI cJ co fl ra li p_3 wa pi) H ∧ va_D A (XW ad cI cJ co fl ra li p_3 wa pi) ∧ va_S A s.heap H locs ∧ lv_has ls 11 [(0, .ref (ad 5)), (1, .long ((lp (feA re) (40) (0, ((bitL 40) ||| 1))).1)), (3, .long ((lp (feA re) (40) (0, ((bitL 40) ||| 1))).2)), (5, .long (((lp (feA re) (40) (0, ((bitL 40) ||| 1))).1) &&& (((lp (feA re) (40) (0, ((bitL 40) ||| 1))).2) ^^^ (-1)))), (7, .int (nI i_3))]) (41) (fun p_3 H locs ls hI => ?_) (fun i_3 p_3 H locs ls hi_3 hI ih_3 => ?_) 0 re (Nat.zero_le _) ⟨(lp_0 _ _), hP, hD, hS, (by rw [nI_0]; exact lv_sub hl [2, 3, 4, 1, 0] rfl)⟩
    · obtain ⟨h_3, hP, hD, hS, hl⟩ := hI
      have h_3 := h_3.symm
      subst h_3
      have hP : va_P D vwCl (XW ad cI cJ co fl ra li ((lp feC (41) re)) wa pi) H := hP
      have hD : va_D A (XW ad cI cJ co fl ra li ((lp feC (41) re)) wa pi) := hD
      have hl : lv_has ls 11 [(0, .ref (ad 5)), (1, .long ((lp (feA re) (40) (0, ((bitL 40) ||| 1))).1)), (3, .long ((lp (feA re) (40) (0, ((bitL 40) ||| 1))).2)), (5, .long (((lp (feA re) (40) (0, ((bitL 40) ||| 1))).1) &&& (((lp (feA re) (40) (0, ((bitL 40) ||| 1))).2) ^^^ (-1)))), (7, .int (nI 41))] := hl
      refine lv_iload hx hb dX5_findEntries_61 (lv_at hl 4 rfl) ?_
      refine lv_bipush (v := 40) hx hb dX5_findEntries_63 (by decide) ?_
      refine lv_icmp_gt (tgt := 84) hx hb dX5_findEntries_65 (by decide) (fun _ => ?_) (fun c_65 => absurd (by decide) c_65)
      refine lv_iconst (v := 0) hx hb dX5_findEntries_84 (by decide) ?_
      refine lv_istore (lv' := [(7, .int 0), (0, .ref (ad 5)), (1, .long ((lp (feA re) (40) (0, ((bitL 40) ||| 1))).1)), (3, .long ((lp (feA re) (40) (0, ((bitL 40) ||| 1))).2)), (5, .long (((lp (feA re) (40) (0, ((bitL 40) ||| 1))).1) &&& (((lp (feA re) (40) (0, ((bitL 40) ||| 1))).2) ^^^ (-1))))]) hx hb dX5_findEntries_85 hl (by decide) rfl (fun ls hl => ?_)
      refine w_loop (σ := Ob) (fun (i_4 : Nat) (p_4 : Ob) (H : Heap) (locs : List Loc) (ls : Array Slot) => p_4 = (lp (feN (((lp (feA re) (40) (0, ((bitL 40) ||| 1))).1) &&& (((lp (feA re) (40) (0, ((bitL 40) ||| 1))).2) ^^^ (-1)))) i_4 ((lp feC (41) re))) ∧ va_P D vwCl (XW ad cI cJ co fl ra li p_4 wa pi) H ∧ va_D A (XW ad cI cJ co fl ra li p_4 wa pi) ∧ va_S A s.heap H locs ∧ lv_has ls 11 [(0, .ref (ad 5)), (1, .long ((lp (feA re) (40) (0, ((bitL 40) ||| 1))).1)), (3, .long ((lp (feA re) (40) (0, ((bitL 40) ||| 1))).2)), (5, .long (((lp (feA re) (40) (0, ((bitL 40) ||| 1))).1) &&& (((lp (feA re) (40) (0, ((bitL 40) ||| 1))).2) ^^^ (-1)))), (7, .int (nI i_4))]) (40) (fun p_4 H locs ls hI => ?_) (fun i_4 p_4 H locs ls hi_4 hI ih_4 => ?_) 0 ((lp feC (41) re)) (Nat.zero_le _) ⟨(lp_0 _ _), hP, hD, hS, (by rw [nI_0]; exact lv_sub hl [1, 2, 3, 4, 0] rfl)⟩
      · obtain ⟨h_4, hP, hD, hS, hl⟩ := hI
        have h_4 := h_4.symm
        subst h_4
        have hP : va_P D vwCl (XW ad cI cJ co fl ra li ((lp (feN (((lp (feA re) (40) (0, ((bitL 40) ||| 1))).1) &&& (((lp (feA re) (40) (0, ((bitL 40) ||| 1))).2) ^^^ (-1)))) (40) ((lp feC (41) re)))) wa pi) H := hP
        have hD : va_D A (XW ad cI cJ co fl ra li ((lp (feN (((lp (feA re) (40) (0, ((bitL 40) ||| 1))).1) &&& (((lp (feA re) (40) (0, ((bitL 40) ||| 1))).2) ^^^ (-1)))) (40) ((lp feC (41) re)))) wa pi) := hD
        have hl : lv_has ls 11 [(0, .ref (ad 5)), (1, .long ((lp (feA re) (40) (0, ((bitL 40) ||| 1))).1)), (3, .long ((lp (feA re) (40) (0, ((bitL 40) ||| 1))).2)), (5, .long (((lp (feA re) (40) (0, ((bitL 40) ||| 1))).1) &&& (((lp (feA re) (40) (0, ((bitL 40) ||| 1))).2) ^^^ (-1)))), (7, .int (nI 40))] := hl
        refine lv_iload hx hb dX5_findEntries_87 (lv_at hl 4 rfl) ?_
        refine lv_bipush (v := 40) hx hb dX5_findEntries_89 (by decide) ?_
        refine lv_icmp_ge (tgt := 158) hx hb dX5_findEntries_91 (by decide) (fun _ => ?_) (fun c_91 => absurd (by decide) c_91)
        exact W.vret hx hb hr (fun t ht hW => ⟨⟨(XW ad cI cJ co fl ra li ((lp (feN (((lp (feA re) (40) (0, ((bitL 40) ||| 1))).1) &&& (((lp (feA re) (40) (0, ((bitL 40) ||| 1))).2) ^^^ (-1)))) (40) ((lp feC (41) re)))) wa pi), rfl, xw_eq rfl rfl rfl rfl (show ((lp (feN (((lp (feA re) (40) (0, ((bitL 40) ||| 1))).1) &&& (((lp (feA re) (40) (0, ((bitL 40) ||| 1))).2) ^^^ (-1)))) (40) ((lp feC (41) re)))) = (findEntries re) from (by first | with_reducible rfl | (simp only [findEntries, feOnly, gi_sl, gi_sA, gi_sB, gi_si_s, gi_si_n, gl_si, gl_sA, gl_sB, gl_sl_s, gl_sl_n, gA_si, gA_sl, gA_sB, gA_sA_s, gA_sA_n, gB_si, gB_sl, gB_sA, gB_sB_s, gB_sB_n, Nat.reduceBEq, if_true, if_false, eq_self, Bool.false_eq_true, Bool.true_eq_false, not_true_eq_false, not_false_eq_true, decide_true, decide_false, cond_true, cond_false, Bool.true_and, Bool.false_and, Bool.and_true, Bool.and_false, Bool.true_or, Bool.false_or, Bool.or_true, Bool.or_false, b2i_tt, b2i_ff, pr_eta]; done))) rfl rfl, ⟨by rw [ht]; exact hP, va_K.moved hW.alike hK, hD⟩⟩, hS.F ht⟩) hS.2.2 dX5_findEntries_158
      · obtain ⟨h_4, hP, hD, hS, hl⟩ := hI
        have hP : va_P D vwCl (XW ad cI cJ co fl ra li p_4 wa pi) H := hP
        have hD : va_D A (XW ad cI cJ co fl ra li p_4 wa pi) := hD
        have hl : lv_has ls 11 [(0, .ref (ad 5)), (1, .long ((lp (feA re) (40) (0, ((bitL 40) ||| 1))).1)), (3, .long ((lp (feA re) (40) (0, ((bitL 40) ||| 1))).2)), (5, .long (((lp (feA re) (40) (0, ((bitL 40) ||| 1))).1) &&& (((lp (feA re) (40) (0, ((bitL 40) ||| 1))).2) ^^^ (-1)))), (7, .int (nI i_4))] := hl
        refine lv_iload hx hb dX5_findEntries_87 (lv_at hl 4 rfl) ?_
        refine lv_bipush (v := 40) hx hb dX5_findEntries_89 (by decide) ?_
        refine lv_icmp_ge (tgt := 158) hx hb dX5_findEntries_91 (by decide) (fun c_91 => absurd c_91 (nI_ge hi_4 (by decide))) (fun _ => ?_)
        refine lv_aload_n hx hb dX5_findEntries_94 rfl (lv_at hl 0 rfl) ?_
        refine va_get (D := D) (ci := 5) (v := .ref (ad 24)) (C := RX5) (T := TX5) (N := 8) hx hb hg inGX5 hown hK hP 5 xo5 rfl 0 (by decide) (hg _ mw_166) (fun _ h9 => h9) xvX5_0 dX5_findEntries_95 ?_
        refine lv_iload hx hb dX5_findEntries_98 (lv_at hl 4 rfl) ?_
        refine kL (rSN hx hb hml hown hg hN hK hP hD (c_atL l D cI cJ (XW ad cI cJ co fl ra li p_4 wa pi) 24 (ad 24) 40 (gB p_4 0) (nI i_4) (xg24 rfl) (by decide)) mw_81 nw_84 mw_83 mw_77 pd_X7_at_ ⟨Nat.le_of_ble_eq_true rfl, Nat.le_of_ble_eq_true rfl⟩ rfl hl.1 rfl (Nat.le_of_ble_eq_true rfl) dX5_findEntries_100 ⟨Nat.le_of_ble_eq_true rfl, Nat.le_of_ble_eq_true rfl⟩) hD hS hA (fun r_5 u_5 H locs hp hP hD hS => ?_)
        obtain ⟨er, eu⟩ := hp
        obtain rfl := er.symm
        obtain rfl := eu.symm
        refine lv_lload hx hb dX5_findEntries_103 (lv_at hl 3 rfl) ?_
        refine lv_land hx hb dX5_findEntries_105 ?_
        refine lv_lstore (lv' := [(8, .long ((rdL (gB p_4 0) 40 (nI i_4)) &&& (((lp (feA re) (40) (0, ((bitL 40) ||| 1))).1) &&& (((lp (feA re) (40) (0, ((bitL 40) ||| 1))).2) ^^^ (-1))))), (0, .ref (ad 5)), (1, .long ((lp (feA re) (40) (0, ((bitL 40) ||| 1))).1)), (3, .long ((lp (feA re) (40) (0, ((bitL 40) ||| 1))).2)), (5, .long (((lp (feA re) (40) (0, ((bitL 40) ||| 1))).1) &&& (((lp (feA re) (40) (0, ((bitL 40) ||| 1))).2) ^^^ (-1)))), (7, .int (nI i_4))]) hx hb dX5_findEntries_106 hl (by decide) rfl (fun ls hl => ?_)
        refine lv_iconst (v := 0) hx hb dX5_findEntries_108 (by decide) ?_
        refine lv_istore (lv' := [(10, .int 0), (8, .long ((rdL (gB p_4 0) 40 (nI i_4)) &&& (((lp (feA re) (40) (0, ((bitL 40) ||| 1))).1) &&& (((lp (feA re) (40) (0, ((bitL 40) ||| 1))).2) ^^^ (-1))))), (0, .ref (ad 5)), (1, .long ((lp (feA re) (40) (0, ((bitL 40) ||| 1))).1)), (3, .long ((lp (feA re) (40) (0, ((bitL 40) ||| 1))).2)), (5, .long (((lp (feA re) (40) (0, ((bitL 40) ||| 1))).1) &&& (((lp (feA re) (40) (0, ((bitL 40) ||| 1))).2) ^^^ (-1)))), (7, .int (nI i_4))]) hx hb dX5_findEntries_109 hl (by decide) rfl (fun ls hl => ?_)
        refine w_loop (σ := Ob) (fun (i_6 : Nat) (p_6 : Ob) (H : Heap) (locs : List Loc) (ls : Array Slot) => p_6 = (lp (feB ((rdL (gB p_4 0) 40 (nI i_4)) &&& (((lp (feA re) (40) (0, ((bitL 40) ||| 1))).1) &&& (((lp (feA re) (40) (0, ((bitL 40) ||| 1))).2) ^^^ (-1)))) i_4) i_6 p_4) ∧ va_P D vwCl (XW ad cI cJ co fl ra li p_6 wa pi) H ∧ va_D A (XW ad cI cJ co fl ra li p_6 wa pi) ∧ va_S A s.heap H locs ∧ lv_has ls 11 [(0, .ref (ad 5)), (1, .long ((lp (feA re) (40) (0, ((bitL 40) ||| 1))).1)), (3, .long ((lp (feA re) (40) (0, ((bitL 40) ||| 1))).2)), (5, .long (((lp (feA re) (40) (0, ((bitL 40) ||| 1))).1) &&& (((lp (feA re) (40) (0, ((bitL 40) ||| 1))).2) ^^^ (-1)))), (7, .int (nI i_4)), (8, .long ((rdL (gB p_4 0) 40 (nI i_4)) &&& (((lp (feA re) (40) (0, ((bitL 40) ||| 1))).1) &&& (((lp (feA re) (40) (0, ((bitL 40) ||| 1))).2) ^^^ (-1))))), (10, .int (nI i_6))]) (40) (fun p_6 H locs ls hI => ?_) (fun i_6 p_6 H locs ls hi_6 hI ih_6 => ?_) 0 p_4 (Nat.zero_le _) ⟨(lp_0 _ _), hP, hD, hS, (by rw [nI_0]; exact lv_sub hl [2, 3, 4, 5, 6, 1, 0] rfl)⟩
        · obtain ⟨h_6, hP, hD, hS, hl⟩ := hI
          have h_6 := h_6.symm
          subst h_6
          have hP : va_P D vwCl (XW ad cI cJ co fl ra li ((lp (feB ((rdL (gB p_4 0) 40 (nI i_4)) &&& (((lp (feA re) (40) (0, ((bitL 40) ||| 1))).1) &&& (((lp (feA re) (40) (0, ((bitL 40) ||| 1))).2) ^^^ (-1)))) i_4) (40) p_4)) wa pi) H := hP
          have hD : va_D A (XW ad cI cJ co fl ra li ((lp (feB ((rdL (gB p_4 0) 40 (nI i_4)) &&& (((lp (feA re) (40) (0, ((bitL 40) ||| 1))).1) &&& (((lp (feA re) (40) (0, ((bitL 40) ||| 1))).2) ^^^ (-1)))) i_4) (40) p_4)) wa pi) := hD
          have hl : lv_has ls 11 [(0, .ref (ad 5)), (1, .long ((lp (feA re) (40) (0, ((bitL 40) ||| 1))).1)), (3, .long ((lp (feA re) (40) (0, ((bitL 40) ||| 1))).2)), (5, .long (((lp (feA re) (40) (0, ((bitL 40) ||| 1))).1) &&& (((lp (feA re) (40) (0, ((bitL 40) ||| 1))).2) ^^^ (-1)))), (7, .int (nI i_4)), (8, .long ((rdL (gB p_4 0) 40 (nI i_4)) &&& (((lp (feA re) (40) (0, ((bitL 40) ||| 1))).1) &&& (((lp (feA re) (40) (0, ((bitL 40) ||| 1))).2) ^^^ (-1))))), (10, .int (nI 40))] := hl
          refine lv_iload hx hb dX5_findEntries_111 (lv_at hl 6 rfl) ?_
          refine lv_bipush (v := 40) hx hb dX5_findEntries_113 (by decide) ?_
          refine lv_icmp_ge (tgt := 152) hx hb dX5_findEntries_115 (by decide) (fun _ => ?_) (fun c_115 => absurd (by decide) c_115)
          refine lv_iinc (v := (nI (i_4 + 1))) (lv' := [(7, .int (nI (i_4 + 1))), (0, .ref (ad 5)), (1, .long ((lp (feA re) (40) (0, ((bitL 40) ||| 1))).1)), (3, .long ((lp (feA re) (40) (0, ((bitL 40) ||| 1))).2)), (5, .long (((lp (feA re) (40) (0, ((bitL 40) ||| 1))).1) &&& (((lp (feA re) (40) (0, ((bitL 40) ||| 1))).2) ^^^ (-1)))), (8, .long ((rdL (gB p_4 0) 40 (nI i_4)) &&& (((lp (feA re) (40) (0, ((bitL 40) ||| 1))).1) &&& (((lp (feA re) (40) (0, ((bitL 40) ||| 1))).2) ^^^ (-1))))), (10, .int (nI 40))]) hx hb dX5_findEntries_152 hl (k := 4) rfl (nI_1 i_4) (by decide) rfl (fun ls hl => ?_)
          refine lv_goto (tgt := 87) hx hb dX5_findEntries_155 (by decide) ?_
          exact ih_4 ((lp (feB ((rdL (gB p_4 0) 40 (nI i_4)) &&& (((lp (feA re) (40) (0, ((bitL 40) ||| 1))).1) &&& (((lp (feA re) (40) (0, ((bitL 40) ||| 1))).2) ^^^ (-1)))) i_4) (40) p_4)) H locs ls ⟨((show ((lp (feB ((rdL (gB p_4 0) 40 (nI i_4)) &&& (((lp (feA re) (40) (0, ((bitL 40) ||| 1))).1) &&& (((lp (feA re) (40) (0, ((bitL 40) ||| 1))).2) ^^^ (-1)))) i_4) (40) p_4)) = (feN (((lp (feA re) (40) (0, ((bitL 40) ||| 1))).1) &&& (((lp (feA re) (40) (0, ((bitL 40) ||| 1))).2) ^^^ (-1)))) i_4 p_4 from (by first | with_reducible rfl | (simp only [feN, gi_sl, gi_sA, gi_sB, gi_si_s, gi_si_n, gl_si, gl_sA, gl_sB, gl_sl_s, gl_sl_n, gA_si, gA_sl, gA_sB, gA_sA_s, gA_sA_n, gB_si, gB_sl, gB_sA, gB_sB_s, gB_sB_n, Nat.reduceBEq, if_true, if_false, eq_self, Bool.false_eq_true, Bool.true_eq_false, not_true_eq_false, not_false_eq_true, decide_true, decide_false, cond_true, cond_false, Bool.true_and, Bool.false_and, Bool.and_true, Bool.and_false, Bool.true_or, Bool.false_or, Bool.or_true, Bool.or_false, b2i_tt, b2i_ff, pr_eta]; done))).trans (lp_go h_4)), hP, hD, hS, lv_sub hl [1, 2, 3, 4, 0] rfl⟩
        · obtain ⟨h_6, hP, hD, hS, hl⟩ := hI
          have hP : va_P D vwCl (XW ad cI cJ co fl ra li p_6 wa pi) H := hP
          have hD : va_D A (XW ad cI cJ co fl ra li p_6 wa pi) := hD
          have hl : lv_has ls 11 [(0, .ref (ad 5)), (1, .long ((lp (feA re) (40) (0, ((bitL 40) ||| 1))).1)), (3, .long ((lp (feA re) (40) (0, ((bitL 40) ||| 1))).2)), (5, .long (((lp (feA re) (40) (0, ((bitL 40) ||| 1))).1) &&& (((lp (feA re) (40) (0, ((bitL 40) ||| 1))).2) ^^^ (-1)))), (7, .int (nI i_4)), (8, .long ((rdL (gB p_4 0) 40 (nI i_4)) &&& (((lp (feA re) (40) (0, ((bitL 40) ||| 1))).1) &&& (((lp (feA re) (40) (0, ((bitL 40) ||| 1))).2) ^^^ (-1))))), (10, .int (nI i_6))] := hl
          refine lv_iload hx hb dX5_findEntries_111 (lv_at hl 6 rfl) ?_
          refine lv_bipush (v := 40) hx hb dX5_findEntries_113 (by decide) ?_
          refine lv_icmp_ge (tgt := 152) hx hb dX5_findEntries_115 (by decide) (fun c_115 => absurd c_115 (nI_ge hi_6 (by decide))) (fun _ => ?_)
          refine lv_lload hx hb dX5_findEntries_118 (lv_at hl 5 rfl) ?_
          refine lv_lconst (v := 0) hx hb dX5_findEntries_120 (by decide) ?_
          refine W.lcmp hx hb dX5_findEntries_121 ?_
          refine lv_if_eq (tgt := 152) hx hb dX5_findEntries_122 (by decide) (fun c_122 => ?_) (fun c_122 => ?_)
          · have c_122 : ((rdL (gB p_4 0) 40 (nI i_4)) &&& (((lp (feA re) (40) (0, ((bitL 40) ||| 1))).1) &&& (((lp (feA re) (40) (0, ((bitL 40) ||| 1))).2) ^^^ (-1)))) = 0 := lcmp_0 c_122
            have h_6 : p_6 = (lp (feB ((rdL (gB p_4 0) 40 (nI i_4)) &&& (((lp (feA re) (40) (0, ((bitL 40) ||| 1))).1) &&& (((lp (feA re) (40) (0, ((bitL 40) ||| 1))).2) ^^^ (-1)))) i_4) (40) p_4) := (h_6.trans (feB_zz c_122 _ _ _))
            have h_6 := h_6.symm
            subst h_6
            have hP : va_P D vwCl (XW ad cI cJ co fl ra li ((lp (feB ((rdL (gB p_4 0) 40 (nI i_4)) &&& (((lp (feA re) (40) (0, ((bitL 40) ||| 1))).1) &&& (((lp (feA re) (40) (0, ((bitL 40) ||| 1))).2) ^^^ (-1)))) i_4) (40) p_4)) wa pi) H := hP
            have hD : va_D A (XW ad cI cJ co fl ra li ((lp (feB ((rdL (gB p_4 0) 40 (nI i_4)) &&& (((lp (feA re) (40) (0, ((bitL 40) ||| 1))).1) &&& (((lp (feA re) (40) (0, ((bitL 40) ||| 1))).2) ^^^ (-1)))) i_4) (40) p_4)) wa pi) := hD
            have hl : lv_has ls 11 [(0, .ref (ad 5)), (1, .long ((lp (feA re) (40) (0, ((bitL 40) ||| 1))).1)), (3, .long ((lp (feA re) (40) (0, ((bitL 40) ||| 1))).2)), (5, .long (((lp (feA re) (40) (0, ((bitL 40) ||| 1))).1) &&& (((lp (feA re) (40) (0, ((bitL 40) ||| 1))).2) ^^^ (-1)))), (7, .int (nI i_4)), (8, .long ((rdL (gB p_4 0) 40 (nI i_4)) &&& (((lp (feA re) (40) (0, ((bitL 40) ||| 1))).1) &&& (((lp (feA re) (40) (0, ((bitL 40) ||| 1))).2) ^^^ (-1))))), (10, .int (nI i_6))] := hl
            refine lv_iinc (v := (nI (i_4 + 1))) (lv' := [(7, .int (nI (i_4 + 1))), (0, .ref (ad 5)), (1, .long ((lp (feA re) (40) (0, ((bitL 40) ||| 1))).1)), (3, .long ((lp (feA re) (40) (0, ((bitL 40) ||| 1))).2)), (5, .long (((lp (feA re) (40) (0, ((bitL 40) ||| 1))).1) &&& (((lp (feA re) (40) (0, ((bitL 40) ||| 1))).2) ^^^ (-1)))), (8, .long ((rdL (gB p_4 0) 40 (nI i_4)) &&& (((lp (feA re) (40) (0, ((bitL 40) ||| 1))).1) &&& (((lp (feA re) (40) (0, ((bitL 40) ||| 1))).2) ^^^ (-1))))), (10, .int (nI i_6))]) hx hb dX5_findEntries_152 hl (k := 4) rfl (nI_1 i_4) (by decide) rfl (fun ls hl => ?_)
            refine lv_goto (tgt := 87) hx hb dX5_findEntries_155 (by decide) ?_
            exact ih_4 ((lp (feB ((rdL (gB p_4 0) 40 (nI i_4)) &&& (((lp (feA re) (40) (0, ((bitL 40) ||| 1))).1) &&& (((lp (feA re) (40) (0, ((bitL 40) ||| 1))).2) ^^^ (-1)))) i_4) (40) p_4)) H locs ls ⟨((show ((lp (feB ((rdL (gB p_4 0) 40 (nI i_4)) &&& (((lp (feA re) (40) (0, ((bitL 40) ||| 1))).1) &&& (((lp (feA re) (40) (0, ((bitL 40) ||| 1))).2) ^^^ (-1)))) i_4) (40) p_4)) = (feN (((lp (feA re) (40) (0, ((bitL 40) ||| 1))).1) &&& (((lp (feA re) (40) (0, ((bitL 40) ||| 1))).2) ^^^ (-1)))) i_4 p_4 from (by simp only [feN, eq_true c_122, gi_sl, gi_sA, gi_sB, gi_si_s, gi_si_n, gl_si, gl_sA, gl_sB, gl_sl_s, gl_sl_n, gA_si, gA_sl, gA_sB, gA_sA_s, gA_sA_n, gB_si, gB_sl, gB_sA, gB_sB_s, gB_sB_n, Nat.reduceBEq, if_true, if_false, eq_self, Bool.false_eq_true, Bool.true_eq_false, not_true_eq_false, not_false_eq_true, decide_true, decide_false, cond_true, cond_false, Bool.true_and, Bool.false_and, Bool.and_true, Bool.and_false, Bool.true_or, Bool.false_or, Bool.or_true, Bool.or_false, b2i_tt, b2i_ff, pr_eta]; done)).trans (lp_go h_4)), hP, hD, hS, lv_sub hl [1, 2, 3, 4, 0] rfl⟩
          · have c_122 : ¬ ((rdL (gB p_4 0) 40 (nI i_4)) &&& (((lp (feA re) (40) (0, ((bitL 40) ||| 1))).1) &&& (((lp (feA re) (40) (0, ((bitL 40) ||| 1))).2) ^^^ (-1)))) = 0 := lcmp_1 c_122
            refine lv_lload hx hb dX5_findEntries_125 (lv_at hl 5 rfl) ?_
            refine lv_iload hx hb dX5_findEntries_127 (lv_at hl 6 rfl) ?_
            refine kI (rSN hx hb hml hown hg hN hK hP hD (c_has l D cI cJ (XW ad cI cJ co fl ra li p_6 wa pi) ((rdL (gB p_4 0) 40 (nI i_4)) &&& (((lp (feA re) (40) (0, ((bitL 40) ||| 1))).1) &&& (((lp (feA re) (40) (0, ((bitL 40) ||| 1))).2) ^^^ (-1)))) (nI i_6)) mw_89 nw_83 mw_90 mw_77 pd_X7_has ⟨Nat.le_of_ble_eq_true rfl, Nat.le_of_ble_eq_true rfl⟩ rfl hl.1 rfl (Nat.le_of_ble_eq_true rfl) dX5_findEntries_129 ⟨Nat.le_of_ble_eq_true rfl, Nat.le_of_ble_eq_true rfl⟩) hD hS hA (fun r_7 u_7 H locs hp hP hD hS => ?_)
            obtain ⟨er, eu⟩ := hp
            obtain rfl := er.symm
            obtain rfl := eu.symm
            refine lv_if_eq (tgt := 146) hx hb dX5_findEntries_132 (by decide) (fun c_132 => ?_) (fun c_132 => ?_)
            · have c_132 : ¬ (hs ((rdL (gB p_4 0) 40 (nI i_4)) &&& (((lp (feA re) (40) (0, ((bitL 40) ||| 1))).1) &&& (((lp (feA re) (40) (0, ((bitL 40) ||| 1))).2) ^^^ (-1)))) (nI i_6)) = true := b2i_0 c_132
              refine lv_iinc (v := (nI (i_6 + 1))) (lv' := [(10, .int (nI (i_6 + 1))), (0, .ref (ad 5)), (1, .long ((lp (feA re) (40) (0, ((bitL 40) ||| 1))).1)), (3, .long ((lp (feA re) (40) (0, ((bitL 40) ||| 1))).2)), (5, .long (((lp (feA re) (40) (0, ((bitL 40) ||| 1))).1) &&& (((lp (feA re) (40) (0, ((bitL 40) ||| 1))).2) ^^^ (-1)))), (7, .int (nI i_4)), (8, .long ((rdL (gB p_4 0) 40 (nI i_4)) &&& (((lp (feA re) (40) (0, ((bitL 40) ||| 1))).1) &&& (((lp (feA re) (40) (0, ((bitL 40) ||| 1))).2) ^^^ (-1)))))]) hx hb dX5_findEntries_146 hl (k := 6) rfl (nI_1 i_6) (by decide) rfl (fun ls hl => ?_)
              refine lv_goto (tgt := 111) hx hb dX5_findEntries_149 (by decide) ?_
              exact ih_6 p_6 H locs ls ⟨((show p_6 = (feB ((rdL (gB p_4 0) 40 (nI i_4)) &&& (((lp (feA re) (40) (0, ((bitL 40) ||| 1))).1) &&& (((lp (feA re) (40) (0, ((bitL 40) ||| 1))).2) ^^^ (-1)))) i_4) i_6 p_6 from (by simp only [feB, eq_false c_122, bf_of c_132, gi_sl, gi_sA, gi_sB, gi_si_s, gi_si_n, gl_si, gl_sA, gl_sB, gl_sl_s, gl_sl_n, gA_si, gA_sl, gA_sB, gA_sA_s, gA_sA_n, gB_si, gB_sl, gB_sA, gB_sB_s, gB_sB_n, Nat.reduceBEq, if_true, if_false, eq_self, Bool.false_eq_true, Bool.true_eq_false, not_true_eq_false, not_false_eq_true, decide_true, decide_false, cond_true, cond_false, Bool.true_and, Bool.false_and, Bool.and_true, Bool.and_false, Bool.true_or, Bool.false_or, Bool.or_true, Bool.or_false, b2i_tt, b2i_ff, pr_eta]; done)).trans (lp_go h_6)), hP, hD, hS, lv_sub hl [1, 2, 3, 4, 5, 6, 0] rfl⟩
            · have c_132 : (hs ((rdL (gB p_4 0) 40 (nI i_4)) &&& (((lp (feA re) (40) (0, ((bitL 40) ||| 1))).1) &&& (((lp (feA re) (40) (0, ((bitL 40) ||| 1))).2) ^^^ (-1)))) (nI i_6)) = true := b2i_1 c_132
              refine lv_aload_n hx hb dX5_findEntries_135 rfl (lv_at hl 0 rfl) ?_
              refine va_get (D := D) (ci := 5) (v := .ref (ad 28)) (C := RX5) (T := TX5) (N := 8) hx hb hg inGX5 hown hK hP 5 xo5 rfl 4 (by decide) (hg _ mw_165) (fun _ h9 => h9) xvX5_4 dX5_findEntries_136 ?_
              refine lv_iload hx hb dX5_findEntries_139 (lv_at hl 6 rfl) ?_
              refine lv_iload hx hb dX5_findEntries_141 (lv_at hl 4 rfl) ?_
              refine kV (rSN hx hb hml hown hg hN hK hP hD (c_put l D cI cJ (XW ad cI cJ co fl ra li p_6 wa pi) 28 (ad 28) 41 (gA p_6 3) (nI i_6) (nI i_4) (xg28 rfl) (by decide)) mw_92 nw_86 mw_93 mw_77 pd_X7_put ⟨Nat.le_of_ble_eq_true rfl, Nat.le_of_ble_eq_true rfl⟩ rfl hl.1 rfl (Nat.le_of_ble_eq_true rfl) dX5_findEntries_143 ⟨Nat.le_of_ble_eq_true rfl, Nat.le_of_ble_eq_true rfl⟩) hD hS hA (fun u_8 H locs hp hP hD hS => ?_)
              obtain rfl := hp.symm
              have hP : va_P D vwCl (XW ad cI cJ co fl ra li (sA p_6 3 (wr (gA p_6 3) 41 (nI i_6) (nI i_4))) wa pi) H := cgP xs28 hP
              have hD : va_D A (XW ad cI cJ co fl ra li (sA p_6 3 (wr (gA p_6 3) 41 (nI i_6) (nI i_4))) wa pi) := cgD xs28 hD
              refine lv_iinc (v := (nI (i_6 + 1))) (lv' := [(10, .int (nI (i_6 + 1))), (0, .ref (ad 5)), (1, .long ((lp (feA re) (40) (0, ((bitL 40) ||| 1))).1)), (3, .long ((lp (feA re) (40) (0, ((bitL 40) ||| 1))).2)), (5, .long (((lp (feA re) (40) (0, ((bitL 40) ||| 1))).1) &&& (((lp (feA re) (40) (0, ((bitL 40) ||| 1))).2) ^^^ (-1)))), (7, .int (nI i_4)), (8, .long ((rdL (gB p_4 0) 40 (nI i_4)) &&& (((lp (feA re) (40) (0, ((bitL 40) ||| 1))).1) &&& (((lp (feA re) (40) (0, ((bitL 40) ||| 1))).2) ^^^ (-1)))))]) hx hb dX5_findEntries_146 hl (k := 6) rfl (nI_1 i_6) (by decide) rfl (fun ls hl => ?_)
              refine lv_goto (tgt := 111) hx hb dX5_findEntries_149 (by decide) ?_
              exact ih_6 (sA p_6 3 (wr (gA p_6 3) 41 (nI i_6) (nI i_4))) H locs ls ⟨((show (sA p_6 3 (wr (gA p_6 3) 41 (nI i_6) (nI i_4))) = (feB ((rdL (gB p_4 0) 40 (nI i_4)) &&& (((lp (feA re) (40) (0, ((bitL 40) ||| 1))).1) &&& (((lp (feA re) (40) (0, ((bitL 40) ||| 1))).2) ^^^ (-1)))) i_4) i_6 p_6 from (by simp only [feB, eq_false c_122, c_132, gi_sl, gi_sA, gi_sB, gi_si_s, gi_si_n, gl_si, gl_sA, gl_sB, gl_sl_s, gl_sl_n, gA_si, gA_sl, gA_sB, gA_sA_s, gA_sA_n, gB_si, gB_sl, gB_sA, gB_sB_s, gB_sB_n, Nat.reduceBEq, if_true, if_false, eq_self, Bool.false_eq_true, Bool.true_eq_false, not_true_eq_false, not_false_eq_true, decide_true, decide_false, cond_true, cond_false, Bool.true_and, Bool.false_and, Bool.and_true, Bool.and_false, Bool.true_or, Bool.false_or, Bool.or_true, Bool.or_false, b2i_tt, b2i_ff, pr_eta]; done)).trans (lp_go h_6)), hP, hD, hS, lv_sub hl [1, 2, 3, 4, 5, 6, 0] rfl⟩
    · obtain ⟨h_3, hP, hD, hS, hl⟩ := hI
      have hP : va_P D vwCl (XW ad cI cJ co fl ra li p_3 wa pi) H := hP
      have hD : va_D A (XW ad cI cJ co fl ra li p_3 wa pi) := hD
      have hl : lv_has ls 11 [(0, .ref (ad 5)), (1, .long ((lp (feA re) (40) (0, ((bitL 40) ||| 1))).1)), (3, .long ((lp (feA re) (40) (0, ((bitL 40) ||| 1))).2)), (5, .long (((lp (feA re) (40) (0, ((bitL 40) ||| 1))).1) &&& (((lp (feA re) (40) (0, ((bitL 40) ||| 1))).2) ^^^ (-1)))), (7, .int (nI i_3))] := hl
      refine lv_iload hx hb dX5_findEntries_61 (lv_at hl 4 rfl) ?_
      refine lv_bipush (v := 40) hx hb dX5_findEntries_63 (by decide) ?_
      refine lv_icmp_gt (tgt := 84) hx hb dX5_findEntries_65 (by decide) (fun c_65 => absurd c_65 (nI_nlt (Nat.le_of_lt_succ hi_3) (by decide))) (fun _ => ?_)
      refine lv_aload_n hx hb dX5_findEntries_68 rfl (lv_at hl 0 rfl) ?_
      refine va_get (D := D) (ci := 5) (v := .ref (ad 28)) (C := RX5) (T := TX5) (N := 8) hx hb hg inGX5 hown hK hP 5 xo5 rfl 4 (by decide) (hg _ mw_165) (fun _ h9 => h9) xvX5_4 dX5_findEntries_69 ?_
      refine lv_iload hx hb dX5_findEntries_72 (lv_at hl 4 rfl) ?_
      refine lv_iconst (v := (-1)) hx hb dX5_findEntries_74 (by decide) ?_
      refine kV (rSN hx hb hml hown hg hN hK hP hD (c_put l D cI cJ (XW ad cI cJ co fl ra li p_3 wa pi) 28 (ad 28) 41 (gA p_3 3) (nI i_3) (-1) (xg28 rfl) (by decide)) mw_92 nw_86 mw_93 mw_77 pd_X7_put ⟨Nat.le_of_ble_eq_true rfl, Nat.le_of_ble_eq_true rfl⟩ rfl hl.1 rfl (Nat.le_of_ble_eq_true rfl) dX5_findEntries_75 ⟨Nat.le_of_ble_eq_true rfl, Nat.le_of_ble_eq_true rfl⟩) hD hS hA (fun u_9 H locs hp hP hD hS => ?_)
      obtain rfl := hp.symm
      have hP : va_P D vwCl (XW ad cI cJ co fl ra li (sA p_3 3 (wr (gA p_3 3) 41 (nI i_3) (-1))) wa pi) H := cgP xs28 hP
      have hD : va_D A (XW ad cI cJ co fl ra li (sA p_3 3 (wr (gA p_3 3) 41 (nI i_3) (-1))) wa pi) := cgD xs28 hD
      refine lv_iinc (v := (nI (i_3 + 1))) (lv' := [(7, .int (nI (i_3 + 1))), (0, .ref (ad 5)), (1, .long ((lp (feA re) (40) (0, ((bitL 40) ||| 1))).1)), (3, .long ((lp (feA re) (40) (0, ((bitL 40) ||| 1))).2)), (5, .long (((lp (feA re) (40) (0, ((bitL 40) ||| 1))).1) &&& (((lp (feA re) (40) (0, ((bitL 40) ||| 1))).2) ^^^ (-1))))]) hx hb dX5_findEntries_78 hl (k := 4) rfl (nI_1 i_3) (by decide) rfl (fun ls hl => ?_)
      refine lv_goto (tgt := 61) hx hb dX5_findEntries_81 (by decide) ?_
      exact ih_3 (sA p_3 3 (wr (gA p_3 3) 41 (nI i_3) (-1))) H locs ls ⟨((show (sA p_3 3 (wr (gA p_3 3) 41 (nI i_3) (-1))) = feC i_3 p_3 from (by first | with_reducible rfl | (simp only [feC, gi_sl, gi_sA, gi_sB, gi_si_s, gi_si_n, gl_si, gl_sA, gl_sB, gl_sl_s, gl_sl_n, gA_si, gA_sl, gA_sB, gA_sA_s, gA_sA_n, gB_si, gB_sl, gB_sA, gB_sB_s, gB_sB_n, Nat.reduceBEq, if_true, if_false, eq_self, Bool.false_eq_true, Bool.true_eq_false, not_true_eq_false, not_false_eq_true, decide_true, decide_false, cond_true, cond_false, Bool.true_and, Bool.false_and, Bool.and_true, Bool.and_false, Bool.true_or, Bool.false_or, Bool.or_true, Bool.or_false, b2i_tt, b2i_ff, pr_eta]; done))).trans (lp_go h_3)), hP, hD, hS, lv_sub hl [1, 2, 3, 4, 0] rfl⟩
  · obtain ⟨h_2, hP, hD, hS, hl⟩ := hI
    have hP : va_P D vwCl (XW ad cI cJ co fl ra li re wa pi) H := hP
    have hD : va_D A (XW ad cI cJ co fl ra li re wa pi) := hD
    have hl : lv_has ls 11 [(0, .ref (ad 5)), (1, .long p_2.1), (3, .long p_2.2), (5, .int (nI i_2))] := hl
    refine lv_iload hx hb dX5_findEntries_13 (lv_at hl 3 rfl) ?_
    refine lv_bipush (v := 40) hx hb dX5_findEntries_15 (by decide) ?_
    refine lv_icmp_ge (tgt := 49) hx hb dX5_findEntries_17 (by decide) (fun c_17 => absurd c_17 (nI_ge hi_2 (by decide))) (fun _ => ?_)
    refine lv_aload_n hx hb dX5_findEntries_20 rfl (lv_at hl 0 rfl) ?_
    refine va_get (D := D) (ci := 5) (v := .ref (ad 24)) (C := RX5) (T := TX5) (N := 8) hx hb hg inGX5 hown hK hP 5 xo5 rfl 0 (by decide) (hg _ mw_166) (fun _ h9 => h9) xvX5_0 dX5_findEntries_21 ?_
    refine lv_iload hx hb dX5_findEntries_24 (lv_at hl 3 rfl) ?_
    refine kL (rSN hx hb hml hown hg hN hK hP hD (c_atL l D cI cJ (XW ad cI cJ co fl ra li re wa pi) 24 (ad 24) 40 (gB re 0) (nI i_2) (xg24 rfl) (by decide)) mw_81 nw_84 mw_83 mw_77 pd_X7_at_ ⟨Nat.le_of_ble_eq_true rfl, Nat.le_of_ble_eq_true rfl⟩ rfl hl.1 rfl (Nat.le_of_ble_eq_true rfl) dX5_findEntries_26 ⟨Nat.le_of_ble_eq_true rfl, Nat.le_of_ble_eq_true rfl⟩) hD hS hA (fun r_10 u_10 H locs hp hP hD hS => ?_)
    obtain ⟨er, eu⟩ := hp
    obtain rfl := er.symm
    obtain rfl := eu.symm
    refine lv_lstore (lv' := [(6, .long (rdL (gB re 0) 40 (nI i_2))), (0, .ref (ad 5)), (1, .long p_2.1), (3, .long p_2.2), (5, .int (nI i_2))]) hx hb dX5_findEntries_29 hl (by decide) rfl (fun ls hl => ?_)
    refine lv_lload_n hx hb dX5_findEntries_31 rfl (lv_at hl 3 rfl) ?_
    refine lv_lload_n hx hb dX5_findEntries_32 rfl (lv_at hl 2 rfl) ?_
    refine lv_lload hx hb dX5_findEntries_33 (lv_at hl 0 rfl) ?_
    refine lv_land hx hb dX5_findEntries_35 ?_
    refine lv_lor hx hb dX5_findEntries_36 ?_
    refine lv_lstore_n (lv' := [(3, .long (p_2.2 ||| (p_2.1 &&& (rdL (gB re 0) 40 (nI i_2))))), (6, .long (rdL (gB re 0) 40 (nI i_2))), (0, .ref (ad 5)), (1, .long p_2.1), (5, .int (nI i_2))]) hx hb dX5_findEntries_37 rfl hl (by decide) rfl (fun ls hl => ?_)
    refine lv_lload_n hx hb dX5_findEntries_38 rfl (lv_at hl 3 rfl) ?_
    refine lv_lload hx hb dX5_findEntries_39 (lv_at hl 1 rfl) ?_
    refine lv_lor hx hb dX5_findEntries_41 ?_
    refine lv_lstore_n (lv' := [(1, .long (p_2.1 ||| (rdL (gB re 0) 40 (nI i_2)))), (3, .long (p_2.2 ||| (p_2.1 &&& (rdL (gB re 0) 40 (nI i_2))))), (6, .long (rdL (gB re 0) 40 (nI i_2))), (0, .ref (ad 5)), (5, .int (nI i_2))]) hx hb dX5_findEntries_42 rfl hl (by decide) rfl (fun ls hl => ?_)
    refine lv_iinc (v := (nI (i_2 + 1))) (lv' := [(5, .int (nI (i_2 + 1))), (1, .long (p_2.1 ||| (rdL (gB re 0) 40 (nI i_2)))), (3, .long (p_2.2 ||| (p_2.1 &&& (rdL (gB re 0) 40 (nI i_2))))), (6, .long (rdL (gB re 0) 40 (nI i_2))), (0, .ref (ad 5))]) hx hb dX5_findEntries_43 hl (k := 4) rfl (nI_1 i_2) (by decide) rfl (fun ls hl => ?_)
    refine lv_goto (tgt := 13) hx hb dX5_findEntries_46 (by decide) ?_
    exact ih_2 ((p_2.1 ||| (rdL (gB re 0) 40 (nI i_2))), (p_2.2 ||| (p_2.1 &&& (rdL (gB re 0) 40 (nI i_2))))) H locs ls ⟨((show ((p_2.1 ||| (rdL (gB re 0) 40 (nI i_2))), (p_2.2 ||| (p_2.1 &&& (rdL (gB re 0) 40 (nI i_2))))) = (feA re) i_2 p_2 from (by first | with_reducible rfl | (simp only [feA, gi_sl, gi_sA, gi_sB, gi_si_s, gi_si_n, gl_si, gl_sA, gl_sB, gl_sl_s, gl_sl_n, gA_si, gA_sl, gA_sB, gA_sA_s, gA_sA_n, gB_si, gB_sl, gB_sA, gB_sB_s, gB_sB_n, Nat.reduceBEq, if_true, if_false, eq_self, Bool.false_eq_true, Bool.true_eq_false, not_true_eq_false, not_false_eq_true, decide_true, decide_false, cond_true, cond_false, Bool.true_and, Bool.false_and, Bool.and_true, Bool.and_false, Bool.true_or, Bool.false_or, Bool.or_true, Bool.or_false, b2i_tt, b2i_ff, pr_eta]; done))).trans (lp_go h_2)), hP, hD, hS, lv_sub hl [4, 1, 2, 0] rfl⟩
