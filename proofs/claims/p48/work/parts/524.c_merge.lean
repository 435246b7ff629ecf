theorem dX5_merge_0 : decode cX5_merge 0 = .ok (.lconst 0, 1) := by decide +kernel
theorem dX5_merge_1 : decode cX5_merge 1 = .ok (.lstore 5, 2) := by decide +kernel
theorem dX5_merge_3 : decode cX5_merge 3 = .ok (.iconst 0, 1) := by decide +kernel
theorem dX5_merge_4 : decode cX5_merge 4 = .ok (.istore 7, 2) := by decide +kernel
theorem dX5_merge_6 : decode cX5_merge 6 = .ok (.iload 7, 2) := by decide +kernel
theorem dX5_merge_8 : decode cX5_merge 8 = .ok (.bipush 40, 2) := by decide +kernel
theorem dX5_merge_10 : decode cX5_merge 10 = .ok (.if_icmp .ge 42, 3) := by decide +kernel
theorem dX5_merge_13 : decode cX5_merge 13 = .ok (.lload_n 1, 1) := by decide +kernel
theorem dX5_merge_14 : decode cX5_merge 14 = .ok (.iload 7, 2) := by decide +kernel
theorem dX5_merge_16 : decode cX5_merge 16 = .ok (.invokestatic 41, 3) := by decide +kernel
theorem dX5_merge_19 : decode cX5_merge 19 = .ok (.ifCond .eq 27, 3) := by decide +kernel
theorem dX5_merge_22 : decode cX5_merge 22 = .ok (.lload 5, 2) := by decide +kernel
theorem dX5_merge_24 : decode cX5_merge 24 = .ok (.aload_n 0, 1) := by decide +kernel
theorem dX5_merge_25 : decode cX5_merge 25 = .ok (.getfield 9, 3) := by decide +kernel
theorem dX5_merge_28 : decode cX5_merge 28 = .ok (.iload 7, 2) := by decide +kernel
theorem dX5_merge_30 : decode cX5_merge 30 = .ok (.invokestatic 46, 3) := by decide +kernel
theorem dX5_merge_33 : decode cX5_merge 33 = .ok (.lor, 1) := by decide +kernel
theorem dX5_merge_34 : decode cX5_merge 34 = .ok (.lstore 5, 2) := by decide +kernel
theorem dX5_merge_36 : decode cX5_merge 36 = .ok (.aload_n 0, 1) := by decide +kernel
theorem dX5_merge_37 : decode cX5_merge 37 = .ok (.getfield 9, 3) := by decide +kernel
theorem dX5_merge_40 : decode cX5_merge 40 = .ok (.iload 7, 2) := by decide +kernel
theorem dX5_merge_42 : decode cX5_merge 42 = .ok (.lconst 0, 1) := by decide +kernel
theorem dX5_merge_43 : decode cX5_merge 43 = .ok (.invokestatic 50, 3) := by decide +kernel
theorem dX5_merge_46 : decode cX5_merge 46 = .ok (.iinc 7 1, 3) := by decide +kernel
theorem dX5_merge_49 : decode cX5_merge 49 = .ok (.goto (-43), 3) := by decide +kernel
theorem dX5_merge_52 : decode cX5_merge 52 = .ok (.aload_n 0, 1) := by decide +kernel
theorem dX5_merge_53 : decode cX5_merge 53 = .ok (.getfield 9, 3) := by decide +kernel
theorem dX5_merge_56 : decode cX5_merge 56 = .ok (.iload_n 3, 1) := by decide +kernel
theorem dX5_merge_57 : decode cX5_merge 57 = .ok (.lload 5, 2) := by decide +kernel
theorem dX5_merge_59 : decode cX5_merge 59 = .ok (.lload_n 1, 1) := by decide +kernel
theorem dX5_merge_60 : decode cX5_merge 60 = .ok (.ldc2_w 76, 3) := by decide +kernel
theorem dX5_merge_63 : decode cX5_merge 63 = .ok (.lxor, 1) := by decide +kernel
theorem dX5_merge_64 : decode cX5_merge 64 = .ok (.land, 1) := by decide +kernel
theorem dX5_merge_65 : decode cX5_merge 65 = .ok (.iload 4, 2) := by decide +kernel
theorem dX5_merge_67 : decode cX5_merge 67 = .ok (.ifCond .eq 10, 3) := by decide +kernel
theorem dX5_merge_70 : decode cX5_merge 70 = .ok (.iload_n 3, 1) := by decide +kernel
theorem dX5_merge_71 : decode cX5_merge 71 = .ok (.invokestatic 72, 3) := by decide +kernel
theorem dX5_merge_74 : decode cX5_merge 74 = .ok (.goto 4, 3) := by decide +kernel
theorem dX5_merge_77 : decode cX5_merge 77 = .ok (.lconst 0, 1) := by decide +kernel
theorem dX5_merge_78 : decode cX5_merge 78 = .ok (.lor, 1) := by decide +kernel
theorem dX5_merge_79 : decode cX5_merge 79 = .ok (.invokestatic 50, 3) := by decide +kernel
theorem dX5_merge_82 : decode cX5_merge 82 = .ok (.aload_n 0, 1) := by decide +kernel
theorem dX5_merge_83 : decode cX5_merge 83 = .ok (.aload_n 0, 1) := by decide +kernel
theorem dX5_merge_84 : decode cX5_merge 84 = .ok (.getfield 34, 3) := by decide +kernel
theorem dX5_merge_87 : decode cX5_merge 87 = .ok (.lload_n 1, 1) := by decide +kernel
theorem dX5_merge_88 : decode cX5_merge 88 = .ok (.ldc2_w 76, 3) := by decide +kernel
theorem dX5_merge_91 : decode cX5_merge 91 = .ok (.lxor, 1) := by decide +kernel
theorem dX5_merge_92 : decode cX5_merge 92 = .ok (.land, 1) := by decide +kernel
theorem dX5_merge_93 : decode cX5_merge 93 = .ok (.iload_n 3, 1) := by decide +kernel
theorem dX5_merge_94 : decode cX5_merge 94 = .ok (.invokestatic 72, 3) := by decide +kernel
theorem dX5_merge_97 : decode cX5_merge 97 = .ok (.lor, 1) := by decide +kernel
theorem dX5_merge_98 : decode cX5_merge 98 = .ok (.putfield 34, 3) := by decide +kernel
theorem dX5_merge_101 : decode cX5_merge 101 = .ok (.iconst 0, 1) := by decide +kernel
theorem dX5_merge_102 : decode cX5_merge 102 = .ok (.istore 7, 2) := by decide +kernel
theorem dX5_merge_104 : decode cX5_merge 104 = .ok (.iload 7, 2) := by decide +kernel
theorem dX5_merge_106 : decode cX5_merge 106 = .ok (.bipush 40, 2) := by decide +kernel
theorem dX5_merge_108 : decode cX5_merge 108 = .ok (.if_icmp .ge 86, 3) := by decide +kernel
theorem dX5_merge_111 : decode cX5_merge 111 = .ok (.aload_n 0, 1) := by decide +kernel
theorem dX5_merge_112 : decode cX5_merge 112 = .ok (.getfield 9, 3) := by decide +kernel
theorem dX5_merge_115 : decode cX5_merge 115 = .ok (.iload 7, 2) := by decide +kernel
theorem dX5_merge_117 : decode cX5_merge 117 = .ok (.invokestatic 46, 3) := by decide +kernel
theorem dX5_merge_120 : decode cX5_merge 120 = .ok (.lstore 8, 2) := by decide +kernel
theorem dX5_merge_122 : decode cX5_merge 122 = .ok (.lload 8, 2) := by decide +kernel
theorem dX5_merge_124 : decode cX5_merge 124 = .ok (.lload_n 1, 1) := by decide +kernel
theorem dX5_merge_125 : decode cX5_merge 125 = .ok (.land, 1) := by decide +kernel
theorem dX5_merge_126 : decode cX5_merge 126 = .ok (.lconst 0, 1) := by decide +kernel
theorem dX5_merge_127 : decode cX5_merge 127 = .ok (.lcmp, 1) := by decide +kernel
theorem dX5_merge_128 : decode cX5_merge 128 = .ok (.ifCond .eq 25, 3) := by decide +kernel
theorem dX5_merge_131 : decode cX5_merge 131 = .ok (.aload_n 0, 1) := by decide +kernel
theorem dX5_merge_132 : decode cX5_merge 132 = .ok (.getfield 9, 3) := by decide +kernel
theorem dX5_merge_135 : decode cX5_merge 135 = .ok (.iload 7, 2) := by decide +kernel
theorem dX5_merge_137 : decode cX5_merge 137 = .ok (.lload 8, 2) := by decide +kernel
theorem dX5_merge_139 : decode cX5_merge 139 = .ok (.lload_n 1, 1) := by decide +kernel
theorem dX5_merge_140 : decode cX5_merge 140 = .ok (.ldc2_w 76, 3) := by decide +kernel
theorem dX5_merge_143 : decode cX5_merge 143 = .ok (.lxor, 1) := by decide +kernel
theorem dX5_merge_144 : decode cX5_merge 144 = .ok (.land, 1) := by decide +kernel
theorem dX5_merge_145 : decode cX5_merge 145 = .ok (.iload_n 3, 1) := by decide +kernel
theorem dX5_merge_146 : decode cX5_merge 146 = .ok (.invokestatic 72, 3) := by decide +kernel
theorem dX5_merge_149 : decode cX5_merge 149 = .ok (.lor, 1) := by decide +kernel
theorem dX5_merge_150 : decode cX5_merge 150 = .ok (.invokestatic 50, 3) := by decide +kernel
theorem dX5_merge_153 : decode cX5_merge 153 = .ok (.aload_n 0, 1) := by decide +kernel
theorem dX5_merge_154 : decode cX5_merge 154 = .ok (.getfield 15, 3) := by decide +kernel
theorem dX5_merge_157 : decode cX5_merge 157 = .ok (.iload 7, 2) := by decide +kernel
theorem dX5_merge_159 : decode cX5_merge 159 = .ok (.invokestatic 87, 3) := by decide +kernel
theorem dX5_merge_162 : decode cX5_merge 162 = .ok (.istore 10, 2) := by decide +kernel
theorem dX5_merge_164 : decode cX5_merge 164 = .ok (.iload 10, 2) := by decide +kernel
theorem dX5_merge_166 : decode cX5_merge 166 = .ok (.ifCond .lt 22, 3) := by decide +kernel
theorem dX5_merge_169 : decode cX5_merge 169 = .ok (.lload_n 1, 1) := by decide +kernel
theorem dX5_merge_170 : decode cX5_merge 170 = .ok (.iload 10, 2) := by decide +kernel
theorem dX5_merge_172 : decode cX5_merge 172 = .ok (.invokestatic 41, 3) := by decide +kernel
theorem dX5_merge_175 : decode cX5_merge 175 = .ok (.ifCond .eq 13, 3) := by decide +kernel
theorem dX5_merge_178 : decode cX5_merge 178 = .ok (.aload_n 0, 1) := by decide +kernel
theorem dX5_merge_179 : decode cX5_merge 179 = .ok (.getfield 15, 3) := by decide +kernel
theorem dX5_merge_182 : decode cX5_merge 182 = .ok (.iload 7, 2) := by decide +kernel
theorem dX5_merge_184 : decode cX5_merge 184 = .ok (.iload_n 3, 1) := by decide +kernel
theorem dX5_merge_185 : decode cX5_merge 185 = .ok (.invokestatic 54, 3) := by decide +kernel
theorem dX5_merge_188 : decode cX5_merge 188 = .ok (.iinc 7 1, 3) := by decide +kernel
theorem dX5_merge_191 : decode cX5_merge 191 = .ok (.goto (-87), 3) := by decide +kernel
theorem dX5_merge_194 : decode cX5_merge 194 = .ok (.return_, 1) := by decide +kernel
theorem mw_178 : Cond.fieldLink RX5 34 "OrielChart$Reduction" "nodes" "J" ∈ GW := gw_mem (inT1 _ (List.mem_of_getElem? (i := 186) rfl)) rfl
theorem mw_179 : Cond.fieldLink RX5 15 "OrielChart$Reduction" "home" "[I" ∈ GW := gw_mem (inT1 _ (List.mem_of_getElem? (i := 179) rfl)) rfl
set_option maxHeartbeats 4000000 in
set_option maxRecDepth 100000 in
theorem c_merge (l : Launch) (D : va_G) (cI cJ : ClassId) (ad : Nat → Nat) (co fl ra li re wa pi : Ob) (l1 : Int64) (k1 : Int32) (b1 : Bool) : CT l D (TY cI cJ) yX5_merge (.code yX5_merge cX5_merge 11 (none : Option FieldType)) 1 0 0 (XW ad cI cJ co fl ra li re wa pi) [.ref (ad 5), .long l1, .int k1, .int (b2i b1)] (QV D (TY cI cJ) (fun u => u = (XW ad cI cJ co fl ra li (merge re l1 k1 b1) wa pi))) := by
  refine ent (by decide) (Nat.le_of_ble_eq_true rfl) ?_
  intro p e s m below meth c ls A hx hb hr hg hown hml hlocks hnm hP hK hD hS hA hN hl
  have hl : lv_has ls 11 [(0, .ref (ad 5)), (1, .long l1), (3, .int k1), (4, .int (b2i b1))] := hl
  refine lv_lconst (v := 0) hx hb dX5_merge_0 (by decide) ?_
  refine lv_lstore (lv' := [(5, .long 0), (0, .ref (ad 5)), (1, .long l1), (3, .int k1), (4, .int (b2i b1))]) hx hb dX5_merge_1 hl (by decide) rfl (fun ls hl => ?_)
  refine lv_iconst (v := 0) hx hb dX5_merge_3 (by decide) ?_
  refine lv_istore (lv' := [(7, .int 0), (5, .long 0), (0, .ref (ad 5)), (1, .long l1), (3, .int k1), (4, .int (b2i b1))]) hx hb dX5_merge_4 hl (by decide) rfl (fun ls hl => ?_)
  refine w_loop (σ := Ob × Int64) (fun (i_1 : Nat) (p_1 : Ob × Int64) (H : Heap) (locs : List Loc) (ls : Array Slot) => p_1 = (lp (mgA l1) i_1 (re, 0)) ∧ va_P D vwCl (XW ad cI cJ co fl ra li p_1.1 wa pi) H ∧ va_D A (XW ad cI cJ co fl ra li p_1.1 wa pi) ∧ va_S A s.heap H locs ∧ lv_has ls 11 [(0, .ref (ad 5)), (1, .long l1), (3, .int k1), (4, .int (b2i b1)), (5, .long p_1.2), (7, .int (nI i_1))]) (40) (fun p_1 H locs ls hI => ?_) (fun i_1 p_1 H locs ls hi_1 hI ih_1 => ?_) 0 (re, 0) (Nat.zero_le _) ⟨(lp_0 _ _), hP, hD, hS, (by rw [nI_0]; exact lv_sub hl [2, 3, 4, 5, 1, 0] rfl)⟩
  · obtain ⟨h_1, hP, hD, hS, hl⟩ := hI
    have h_1 := h_1.symm
    subst h_1
    have hP : va_P D vwCl (XW ad cI cJ co fl ra li ((lp (mgA l1) (40) (re, 0)).1) wa pi) H := hP
    have hD : va_D A (XW ad cI cJ co fl ra li ((lp (mgA l1) (40) (re, 0)).1) wa pi) := hD
    have hl : lv_has ls 11 [(0, .ref (ad 5)), (1, .long l1), (3, .int k1), (4, .int (b2i b1)), (5, .long ((lp (mgA l1) (40) (re, 0)).2)), (7, .int (nI 40))] := hl
    refine lv_iload hx hb dX5_merge_6 (lv_at hl 5 rfl) ?_
    refine lv_bipush (v := 40) hx hb dX5_merge_8 (by decide) ?_
    refine lv_icmp_ge (tgt := 52) hx hb dX5_merge_10 (by decide) (fun _ => ?_) (fun c_10 => absurd (by decide) c_10)
    refine lv_aload_n hx hb dX5_merge_52 rfl (lv_at hl 0 rfl) ?_
    refine va_get (D := D) (ci := 5) (v := .ref (ad 24)) (C := RX5) (T := TX5) (N := 8) hx hb hg inGX5 hown hK hP 5 xo5 rfl 0 (by decide) (hg _ mw_166) (fun _ h9 => h9) xvX5_0 dX5_merge_53 ?_
    refine lv_iload_n hx hb dX5_merge_56 rfl (lv_at hl 2 rfl) ?_
    refine lv_lload hx hb dX5_merge_57 (lv_at hl 4 rfl) ?_
    refine lv_lload_n hx hb dX5_merge_59 rfl (lv_at hl 1 rfl) ?_
    refine lv_ldc2 (v := (-1)) hx hb hown (hg _ mw_168) dX5_merge_60 ?_
    refine lv_lxor hx hb dX5_merge_63 ?_
    refine lv_land hx hb dX5_merge_64 ?_
    refine lv_iload hx hb dX5_merge_65 (lv_at hl 3 rfl) ?_
    refine lv_if_eq (tgt := 77) hx hb dX5_merge_67 (by decide) (fun c_67 => ?_) (fun c_67 => ?_)
    · have c_67 : ¬ b1 = true := b2i_0 c_67
      refine lv_lconst (v := 0) hx hb dX5_merge_77 (by decide) ?_
      refine lv_lor hx hb dX5_merge_78 ?_
      refine kV (rSN hx hb hml hown hg hN hK hP hD (c_putL l D cI cJ (XW ad cI cJ co fl ra li ((lp (mgA l1) (40) (re, 0)).1) wa pi) 24 (ad 24) 40 (gB ((lp (mgA l1) (40) (re, 0)).1) 0) k1 ((((lp (mgA l1) (40) (re, 0)).2) &&& (l1 ^^^ (-1))) ||| 0) (xg24 rfl) (by decide)) mw_97 nw_85 mw_98 mw_77 pd_X7_put_ ⟨Nat.le_of_ble_eq_true rfl, Nat.le_of_ble_eq_true rfl⟩ rfl hl.1 rfl (Nat.le_of_ble_eq_true rfl) dX5_merge_79 ⟨Nat.le_of_ble_eq_true rfl, Nat.le_of_ble_eq_true rfl⟩) hD hS hA (fun u_2 H locs hp hP hD hS => ?_)
      obtain rfl := hp.symm
      have hP : va_P D vwCl (XW ad cI cJ co fl ra li (sB ((lp (mgA l1) (40) (re, 0)).1) 0 (wrL (gB ((lp (mgA l1) (40) (re, 0)).1) 0) 40 k1 ((((lp (mgA l1) (40) (re, 0)).2) &&& (l1 ^^^ (-1))) ||| 0))) wa pi) H := cgP xs24 hP
      have hD : va_D A (XW ad cI cJ co fl ra li (sB ((lp (mgA l1) (40) (re, 0)).1) 0 (wrL (gB ((lp (mgA l1) (40) (re, 0)).1) 0) 40 k1 ((((lp (mgA l1) (40) (re, 0)).2) &&& (l1 ^^^ (-1))) ||| 0))) wa pi) := cgD xs24 hD
      refine lv_aload_n hx hb dX5_merge_82 rfl (lv_at hl 0 rfl) ?_
      refine lv_aload_n hx hb dX5_merge_83 rfl (lv_at hl 0 rfl) ?_
      refine va_get (D := D) (ci := 5) (v := .long (gl ((lp (mgA l1) (40) (re, 0)).1) 0)) (C := RX5) (T := TX5) (N := 8) hx hb hg inGX5 hown hK hP 5 xo5 rfl 5 (by decide) (hg _ mw_178) (fun _ h9 => h9) (xvX5_5 (by simp only [gi_sl, gi_sA, gi_sB, gi_si_s, gi_si_n, gl_si, gl_sA, gl_sB, gl_sl_s, gl_sl_n, gA_si, gA_sl, gA_sB, gA_sA_s, gA_sA_n, gB_si, gB_sl, gB_sA, gB_sB_s, gB_sB_n, Nat.reduceBEq])) dX5_merge_84 ?_
      refine lv_lload_n hx hb dX5_merge_87 rfl (lv_at hl 1 rfl) ?_
      refine lv_ldc2 (v := (-1)) hx hb hown (hg _ mw_168) dX5_merge_88 ?_
      refine lv_lxor hx hb dX5_merge_91 ?_
      refine lv_land hx hb dX5_merge_92 ?_
      refine lv_iload_n hx hb dX5_merge_93 rfl (lv_at hl 2 rfl) ?_
      refine kL (rSN hx hb hml hown hg hN hK hP hD (c_bit l D cI cJ (XW ad cI cJ co fl ra li (sB ((lp (mgA l1) (40) (re, 0)).1) 0 (wrL (gB ((lp (mgA l1) (40) (re, 0)).1) 0) 40 k1 ((((lp (mgA l1) (40) (re, 0)).2) &&& (l1 ^^^ (-1))) ||| 0))) wa pi) k1) mw_78 nw_87 mw_80 mw_77 pd_X7_bit ⟨Nat.le_of_ble_eq_true rfl, Nat.le_of_ble_eq_true rfl⟩ rfl hl.1 rfl (Nat.le_of_ble_eq_true rfl) dX5_merge_94 ⟨Nat.le_of_ble_eq_true rfl, Nat.le_of_ble_eq_true rfl⟩) hD hS hA (fun r_3 u_3 H locs hp hP hD hS => ?_)
      obtain ⟨er, eu⟩ := hp
      obtain rfl := er.symm
      obtain rfl := eu.symm
      refine lv_lor hx hb dX5_merge_97 ?_
      refine va_put (D := D) (ci := 5) (v := .long (((gl ((lp (mgA l1) (40) (re, 0)).1) 0) &&& (l1 ^^^ (-1))) ||| (bitL k1))) (C := RX5) (T := TX5) (N := 8) hx hb hg inGX5 tyX5 tyX5_ok nmX5 hown hK hP hD hS 5 xo5 rfl 5 (by decide) (hg _ mw_178) (fun _ h9 => h9) rfl (tyX5_ok 5 (by decide)) rfl rfl (Nat.le_of_ble_eq_true rfl) dX5_merge_98 (fun H locs hP hD hS => ?_)
      have hP : va_P D vwCl (XW ad cI cJ co fl ra li (sl (sB ((lp (mgA l1) (40) (re, 0)).1) 0 (wrL (gB ((lp (mgA l1) (40) (re, 0)).1) 0) 40 k1 ((((lp (mgA l1) (40) (re, 0)).2) &&& (l1 ^^^ (-1))) ||| 0))) 0 (((gl ((lp (mgA l1) (40) (re, 0)).1) 0) &&& (l1 ^^^ (-1))) ||| (bitL k1))) wa pi) H := cgP xpX5_5 hP
      have hD : va_D A (XW ad cI cJ co fl ra li (sl (sB ((lp (mgA l1) (40) (re, 0)).1) 0 (wrL (gB ((lp (mgA l1) (40) (re, 0)).1) 0) 40 k1 ((((lp (mgA l1) (40) (re, 0)).2) &&& (l1 ^^^ (-1))) ||| 0))) 0 (((gl ((lp (mgA l1) (40) (re, 0)).1) 0) &&& (l1 ^^^ (-1))) ||| (bitL k1))) wa pi) := cgD xpX5_5 hD
      refine lv_iconst (v := 0) hx hb dX5_merge_101 (by decide) ?_
      refine lv_istore (lv' := [(7, .int 0), (0, .ref (ad 5)), (1, .long l1), (3, .int k1), (4, .int (b2i b1)), (5, .long ((lp (mgA l1) (40) (re, 0)).2))]) hx hb dX5_merge_102 hl (by decide) rfl (fun ls hl => ?_)
      refine w_loop (σ := Ob) (fun (i_4 : Nat) (p_4 : Ob) (H : Heap) (locs : List Loc) (ls : Array Slot) => p_4 = (lp (mgB l1 k1) i_4 (sl (sB ((lp (mgA l1) (40) (re, 0)).1) 0 (wrL (gB ((lp (mgA l1) (40) (re, 0)).1) 0) 40 k1 ((((lp (mgA l1) (40) (re, 0)).2) &&& (l1 ^^^ (-1))) ||| 0))) 0 (((gl ((lp (mgA l1) (40) (re, 0)).1) 0) &&& (l1 ^^^ (-1))) ||| (bitL k1)))) ∧ va_P D vwCl (XW ad cI cJ co fl ra li p_4 wa pi) H ∧ va_D A (XW ad cI cJ co fl ra li p_4 wa pi) ∧ va_S A s.heap H locs ∧ lv_has ls 11 [(0, .ref (ad 5)), (1, .long l1), (3, .int k1), (4, .int (b2i b1)), (7, .int (nI i_4))]) (40) (fun p_4 H locs ls hI => ?_) (fun i_4 p_4 H locs ls hi_4 hI ih_4 => ?_) 0 (sl (sB ((lp (mgA l1) (40) (re, 0)).1) 0 (wrL (gB ((lp (mgA l1) (40) (re, 0)).1) 0) 40 k1 ((((lp (mgA l1) (40) (re, 0)).2) &&& (l1 ^^^ (-1))) ||| 0))) 0 (((gl ((lp (mgA l1) (40) (re, 0)).1) 0) &&& (l1 ^^^ (-1))) ||| (bitL k1))) (Nat.zero_le _) ⟨(lp_0 _ _), hP, hD, hS, (by rw [nI_0]; exact lv_sub hl [1, 2, 3, 4, 0] rfl)⟩
      · obtain ⟨h_4, hP, hD, hS, hl⟩ := hI
        have h_4 := h_4.symm
        subst h_4
        have hP : va_P D vwCl (XW ad cI cJ co fl ra li ((lp (mgB l1 k1) (40) (sl (sB ((lp (mgA l1) (40) (re, 0)).1) 0 (wrL (gB ((lp (mgA l1) (40) (re, 0)).1) 0) 40 k1 ((((lp (mgA l1) (40) (re, 0)).2) &&& (l1 ^^^ (-1))) ||| 0))) 0 (((gl ((lp (mgA l1) (40) (re, 0)).1) 0) &&& (l1 ^^^ (-1))) ||| (bitL k1))))) wa pi) H := hP
        have hD : va_D A (XW ad cI cJ co fl ra li ((lp (mgB l1 k1) (40) (sl (sB ((lp (mgA l1) (40) (re, 0)).1) 0 (wrL (gB ((lp (mgA l1) (40) (re, 0)).1) 0) 40 k1 ((((lp (mgA l1) (40) (re, 0)).2) &&& (l1 ^^^ (-1))) ||| 0))) 0 (((gl ((lp (mgA l1) (40) (re, 0)).1) 0) &&& (l1 ^^^ (-1))) ||| (bitL k1))))) wa pi) := hD
        have hl : lv_has ls 11 [(0, .ref (ad 5)), (1, .long l1), (3, .int k1), (4, .int (b2i b1)), (7, .int (nI 40))] := hl
        refine lv_iload hx hb dX5_merge_104 (lv_at hl 4 rfl) ?_
        refine lv_bipush (v := 40) hx hb dX5_merge_106 (by decide) ?_
        refine lv_icmp_ge (tgt := 194) hx hb dX5_merge_108 (by decide) (fun _ => ?_) (fun c_108 => absurd (by decide) c_108)
        exact W.vret hx hb hr (fun t ht hW => ⟨⟨(XW ad cI cJ co fl ra li ((lp (mgB l1 k1) (40) (sl (sB ((lp (mgA l1) (40) (re, 0)).1) 0 (wrL (gB ((lp (mgA l1) (40) (re, 0)).1) 0) 40 k1 ((((lp (mgA l1) (40) (re, 0)).2) &&& (l1 ^^^ (-1))) ||| 0))) 0 (((gl ((lp (mgA l1) (40) (re, 0)).1) 0) &&& (l1 ^^^ (-1))) ||| (bitL k1))))) wa pi), rfl, xw_eq rfl rfl rfl rfl (show ((lp (mgB l1 k1) (40) (sl (sB ((lp (mgA l1) (40) (re, 0)).1) 0 (wrL (gB ((lp (mgA l1) (40) (re, 0)).1) 0) 40 k1 ((((lp (mgA l1) (40) (re, 0)).2) &&& (l1 ^^^ (-1))) ||| 0))) 0 (((gl ((lp (mgA l1) (40) (re, 0)).1) 0) &&& (l1 ^^^ (-1))) ||| (bitL k1))))) = (merge re l1 k1 b1) from (by simp only [merge, mgN, bf_of c_67, gi_sl, gi_sA, gi_sB, gi_si_s, gi_si_n, gl_si, gl_sA, gl_sB, gl_sl_s, gl_sl_n, gA_si, gA_sl, gA_sB, gA_sA_s, gA_sA_n, gB_si, gB_sl, gB_sA, gB_sB_s, gB_sB_n, Nat.reduceBEq, if_true, if_false, eq_self, Bool.false_eq_true, Bool.true_eq_false, not_true_eq_false, not_false_eq_true, decide_true, decide_false, cond_true, cond_false, Bool.true_and, Bool.false_and, Bool.and_true, Bool.and_false, Bool.true_or, Bool.false_or, Bool.or_true, Bool.or_false, b2i_tt, b2i_ff, pr_eta]; done)) rfl rfl, ⟨by rw [ht]; exact hP, va_K.moved hW.alike hK, hD⟩⟩, hS.F ht⟩) hS.2.2 dX5_merge_194
      · obtain ⟨h_4, hP, hD, hS, hl⟩ := hI
        have hP : va_P D vwCl (XW ad cI cJ co fl ra li p_4 wa pi) H := hP
        have hD : va_D A (XW ad cI cJ co fl ra li p_4 wa pi) := hD
        have hl : lv_has ls 11 [(0, .ref (ad 5)), (1, .long l1), (3, .int k1), (4, .int (b2i b1)), (7, .int (nI i_4))] := hl
        refine lv_iload hx hb dX5_merge_104 (lv_at hl 4 rfl) ?_
        refine lv_bipush (v := 40) hx hb dX5_merge_106 (by decide) ?_
        refine lv_icmp_ge (tgt := 194) hx hb dX5_merge_108 (by decide) (fun c_108 => absurd c_108 (nI_ge hi_4 (by decide))) (fun _ => ?_)
        refine lv_aload_n hx hb dX5_merge_111 rfl (lv_at hl 0 rfl) ?_
        refine va_get (D := D) (ci := 5) (v := .ref (ad 24)) (C := RX5) (T := TX5) (N := 8) hx hb hg inGX5 hown hK hP 5 xo5 rfl 0 (by decide) (hg _ mw_166) (fun _ h9 => h9) xvX5_0 dX5_merge_112 ?_
        refine lv_iload hx hb dX5_merge_115 (lv_at hl 4 rfl) ?_
        refine kL (rSN hx hb hml hown hg hN hK hP hD (c_atL l D cI cJ (XW ad cI cJ co fl ra li p_4 wa pi) 24 (ad 24) 40 (gB p_4 0) (nI i_4) (xg24 rfl) (by decide)) mw_81 nw_84 mw_83 mw_77 pd_X7_at_ ⟨Nat.le_of_ble_eq_true rfl, Nat.le_of_ble_eq_true rfl⟩ rfl hl.1 rfl (Nat.le_of_ble_eq_true rfl) dX5_merge_117 ⟨Nat.le_of_ble_eq_true rfl, Nat.le_of_ble_eq_true rfl⟩) hD hS hA (fun r_5 u_5 H locs hp hP hD hS => ?_)
        obtain ⟨er, eu⟩ := hp
        obtain rfl := er.symm
        obtain rfl := eu.symm
        refine lv_lstore (lv' := [(8, .long (rdL (gB p_4 0) 40 (nI i_4))), (0, .ref (ad 5)), (1, .long l1), (3, .int k1), (4, .int (b2i b1)), (7, .int (nI i_4))]) hx hb dX5_merge_120 hl (by decide) rfl (fun ls hl => ?_)
        refine lv_lload hx hb dX5_merge_122 (lv_at hl 0 rfl) ?_
        refine lv_lload_n hx hb dX5_merge_124 rfl (lv_at hl 2 rfl) ?_
        refine lv_land hx hb dX5_merge_125 ?_
        refine lv_lconst (v := 0) hx hb dX5_merge_126 (by decide) ?_
        refine W.lcmp hx hb dX5_merge_127 ?_
        refine lv_if_eq (tgt := 153) hx hb dX5_merge_128 (by decide) (fun c_128 => ?_) (fun c_128 => ?_)
        · have c_128 : ((rdL (gB p_4 0) 40 (nI i_4)) &&& l1) = 0 := lcmp_0 c_128
          refine lv_aload_n hx hb dX5_merge_153 rfl (lv_at hl 1 rfl) ?_
          refine va_get (D := D) (ci := 5) (v := .ref (ad 25)) (C := RX5) (T := TX5) (N := 8) hx hb hg inGX5 hown hK hP 5 xo5 rfl 1 (by decide) (hg _ mw_179) (fun _ h9 => h9) xvX5_1 dX5_merge_154 ?_
          refine lv_iload hx hb dX5_merge_157 (lv_at hl 5 rfl) ?_
          refine kI (rSN hx hb hml hown hg hN hK hP hD (c_at l D cI cJ (XW ad cI cJ co fl ra li p_4 wa pi) 25 (ad 25) 40 (gA p_4 0) (nI i_4) (xg25 rfl) (by decide)) mw_84 nw_89 mw_85 mw_77 pd_X7_at ⟨Nat.le_of_ble_eq_true rfl, Nat.le_of_ble_eq_true rfl⟩ rfl hl.1 rfl (Nat.le_of_ble_eq_true rfl) dX5_merge_159 ⟨Nat.le_of_ble_eq_true rfl, Nat.le_of_ble_eq_true rfl⟩) hD hS hA (fun r_6 u_6 H locs hp hP hD hS => ?_)
          obtain ⟨er, eu⟩ := hp
          obtain rfl := er.symm
          obtain rfl := eu.symm
          refine lv_istore (lv' := [(10, .int (rd (gA p_4 0) 40 (nI i_4))), (8, .long (rdL (gB p_4 0) 40 (nI i_4))), (0, .ref (ad 5)), (1, .long l1), (3, .int k1), (4, .int (b2i b1)), (7, .int (nI i_4))]) hx hb dX5_merge_162 hl (by decide) rfl (fun ls hl => ?_)
          refine lv_iload hx hb dX5_merge_164 (lv_at hl 0 rfl) ?_
          refine lv_if_lt (tgt := 188) hx hb dX5_merge_166 (by decide) (fun c_166 => ?_) (fun c_166 => ?_)
          · refine lv_iinc (v := (nI (i_4 + 1))) (lv' := [(7, .int (nI (i_4 + 1))), (10, .int (rd (gA p_4 0) 40 (nI i_4))), (8, .long (rdL (gB p_4 0) 40 (nI i_4))), (0, .ref (ad 5)), (1, .long l1), (3, .int k1), (4, .int (b2i b1))]) hx hb dX5_merge_188 hl (k := 6) rfl (nI_1 i_4) (by decide) rfl (fun ls hl => ?_)
            refine lv_goto (tgt := 104) hx hb dX5_merge_191 (by decide) ?_
            exact ih_4 p_4 H locs ls ⟨((show p_4 = (mgB l1 k1) i_4 p_4 from (by simp only [mgB, mgC, mgD, bf_of c_67, eq_true c_128, eq_true c_166, gi_sl, gi_sA, gi_sB, gi_si_s, gi_si_n, gl_si, gl_sA, gl_sB, gl_sl_s, gl_sl_n, gA_si, gA_sl, gA_sB, gA_sA_s, gA_sA_n, gB_si, gB_sl, gB_sA, gB_sB_s, gB_sB_n, Nat.reduceBEq, if_true, if_false, eq_self, Bool.false_eq_true, Bool.true_eq_false, not_true_eq_false, not_false_eq_true, decide_true, decide_false, cond_true, cond_false, Bool.true_and, Bool.false_and, Bool.and_true, Bool.and_false, Bool.true_or, Bool.false_or, Bool.or_true, Bool.or_false, b2i_tt, b2i_ff, pr_eta]; done)).trans (lp_go h_4)), hP, hD, hS, lv_sub hl [3, 4, 5, 6, 0] rfl⟩
          · refine lv_lload_n hx hb dX5_merge_169 rfl (lv_at hl 3 rfl) ?_
            refine lv_iload hx hb dX5_merge_170 (lv_at hl 0 rfl) ?_
            refine kI (rSN hx hb hml hown hg hN hK hP hD (c_has l D cI cJ (XW ad cI cJ co fl ra li p_4 wa pi) l1 (rd (gA p_4 0) 40 (nI i_4))) mw_89 nw_83 mw_90 mw_77 pd_X7_has ⟨Nat.le_of_ble_eq_true rfl, Nat.le_of_ble_eq_true rfl⟩ rfl hl.1 rfl (Nat.le_of_ble_eq_true rfl) dX5_merge_172 ⟨Nat.le_of_ble_eq_true rfl, Nat.le_of_ble_eq_true rfl⟩) hD hS hA (fun r_7 u_7 H locs hp hP hD hS => ?_)
            obtain ⟨er, eu⟩ := hp
            obtain rfl := er.symm
            obtain rfl := eu.symm
            refine lv_if_eq (tgt := 188) hx hb dX5_merge_175 (by decide) (fun c_175 => ?_) (fun c_175 => ?_)
            · have c_175 : ¬ (hs l1 (rd (gA p_4 0) 40 (nI i_4))) = true := b2i_0 c_175
              refine lv_iinc (v := (nI (i_4 + 1))) (lv' := [(7, .int (nI (i_4 + 1))), (10, .int (rd (gA p_4 0) 40 (nI i_4))), (8, .long (rdL (gB p_4 0) 40 (nI i_4))), (0, .ref (ad 5)), (1, .long l1), (3, .int k1), (4, .int (b2i b1))]) hx hb dX5_merge_188 hl (k := 6) rfl (nI_1 i_4) (by decide) rfl (fun ls hl => ?_)
              refine lv_goto (tgt := 104) hx hb dX5_merge_191 (by decide) ?_
              exact ih_4 p_4 H locs ls ⟨((show p_4 = (mgB l1 k1) i_4 p_4 from (by simp only [mgB, mgC, mgD, bf_of c_67, eq_true c_128, eq_false c_166, bf_of c_175, gi_sl, gi_sA, gi_sB, gi_si_s, gi_si_n, gl_si, gl_sA, gl_sB, gl_sl_s, gl_sl_n, gA_si, gA_sl, gA_sB, gA_sA_s, gA_sA_n, gB_si, gB_sl, gB_sA, gB_sB_s, gB_sB_n, Nat.reduceBEq, if_true, if_false, eq_self, Bool.false_eq_true, Bool.true_eq_false, not_true_eq_false, not_false_eq_true, decide_true, decide_false, cond_true, cond_false, Bool.true_and, Bool.false_and, Bool.and_true, Bool.and_false, Bool.true_or, Bool.false_or, Bool.or_true, Bool.or_false, b2i_tt, b2i_ff, pr_eta]; done)).trans (lp_go h_4)), hP, hD, hS, lv_sub hl [3, 4, 5, 6, 0] rfl⟩
            · have c_175 : (hs l1 (rd (gA p_4 0) 40 (nI i_4))) = true := b2i_1 c_175
              refine lv_aload_n hx hb dX5_merge_178 rfl (lv_at hl 2 rfl) ?_
              refine va_get (D := D) (ci := 5) (v := .ref (ad 25)) (C := RX5) (T := TX5) (N := 8) hx hb hg inGX5 hown hK hP 5 xo5 rfl 1 (by decide) (hg _ mw_179) (fun _ h9 => h9) xvX5_1 dX5_merge_179 ?_
              refine lv_iload hx hb dX5_merge_182 (lv_at hl 6 rfl) ?_
              refine lv_iload_n hx hb dX5_merge_184 rfl (lv_at hl 4 rfl) ?_
              refine kV (rSN hx hb hml hown hg hN hK hP hD (c_put l D cI cJ (XW ad cI cJ co fl ra li p_4 wa pi) 25 (ad 25) 40 (gA p_4 0) (nI i_4) k1 (xg25 rfl) (by decide)) mw_92 nw_86 mw_93 mw_77 pd_X7_put ⟨Nat.le_of_ble_eq_true rfl, Nat.le_of_ble_eq_true rfl⟩ rfl hl.1 rfl (Nat.le_of_ble_eq_true rfl) dX5_merge_185 ⟨Nat.le_of_ble_eq_true rfl, Nat.le_of_ble_eq_true rfl⟩) hD hS hA (fun u_8 H locs hp hP hD hS => ?_)
              obtain rfl := hp.symm
              have hP : va_P D vwCl (XW ad cI cJ co fl ra li (sA p_4 0 (wr (gA p_4 0) 40 (nI i_4) k1)) wa pi) H := cgP xs25 hP
              have hD : va_D A (XW ad cI cJ co fl ra li (sA p_4 0 (wr (gA p_4 0) 40 (nI i_4) k1)) wa pi) := cgD xs25 hD
              refine lv_iinc (v := (nI (i_4 + 1))) (lv' := [(7, .int (nI (i_4 + 1))), (10, .int (rd (gA p_4 0) 40 (nI i_4))), (8, .long (rdL (gB p_4 0) 40 (nI i_4))), (0, .ref (ad 5)), (1, .long l1), (3, .int k1), (4, .int (b2i b1))]) hx hb dX5_merge_188 hl (k := 6) rfl (nI_1 i_4) (by decide) rfl (fun ls hl => ?_)
              refine lv_goto (tgt := 104) hx hb dX5_merge_191 (by decide) ?_
              exact ih_4 (sA p_4 0 (wr (gA p_4 0) 40 (nI i_4) k1)) H locs ls ⟨((show (sA p_4 0 (wr (gA p_4 0) 40 (nI i_4) k1)) = (mgB l1 k1) i_4 p_4 from (by simp only [mgB, mgC, mgD, bf_of c_67, eq_true c_128, eq_false c_166, c_175, gi_sl, gi_sA, gi_sB, gi_si_s, gi_si_n, gl_si, gl_sA, gl_sB, gl_sl_s, gl_sl_n, gA_si, gA_sl, gA_sB, gA_sA_s, gA_sA_n, gB_si, gB_sl, gB_sA, gB_sB_s, gB_sB_n, Nat.reduceBEq, if_true, if_false, eq_self, Bool.false_eq_true, Bool.true_eq_false, not_true_eq_false, not_false_eq_true, decide_true, decide_false, cond_true, cond_false, Bool.true_and, Bool.false_and, Bool.and_true, Bool.and_false, Bool.true_or, Bool.false_or, Bool.or_true, Bool.or_false, b2i_tt, b2i_ff, pr_eta]; done)).trans (lp_go h_4)), hP, hD, hS, lv_sub hl [3, 4, 5, 6, 0] rfl⟩
        · have c_128 : ¬ ((rdL (gB p_4 0) 40 (nI i_4)) &&& l1) = 0 := lcmp_1 c_128
          refine lv_aload_n hx hb dX5_merge_131 rfl (lv_at hl 1 rfl) ?_
          refine va_get (D := D) (ci := 5) (v := .ref (ad 24)) (C := RX5) (T := TX5) (N := 8) hx hb hg inGX5 hown hK hP 5 xo5 rfl 0 (by decide) (hg _ mw_166) (fun _ h9 => h9) xvX5_0 dX5_merge_132 ?_
          refine lv_iload hx hb dX5_merge_135 (lv_at hl 5 rfl) ?_
          refine lv_lload hx hb dX5_merge_137 (lv_at hl 0 rfl) ?_
          refine lv_lload_n hx hb dX5_merge_139 rfl (lv_at hl 2 rfl) ?_
          refine lv_ldc2 (v := (-1)) hx hb hown (hg _ mw_168) dX5_merge_140 ?_
          refine lv_lxor hx hb dX5_merge_143 ?_
          refine lv_land hx hb dX5_merge_144 ?_
          refine lv_iload_n hx hb dX5_merge_145 rfl (lv_at hl 3 rfl) ?_
          refine kL (rSN hx hb hml hown hg hN hK hP hD (c_bit l D cI cJ (XW ad cI cJ co fl ra li p_4 wa pi) k1) mw_78 nw_87 mw_80 mw_77 pd_X7_bit ⟨Nat.le_of_ble_eq_true rfl, Nat.le_of_ble_eq_true rfl⟩ rfl hl.1 rfl (Nat.le_of_ble_eq_true rfl) dX5_merge_146 ⟨Nat.le_of_ble_eq_true rfl, Nat.le_of_ble_eq_true rfl⟩) hD hS hA (fun r_9 u_9 H locs hp hP hD hS => ?_)
          obtain ⟨er, eu⟩ := hp
          obtain rfl := er.symm
          obtain rfl := eu.symm
          refine lv_lor hx hb dX5_merge_149 ?_
          refine kV (rSN hx hb hml hown hg hN hK hP hD (c_putL l D cI cJ (XW ad cI cJ co fl ra li p_4 wa pi) 24 (ad 24) 40 (gB p_4 0) (nI i_4) (((rdL (gB p_4 0) 40 (nI i_4)) &&& (l1 ^^^ (-1))) ||| (bitL k1)) (xg24 rfl) (by decide)) mw_97 nw_85 mw_98 mw_77 pd_X7_put_ ⟨Nat.le_of_ble_eq_true rfl, Nat.le_of_ble_eq_true rfl⟩ rfl hl.1 rfl (Nat.le_of_ble_eq_true rfl) dX5_merge_150 ⟨Nat.le_of_ble_eq_true rfl, Nat.le_of_ble_eq_true rfl⟩) hD hS hA (fun u_10 H locs hp hP hD hS => ?_)
          obtain rfl := hp.symm
          have hP : va_P D vwCl (XW ad cI cJ co fl ra li (sB p_4 0 (wrL (gB p_4 0) 40 (nI i_4) (((rdL (gB p_4 0) 40 (nI i_4)) &&& (l1 ^^^ (-1))) ||| (bitL k1)))) wa pi) H := cgP xs24 hP
          have hD : va_D A (XW ad cI cJ co fl ra li (sB p_4 0 (wrL (gB p_4 0) 40 (nI i_4) (((rdL (gB p_4 0) 40 (nI i_4)) &&& (l1 ^^^ (-1))) ||| (bitL k1)))) wa pi) := cgD xs24 hD
          refine lv_aload_n hx hb dX5_merge_153 rfl (lv_at hl 1 rfl) ?_
          refine va_get (D := D) (ci := 5) (v := .ref (ad 25)) (C := RX5) (T := TX5) (N := 8) hx hb hg inGX5 hown hK hP 5 xo5 rfl 1 (by decide) (hg _ mw_179) (fun _ h9 => h9) xvX5_1 dX5_merge_154 ?_
          refine lv_iload hx hb dX5_merge_157 (lv_at hl 5 rfl) ?_
          refine kI (rSN hx hb hml hown hg hN hK hP hD (c_at l D cI cJ (XW ad cI cJ co fl ra li (sB p_4 0 (wrL (gB p_4 0) 40 (nI i_4) (((rdL (gB p_4 0) 40 (nI i_4)) &&& (l1 ^^^ (-1))) ||| (bitL k1)))) wa pi) 25 (ad 25) 40 (gA p_4 0) (nI i_4) (xg25 (by simp only [gi_sl, gi_sA, gi_sB, gi_si_s, gi_si_n, gl_si, gl_sA, gl_sB, gl_sl_s, gl_sl_n, gA_si, gA_sl, gA_sB, gA_sA_s, gA_sA_n, gB_si, gB_sl, gB_sA, gB_sB_s, gB_sB_n, Nat.reduceBEq])) (by decide)) mw_84 nw_89 mw_85 mw_77 pd_X7_at ⟨Nat.le_of_ble_eq_true rfl, Nat.le_of_ble_eq_true rfl⟩ rfl hl.1 rfl (Nat.le_of_ble_eq_true rfl) dX5_merge_159 ⟨Nat.le_of_ble_eq_true rfl, Nat.le_of_ble_eq_true rfl⟩) hD hS hA (fun r_11 u_11 H locs hp hP hD hS => ?_)
          obtain ⟨er, eu⟩ := hp
          obtain rfl := er.symm
          obtain rfl := eu.symm
          refine lv_istore (lv' := [(10, .int (rd (gA p_4 0) 40 (nI i_4))), (8, .long (rdL (gB p_4 0) 40 (nI i_4))), (0, .ref (ad 5)), (1, .long l1), (3, .int k1), (4, .int (b2i b1)), (7, .int (nI i_4))]) hx hb dX5_merge_162 hl (by decide) rfl (fun ls hl => ?_)
          refine lv_iload hx hb dX5_merge_164 (lv_at hl 0 rfl) ?_
          refine lv_if_lt (tgt := 188) hx hb dX5_merge_166 (by decide) (fun c_166 => ?_) (fun c_166 => ?_)
          · refine lv_iinc (v := (nI (i_4 + 1))) (lv' := [(7, .int (nI (i_4 + 1))), (10, .int (rd (gA p_4 0) 40 (nI i_4))), (8, .long (rdL (gB p_4 0) 40 (nI i_4))), (0, .ref (ad 5)), (1, .long l1), (3, .int k1), (4, .int (b2i b1))]) hx hb dX5_merge_188 hl (k := 6) rfl (nI_1 i_4) (by decide) rfl (fun ls hl => ?_)
            refine lv_goto (tgt := 104) hx hb dX5_merge_191 (by decide) ?_
            exact ih_4 (sB p_4 0 (wrL (gB p_4 0) 40 (nI i_4) (((rdL (gB p_4 0) 40 (nI i_4)) &&& (l1 ^^^ (-1))) ||| (bitL k1)))) H locs ls ⟨((show (sB p_4 0 (wrL (gB p_4 0) 40 (nI i_4) (((rdL (gB p_4 0) 40 (nI i_4)) &&& (l1 ^^^ (-1))) ||| (bitL k1)))) = (mgB l1 k1) i_4 p_4 from (by simp only [mgB, mgC, mgD, bf_of c_67, eq_false c_128, eq_true c_166, gi_sl, gi_sA, gi_sB, gi_si_s, gi_si_n, gl_si, gl_sA, gl_sB, gl_sl_s, gl_sl_n, gA_si, gA_sl, gA_sB, gA_sA_s, gA_sA_n, gB_si, gB_sl, gB_sA, gB_sB_s, gB_sB_n, Nat.reduceBEq, if_true, if_false, eq_self, Bool.false_eq_true, Bool.true_eq_false, not_true_eq_false, not_false_eq_true, decide_true, decide_false, cond_true, cond_false, Bool.true_and, Bool.false_and, Bool.and_true, Bool.and_false, Bool.true_or, Bool.false_or, Bool.or_true, Bool.or_false, b2i_tt, b2i_ff, pr_eta]; done)).trans (lp_go h_4)), hP, hD, hS, lv_sub hl [3, 4, 5, 6, 0] rfl⟩
          · refine lv_lload_n hx hb dX5_merge_169 rfl (lv_at hl 3 rfl) ?_
            refine lv_iload hx hb dX5_merge_170 (lv_at hl 0 rfl) ?_
            refine kI (rSN hx hb hml hown hg hN hK hP hD (c_has l D cI cJ (XW ad cI cJ co fl ra li (sB p_4 0 (wrL (gB p_4 0) 40 (nI i_4) (((rdL (gB p_4 0) 40 (nI i_4)) &&& (l1 ^^^ (-1))) ||| (bitL k1)))) wa pi) l1 (rd (gA p_4 0) 40 (nI i_4))) mw_89 nw_83 mw_90 mw_77 pd_X7_has ⟨Nat.le_of_ble_eq_true rfl, Nat.le_of_ble_eq_true rfl⟩ rfl hl.1 rfl (Nat.le_of_ble_eq_true rfl) dX5_merge_172 ⟨Nat.le_of_ble_eq_true rfl, Nat.le_of_ble_eq_true rfl⟩) hD hS hA (fun r_12 u_12 H locs hp hP hD hS => ?_)
            obtain ⟨er, eu⟩ := hp
            obtain rfl := er.symm
            obtain rfl := eu.symm
            refine lv_if_eq (tgt := 188) hx hb dX5_merge_175 (by decide) (fun c_175 => ?_) (fun c_175 => ?_)
            · have c_175 : ¬ (hs l1 (rd (gA p_4 0) 40 (nI i_4))) = true := b2i_0 c_175
              refine lv_iinc (v := (nI (i_4 + 1))) (lv' := [(7, .int (nI (i_4 + 1))), (10, .int (rd (gA p_4 0) 40 (nI i_4))), (8, .long (rdL (gB p_4 0) 40 (nI i_4))), (0, .ref (ad 5)), (1, .long l1), (3, .int k1), (4, .int (b2i b1))]) hx hb dX5_merge_188 hl (k := 6) rfl (nI_1 i_4) (by decide) rfl (fun ls hl => ?_)
              refine lv_goto (tgt := 104) hx hb dX5_merge_191 (by decide) ?_
              exact ih_4 (sB p_4 0 (wrL (gB p_4 0) 40 (nI i_4) (((rdL (gB p_4 0) 40 (nI i_4)) &&& (l1 ^^^ (-1))) ||| (bitL k1)))) H locs ls ⟨((show (sB p_4 0 (wrL (gB p_4 0) 40 (nI i_4) (((rdL (gB p_4 0) 40 (nI i_4)) &&& (l1 ^^^ (-1))) ||| (bitL k1)))) = (mgB l1 k1) i_4 p_4 from (by simp only [mgB, mgC, mgD, bf_of c_67, eq_false c_128, eq_false c_166, bf_of c_175, gi_sl, gi_sA, gi_sB, gi_si_s, gi_si_n, gl_si, gl_sA, gl_sB, gl_sl_s, gl_sl_n, gA_si, gA_sl, gA_sB, gA_sA_s, gA_sA_n, gB_si, gB_sl, gB_sA, gB_sB_s, gB_sB_n, Nat.reduceBEq, if_true, if_false, eq_self, Bool.false_eq_true, Bool.true_eq_false, not_true_eq_false, not_false_eq_true, decide_true, decide_false, cond_true, cond_false, Bool.true_and, Bool.false_and, Bool.and_true, Bool.and_false, Bool.true_or, Bool.false_or, Bool.or_true, Bool.or_false, b2i_tt, b2i_ff, pr_eta]; done)).trans (lp_go h_4)), hP, hD, hS, lv_sub hl [3, 4, 5, 6, 0] rfl⟩
            · have c_175 : (hs l1 (rd (gA p_4 0) 40 (nI i_4))) = true := b2i_1 c_175
              refine lv_aload_n hx hb dX5_merge_178 rfl (lv_at hl 2 rfl) ?_
              refine va_get (D := D) (ci := 5) (v := .ref (ad 25)) (C := RX5) (T := TX5) (N := 8) hx hb hg inGX5 hown hK hP 5 xo5 rfl 1 (by decide) (hg _ mw_179) (fun _ h9 => h9) xvX5_1 dX5_merge_179 ?_
              refine lv_iload hx hb dX5_merge_182 (lv_at hl 6 rfl) ?_
              refine lv_iload_n hx hb dX5_merge_184 rfl (lv_at hl 4 rfl) ?_
              refine kV (rSN hx hb hml hown hg hN hK hP hD (c_put l D cI cJ (XW ad cI cJ co fl ra li (sB p_4 0 (wrL (gB p_4 0) 40 (nI i_4) (((rdL (gB p_4 0) 40 (nI i_4)) &&& (l1 ^^^ (-1))) ||| (bitL k1)))) wa pi) 25 (ad 25) 40 (gA p_4 0) (nI i_4) k1 (xg25 (by simp only [gi_sl, gi_sA, gi_sB, gi_si_s, gi_si_n, gl_si, gl_sA, gl_sB, gl_sl_s, gl_sl_n, gA_si, gA_sl, gA_sB, gA_sA_s, gA_sA_n, gB_si, gB_sl, gB_sA, gB_sB_s, gB_sB_n, Nat.reduceBEq])) (by decide)) mw_92 nw_86 mw_93 mw_77 pd_X7_put ⟨Nat.le_of_ble_eq_true rfl, Nat.le_of_ble_eq_true rfl⟩ rfl hl.1 rfl (Nat.le_of_ble_eq_true rfl) dX5_merge_185 ⟨Nat.le_of_ble_eq_true rfl, Nat.le_of_ble_eq_true rfl⟩) hD hS hA (fun u_13 H locs hp hP hD hS => ?_)
              obtain rfl := hp.symm
              have hP : va_P D vwCl (XW ad cI cJ co fl ra li (sA (sB p_4 0 (wrL (gB p_4 0) 40 (nI i_4) (((rdL (gB p_4 0) 40 (nI i_4)) &&& (l1 ^^^ (-1))) ||| (bitL k1)))) 0 (wr (gA p_4 0) 40 (nI i_4) k1)) wa pi) H := cgP xs25 hP
              have hD : va_D A (XW ad cI cJ co fl ra li (sA (sB p_4 0 (wrL (gB p_4 0) 40 (nI i_4) (((rdL (gB p_4 0) 40 (nI i_4)) &&& (l1 ^^^ (-1))) ||| (bitL k1)))) 0 (wr (gA p_4 0) 40 (nI i_4) k1)) wa pi) := cgD xs25 hD
              refine lv_iinc (v := (nI (i_4 + 1))) (lv' := [(7, .int (nI (i_4 + 1))), (10, .int (rd (gA p_4 0) 40 (nI i_4))), (8, .long (rdL (gB p_4 0) 40 (nI i_4))), (0, .ref (ad 5)), (1, .long l1), (3, .int k1), (4, .int (b2i b1))]) hx hb dX5_merge_188 hl (k := 6) rfl (nI_1 i_4) (by decide) rfl (fun ls hl => ?_)
              refine lv_goto (tgt := 104) hx hb dX5_merge_191 (by decide) ?_
              exact ih_4 (sA (sB p_4 0 (wrL (gB p_4 0) 40 (nI i_4) (((rdL (gB p_4 0) 40 (nI i_4)) &&& (l1 ^^^ (-1))) ||| (bitL k1)))) 0 (wr (gA p_4 0) 40 (nI i_4) k1)) H locs ls ⟨((show (sA (sB p_4 0 (wrL (gB p_4 0) 40 (nI i_4) (((rdL (gB p_4 0) 40 (nI i_4)) &&& (l1 ^^^ (-1))) ||| (bitL k1)))) 0 (wr (gA p_4 0) 40 (nI i_4) k1)) = (mgB l1 k1) i_4 p_4 from (by simp only [mgB, mgC, mgD, bf_of c_67, eq_false c_128, eq_false c_166, c_175, gi_sl, gi_sA, gi_sB, gi_si_s, gi_si_n, gl_si, gl_sA, gl_sB, gl_sl_s, gl_sl_n, gA_si, gA_sl, gA_sB, gA_sA_s, gA_sA_n, gB_si, gB_sl, gB_sA, gB_sB_s, gB_sB_n, Nat.reduceBEq, if_true, if_false, eq_self, Bool.false_eq_true, Bool.true_eq_false, not_true_eq_false, not_false_eq_true, decide_true, decide_false, cond_true, cond_false, Bool.true_and, Bool.false_and, Bool.and_true, Bool.and_false, Bool.true_or, Bool.false_or, Bool.or_true, Bool.or_false, b2i_tt, b2i_ff, pr_eta]; done)).trans (lp_go h_4)), hP, hD, hS, lv_sub hl [3, 4, 5, 6, 0] rfl⟩
    · have c_67 : b1 = true := b2i_1 c_67
      refine lv_iload_n hx hb dX5_merge_70 rfl (lv_at hl 2 rfl) ?_
      refine kL (rSN hx hb hml hown hg hN hK hP hD (c_bit l D cI cJ (XW ad cI cJ co fl ra li ((lp (mgA l1) (40) (re, 0)).1) wa pi) k1) mw_78 nw_87 mw_80 mw_77 pd_X7_bit ⟨Nat.le_of_ble_eq_true rfl, Nat.le_of_ble_eq_true rfl⟩ rfl hl.1 rfl (Nat.le_of_ble_eq_true rfl) dX5_merge_71 ⟨Nat.le_of_ble_eq_true rfl, Nat.le_of_ble_eq_true rfl⟩) hD hS hA (fun r_14 u_14 H locs hp hP hD hS => ?_)
      obtain ⟨er, eu⟩ := hp
      obtain rfl := er.symm
      obtain rfl := eu.symm
      refine lv_goto (tgt := 78) hx hb dX5_merge_74 (by decide) ?_
      refine lv_lor hx hb dX5_merge_78 ?_
      refine kV (rSN hx hb hml hown hg hN hK hP hD (c_putL l D cI cJ (XW ad cI cJ co fl ra li ((lp (mgA l1) (40) (re, 0)).1) wa pi) 24 (ad 24) 40 (gB ((lp (mgA l1) (40) (re, 0)).1) 0) k1 ((((lp (mgA l1) (40) (re, 0)).2) &&& (l1 ^^^ (-1))) ||| (bitL k1)) (xg24 rfl) (by decide)) mw_97 nw_85 mw_98 mw_77 pd_X7_put_ ⟨Nat.le_of_ble_eq_true rfl, Nat.le_of_ble_eq_true rfl⟩ rfl hl.1 rfl (Nat.le_of_ble_eq_true rfl) dX5_merge_79 ⟨Nat.le_of_ble_eq_true rfl, Nat.le_of_ble_eq_true rfl⟩) hD hS hA (fun u_15 H locs hp hP hD hS => ?_)
      obtain rfl := hp.symm
      have hP : va_P D vwCl (XW ad cI cJ co fl ra li (sB ((lp (mgA l1) (40) (re, 0)).1) 0 (wrL (gB ((lp (mgA l1) (40) (re, 0)).1) 0) 40 k1 ((((lp (mgA l1) (40) (re, 0)).2) &&& (l1 ^^^ (-1))) ||| (bitL k1)))) wa pi) H := cgP xs24 hP
      have hD : va_D A (XW ad cI cJ co fl ra li (sB ((lp (mgA l1) (40) (re, 0)).1) 0 (wrL (gB ((lp (mgA l1) (40) (re, 0)).1) 0) 40 k1 ((((lp (mgA l1) (40) (re, 0)).2) &&& (l1 ^^^ (-1))) ||| (bitL k1)))) wa pi) := cgD xs24 hD
      refine lv_aload_n hx hb dX5_merge_82 rfl (lv_at hl 0 rfl) ?_
      refine lv_aload_n hx hb dX5_merge_83 rfl (lv_at hl 0 rfl) ?_
      refine va_get (D := D) (ci := 5) (v := .long (gl ((lp (mgA l1) (40) (re, 0)).1) 0)) (C := RX5) (T := TX5) (N := 8) hx hb hg inGX5 hown hK hP 5 xo5 rfl 5 (by decide) (hg _ mw_178) (fun _ h9 => h9) (xvX5_5 (by simp only [gi_sl, gi_sA, gi_sB, gi_si_s, gi_si_n, gl_si, gl_sA, gl_sB, gl_sl_s, gl_sl_n, gA_si, gA_sl, gA_sB, gA_sA_s, gA_sA_n, gB_si, gB_sl, gB_sA, gB_sB_s, gB_sB_n, Nat.reduceBEq])) dX5_merge_84 ?_
      refine lv_lload_n hx hb dX5_merge_87 rfl (lv_at hl 1 rfl) ?_
      refine lv_ldc2 (v := (-1)) hx hb hown (hg _ mw_168) dX5_merge_88 ?_
      refine lv_lxor hx hb dX5_merge_91 ?_
      refine lv_land hx hb dX5_merge_92 ?_
      refine lv_iload_n hx hb dX5_merge_93 rfl (lv_at hl 2 rfl) ?_
      refine kL (rSN hx hb hml hown hg hN hK hP hD (c_bit l D cI cJ (XW ad cI cJ co fl ra li (sB ((lp (mgA l1) (40) (re, 0)).1) 0 (wrL (gB ((lp (mgA l1) (40) (re, 0)).1) 0) 40 k1 ((((lp (mgA l1) (40) (re, 0)).2) &&& (l1 ^^^ (-1))) ||| (bitL k1)))) wa pi) k1) mw_78 nw_87 mw_80 mw_77 pd_X7_bit ⟨Nat.le_of_ble_eq_true rfl, Nat.le_of_ble_eq_true rfl⟩ rfl hl.1 rfl (Nat.le_of_ble_eq_true rfl) dX5_merge_94 ⟨Nat.le_of_ble_eq_true rfl, Nat.le_of_ble_eq_true rfl⟩) hD hS hA (fun r_16 u_16 H locs hp hP hD hS => ?_)
      obtain ⟨er, eu⟩ := hp
      obtain rfl := er.symm
      obtain rfl := eu.symm
      refine lv_lor hx hb dX5_merge_97 ?_
      refine va_put (D := D) (ci := 5) (v := .long (((gl ((lp (mgA l1) (40) (re, 0)).1) 0) &&& (l1 ^^^ (-1))) ||| (bitL k1))) (C := RX5) (T := TX5) (N := 8) hx hb hg inGX5 tyX5 tyX5_ok nmX5 hown hK hP hD hS 5 xo5 rfl 5 (by decide) (hg _ mw_178) (fun _ h9 => h9) rfl (tyX5_ok 5 (by decide)) rfl rfl (Nat.le_of_ble_eq_true rfl) dX5_merge_98 (fun H locs hP hD hS => ?_)
      have hP : va_P D vwCl (XW ad cI cJ co fl ra li (sl (sB ((lp (mgA l1) (40) (re, 0)).1) 0 (wrL (gB ((lp (mgA l1) (40) (re, 0)).1) 0) 40 k1 ((((lp (mgA l1) (40) (re, 0)).2) &&& (l1 ^^^ (-1))) ||| (bitL k1)))) 0 (((gl ((lp (mgA l1) (40) (re, 0)).1) 0) &&& (l1 ^^^ (-1))) ||| (bitL k1))) wa pi) H := cgP xpX5_5 hP
      have hD : va_D A (XW ad cI cJ co fl ra li (sl (sB ((lp (mgA l1) (40) (re, 0)).1) 0 (wrL (gB ((lp (mgA l1) (40) (re, 0)).1) 0) 40 k1 ((((lp (mgA l1) (40) (re, 0)).2) &&& (l1 ^^^ (-1))) ||| (bitL k1)))) 0 (((gl ((lp (mgA l1) (40) (re, 0)).1) 0) &&& (l1 ^^^ (-1))) ||| (bitL k1))) wa pi) := cgD xpX5_5 hD
      refine lv_iconst (v := 0) hx hb dX5_merge_101 (by decide) ?_
      refine lv_istore (lv' := [(7, .int 0), (0, .ref (ad 5)), (1, .long l1), (3, .int k1), (4, .int (b2i b1)), (5, .long ((lp (mgA l1) (40) (re, 0)).2))]) hx hb dX5_merge_102 hl (by decide) rfl (fun ls hl => ?_)
      refine w_loop (σ := Ob) (fun (i_17 : Nat) (p_17 : Ob) (H : Heap) (locs : List Loc) (ls : Array Slot) => p_17 = (lp (mgB l1 k1) i_17 (sl (sB ((lp (mgA l1) (40) (re, 0)).1) 0 (wrL (gB ((lp (mgA l1) (40) (re, 0)).1) 0) 40 k1 ((((lp (mgA l1) (40) (re, 0)).2) &&& (l1 ^^^ (-1))) ||| (bitL k1)))) 0 (((gl ((lp (mgA l1) (40) (re, 0)).1) 0) &&& (l1 ^^^ (-1))) ||| (bitL k1)))) ∧ va_P D vwCl (XW ad cI cJ co fl ra li p_17 wa pi) H ∧ va_D A (XW ad cI cJ co fl ra li p_17 wa pi) ∧ va_S A s.heap H locs ∧ lv_has ls 11 [(0, .ref (ad 5)), (1, .long l1), (3, .int k1), (4, .int (b2i b1)), (7, .int (nI i_17))]) (40) (fun p_17 H locs ls hI => ?_) (fun i_17 p_17 H locs ls hi_17 hI ih_17 => ?_) 0 (sl (sB ((lp (mgA l1) (40) (re, 0)).1) 0 (wrL (gB ((lp (mgA l1) (40) (re, 0)).1) 0) 40 k1 ((((lp (mgA l1) (40) (re, 0)).2) &&& (l1 ^^^ (-1))) ||| (bitL k1)))) 0 (((gl ((lp (mgA l1) (40) (re, 0)).1) 0) &&& (l1 ^^^ (-1))) ||| (bitL k1))) (Nat.zero_le _) ⟨(lp_0 _ _), hP, hD, hS, (by rw [nI_0]; exact lv_sub hl [1, 2, 3, 4, 0] rfl)⟩
      · obtain ⟨h_17, hP, hD, hS, hl⟩ := hI
        have h_17 := h_17.symm
        subst h_17
        have hP : va_P D vwCl (XW ad cI cJ co fl ra li ((lp (mgB l1 k1) (40) (sl (sB ((lp (mgA l1) (40) (re, 0)).1) 0 (wrL (gB ((lp (mgA l1) (40) (re, 0)).1) 0) 40 k1 ((((lp (mgA l1) (40) (re, 0)).2) &&& (l1 ^^^ (-1))) ||| (bitL k1)))) 0 (((gl ((lp (mgA l1) (40) (re, 0)).1) 0) &&& (l1 ^^^ (-1))) ||| (bitL k1))))) wa pi) H := hP
        have hD : va_D A (XW ad cI cJ co fl ra li ((lp (mgB l1 k1) (40) (sl (sB ((lp (mgA l1) (40) (re, 0)).1) 0 (wrL (gB ((lp (mgA l1) (40) (re, 0)).1) 0) 40 k1 ((((lp (mgA l1) (40) (re, 0)).2) &&& (l1 ^^^ (-1))) ||| (bitL k1)))) 0 (((gl ((lp (mgA l1) (40) (re, 0)).1) 0) &&& (l1 ^^^ (-1))) ||| (bitL k1))))) wa pi) := hD
        have hl : lv_has ls 11 [(0, .ref (ad 5)), (1, .long l1), (3, .int k1), (4, .int (b2i b1)), (7, .int (nI 40))] := hl
        refine lv_iload hx hb dX5_merge_104 (lv_at hl 4 rfl) ?_
        refine lv_bipush (v := 40) hx hb dX5_merge_106 (by decide) ?_
        refine lv_icmp_ge (tgt := 194) hx hb dX5_merge_108 (by decide) (fun _ => ?_) (fun c_108 => absurd (by decide) c_108)
        exact W.vret hx hb hr (fun t ht hW => ⟨⟨(XW ad cI cJ co fl ra li ((lp (mgB l1 k1) (40) (sl (sB ((lp (mgA l1) (40) (re, 0)).1) 0 (wrL (gB ((lp (mgA l1) (40) (re, 0)).1) 0) 40 k1 ((((lp (mgA l1) (40) (re, 0)).2) &&& (l1 ^^^ (-1))) ||| (bitL k1)))) 0 (((gl ((lp (mgA l1) (40) (re, 0)).1) 0) &&& (l1 ^^^ (-1))) ||| (bitL k1))))) wa pi), rfl, xw_eq rfl rfl rfl rfl (show ((lp (mgB l1 k1) (40) (sl (sB ((lp (mgA l1) (40) (re, 0)).1) 0 (wrL (gB ((lp (mgA l1) (40) (re, 0)).1) 0) 40 k1 ((((lp (mgA l1) (40) (re, 0)).2) &&& (l1 ^^^ (-1))) ||| (bitL k1)))) 0 (((gl ((lp (mgA l1) (40) (re, 0)).1) 0) &&& (l1 ^^^ (-1))) ||| (bitL k1))))) = (merge re l1 k1 b1) from (by simp only [merge, mgN, c_67, gi_sl, gi_sA, gi_sB, gi_si_s, gi_si_n, gl_si, gl_sA, gl_sB, gl_sl_s, gl_sl_n, gA_si, gA_sl, gA_sB, gA_sA_s, gA_sA_n, gB_si, gB_sl, gB_sA, gB_sB_s, gB_sB_n, Nat.reduceBEq, if_true, if_false, eq_self, Bool.false_eq_true, Bool.true_eq_false, not_true_eq_false, not_false_eq_true, decide_true, decide_false, cond_true, cond_false, Bool.true_and, Bool.false_and, Bool.and_true, Bool.and_false, Bool.true_or, Bool.false_or, Bool.or_true, Bool.or_false, b2i_tt, b2i_ff, pr_eta]; done)) rfl rfl, ⟨by rw [ht]; exact hP, va_K.moved hW.alike hK, hD⟩⟩, hS.F ht⟩) hS.2.2 dX5_merge_194
      · obtain ⟨h_17, hP, hD, hS, hl⟩ := hI
        have hP : va_P D vwCl (XW ad cI cJ co fl ra li p_17 wa pi) H := hP
        have hD : va_D A (XW ad cI cJ co fl ra li p_17 wa pi) := hD
        have hl : lv_has ls 11 [(0, .ref (ad 5)), (1, .long l1), (3, .int k1), (4, .int (b2i b1)), (7, .int (nI i_17))] := hl
        refine lv_iload hx hb dX5_merge_104 (lv_at hl 4 rfl) ?_
        refine lv_bipush (v := 40) hx hb dX5_merge_106 (by decide) ?_
        refine lv_icmp_ge (tgt := 194) hx hb dX5_merge_108 (by decide) (fun c_108 => absurd c_108 (nI_ge hi_17 (by decide))) (fun _ => ?_)
        refine lv_aload_n hx hb dX5_merge_111 rfl (lv_at hl 0 rfl) ?_
        refine va_get (D := D) (ci := 5) (v := .ref (ad 24)) (C := RX5) (T := TX5) (N := 8) hx hb hg inGX5 hown hK hP 5 xo5 rfl 0 (by decide) (hg _ mw_166) (fun _ h9 => h9) xvX5_0 dX5_merge_112 ?_
        refine lv_iload hx hb dX5_merge_115 (lv_at hl 4 rfl) ?_
        refine kL (rSN hx hb hml hown hg hN hK hP hD (c_atL l D cI cJ (XW ad cI cJ co fl ra li p_17 wa pi) 24 (ad 24) 40 (gB p_17 0) (nI i_17) (xg24 rfl) (by decide)) mw_81 nw_84 mw_83 mw_77 pd_X7_at_ ⟨Nat.le_of_ble_eq_true rfl, Nat.le_of_ble_eq_true rfl⟩ rfl hl.1 rfl (Nat.le_of_ble_eq_true rfl) dX5_merge_117 ⟨Nat.le_of_ble_eq_true rfl, Nat.le_of_ble_eq_true rfl⟩) hD hS hA (fun r_18 u_18 H locs hp hP hD hS => ?_)
        obtain ⟨er, eu⟩ := hp
        obtain rfl := er.symm
        obtain rfl := eu.symm
        refine lv_lstore (lv' := [(8, .long (rdL (gB p_17 0) 40 (nI i_17))), (0, .ref (ad 5)), (1, .long l1), (3, .int k1), (4, .int (b2i b1)), (7, .int (nI i_17))]) hx hb dX5_merge_120 hl (by decide) rfl (fun ls hl => ?_)
        refine lv_lload hx hb dX5_merge_122 (lv_at hl 0 rfl) ?_
        refine lv_lload_n hx hb dX5_merge_124 rfl (lv_at hl 2 rfl) ?_
        refine lv_land hx hb dX5_merge_125 ?_
        refine lv_lconst (v := 0) hx hb dX5_merge_126 (by decide) ?_
        refine W.lcmp hx hb dX5_merge_127 ?_
        refine lv_if_eq (tgt := 153) hx hb dX5_merge_128 (by decide) (fun c_128 => ?_) (fun c_128 => ?_)
        · have c_128 : ((rdL (gB p_17 0) 40 (nI i_17)) &&& l1) = 0 := lcmp_0 c_128
          refine lv_aload_n hx hb dX5_merge_153 rfl (lv_at hl 1 rfl) ?_
          refine va_get (D := D) (ci := 5) (v := .ref (ad 25)) (C := RX5) (T := TX5) (N := 8) hx hb hg inGX5 hown hK hP 5 xo5 rfl 1 (by decide) (hg _ mw_179) (fun _ h9 => h9) xvX5_1 dX5_merge_154 ?_
          refine lv_iload hx hb dX5_merge_157 (lv_at hl 5 rfl) ?_
          refine kI (rSN hx hb hml hown hg hN hK hP hD (c_at l D cI cJ (XW ad cI cJ co fl ra li p_17 wa pi) 25 (ad 25) 40 (gA p_17 0) (nI i_17) (xg25 rfl) (by decide)) mw_84 nw_89 mw_85 mw_77 pd_X7_at ⟨Nat.le_of_ble_eq_true rfl, Nat.le_of_ble_eq_true rfl⟩ rfl hl.1 rfl (Nat.le_of_ble_eq_true rfl) dX5_merge_159 ⟨Nat.le_of_ble_eq_true rfl, Nat.le_of_ble_eq_true rfl⟩) hD hS hA (fun r_19 u_19 H locs hp hP hD hS => ?_)
          obtain ⟨er, eu⟩ := hp
          obtain rfl := er.symm
          obtain rfl := eu.symm
          refine lv_istore (lv' := [(10, .int (rd (gA p_17 0) 40 (nI i_17))), (8, .long (rdL (gB p_17 0) 40 (nI i_17))), (0, .ref (ad 5)), (1, .long l1), (3, .int k1), (4, .int (b2i b1)), (7, .int (nI i_17))]) hx hb dX5_merge_162 hl (by decide) rfl (fun ls hl => ?_)
          refine lv_iload hx hb dX5_merge_164 (lv_at hl 0 rfl) ?_
          refine lv_if_lt (tgt := 188) hx hb dX5_merge_166 (by decide) (fun c_166 => ?_) (fun c_166 => ?_)
          · refine lv_iinc (v := (nI (i_17 + 1))) (lv' := [(7, .int (nI (i_17 + 1))), (10, .int (rd (gA p_17 0) 40 (nI i_17))), (8, .long (rdL (gB p_17 0) 40 (nI i_17))), (0, .ref (ad 5)), (1, .long l1), (3, .int k1), (4, .int (b2i b1))]) hx hb dX5_merge_188 hl (k := 6) rfl (nI_1 i_17) (by decide) rfl (fun ls hl => ?_)
            refine lv_goto (tgt := 104) hx hb dX5_merge_191 (by decide) ?_
            exact ih_17 p_17 H locs ls ⟨((show p_17 = (mgB l1 k1) i_17 p_17 from (by simp only [mgB, mgC, mgD, c_67, eq_true c_128, eq_true c_166, gi_sl, gi_sA, gi_sB, gi_si_s, gi_si_n, gl_si, gl_sA, gl_sB, gl_sl_s, gl_sl_n, gA_si, gA_sl, gA_sB, gA_sA_s, gA_sA_n, gB_si, gB_sl, gB_sA, gB_sB_s, gB_sB_n, Nat.reduceBEq, if_true, if_false, eq_self, Bool.false_eq_true, Bool.true_eq_false, not_true_eq_false, not_false_eq_true, decide_true, decide_false, cond_true, cond_false, Bool.true_and, Bool.false_and, Bool.and_true, Bool.and_false, Bool.true_or, Bool.false_or, Bool.or_true, Bool.or_false, b2i_tt, b2i_ff, pr_eta]; done)).trans (lp_go h_17)), hP, hD, hS, lv_sub hl [3, 4, 5, 6, 0] rfl⟩
          · refine lv_lload_n hx hb dX5_merge_169 rfl (lv_at hl 3 rfl) ?_
            refine lv_iload hx hb dX5_merge_170 (lv_at hl 0 rfl) ?_
            refine kI (rSN hx hb hml hown hg hN hK hP hD (c_has l D cI cJ (XW ad cI cJ co fl ra li p_17 wa pi) l1 (rd (gA p_17 0) 40 (nI i_17))) mw_89 nw_83 mw_90 mw_77 pd_X7_has ⟨Nat.le_of_ble_eq_true rfl, Nat.le_of_ble_eq_true rfl⟩ rfl hl.1 rfl (Nat.le_of_ble_eq_true rfl) dX5_merge_172 ⟨Nat.le_of_ble_eq_true rfl, Nat.le_of_ble_eq_true rfl⟩) hD hS hA (fun r_20 u_20 H locs hp hP hD hS => ?_)
            obtain ⟨er, eu⟩ := hp
            obtain rfl := er.symm
            obtain rfl := eu.symm
            refine lv_if_eq (tgt := 188) hx hb dX5_merge_175 (by decide) (fun c_175 => ?_) (fun c_175 => ?_)
            · have c_175 : ¬ (hs l1 (rd (gA p_17 0) 40 (nI i_17))) = true := b2i_0 c_175
              refine lv_iinc (v := (nI (i_17 + 1))) (lv' := [(7, .int (nI (i_17 + 1))), (10, .int (rd (gA p_17 0) 40 (nI i_17))), (8, .long (rdL (gB p_17 0) 40 (nI i_17))), (0, .ref (ad 5)), (1, .long l1), (3, .int k1), (4, .int (b2i b1))]) hx hb dX5_merge_188 hl (k := 6) rfl (nI_1 i_17) (by decide) rfl (fun ls hl => ?_)
              refine lv_goto (tgt := 104) hx hb dX5_merge_191 (by decide) ?_
              exact ih_17 p_17 H locs ls ⟨((show p_17 = (mgB l1 k1) i_17 p_17 from (by simp only [mgB, mgC, mgD, c_67, eq_true c_128, eq_false c_166, bf_of c_175, gi_sl, gi_sA, gi_sB, gi_si_s, gi_si_n, gl_si, gl_sA, gl_sB, gl_sl_s, gl_sl_n, gA_si, gA_sl, gA_sB, gA_sA_s, gA_sA_n, gB_si, gB_sl, gB_sA, gB_sB_s, gB_sB_n, Nat.reduceBEq, if_true, if_false, eq_self, Bool.false_eq_true, Bool.true_eq_false, not_true_eq_false, not_false_eq_true, decide_true, decide_false, cond_true, cond_false, Bool.true_and, Bool.false_and, Bool.and_true, Bool.and_false, Bool.true_or, Bool.false_or, Bool.or_true, Bool.or_false, b2i_tt, b2i_ff, pr_eta]; done)).trans (lp_go h_17)), hP, hD, hS, lv_sub hl [3, 4, 5, 6, 0] rfl⟩
            · have c_175 : (hs l1 (rd (gA p_17 0) 40 (nI i_17))) = true := b2i_1 c_175
              refine lv_aload_n hx hb dX5_merge_178 rfl (lv_at hl 2 rfl) ?_
              refine va_get (D := D) (ci := 5) (v := .ref (ad 25)) (C := RX5) (T := TX5) (N := 8) hx hb hg inGX5 hown hK hP 5 xo5 rfl 1 (by decide) (hg _ mw_179) (fun _ h9 => h9) xvX5_1 dX5_merge_179 ?_
              refine lv_iload hx hb dX5_merge_182 (lv_at hl 6 rfl) ?_
              refine lv_iload_n hx hb dX5_merge_184 rfl (lv_at hl 4 rfl) ?_
              refine kV (rSN hx hb hml hown hg hN hK hP hD (c_put l D cI cJ (XW ad cI cJ co fl ra li p_17 wa pi) 25 (ad 25) 40 (gA p_17 0) (nI i_17) k1 (xg25 rfl) (by decide)) mw_92 nw_86 mw_93 mw_77 pd_X7_put ⟨Nat.le_of_ble_eq_true rfl, Nat.le_of_ble_eq_true rfl⟩ rfl hl.1 rfl (Nat.le_of_ble_eq_true rfl) dX5_merge_185 ⟨Nat.le_of_ble_eq_true rfl, Nat.le_of_ble_eq_true rfl⟩) hD hS hA (fun u_21 H locs hp hP hD hS => ?_)
              obtain rfl := hp.symm
              have hP : va_P D vwCl (XW ad cI cJ co fl ra li (sA p_17 0 (wr (gA p_17 0) 40 (nI i_17) k1)) wa pi) H := cgP xs25 hP
              have hD : va_D A (XW ad cI cJ co fl ra li (sA p_17 0 (wr (gA p_17 0) 40 (nI i_17) k1)) wa pi) := cgD xs25 hD
              refine lv_iinc (v := (nI (i_17 + 1))) (lv' := [(7, .int (nI (i_17 + 1))), (10, .int (rd (gA p_17 0) 40 (nI i_17))), (8, .long (rdL (gB p_17 0) 40 (nI i_17))), (0, .ref (ad 5)), (1, .long l1), (3, .int k1), (4, .int (b2i b1))]) hx hb dX5_merge_188 hl (k := 6) rfl (nI_1 i_17) (by decide) rfl (fun ls hl => ?_)
              refine lv_goto (tgt := 104) hx hb dX5_merge_191 (by decide) ?_
              exact ih_17 (sA p_17 0 (wr (gA p_17 0) 40 (nI i_17) k1)) H locs ls ⟨((show (sA p_17 0 (wr (gA p_17 0) 40 (nI i_17) k1)) = (mgB l1 k1) i_17 p_17 from (by simp only [mgB, mgC, mgD, c_67, eq_true c_128, eq_false c_166, c_175, gi_sl, gi_sA, gi_sB, gi_si_s, gi_si_n, gl_si, gl_sA, gl_sB, gl_sl_s, gl_sl_n, gA_si, gA_sl, gA_sB, gA_sA_s, gA_sA_n, gB_si, gB_sl, gB_sA, gB_sB_s, gB_sB_n, Nat.reduceBEq, if_true, if_false, eq_self, Bool.false_eq_true, Bool.true_eq_false, not_true_eq_false, not_false_eq_true, decide_true, decide_false, cond_true, cond_false, Bool.true_and, Bool.false_and, Bool.and_true, Bool.and_false, Bool.true_or, Bool.false_or, Bool.or_true, Bool.or_false, b2i_tt, b2i_ff, pr_eta]; done)).trans (lp_go h_17)), hP, hD, hS, lv_sub hl [3, 4, 5, 6, 0] rfl⟩
        · have c_128 : ¬ ((rdL (gB p_17 0) 40 (nI i_17)) &&& l1) = 0 := lcmp_1 c_128
          refine lv_aload_n hx hb dX5_merge_131 rfl (lv_at hl 1 rfl) ?_
          refine va_get (D := D) (ci := 5) (v := .ref (ad 24)) (C := RX5) (T := TX5) (N := 8) hx hb hg inGX5 hown hK hP 5 xo5 rfl 0 (by decide) (hg _ mw_166) (fun _ h9 => h9) xvX5_0 dX5_merge_132 ?_
          refine lv_iload hx hb dX5_merge_135 (lv_at hl 5 rfl) ?_
          refine lv_lload hx hb dX5_merge_137 (lv_at hl 0 rfl) ?_
          refine lv_lload_n hx hb dX5_merge_139 rfl (lv_at hl 2 rfl) ?_
          refine lv_ldc2 (v := (-1)) hx hb hown (hg _ mw_168) dX5_merge_140 ?_
          refine lv_lxor hx hb dX5_merge_143 ?_
          refine lv_land hx hb dX5_merge_144 ?_
          refine lv_iload_n hx hb dX5_merge_145 rfl (lv_at hl 3 rfl) ?_
          refine kL (rSN hx hb hml hown hg hN hK hP hD (c_bit l D cI cJ (XW ad cI cJ co fl ra li p_17 wa pi) k1) mw_78 nw_87 mw_80 mw_77 pd_X7_bit ⟨Nat.le_of_ble_eq_true rfl, Nat.le_of_ble_eq_true rfl⟩ rfl hl.1 rfl (Nat.le_of_ble_eq_true rfl) dX5_merge_146 ⟨Nat.le_of_ble_eq_true rfl, Nat.le_of_ble_eq_true rfl⟩) hD hS hA (fun r_22 u_22 H locs hp hP hD hS => ?_)
          obtain ⟨er, eu⟩ := hp
          obtain rfl := er.symm
          obtain rfl := eu.symm
          refine lv_lor hx hb dX5_merge_149 ?_
          refine kV (rSN hx hb hml hown hg hN hK hP hD (c_putL l D cI cJ (XW ad cI cJ co fl ra li p_17 wa pi) 24 (ad 24) 40 (gB p_17 0) (nI i_17) (((rdL (gB p_17 0) 40 (nI i_17)) &&& (l1 ^^^ (-1))) ||| (bitL k1)) (xg24 rfl) (by decide)) mw_97 nw_85 mw_98 mw_77 pd_X7_put_ ⟨Nat.le_of_ble_eq_true rfl, Nat.le_of_ble_eq_true rfl⟩ rfl hl.1 rfl (Nat.le_of_ble_eq_true rfl) dX5_merge_150 ⟨Nat.le_of_ble_eq_true rfl, Nat.le_of_ble_eq_true rfl⟩) hD hS hA (fun u_23 H locs hp hP hD hS => ?_)
          obtain rfl := hp.symm
          have hP : va_P D vwCl (XW ad cI cJ co fl ra li (sB p_17 0 (wrL (gB p_17 0) 40 (nI i_17) (((rdL (gB p_17 0) 40 (nI i_17)) &&& (l1 ^^^ (-1))) ||| (bitL k1)))) wa pi) H := cgP xs24 hP
          have hD : va_D A (XW ad cI cJ co fl ra li (sB p_17 0 (wrL (gB p_17 0) 40 (nI i_17) (((rdL (gB p_17 0) 40 (nI i_17)) &&& (l1 ^^^ (-1))) ||| (bitL k1)))) wa pi) := cgD xs24 hD
          refine lv_aload_n hx hb dX5_merge_153 rfl (lv_at hl 1 rfl) ?_
          refine va_get (D := D) (ci := 5) (v := .ref (ad 25)) (C := RX5) (T := TX5) (N := 8) hx hb hg inGX5 hown hK hP 5 xo5 rfl 1 (by decide) (hg _ mw_179) (fun _ h9 => h9) xvX5_1 dX5_merge_154 ?_
          refine lv_iload hx hb dX5_merge_157 (lv_at hl 5 rfl) ?_
          refine kI (rSN hx hb hml hown hg hN hK hP hD (c_at l D cI cJ (XW ad cI cJ co fl ra li (sB p_17 0 (wrL (gB p_17 0) 40 (nI i_17) (((rdL (gB p_17 0) 40 (nI i_17)) &&& (l1 ^^^ (-1))) ||| (bitL k1)))) wa pi) 25 (ad 25) 40 (gA p_17 0) (nI i_17) (xg25 (by simp only [gi_sl, gi_sA, gi_sB, gi_si_s, gi_si_n, gl_si, gl_sA, gl_sB, gl_sl_s, gl_sl_n, gA_si, gA_sl, gA_sB, gA_sA_s, gA_sA_n, gB_si, gB_sl, gB_sA, gB_sB_s, gB_sB_n, Nat.reduceBEq])) (by decide)) mw_84 nw_89 mw_85 mw_77 pd_X7_at ⟨Nat.le_of_ble_eq_true rfl, Nat.le_of_ble_eq_true rfl⟩ rfl hl.1 rfl (Nat.le_of_ble_eq_true rfl) dX5_merge_159 ⟨Nat.le_of_ble_eq_true rfl, Nat.le_of_ble_eq_true rfl⟩) hD hS hA (fun r_24 u_24 H locs hp hP hD hS => ?_)
          obtain ⟨er, eu⟩ := hp
          obtain rfl := er.symm
          obtain rfl := eu.symm
          refine lv_istore (lv' := [(10, .int (rd (gA p_17 0) 40 (nI i_17))), (8, .long (rdL (gB p_17 0) 40 (nI i_17))), (0, .ref (ad 5)), (1, .long l1), (3, .int k1), (4, .int (b2i b1)), (7, .int (nI i_17))]) hx hb dX5_merge_162 hl (by decide) rfl (fun ls hl => ?_)
          refine lv_iload hx hb dX5_merge_164 (lv_at hl 0 rfl) ?_
          refine lv_if_lt (tgt := 188) hx hb dX5_merge_166 (by decide) (fun c_166 => ?_) (fun c_166 => ?_)
          · refine lv_iinc (v := (nI (i_17 + 1))) (lv' := [(7, .int (nI (i_17 + 1))), (10, .int (rd (gA p_17 0) 40 (nI i_17))), (8, .long (rdL (gB p_17 0) 40 (nI i_17))), (0, .ref (ad 5)), (1, .long l1), (3, .int k1), (4, .int (b2i b1))]) hx hb dX5_merge_188 hl (k := 6) rfl (nI_1 i_17) (by decide) rfl (fun ls hl => ?_)
            refine lv_goto (tgt := 104) hx hb dX5_merge_191 (by decide) ?_
            exact ih_17 (sB p_17 0 (wrL (gB p_17 0) 40 (nI i_17) (((rdL (gB p_17 0) 40 (nI i_17)) &&& (l1 ^^^ (-1))) ||| (bitL k1)))) H locs ls ⟨((show (sB p_17 0 (wrL (gB p_17 0) 40 (nI i_17) (((rdL (gB p_17 0) 40 (nI i_17)) &&& (l1 ^^^ (-1))) ||| (bitL k1)))) = (mgB l1 k1) i_17 p_17 from (by simp only [mgB, mgC, mgD, c_67, eq_false c_128, eq_true c_166, gi_sl, gi_sA, gi_sB, gi_si_s, gi_si_n, gl_si, gl_sA, gl_sB, gl_sl_s, gl_sl_n, gA_si, gA_sl, gA_sB, gA_sA_s, gA_sA_n, gB_si, gB_sl, gB_sA, gB_sB_s, gB_sB_n, Nat.reduceBEq, if_true, if_false, eq_self, Bool.false_eq_true, Bool.true_eq_false, not_true_eq_false, not_false_eq_true, decide_true, decide_false, cond_true, cond_false, Bool.true_and, Bool.false_and, Bool.and_true, Bool.and_false, Bool.true_or, Bool.false_or, Bool.or_true, Bool.or_false, b2i_tt, b2i_ff, pr_eta]; done)).trans (lp_go h_17)), hP, hD, hS, lv_sub hl [3, 4, 5, 6, 0] rfl⟩
          · refine lv_lload_n hx hb dX5_merge_169 rfl (lv_at hl 3 rfl) ?_
            refine lv_iload hx hb dX5_merge_170 (lv_at hl 0 rfl) ?_
            refine kI (rSN hx hb hml hown hg hN hK hP hD (c_has l D cI cJ (XW ad cI cJ co fl ra li (sB p_17 0 (wrL (gB p_17 0) 40 (nI i_17) (((rdL (gB p_17 0) 40 (nI i_17)) &&& (l1 ^^^ (-1))) ||| (bitL k1)))) wa pi) l1 (rd (gA p_17 0) 40 (nI i_17))) mw_89 nw_83 mw_90 mw_77 pd_X7_has ⟨Nat.le_of_ble_eq_true rfl, Nat.le_of_ble_eq_true rfl⟩ rfl hl.1 rfl (Nat.le_of_ble_eq_true rfl) dX5_merge_172 ⟨Nat.le_of_ble_eq_true rfl, Nat.le_of_ble_eq_true rfl⟩) hD hS hA (fun r_25 u_25 H locs hp hP hD hS => ?_)
            obtain ⟨er, eu⟩ := hp
            obtain rfl := er.symm
            obtain rfl := eu.symm
            refine lv_if_eq (tgt := 188) hx hb dX5_merge_175 (by decide) (fun c_175 => ?_) (fun c_175 => ?_)
            · have c_175 : ¬ (hs l1 (rd (gA p_17 0) 40 (nI i_17))) = true := b2i_0 c_175
              refine lv_iinc (v := (nI (i_17 + 1))) (lv' := [(7, .int (nI (i_17 + 1))), (10, .int (rd (gA p_17 0) 40 (nI i_17))), (8, .long (rdL (gB p_17 0) 40 (nI i_17))), (0, .ref (ad 5)), (1, .long l1), (3, .int k1), (4, .int (b2i b1))]) hx hb dX5_merge_188 hl (k := 6) rfl (nI_1 i_17) (by decide) rfl (fun ls hl => ?_)
              refine lv_goto (tgt := 104) hx hb dX5_merge_191 (by decide) ?_
              exact ih_17 (sB p_17 0 (wrL (gB p_17 0) 40 (nI i_17) (((rdL (gB p_17 0) 40 (nI i_17)) &&& (l1 ^^^ (-1))) ||| (bitL k1)))) H locs ls ⟨((show (sB p_17 0 (wrL (gB p_17 0) 40 (nI i_17) (((rdL (gB p_17 0) 40 (nI i_17)) &&& (l1 ^^^ (-1))) ||| (bitL k1)))) = (mgB l1 k1) i_17 p_17 from (by simp only [mgB, mgC, mgD, c_67, eq_false c_128, eq_false c_166, bf_of c_175, gi_sl, gi_sA, gi_sB, gi_si_s, gi_si_n, gl_si, gl_sA, gl_sB, gl_sl_s, gl_sl_n, gA_si, gA_sl, gA_sB, gA_sA_s, gA_sA_n, gB_si, gB_sl, gB_sA, gB_sB_s, gB_sB_n, Nat.reduceBEq, if_true, if_false, eq_self, Bool.false_eq_true, Bool.true_eq_false, not_true_eq_false, not_false_eq_true, decide_true, decide_false, cond_true, cond_false, Bool.true_and, Bool.false_and, Bool.and_true, Bool.and_false, Bool.true_or, Bool.false_or, Bool.or_true, Bool.or_false, b2i_tt, b2i_ff, pr_eta]; done)).trans (lp_go h_17)), hP, hD, hS, lv_sub hl [3, 4, 5, 6, 0] rfl⟩
            · have c_175 : (hs l1 (rd (gA p_17 0) 40 (nI i_17))) = true := b2i_1 c_175
              refine lv_aload_n hx hb dX5_merge_178 rfl (lv_at hl 2 rfl) ?_
              refine va_get (D := D) (ci := 5) (v := .ref (ad 25)) (C := RX5) (T := TX5) (N := 8) hx hb hg inGX5 hown hK hP 5 xo5 rfl 1 (by decide) (hg _ mw_179) (fun _ h9 => h9) xvX5_1 dX5_merge_179 ?_
              refine lv_iload hx hb dX5_merge_182 (lv_at hl 6 rfl) ?_
              refine lv_iload_n hx hb dX5_merge_184 rfl (lv_at hl 4 rfl) ?_
              refine kV (rSN hx hb hml hown hg hN hK hP hD (c_put l D cI cJ (XW ad cI cJ co fl ra li (sB p_17 0 (wrL (gB p_17 0) 40 (nI i_17) (((rdL (gB p_17 0) 40 (nI i_17)) &&& (l1 ^^^ (-1))) ||| (bitL k1)))) wa pi) 25 (ad 25) 40 (gA p_17 0) (nI i_17) k1 (xg25 (by simp only [gi_sl, gi_sA, gi_sB, gi_si_s, gi_si_n, gl_si, gl_sA, gl_sB, gl_sl_s, gl_sl_n, gA_si, gA_sl, gA_sB, gA_sA_s, gA_sA_n, gB_si, gB_sl, gB_sA, gB_sB_s, gB_sB_n, Nat.reduceBEq])) (by decide)) mw_92 nw_86 mw_93 mw_77 pd_X7_put ⟨Nat.le_of_ble_eq_true rfl, Nat.le_of_ble_eq_true rfl⟩ rfl hl.1 rfl (Nat.le_of_ble_eq_true rfl) dX5_merge_185 ⟨Nat.le_of_ble_eq_true rfl, Nat.le_of_ble_eq_true rfl⟩) hD hS hA (fun u_26 H locs hp hP hD hS => ?_)
              obtain rfl := hp.symm
              have hP : va_P D vwCl (XW ad cI cJ co fl ra li (sA (sB p_17 0 (wrL (gB p_17 0) 40 (nI i_17) (((rdL (gB p_17 0) 40 (nI i_17)) &&& (l1 ^^^ (-1))) ||| (bitL k1)))) 0 (wr (gA p_17 0) 40 (nI i_17) k1)) wa pi) H := cgP xs25 hP
              have hD : va_D A (XW ad cI cJ co fl ra li (sA (sB p_17 0 (wrL (gB p_17 0) 40 (nI i_17) (((rdL (gB p_17 0) 40 (nI i_17)) &&& (l1 ^^^ (-1))) ||| (bitL k1)))) 0 (wr (gA p_17 0) 40 (nI i_17) k1)) wa pi) := cgD xs25 hD
              refine lv_iinc (v := (nI (i_17 + 1))) (lv' := [(7, .int (nI (i_17 + 1))), (10, .int (rd (gA p_17 0) 40 (nI i_17))), (8, .long (rdL (gB p_17 0) 40 (nI i_17))), (0, .ref (ad 5)), (1, .long l1), (3, .int k1), (4, .int (b2i b1))]) hx hb dX5_merge_188 hl (k := 6) rfl (nI_1 i_17) (by decide) rfl (fun ls hl => ?_)
              refine lv_goto (tgt := 104) hx hb dX5_merge_191 (by decide) ?_
              exact ih_17 (sA (sB p_17 0 (wrL (gB p_17 0) 40 (nI i_17) (((rdL (gB p_17 0) 40 (nI i_17)) &&& (l1 ^^^ (-1))) ||| (bitL k1)))) 0 (wr (gA p_17 0) 40 (nI i_17) k1)) H locs ls ⟨((show (sA (sB p_17 0 (wrL (gB p_17 0) 40 (nI i_17) (((rdL (gB p_17 0) 40 (nI i_17)) &&& (l1 ^^^ (-1))) ||| (bitL k1)))) 0 (wr (gA p_17 0) 40 (nI i_17) k1)) = (mgB l1 k1) i_17 p_17 from (by simp only [mgB, mgC, mgD, c_67, eq_false c_128, eq_false c_166, c_175, gi_sl, gi_sA, gi_sB, gi_si_s, gi_si_n, gl_si, gl_sA, gl_sB, gl_sl_s, gl_sl_n, gA_si, gA_sl, gA_sB, gA_sA_s, gA_sA_n, gB_si, gB_sl, gB_sA, gB_sB_s, gB_sB_n, Nat.reduceBEq, if_true, if_false, eq_self, Bool.false_eq_true, Bool.true_eq_false, not_true_eq_false, not_false_eq_true, decide_true, decide_false, cond_true, cond_false, Bool.true_and, Bool.false_and, Bool.and_true, Bool.and_false, Bool.true_or, Bool.false_or, Bool.or_true, Bool.or_false, b2i_tt, b2i_ff, pr_eta]; done)).trans (lp_go h_17)), hP, hD, hS, lv_sub hl [3, 4, 5, 6, 0] rfl⟩
  · obtain ⟨h_1, hP, hD, hS, hl⟩ := hI
    have hP : va_P D vwCl (XW ad cI cJ co fl ra li p_1.1 wa pi) H := hP
    have hD : va_D A (XW ad cI cJ co fl ra li p_1.1 wa pi) := hD
    have hl : lv_has ls 11 [(0, .ref (ad 5)), (1, .long l1), (3, .int k1), (4, .int (b2i b1)), (5, .long p_1.2), (7, .int (nI i_1))] := hl
    refine lv_iload hx hb dX5_merge_6 (lv_at hl 5 rfl) ?_
    refine lv_bipush (v := 40) hx hb dX5_merge_8 (by decide) ?_
    refine lv_icmp_ge (tgt := 52) hx hb dX5_merge_10 (by decide) (fun c_10 => absurd c_10 (nI_ge hi_1 (by decide))) (fun _ => ?_)
    refine lv_lload_n hx hb dX5_merge_13 rfl (lv_at hl 1 rfl) ?_
    refine lv_iload hx hb dX5_merge_14 (lv_at hl 5 rfl) ?_
    refine kI (rSN hx hb hml hown hg hN hK hP hD (c_has l D cI cJ (XW ad cI cJ co fl ra li p_1.1 wa pi) l1 (nI i_1)) mw_89 nw_83 mw_90 mw_77 pd_X7_has ⟨Nat.le_of_ble_eq_true rfl, Nat.le_of_ble_eq_true rfl⟩ rfl hl.1 rfl (Nat.le_of_ble_eq_true rfl) dX5_merge_16 ⟨Nat.le_of_ble_eq_true rfl, Nat.le_of_ble_eq_true rfl⟩) hD hS hA (fun r_27 u_27 H locs hp hP hD hS => ?_)
    obtain ⟨er, eu⟩ := hp
    obtain rfl := er.symm
    obtain rfl := eu.symm
    refine lv_if_eq (tgt := 46) hx hb dX5_merge_19 (by decide) (fun c_19 => ?_) (fun c_19 => ?_)
    · have c_19 : ¬ (hs l1 (nI i_1)) = true := b2i_0 c_19
      refine lv_iinc (v := (nI (i_1 + 1))) (lv' := [(7, .int (nI (i_1 + 1))), (0, .ref (ad 5)), (1, .long l1), (3, .int k1), (4, .int (b2i b1)), (5, .long p_1.2)]) hx hb dX5_merge_46 hl (k := 5) rfl (nI_1 i_1) (by decide) rfl (fun ls hl => ?_)
      refine lv_goto (tgt := 6) hx hb dX5_merge_49 (by decide) ?_
      exact ih_1 (p_1.1, p_1.2) H locs ls ⟨((show (p_1.1, p_1.2) = (mgA l1) i_1 p_1 from (by simp only [mgA, bf_of c_19, gi_sl, gi_sA, gi_sB, gi_si_s, gi_si_n, gl_si, gl_sA, gl_sB, gl_sl_s, gl_sl_n, gA_si, gA_sl, gA_sB, gA_sA_s, gA_sA_n, gB_si, gB_sl, gB_sA, gB_sB_s, gB_sB_n, Nat.reduceBEq, if_true, if_false, eq_self, Bool.false_eq_true, Bool.true_eq_false, not_true_eq_false, not_false_eq_true, decide_true, decide_false, cond_true, cond_false, Bool.true_and, Bool.false_and, Bool.and_true, Bool.and_false, Bool.true_or, Bool.false_or, Bool.or_true, Bool.or_false, b2i_tt, b2i_ff, pr_eta]; done)).trans (lp_go h_1)), hP, hD, hS, lv_sub hl [1, 2, 3, 4, 5, 0] rfl⟩
    · have c_19 : (hs l1 (nI i_1)) = true := b2i_1 c_19
      refine lv_lload hx hb dX5_merge_22 (lv_at hl 4 rfl) ?_
      refine lv_aload_n hx hb dX5_merge_24 rfl (lv_at hl 0 rfl) ?_
      refine va_get (D := D) (ci := 5) (v := .ref (ad 24)) (C := RX5) (T := TX5) (N := 8) hx hb hg inGX5 hown hK hP 5 xo5 rfl 0 (by decide) (hg _ mw_166) (fun _ h9 => h9) xvX5_0 dX5_merge_25 ?_
      refine lv_iload hx hb dX5_merge_28 (lv_at hl 5 rfl) ?_
      refine kL (rSN hx hb hml hown hg hN hK hP hD (c_atL l D cI cJ (XW ad cI cJ co fl ra li p_1.1 wa pi) 24 (ad 24) 40 (gB p_1.1 0) (nI i_1) (xg24 rfl) (by decide)) mw_81 nw_84 mw_83 mw_77 pd_X7_at_ ⟨Nat.le_of_ble_eq_true rfl, Nat.le_of_ble_eq_true rfl⟩ rfl hl.1 rfl (Nat.le_of_ble_eq_true rfl) dX5_merge_30 ⟨Nat.le_of_ble_eq_true rfl, Nat.le_of_ble_eq_true rfl⟩) hD hS hA (fun r_28 u_28 H locs hp hP hD hS => ?_)
      obtain ⟨er, eu⟩ := hp
      obtain rfl := er.symm
      obtain rfl := eu.symm
      refine lv_lor hx hb dX5_merge_33 ?_
      refine lv_lstore (lv' := [(5, .long (p_1.2 ||| (rdL (gB p_1.1 0) 40 (nI i_1)))), (0, .ref (ad 5)), (1, .long l1), (3, .int k1), (4, .int (b2i b1)), (7, .int (nI i_1))]) hx hb dX5_merge_34 hl (by decide) rfl (fun ls hl => ?_)
      refine lv_aload_n hx hb dX5_merge_36 rfl (lv_at hl 1 rfl) ?_
      refine va_get (D := D) (ci := 5) (v := .ref (ad 24)) (C := RX5) (T := TX5) (N := 8) hx hb hg inGX5 hown hK hP 5 xo5 rfl 0 (by decide) (hg _ mw_166) (fun _ h9 => h9) xvX5_0 dX5_merge_37 ?_
      refine lv_iload hx hb dX5_merge_40 (lv_at hl 5 rfl) ?_
      refine lv_lconst (v := 0) hx hb dX5_merge_42 (by decide) ?_
      refine kV (rSN hx hb hml hown hg hN hK hP hD (c_putL l D cI cJ (XW ad cI cJ co fl ra li p_1.1 wa pi) 24 (ad 24) 40 (gB p_1.1 0) (nI i_1) 0 (xg24 rfl) (by decide)) mw_97 nw_85 mw_98 mw_77 pd_X7_put_ ⟨Nat.le_of_ble_eq_true rfl, Nat.le_of_ble_eq_true rfl⟩ rfl hl.1 rfl (Nat.le_of_ble_eq_true rfl) dX5_merge_43 ⟨Nat.le_of_ble_eq_true rfl, Nat.le_of_ble_eq_true rfl⟩) hD hS hA (fun u_29 H locs hp hP hD hS => ?_)
      obtain rfl := hp.symm
      have hP : va_P D vwCl (XW ad cI cJ co fl ra li (sB p_1.1 0 (wrL (gB p_1.1 0) 40 (nI i_1) 0)) wa pi) H := cgP xs24 hP
      have hD : va_D A (XW ad cI cJ co fl ra li (sB p_1.1 0 (wrL (gB p_1.1 0) 40 (nI i_1) 0)) wa pi) := cgD xs24 hD
      refine lv_iinc (v := (nI (i_1 + 1))) (lv' := [(7, .int (nI (i_1 + 1))), (5, .long (p_1.2 ||| (rdL (gB p_1.1 0) 40 (nI i_1)))), (0, .ref (ad 5)), (1, .long l1), (3, .int k1), (4, .int (b2i b1))]) hx hb dX5_merge_46 hl (k := 5) rfl (nI_1 i_1) (by decide) rfl (fun ls hl => ?_)
      refine lv_goto (tgt := 6) hx hb dX5_merge_49 (by decide) ?_
      exact ih_1 ((sB p_1.1 0 (wrL (gB p_1.1 0) 40 (nI i_1) 0)), (p_1.2 ||| (rdL (gB p_1.1 0) 40 (nI i_1)))) H locs ls ⟨((show ((sB p_1.1 0 (wrL (gB p_1.1 0) 40 (nI i_1) 0)), (p_1.2 ||| (rdL (gB p_1.1 0) 40 (nI i_1)))) = (mgA l1) i_1 p_1 from (by simp only [mgA, c_19, gi_sl, gi_sA, gi_sB, gi_si_s, gi_si_n, gl_si, gl_sA, gl_sB, gl_sl_s, gl_sl_n, gA_si, gA_sl, gA_sB, gA_sA_s, gA_sA_n, gB_si, gB_sl, gB_sA, gB_sB_s, gB_sB_n, Nat.reduceBEq, if_true, if_false, eq_self, Bool.false_eq_true, Bool.true_eq_false, not_true_eq_false, not_false_eq_true, decide_true, decide_false, cond_true, cond_false, Bool.true_and, Bool.false_and, Bool.and_true, Bool.and_false, Bool.true_or, Bool.false_or, Bool.or_true, Bool.or_false, b2i_tt, b2i_ff, pr_eta]; done)).trans (lp_go h_1)), hP, hD, hS, lv_sub hl [2, 3, 4, 5, 1, 0] rfl⟩
