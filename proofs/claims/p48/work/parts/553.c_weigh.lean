theorem dX3_weigh_0 : decode cX3_weigh 0 = .ok (.iconst 0, 1) := by decide +kernel
theorem dX3_weigh_1 : decode cX3_weigh 1 = .ok (.istore 4, 2) := by decide +kernel
theorem dX3_weigh_3 : decode cX3_weigh 3 = .ok (.iload 4, 2) := by decide +kernel
theorem dX3_weigh_5 : decode cX3_weigh 5 = .ok (.iload_n 3, 1) := by decide +kernel
theorem dX3_weigh_6 : decode cX3_weigh 6 = .ok (.if_icmp .ge 29, 3) := by decide +kernel
theorem dX3_weigh_9 : decode cX3_weigh 9 = .ok (.aload_n 0, 1) := by decide +kernel
theorem dX3_weigh_10 : decode cX3_weigh 10 = .ok (.getfield 40, 3) := by decide +kernel
theorem dX3_weigh_13 : decode cX3_weigh 13 = .ok (.iload 4, 2) := by decide +kernel
theorem dX3_weigh_15 : decode cX3_weigh 15 = .ok (.iconst 0, 1) := by decide +kernel
theorem dX3_weigh_16 : decode cX3_weigh 16 = .ok (.invokestatic 75, 3) := by decide +kernel
theorem dX3_weigh_19 : decode cX3_weigh 19 = .ok (.aload_n 0, 1) := by decide +kernel
theorem dX3_weigh_20 : decode cX3_weigh 20 = .ok (.getfield 43, 3) := by decide +kernel
theorem dX3_weigh_23 : decode cX3_weigh 23 = .ok (.iload 4, 2) := by decide +kernel
theorem dX3_weigh_25 : decode cX3_weigh 25 = .ok (.iconst 0, 1) := by decide +kernel
theorem dX3_weigh_26 : decode cX3_weigh 26 = .ok (.invokestatic 75, 3) := by decide +kernel
theorem dX3_weigh_29 : decode cX3_weigh 29 = .ok (.iinc 4 1, 3) := by decide +kernel
theorem dX3_weigh_32 : decode cX3_weigh 32 = .ok (.goto (-29), 3) := by decide +kernel
theorem dX3_weigh_35 : decode cX3_weigh 35 = .ok (.iload_n 1, 1) := by decide +kernel
theorem dX3_weigh_36 : decode cX3_weigh 36 = .ok (.iload_n 2, 1) := by decide +kernel
theorem dX3_weigh_37 : decode cX3_weigh 37 = .ok (.invokestatic 165, 3) := by decide +kernel
theorem dX3_weigh_40 : decode cX3_weigh 40 = .ok (.istore 4, 2) := by decide +kernel
theorem dX3_weigh_42 : decode cX3_weigh 42 = .ok (.iconst 0, 1) := by decide +kernel
theorem dX3_weigh_43 : decode cX3_weigh 43 = .ok (.istore 5, 2) := by decide +kernel
theorem dX3_weigh_45 : decode cX3_weigh 45 = .ok (.iload 5, 2) := by decide +kernel
theorem dX3_weigh_47 : decode cX3_weigh 47 = .ok (.aload_n 0, 1) := by decide +kernel
theorem dX3_weigh_48 : decode cX3_weigh 48 = .ok (.getfield 58, 3) := by decide +kernel
theorem dX3_weigh_51 : decode cX3_weigh 51 = .ok (.if_icmp .ge 89, 3) := by decide +kernel
theorem dX3_weigh_54 : decode cX3_weigh 54 = .ok (.aload_n 0, 1) := by decide +kernel
theorem dX3_weigh_55 : decode cX3_weigh 55 = .ok (.iload 5, 2) := by decide +kernel
theorem dX3_weigh_57 : decode cX3_weigh 57 = .ok (.iload 4, 2) := by decide +kernel
theorem dX3_weigh_59 : decode cX3_weigh 59 = .ok (.invokevirtual 140, 3) := by decide +kernel
theorem dX3_weigh_62 : decode cX3_weigh 62 = .ok (.ifCond .eq 72, 3) := by decide +kernel
theorem dX3_weigh_65 : decode cX3_weigh 65 = .ok (.aload_n 0, 1) := by decide +kernel
theorem dX3_weigh_66 : decode cX3_weigh 66 = .ok (.getfield 34, 3) := by decide +kernel
theorem dX3_weigh_69 : decode cX3_weigh 69 = .ok (.aload_n 0, 1) := by decide +kernel
theorem dX3_weigh_70 : decode cX3_weigh 70 = .ok (.iload 5, 2) := by decide +kernel
theorem dX3_weigh_72 : decode cX3_weigh 72 = .ok (.iload_n 1, 1) := by decide +kernel
theorem dX3_weigh_73 : decode cX3_weigh 73 = .ok (.invokevirtual 134, 3) := by decide +kernel
theorem dX3_weigh_76 : decode cX3_weigh 76 = .ok (.invokestatic 95, 3) := by decide +kernel
theorem dX3_weigh_79 : decode cX3_weigh 79 = .ok (.istore 6, 2) := by decide +kernel
theorem dX3_weigh_81 : decode cX3_weigh 81 = .ok (.aload_n 0, 1) := by decide +kernel
theorem dX3_weigh_82 : decode cX3_weigh 82 = .ok (.getfield 40, 3) := by decide +kernel
theorem dX3_weigh_85 : decode cX3_weigh 85 = .ok (.iload 6, 2) := by decide +kernel
theorem dX3_weigh_87 : decode cX3_weigh 87 = .ok (.aload_n 0, 1) := by decide +kernel
theorem dX3_weigh_88 : decode cX3_weigh 88 = .ok (.getfield 40, 3) := by decide +kernel
theorem dX3_weigh_91 : decode cX3_weigh 91 = .ok (.iload 6, 2) := by decide +kernel
theorem dX3_weigh_93 : decode cX3_weigh 93 = .ok (.invokestatic 95, 3) := by decide +kernel
theorem dX3_weigh_96 : decode cX3_weigh 96 = .ok (.aload_n 0, 1) := by decide +kernel
theorem dX3_weigh_97 : decode cX3_weigh 97 = .ok (.getfield 34, 3) := by decide +kernel
theorem dX3_weigh_100 : decode cX3_weigh 100 = .ok (.aload_n 0, 1) := by decide +kernel
theorem dX3_weigh_101 : decode cX3_weigh 101 = .ok (.iload 5, 2) := by decide +kernel
theorem dX3_weigh_103 : decode cX3_weigh 103 = .ok (.iload_n 2, 1) := by decide +kernel
theorem dX3_weigh_104 : decode cX3_weigh 104 = .ok (.invokevirtual 134, 3) := by decide +kernel
theorem dX3_weigh_107 : decode cX3_weigh 107 = .ok (.invokestatic 95, 3) := by decide +kernel
theorem dX3_weigh_110 : decode cX3_weigh 110 = .ok (.iadd, 1) := by decide +kernel
theorem dX3_weigh_111 : decode cX3_weigh 111 = .ok (.invokestatic 75, 3) := by decide +kernel
theorem dX3_weigh_114 : decode cX3_weigh 114 = .ok (.aload_n 0, 1) := by decide +kernel
theorem dX3_weigh_115 : decode cX3_weigh 115 = .ok (.getfield 43, 3) := by decide +kernel
theorem dX3_weigh_118 : decode cX3_weigh 118 = .ok (.iload 6, 2) := by decide +kernel
theorem dX3_weigh_120 : decode cX3_weigh 120 = .ok (.aload_n 0, 1) := by decide +kernel
theorem dX3_weigh_121 : decode cX3_weigh 121 = .ok (.getfield 43, 3) := by decide +kernel
theorem dX3_weigh_124 : decode cX3_weigh 124 = .ok (.iload 6, 2) := by decide +kernel
theorem dX3_weigh_126 : decode cX3_weigh 126 = .ok (.invokestatic 95, 3) := by decide +kernel
theorem dX3_weigh_129 : decode cX3_weigh 129 = .ok (.iconst 1, 1) := by decide +kernel
theorem dX3_weigh_130 : decode cX3_weigh 130 = .ok (.iadd, 1) := by decide +kernel
theorem dX3_weigh_131 : decode cX3_weigh 131 = .ok (.invokestatic 75, 3) := by decide +kernel
theorem dX3_weigh_134 : decode cX3_weigh 134 = .ok (.iinc 5 1, 3) := by decide +kernel
theorem dX3_weigh_137 : decode cX3_weigh 137 = .ok (.goto (-92), 3) := by decide +kernel
theorem dX3_weigh_140 : decode cX3_weigh 140 = .ok (.iconst 0, 1) := by decide +kernel
theorem dX3_weigh_141 : decode cX3_weigh 141 = .ok (.istore 5, 2) := by decide +kernel
theorem dX3_weigh_143 : decode cX3_weigh 143 = .ok (.iload 5, 2) := by decide +kernel
theorem dX3_weigh_145 : decode cX3_weigh 145 = .ok (.iload_n 3, 1) := by decide +kernel
theorem dX3_weigh_146 : decode cX3_weigh 146 = .ok (.if_icmp .ge 42, 3) := by decide +kernel
theorem dX3_weigh_149 : decode cX3_weigh 149 = .ok (.aload_n 0, 1) := by decide +kernel
theorem dX3_weigh_150 : decode cX3_weigh 150 = .ok (.getfield 43, 3) := by decide +kernel
theorem dX3_weigh_153 : decode cX3_weigh 153 = .ok (.iload 5, 2) := by decide +kernel
theorem dX3_weigh_155 : decode cX3_weigh 155 = .ok (.invokestatic 95, 3) := by decide +kernel
theorem dX3_weigh_158 : decode cX3_weigh 158 = .ok (.ifCond .ne 24, 3) := by decide +kernel
theorem dX3_weigh_161 : decode cX3_weigh 161 = .ok (.aload_n 0, 1) := by decide +kernel
theorem dX3_weigh_162 : decode cX3_weigh 162 = .ok (.getfield 40, 3) := by decide +kernel
theorem dX3_weigh_165 : decode cX3_weigh 165 = .ok (.iload 5, 2) := by decide +kernel
theorem dX3_weigh_167 : decode cX3_weigh 167 = .ok (.iload 5, 2) := by decide +kernel
theorem dX3_weigh_169 : decode cX3_weigh 169 = .ok (.invokestatic 75, 3) := by decide +kernel
theorem dX3_weigh_172 : decode cX3_weigh 172 = .ok (.aload_n 0, 1) := by decide +kernel
theorem dX3_weigh_173 : decode cX3_weigh 173 = .ok (.getfield 43, 3) := by decide +kernel
theorem dX3_weigh_176 : decode cX3_weigh 176 = .ok (.iload 5, 2) := by decide +kernel
theorem dX3_weigh_178 : decode cX3_weigh 178 = .ok (.iconst 1, 1) := by decide +kernel
theorem dX3_weigh_179 : decode cX3_weigh 179 = .ok (.invokestatic 75, 3) := by decide +kernel
theorem dX3_weigh_182 : decode cX3_weigh 182 = .ok (.iinc 5 1, 3) := by decide +kernel
theorem dX3_weigh_185 : decode cX3_weigh 185 = .ok (.goto (-42), 3) := by decide +kernel
theorem dX3_weigh_188 : decode cX3_weigh 188 = .ok (.return_, 1) := by decide +kernel
theorem mw_294 : Cond.methodLink RX3 165 Lib.Math.min.name ∈ GW := gw_mem (inT4 _ (List.mem_of_getElem? (i := 125) rfl)) rfl
theorem mw_295 : Cond.static Lib.Math.min.name ∈ GW := gw_mem (inT4 _ (List.mem_of_getElem? (i := 45) rfl)) rfl
theorem mw_296 : Cond.code Lib.Math.min.name Lib.Math.min.code 2 (some .int) ∈ GW := gw_mem (inT4 _ (List.mem_of_getElem? (i := 46) rfl)) rfl
set_option maxHeartbeats 4000000 in
set_option maxRecDepth 100000 in
theorem c_weigh (l : Launch) (D : va_G) (cI cJ : ClassId) (ad : Nat → Nat) (co fl ra li re wa pi : Ob) (k1 : Int32) (k2 : Int32) (k3 : Int32) : CT l D (TY cI cJ) yX3_weigh (.code yX3_weigh cX3_weigh 7 (none : Option FieldType)) 3 0 0 (XW ad cI cJ co fl ra li re wa pi) [.ref (ad 6), .int k1, .int k2, .int k3] (QV D (TY cI cJ) (fun u => u = (XW ad cI cJ co fl ra li re wa (weigh wa pi k1 k2 k3)))) := by
  refine ent (by decide) (Nat.le_of_ble_eq_true rfl) ?_
  intro p e s m below meth c ls A hx hb hr hg hown hml hlocks hnm hP hK hD hS hA hN hl
  have hl : lv_has ls 7 [(0, .ref (ad 6)), (1, .int k1), (2, .int k2), (3, .int k3)] := hl
  refine lv_iconst (v := 0) hx hb dX3_weigh_0 (by decide) ?_
  refine lv_istore (lv' := [(4, .int 0), (0, .ref (ad 6)), (1, .int k1), (2, .int k2), (3, .int k3)]) hx hb dX3_weigh_1 hl (by decide) rfl (fun ls hl => ?_)
  refine w_loop (σ := Ob) (fun (i_1 : Nat) (p_1 : Ob) (H : Heap) (locs : List Loc) (ls : Array Slot) => p_1 = (lp weA i_1 pi) ∧ va_P D vwCl (XW ad cI cJ co fl ra li re wa p_1) H ∧ va_D A (XW ad cI cJ co fl ra li re wa p_1) ∧ va_S A s.heap H locs ∧ lv_has ls 7 [(0, .ref (ad 6)), (1, .int k1), (2, .int k2), (3, .int k3), (4, .int (nI i_1))]) (nN k3) (fun p_1 H locs ls hI => ?_) (fun i_1 p_1 H locs ls hi_1 hI ih_1 => ?_) 0 pi (Nat.zero_le _) ⟨(lp_0 _ _), hP, hD, hS, (by rw [nI_0]; exact lv_sub hl [1, 2, 3, 4, 0] rfl)⟩
  · obtain ⟨h_1, hP, hD, hS, hl⟩ := hI
    have h_1 := h_1.symm
    subst h_1
    have hP : va_P D vwCl (XW ad cI cJ co fl ra li re wa ((lp weA (nN k3) pi))) H := hP
    have hD : va_D A (XW ad cI cJ co fl ra li re wa ((lp weA (nN k3) pi))) := hD
    have hl : lv_has ls 7 [(0, .ref (ad 6)), (1, .int k1), (2, .int k2), (3, .int k3), (4, .int (nI ((nN k3))))] := hl
    refine lv_iload hx hb dX3_weigh_3 (lv_at hl 4 rfl) ?_
    refine lv_iload_n hx hb dX3_weigh_5 rfl (lv_at hl 3 rfl) ?_
    refine lv_icmp_ge (tgt := 35) hx hb dX3_weigh_6 (by decide) (fun _ => ?_) (fun c_6 => absurd (lp_out _) c_6)
    refine lv_iload_n hx hb dX3_weigh_35 rfl (lv_at hl 1 rfl) ?_
    refine lv_iload_n hx hb dX3_weigh_36 rfl (lv_at hl 2 rfl) ?_
    refine va_mmin hx hb (by rw [hml]; exact hl.1.symm) hown (hg _ mw_294) (hg _ mw_295) (hg _ mw_238) (hg _ mw_296) (Nat.le_of_ble_eq_true rfl) (Nat.le_of_ble_eq_true rfl) (Nat.le_of_ble_eq_true rfl) (Nat.le_of_ble_eq_true rfl) dX3_weigh_37 ?_
    refine W.eq (g2 := F0 m 40 ls [.int (imin k1 k2)]) rfl ?_
    refine lv_istore (lv' := [(4, .int (imin k1 k2)), (0, .ref (ad 6)), (1, .int k1), (2, .int k2), (3, .int k3)]) hx hb dX3_weigh_40 hl (by decide) rfl (fun ls hl => ?_)
    refine lv_iconst (v := 0) hx hb dX3_weigh_42 (by decide) ?_
    refine lv_istore (lv' := [(5, .int 0), (4, .int (imin k1 k2)), (0, .ref (ad 6)), (1, .int k1), (2, .int k2), (3, .int k3)]) hx hb dX3_weigh_43 hl (by decide) rfl (fun ls hl => ?_)
    refine w_loop (σ := Ob) (fun (i_2 : Nat) (p_2 : Ob) (H : Heap) (locs : List Loc) (ls : Array Slot) => p_2 = (lp (weB wa k1 k2 (imin k1 k2)) i_2 ((lp weA (nN k3) pi))) ∧ va_P D vwCl (XW ad cI cJ co fl ra li re wa p_2) H ∧ va_D A (XW ad cI cJ co fl ra li re wa p_2) ∧ va_S A s.heap H locs ∧ lv_has ls 7 [(0, .ref (ad 6)), (1, .int k1), (2, .int k2), (3, .int k3), (4, .int (imin k1 k2)), (5, .int (nI i_2))]) (nN (gi pi 0)) (fun p_2 H locs ls hI => ?_) (fun i_2 p_2 H locs ls hi_2 hI ih_2 => ?_) 0 ((lp weA (nN k3) pi)) (Nat.zero_le _) ⟨(lp_0 _ _), hP, hD, hS, (by rw [nI_0]; exact lv_sub hl [2, 3, 4, 5, 1, 0] rfl)⟩
    · obtain ⟨h_2, hP, hD, hS, hl⟩ := hI
      have h_2 := h_2.symm
      subst h_2
      have hP : va_P D vwCl (XW ad cI cJ co fl ra li re wa ((lp (weB wa k1 k2 (imin k1 k2)) (nN (gi pi 0)) ((lp weA (nN k3) pi))))) H := hP
      have hD : va_D A (XW ad cI cJ co fl ra li re wa ((lp (weB wa k1 k2 (imin k1 k2)) (nN (gi pi 0)) ((lp weA (nN k3) pi))))) := hD
      have hl : lv_has ls 7 [(0, .ref (ad 6)), (1, .int k1), (2, .int k2), (3, .int k3), (4, .int (imin k1 k2)), (5, .int (nI ((nN (gi pi 0)))))] := hl
      refine lv_iload hx hb dX3_weigh_45 (lv_at hl 5 rfl) ?_
      refine lv_aload_n hx hb dX3_weigh_47 rfl (lv_at hl 0 rfl) ?_
      refine va_get (D := D) (ci := 3) (v := .int (gi ((lp (weB wa k1 k2 (imin k1 k2)) (nN (gi pi 0)) ((lp weA (nN k3) pi)))) 0)) (C := RX3) (T := TX3) (N := 16) hx hb hg inGX3 hown hK hP 6 xo6 rfl 12 (by decide) (hg _ mw_228) (fun _ h9 => h9) (xvX3_12 rfl) dX3_weigh_48 ?_
      refine lv_icmp_ge (tgt := 140) hx hb dX3_weigh_51 (by decide) (fun _ => ?_) (fun c_51 => absurd (by rw [k_weBL, k_weAL]; exact lp_out _) c_51)
      refine lv_iconst (v := 0) hx hb dX3_weigh_140 (by decide) ?_
      refine lv_istore (lv' := [(5, .int 0), (0, .ref (ad 6)), (1, .int k1), (2, .int k2), (3, .int k3), (4, .int (imin k1 k2))]) hx hb dX3_weigh_141 hl (by decide) rfl (fun ls hl => ?_)
      refine w_loop (σ := Ob) (fun (i_3 : Nat) (p_3 : Ob) (H : Heap) (locs : List Loc) (ls : Array Slot) => p_3 = (lp weC i_3 ((lp (weB wa k1 k2 (imin k1 k2)) (nN (gi pi 0)) ((lp weA (nN k3) pi))))) ∧ va_P D vwCl (XW ad cI cJ co fl ra li re wa p_3) H ∧ va_D A (XW ad cI cJ co fl ra li re wa p_3) ∧ va_S A s.heap H locs ∧ lv_has ls 7 [(0, .ref (ad 6)), (1, .int k1), (2, .int k2), (3, .int k3), (5, .int (nI i_3))]) (nN k3) (fun p_3 H locs ls hI => ?_) (fun i_3 p_3 H locs ls hi_3 hI ih_3 => ?_) 0 ((lp (weB wa k1 k2 (imin k1 k2)) (nN (gi pi 0)) ((lp weA (nN k3) pi)))) (Nat.zero_le _) ⟨(lp_0 _ _), hP, hD, hS, (by rw [nI_0]; exact lv_sub hl [1, 2, 3, 4, 0] rfl)⟩
      · obtain ⟨h_3, hP, hD, hS, hl⟩ := hI
        have h_3 := h_3.symm
        subst h_3
        have hP : va_P D vwCl (XW ad cI cJ co fl ra li re wa ((lp weC (nN k3) ((lp (weB wa k1 k2 (imin k1 k2)) (nN (gi pi 0)) ((lp weA (nN k3) pi))))))) H := hP
        have hD : va_D A (XW ad cI cJ co fl ra li re wa ((lp weC (nN k3) ((lp (weB wa k1 k2 (imin k1 k2)) (nN (gi pi 0)) ((lp weA (nN k3) pi))))))) := hD
        have hl : lv_has ls 7 [(0, .ref (ad 6)), (1, .int k1), (2, .int k2), (3, .int k3), (5, .int (nI ((nN k3))))] := hl
        refine lv_iload hx hb dX3_weigh_143 (lv_at hl 4 rfl) ?_
        refine lv_iload_n hx hb dX3_weigh_145 rfl (lv_at hl 3 rfl) ?_
        refine lv_icmp_ge (tgt := 188) hx hb dX3_weigh_146 (by decide) (fun _ => ?_) (fun c_146 => absurd (lp_out _) c_146)
        exact W.vret hx hb hr (fun t ht hW => ⟨⟨(XW ad cI cJ co fl ra li re wa ((lp weC (nN k3) ((lp (weB wa k1 k2 (imin k1 k2)) (nN (gi pi 0)) ((lp weA (nN k3) pi))))))), rfl, xw_eq rfl rfl rfl rfl rfl rfl (show ((lp weC (nN k3) ((lp (weB wa k1 k2 (imin k1 k2)) (nN (gi pi 0)) ((lp weA (nN k3) pi)))))) = (weigh wa pi k1 k2 k3) from (by first | with_reducible rfl | (simp only [weigh, gi_sl, gi_sA, gi_sB, gi_si_s, gi_si_n, gl_si, gl_sA, gl_sB, gl_sl_s, gl_sl_n, gA_si, gA_sl, gA_sB, gA_sA_s, gA_sA_n, gB_si, gB_sl, gB_sA, gB_sB_s, gB_sB_n, Nat.reduceBEq, if_true, if_false, eq_self, Bool.false_eq_true, Bool.true_eq_false, not_true_eq_false, not_false_eq_true, decide_true, decide_false, cond_true, cond_false, Bool.true_and, Bool.false_and, Bool.and_true, Bool.and_false, Bool.true_or, Bool.false_or, Bool.or_true, Bool.or_false, b2i_tt, b2i_ff, pr_eta]; done))), ⟨by rw [ht]; exact hP, va_K.moved hW.alike hK, hD⟩⟩, hS.F ht⟩) hS.2.2 dX3_weigh_188
      · obtain ⟨h_3, hP, hD, hS, hl⟩ := hI
        have hP : va_P D vwCl (XW ad cI cJ co fl ra li re wa p_3) H := hP
        have hD : va_D A (XW ad cI cJ co fl ra li re wa p_3) := hD
        have hl : lv_has ls 7 [(0, .ref (ad 6)), (1, .int k1), (2, .int k2), (3, .int k3), (5, .int (nI i_3))] := hl
        refine lv_iload hx hb dX3_weigh_143 (lv_at hl 4 rfl) ?_
        refine lv_iload_n hx hb dX3_weigh_145 rfl (lv_at hl 3 rfl) ?_
        refine lv_icmp_ge (tgt := 188) hx hb dX3_weigh_146 (by decide) (fun c_146 => absurd c_146 (lp_in hi_3)) (fun _ => ?_)
        refine lv_aload_n hx hb dX3_weigh_149 rfl (lv_at hl 0 rfl) ?_
        refine va_get (D := D) (ci := 3) (v := .ref (ad 42)) (C := RX3) (T := TX3) (N := 16) hx hb hg inGX3 hown hK hP 6 xo6 rfl 9 (by decide) (hg _ mw_293) (fun _ h9 => h9) xvX3_9 dX3_weigh_150 ?_
        refine lv_iload hx hb dX3_weigh_153 (lv_at hl 4 rfl) ?_
        refine kI (rSN hx hb hml hown hg hN hK hP hD (c_at l D cI cJ (XW ad cI cJ co fl ra li re wa p_3) 42 (ad 42) 120 (gA p_3 8) (nI i_3) (xg42 rfl) (by decide)) mw_84 nw_96 mw_85 mw_77 pd_X7_at ⟨Nat.le_of_ble_eq_true rfl, Nat.le_of_ble_eq_true rfl⟩ rfl hl.1 rfl (Nat.le_of_ble_eq_true rfl) dX3_weigh_155 ⟨Nat.le_of_ble_eq_true rfl, Nat.le_of_ble_eq_true rfl⟩) hD hS hA (fun r_4 u_4 H locs hp hP hD hS => ?_)
        obtain ⟨er, eu⟩ := hp
        obtain rfl := er.symm
        obtain rfl := eu.symm
        refine lv_if_ne (tgt := 182) hx hb dX3_weigh_158 (by decide) (fun c_158 => ?_) (fun c_158 => ?_)
        · refine lv_iinc (v := (nI (i_3 + 1))) (lv' := [(5, .int (nI (i_3 + 1))), (0, .ref (ad 6)), (1, .int k1), (2, .int k2), (3, .int k3)]) hx hb dX3_weigh_182 hl (k := 4) rfl (nI_1 i_3) (by decide) rfl (fun ls hl => ?_)
          refine lv_goto (tgt := 143) hx hb dX3_weigh_185 (by decide) ?_
          exact ih_3 p_3 H locs ls ⟨((show p_3 = weC i_3 p_3 from (by simp only [weC, eq_false c_158, gi_sl, gi_sA, gi_sB, gi_si_s, gi_si_n, gl_si, gl_sA, gl_sB, gl_sl_s, gl_sl_n, gA_si, gA_sl, gA_sB, gA_sA_s, gA_sA_n, gB_si, gB_sl, gB_sA, gB_sB_s, gB_sB_n, Nat.reduceBEq, if_true, if_false, eq_self, Bool.false_eq_true, Bool.true_eq_false, not_true_eq_false, not_false_eq_true, decide_true, decide_false, cond_true, cond_false, Bool.true_and, Bool.false_and, Bool.and_true, Bool.and_false, Bool.true_or, Bool.false_or, Bool.or_true, Bool.or_false, b2i_tt, b2i_ff, pr_eta]; done)).trans (lp_go h_3)), hP, hD, hS, lv_sub hl [1, 2, 3, 4, 0] rfl⟩
        · refine lv_aload_n hx hb dX3_weigh_161 rfl (lv_at hl 0 rfl) ?_
          refine va_get (D := D) (ci := 3) (v := .ref (ad 41)) (C := RX3) (T := TX3) (N := 16) hx hb hg inGX3 hown hK hP 6 xo6 rfl 8 (by decide) (hg _ mw_292) (fun _ h9 => h9) xvX3_8 dX3_weigh_162 ?_
          refine lv_iload hx hb dX3_weigh_165 (lv_at hl 4 rfl) ?_
          refine lv_iload hx hb dX3_weigh_167 (lv_at hl 4 rfl) ?_
          refine kV (rSN hx hb hml hown hg hN hK hP hD (c_put l D cI cJ (XW ad cI cJ co fl ra li re wa p_3) 41 (ad 41) 120 (gA p_3 7) (nI i_3) (nI i_3) (xg41 rfl) (by decide)) mw_92 nw_95 mw_93 mw_77 pd_X7_put ⟨Nat.le_of_ble_eq_true rfl, Nat.le_of_ble_eq_true rfl⟩ rfl hl.1 rfl (Nat.le_of_ble_eq_true rfl) dX3_weigh_169 ⟨Nat.le_of_ble_eq_true rfl, Nat.le_of_ble_eq_true rfl⟩) hD hS hA (fun u_5 H locs hp hP hD hS => ?_)
          obtain rfl := hp.symm
          have hP : va_P D vwCl (XW ad cI cJ co fl ra li re wa (sA p_3 7 (wr (gA p_3 7) 120 (nI i_3) (nI i_3)))) H := cgP xs41 hP
          have hD : va_D A (XW ad cI cJ co fl ra li re wa (sA p_3 7 (wr (gA p_3 7) 120 (nI i_3) (nI i_3)))) := cgD xs41 hD
          refine lv_aload_n hx hb dX3_weigh_172 rfl (lv_at hl 0 rfl) ?_
          refine va_get (D := D) (ci := 3) (v := .ref (ad 42)) (C := RX3) (T := TX3) (N := 16) hx hb hg inGX3 hown hK hP 6 xo6 rfl 9 (by decide) (hg _ mw_293) (fun _ h9 => h9) xvX3_9 dX3_weigh_173 ?_
          refine lv_iload hx hb dX3_weigh_176 (lv_at hl 4 rfl) ?_
          refine lv_iconst (v := 1) hx hb dX3_weigh_178 (by decide) ?_
          refine kV (rSN hx hb hml hown hg hN hK hP hD (c_put l D cI cJ (XW ad cI cJ co fl ra li re wa (sA p_3 7 (wr (gA p_3 7) 120 (nI i_3) (nI i_3)))) 42 (ad 42) 120 (gA p_3 8) (nI i_3) 1 (xg42 (by simp only [gi_sl, gi_sA, gi_sB, gi_si_s, gi_si_n, gl_si, gl_sA, gl_sB, gl_sl_s, gl_sl_n, gA_si, gA_sl, gA_sB, gA_sA_s, gA_sA_n, gB_si, gB_sl, gB_sA, gB_sB_s, gB_sB_n, Nat.reduceBEq])) (by decide)) mw_92 nw_95 mw_93 mw_77 pd_X7_put ⟨Nat.le_of_ble_eq_true rfl, Nat.le_of_ble_eq_true rfl⟩ rfl hl.1 rfl (Nat.le_of_ble_eq_true rfl) dX3_weigh_179 ⟨Nat.le_of_ble_eq_true rfl, Nat.le_of_ble_eq_true rfl⟩) hD hS hA (fun u_6 H locs hp hP hD hS => ?_)
          obtain rfl := hp.symm
          have hP : va_P D vwCl (XW ad cI cJ co fl ra li re wa (sA (sA p_3 7 (wr (gA p_3 7) 120 (nI i_3) (nI i_3))) 8 (wr (gA p_3 8) 120 (nI i_3) 1))) H := cgP xs42 hP
          have hD : va_D A (XW ad cI cJ co fl ra li re wa (sA (sA p_3 7 (wr (gA p_3 7) 120 (nI i_3) (nI i_3))) 8 (wr (gA p_3 8) 120 (nI i_3) 1))) := cgD xs42 hD
          refine lv_iinc (v := (nI (i_3 + 1))) (lv' := [(5, .int (nI (i_3 + 1))), (0, .ref (ad 6)), (1, .int k1), (2, .int k2), (3, .int k3)]) hx hb dX3_weigh_182 hl (k := 4) rfl (nI_1 i_3) (by decide) rfl (fun ls hl => ?_)
          refine lv_goto (tgt := 143) hx hb dX3_weigh_185 (by decide) ?_
          exact ih_3 (sA (sA p_3 7 (wr (gA p_3 7) 120 (nI i_3) (nI i_3))) 8 (wr (gA p_3 8) 120 (nI i_3) 1)) H locs ls ⟨((show (sA (sA p_3 7 (wr (gA p_3 7) 120 (nI i_3) (nI i_3))) 8 (wr (gA p_3 8) 120 (nI i_3) 1)) = weC i_3 p_3 from (by simp only [weC, eq_true c_158, gi_sl, gi_sA, gi_sB, gi_si_s, gi_si_n, gl_si, gl_sA, gl_sB, gl_sl_s, gl_sl_n, gA_si, gA_sl, gA_sB, gA_sA_s, gA_sA_n, gB_si, gB_sl, gB_sA, gB_sB_s, gB_sB_n, Nat.reduceBEq, if_true, if_false, eq_self, Bool.false_eq_true, Bool.true_eq_false, not_true_eq_false, not_false_eq_true, decide_true, decide_false, cond_true, cond_false, Bool.true_and, Bool.false_and, Bool.and_true, Bool.and_false, Bool.true_or, Bool.false_or, Bool.or_true, Bool.or_false, b2i_tt, b2i_ff, pr_eta]; done)).trans (lp_go h_3)), hP, hD, hS, lv_sub hl [1, 2, 3, 4, 0] rfl⟩
    · obtain ⟨h_2, hP, hD, hS, hl⟩ := hI
      have hP : va_P D vwCl (XW ad cI cJ co fl ra li re wa p_2) H := hP
      have hD : va_D A (XW ad cI cJ co fl ra li re wa p_2) := hD
      have hl : lv_has ls 7 [(0, .ref (ad 6)), (1, .int k1), (2, .int k2), (3, .int k3), (4, .int (imin k1 k2)), (5, .int (nI i_2))] := hl
      refine lv_iload hx hb dX3_weigh_45 (lv_at hl 5 rfl) ?_
      refine lv_aload_n hx hb dX3_weigh_47 rfl (lv_at hl 0 rfl) ?_
      refine va_get (D := D) (ci := 3) (v := .int (gi p_2 0)) (C := RX3) (T := TX3) (N := 16) hx hb hg inGX3 hown hK hP 6 xo6 rfl 12 (by decide) (hg _ mw_228) (fun _ h9 => h9) (xvX3_12 rfl) dX3_weigh_48 ?_
      refine lv_icmp_ge (tgt := 140) hx hb dX3_weigh_51 (by decide) (fun c_51 => absurd c_51 (by rw [h_2, k_weBL, k_weAL]; exact lp_in hi_2)) (fun _ => ?_)
      refine lv_aload_n hx hb dX3_weigh_54 rfl (lv_at hl 0 rfl) ?_
      refine lv_iload hx hb dX3_weigh_55 (lv_at hl 5 rfl) ?_
      refine lv_iload hx hb dX3_weigh_57 (lv_at hl 4 rfl) ?_
      refine kI (rV (q0 := 6) (ci := 3) hx hb hml hown hg hN hK hP hD (c_leaves l D cI cJ ad co fl ra li re wa p_2 (nI i_2) (imin k1 k2)) mw_284 mw_285 mw_286 mw_287 mw_234 pdv_X3_leaves ⟨Nat.le_of_ble_eq_true rfl, Nat.le_of_ble_eq_true rfl⟩ rfl xo6 rfl hl.1 rfl (Nat.le_of_ble_eq_true rfl) dX3_weigh_59 ⟨Nat.le_of_ble_eq_true rfl, Nat.le_of_ble_eq_true rfl⟩) hD hS hA (fun r_7 u_7 H locs hp hP hD hS => ?_)
      obtain ⟨er, eu⟩ := hp
      obtain rfl := er.symm
      obtain rfl := eu.symm
      refine lv_if_eq (tgt := 134) hx hb dX3_weigh_62 (by decide) (fun c_62 => ?_) (fun c_62 => ?_)
      · have c_62 : ¬ (leaves wa p_2 (nI i_2) (imin k1 k2)) = true := b2i_0 c_62
        refine lv_iinc (v := (nI (i_2 + 1))) (lv' := [(5, .int (nI (i_2 + 1))), (0, .ref (ad 6)), (1, .int k1), (2, .int k2), (3, .int k3), (4, .int (imin k1 k2))]) hx hb dX3_weigh_134 hl (k := 5) rfl (nI_1 i_2) (by decide) rfl (fun ls hl => ?_)
        refine lv_goto (tgt := 45) hx hb dX3_weigh_137 (by decide) ?_
        exact ih_2 p_2 H locs ls ⟨((show p_2 = (weB wa k1 k2 (imin k1 k2)) i_2 p_2 from (by simp only [weB, weSpot, bf_of c_62, gi_sl, gi_sA, gi_sB, gi_si_s, gi_si_n, gl_si, gl_sA, gl_sB, gl_sl_s, gl_sl_n, gA_si, gA_sl, gA_sB, gA_sA_s, gA_sA_n, gB_si, gB_sl, gB_sA, gB_sB_s, gB_sB_n, Nat.reduceBEq, if_true, if_false, eq_self, Bool.false_eq_true, Bool.true_eq_false, not_true_eq_false, not_false_eq_true, decide_true, decide_false, cond_true, cond_false, Bool.true_and, Bool.false_and, Bool.and_true, Bool.and_false, Bool.true_or, Bool.false_or, Bool.or_true, Bool.or_false, b2i_tt, b2i_ff, pr_eta]; done)).trans (lp_go h_2)), hP, hD, hS, lv_sub hl [1, 2, 3, 4, 5, 0] rfl⟩
      · have c_62 : (leaves wa p_2 (nI i_2) (imin k1 k2)) = true := b2i_1 c_62
        refine lv_aload_n hx hb dX3_weigh_65 rfl (lv_at hl 0 rfl) ?_
        refine va_get (D := D) (ci := 3) (v := .ref (ad 39)) (C := RX3) (T := TX3) (N := 16) hx hb hg inGX3 hown hK hP 6 xo6 rfl 6 (by decide) (hg _ mw_255) (fun _ h9 => h9) xvX3_6 dX3_weigh_66 ?_
        refine lv_aload_n hx hb dX3_weigh_69 rfl (lv_at hl 0 rfl) ?_
        refine lv_iload hx hb dX3_weigh_70 (lv_at hl 5 rfl) ?_
        refine lv_iload_n hx hb dX3_weigh_72 rfl (lv_at hl 1 rfl) ?_
        refine kI (rV (q0 := 6) (ci := 3) hx hb hml hown hg hN hK hP hD (c_pointOn l D cI cJ ad co fl ra li re wa p_2 (nI i_2) k1) mw_257 mw_258 mw_259 mw_260 mw_234 pdv_X3_pointOn ⟨Nat.le_of_ble_eq_true rfl, Nat.le_of_ble_eq_true rfl⟩ rfl xo6 rfl hl.1 rfl (Nat.le_of_ble_eq_true rfl) dX3_weigh_73 ⟨Nat.le_of_ble_eq_true rfl, Nat.le_of_ble_eq_true rfl⟩) hD hS hA (fun r_8 u_8 H locs hp hP hD hS => ?_)
        obtain ⟨er, eu⟩ := hp
        obtain rfl := er.symm
        obtain rfl := eu.symm
        refine kI (rSN hx hb hml hown hg hN hK hP hD (c_at l D cI cJ (XW ad cI cJ co fl ra li re wa p_2) 39 (ad 39) 1600 (gA p_2 5) (pointOn wa p_2 (nI i_2) k1) (xg39 rfl) (by decide)) mw_84 nw_96 mw_85 mw_77 pd_X7_at ⟨Nat.le_of_ble_eq_true rfl, Nat.le_of_ble_eq_true rfl⟩ rfl hl.1 rfl (Nat.le_of_ble_eq_true rfl) dX3_weigh_76 ⟨Nat.le_of_ble_eq_true rfl, Nat.le_of_ble_eq_true rfl⟩) hD hS hA (fun r_9 u_9 H locs hp hP hD hS => ?_)
        obtain ⟨er, eu⟩ := hp
        obtain rfl := er.symm
        obtain rfl := eu.symm
        refine lv_istore (lv' := [(6, .int (rd (gA p_2 5) 1600 (pointOn wa p_2 (nI i_2) k1))), (0, .ref (ad 6)), (1, .int k1), (2, .int k2), (3, .int k3), (4, .int (imin k1 k2)), (5, .int (nI i_2))]) hx hb dX3_weigh_79 hl (by decide) rfl (fun ls hl => ?_)
        refine lv_aload_n hx hb dX3_weigh_81 rfl (lv_at hl 1 rfl) ?_
        refine va_get (D := D) (ci := 3) (v := .ref (ad 41)) (C := RX3) (T := TX3) (N := 16) hx hb hg inGX3 hown hK hP 6 xo6 rfl 8 (by decide) (hg _ mw_292) (fun _ h9 => h9) xvX3_8 dX3_weigh_82 ?_
        refine lv_iload hx hb dX3_weigh_85 (lv_at hl 0 rfl) ?_
        refine lv_aload_n hx hb dX3_weigh_87 rfl (lv_at hl 1 rfl) ?_
        refine va_get (D := D) (ci := 3) (v := .ref (ad 41)) (C := RX3) (T := TX3) (N := 16) hx hb hg inGX3 hown hK hP 6 xo6 rfl 8 (by decide) (hg _ mw_292) (fun _ h9 => h9) xvX3_8 dX3_weigh_88 ?_
        refine lv_iload hx hb dX3_weigh_91 (lv_at hl 0 rfl) ?_
        refine kI (rSN hx hb hml hown hg hN hK hP hD (c_at l D cI cJ (XW ad cI cJ co fl ra li re wa p_2) 41 (ad 41) 120 (gA p_2 7) (rd (gA p_2 5) 1600 (pointOn wa p_2 (nI i_2) k1)) (xg41 rfl) (by decide)) mw_84 nw_96 mw_85 mw_77 pd_X7_at ⟨Nat.le_of_ble_eq_true rfl, Nat.le_of_ble_eq_true rfl⟩ rfl hl.1 rfl (Nat.le_of_ble_eq_true rfl) dX3_weigh_93 ⟨Nat.le_of_ble_eq_true rfl, Nat.le_of_ble_eq_true rfl⟩) hD hS hA (fun r_10 u_10 H locs hp hP hD hS => ?_)
        obtain ⟨er, eu⟩ := hp
        obtain rfl := er.symm
        obtain rfl := eu.symm
        refine lv_aload_n hx hb dX3_weigh_96 rfl (lv_at hl 1 rfl) ?_
        refine va_get (D := D) (ci := 3) (v := .ref (ad 39)) (C := RX3) (T := TX3) (N := 16) hx hb hg inGX3 hown hK hP 6 xo6 rfl 6 (by decide) (hg _ mw_255) (fun _ h9 => h9) xvX3_6 dX3_weigh_97 ?_
        refine lv_aload_n hx hb dX3_weigh_100 rfl (lv_at hl 1 rfl) ?_
        refine lv_iload hx hb dX3_weigh_101 (lv_at hl 6 rfl) ?_
        refine lv_iload_n hx hb dX3_weigh_103 rfl (lv_at hl 3 rfl) ?_
        refine kI (rV (q0 := 6) (ci := 3) hx hb hml hown hg hN hK hP hD (c_pointOn l D cI cJ ad co fl ra li re wa p_2 (nI i_2) k2) mw_257 mw_258 mw_259 mw_260 mw_234 pdv_X3_pointOn ⟨Nat.le_of_ble_eq_true rfl, Nat.le_of_ble_eq_true rfl⟩ rfl xo6 rfl hl.1 rfl (Nat.le_of_ble_eq_true rfl) dX3_weigh_104 ⟨Nat.le_of_ble_eq_true rfl, Nat.le_of_ble_eq_true rfl⟩) hD hS hA (fun r_11 u_11 H locs hp hP hD hS => ?_)
        obtain ⟨er, eu⟩ := hp
        obtain rfl := er.symm
        obtain rfl := eu.symm
        refine kI (rSN hx hb hml hown hg hN hK hP hD (c_at l D cI cJ (XW ad cI cJ co fl ra li re wa p_2) 39 (ad 39) 1600 (gA p_2 5) (pointOn wa p_2 (nI i_2) k2) (xg39 rfl) (by decide)) mw_84 nw_96 mw_85 mw_77 pd_X7_at ⟨Nat.le_of_ble_eq_true rfl, Nat.le_of_ble_eq_true rfl⟩ rfl hl.1 rfl (Nat.le_of_ble_eq_true rfl) dX3_weigh_107 ⟨Nat.le_of_ble_eq_true rfl, Nat.le_of_ble_eq_true rfl⟩) hD hS hA (fun r_12 u_12 H locs hp hP hD hS => ?_)
        obtain ⟨er, eu⟩ := hp
        obtain rfl := er.symm
        obtain rfl := eu.symm
        refine lv_iadd hx hb dX3_weigh_110 ?_
        refine kV (rSN hx hb hml hown hg hN hK hP hD (c_put l D cI cJ (XW ad cI cJ co fl ra li re wa p_2) 41 (ad 41) 120 (gA p_2 7) (rd (gA p_2 5) 1600 (pointOn wa p_2 (nI i_2) k1)) ((rd (gA p_2 7) 120 (rd (gA p_2 5) 1600 (pointOn wa p_2 (nI i_2) k1))) + (rd (gA p_2 5) 1600 (pointOn wa p_2 (nI i_2) k2))) (xg41 rfl) (by decide)) mw_92 nw_95 mw_93 mw_77 pd_X7_put ⟨Nat.le_of_ble_eq_true rfl, Nat.le_of_ble_eq_true rfl⟩ rfl hl.1 rfl (Nat.le_of_ble_eq_true rfl) dX3_weigh_111 ⟨Nat.le_of_ble_eq_true rfl, Nat.le_of_ble_eq_true rfl⟩) hD hS hA (fun u_13 H locs hp hP hD hS => ?_)
        obtain rfl := hp.symm
        have hP : va_P D vwCl (XW ad cI cJ co fl ra li re wa (sA p_2 7 (wr (gA p_2 7) 120 (rd (gA p_2 5) 1600 (pointOn wa p_2 (nI i_2) k1)) ((rd (gA p_2 7) 120 (rd (gA p_2 5) 1600 (pointOn wa p_2 (nI i_2) k1))) + (rd (gA p_2 5) 1600 (pointOn wa p_2 (nI i_2) k2)))))) H := cgP xs41 hP
        have hD : va_D A (XW ad cI cJ co fl ra li re wa (sA p_2 7 (wr (gA p_2 7) 120 (rd (gA p_2 5) 1600 (pointOn wa p_2 (nI i_2) k1)) ((rd (gA p_2 7) 120 (rd (gA p_2 5) 1600 (pointOn wa p_2 (nI i_2) k1))) + (rd (gA p_2 5) 1600 (pointOn wa p_2 (nI i_2) k2)))))) := cgD xs41 hD
        refine lv_aload_n hx hb dX3_weigh_114 rfl (lv_at hl 1 rfl) ?_
        refine va_get (D := D) (ci := 3) (v := .ref (ad 42)) (C := RX3) (T := TX3) (N := 16) hx hb hg inGX3 hown hK hP 6 xo6 rfl 9 (by decide) (hg _ mw_293) (fun _ h9 => h9) xvX3_9 dX3_weigh_115 ?_
        refine lv_iload hx hb dX3_weigh_118 (lv_at hl 0 rfl) ?_
        refine lv_aload_n hx hb dX3_weigh_120 rfl (lv_at hl 1 rfl) ?_
        refine va_get (D := D) (ci := 3) (v := .ref (ad 42)) (C := RX3) (T := TX3) (N := 16) hx hb hg inGX3 hown hK hP 6 xo6 rfl 9 (by decide) (hg _ mw_293) (fun _ h9 => h9) xvX3_9 dX3_weigh_121 ?_
        refine lv_iload hx hb dX3_weigh_124 (lv_at hl 0 rfl) ?_
        refine kI (rSN hx hb hml hown hg hN hK hP hD (c_at l D cI cJ (XW ad cI cJ co fl ra li re wa (sA p_2 7 (wr (gA p_2 7) 120 (rd (gA p_2 5) 1600 (pointOn wa p_2 (nI i_2) k1)) ((rd (gA p_2 7) 120 (rd (gA p_2 5) 1600 (pointOn wa p_2 (nI i_2) k1))) + (rd (gA p_2 5) 1600 (pointOn wa p_2 (nI i_2) k2)))))) 42 (ad 42) 120 (gA p_2 8) (rd (gA p_2 5) 1600 (pointOn wa p_2 (nI i_2) k1)) (xg42 (by simp only [gi_sl, gi_sA, gi_sB, gi_si_s, gi_si_n, gl_si, gl_sA, gl_sB, gl_sl_s, gl_sl_n, gA_si, gA_sl, gA_sB, gA_sA_s, gA_sA_n, gB_si, gB_sl, gB_sA, gB_sB_s, gB_sB_n, Nat.reduceBEq])) (by decide)) mw_84 nw_96 mw_85 mw_77 pd_X7_at ⟨Nat.le_of_ble_eq_true rfl, Nat.le_of_ble_eq_true rfl⟩ rfl hl.1 rfl (Nat.le_of_ble_eq_true rfl) dX3_weigh_126 ⟨Nat.le_of_ble_eq_true rfl, Nat.le_of_ble_eq_true rfl⟩) hD hS hA (fun r_14 u_14 H locs hp hP hD hS => ?_)
        obtain ⟨er, eu⟩ := hp
        obtain rfl := er.symm
        obtain rfl := eu.symm
        refine lv_iconst (v := 1) hx hb dX3_weigh_129 (by decide) ?_
        refine lv_iadd hx hb dX3_weigh_130 ?_
        refine kV (rSN hx hb hml hown hg hN hK hP hD (c_put l D cI cJ (XW ad cI cJ co fl ra li re wa (sA p_2 7 (wr (gA p_2 7) 120 (rd (gA p_2 5) 1600 (pointOn wa p_2 (nI i_2) k1)) ((rd (gA p_2 7) 120 (rd (gA p_2 5) 1600 (pointOn wa p_2 (nI i_2) k1))) + (rd (gA p_2 5) 1600 (pointOn wa p_2 (nI i_2) k2)))))) 42 (ad 42) 120 (gA p_2 8) (rd (gA p_2 5) 1600 (pointOn wa p_2 (nI i_2) k1)) ((rd (gA p_2 8) 120 (rd (gA p_2 5) 1600 (pointOn wa p_2 (nI i_2) k1))) + 1) (xg42 (by simp only [gi_sl, gi_sA, gi_sB, gi_si_s, gi_si_n, gl_si, gl_sA, gl_sB, gl_sl_s, gl_sl_n, gA_si, gA_sl, gA_sB, gA_sA_s, gA_sA_n, gB_si, gB_sl, gB_sA, gB_sB_s, gB_sB_n, Nat.reduceBEq])) (by decide)) mw_92 nw_95 mw_93 mw_77 pd_X7_put ⟨Nat.le_of_ble_eq_true rfl, Nat.le_of_ble_eq_true rfl⟩ rfl hl.1 rfl (Nat.le_of_ble_eq_true rfl) dX3_weigh_131 ⟨Nat.le_of_ble_eq_true rfl, Nat.le_of_ble_eq_true rfl⟩) hD hS hA (fun u_15 H locs hp hP hD hS => ?_)
        obtain rfl := hp.symm
        have hP : va_P D vwCl (XW ad cI cJ co fl ra li re wa (sA (sA p_2 7 (wr (gA p_2 7) 120 (rd (gA p_2 5) 1600 (pointOn wa p_2 (nI i_2) k1)) ((rd (gA p_2 7) 120 (rd (gA p_2 5) 1600 (pointOn wa p_2 (nI i_2) k1))) + (rd (gA p_2 5) 1600 (pointOn wa p_2 (nI i_2) k2))))) 8 (wr (gA p_2 8) 120 (rd (gA p_2 5) 1600 (pointOn wa p_2 (nI i_2) k1)) ((rd (gA p_2 8) 120 (rd (gA p_2 5) 1600 (pointOn wa p_2 (nI i_2) k1))) + 1)))) H := cgP xs42 hP
        have hD : va_D A (XW ad cI cJ co fl ra li re wa (sA (sA p_2 7 (wr (gA p_2 7) 120 (rd (gA p_2 5) 1600 (pointOn wa p_2 (nI i_2) k1)) ((rd (gA p_2 7) 120 (rd (gA p_2 5) 1600 (pointOn wa p_2 (nI i_2) k1))) + (rd (gA p_2 5) 1600 (pointOn wa p_2 (nI i_2) k2))))) 8 (wr (gA p_2 8) 120 (rd (gA p_2 5) 1600 (pointOn wa p_2 (nI i_2) k1)) ((rd (gA p_2 8) 120 (rd (gA p_2 5) 1600 (pointOn wa p_2 (nI i_2) k1))) + 1)))) := cgD xs42 hD
        refine lv_iinc (v := (nI (i_2 + 1))) (lv' := [(5, .int (nI (i_2 + 1))), (6, .int (rd (gA p_2 5) 1600 (pointOn wa p_2 (nI i_2) k1))), (0, .ref (ad 6)), (1, .int k1), (2, .int k2), (3, .int k3), (4, .int (imin k1 k2))]) hx hb dX3_weigh_134 hl (k := 6) rfl (nI_1 i_2) (by decide) rfl (fun ls hl => ?_)
        refine lv_goto (tgt := 45) hx hb dX3_weigh_137 (by decide) ?_
        exact ih_2 (sA (sA p_2 7 (wr (gA p_2 7) 120 (rd (gA p_2 5) 1600 (pointOn wa p_2 (nI i_2) k1)) ((rd (gA p_2 7) 120 (rd (gA p_2 5) 1600 (pointOn wa p_2 (nI i_2) k1))) + (rd (gA p_2 5) 1600 (pointOn wa p_2 (nI i_2) k2))))) 8 (wr (gA p_2 8) 120 (rd (gA p_2 5) 1600 (pointOn wa p_2 (nI i_2) k1)) ((rd (gA p_2 8) 120 (rd (gA p_2 5) 1600 (pointOn wa p_2 (nI i_2) k1))) + 1))) H locs ls ⟨((show (sA (sA p_2 7 (wr (gA p_2 7) 120 (rd (gA p_2 5) 1600 (pointOn wa p_2 (nI i_2) k1)) ((rd (gA p_2 7) 120 (rd (gA p_2 5) 1600 (pointOn wa p_2 (nI i_2) k1))) + (rd (gA p_2 5) 1600 (pointOn wa p_2 (nI i_2) k2))))) 8 (wr (gA p_2 8) 120 (rd (gA p_2 5) 1600 (pointOn wa p_2 (nI i_2) k1)) ((rd (gA p_2 8) 120 (rd (gA p_2 5) 1600 (pointOn wa p_2 (nI i_2) k1))) + 1))) = (weB wa k1 k2 (imin k1 k2)) i_2 p_2 from (by simp only [weB, weSpot, c_62, gi_sl, gi_sA, gi_sB, gi_si_s, gi_si_n, gl_si, gl_sA, gl_sB, gl_sl_s, gl_sl_n, gA_si, gA_sl, gA_sB, gA_sA_s, gA_sA_n, gB_si, gB_sl, gB_sA, gB_sB_s, gB_sB_n, Nat.reduceBEq, if_true, if_false, eq_self, Bool.false_eq_true, Bool.true_eq_false, not_true_eq_false, not_false_eq_true, decide_true, decide_false, cond_true, cond_false, Bool.true_and, Bool.false_and, Bool.and_true, Bool.and_false, Bool.true_or, Bool.false_or, Bool.or_true, Bool.or_false, b2i_tt, b2i_ff, pr_eta]; done)).trans (lp_go h_2)), hP, hD, hS, lv_sub hl [2, 3, 4, 5, 6, 0] rfl⟩
  · obtain ⟨h_1, hP, hD, hS, hl⟩ := hI
    have hP : va_P D vwCl (XW ad cI cJ co fl ra li re wa p_1) H := hP
    have hD : va_D A (XW ad cI cJ co fl ra li re wa p_1) := hD
    have hl : lv_has ls 7 [(0, .ref (ad 6)), (1, .int k1), (2, .int k2), (3, .int k3), (4, .int (nI i_1))] := hl
    refine lv_iload hx hb dX3_weigh_3 (lv_at hl 4 rfl) ?_
    refine lv_iload_n hx hb dX3_weigh_5 rfl (lv_at hl 3 rfl) ?_
    refine lv_icmp_ge (tgt := 35) hx hb dX3_weigh_6 (by decide) (fun c_6 => absurd c_6 (lp_in hi_1)) (fun _ => ?_)
    refine lv_aload_n hx hb dX3_weigh_9 rfl (lv_at hl 0 rfl) ?_
    refine va_get (D := D) (ci := 3) (v := .ref (ad 41)) (C := RX3) (T := TX3) (N := 16) hx hb hg inGX3 hown hK hP 6 xo6 rfl 8 (by decide) (hg _ mw_292) (fun _ h9 => h9) xvX3_8 dX3_weigh_10 ?_
    refine lv_iload hx hb dX3_weigh_13 (lv_at hl 4 rfl) ?_
    refine lv_iconst (v := 0) hx hb dX3_weigh_15 (by decide) ?_
    refine kV (rSN hx hb hml hown hg hN hK hP hD (c_put l D cI cJ (XW ad cI cJ co fl ra li re wa p_1) 41 (ad 41) 120 (gA p_1 7) (nI i_1) 0 (xg41 rfl) (by decide)) mw_92 nw_95 mw_93 mw_77 pd_X7_put ⟨Nat.le_of_ble_eq_true rfl, Nat.le_of_ble_eq_true rfl⟩ rfl hl.1 rfl (Nat.le_of_ble_eq_true rfl) dX3_weigh_16 ⟨Nat.le_of_ble_eq_true rfl, Nat.le_of_ble_eq_true rfl⟩) hD hS hA (fun u_16 H locs hp hP hD hS => ?_)
    obtain rfl := hp.symm
    have hP : va_P D vwCl (XW ad cI cJ co fl ra li re wa (sA p_1 7 (wr (gA p_1 7) 120 (nI i_1) 0))) H := cgP xs41 hP
    have hD : va_D A (XW ad cI cJ co fl ra li re wa (sA p_1 7 (wr (gA p_1 7) 120 (nI i_1) 0))) := cgD xs41 hD
    refine lv_aload_n hx hb dX3_weigh_19 rfl (lv_at hl 0 rfl) ?_
    refine va_get (D := D) (ci := 3) (v := .ref (ad 42)) (C := RX3) (T := TX3) (N := 16) hx hb hg inGX3 hown hK hP 6 xo6 rfl 9 (by decide) (hg _ mw_293) (fun _ h9 => h9) xvX3_9 dX3_weigh_20 ?_
    refine lv_iload hx hb dX3_weigh_23 (lv_at hl 4 rfl) ?_
    refine lv_iconst (v := 0) hx hb dX3_weigh_25 (by decide) ?_
    refine kV (rSN hx hb hml hown hg hN hK hP hD (c_put l D cI cJ (XW ad cI cJ co fl ra li re wa (sA p_1 7 (wr (gA p_1 7) 120 (nI i_1) 0))) 42 (ad 42) 120 (gA p_1 8) (nI i_1) 0 (xg42 (by simp only [gi_sl, gi_sA, gi_sB, gi_si_s, gi_si_n, gl_si, gl_sA, gl_sB, gl_sl_s, gl_sl_n, gA_si, gA_sl, gA_sB, gA_sA_s, gA_sA_n, gB_si, gB_sl, gB_sA, gB_sB_s, gB_sB_n, Nat.reduceBEq])) (by decide)) mw_92 nw_95 mw_93 mw_77 pd_X7_put ⟨Nat.le_of_ble_eq_true rfl, Nat.le_of_ble_eq_true rfl⟩ rfl hl.1 rfl (Nat.le_of_ble_eq_true rfl) dX3_weigh_26 ⟨Nat.le_of_ble_eq_true rfl, Nat.le_of_ble_eq_true rfl⟩) hD hS hA (fun u_17 H locs hp hP hD hS => ?_)
    obtain rfl := hp.symm
    have hP : va_P D vwCl (XW ad cI cJ co fl ra li re wa (sA (sA p_1 7 (wr (gA p_1 7) 120 (nI i_1) 0)) 8 (wr (gA p_1 8) 120 (nI i_1) 0))) H := cgP xs42 hP
    have hD : va_D A (XW ad cI cJ co fl ra li re wa (sA (sA p_1 7 (wr (gA p_1 7) 120 (nI i_1) 0)) 8 (wr (gA p_1 8) 120 (nI i_1) 0))) := cgD xs42 hD
    refine lv_iinc (v := (nI (i_1 + 1))) (lv' := [(4, .int (nI (i_1 + 1))), (0, .ref (ad 6)), (1, .int k1), (2, .int k2), (3, .int k3)]) hx hb dX3_weigh_29 hl (k := 4) rfl (nI_1 i_1) (by decide) rfl (fun ls hl => ?_)
    refine lv_goto (tgt := 3) hx hb dX3_weigh_32 (by decide) ?_
    exact ih_1 (sA (sA p_1 7 (wr (gA p_1 7) 120 (nI i_1) 0)) 8 (wr (gA p_1 8) 120 (nI i_1) 0)) H locs ls ⟨((show (sA (sA p_1 7 (wr (gA p_1 7) 120 (nI i_1) 0)) 8 (wr (gA p_1 8) 120 (nI i_1) 0)) = weA i_1 p_1 from (by first | with_reducible rfl | (simp only [weA, gi_sl, gi_sA, gi_sB, gi_si_s, gi_si_n, gl_si, gl_sA, gl_sB, gl_sl_s, gl_sl_n, gA_si, gA_sl, gA_sB, gA_sA_s, gA_sA_n, gB_si, gB_sl, gB_sA, gB_sB_s, gB_sB_n, Nat.reduceBEq, if_true, if_false, eq_self, Bool.false_eq_true, Bool.true_eq_false, not_true_eq_false, not_false_eq_true, decide_true, decide_false, cond_true, cond_false, Bool.true_and, Bool.false_and, Bool.and_true, Bool.and_false, Bool.true_or, Bool.false_or, Bool.or_true, Bool.or_false, b2i_tt, b2i_ff, pr_eta]; done))).trans (lp_go h_1)), hP, hD, hS, lv_sub hl [1, 2, 3, 4, 0] rfl⟩
