theorem dJ7_fill_53178_0 : decode cJ7_fill_53178 0 = .ok (.iconst 0, 1) := by decide +kernel
theorem dJ7_fill_53178_1 : decode cJ7_fill_53178 1 = .ok (.istore_n 2, 1) := by decide +kernel
theorem dJ7_fill_53178_2 : decode cJ7_fill_53178 2 = .ok (.aload_n 0, 1) := by decide +kernel
theorem dJ7_fill_53178_3 : decode cJ7_fill_53178 3 = .ok (.arraylength, 1) := by decide +kernel
theorem dJ7_fill_53178_4 : decode cJ7_fill_53178 4 = .ok (.istore_n 3, 1) := by decide +kernel
theorem dJ7_fill_53178_5 : decode cJ7_fill_53178 5 = .ok (.iload_n 2, 1) := by decide +kernel
theorem dJ7_fill_53178_6 : decode cJ7_fill_53178 6 = .ok (.iload_n 3, 1) := by decide +kernel
theorem dJ7_fill_53178_7 : decode cJ7_fill_53178 7 = .ok (.if_icmp .ge 13, 3) := by decide +kernel
theorem dJ7_fill_53178_10 : decode cJ7_fill_53178 10 = .ok (.aload_n 0, 1) := by decide +kernel
theorem dJ7_fill_53178_11 : decode cJ7_fill_53178 11 = .ok (.iload_n 2, 1) := by decide +kernel
theorem dJ7_fill_53178_12 : decode cJ7_fill_53178 12 = .ok (.iload_n 1, 1) := by decide +kernel
theorem dJ7_fill_53178_13 : decode cJ7_fill_53178 13 = .ok (.iastore, 1) := by decide +kernel
theorem dJ7_fill_53178_14 : decode cJ7_fill_53178 14 = .ok (.iinc 2 1, 3) := by decide +kernel
theorem dJ7_fill_53178_17 : decode cJ7_fill_53178 17 = .ok (.goto (-12), 3) := by decide +kernel
theorem dJ7_fill_53178_20 : decode cJ7_fill_53178 20 = .ok (.return_, 1) := by decide +kernel
theorem dJ7_fill_d0a16_0 : decode cJ7_fill_d0a16 0 = .ok (.iconst 0, 1) := by decide +kernel
theorem dJ7_fill_d0a16_1 : decode cJ7_fill_d0a16 1 = .ok (.istore_n 3, 1) := by decide +kernel
theorem dJ7_fill_d0a16_2 : decode cJ7_fill_d0a16 2 = .ok (.aload_n 0, 1) := by decide +kernel
theorem dJ7_fill_d0a16_3 : decode cJ7_fill_d0a16 3 = .ok (.arraylength, 1) := by decide +kernel
theorem dJ7_fill_d0a16_4 : decode cJ7_fill_d0a16 4 = .ok (.istore 4, 2) := by decide +kernel
theorem dJ7_fill_d0a16_6 : decode cJ7_fill_d0a16 6 = .ok (.iload_n 3, 1) := by decide +kernel
theorem dJ7_fill_d0a16_7 : decode cJ7_fill_d0a16 7 = .ok (.iload 4, 2) := by decide +kernel
theorem dJ7_fill_d0a16_9 : decode cJ7_fill_d0a16 9 = .ok (.if_icmp .ge 13, 3) := by decide +kernel
theorem dJ7_fill_d0a16_12 : decode cJ7_fill_d0a16 12 = .ok (.aload_n 0, 1) := by decide +kernel
theorem dJ7_fill_d0a16_13 : decode cJ7_fill_d0a16 13 = .ok (.iload_n 3, 1) := by decide +kernel
theorem dJ7_fill_d0a16_14 : decode cJ7_fill_d0a16 14 = .ok (.lload_n 1, 1) := by decide +kernel
theorem dJ7_fill_d0a16_15 : decode cJ7_fill_d0a16 15 = .ok (.lastore, 1) := by decide +kernel
theorem dJ7_fill_d0a16_16 : decode cJ7_fill_d0a16 16 = .ok (.iinc 3 1, 3) := by decide +kernel
theorem dJ7_fill_d0a16_19 : decode cJ7_fill_d0a16 19 = .ok (.goto (-13), 3) := by decide +kernel
theorem dJ7_fill_d0a16_22 : decode cJ7_fill_d0a16 22 = .ok (.return_, 1) := by decide +kernel
theorem dJ7_fill_49daa_0 : decode cJ7_fill_49daa 0 = .ok (.iconst 0, 1) := by decide +kernel
theorem dJ7_fill_49daa_1 : decode cJ7_fill_49daa 1 = .ok (.istore_n 2, 1) := by decide +kernel
theorem dJ7_fill_49daa_2 : decode cJ7_fill_49daa 2 = .ok (.aload_n 0, 1) := by decide +kernel
theorem dJ7_fill_49daa_3 : decode cJ7_fill_49daa 3 = .ok (.arraylength, 1) := by decide +kernel
theorem dJ7_fill_49daa_4 : decode cJ7_fill_49daa 4 = .ok (.istore_n 3, 1) := by decide +kernel
theorem dJ7_fill_49daa_5 : decode cJ7_fill_49daa 5 = .ok (.iload_n 2, 1) := by decide +kernel
theorem dJ7_fill_49daa_6 : decode cJ7_fill_49daa 6 = .ok (.iload_n 3, 1) := by decide +kernel
theorem dJ7_fill_49daa_7 : decode cJ7_fill_49daa 7 = .ok (.if_icmp .ge 13, 3) := by decide +kernel
theorem dJ7_fill_49daa_10 : decode cJ7_fill_49daa 10 = .ok (.aload_n 0, 1) := by decide +kernel
theorem dJ7_fill_49daa_11 : decode cJ7_fill_49daa 11 = .ok (.iload_n 2, 1) := by decide +kernel
theorem dJ7_fill_49daa_12 : decode cJ7_fill_49daa 12 = .ok (.iload_n 1, 1) := by decide +kernel
theorem dJ7_fill_49daa_13 : decode cJ7_fill_49daa 13 = .ok (.bastore, 1) := by decide +kernel
theorem dJ7_fill_49daa_14 : decode cJ7_fill_49daa 14 = .ok (.iinc 2 1, 3) := by decide +kernel
theorem dJ7_fill_49daa_17 : decode cJ7_fill_49daa 17 = .ok (.goto (-12), 3) := by decide +kernel
theorem dJ7_fill_49daa_20 : decode cJ7_fill_49daa 20 = .ok (.return_, 1) := by decide +kernel
abbrev TO (cI cJ cZ cO : ClassId) : List (ClassId × FieldType) := [(cI, .int), (cJ, .long), (cZ, .boolean), (cO, .array .int)]
def MW (oc : Nat × va_E) (am : Nat → Nat) (cI cJ cZ cO : ClassId) (th mn ld sw : Int32) (sm : Int64) (qo : Nat) (F : Nat → Nat → Int32) (G : Nat → Nat → Int64) : va_W := [oc, (am 1, .inr (8, [.int th, .int mn, .ref (am 2), .ref (am 3), .ref (am 4), .ref (am 5), .int ld, .int 0, .int 0, .ref (am 6), .ref (am 7), .ref (am 8), .ref (am 9), .long 0, .ref (am 10), .ref (am 11), .ref (am 12), .ref (am 13), .ref (am 14), .ref (am 15), .ref (am 16), .int 0, .long 0, .ref (am 17), .ref (am 18), .int 0, .ref (am 19), .ref (am 20), .int 0, .ref qo, .int sw, .long sm])), (am 2, .inl (cI, 40, .inl (F 2))), (am 3, .inl (cI, 40, .inl (F 3))), (am 4, .inl (cI, 40, .inl (F 4))), (am 5, .inl (cI, 40, .inl (F 5))), (am 6, .inl (cI, 40, .inl (F 6))), (am 7, .inl (cI, 41, .inl (F 7))), (am 8, .inl (cI, 80, .inl (F 8))), (am 9, .inl (cI, 80, .inl (F 9))), (am 10, .inl (cJ, 40, .inr (.inl (G 10)))), (am 11, .inl (cJ, 40, .inr (.inl (G 11)))), (am 12, .inl (cI, 40, .inl (F 12))), (am 13, .inl (cJ, 40, .inr (.inl (G 13)))), (am 14, .inl (cI, 40, .inl (F 14))), (am 15, .inl (cI, 160, .inl (F 15))), (am 16, .inl (cI, 160, .inl (F 16))), (am 17, .inl (cI, 40, .inl (F 17))), (am 18, .inl (cI, 40, .inl (F 18))), (am 19, .inl (cZ, 80, .inl (F 19))), (am 20, .inl (cI, 40, .inl (F 20))), (qo, .inl (cO, 0, .inr (.inr (.inr (.inr (fun _ => none))))))]
theorem set_get {w : va_W} {q0 : Nat} {e e' : Nat × va_E} (hq : w[q0]? = some e) : (w.set q0 e')[q0]? = some e' := List.getElem?_set_self (List.getElem?_eq_some_iff.mp hq).1
theorem is_m1 {v r : Int32} (h : r = 1 ∧ ¬ v < 0 ∧ ¬ (-1) < v ∨ r = 0 ∧ (v < 0 ∨ (-1) < v)) : r = 0 := by
  rcases h with ⟨-, h1, h2⟩ | ⟨h, -⟩
  · exfalso
    rw [Int32.lt_iff_toInt_lt] at h1 h2
    have h0 : (0 : Int32).toInt = 0 := rfl
    have hm : (-1 : Int32).toInt = -1 := rfl
    omega
  · exact h
set_option maxHeartbeats 4000000 in
set_option maxRecDepth 100000 in
theorem m_fillI (l : Launch) (D : va_G) (cI cJ cZ : ClassId) (cO : ClassId) (w : va_W) (q0 a n : Nat) (f : Nat → Int32) (v : Int32) (hq : w[q0]? = some (a, .inl (cI, n, .inl f))) (hn : n < 2 ^ 31) : CT l D (TO cI cJ cZ cO) yJ7_fill_53178 (.code yJ7_fill_53178 cJ7_fill_53178 4 (none : Option FieldType)) 0 0 0 w [.ref a, .int v] (QV D (TO cI cJ cZ cO) (fun u => ∃ f9, u = w.set q0 (a, .inl (cI, n, .inl f9)))) := by
  refine ent (by decide) (Nat.le_of_ble_eq_true rfl) ?_
  intro p e s m below meth c ls A hx hb hr hg hown hml hlocks hnm hP hK hD hS hA hN hl
  have hl : lv_has ls 4 [(0, .ref a), (1, .int v)] := hl
  refine lv_iconst (v := 0) hx hb dJ7_fill_53178_0 (by decide) ?_
  refine lv_istore_n (lv' := [(2, .int 0), (0, .ref a), (1, .int v)]) hx hb dJ7_fill_53178_1 rfl hl (by decide) rfl (fun ls hl => ?_)
  refine lv_aload_n hx hb dJ7_fill_53178_2 rfl (lv_at hl 1 rfl) ?_
  refine va_alen (v := (nI n)) hx hb hK hP q0 0 hq rfl rfl dJ7_fill_53178_3 ?_
  refine lv_istore_n (lv' := [(3, .int (nI n)), (2, .int 0), (0, .ref a), (1, .int v)]) hx hb dJ7_fill_53178_4 rfl hl (by decide) rfl (fun ls hl => ?_)
  have hP : va_P D vwCl (w.set q0 (a, .inl (cI, n, .inl f))) s.heap := by rw [set_same hq]; exact hP
  have hD : va_D A (w.set q0 (a, .inl (cI, n, .inl f))) := by rw [set_same hq]; exact hD
  -- the loop at 5
  refine w_loop (σ := Nat → Int32) (fun (i : Nat) (u_1 : Nat → Int32) (H : Heap) (locs : List Loc) (ls : Array Slot) => (True) ∧ va_P D vwCl (w.set q0 (a, .inl (cI, n, .inl u_1))) H ∧ va_D A (w.set q0 (a, .inl (cI, n, .inl u_1))) ∧ va_S A s.heap H locs ∧ lv_has ls 4 [(0, .ref a), (1, .int v), (2, .int (nI i)), (3, .int (nI n))]) n (fun u_1 H locs ls hI => ?_) (fun i u_1 H locs ls hi hI ih => ?_) 0 f (Nat.zero_le _) ⟨trivial, hP, hD, hS, by rw [nI_0]; exact lv_sub hl [2, 3, 1, 0] rfl⟩
  · obtain ⟨hF_1, hP, hD, hS, hl⟩ := hI
    have hP : va_P D vwCl (w.set q0 (a, .inl (cI, n, .inl u_1))) H := hP
    have hD : va_D A (w.set q0 (a, .inl (cI, n, .inl u_1))) := hD
    have hl : lv_has ls 4 [(0, .ref a), (1, .int v), (2, .int (nI n)), (3, .int (nI n))] := hl
    refine lv_iload_n hx hb dJ7_fill_53178_5 rfl (lv_at hl 2 rfl) ?_
    refine lv_iload_n hx hb dJ7_fill_53178_6 rfl (lv_at hl 3 rfl) ?_
    refine lv_icmp_ge (tgt := 20) hx hb dJ7_fill_53178_7 (by decide) (fun c_7 => ?_) (fun c_7 => absurd (Int32.le_refl _) c_7)
    exact W.vret hx hb hr (fun t ht hW => ⟨⟨(w.set q0 (a, .inl (cI, n, .inl u_1))), rfl, ⟨_, rfl⟩, ⟨by rw [ht]; exact hP, va_K.moved hW.alike hK, hD⟩⟩, hS.F ht⟩) hS.2.2 dJ7_fill_53178_20
  · obtain ⟨hF_1, hP, hD, hS, hl⟩ := hI
    have hP : va_P D vwCl (w.set q0 (a, .inl (cI, n, .inl u_1))) H := hP
    have hD : va_D A (w.set q0 (a, .inl (cI, n, .inl u_1))) := hD
    have hl : lv_has ls 4 [(0, .ref a), (1, .int v), (2, .int (nI i)), (3, .int (nI n))] := hl
    refine lv_iload_n hx hb dJ7_fill_53178_5 rfl (lv_at hl 2 rfl) ?_
    refine lv_iload_n hx hb dJ7_fill_53178_6 rfl (lv_at hl 3 rfl) ?_
    refine lv_icmp_ge (tgt := 20) hx hb dJ7_fill_53178_7 (by decide) (fun c_7 => absurd c_7 (nI_ge hi hn)) (fun c_7 => ?_)
    refine lv_aload_n hx hb dJ7_fill_53178_10 rfl (lv_at hl 0 rfl) ?_
    refine lv_iload_n hx hb dJ7_fill_53178_11 rfl (lv_at hl 2 rfl) ?_
    refine lv_iload_n hx hb dJ7_fill_53178_12 rfl (lv_at hl 1 rfl) ?_
    refine va_iast hx hb hK hP hD hS q0 0 (set_get hq) rfl (vp_in_nI hi hn) dJ7_fill_53178_13 (fun H locs hP hD hS => ?_)
    have hP : va_P D vwCl ((w.set q0 (a, .inl (cI, n, .inl u_1))).set q0 (a, .inl (cI, n, .inl (upd u_1 ((nI i) : Int32).toNatClampNeg v)))) H := hP
    have hD : va_D A ((w.set q0 (a, .inl (cI, n, .inl u_1))).set q0 (a, .inl (cI, n, .inl (upd u_1 ((nI i) : Int32).toNatClampNeg v)))) := hD
    refine lv_iinc (v := nI (i + 1)) (lv' := [(2, .int (nI (i + 1))), (0, .ref a), (1, .int v), (3, .int (nI n))]) hx hb dJ7_fill_53178_14 hl (k := 2) rfl (nI_1 i) (by decide) rfl (fun ls hl => ?_)
    refine lv_goto (tgt := 5) hx hb dJ7_fill_53178_17 (by decide) ?_
    have hP : va_P D vwCl (w.set q0 (a, .inl (cI, n, .inl (upd u_1 ((nI i) : Int32).toNatClampNeg v)))) H := by rw [List.set_set] at hP; exact hP
    have hD : va_D A (w.set q0 (a, .inl (cI, n, .inl (upd u_1 ((nI i) : Int32).toNatClampNeg v)))) := by rw [List.set_set] at hD; exact hD
    exact ih (upd u_1 ((nI i) : Int32).toNatClampNeg v) H locs ls ⟨trivial, hP, hD, hS, lv_sub hl [1, 2, 0, 3] rfl⟩
set_option maxHeartbeats 4000000 in
set_option maxRecDepth 100000 in
theorem m_fillJ (l : Launch) (D : va_G) (cI cJ cZ : ClassId) (cO : ClassId) (w : va_W) (q0 a n : Nat) (f : Nat → Int64) (v : Int64) (hq : w[q0]? = some (a, .inl (cJ, n, .inr (.inl f)))) (hn : n < 2 ^ 31) : CT l D (TO cI cJ cZ cO) yJ7_fill_d0a16 (.code yJ7_fill_d0a16 cJ7_fill_d0a16 5 (none : Option FieldType)) 0 0 0 w [.ref a, .long v] (QV D (TO cI cJ cZ cO) (fun u => ∃ f9, u = w.set q0 (a, .inl (cJ, n, .inr (.inl f9))))) := by
  refine ent (by decide) (Nat.le_of_ble_eq_true rfl) ?_
  intro p e s m below meth c ls A hx hb hr hg hown hml hlocks hnm hP hK hD hS hA hN hl
  have hl : lv_has ls 5 [(0, .ref a), (1, .long v)] := hl
  refine lv_iconst (v := 0) hx hb dJ7_fill_d0a16_0 (by decide) ?_
  refine lv_istore_n (lv' := [(3, .int 0), (0, .ref a), (1, .long v)]) hx hb dJ7_fill_d0a16_1 rfl hl (by decide) rfl (fun ls hl => ?_)
  refine lv_aload_n hx hb dJ7_fill_d0a16_2 rfl (lv_at hl 1 rfl) ?_
  refine va_alen (v := (nI n)) hx hb hK hP q0 1 hq rfl rfl dJ7_fill_d0a16_3 ?_
  refine lv_istore (lv' := [(4, .int (nI n)), (3, .int 0), (0, .ref a), (1, .long v)]) hx hb dJ7_fill_d0a16_4 hl (by decide) rfl (fun ls hl => ?_)
  have hP : va_P D vwCl (w.set q0 (a, .inl (cJ, n, .inr (.inl f)))) s.heap := by rw [set_same hq]; exact hP
  have hD : va_D A (w.set q0 (a, .inl (cJ, n, .inr (.inl f)))) := by rw [set_same hq]; exact hD
  -- the loop at 6
  refine w_loop (σ := Nat → Int64) (fun (i : Nat) (u_1 : Nat → Int64) (H : Heap) (locs : List Loc) (ls : Array Slot) => (True) ∧ va_P D vwCl (w.set q0 (a, .inl (cJ, n, .inr (.inl u_1)))) H ∧ va_D A (w.set q0 (a, .inl (cJ, n, .inr (.inl u_1)))) ∧ va_S A s.heap H locs ∧ lv_has ls 5 [(0, .ref a), (1, .long v), (3, .int (nI i)), (4, .int (nI n))]) n (fun u_1 H locs ls hI => ?_) (fun i u_1 H locs ls hi hI ih => ?_) 0 f (Nat.zero_le _) ⟨trivial, hP, hD, hS, by rw [nI_0]; exact lv_sub hl [2, 3, 1, 0] rfl⟩
  · obtain ⟨hF_1, hP, hD, hS, hl⟩ := hI
    have hP : va_P D vwCl (w.set q0 (a, .inl (cJ, n, .inr (.inl u_1)))) H := hP
    have hD : va_D A (w.set q0 (a, .inl (cJ, n, .inr (.inl u_1)))) := hD
    have hl : lv_has ls 5 [(0, .ref a), (1, .long v), (3, .int (nI n)), (4, .int (nI n))] := hl
    refine lv_iload_n hx hb dJ7_fill_d0a16_6 rfl (lv_at hl 2 rfl) ?_
    refine lv_iload hx hb dJ7_fill_d0a16_7 (lv_at hl 3 rfl) ?_
    refine lv_icmp_ge (tgt := 22) hx hb dJ7_fill_d0a16_9 (by decide) (fun c_9 => ?_) (fun c_9 => absurd (Int32.le_refl _) c_9)
    exact W.vret hx hb hr (fun t ht hW => ⟨⟨(w.set q0 (a, .inl (cJ, n, .inr (.inl u_1)))), rfl, ⟨_, rfl⟩, ⟨by rw [ht]; exact hP, va_K.moved hW.alike hK, hD⟩⟩, hS.F ht⟩) hS.2.2 dJ7_fill_d0a16_22
  · obtain ⟨hF_1, hP, hD, hS, hl⟩ := hI
    have hP : va_P D vwCl (w.set q0 (a, .inl (cJ, n, .inr (.inl u_1)))) H := hP
    have hD : va_D A (w.set q0 (a, .inl (cJ, n, .inr (.inl u_1)))) := hD
    have hl : lv_has ls 5 [(0, .ref a), (1, .long v), (3, .int (nI i)), (4, .int (nI n))] := hl
    refine lv_iload_n hx hb dJ7_fill_d0a16_6 rfl (lv_at hl 2 rfl) ?_
    refine lv_iload hx hb dJ7_fill_d0a16_7 (lv_at hl 3 rfl) ?_
    refine lv_icmp_ge (tgt := 22) hx hb dJ7_fill_d0a16_9 (by decide) (fun c_9 => absurd c_9 (nI_ge hi hn)) (fun c_9 => ?_)
    refine lv_aload_n hx hb dJ7_fill_d0a16_12 rfl (lv_at hl 0 rfl) ?_
    refine lv_iload_n hx hb dJ7_fill_d0a16_13 rfl (lv_at hl 2 rfl) ?_
    refine lv_lload_n hx hb dJ7_fill_d0a16_14 rfl (lv_at hl 1 rfl) ?_
    refine va_last hx hb hK hP hD hS q0 1 (set_get hq) rfl (vp_in_nI hi hn) dJ7_fill_d0a16_15 (fun H locs hP hD hS => ?_)
    have hP : va_P D vwCl ((w.set q0 (a, .inl (cJ, n, .inr (.inl u_1)))).set q0 (a, .inl (cJ, n, .inr (.inl (vp_updL u_1 ((nI i) : Int32).toNatClampNeg v))))) H := hP
    have hD : va_D A ((w.set q0 (a, .inl (cJ, n, .inr (.inl u_1)))).set q0 (a, .inl (cJ, n, .inr (.inl (vp_updL u_1 ((nI i) : Int32).toNatClampNeg v))))) := hD
    refine lv_iinc (v := nI (i + 1)) (lv' := [(3, .int (nI (i + 1))), (0, .ref a), (1, .long v), (4, .int (nI n))]) hx hb dJ7_fill_d0a16_16 hl (k := 2) rfl (nI_1 i) (by decide) rfl (fun ls hl => ?_)
    refine lv_goto (tgt := 6) hx hb dJ7_fill_d0a16_19 (by decide) ?_
    have hP : va_P D vwCl (w.set q0 (a, .inl (cJ, n, .inr (.inl (vp_updL u_1 ((nI i) : Int32).toNatClampNeg v))))) H := by rw [List.set_set] at hP; exact hP
    have hD : va_D A (w.set q0 (a, .inl (cJ, n, .inr (.inl (vp_updL u_1 ((nI i) : Int32).toNatClampNeg v))))) := by rw [List.set_set] at hD; exact hD
    exact ih (vp_updL u_1 ((nI i) : Int32).toNatClampNeg v) H locs ls ⟨trivial, hP, hD, hS, lv_sub hl [1, 2, 0, 3] rfl⟩
set_option maxHeartbeats 4000000 in
set_option maxRecDepth 100000 in
theorem m_fillZ (l : Launch) (D : va_G) (cI cJ cZ : ClassId) (cO : ClassId) (w : va_W) (q0 a n : Nat) (f : Nat → Int32) (hq : w[q0]? = some (a, .inl (cZ, n, .inl f))) (hn : n < 2 ^ 31) : CT l D (TO cI cJ cZ cO) yJ7_fill_49daa (.code yJ7_fill_49daa cJ7_fill_49daa 4 (none : Option FieldType)) 0 0 0 w [.ref a, .int 0] (QV D (TO cI cJ cZ cO) (fun u => ∃ f9, u = w.set q0 (a, .inl (cZ, n, .inl f9)))) := by
  refine ent (by decide) (Nat.le_of_ble_eq_true rfl) ?_
  intro p e s m below meth c ls A hx hb hr hg hown hml hlocks hnm hP hK hD hS hA hN hl
  have hl : lv_has ls 4 [(0, .ref a), (1, .int 0)] := hl
  refine lv_iconst (v := 0) hx hb dJ7_fill_49daa_0 (by decide) ?_
  refine lv_istore_n (lv' := [(2, .int 0), (0, .ref a), (1, .int 0)]) hx hb dJ7_fill_49daa_1 rfl hl (by decide) rfl (fun ls hl => ?_)
  refine lv_aload_n hx hb dJ7_fill_49daa_2 rfl (lv_at hl 1 rfl) ?_
  refine va_alen (v := (nI n)) hx hb hK hP q0 2 hq rfl rfl dJ7_fill_49daa_3 ?_
  refine lv_istore_n (lv' := [(3, .int (nI n)), (2, .int 0), (0, .ref a), (1, .int 0)]) hx hb dJ7_fill_49daa_4 rfl hl (by decide) rfl (fun ls hl => ?_)
  have hP : va_P D vwCl (w.set q0 (a, .inl (cZ, n, .inl f))) s.heap := by rw [set_same hq]; exact hP
  have hD : va_D A (w.set q0 (a, .inl (cZ, n, .inl f))) := by rw [set_same hq]; exact hD
  -- the loop at 5
  refine w_loop (σ := Nat → Int32) (fun (i : Nat) (u_1 : Nat → Int32) (H : Heap) (locs : List Loc) (ls : Array Slot) => (True) ∧ va_P D vwCl (w.set q0 (a, .inl (cZ, n, .inl u_1))) H ∧ va_D A (w.set q0 (a, .inl (cZ, n, .inl u_1))) ∧ va_S A s.heap H locs ∧ lv_has ls 4 [(0, .ref a), (1, .int 0), (2, .int (nI i)), (3, .int (nI n))]) n (fun u_1 H locs ls hI => ?_) (fun i u_1 H locs ls hi hI ih => ?_) 0 f (Nat.zero_le _) ⟨trivial, hP, hD, hS, by rw [nI_0]; exact lv_sub hl [2, 3, 1, 0] rfl⟩
  · obtain ⟨hF_1, hP, hD, hS, hl⟩ := hI
    have hP : va_P D vwCl (w.set q0 (a, .inl (cZ, n, .inl u_1))) H := hP
    have hD : va_D A (w.set q0 (a, .inl (cZ, n, .inl u_1))) := hD
    have hl : lv_has ls 4 [(0, .ref a), (1, .int 0), (2, .int (nI n)), (3, .int (nI n))] := hl
    refine lv_iload_n hx hb dJ7_fill_49daa_5 rfl (lv_at hl 2 rfl) ?_
    refine lv_iload_n hx hb dJ7_fill_49daa_6 rfl (lv_at hl 3 rfl) ?_
    refine lv_icmp_ge (tgt := 20) hx hb dJ7_fill_49daa_7 (by decide) (fun c_7 => ?_) (fun c_7 => absurd (Int32.le_refl _) c_7)
    exact W.vret hx hb hr (fun t ht hW => ⟨⟨(w.set q0 (a, .inl (cZ, n, .inl u_1))), rfl, ⟨_, rfl⟩, ⟨by rw [ht]; exact hP, va_K.moved hW.alike hK, hD⟩⟩, hS.F ht⟩) hS.2.2 dJ7_fill_49daa_20
  · obtain ⟨hF_1, hP, hD, hS, hl⟩ := hI
    have hP : va_P D vwCl (w.set q0 (a, .inl (cZ, n, .inl u_1))) H := hP
    have hD : va_D A (w.set q0 (a, .inl (cZ, n, .inl u_1))) := hD
    have hl : lv_has ls 4 [(0, .ref a), (1, .int 0), (2, .int (nI i)), (3, .int (nI n))] := hl
    refine lv_iload_n hx hb dJ7_fill_49daa_5 rfl (lv_at hl 2 rfl) ?_
    refine lv_iload_n hx hb dJ7_fill_49daa_6 rfl (lv_at hl 3 rfl) ?_
    refine lv_icmp_ge (tgt := 20) hx hb dJ7_fill_49daa_7 (by decide) (fun c_7 => absurd c_7 (nI_ge hi hn)) (fun c_7 => ?_)
    refine lv_aload_n hx hb dJ7_fill_49daa_10 rfl (lv_at hl 0 rfl) ?_
    refine lv_iload_n hx hb dJ7_fill_49daa_11 rfl (lv_at hl 2 rfl) ?_
    refine lv_iload_n hx hb dJ7_fill_49daa_12 rfl (lv_at hl 1 rfl) ?_
    refine va_zast hx hb hK hP hD hS q0 2 (set_get hq) rfl (vp_in_nI hi hn) dJ7_fill_49daa_13 (fun H locs hP hD hS => ?_)
    have hP : va_P D vwCl ((w.set q0 (a, .inl (cZ, n, .inl u_1))).set q0 (a, .inl (cZ, n, .inl (upd u_1 ((nI i) : Int32).toNatClampNeg 0)))) H := hP
    have hD : va_D A ((w.set q0 (a, .inl (cZ, n, .inl u_1))).set q0 (a, .inl (cZ, n, .inl (upd u_1 ((nI i) : Int32).toNatClampNeg 0)))) := hD
    refine lv_iinc (v := nI (i + 1)) (lv' := [(2, .int (nI (i + 1))), (0, .ref a), (1, .int 0), (3, .int (nI n))]) hx hb dJ7_fill_49daa_14 hl (k := 2) rfl (nI_1 i) (by decide) rfl (fun ls hl => ?_)
    refine lv_goto (tgt := 5) hx hb dJ7_fill_49daa_17 (by decide) ?_
    have hP : va_P D vwCl (w.set q0 (a, .inl (cZ, n, .inl (upd u_1 ((nI i) : Int32).toNatClampNeg 0)))) H := by rw [List.set_set] at hP; exact hP
    have hD : va_D A (w.set q0 (a, .inl (cZ, n, .inl (upd u_1 ((nI i) : Int32).toNatClampNeg 0)))) := by rw [List.set_set] at hD; exact hD
    exact ih (upd u_1 ((nI i) : Int32).toNatClampNeg 0) H locs ls ⟨trivial, hP, hD, hS, lv_sub hl [1, 2, 0, 3] rfl⟩
