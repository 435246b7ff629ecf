/-! ===== what isDrawn asks ===== -/
section DRAWN
variable {n c E : Nat} {hm fs fr eg fe : Nat → Nat} {sd cc L : Nat} {ca ht ly : Nat → Nat} {co fl ra li re wa pi : Ob}
theorem AFX.L9 (h : AFX n c E hm fs fr eg fe sd cc L ca ht ly co fl ra li re wa pi) : L ≤ 19 := h.P.1.2.2.1
theorem AFX.lc (h : AFX n c E hm fs fr eg fe sd cc L ca ht ly co fl ra li re wa pi) : gi pi 1 = nI L := h.P.1.2.1
theorem AFX.cc9 (h : AFX n c E hm fs fr eg fe sd cc L ca ht ly co fl ra li re wa pi) : cc ≤ 19 := by
  have := h.W.2.1.2.1
  have := h.F.c19
  omega
theorem sub_neg1 (e : Nat) : (-1 : Int32) - ((-1 : Int32) - nI e) = nI e := by
  rw [Int32.sub_eq_add_neg, Int32.neg_sub, Int32.sub_eq_add_neg, Int32.add_comm (-1), Int32.add_assoc]
  show nI e + (- -1 + -1) = nI e
  rw [show (- -1 + -1 : Int32) = 0 from by decide, Int32.add_zero]
theorem neg1_sub {e : Nat} (he : e < 100) : (-1 : Int32) - nI e < 0 := by
  rw [Int32.lt_iff_toInt_lt, Int32.toInt_sub, nI_toInt (by omega), show (-1 : Int32).toInt = -1 from by decide, show (0 : Int32).toInt = 0 from by decide, fb_bmod (by omega) (by omega)]
  omega
theorem y_l (h : AFX n c E hm fs fr eg fe sd cc L ca ht ly co fl ra li re wa pi) {l : Nat} (hl : l < L) : ¬ nI l < 0 ∧ nI l < gi pi 1 := by
  have := h.L9
  rw [h.lc]; exact ⟨nI_pos (by omega), nI_lt2 hl (by omega)⟩
theorem y_z (h : AFX n c E hm fs fr eg fe sd cc L ca ht ly co fl ra li re wa pi) {l : Nat} (hl : l < L) : sizeOf pi (nI l) = nI (zL E cc wa ly ca l) ∧ zL E cc wa ly ca l ≤ 1444 ∧ sF E cc wa ly ca l + zL E cc wa ly ca l ≤ 1444 := by
  have h9 := h.L9
  have hs := sF_le (wa := wa) (ly := ly) (ca := ca) h.F.e57 h.cc9 (l := l + 1) (by omega)
  rw [sF_s] at hs
  exact ⟨(size_eq h.P hl).1, by omega, hs⟩
theorem y_k (h : AFX n c E hm fs fr eg fe sd cc L ca ht ly co fl ra li re wa pi) {l k : Nat} (hl : l < L) (hk : k < zL E cc wa ly ca l) : ¬ nI k < 0 ∧ nI k < sizeOf pi (nI l) := by
  obtain ⟨e, h1, -⟩ := y_z h hl
  rw [e]; exact ⟨nI_pos (by omega), nI_lt2 hk (by omega)⟩
/-- what is shown at a place of a layer -/
theorem y_sh (h : AFX n c E hm fs fr eg fe sd cc L ca ht ly co fl ra li re wa pi) {l pt k : Nat} (hl : l < L) (hk : k < zL E cc wa ly ca l) (h4 : gA pi 4 (sF E cc wa ly ca l + k) = nI pt) (hp : PT E fl wa ly l pt) :
    (tb (gl fl 0) pt = true ∧ ly pt = l ∧ shownAt pi (nI l) (nI k) = nI pt) ∨ (∃ e, e < E ∧ dw wa e = true ∧ ly (ub wa e) < l ∧ l < ly (lb wa e) ∧ pt = fbn wa ly e + (l - ly (ub wa e) - 1) ∧ shownAt pi (nI l) (nI k) = -1 - nI e) := by
  obtain ⟨-, h1, h2⟩ := y_z h hl
  have hc := h.F.c19
  have hsp : shPt pi (nI l) (nI k) = nI pt := by
    unfold shPt
    rw [(size_eq h.P hl).2, nI_add, rd_nI (by omega) (by decide), h4]
  unfold shownAt
  rw [hsp]
  rcases hp with ⟨a1, a2⟩ | ⟨e, a1, a2, a3, a4, a5⟩
  · have := h.F.r_lt a1
    rw [if_pos (show nI pt < 40 from nI_lt2 (a := pt) (b := 40) (by omega) (by decide))]
    exact Or.inl ⟨a1, a2, rfl⟩
  · have hb : l - ly (ub wa e) - 1 < bd wa ly e := by unfold bd; rw [if_pos a2]; omega
    have h40 := fbn_40 (wa := wa) ly e
    have hle := fbn_le h.F h.W h.P.1 (e := e + 1) (by omega)
    rw [fbn_s] at hle
    rw [if_neg (show ¬ nI pt < 40 from nI_nlt2 (a := pt) (b := 40) (by omega) (by omega)), rd_nI (by omega) (by decide), a5, h.P.2.1.2 e a1 _ hb]
    exact Or.inr ⟨e, a1, a2, a3, a4, rfl, rfl⟩
theorem y_pt (h : AFX n c E hm fs fr eg fe sd cc L ca ht ly co fl ra li re wa pi) {l k : Nat} (hl : l < L) (hk : k < zL E cc wa ly ca l) :
    (∃ pt, tb (gl fl 0) pt = true ∧ ly pt = l ∧ shownAt pi (nI l) (nI k) = nI pt ∧ gA pi 5 pt = nI k) ∨ (∃ e, e < E ∧ dw wa e = true ∧ ly (ub wa e) < l ∧ l < ly (lb wa e) ∧ shownAt pi (nI l) (nI k) = -1 - nI e) := by
  obtain ⟨pt, p1, p2, p3⟩ := h.P.2.2.2.1 l hl (sF E cc wa ly ca l + k) (by omega) (by rw [sF_s]; omega)
  rw [show sF E cc wa ly ca l + k - sF E cc wa ly ca l = k by omega] at p3
  rcases y_sh h hl hk p1 p2 with ⟨a1, a2, a3⟩ | ⟨e, a1, a2, a3, a4, -, a6⟩
  · exact Or.inl ⟨pt, a1, a2, a3, p3⟩
  · exact Or.inr ⟨e, a1, a2, a3, a4, a6⟩
theorem y_b (h : AFX n c E hm fs fr eg fe sd cc L ca ht ly co fl ra li re wa pi) {l k : Nat} (hl : l < L) (hk : k < zL E cc wa ly ca l) (h0 : ¬ shownAt pi (nI l) (nI k) < 0) :
    shownAt pi (nI l) (nI k) < gi fl 0 ∧ rd (gA pi 0) 40 (shownAt pi (nI l) (nI k)) = nI l ∧ placeB pi (shownAt pi (nI l) (nI k)) = nI k := by
  have hc := h.F.c19
  have h9 := h.L9
  rcases y_pt h hl hk with ⟨pt, a1, a2, a3, a4⟩ | ⟨e, a1, a2, a3, a4, a5⟩
  · have hp := h.F.r_lt a1
    have e0 : rd (gA pi 0) 40 (nI pt) = nI l := by
      rw [rd_nI (by omega) (by decide), h.P.1.2.2.2.1 pt (by omega), if_pos a1, a2]
    rw [a3, h.F.bc]
    refine ⟨nI_lt2 hp (by omega), e0, ?_⟩
    unfold placeB
    rw [e0, if_neg (nI_pos (by omega)), rd_nI (by omega) (by decide), a4]
  · have := h.F.e57
    exact absurd (by rw [a5]; exact neg1_sub (by omega)) h0
theorem y_e (h : AFX n c E hm fs fr eg fe sd cc L ca ht ly co fl ra li re wa pi) {l k : Nat} (hl : l < L) (hk : k < zL E cc wa ly ca l) (h0 : shownAt pi (nI l) (nI k) < 0) :
    ¬ (-1 : Int32) - shownAt pi (nI l) (nI k) < 0 ∧ (-1 : Int32) - shownAt pi (nI l) (nI k) < gi fl 1 ∧ 1 ≤ bendCount wa pi ((-1 : Int32) - shownAt pi (nI l) (nI k)) := by
  have hc := h.F.c19
  have hE := h.F.e57
  rcases y_pt h hl hk with ⟨pt, a1, a2, a3, a4⟩ | ⟨e, a1, a2, a3, a4, a5⟩
  · have := h.F.r_lt a1
    exact absurd h0 (by rw [a3]; exact nI_pos (by omega))
  · have h9 := (h.P.1.2.2.2.2.1 (lb wa e) (h.W.ul h.F a1 a2).2.2.2.2.1).1
    have hL := h.L9
    rw [a5, sub_neg1, h.F.ec, bendCount_eq h.F h.W h.P.1 a1, if_pos a2]
    refine ⟨nI_pos (by omega), nI_lt2 a1 (by omega), ?_⟩
    unfold bd
    rw [if_pos a2]
    exact i_ge' (nI_nlt2 (a := ly (lb wa e) - ly (ub wa e) - 1) (b := 1) (by omega) (by omega))
def ptI (_k : Nat) (x : Int32) : Int32 := x + 1
def ptO (E cc : Nat) (wa : Ob) (ly ca : Nat → Nat) (l : Nat) (x : Int32) : Int32 := lp ptI (zL E cc wa ly ca l) x
def ptR (fl : Ob) (b : Nat) (x : Int32) : Int32 := x - (if hs (gl fl 0) (nI b) = true then 1 else 0)
theorem ptI_n (m a : Nat) : lp ptI m (nI a) = nI (a + m) := by
  refine lp_ind (fun i x => x = nI (a + i)) (by rw [Nat.add_zero]) (fun i x _ hx => ?_)
  unfold ptI
  rw [hx, show (1 : Int32) = nI 1 from rfl, nI_add]; rfl
theorem ptO_n : lp (ptO E cc wa ly ca) L 0 = nI (sF E cc wa ly ca L) := by
  refine lp_ind (fun i x => x = nI (sF E cc wa ly ca i)) rfl (fun i x _ hx => ?_)
  unfold ptO
  rw [hx, ptI_n, sF_s]
theorem cc_ct (h : AFX n c E hm fs fr eg fe sd cc L ca ht ly co fl ra li re wa pi) : fb_ct (tb (gl fl 0)) c = cc := by
  obtain ⟨-, w1, w2, w3, w4⟩ := h.W.2.1
  have key : ∀ i, i ≤ cc → ∃ p : Nat → Bool, (∀ k, p k = true ↔ ∃ j, j < i ∧ ca j = k) ∧ fb_ct p c = i := by
    intro i
    induction i with
    | zero => exact fun _ => ⟨fun _ => false, fun k => ⟨fun z => (by cases z), fun ⟨j, hj, _⟩ => absurd hj (Nat.not_lt_zero j)⟩, fb_ct_zero.mpr (fun _ _ => rfl)⟩
    | succ i ih =>
      intro hi
      obtain ⟨p, p1, p2⟩ := ih (by omega)
      have hlt : ca i < c := h.F.r_lt ((w4 (ca i)).mpr ⟨i, by omega, rfl⟩)
      have hf : p (ca i) = false := by
        cases q : p (ca i)
        · rfl
        · obtain ⟨j, hj, e⟩ := (p1 _).mp q
          exact absurd e (w3 j i hj (by omega))
      refine ⟨fun k => if k = ca i then true else p k, fun k => ?_, ?_⟩
      · show (if k = ca i then true else p k) = true ↔ _
        by_cases q : k = ca i
        · rw [if_pos q]
          exact ⟨fun _ => ⟨i, by omega, q.symm⟩, fun _ => rfl⟩
        · rw [if_neg q, p1]
          constructor
          · rintro ⟨j, hj, e⟩; exact ⟨j, by omega, e⟩
          · rintro ⟨j, hj, e⟩
            refine ⟨j, ?_, e⟩
            rcases Nat.lt_or_ge j i with z | z
            · exact z
            · have : j = i := by omega
              subst this; exact absurd e.symm q
      · have := fb_ct_upd p true hlt
        rw [hf, p2] at this
        simpa using this
  obtain ⟨p, p1, p2⟩ := key cc (Nat.le_refl _)
  rw [← p2]
  refine fb_ct_cong (fun k _ => ?_)
  have e := (p1 k).trans (w4 k).symm
  cases q : p k
  · cases q2 : tb (gl fl 0) k
    · rfl
    · rw [q, q2] at e; exact absurd (e.mpr rfl) (by decide)
  · exact (e.mp q)
theorem ptR_n (h : AFX n c E hm fs fr eg fe sd cc L ca ht ly co fl ra li re wa pi) : lp (ptR fl) c (lp (ptO E cc wa ly ca) L 0) = nI (fb_sm (bd wa ly) E) := by
  have hc := h.F.c19
  rw [ptO_n, points_all h.F h.W h.P.1]
  have key : lp (ptR fl) c (nI (cc + fb_sm (bd wa ly) E)) = nI (cc + fb_sm (bd wa ly) E - fb_ct (tb (gl fl 0)) c) := by
    refine lp_ind (fun i x => x = nI (cc + fb_sm (bd wa ly) E - fb_ct (tb (gl fl 0)) i)) rfl (fun i x hi hx => ?_)
    have hle : fb_ct (tb (gl fl 0)) (i + 1) ≤ fb_ct (tb (gl fl 0)) c := fb_ct_mono _ (by omega)
    rw [cc_ct h] at hle
    rw [fb_ct_succ] at hle ⊢
    unfold ptR
    rw [hx, hs_tb _ (by omega)]
    by_cases q : tb (gl fl 0) i = true
    · rw [if_pos q, if_pos q, show (1 : Int32) = nI 1 from rfl, pk_sub (by rw [if_pos q] at hle; omega)]
      exact congrArg nI (by omega)
    · rw [if_neg q, if_neg q, Int32.sub_zero]; rfl
  rw [key, cc_ct h]
  exact congrArg nI (by omega)
/-! the edges that are drawn -/
theorem d_dr (h : AFX n c E hm fs fr eg fe sd cc L ca ht ly co fl ra li re wa pi) {i : Nat} (hi : i < E) : draws wa (nI i) = true ↔ (hs (gl fl 0) (rd (gA fl 3) 80 (nI i)) = true ∧ ¬ rd (gA fl 4) 80 (nI i) < 0 ∧ ¬ rd (gA fl 4) 80 (nI i) = rd (gA fl 3) 80 (nI i)) := by
  have hc := h.F.c19
  have hE := h.F.e57
  have hg := h.F.g40 hi
  have f1 := (h.F.edge hi).2.2.1
  rw [draws_dw (by omega), h.W.dw_iff h.F hi, h.F.rdf hi, h.F.rdt hi, hs_tb _ (by omega), tv_neg hg]
  constructor
  · rintro ⟨z1, z2, z3⟩
    refine ⟨z1, z2, ?_⟩
    rw [tv_nI z2]
    exact fun q => z3 (nI_inj (by omega) (by omega) q)
  · rintro ⟨z1, z2, z3⟩
    rw [tv_nI z2] at z3
    exact ⟨z1, z2, fun q => z3 (by rw [q])⟩
theorem d_no (h : AFX n c E hm fs fr eg fe sd cc L ca ht ly co fl ra li re wa pi) {i : Nat} (hd : ¬ draws wa (nI i) = true) : bendCount wa pi (nI i) < 0 ∧ ¬ turns fl wa (nI i) = true := by
  have e : draws wa (nI i) = false := by
    cases q : draws wa (nI i)
    · rfl
    · exact absurd q hd
  unfold bendCount turns
  rw [e]
  exact ⟨by rw [if_neg (by decide)]; decide, by rw [Bool.false_and]; decide⟩
/-- the cases of an edge, in the words of the code -/
theorem d_case (h : AFX n c E hm fs fr eg fe sd cc L ca ht ly co fl ra li re wa pi) {i : Nat} (hi : i < E) :
    ((¬ draws wa (nI i) = true ∧ bendCount wa pi (nI i) < 0 ∧ ¬ turns fl wa (nI i) = true) ∧ (¬ hs (gl fl 0) (rd (gA fl 3) 80 (nI i)) = true ∨ (hs (gl fl 0) (rd (gA fl 3) 80 (nI i)) = true ∧ rd (gA fl 4) 80 (nI i) < 0) ∨ (hs (gl fl 0) (rd (gA fl 3) 80 (nI i)) = true ∧ ¬ rd (gA fl 4) 80 (nI i) < 0 ∧ rd (gA fl 4) 80 (nI i) = rd (gA fl 3) 80 (nI i)))) ∨
    ((draws wa (nI i) = true ∧ hs (gl fl 0) (rd (gA fl 3) 80 (nI i)) = true ∧ ¬ rd (gA fl 4) 80 (nI i) < 0 ∧ ¬ rd (gA fl 4) 80 (nI i) = rd (gA fl 3) 80 (nI i) ∧ ¬ bendCount wa pi (nI i) < 0) ∧
      ((turns fl wa (nI i) = true ∧ rd (gA wa 1) 80 (nI i) = rd (gA fl 4) 80 (nI i) ∧ rd (gA wa 2) 80 (nI i) = rd (gA fl 3) 80 (nI i)) ∨
       (¬ turns fl wa (nI i) = true ∧ rd (gA wa 1) 80 (nI i) = rd (gA fl 3) 80 (nI i) ∧ rd (gA wa 2) 80 (nI i) = rd (gA fl 4) 80 (nI i) ∧ ¬ goesBack ra fl (nI i) = true))) := by
  have hc := h.F.c19
  have hE := h.F.e57
  have hd := d_dr h hi
  by_cases q : draws wa (nI i) = true
  · right
    obtain ⟨q1, q2, q3⟩ := hd.mp q
    have hdw : dw wa i = true := by rw [← draws_dw (by omega)]; exact q
    obtain ⟨u1, u2, u3, u4, u5, u6⟩ := h.W.ul h.F hi hdw
    have hb : ¬ bendCount wa pi (nI i) < 0 := by
      rw [bendCount_eq h.F h.W h.P.1 hi, if_pos hdw]
      have := bd_le h.F h.W h.P.1 hi
      exact nI_pos (by omega)
    refine ⟨⟨q, q1, q2, q3, hb⟩, ?_⟩
    have f1 := (h.F.edge hi).2.2.1
    obtain ⟨g1, g2⟩ := e_tn h hi q2
    rw [g2, h.F.rdf hi] at q3 ⊢
    rw [rd_nI (by omega) (by decide), rd_nI (by omega) (by decide), u1, u2]
    have ht : turns fl wa (nI i) = decide (nI (ub wa i) = nI (eg i)) := by
      unfold turns
      rw [q, rd_nI (by omega) (by decide), u1, g2]; rfl
    rw [ht]
    rcases u6 with ⟨a1, a2, a3⟩ | ⟨a1, a2⟩
    · right
      have hne : ¬ nI (fr i) = nI (eg i) := fun z => q3 z.symm
      refine ⟨by rw [a1, decide_eq_false hne]; decide, by rw [a1], by rw [a2], ?_⟩
      unfold goesBack rules
      rw [if_neg q2, g2, h.F.rdf hi, rdL_nI (by omega) (by decide), hs_tb _ (by omega), h.R.1 (eg i) (by omega)]
      by_cases z : tb (gl fl 0) (eg i) = true
      · rw [if_pos z, ruled_tb, a3]
        simp
      · rw [if_neg z, tb_0]; decide
    · left
      exact ⟨by rw [a1]; exact decide_eq_true rfl, by rw [a1], by rw [a2]⟩
  · left
    obtain ⟨n1, n2⟩ := d_no h q
    refine ⟨⟨q, n1, n2⟩, ?_⟩
    by_cases z1 : hs (gl fl 0) (rd (gA fl 3) 80 (nI i)) = true
    · by_cases z2 : rd (gA fl 4) 80 (nI i) < 0
      · exact Or.inr (Or.inl ⟨z1, z2⟩)
      · by_cases z3 : rd (gA fl 4) 80 (nI i) = rd (gA fl 3) 80 (nI i)
        · exact Or.inr (Or.inr ⟨z1, z2, z3⟩)
        · exact absurd (hd.mpr ⟨z1, z2, z3⟩) q
    · exact Or.inl z1
theorem d_be {i : Nat} {a b : Int32} (hd : draws wa (nI i) = true) (h1 : rd (gA wa 1) 80 (nI i) = a) (h2 : rd (gA wa 2) 80 (nI i) = b) : bendCount wa pi (nI i) = rd (gA pi 0) 40 b - rd (gA pi 0) 40 a - 1 := by
  unfold bendCount botE topE
  rw [if_pos hd, h1, h2]
theorem d_bn (h : AFX n c E hm fs fr eg fe sd cc L ca ht ly co fl ra li re wa pi) {i : Nat} (hi : i < E) (hd : draws wa (nI i) = true) : bendCount wa pi (nI i) = nI (bd wa ly i) ∧ bd wa ly i ≤ 17 := by
  have hE := h.F.e57
  rw [bendCount_eq h.F h.W h.P.1 hi, if_pos (by rw [← draws_dw (by omega)]; exact hd)]
  exact ⟨rfl, bd_le h.F h.W h.P.1 hi⟩
/-- a bend is where it is said to be -/
theorem d_pt (h : AFX n c E hm fs fr eg fe sd cc L ca ht ly co fl ra li re wa pi) {i k : Nat} (hi : i < E) (hk : k < bd wa ly i) (hd : draws wa (nI i) = true) {a : Int32} (h1 : rd (gA wa 1) 80 (nI i) = a) :
    (¬ rd (gA pi 0) 40 a + 1 + nI k < 0 ∧ rd (gA pi 0) 40 a + 1 + nI k < gi pi 1) ∧ (¬ placeBend pi (nI i) (nI k) < 0 ∧ placeBend pi (nI i) (nI k) < sizeOf pi (rd (gA pi 0) 40 a + 1 + nI k)) ∧ shownAt pi (rd (gA pi 0) 40 a + 1 + nI k) (placeBend pi (nI i) (nI k)) = (-1 : Int32) - nI i := by
  have hc := h.F.c19
  have hE := h.F.e57
  have h9 := h.L9
  have hdw : dw wa i = true := by rw [← draws_dw (by omega)]; exact hd
  obtain ⟨u1, u2, u3, u4, u5, u6⟩ := h.W.ul h.F hi hdw
  have hu := h.F.r_lt u4
  have e0 : rd (gA pi 0) 40 a = nI (ly (ub wa i)) := by
    rw [← h1, rd_nI (by omega) (by decide), u1, rd_nI (by omega) (by decide), h.P.1.2.2.2.1 _ (by omega), if_pos u4]
  have hb := hk
  unfold bd at hb
  rw [if_pos hdw] at hb
  have hlL := (h.P.1.2.2.2.2.1 (lb wa i) u5).1
  have el : rd (gA pi 0) 40 a + 1 + nI k = nI (ly (ub wa i) + 1 + k) := by
    rw [e0, show (1 : Int32) = nI 1 from rfl, nI_add, nI_add]
  rw [el]
  have hl : ly (ub wa i) + 1 + k < L := by omega
  have hp : PT E fl wa ly (ly (ub wa i) + 1 + k) (fbn wa ly i + k) := Or.inr ⟨i, hi, hdw, by omega, by omega, by omega⟩
  obtain ⟨x, x1, x2, x3⟩ := h.P.2.2.2.2 _ hl _ hp
  obtain ⟨pt, p1, p2, p3⟩ := h.P.2.2.2.1 _ hl x x1 x2
  have hlt := PT_lt h.F h.W h.P.1 hp
  have hlt2 := PT_lt h.F h.W h.P.1 p2
  have ept : pt = fbn wa ly i + k := by
    rw [x3] at p1
    exact (nI_inj (by omega) (by omega) p1).symm
  subst ept
  obtain ⟨z1, z2, z3⟩ := y_z h hl
  rw [sF_s] at x2
  have epl : placeBend pi (nI i) (nI k) = nI (x - sF E cc wa ly ca (ly (ub wa i) + 1 + k)) := by
    unfold placeBend
    rw [rd_nI (by omega) (by decide), h.P.2.1.1 i hi, nI_add, rd_nI (by omega) (by decide), p3]
  rw [epl]
  refine ⟨y_l h hl, y_k h hl (by omega), ?_⟩
  rcases y_sh h hl (pt := fbn wa ly i + k) (k := x - sF E cc wa ly ca (ly (ub wa i) + 1 + k)) (by omega) (by rw [show sF E cc wa ly ca (ly (ub wa i) + 1 + k) + (x - sF E cc wa ly ca (ly (ub wa i) + 1 + k)) = x by omega]; exact x3) hp with ⟨b1, -, -⟩ | ⟨e, b1, b2, b3, b4, b5, b6⟩
  · have := h.F.r_lt b1
    have := fbn_40 (wa := wa) ly i
    omega
  · have hb2 : ly (ub wa i) + 1 + k - ly (ub wa e) - 1 < bd wa ly e := by unfold bd; rw [if_pos b2]; omega
    rw [b6, (fbn_inj hk hb2 b5).1]
def drF (wa pi : Ob) (e : Nat) (p : Int32 × Int32 × Int32) : Int32 × Int32 × Int32 :=
  if draws wa (nI e) = true then (p.1 - bendCount wa pi (nI e), p.2.1 + (botE wa pi (nI e) - topE wa pi (nI e)), p.2.2 + 1) else p
theorem drF_n (h : AFX n c E hm fs fr eg fe sd cc L ca ht ly co fl ra li re wa pi) : lp (drF wa pi) E (lp (ptR fl) c (lp (ptO E cc wa ly ca) L 0), 0, 0) = (0, (msAll wa pi).2, (msAll wa pi).1) := by
  have hE := h.F.e57
  rw [ptR_n h]
  have key : lp (drF wa pi) E (nI (fb_sm (bd wa ly) E), 0, 0) = (nI (fb_sm (bd wa ly) E - fb_sm (bd wa ly) E), (lp (msStep wa pi) E (0, 0)).2, (lp (msStep wa pi) E (0, 0)).1) := by
    refine lp_rel (f := drF wa pi) (g := msStep wa pi) (n := E) (s := (nI (fb_sm (bd wa ly) E), (0 : Int32), (0 : Int32))) (t := ((0 : Int32), (0 : Int32))) (fun i p q => p = (nI (fb_sm (bd wa ly) E - fb_sm (bd wa ly) i), q.2, q.1)) rfl (fun i p q hi hp => ?_)
    have hle := fb_sm_part (bd wa ly) hi
    rw [hp]
    unfold drF msStep
    by_cases z : draws wa (nI i) = true
    · rw [if_pos z, if_pos z, (d_bn h hi z).1, fb_sm_succ]
      simp only
      rw [pk_sub (by omega)]
      exact congrArg (fun x => (nI x, _)) (by omega)
    · rw [if_neg z, if_neg z, fb_sm_succ]
      have hz : bd wa ly i = 0 := by
        unfold bd
        rw [if_neg (by rw [← draws_dw (by omega)]; exact z)]
      rw [hz]; rfl
  rw [key, Nat.sub_self]
  unfold msAll
  rw [h.P.1.1, nN_nI (by omega)]; rfl
theorem ms_bd (h : AFX n c E hm fs fr eg fe sd cc L ca ht ly co fl ra li re wa pi) : ∃ a b, (msAll wa pi).1 = nI b ∧ (msAll wa pi).2 = nI a ∧ b ≤ 57 ∧ a ≤ 57 * 18 := by
  have hE := h.F.e57
  have h9 := h.L9
  have key : ∃ a b, (lp (msStep wa pi) E (0, 0)).1 = nI b ∧ (lp (msStep wa pi) E (0, 0)).2 = nI a ∧ b ≤ E ∧ a ≤ E * 18 := by
    refine lp_ind (f := msStep wa pi) (n := E) (s := ((0 : Int32), (0 : Int32))) (fun i p => ∃ a b, p.1 = nI b ∧ p.2 = nI a ∧ b ≤ i ∧ a ≤ i * 18) ⟨0, 0, rfl, rfl, by omega, by omega⟩ (fun i p hi hp => ?_)
    obtain ⟨a, b, p1, p2, p3, p4⟩ := hp
    unfold msStep
    by_cases z : draws wa (nI i) = true
    · have hdw : dw wa i = true := by rw [← draws_dw (by omega)]; exact z
      obtain ⟨t1, t2, t3, t4⟩ := h.P.1.top h.F h.W hi hdw
      have u5 := (h.W.ul h.F hi hdw).2.2.2.2.1
      have hl := (h.P.1.2.2.2.2.1 (lb wa i) u5).1
      rw [if_pos z, t1, t2, pk_sub (by omega)]
      simp only
      rw [p1, p2, nI_add, show (1 : Int32) = nI 1 from rfl, nI_add]
      exact ⟨_, _, rfl, rfl, by omega, by omega⟩
    · rw [if_neg z]
      exact ⟨a, b, p1, p2, by omega, by omega⟩
  obtain ⟨a, b, k1, k2, k3, k4⟩ := key
  unfold msAll
  rw [h.P.1.1, nN_nI (by omega)]
  exact ⟨a, b, k1, k2, by omega, by omega⟩
theorem ms_nan (h : AFX n c E hm fs fr eg fe sd cc L ca ht ly co fl ra li re wa pi) (h0 : ¬ (msAll wa pi).1 = 0) : vf_n64 (FP.ddiv (FP.i2d (msAll wa pi).2) (FP.i2d (msAll wa pi).1)) := by
  obtain ⟨a, b, e1, e2, h1, h2⟩ := ms_bd h
  rw [e1, e2]
  rw [e1] at h0
  exact mean_n64 (by omega) (by omega) (fun z => h0 (by rw [z]; rfl))
theorem ms_rel {wa a b : Ob} (h : REL a b) : msAll wa a = msAll wa b := by
  unfold msAll
  rw [h.gi 0]
  refine lp_rel (f := msStep wa a) (g := msStep wa b) (fun _ p q => p = q) rfl (fun i p q _ hp => ?_)
  rw [hp]
  unfold msStep botE topE
  rw [h.row (k := 0) (by decide)]
theorem mean_0 (h0 : (msAll wa pi).1 = 0) : meanD wa pi = FP.dconst0 := by
  unfold meanD
  rw [h0, if_neg (by decide)]
theorem mean_1 (h : AFX n c E hm fs fr eg fe sd cc L ca ht ly co fl ra li re wa pi) (h0 : ¬ (msAll wa pi).1 = 0) : meanD wa pi = FP.ddiv (FP.i2d (msAll wa pi).2) (FP.i2d (msAll wa pi).1) := by
  obtain ⟨a, b, e1, e2, h1, h2⟩ := ms_bd h
  unfold meanD
  rw [if_pos]
  rw [e1] at h0 ⊢
  exact nI_lt2 (a := 0) (Nat.pos_of_ne_zero (fun z => h0 (by rw [z]; rfl))) (by omega)
end DRAWN
