/-! ===== Picture: a layer is ordered anew ===== -/
def EY (X : Nat → Bool) (a b : Ob) : Prop := (∀ k, k ≠ 2 → gi a k = gi b k) ∧ (∀ k, gl a k = gl b k) ∧ (∀ k, X k = false → gA a k = gA b k) ∧ (∀ k, gB a k = gB b k)
theorem EY.rf (X : Nat → Bool) (a : Ob) : EY X a a := ⟨fun _ _ => rfl, fun _ => rfl, fun _ _ => rfl, fun _ => rfl⟩
theorem EY.tr {X : Nat → Bool} {a b d : Ob} (h : EY X a b) (h2 : EY X b d) : EY X a d := ⟨fun k hk => (h.1 k hk).trans (h2.1 k hk), fun k => (h.2.1 k).trans (h2.2.1 k), fun k hk => (h.2.2.1 k hk).trans (h2.2.2.1 k hk), fun k => (h.2.2.2 k).trans (h2.2.2.2 k)⟩
theorem EY.sy {X : Nat → Bool} {a b : Ob} (h : EY X a b) : EY X b a := ⟨fun k hk => (h.1 k hk).symm, fun k => (h.2.1 k).symm, fun k hk => (h.2.2.1 k hk).symm, fun k => (h.2.2.2 k).symm⟩
theorem EY.mo {X Y : Nat → Bool} {a b : Ob} (h : EY X a b) (hXY : ∀ k, X k = true → Y k = true) : EY Y a b := ⟨h.1, h.2.1, fun k hk => h.2.2.1 k (by
  cases q : X k
  · rfl
  · rw [hXY k q] at hk; cases hk), h.2.2.2⟩
theorem EY.sA {X : Nat → Bool} {a b : Ob} (h : EY X a b) (k : Nat) (v : Nat → Int32) (hk : X k = true) : EY X (sA a k v) b := ⟨fun j hj => by rw [gi_sA]; exact h.1 j hj, fun j => by rw [gl_sA]; exact h.2.1 j, fun j hj => by
  rw [sA_ne _ _ _ _ (fun z => by rw [z, hk] at hj; cases hj)]; exact h.2.2.1 j hj, fun j => by rw [gB_sA]; exact h.2.2.2 j⟩
def X4 (k : Nat) : Bool := decide (k = 4)
def X45 (k : Nat) : Bool := decide (k = 4) || decide (k = 5)
def X78 (k : Nat) : Bool := decide (k = 7) || decide (k = 8)
def XAR (k : Nat) : Bool := X45 k || X78 k
def XSC (k : Nat) : Bool := decide (6 ≤ k)
theorem weigh_ey (wa pi : Ob) (l o z : Int32) : EY X78 (weigh wa pi l o z) pi ∧ gi (weigh wa pi l o z) 2 = gi pi 2 := by
  unfold weigh
  refine lp_ind (fun _ t => EY X78 t pi ∧ gi t 2 = gi pi 2) ?_ (fun i t hi h => ?_)
  · refine lp_ind (fun _ t => EY X78 t pi ∧ gi t 2 = gi pi 2) ?_ (fun i t hi h => ?_)
    · refine lp_ind (fun _ t => EY X78 t pi ∧ gi t 2 = gi pi 2) ⟨EY.rf _ _, rfl⟩ (fun i t hi h => ?_)
      unfold weA
      exact ⟨(h.1.sA 7 _ rfl).sA 8 _ rfl, by simp only [gi_sl, gi_sA, gi_sB, gi_si_s, gi_si_n, gl_si, gl_sA, gl_sB, gl_sl_s, gl_sl_n, gA_si, gA_sl, gA_sB, gA_sA_s, gA_sA_n, gB_si, gB_sl, gB_sA, gB_sB_s, gB_sB_n, Nat.reduceBEq]; exact h.2⟩
    · unfold weB
      split
      · exact ⟨(h.1.sA 7 _ rfl).sA 8 _ rfl, by simp only [gi_sl, gi_sA, gi_sB, gi_si_s, gi_si_n, gl_si, gl_sA, gl_sB, gl_sl_s, gl_sl_n, gA_si, gA_sl, gA_sB, gA_sA_s, gA_sA_n, gB_si, gB_sl, gB_sA, gB_sB_s, gB_sB_n, Nat.reduceBEq]; exact h.2⟩
      · exact h
  · unfold weC
    split
    · exact ⟨(h.1.sA 7 _ rfl).sA 8 _ rfl, by simp only [gi_sl, gi_sA, gi_sB, gi_si_s, gi_si_n, gl_si, gl_sA, gl_sB, gl_sl_s, gl_sl_n, gA_si, gA_sl, gA_sB, gA_sA_s, gA_sA_n, gB_si, gB_sl, gB_sA, gB_sB_s, gB_sB_n, Nat.reduceBEq]; exact h.2⟩
    · exact h
theorem slide_s (base pt : Int32) (k : Nat) (pi : Ob) : slide base pt (k + 1) pi = if isAhead pi pt (rd (gA pi 4) 1600 (base + nI (k + 1) - 1)) = true then slide base pt k (slidePut base k pi) else (pi, k + 1) := rfl
theorem slidePut_eq {s k : Nat} {pi : Ob} (h : s + (k + 1) < 1600) : slidePut (nI s) k pi = sA pi 4 (upd (gA pi 4) (s + (k + 1)) (gA pi 4 (s + k))) := by
  unfold slidePut
  rw [nI_add, show nI (s + (k + 1)) - 1 = nI (s + k) from nI_pred (s + k), wr_nI h (by decide), rd_nI (by omega) (by decide)]
theorem slide_res (s : Nat) (pt : Int32) : ∀ (k : Nat) (pi : Ob), s + k < 1600 → (slide (nI s) pt k pi).2 ≤ k ∧ EY X4 (slide (nI s) pt k pi).1 pi ∧ gi (slide (nI s) pt k pi).1 2 = gi pi 2 ∧ ∀ j, gA (slide (nI s) pt k pi).1 4 j = if s + (slide (nI s) pt k pi).2 < j ∧ j ≤ s + k then gA pi 4 (j - 1) else gA pi 4 j := by
  intro k
  induction k with
  | zero =>
    intro pi _
    refine ⟨Nat.le_refl _, EY.rf _ _, rfl, fun j => ?_⟩
    show gA pi 4 j = if s + 0 < j ∧ j ≤ s + 0 then _ else _
    rw [if_neg (by omega)]
  | succ k ih =>
    intro pi hk
    rw [slide_s]
    split
    · obtain ⟨h1, h2, h3, h4⟩ := ih (slidePut (nI s) k pi) (by omega)
      rw [slidePut_eq hk] at h1 h2 h3 h4 ⊢
      refine ⟨by omega, h2.tr ((EY.rf _ _).sA 4 _ rfl), by rw [h3]; simp only [gi_sl, gi_sA, gi_sB, gi_si_s, gi_si_n, gl_si, gl_sA, gl_sB, gl_sl_s, gl_sl_n, gA_si, gA_sl, gA_sB, gA_sA_s, gA_sA_n, gB_si, gB_sl, gB_sA, gB_sB_s, gB_sB_n, Nat.reduceBEq], fun j => ?_⟩
      rw [h4 j]
      simp only [gi_sl, gi_sA, gi_sB, gi_si_s, gi_si_n, gl_si, gl_sA, gl_sB, gl_sl_s, gl_sl_n, gA_si, gA_sl, gA_sB, gA_sA_s, gA_sA_n, gB_si, gB_sl, gB_sA, gB_sB_s, gB_sB_n, Nat.reduceBEq]
      generalize (slide (nI s) pt k (sA pi 4 (upd (gA pi 4) (s + (k + 1)) (gA pi 4 (s + k))))).2 = r at h1 ⊢
      by_cases q1 : s + r < j ∧ j ≤ s + k
      · rw [if_pos q1, if_pos (by omega), upd_n _ _ (by omega)]
      · rw [if_neg q1]
        by_cases q2 : j = s + (k + 1)
        · subst q2
          rw [upd_s, if_pos (by omega)]
          congr 1
        · rw [upd_n _ _ q2, if_neg (by omega)]
    · refine ⟨Nat.le_refl _, EY.rf _ _, rfl, fun j => ?_⟩
      show gA pi 4 j = if s + (k + 1) < j ∧ j ≤ s + (k + 1) then _ else _
      rw [if_neg (by omega)]
def PERM (z s : Nat) (g f : Nat → Int32) : Prop := ∃ σ : Nat → Nat, (∀ i, i < z → σ i < z) ∧ (∀ i j, i < j → j < z → σ i ≠ σ j) ∧ (∀ i, i < z → g (s + i) = f (s + σ i)) ∧ (∀ j, (j < s ∨ s + z ≤ j) → g j = f j)
theorem PERM.rf (z s : Nat) (f : Nat → Int32) : PERM z s f f := ⟨fun i => i, fun _ h => h, fun i j h _ e => (by have e2 : i = j := e; omega), fun _ _ => rfl, fun _ _ => rfl⟩
theorem PERM.rot {z s r i : Nat} {g f f0 : Nat → Int32} (h : PERM z s f f0) (hr : r ≤ i) (hi : i < z) (hg : ∀ j, g j = if j = s + r then f (s + i) else if s + r < j ∧ j ≤ s + i then f (j - 1) else f j) : PERM z s g f0 := by
  obtain ⟨σ, h1, h2, h3, h4⟩ := h
  have h2' : ∀ a b, a < z → b < z → a ≠ b → σ a ≠ σ b := fun a b ha hb hab => by
    rcases Nat.lt_or_ge a b with q | q
    · exact h2 a b q hb
    · exact fun e => h2 b a (by omega) ha e.symm
  have hρ : ∀ x, x < z → (if x = r then i else if r < x ∧ x ≤ i then x - 1 else x) < z := fun x hx => by
    split
    · exact hi
    · split <;> omega
  refine ⟨fun x => σ (if x = r then i else if r < x ∧ x ≤ i then x - 1 else x), fun x hx => h1 _ (hρ x hx), fun a b hab hb => h2' _ _ (hρ a (by omega)) (hρ b hb) ?_, fun x hx => ?_, fun j hj => ?_⟩
  · split <;> split <;> (try split) <;> (try split) <;> omega
  · rw [hg, ← h3 _ (hρ x hx)]
    by_cases q : x = r
    · subst q; rw [if_pos rfl, if_pos rfl]
    · rw [if_neg (show ¬ (s + x = s + r) by omega), if_neg q]
      by_cases q2 : r < x ∧ x ≤ i
      · rw [if_pos (show s + r < s + x ∧ s + x ≤ s + i by omega), if_pos q2, show s + x - 1 = s + (x - 1) by omega]
      · rw [if_neg (show ¬ (s + r < s + x ∧ s + x ≤ s + i) by omega), if_neg q2]
  · rw [hg, if_neg (by omega), if_neg (by omega)]
    exact h4 j hj
theorem arStep_eq {s j : Nat} {pi : Ob} (h : s + (j + 1) < 1600) : EY X4 (arStep (nI s) j pi) pi ∧ gi (arStep (nI s) j pi) 2 = gi pi 2 ∧ ∃ r, r ≤ j + 1 ∧ ∀ x, gA (arStep (nI s) j pi) 4 x = if x = s + r then gA pi 4 (s + (j + 1)) else if s + r < x ∧ x ≤ s + (j + 1) then gA pi 4 (x - 1) else gA pi 4 x := by
  unfold arStep arPoint
  rw [nI_add, rd_nI h (by decide)]
  obtain ⟨h1, h2, h3, h4⟩ := slide_res s (gA pi 4 (s + (j + 1))) (j + 1) pi h
  generalize slide (nI s) (gA pi 4 (s + (j + 1))) (j + 1) pi = w at h1 h2 h3 h4
  rw [nI_add, wr_nI (by omega) (by decide)]
  refine ⟨h2.sA 4 _ rfl, by simp only [gi_sl, gi_sA, gi_sB, gi_si_s, gi_si_n, gl_si, gl_sA, gl_sB, gl_sl_s, gl_sl_n, gA_si, gA_sl, gA_sB, gA_sA_s, gA_sA_n, gB_si, gB_sl, gB_sA, gB_sB_s, gB_sB_n, Nat.reduceBEq]; exact h3, w.2, h1, fun x => ?_⟩
  simp only [gi_sl, gi_sA, gi_sB, gi_si_s, gi_si_n, gl_si, gl_sA, gl_sB, gl_sl_s, gl_sl_n, gA_si, gA_sl, gA_sB, gA_sA_s, gA_sA_n, gB_si, gB_sl, gB_sA, gB_sB_s, gB_sB_n, Nat.reduceBEq]
  by_cases q : x = s + w.2
  · subst q; rw [upd_s, if_pos rfl]
  · rw [upd_n _ _ q, if_neg q]; exact h4 x
section SORTS
variable {n c E : Nat} {hm fs fr eg fe : Nat → Nat} {fl wa : Ob} {cc L : Nat} {ca ht ly : Nat → Nat}
theorem PIC.cong {a b : Ob} (h : PIC E cc L fl wa ly ca a) (h0 : gi b 0 = gi a 0) (h1 : gi b 1 = gi a 1) (hA : ∀ k, k < 6 → gA b k = gA a k) : PIC E cc L fl wa ly ca b := by
  obtain ⟨⟨l1, l2, l3, l4, l5, l6⟩, ⟨b1, b2⟩, s1, ⟨p1, p2⟩⟩ := h
  have e0 := hA 0 (by decide)
  have e1 := hA 1 (by decide)
  have e2 := hA 2 (by decide)
  have e3 := hA 3 (by decide)
  have e4 := hA 4 (by decide)
  have e5 := hA 5 (by decide)
  refine ⟨⟨by rw [h0]; exact l1, by rw [h1]; exact l2, l3, fun b hb => by rw [e0]; exact l4 b hb, l5, l6⟩, ⟨fun e he => by rw [e2]; exact b1 e he, fun e he k hk => by rw [e3]; exact b2 e he k hk⟩, fun l hl => by rw [e1]; exact s1 l hl, ⟨fun l hl i hi1 hi2 => ?_, fun l hl pt hpt => ?_⟩⟩
  · rw [e4, e5]; exact p1 l hl i hi1 hi2
  · rw [e4]; exact p2 l hl pt hpt
theorem size_eq {t : Ob} (h : PIC E cc L fl wa ly ca t) {l : Nat} (hl : l < L) : sizeOf t (nI l) = nI (zL E cc wa ly ca l) ∧ rd (gA t 1) 41 (nI l) = nI (sF E cc wa ly ca l) := by
  have hL := h.1.2.2.1
  have s1 := h.2.2.1 l (by omega)
  have s2 := h.2.2.1 (l + 1) hl
  unfold sizeOf
  rw [nI_1, rd_nI (by omega) (by decide), rd_nI (by omega) (by decide), s1, s2, sF_s, pk_sub (by omega)]
  exact ⟨by congr 1; omega, rfl⟩
theorem arrange_ok (hF : FL n c E hm fs fr eg fe fl) (h : WK c E fr eg fl wa cc ca ht) {t : Ob} (hP : PIC E cc L fl wa ly ca t) {l : Nat} (hl : l < L) (o : Int32) :
    PIC E cc L fl wa ly ca (arrange wa t (nI l) o) ∧ EY XAR (arrange wa t (nI l) o) t ∧ gi (arrange wa t (nI l) o) 2 = gi t 2 ∧
    (∀ j, (j < sF E cc wa ly ca l ∨ sF E cc wa ly ca (l + 1) ≤ j) → gA (arrange wa t (nI l) o) 4 j = gA t 4 j) ∧ (∀ p, ¬ PT E fl wa ly l p → gA (arrange wa t (nI l) o) 5 p = gA t 5 p) := by
  have hE := hF.e57
  have hc := hF.c19
  have hL := hP.1.2.2.1
  have hcc := h.2.1.2.1
  obtain ⟨z1, z2⟩ := size_eq hP hl
  have hz := zL_le (wa := wa) (ly := ly) (ca := ca) hE (show cc ≤ 19 by omega) l
  have hs := sF_le (wa := wa) (ly := ly) (ca := ca) hE (show cc ≤ 19 by omega) (show l ≤ 19 by omega)
  have hss := sF_s (E := E) (cc := cc) (wa := wa) (ly := ly) (ca := ca) l
  unfold arrange
  rw [z1, z2, nN_nI (by omega)]
  obtain ⟨w1, w2⟩ := weigh_ey wa t (nI l) o (nI (zL E cc wa ly ca l))
  generalize weigh wa t (nI l) o (nI (zL E cc wa ly ca l)) = w at w1 w2
  rw [hss]
  have hseg : ∀ i, i < zL E cc wa ly ca l → ∃ pt, gA t 4 (sF E cc wa ly ca l + i) = nI pt ∧ PT E fl wa ly l pt ∧ gA t 5 pt = nI i := fun i hi => by
    obtain ⟨pt, a1, a2, a3⟩ := hP.2.2.2.1 l hl (sF E cc wa ly ca l + i) (by omega) (by omega)
    exact ⟨pt, a1, a2, by rw [a3]; congr 1; omega⟩
  have hsur : ∀ pt, PT E fl wa ly l pt → ∃ i, i < zL E cc wa ly ca l ∧ gA t 4 (sF E cc wa ly ca l + i) = nI pt := fun pt hpt => by
    obtain ⟨i, a1, a2, a3⟩ := hP.2.2.2.2 l hl pt hpt
    exact ⟨i - sF E cc wa ly ca l, by omega, by rw [show sF E cc wa ly ca l + (i - sF E cc wa ly ca l) = i by omega]; exact a3⟩
  generalize hsd : sF E cc wa ly ca l = s at *
  generalize hzd : zL E cc wa ly ca l = z at *
  have mid := lp_ind (f := arStep (nI s)) (n := z - 1) (s := w) (fun _ u => EY XAR u t ∧ gi u 2 = gi t 2 ∧ gA u 5 = gA t 5 ∧ PERM z s (gA u 4) (gA t 4))
    ⟨w1.mo (fun k hk => by unfold XAR; rw [hk, Bool.or_true]), w2, w1.2.2.1 5 rfl, by rw [w1.2.2.1 4 rfl]; exact PERM.rf _ _ _⟩ (fun j u hj hu => by
      obtain ⟨a1, a2, r, a3, a4⟩ := arStep_eq (s := s) (j := j) (pi := u) (by omega)
      exact ⟨(a1.mo (fun k hk => by unfold XAR X45; unfold X4 at hk; rw [hk]; rfl)).tr hu.1, by rw [a2]; exact hu.2.1, by rw [a1.2.2.1 5 rfl]; exact hu.2.2.1, hu.2.2.2.rot a3 (by omega) a4⟩)
  generalize lp (arStep (nI s)) (z - 1) w = u at mid
  obtain ⟨u1, u2, u3, σ, p1, p2, p3, p4⟩ := mid
  have hT : ∃ T : Nat → Nat, ∀ i, i < z → gA t 4 (s + i) = nI (T i) ∧ PT E fl wa ly l (T i) ∧ gA t 5 (T i) = nI i := by
    refine ⟨fun i => if hi : i < z then (hseg i hi).choose else 0, fun i hi => ?_⟩
    simp only [dif_pos hi]
    exact (hseg i hi).choose_spec
  obtain ⟨T, hT⟩ := hT
  have hTinj : ∀ i j, i < z → j < z → T i = T j → i = j := fun i j hi hj e => by
    have a := (hT i hi).2.2
    have b := (hT j hj).2.2
    rw [e] at a
    exact nI_inj (by omega) (by omega) (a.symm.trans b)
  have hTlt : ∀ i, i < z → T i < 1600 := fun i hi => PT_lt hF h hP.1 (hT i hi).2.1
  have hg : ∀ i, i < z → gA u 4 (s + i) = nI (T (σ i)) := fun i hi => by rw [p3 i hi]; exact (hT _ (p1 i hi)).1
  have hσ : ∀ i j, i < z → j < z → σ i = σ j → i = j := fun i j hi hj e => by
    rcases Nat.lt_trichotomy i j with q | q | q
    · exact absurd e (p2 i j q hj)
    · exact q
    · exact absurd e.symm (p2 j i q hi)
  have st1 : gA u 1 l = nI s := by rw [u1.2.2.1 1 rfl, ← hsd]; exact hP.2.2.1 l (by omega)
  have fin := lp_ind (f := arPut (nI l) (nI s)) (n := z) (s := u) (fun i v => EY XAR v t ∧ gi v 2 = gi t 2 ∧ gA v 4 = gA u 4 ∧ (∀ i', i' < i → gA v 5 (T (σ i')) = nI i') ∧ (∀ p, (∀ i', i' < i → T (σ i') ≠ p) → gA v 5 p = gA u 5 p))
    ⟨u1, u2, rfl, fun i' hi => absurd hi (Nat.not_lt_zero i'), fun _ _ => rfl⟩ (fun i v hi hv => by
      obtain ⟨v1, v2, v3, v4, v5⟩ := hv
      have e1 : gA v 1 l = nI s := by rw [v1.2.2.1 1 rfl, ← u1.2.2.1 1 rfl]; exact st1
      obtain ⟨g1, g2, g3⟩ := put_eq (t := v) (l := l) (i := s + i) (p := T (σ i)) (s0 := s) (by omega) e1 (by omega) (hTlt _ (p1 i hi)) (by omega)
      have e2 : arPut (nI l) (nI s) i v = putPoint v (nI l) (nI (s + i)) (nI (T (σ i))) := by
        unfold arPut
        rw [nI_add, rd_nI (by omega) (by decide), v3, hg i hi]
      rw [e2]
      refine ⟨?_, by rw [g3.1]; exact v2, ?_, fun i' hi' => ?_, fun p hp => ?_⟩
      · unfold putPoint
        exact (v1.sA 4 _ rfl).sA 5 _ rfl
      · rw [g1, v3, ← hg i hi, upd_self]
      · rw [g2]
        by_cases q : i' = i
        · subst q; rw [upd_s]; congr 1; omega
        · rw [upd_n _ _ (fun e => q (hσ _ _ (by omega) hi (hTinj _ _ (p1 _ (by omega)) (p1 _ hi) e)))]
          exact v4 i' (by omega)
      · rw [g2, upd_n _ _ (fun e => hp i (by omega) e.symm)]
        exact v5 p (fun i' hi' => hp i' (by omega)))
  generalize lp (arPut (nI l) (nI s)) z u = v at fin
  obtain ⟨v1, v2, v3, v4, v5⟩ := fin
  have o1 : ∀ j, (j < s ∨ s + z ≤ j) → gA v 4 j = gA t 4 j := fun j hj => by rw [v3]; exact p4 j hj
  have o2 : ∀ p, ¬ PT E fl wa ly l p → gA v 5 p = gA t 5 p := fun p hp => by
    rw [v5 p (fun i hi e => hp (by rw [← e]; exact (hT _ (p1 i hi)).2.1)), u3]
  obtain ⟨⟨l1, l2, l3, l4, l5, l6⟩, ⟨b1, b2⟩, s1, ⟨q1, q2⟩⟩ := hP
  refine ⟨⟨⟨by rw [v1.1 0 (by decide)]; exact l1, by rw [v1.1 1 (by decide)]; exact l2, l3, fun b hb => by rw [v1.2.2.1 0 rfl]; exact l4 b hb, l5, l6⟩, ⟨fun e he => by rw [v1.2.2.1 2 rfl]; exact b1 e he, fun e he k hk => by rw [v1.2.2.1 3 rfl]; exact b2 e he k hk⟩, fun l' hl' => by rw [v1.2.2.1 1 rfl]; exact s1 l' hl', ⟨fun l' hl' i hi1 hi2 => ?_, fun l' hl' pt hpt => ?_⟩⟩, v1, v2, o1, o2⟩
  · by_cases q : l' = l
    · subst q
      rw [hsd] at hi1 ⊢
      rw [hss] at hi2
      have hi : i - s < z := by omega
      refine ⟨T (σ (i - s)), ?_, (hT _ (p1 _ hi)).2.1, v4 _ hi⟩
      rw [v3, show i = s + (i - s) by omega]
      have := hg (i - s) hi
      rw [this, show s + (i - s) - s = i - s by omega]
    · obtain ⟨pt, a1, a2, a3⟩ := q1 l' hl' i hi1 hi2
      refine ⟨pt, ?_, a2, by rw [o2 pt (fun e => q (PT_one hF a2 e))]; exact a3⟩
      rw [o1 i ?_]
      · exact a1
      · rcases Nat.lt_or_ge l' l with y | y
        · left
          have := sF_mono (E := E) (cc := cc) (wa := wa) (ly := ly) (ca := ca) y
          omega
        · right
          have := sF_mono (E := E) (cc := cc) (wa := wa) (ly := ly) (ca := ca) (show l < l' by omega)
          omega
  · by_cases q : l' = l
    · subst q
      obtain ⟨i, i1, i2⟩ := hsur pt hpt
      have e1 : T i = pt := by
        have := (hT i i1).1
        rw [i2] at this
        exact (nI_inj (by have := PT_lt hF h (pi := t) ⟨l1, l2, l3, l4, l5, l6⟩ hpt; omega) (by have := hTlt i i1; omega) this).symm
      obtain ⟨x, x1, x2⟩ := fb_onto p1 p2 i1
      refine ⟨s + x, by omega, by omega, ?_⟩
      rw [v3, hg x x1, x2, e1]
    · obtain ⟨i, a1, a2, a3⟩ := q2 l' hl' pt hpt
      refine ⟨i, a1, a2, ?_⟩
      rw [o1 i ?_]
      · exact a3
      · rcases Nat.lt_or_ge l' l with y | y
        · left
          have := sF_mono (E := E) (cc := cc) (wa := wa) (ly := ly) (ca := ca) y
          omega
        · right
          have := sF_mono (E := E) (cc := cc) (wa := wa) (ly := ly) (ca := ca) (show l < l' by omega)
          omega
end SORTS
