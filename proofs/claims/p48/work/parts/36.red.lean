/-! ===== Reduction ===== -/
def RDI (s : Nat) (fl re : Ob) : Prop :=
  gi re 0 = nI s ∧ (s = 0 → gl re 0 = gl fl 0) ∧
  (∀ b, b < 40 → tb (gl fl 0) b = true → ∃ h, h ≤ b ∧ gA re 0 b = nI h ∧ tb (gl re 0) h = true) ∧
  (∀ b, b < 40 → tb (gl fl 0) b = false → gA re 0 b = -1) ∧
  (∀ k, tb (gl re 0) k = true → tb (gl fl 0) k = true ∧ gA re 0 k = nI k) ∧
  (∀ b, b < 40 → ∀ k, tb (gB re 0 b) k = true → tb (gl re 0) k = true ∨ k = 40)
theorem RDI.cong {s : Nat} {fl re re2 : Ob} (h : RDI s fl re) (e1 : gi re2 0 = gi re 0) (e2 : gl re2 0 = gl re 0) (e3 : gA re2 0 = gA re 0) (e4 : gB re2 0 = gB re 0) : RDI s fl re2 := by
  unfold RDI at *
  rw [e1, e2, e3, e4]; exact h
theorem fnd_yes (p : Nat → Bool) : ∀ n, fnd p n < n → p (fnd p n) = true := by
  intro n
  induction n with
  | zero => intro h; exact absurd h (Nat.not_lt_zero _)
  | succ n ih =>
    intro h
    have e : fnd p (n + 1) = if fnd p n < n then fnd p n else if p n = true then n else n + 1 := rfl
    by_cases q : fnd p n < n
    · rw [if_pos q] at e; rw [e]; exact ih q
    · rw [if_neg q] at e
      by_cases q2 : p n = true
      · rw [if_pos q2] at e; rw [e]; exact q2
      · rw [if_neg q2] at e; omega
theorem fnd_le (p : Nat → Bool) : ∀ n, fnd p n ≤ n := by
  intro n
  induction n with
  | zero => exact Nat.le_refl _
  | succ n ih =>
    have e : fnd p (n + 1) = if fnd p n < n then fnd p n else if p n = true then n else n + 1 := rfl
    rw [e]
    split
    · omega
    · split <;> omega
theorem entries_ok (re : Ob) : gi (findEntries re) 0 = gi re 0 ∧ gl (findEntries re) 0 = gl re 0 ∧ gA (findEntries re) 0 = gA re 0 ∧ gB (findEntries re) 0 = gB re 0 ∧ gA (findEntries re) 3 40 = -1 := by
  have h1 : gi (lp feC 41 re) 0 = gi re 0 ∧ gl (lp feC 41 re) 0 = gl re 0 ∧ gA (lp feC 41 re) 0 = gA re 0 ∧ gB (lp feC 41 re) 0 = gB re 0 ∧ ∀ k, k < 41 → gA (lp feC 41 re) 3 k = -1 := by
    refine lp_ind (fun i t => gi t 0 = gi re 0 ∧ gl t 0 = gl re 0 ∧ gA t 0 = gA re 0 ∧ gB t 0 = gB re 0 ∧ ∀ k, k < i → gA t 3 k = -1) ⟨rfl, rfl, rfl, rfl, fun k hk => absurd hk (Nat.not_lt_zero k)⟩ (fun i t hi h => ?_)
    unfold feC
    simp only [gi_sl, gi_sA, gi_sB, gi_si_s, gi_si_n, gl_si, gl_sA, gl_sB, gl_sl_s, gl_sl_n, gA_si, gA_sl, gA_sB, gA_sA_s, gA_sA_n, gB_si, gB_sl, gB_sA, gB_sB_s, gB_sB_n, Nat.reduceBEq]
    refine ⟨h.1, h.2.1, h.2.2.1, h.2.2.2.1, fun k hk => ?_⟩
    rw [wr_nI hi (by decide)]
    by_cases e : k = i
    · subst e; rw [upd_s]
    · rw [upd_n _ _ e]; exact h.2.2.2.2 k (by omega)
  unfold findEntries
  generalize feOnly re = only
  refine lp_ind (fun i t => gi t 0 = gi re 0 ∧ gl t 0 = gl re 0 ∧ gA t 0 = gA re 0 ∧ gB t 0 = gB re 0 ∧ gA t 3 40 = -1) ⟨h1.1, h1.2.1, h1.2.2.1, h1.2.2.2.1, h1.2.2.2.2 40 (by decide)⟩ (fun i t hi h => ?_)
  unfold feN
  refine lp_ind (fun _ t => gi t 0 = gi re 0 ∧ gl t 0 = gl re 0 ∧ gA t 0 = gA re 0 ∧ gB t 0 = gB re 0 ∧ gA t 3 40 = -1) h (fun j t hj h => ?_)
  unfold feB
  split
  · simp only [gi_sl, gi_sA, gi_sB, gi_si_s, gi_si_n, gl_si, gl_sA, gl_sB, gl_sl_s, gl_sl_n, gA_si, gA_sl, gA_sB, gA_sA_s, gA_sA_n, gB_si, gB_sl, gB_sA, gB_sB_s, gB_sB_n, Nat.reduceBEq]
    refine ⟨h.1, h.2.1, h.2.2.1, h.2.2.2.1, ?_⟩
    rw [wr_nI (by omega) (by decide), upd_n _ _ (by omega)]
    exact h.2.2.2.2
  · exact h
/-- merging: members are nodes -/
theorem merge_ok {s p : Nat} {fl re : Ob} {M : Int64} {ci : Bool} (hs0 : s ≠ 0) (hrc : ∀ k, tb (gl fl 0) k = true → k < 40) (h : RDI s fl re) (hM : ∀ k, tb M k = true → tb (gl re 0) k = true) (hp : p < 40) (hMp : tb M p = true) (hlow : ∀ j, j < p → tb M j = false) : RDI s fl (merge re M (nI p) ci) := by
  obtain ⟨h1, h2, h3, h4, h5, h6⟩ := h
  have hpn := hM p hMp
  have hA := lp_ind (f := mgA M) (n := 40) (s := (re, (0 : Int64))) (fun _ q => gi q.1 0 = nI s ∧ gl q.1 0 = gl re 0 ∧ gA q.1 0 = gA re 0 ∧ (∀ b, b < 40 → ∀ k, tb (gB q.1 0 b) k = true → tb (gl re 0) k = true ∨ k = 40) ∧ (∀ k, tb q.2 k = true → tb (gl re 0) k = true ∨ k = 40))
    ⟨h1, rfl, rfl, h6, fun k hk => by rw [tb_0] at hk; cases hk⟩ (fun i q hi hq => by
      unfold mgA
      split
      · simp only [gi_sl, gi_sA, gi_sB, gi_si_s, gi_si_n, gl_si, gl_sA, gl_sB, gl_sl_s, gl_sl_n, gA_si, gA_sl, gA_sB, gA_sA_s, gA_sA_n, gB_si, gB_sl, gB_sA, gB_sB_s, gB_sB_n, Nat.reduceBEq]
        rw [wrL_nI hi (by decide), rdL_nI hi (by decide)]
        refine ⟨hq.1, hq.2.1, hq.2.2.1, fun b hb k hk => ?_, fun k hk => ?_⟩
        · by_cases e : b = i
          · subst e; rw [updL_s, tb_0] at hk; cases hk
          · rw [updL_n _ _ e] at hk; exact hq.2.2.2.1 b hb k hk
        · rw [tb_or] at hk
          rcases Bool.or_eq_true_iff.mp hk with z | z
          · exact hq.2.2.2.2 k z
          · exact hq.2.2.2.1 i hi k z
      · exact hq)
  unfold merge
  generalize lp (mgA M) 40 (re, (0 : Int64)) = q at hA
  obtain ⟨a1, a2, a3, a4, a5⟩ := hA
  have hN : ∀ k, tb ((gl re 0 &&& (M ^^^ (-1))) ||| bitL (nI p)) k = ((tb (gl re 0) k && !tb M k) || decide (k = p)) := fun k => by rw [tb_or, tb_sub, tb_bit (by omega)]
  generalize hNN : (gl re 0 &&& (M ^^^ (-1))) ||| bitL (nI p) = N at hN
  have hNsub : ∀ k, tb N k = true → tb (gl re 0) k = true := fun k hk => by
    rw [hN] at hk
    rcases Bool.or_eq_true_iff.mp hk with z | z
    · cases q2 : tb (gl re 0) k
      · rw [q2] at z; cases z
      · rfl
    · rw [of_decide_eq_true z]; exact hpn
  have hin : ∀ k, tb (gl re 0) k = true → tb M k = false → tb N k = true := fun k z1 z2 => by rw [hN, z1, z2]; rfl
  have hNp : tb N p = true := by rw [hN, decide_eq_true rfl, Bool.or_true]
  have hB : RDI s fl (mgN q M (nI p) ci) ∨ True := Or.inr trivial
  have b0 : gi (mgN q M (nI p) ci) 0 = nI s ∧ gl (mgN q M (nI p) ci) 0 = N ∧ gA (mgN q M (nI p) ci) 0 = gA re 0 ∧ (∀ b, b < 40 → ∀ k, tb (gB (mgN q M (nI p) ci) 0 b) k = true → tb (gl re 0) k = true ∨ k = 40) := by
    unfold mgN
    simp only [gi_sl, gi_sA, gi_sB, gi_si_s, gi_si_n, gl_si, gl_sA, gl_sB, gl_sl_s, gl_sl_n, gA_si, gA_sl, gA_sB, gA_sA_s, gA_sA_n, gB_si, gB_sl, gB_sA, gB_sB_s, gB_sB_n, Nat.reduceBEq]
    rw [wrL_nI hp (by decide), a2, hNN]
    refine ⟨a1, rfl, a3, fun b hb k hk => ?_⟩
    by_cases e : b = p
    · subst e
      rw [updL_s, tb_or] at hk
      rcases Bool.or_eq_true_iff.mp hk with z | z
      · rw [tb_sub] at z
        cases q2 : tb q.2 k
        · rw [q2] at z; cases z
        · exact a5 k q2
      · cases ci
        · rw [if_neg (by decide), tb_0] at z; cases z
        · rw [if_pos rfl, tb_bit (by omega)] at z
          rw [of_decide_eq_true z]; exact Or.inl hpn
    · rw [updL_n _ _ e] at hk; exact a4 b hb k hk
  generalize mgN q M (nI p) ci = r0 at b0
  have key := lp_ind (f := mgB M (nI p)) (n := 40) (s := r0) (fun i t => gi t 0 = nI s ∧ gl t 0 = N ∧ (∀ b, b < 40 → ∀ k, tb (gB t 0 b) k = true → tb (gl re 0) k = true ∨ k = 40) ∧ (∀ b, b < i → ∀ k, tb (gB t 0 b) k = true → tb N k = true ∨ k = 40) ∧ (∀ b, i ≤ b → gA t 0 b = gA re 0 b) ∧ (∀ b, b < i → gA t 0 b = if gA re 0 b < 0 then gA re 0 b else if hs M (gA re 0 b) = true then nI p else gA re 0 b))
    ⟨b0.1, b0.2.1, b0.2.2.2, fun b hb => absurd hb (Nat.not_lt_zero b), fun b _ => by rw [b0.2.2.1], fun b hb => absurd hb (Nat.not_lt_zero b)⟩ (fun i t hi ht => by
      obtain ⟨c1, c2, c3, c4, c5, c6⟩ := ht
      have d : gi (mgC M (nI p) i t) 0 = nI s ∧ gl (mgC M (nI p) i t) 0 = N ∧ gA (mgC M (nI p) i t) 0 = gA t 0 ∧ (∀ b, b < 40 → ∀ k, tb (gB (mgC M (nI p) i t) 0 b) k = true → tb (gl re 0) k = true ∨ k = 40) ∧ (∀ b, b < i + 1 → ∀ k, tb (gB (mgC M (nI p) i t) 0 b) k = true → tb N k = true ∨ k = 40) := by
        unfold mgC
        rw [rdL_nI hi (by decide)]
        by_cases e : (gB t 0 i &&& M) = 0
        · rw [if_pos e]
          refine ⟨c1, c2, rfl, c3, fun b hb k hk => ?_⟩
          by_cases q2 : b = i
          · subst q2
            have : tb M k = false := by
              cases q3 : tb M k
              · rfl
              · have q4 : tb (gB t 0 b &&& M) k = true := by rw [tb_and, hk, q3]; rfl
                rw [e, tb_0] at q4; cases q4
            rcases c3 b hi k hk with z | z
            · exact Or.inl (hin k z this)
            · exact Or.inr z
          · exact c4 b (by omega) k hk
        · rw [if_neg e, wrL_nI hi (by decide)]
          simp only [gi_sl, gi_sA, gi_sB, gi_si_s, gi_si_n, gl_si, gl_sA, gl_sB, gl_sl_s, gl_sl_n, gA_si, gA_sl, gA_sB, gA_sA_s, gA_sA_n, gB_si, gB_sl, gB_sA, gB_sB_s, gB_sB_n, Nat.reduceBEq]
          have f : ∀ k, tb ((gB t 0 i &&& (M ^^^ (-1))) ||| bitL (nI p)) k = true → tb N k = true ∨ k = 40 := fun k hk => by
            rw [tb_or, tb_sub, tb_bit (by omega)] at hk
            rcases Bool.or_eq_true_iff.mp hk with z | z
            · cases q2 : tb (gB t 0 i) k <;> cases q3 : tb M k <;> rw [q2, q3] at z <;> try cases z
              rcases c3 i hi k q2 with y | y
              · exact Or.inl (hin k y q3)
              · exact Or.inr y
            · rw [of_decide_eq_true z]; exact Or.inl hNp
          refine ⟨c1, c2, trivial, fun b hb k hk => ?_, fun b hb k hk => ?_⟩
          · by_cases q2 : b = i
            · subst q2
              rw [updL_s] at hk
              rcases f k hk with z | z
              · exact Or.inl (hNsub k z)
              · exact Or.inr z
            · rw [updL_n _ _ q2] at hk; exact c3 b hb k hk
          · by_cases q2 : b = i
            · subst q2; rw [updL_s] at hk; exact f k hk
            · rw [updL_n _ _ q2] at hk; exact c4 b (by omega) k hk
      unfold mgB
      generalize mgC M (nI p) i t = u at d
      obtain ⟨d1, d2, d3, d4, d5⟩ := d
      have e5 : gA u 0 i = gA re 0 i := by rw [d3]; exact c5 i (Nat.le_refl i)
      unfold mgD
      rw [rd_nI hi (by decide), e5]
      by_cases q1 : gA re 0 i < 0
      · rw [if_pos q1]
        refine ⟨d1, d2, d4, d5, fun b hb => by rw [d3]; exact c5 b (by omega), fun b hb => ?_⟩
        by_cases q2 : b = i
        · subst q2; rw [if_pos q1, e5]
        · rw [d3]; exact c6 b (by omega)
      · rw [if_neg q1]
        by_cases q3 : hs M (gA re 0 i) = true
        · rw [if_pos q3]
          simp only [gi_sl, gi_sA, gi_sB, gi_si_s, gi_si_n, gl_si, gl_sA, gl_sB, gl_sl_s, gl_sl_n, gA_si, gA_sl, gA_sB, gA_sA_s, gA_sA_n, gB_si, gB_sl, gB_sA, gB_sB_s, gB_sB_n, Nat.reduceBEq]
          rw [wr_nI hi (by decide)]
          refine ⟨d1, d2, d4, d5, fun b hb => ?_, fun b hb => ?_⟩
          · rw [upd_n _ _ (by omega), d3]; exact c5 b (by omega)
          · by_cases q2 : b = i
            · subst q2; rw [upd_s, if_neg q1, if_pos q3]
            · rw [upd_n _ _ q2, d3]; exact c6 b (by omega)
        · rw [if_neg q3]
          refine ⟨d1, d2, d4, d5, fun b hb => by rw [d3]; exact c5 b (by omega), fun b hb => ?_⟩
          by_cases q2 : b = i
          · subst q2; rw [if_neg q1, if_neg q3, e5]
          · rw [d3]; exact c6 b (by omega))
  generalize lp (mgB M (nI p)) 40 r0 = t at key
  obtain ⟨c1, c2, -, c4, -, c6⟩ := key
  refine ⟨c1, fun z => absurd z hs0, fun b hb hr => ?_, fun b hb hr => ?_, fun k hk => ?_, fun b hb k hk => ?_⟩
  · obtain ⟨x, x1, x2, x3⟩ := h3 b hb hr
    rw [c6 b hb, x2, c2, if_neg (nI_pos (by omega)), hs_tb _ (by omega)]
    by_cases q2 : tb M x = true
    · rw [if_pos q2]
      refine ⟨p, ?_, rfl, hNp⟩
      rcases Nat.lt_or_ge x p with z | z
      · rw [hlow x z] at q2; cases q2
      · omega
    · rw [if_neg q2]
      exact ⟨x, x1, rfl, hin x x3 (ts_nt q2)⟩
  · rw [c6 b hb, h4 b hb hr, if_pos (by decide)]
  · rw [c2] at hk
    have z1 := h5 k (hNsub k hk)
    have z2 := hrc k z1.1
    refine ⟨z1.1, ?_⟩
    rw [c6 k z2, z1.2, if_neg (nI_pos (by omega)), hs_tb _ (by omega)]
    by_cases q2 : tb M k = true
    · rw [if_pos q2]
      rw [hN, q2] at hk
      simp at hk
      rw [hk]
    · rw [if_neg q2]
  · rw [c2]; exact c4 b hb k hk
theorem n1i {n : Nat} (h : n < 2 ^ 31) : nI n ≠ -1 := fun z => nI_pos h (by rw [z]; decide)
/-- a rule, applied to a node -/
theorem apply_ok {s a : Nat} {fl re : Ob} (hs0 : s ≠ 0) (hrc : ∀ k, tb (gl fl 0) k = true → k < 40) (h : RDI s fl re) (he : gA re 3 40 = -1) (hn : tb (gl re 0) a = true) (hf : ruleFor re (nI a) ≠ -1) : RDI s fl (apply re (ruleFor re (nI a)) (nI a)) := by
  have ha : a < 40 := hrc a (h.2.2.2.2.1 a hn).1
  have hout := h.2.2.2.2.2 a ha
  have hbits : ∀ k, tb (gB re 0 a) k = true → k ≤ 40 := fun k hk => by
    rcases hout k hk with z | z
    · have := hrc k (h.2.2.2.2.1 k z).1; omega
    · omega
  have hent : ∀ k, k ≤ 40 → rd (gA re 3) 41 (nI k) = nI a → k ≠ 40 := fun k hk z q => by
    subst q
    rw [rd_nI (by decide) (by decide), he] at z
    exact n1i (by omega) z.symm
  have fin : ∀ (M : Int64) (ci : Bool), tb M a = true → (∀ k, tb M k = true → tb (gl re 0) k = true) → RDI s fl (merge re M (lowest M) ci) := fun M ci h1 h2 => by
    obtain ⟨p, hp, hl, hb, hlo⟩ := low_bit (tb_ne h1)
    rw [hl]
    have := hrc p (h.2.2.2.2.1 p (h2 p hb)).1
    exact merge_ok hs0 hrc h h2 this hb hlo
  revert hf
  unfold ruleFor
  rw [rdL_nI ha (by decide), hs_tb _ (by omega)]
  by_cases q0 : tb (gB re 0 a) a = true
  · rw [if_pos q0]
    intro _
    unfold apply
    rw [if_pos rfl, rdL_nI ha (by decide), wrL_nI ha (by decide)]
    obtain ⟨h1, h2, h3, h4, h5, h6⟩ := h
    refine ⟨?_, ?_, ?_, ?_, ?_, fun b hb k hk => ?_⟩
    · simp only [gi_sl, gi_sA, gi_sB, gi_si_s, gi_si_n, gl_si, gl_sA, gl_sB, gl_sl_s, gl_sl_n, gA_si, gA_sl, gA_sB, gA_sA_s, gA_sA_n, gB_si, gB_sl, gB_sA, gB_sB_s, gB_sB_n, Nat.reduceBEq]; exact h1
    · simp only [gi_sl, gi_sA, gi_sB, gi_si_s, gi_si_n, gl_si, gl_sA, gl_sB, gl_sl_s, gl_sl_n, gA_si, gA_sl, gA_sB, gA_sA_s, gA_sA_n, gB_si, gB_sl, gB_sA, gB_sB_s, gB_sB_n, Nat.reduceBEq]; exact h2
    · simp only [gi_sl, gi_sA, gi_sB, gi_si_s, gi_si_n, gl_si, gl_sA, gl_sB, gl_sl_s, gl_sl_n, gA_si, gA_sl, gA_sB, gA_sA_s, gA_sA_n, gB_si, gB_sl, gB_sA, gB_sB_s, gB_sB_n, Nat.reduceBEq]; exact h3
    · simp only [gi_sl, gi_sA, gi_sB, gi_si_s, gi_si_n, gl_si, gl_sA, gl_sB, gl_sl_s, gl_sl_n, gA_si, gA_sl, gA_sB, gA_sA_s, gA_sA_n, gB_si, gB_sl, gB_sA, gB_sB_s, gB_sB_n, Nat.reduceBEq]; exact h4
    · simp only [gi_sl, gi_sA, gi_sB, gi_si_s, gi_si_n, gl_si, gl_sA, gl_sB, gl_sl_s, gl_sl_n, gA_si, gA_sl, gA_sB, gA_sA_s, gA_sA_n, gB_si, gB_sl, gB_sA, gB_sB_s, gB_sB_n, Nat.reduceBEq]; exact h5
    · simp only [gi_sl, gi_sA, gi_sB, gi_si_s, gi_si_n, gl_si, gl_sA, gl_sB, gl_sl_s, gl_sl_n, gA_si, gA_sl, gA_sB, gA_sA_s, gA_sA_n, gB_si, gB_sl, gB_sA, gB_sB_s, gB_sB_n, Nat.reduceBEq] at hk ⊢
      by_cases e : b = a
      · subst e
        rw [updL_s, tb_sub] at hk
        cases q2 : tb (gB re 0 b) k
        · rw [q2] at hk; cases hk
        · exact h6 b hb k q2
      · rw [updL_n _ _ e] at hk; exact h6 b hb k hk
  · rw [if_neg q0]
    have hna : ∀ k, tb (gB re 0 a) k = true → k ≠ a := fun k hk e => by subst e; exact q0 hk
    by_cases q1 : bc (gB re 0 a) = 1
    · rw [if_pos q1]
      obtain ⟨k, hk64, hl, hk⟩ := bc_one q1
      have hkk : tb (gB re 0 a) k = true := by rw [hk, decide_eq_true rfl]
      rw [hl]
      by_cases q2 : rd (gA re 3) 41 (nI k) = nI a
      · rw [if_pos q2]
        intro _
        unfold apply
        rw [if_neg (by decide)]
        refine fin _ _ ?_ (fun j hj => ?_)
        · unfold apM
          rw [if_neg (by decide), tb_or, tb_bit (by omega), decide_eq_true rfl, Bool.true_or]
        · unfold apM at hj
          rw [if_neg (by decide), rdL_nI ha (by decide), tb_or, tb_bit (by omega)] at hj
          rcases Bool.or_eq_true_iff.mp hj with z | z
          · rw [of_decide_eq_true z]; exact hn
          · rw [hk] at z
            have : j = k := of_decide_eq_true z
            subst this
            rcases hout j hkk with y | y
            · exact y
            · exact absurd y (hent j (hbits j hkk) q2)
      · rw [if_neg q2]; exact fun z => absurd rfl z
    · rw [if_neg q1]
      by_cases q2 : bc (gB re 0 a) = 2
      · rw [if_pos q2]
        obtain ⟨k, m, hk64, hm64, hkm, hl, hc, hk⟩ := bc_two q2
        have hkk : tb (gB re 0 a) k = true := by rw [hk, decide_eq_true rfl, Bool.true_or]
        have hmm : tb (gB re 0 a) m = true := by rw [hk, decide_eq_true (p := m = m) rfl, Bool.or_true]
        have nk : k ≠ 40 → tb (gl re 0) k = true := fun z => (hout k hkk).resolve_right z
        have nm : m ≠ 40 → tb (gl re 0) m = true := fun z => (hout m hmm).resolve_right z
        rw [hl, hc]
        unfold ruleTwo
        by_cases q3 : isSingle re (nI a) (nI k) (nI m) = true
        · rw [if_pos q3]
          intro _
          have k40 : k ≠ 40 := by
            unfold isSingle at q3
            exact hent k (hbits k hkk) (of_decide_eq_true (Bool.and_eq_true_iff.mp q3).1)
          unfold apply
          rw [if_neg (by decide), rdL_nI ha (by decide)]
          unfold apM
          rw [if_pos rfl, hl, hc, if_pos q3]
          refine fin _ _ ?_ (fun j hj => ?_)
          · rw [tb_sub, tb_or, tb_bit (by omega), tb_bit hm64, decide_eq_true rfl, decide_eq_false (fun z => hna m hmm z.symm)]; rfl
          · rw [tb_sub, tb_or, tb_bit (by omega), tb_bit hm64, hk] at hj
            by_cases w : j = a
            · rw [w]; exact hn
            · by_cases w2 : j = k
              · rw [w2]; exact nk k40
              · by_cases w3 : j = m
                · rw [decide_eq_true w3, Bool.not_true, Bool.and_false] at hj; cases hj
                · rw [decide_eq_false w, decide_eq_false w2, decide_eq_false w3] at hj; cases hj
        · rw [if_neg q3]
          by_cases q4 : isSingle re (nI a) (nI m) (nI k) = true
          · rw [if_pos q4]
            intro _
            have m40 : m ≠ 40 := by
              unfold isSingle at q4
              exact hent m (hbits m hmm) (of_decide_eq_true (Bool.and_eq_true_iff.mp q4).1)
            unfold apply
            rw [if_neg (by decide), rdL_nI ha (by decide)]
            unfold apM
            rw [if_pos rfl, hl, hc, if_neg q3]
            refine fin _ _ ?_ (fun j hj => ?_)
            · rw [tb_sub, tb_or, tb_bit (by omega), tb_bit hk64, decide_eq_true rfl, decide_eq_false (fun z => hna k hkk z.symm)]; rfl
            · rw [tb_sub, tb_or, tb_bit (by omega), tb_bit hk64, hk] at hj
              by_cases w : j = a
              · rw [w]; exact hn
              · by_cases w2 : j = m
                · rw [w2]; exact nm m40
                · by_cases w3 : j = k
                  · rw [decide_eq_true w3, Bool.not_true, Bool.and_false] at hj; cases hj
                  · rw [decide_eq_false w, decide_eq_false w2, decide_eq_false w3] at hj; cases hj
          · rw [if_neg q4]
            by_cases q5 : isDouble re (nI a) (nI k) (nI m) = true
            · rw [if_pos q5]
              intro _
              unfold isDouble at q5
              have z1 := Bool.and_eq_true_iff.mp q5
              have z2 := Bool.and_eq_true_iff.mp z1.2
              have k40 : k ≠ 40 := hent k (hbits k hkk) (of_decide_eq_true z1.1)
              have m40 : m ≠ 40 := hent m (hbits m hmm) (of_decide_eq_true z2.1)
              unfold apply
              rw [if_neg (by decide), rdL_nI ha (by decide)]
              unfold apM
              rw [if_neg (by decide)]
              refine fin _ _ ?_ (fun j hj => ?_)
              · rw [tb_or, tb_bit (by omega), decide_eq_true rfl, Bool.true_or]
              · rw [tb_or, tb_bit (by omega), hk] at hj
                by_cases w : j = a
                · rw [w]; exact hn
                · by_cases w2 : j = m
                  · rw [w2]; exact nm m40
                  · by_cases w3 : j = k
                    · rw [w3]; exact nk k40
                    · rw [decide_eq_false w, decide_eq_false w2, decide_eq_false w3] at hj; cases hj
            · rw [if_neg q5]; exact fun z => absurd rfl z
      · rw [if_neg q2]; exact fun z => absurd rfl z
theorem rule_ts (r : Ob) (k : Nat) : ruleFor (tsPut r k) (nI k) = ruleFor r (nI k) := by
  have e1 : gB (tsPut r k) 0 = gB r 0 := by unfold tsPut; simp only [gi_sl, gi_sA, gi_sB, gi_si_s, gi_si_n, gl_si, gl_sA, gl_sB, gl_sl_s, gl_sl_n, gA_si, gA_sl, gA_sB, gA_sA_s, gA_sA_n, gB_si, gB_sl, gB_sA, gB_sB_s, gB_sB_n, Nat.reduceBEq]
  have e2 : gA (tsPut r k) 3 = gA r 3 := by unfold tsPut; simp only [gi_sl, gi_sA, gi_sB, gi_si_s, gi_si_n, gl_si, gl_sA, gl_sB, gl_sl_s, gl_sl_n, gA_si, gA_sl, gA_sB, gA_sA_s, gA_sA_n, gB_si, gB_sl, gB_sA, gB_sB_s, gB_sB_n, Nat.reduceBEq]
  unfold ruleFor ruleTwo isSingle isDouble
  rw [e1, e2]
theorem take_ok {s : Nat} {fl re : Ob} (hrc : ∀ k, tb (gl fl 0) k = true → k < 40) (h : RDI s fl re) : ∃ s2, s2 ≤ s + 1 ∧ RDI s2 fl (takeStep re).1 := by
  unfold takeStep
  obtain ⟨e1, e2, e3, e4, e5⟩ := entries_ok re
  have h2 := h.cong e1 e2 e3 e4
  generalize findEntries re = r at h2 e5
  unfold takeF
  by_cases q : fnd (isFound r) 40 < 40
  · rw [if_pos q]
    have hy := fnd_yes (isFound r) 40 q
    generalize fnd (isFound r) 40 = k at q hy
    have hy2 : ¬ foundAt r k = -1 := by unfold isFound at hy; exact of_decide_eq_true hy
    have hn : tb (gl r 0) k = true := by
      unfold foundAt at hy2
      by_cases z : hs (gl r 0) (nI k) = true
      · rwa [hs_tb _ (by omega)] at z
      · rw [if_neg z] at hy2; exact absurd rfl hy2
    have hfo : foundAt r k = ruleFor r (nI k) := by
      unfold foundAt
      rw [hs_tb _ (by omega), if_pos hn]
    refine ⟨s + 1, Nat.le_refl _, ?_⟩
    show RDI (s + 1) fl (apply (tsPut r k) (foundAt r k) (nI k))
    rw [hfo, ← rule_ts r k]
    have ht : RDI (s + 1) fl (tsPut r k) := by
      unfold tsPut
      obtain ⟨h1, -, h3⟩ := h2
      refine ⟨?_, fun z => absurd z (by omega), ?_⟩
      · simp only [gi_sl, gi_sA, gi_sB, gi_si_s, gi_si_n, gl_si, gl_sA, gl_sB, gl_sl_s, gl_sl_n, gA_si, gA_sl, gA_sB, gA_sA_s, gA_sA_n, gB_si, gB_sl, gB_sA, gB_sB_s, gB_sB_n, Nat.reduceBEq]; rw [h1, nI_1]
      · simp only [gi_sl, gi_sA, gi_sB, gi_si_s, gi_si_n, gl_si, gl_sA, gl_sB, gl_sl_s, gl_sl_n, gA_si, gA_sl, gA_sB, gA_sA_s, gA_sA_n, gB_si, gB_sl, gB_sA, gB_sB_s, gB_sB_n, Nat.reduceBEq]; exact h3
    refine apply_ok (by omega) hrc ht ?_ ?_ ?_
    · unfold tsPut; simp only [gi_sl, gi_sA, gi_sB, gi_si_s, gi_si_n, gl_si, gl_sA, gl_sB, gl_sl_s, gl_sl_n, gA_si, gA_sl, gA_sB, gA_sA_s, gA_sA_n, gB_si, gB_sl, gB_sA, gB_sB_s, gB_sB_n, Nat.reduceBEq]; exact e5
    · unfold tsPut; simp only [gi_sl, gi_sA, gi_sB, gi_si_s, gi_si_n, gl_si, gl_sA, gl_sB, gl_sl_s, gl_sl_n, gA_si, gA_sl, gA_sB, gA_sA_s, gA_sA_n, gB_si, gB_sl, gB_sA, gB_sB_s, gB_sB_n, Nat.reduceBEq]; exact hn
    · rw [rule_ts, ← hfo]; exact hy2
  · rw [if_neg q]
    exact ⟨s, by omega, h2⟩
theorem reduce_ok {n c E : Nat} {hm fs fr eg fe : Nat → Nat} {fl : Ob} (h : FL n c E hm fs fr eg fe fl) (re : Ob) : ∃ s, s ≤ 120 ∧ RDI s fl (reduce fl re) := by
  have hc := h.c19
  have hrc : ∀ k, tb (gl fl 0) k = true → k < 40 := fun k hk => by have := h.r_lt hk; omega
  have h0 : RDI 0 fl (lp (reInit fl) 40 (si (sl re 0 (gl fl 0)) 0 0)) := by
    have key := lp_ind (f := reInit fl) (n := 40) (s := si (sl re 0 (gl fl 0)) 0 0) (fun i t => gi t 0 = nI 0 ∧ gl t 0 = gl fl 0 ∧ (∀ b, b < i → gA t 0 b = (if tb (gl fl 0) b = true then nI b else -1) ∧ gB t 0 b = (if tb (gl fl 0) b = true then gB fl 0 b else 0)))
      ⟨by simp only [gi_sl, gi_sA, gi_sB, gi_si_s, gi_si_n, gl_si, gl_sA, gl_sB, gl_sl_s, gl_sl_n, gA_si, gA_sl, gA_sB, gA_sA_s, gA_sA_n, gB_si, gB_sl, gB_sA, gB_sB_s, gB_sB_n, Nat.reduceBEq]; rfl, by simp only [gi_sl, gi_sA, gi_sB, gi_si_s, gi_si_n, gl_si, gl_sA, gl_sB, gl_sl_s, gl_sl_n, gA_si, gA_sl, gA_sB, gA_sA_s, gA_sA_n, gB_si, gB_sl, gB_sA, gB_sB_s, gB_sB_n, Nat.reduceBEq], fun b hb => absurd hb (Nat.not_lt_zero b)⟩ (fun i t hi ht => by
        unfold reInit
        simp only [gi_sl, gi_sA, gi_sB, gi_si_s, gi_si_n, gl_si, gl_sA, gl_sB, gl_sl_s, gl_sl_n, gA_si, gA_sl, gA_sB, gA_sA_s, gA_sA_n, gB_si, gB_sl, gB_sA, gB_sB_s, gB_sB_n, Nat.reduceBEq]
        rw [ht.2.1, hs_tb _ (by omega), rdL_nI hi (by decide), wrL_nI hi (by decide), wr_nI hi (by decide)]
        refine ⟨ht.1, rfl, fun b hb => ?_⟩
        by_cases e : b = i
        · subst e; rw [upd_s, updL_s]; exact ⟨rfl, rfl⟩
        · rw [upd_n _ _ e, updL_n _ _ e]; exact ht.2.2 b (by omega))
    obtain ⟨k1, k2, k3⟩ := key
    refine ⟨k1, fun _ => k2, fun b hb hr => ?_, fun b hb hr => ?_, fun k hk => ?_, fun b hb k hk => ?_⟩
    · exact ⟨b, Nat.le_refl b, by rw [(k3 b hb).1, if_pos hr], by rw [k2]; exact hr⟩
    · rw [(k3 b hb).1, if_neg (by rw [hr]; decide)]
    · rw [k2] at hk
      exact ⟨hk, by rw [(k3 k (hrc k hk)).1, if_pos hk]⟩
    · rw [(k3 b hb).2] at hk
      by_cases q : tb (gl fl 0) b = true
      · rw [if_pos q] at hk
        rw [k2]
        by_cases q2 : k = 40
        · exact Or.inr q2
        · exact Or.inl (h.r_go q hk q2)
      · rw [if_neg q, tb_0] at hk; cases hk
  unfold reduce
  refine lpW_ind (c := fun p : Ob × Bool => p.2) (f := fun p => takeStep p.1) (fun i (p : Ob × Bool) => ∃ s, s ≤ i ∧ RDI s fl p.1) ⟨0, Nat.le_refl 0, h0⟩ (fun i p hi h _ => ?_) (fun i p hi h _ => ?_)
  · obtain ⟨s, hs, h⟩ := h
    obtain ⟨s2, h2, h3⟩ := take_ok hrc h
    exact ⟨s2, by omega, h3⟩
  · obtain ⟨s, hs, h⟩ := h
    exact ⟨s, by omega, h⟩
