/-! ===== Flow: blocks ===== -/
def CutF (i c : Nat) (hm fs : Nat → Nat) : Prop :=
  c ≤ i ∧ (0 < i → 0 < c ∧ hm (i - 1) = c - 1 ∧ hm 0 = 0) ∧ (∀ j, j < i → hm j < c ∧ fs (hm j) ≤ j) ∧ (∀ b, b < c → fs b < i ∧ hm (fs b) = b) ∧
  (∀ j, j + 1 < i → hm (j + 1) = hm j ∨ (hm (j + 1) = hm j + 1 ∧ fs (hm (j + 1)) = j + 1))
theorem CutF.new {i c : Nat} {hm fs : Nat → Nat} (h : CutF i c hm fs) : CutF (i + 1) (c + 1) (va_up hm i c) (va_up fs c i) := by
  obtain ⟨h1, h2, h3, h4, h5⟩ := h
  refine ⟨by omega, fun _ => ⟨by omega, ?_, ?_⟩, fun j hj => ?_, fun b hb => ?_, fun j hj => ?_⟩
  · show va_up hm i c i = _
    rw [va_up_self]; rfl
  · rcases Nat.eq_zero_or_pos i with e | e
    · subst e; rw [va_up_self]; omega
    · rw [va_up_ne _ _ (by omega)]; exact (h2 e).2.2
  · by_cases e : j = i
    · subst e; rw [va_up_self, va_up_self]; omega
    · have := h3 j (by omega)
      rw [va_up_ne _ _ e, va_up_ne _ _ (by omega)]; omega
  · by_cases e : b = c
    · subst e; rw [va_up_self, va_up_self]; exact ⟨by omega, rfl⟩
    · have := h4 b (by omega)
      rw [va_up_ne _ _ e, va_up_ne _ _ (by omega)]; exact ⟨by omega, this.2⟩
  · by_cases e : j + 1 = i
    · right
      subst e
      have := (h2 (by omega)).2.1
      rw [va_up_self, va_up_ne _ _ (by omega), va_up_self]
      have q := (h2 (by omega)).1
      simp only [Nat.add_sub_cancel] at this
      exact ⟨by omega, rfl⟩
    · have q := h5 j (by omega)
      have q2 := h3 (j + 1) (by omega)
      rw [va_up_ne _ _ e, va_up_ne _ _ (by omega), va_up_ne _ _ (by omega)]
      exact q
theorem CutF.same {i c : Nat} {hm fs : Nat → Nat} (h : CutF i c hm fs) (h0 : 0 < i) : CutF (i + 1) c (va_up hm i (c - 1)) fs := by
  obtain ⟨h1, h2, h3, h4, h5⟩ := h
  have h6 := h2 h0
  have h7 := h3 (i - 1) (by omega)
  refine ⟨by omega, fun _ => ⟨h6.1, ?_, ?_⟩, fun j hj => ?_, fun b hb => ?_, fun j hj => ?_⟩
  · show va_up hm i (c - 1) i = _
    rw [va_up_self]
  · rw [va_up_ne _ _ (by omega)]; exact h6.2.2
  · by_cases e : j = i
    · subst e
      rw [va_up_self]
      rw [h6.2.1] at h7
      omega
    · have := h3 j (by omega)
      rw [va_up_ne _ _ e]; omega
  · have := h4 b hb
    rw [va_up_ne _ _ (by omega)]; exact ⟨by omega, this.2⟩
  · by_cases e : j + 1 = i
    · left
      subst e
      have := h6.2.1
      rw [va_up_self, va_up_ne _ _ (by omega)]
      simp only [Nat.add_sub_cancel] at this
      exact this.symm
    · have q := h5 j (by omega)
      rw [va_up_ne _ _ e, va_up_ne _ _ (by omega)]
      exact q
def CutI (i : Nat) (fl : Ob) : Prop := ∃ (c : Nat) (hm fs : Nat → Nat), gi fl 0 = nI c ∧ (∀ j, j < i → gA fl 0 j = nI (hm j)) ∧ (∀ b, b < c → gA fl 1 b = nI (fs b)) ∧ CutF i c hm fs
theorem lead_0 (co : Ob) : tb (leaders co) 0 = true := by
  unfold leaders
  refine lp_ind (fun _ l => tb l 0 = true) (by rw [tb_1]; rfl) (fun i l _ h => ?_)
  have h2 : tb (leadA co i l) 0 = true := by
    unfold leadA
    split
    · exact h
    · rw [tb_or, h]; rfl
  unfold leadStep
  split
  · rw [tb_or, h2]; rfl
  · exact h2
theorem upd_va {f : Nat → Int32} {g : Nat → Nat} {i k v : Nat} (h : ∀ j, j < k → j ≠ i → f j = nI (g j)) : ∀ j, j < k → upd f i (nI v) j = nI (va_up g i v j) := fun j hj => by
  by_cases e : j = i
  · subst e; rw [upd_s, va_up_self]
  · rw [upd_n _ _ e, va_up_ne _ _ e]; exact h j hj e
theorem nI_pr {c : Nat} (h : 0 < c) : nI c - 1 = nI (c - 1) := by
  obtain ⟨d, rfl⟩ : ∃ d, c = d + 1 := ⟨c - 1, by omega⟩
  exact nI_pred d
theorem cut_i0 {i c : Nat} {fl : Ob} {hm fs : Nat → Nat} (hi : i < 19) (hi0 : 0 < i) (h1 : gi fl 0 = nI c) (h2 : ∀ j, j < i → gA fl 0 j = nI (hm j)) (h3 : ∀ b, b < c → gA fl 1 b = nI (fs b)) (h4 : CutF i c hm fs) : CutI (i + 1) (cutB i fl) := by
  have hc0 := (h4.2.1 hi0).1
  unfold cutB
  rw [h1, nI_pr hc0, wr_nI (i := i) (by omega) (by decide)]
  refine ⟨c, va_up hm i (c - 1), fs, ?_, ?_, ?_, h4.same hi0⟩
  · simp only [gi_sl, gi_sA, gi_sB, gi_si_s, gi_si_n, gl_si, gl_sA, gl_sB, gl_sl_s, gl_sl_n, gA_si, gA_sl, gA_sB, gA_sA_s, gA_sA_n, gB_si, gB_sl, gB_sA, gB_sB_s, gB_sB_n, Nat.reduceBEq]; exact h1
  · simp only [gi_sl, gi_sA, gi_sB, gi_si_s, gi_si_n, gl_si, gl_sA, gl_sB, gl_sl_s, gl_sl_n, gA_si, gA_sl, gA_sB, gA_sA_s, gA_sA_n, gB_si, gB_sl, gB_sA, gB_sB_s, gB_sB_n, Nat.reduceBEq]; exact upd_va fun j hj e => h2 j (by omega)
  · simp only [gi_sl, gi_sA, gi_sB, gi_si_s, gi_si_n, gl_si, gl_sA, gl_sB, gl_sl_s, gl_sl_n, gA_si, gA_sl, gA_sB, gA_sA_s, gA_sA_n, gB_si, gB_sl, gB_sA, gB_sB_s, gB_sB_n, Nat.reduceBEq]; exact h3
theorem cut_i1 {i c : Nat} {fl : Ob} {hm fs : Nat → Nat} (hi : i < 19) (h1 : gi fl 0 = nI c) (h2 : ∀ j, j < i → gA fl 0 j = nI (hm j)) (h3 : ∀ b, b < c → gA fl 1 b = nI (fs b)) (h4 : CutF i c hm fs) : CutI (i + 1) (cutB i (si (sA fl 1 (wr (gA fl 1) 40 (gi fl 0) (nI i))) 0 (gi fl 0 + 1))) := by
  have hc := h4.1
  rw [h1, wr_nI (i := c) (by omega) (by decide), nI_1]
  have e0 : gi (si (sA fl 1 (upd (gA fl 1) c (nI i))) 0 (nI (c + 1))) 0 = nI (c + 1) := gi_si_s _ _ _
  have e1 : gA (si (sA fl 1 (upd (gA fl 1) c (nI i))) 0 (nI (c + 1))) 0 = gA fl 0 := by simp only [gi_sl, gi_sA, gi_sB, gi_si_s, gi_si_n, gl_si, gl_sA, gl_sB, gl_sl_s, gl_sl_n, gA_si, gA_sl, gA_sB, gA_sA_s, gA_sA_n, gB_si, gB_sl, gB_sA, gB_sB_s, gB_sB_n, Nat.reduceBEq]
  have e2 : gA (si (sA fl 1 (upd (gA fl 1) c (nI i))) 0 (nI (c + 1))) 1 = upd (gA fl 1) c (nI i) := by simp only [gi_sl, gi_sA, gi_sB, gi_si_s, gi_si_n, gl_si, gl_sA, gl_sB, gl_sl_s, gl_sl_n, gA_si, gA_sl, gA_sB, gA_sA_s, gA_sA_n, gB_si, gB_sl, gB_sA, gB_sB_s, gB_sB_n, Nat.reduceBEq]
  generalize si (sA fl 1 (upd (gA fl 1) c (nI i))) 0 (nI (c + 1)) = f2 at e0 e1 e2
  unfold cutB
  rw [e0, nI_pred, e1, wr_nI (i := i) (by omega) (by decide)]
  refine ⟨c + 1, va_up hm i c, va_up fs c i, ?_, ?_, ?_, h4.new⟩
  · simp only [gi_sl, gi_sA, gi_sB, gi_si_s, gi_si_n, gl_si, gl_sA, gl_sB, gl_sl_s, gl_sl_n, gA_si, gA_sl, gA_sB, gA_sA_s, gA_sA_n, gB_si, gB_sl, gB_sA, gB_sB_s, gB_sB_n, Nat.reduceBEq]; exact e0
  · simp only [gi_sl, gi_sA, gi_sB, gi_si_s, gi_si_n, gl_si, gl_sA, gl_sB, gl_sl_s, gl_sl_n, gA_si, gA_sl, gA_sB, gA_sA_s, gA_sA_n, gB_si, gB_sl, gB_sA, gB_sB_s, gB_sB_n, Nat.reduceBEq]; exact upd_va fun j hj e => h2 j (by omega)
  · simp only [gi_sl, gi_sA, gi_sB, gi_si_s, gi_si_n, gl_si, gl_sA, gl_sB, gl_sl_s, gl_sl_n, gA_si, gA_sl, gA_sB, gA_sA_s, gA_sA_n, gB_si, gB_sl, gB_sA, gB_sB_s, gB_sB_n, Nat.reduceBEq]; rw [e2]; exact upd_va fun b hb e => h3 b (by omega)
theorem cut_i {ld : Int64} {i : Nat} {fl : Ob} (hi : i < 19) (hld : tb ld 0 = true) (h : CutI i fl) : CutI (i + 1) (cutStep ld i fl) := by
  obtain ⟨c, hm, fs, h1, h2, h3, h4⟩ := h
  unfold cutStep cutA
  rw [hs_tb ld (by omega)]
  by_cases hb : tb ld i = true
  · rw [if_pos hb]
    exact cut_i1 hi h1 h2 h3 h4
  · rw [if_neg hb]
    have hi0 : 0 < i := by
      rcases Nat.eq_zero_or_pos i with e | e
      · subst e; exact absurd hld hb
      · exact e
    exact cut_i0 hi hi0 h1 h2 h3 h4
theorem cut_all {ld : Int64} {n : Nat} {fl : Ob} (hn : n ≤ 19) (hld : tb ld 0 = true) : CutI n (cut fl (nI n) ld) := by
  unfold cut
  rw [nN_nI (by omega)]
  refine lp_ind (fun i fl => CutI i fl) ?_ (fun i t hi h => cut_i (by omega) hld h)
  refine ⟨0, fun _ => 0, fun _ => 0, ?_, fun j hj => absurd hj (Nat.not_lt_zero j), fun j hj => absurd hj (Nat.not_lt_zero j), ?_⟩
  · simp only [gi_sl, gi_sA, gi_sB, gi_si_s, gi_si_n, gl_si, gl_sA, gl_sB, gl_sl_s, gl_sl_n, gA_si, gA_sl, gA_sB, gA_sA_s, gA_sA_n, gB_si, gB_sl, gB_sA, gB_sB_s, gB_sB_n, Nat.reduceBEq]; rfl
  · exact ⟨Nat.le_refl _, fun h => absurd h (Nat.lt_irrefl _), fun j hj => absurd hj (Nat.not_lt_zero j), fun j hj => absurd hj (Nat.not_lt_zero j), fun j hj => absurd hj (Nat.not_lt_zero _)⟩
/-! ===== Flow: edges ===== -/
def tv (g : Nat) : Int32 := if g = 40 then -1 else nI g
def FI (n c b m E : Nat) (hm fs fr eg fe : Nat → Nat) (fl : Ob) : Prop :=
  (gi fl 0 = nI c ∧ gi fl 1 = nI E ∧ CutF n c hm fs ∧ (∀ j, j < n → gA fl 0 j = nI (hm j)) ∧ (∀ b, b < c → gA fl 1 b = nI (fs b))) ∧
  (∀ e, e < E → gA fl 3 e = nI (fr e) ∧ gA fl 4 e = tv (eg e) ∧ fr e < b ∧ (eg e < c ∨ eg e = 40)) ∧
  (∀ b', b' < b → gA fl 5 b' = nI (fe b') ∧ fe b' ≤ E ∧ ∀ e, e < E → (fe b' ≤ e ↔ b' ≤ fr e)) ∧
  (∀ b', b' < b → ∀ k, tb (gB fl 0 b') k = true ↔ ∃ e, e < E ∧ fr e = b' ∧ eg e = k) ∧
  (∀ e, e + 1 < E → fr e ≤ fr (e + 1) ∧ (fr e = fr (e + 1) → eg e ≠ eg (e + 1))) ∧
  E ≤ m
def FX (n c b m : Nat) (hm fs fe : Nat → Nat) (fl : Ob) : Prop := ∃ (E : Nat) (fr eg : Nat → Nat), FI n c b m E hm fs fr eg fe fl
theorem FX.more {n c b m : Nat} {hm fs fe : Nat → Nat} {fl : Ob} (h : FX n c b m hm fs fe fl) : FX n c b (m + 1) hm fs fe fl := by
  obtain ⟨E, fr, eg, h1, h2, h3, h4, h5, h6⟩ := h
  exact ⟨E, fr, eg, h1, h2, h3, h4, h5, by omega⟩
theorem join_goal {n c b m : Nat} {hm fs fe : Nat → Nat} {fl : Ob} (hn : n ≤ 19) (hb : b < c) (h : FX n c (b + 1) m hm fs fe fl) (x : Int32) : ∃ g, joinG fl x (nI n) = nI g ∧ (g < c ∨ g = 40) := by
  obtain ⟨E, fr, eg, h1, h2, h3, h4, h5, h6⟩ := h
  unfold joinG
  split
  · rename_i hlt
    rcases ix_case x with hx | ⟨i, hi, rfl⟩
    · exact ⟨0, by rw [rd_neg hx]; rfl, Or.inl (by omega)⟩
    · have hin : i < n := (nI_ltI hi (by omega)).mp hlt
      have := h1.2.2.1.2.2.1 i hin
      exact ⟨hm i, by rw [rd_nI (by omega) (by decide)]; exact h1.2.2.2.1 i hin, Or.inl this.1⟩
  · exact ⟨40, rfl, Or.inr rfl⟩
theorem join_x {n c b m : Nat} {hm fs fe : Nat → Nat} {fl : Ob} (hn : n ≤ 19) (hb : b < c) (hm2 : m < 80) (h : FX n c (b + 1) m hm fs fe fl) (x : Int32) : FX n c (b + 1) (m + 1) hm fs fe (join fl (nI b) x (nI n)) := by
  obtain ⟨g, hg, hgc⟩ := join_goal hn hb h x
  have hc : c ≤ 19 := by obtain ⟨E, fr, eg, h1, -⟩ := h; have := h1.2.2.1.1; omega
  unfold join
  rw [hg, hs_tb _ (by omega), rdL_nI (by omega) (by decide)]
  cases hk : tb (gB fl 0 b) g
  · rw [if_neg (by decide)]
    obtain ⟨E, fr, eg, ⟨a1, a2, a3, a4, a5⟩, h2, h3, h4, h5, h6⟩ := h
    have hE : E < 80 := by omega
    have hfr : ∀ e, e < E → va_up fr E b e = fr e := fun e he => va_up_ne _ _ (by omega)
    have heg : ∀ e, e < E → va_up eg E g e = eg e := fun e he => va_up_ne _ _ (by omega)
    have htv : (if nI g = 40 then (-1 : Int32) else nI g) = tv g := by
      unfold tv
      by_cases e : g = 40
      · subst e; rfl
      · rw [if_neg e, if_neg (show ¬ nI g = 40 from fun z => e (nI_inj (b := 40) (by omega) (by decide) z))]
    unfold joinP
    rw [htv, a2]
    refine ⟨E + 1, va_up fr E b, va_up eg E g, ⟨?_, ?_, a3, ?_, ?_⟩, fun e he => ⟨?_, ?_, ?_, ?_⟩, fun b' hb' => ⟨?_, ?_, fun e he => ?_⟩, fun b' hb' k => ?_, fun e he => ?_, by omega⟩
    · simp only [gi_sl, gi_sA, gi_sB, gi_si_s, gi_si_n, gl_si, gl_sA, gl_sB, gl_sl_s, gl_sl_n, gA_si, gA_sl, gA_sB, gA_sA_s, gA_sA_n, gB_si, gB_sl, gB_sA, gB_sB_s, gB_sB_n, Nat.reduceBEq]; exact a1
    · simp only [gi_sl, gi_sA, gi_sB, gi_si_s, gi_si_n, gl_si, gl_sA, gl_sB, gl_sl_s, gl_sl_n, gA_si, gA_sl, gA_sB, gA_sA_s, gA_sA_n, gB_si, gB_sl, gB_sA, gB_sB_s, gB_sB_n, Nat.reduceBEq]; rw [nI_1]
    · simp only [gi_sl, gi_sA, gi_sB, gi_si_s, gi_si_n, gl_si, gl_sA, gl_sB, gl_sl_s, gl_sl_n, gA_si, gA_sl, gA_sB, gA_sA_s, gA_sA_n, gB_si, gB_sl, gB_sA, gB_sB_s, gB_sB_n, Nat.reduceBEq]; exact a4
    · simp only [gi_sl, gi_sA, gi_sB, gi_si_s, gi_si_n, gl_si, gl_sA, gl_sB, gl_sl_s, gl_sl_n, gA_si, gA_sl, gA_sB, gA_sA_s, gA_sA_n, gB_si, gB_sl, gB_sA, gB_sB_s, gB_sB_n, Nat.reduceBEq]; exact a5
    · simp only [gi_sl, gi_sA, gi_sB, gi_si_s, gi_si_n, gl_si, gl_sA, gl_sB, gl_sl_s, gl_sl_n, gA_si, gA_sl, gA_sB, gA_sA_s, gA_sA_n, gB_si, gB_sl, gB_sA, gB_sB_s, gB_sB_n, Nat.reduceBEq]
      rw [wr_nI hE (by decide)]
      exact upd_va (k := E + 1) (fun j hj e => (h2 j (by omega)).1) e he
    · simp only [gi_sl, gi_sA, gi_sB, gi_si_s, gi_si_n, gl_si, gl_sA, gl_sB, gl_sl_s, gl_sl_n, gA_si, gA_sl, gA_sB, gA_sA_s, gA_sA_n, gB_si, gB_sl, gB_sA, gB_sB_s, gB_sB_n, Nat.reduceBEq]
      rw [wr_nI hE (by decide)]
      by_cases q : e = E
      · subst q; rw [upd_s, va_up_self]
      · rw [upd_n _ _ q, heg e (by omega)]; exact (h2 e (by omega)).2.1
    · by_cases q : e = E
      · subst q; rw [va_up_self]; omega
      · rw [hfr e (by omega)]; exact (h2 e (by omega)).2.2.1
    · by_cases q : e = E
      · subst q; rw [va_up_self]; exact hgc
      · rw [heg e (by omega)]; exact (h2 e (by omega)).2.2.2
    · simp only [gi_sl, gi_sA, gi_sB, gi_si_s, gi_si_n, gl_si, gl_sA, gl_sB, gl_sl_s, gl_sl_n, gA_si, gA_sl, gA_sB, gA_sA_s, gA_sA_n, gB_si, gB_sl, gB_sA, gB_sB_s, gB_sB_n, Nat.reduceBEq]; exact (h3 b' hb').1
    · have := (h3 b' hb').2.1; omega
    · have q1 := h3 b' hb'
      by_cases q : e = E
      · subst q
        rw [va_up_self]
        exact ⟨fun _ => by omega, fun _ => q1.2.1⟩
      · rw [hfr e (by omega)]; exact q1.2.2 e (by omega)
    · simp only [gi_sl, gi_sA, gi_sB, gi_si_s, gi_si_n, gl_si, gl_sA, gl_sB, gl_sl_s, gl_sl_n, gA_si, gA_sl, gA_sB, gA_sA_s, gA_sA_n, gB_si, gB_sl, gB_sA, gB_sB_s, gB_sB_n, Nat.reduceBEq]
      rw [rdL_nI (by omega) (by decide), wrL_nI (by omega) (by decide)]
      have h9 := h4 b' hb' k
      by_cases q : b' = b
      · subst q
        rw [updL_s, tb_or, tb_bit (by omega)]
        constructor
        · intro z
          rcases Bool.or_eq_true_iff.mp z with z | z
          · obtain ⟨e, e1, e2, e3⟩ := h9.mp z
            exact ⟨e, by omega, by rw [hfr e e1]; exact e2, by rw [heg e e1]; exact e3⟩
          · exact ⟨E, by omega, va_up_self _ _ _, by rw [va_up_self]; exact (of_decide_eq_true z).symm⟩
        · rintro ⟨e, e1, e2, e3⟩
          by_cases q : e = E
          · subst q
            rw [va_up_self] at e3
            rw [decide_eq_true e3.symm, Bool.or_true]
          · rw [hfr e (by omega)] at e2
            rw [heg e (by omega)] at e3
            rw [h9.mpr ⟨e, by omega, e2, e3⟩, Bool.true_or]
      · rw [updL_n _ _ q, h9]
        constructor
        · rintro ⟨e, e1, e2, e3⟩
          exact ⟨e, by omega, by rw [hfr e e1]; exact e2, by rw [heg e e1]; exact e3⟩
        · rintro ⟨e, e1, e2, e3⟩
          by_cases q2 : e = E
          · subst q2
            rw [va_up_self] at e2
            exact absurd e2.symm q
          · rw [hfr e (by omega)] at e2
            rw [heg e (by omega)] at e3
            exact ⟨e, by omega, e2, e3⟩
    · by_cases q : e + 1 = E
      · have q1 := h2 e (by omega)
        rw [hfr e (by omega), heg e (by omega), q, va_up_self, va_up_self]
        refine ⟨by omega, fun z z2 => ?_⟩
        have := (h4 b (by omega) g).mpr ⟨e, by omega, z, z2⟩
        rw [hk] at this; cases this
      · rw [hfr e (by omega), heg e (by omega), hfr (e + 1) (by omega), heg (e + 1) (by omega)]
        exact h5 e (by omega)
  · rw [if_pos rfl]; exact h.more
theorem leave_x {n c b m : Nat} {hm fs fe : Nat → Nat} {co fl : Ob} (hco : gi co 0 = nI n) (hn : n ≤ 19) (hb : b < c) (hm2 : m + 2 < 80) (h : FX n c (b + 1) m hm fs fe fl) : FX n c (b + 1) (m + 3) hm fs fe (leave co fl (nI b)) := by
  have hA : ∀ e k, FX n c (b + 1) (m + 1) hm fs fe (leaveA co fl (nI b) e k) := fun e k => by
    unfold leaveA
    rw [hco]
    split
    · exact join_x hn hb (by omega) h _
    · split
      · exact join_x hn hb (by omega) h _
      · exact h.more
  have hB : ∀ f e k, FX n c (b + 1) (m + 1) hm fs fe f → FX n c (b + 1) (m + 2) hm fs fe (leaveB co f (nI b) e k) := fun f e k hf => by
    unfold leaveB
    rw [hco]
    split
    · exact join_x hn hb (by omega) hf _
    · exact hf.more
  have hC : ∀ f k, FX n c (b + 1) (m + 2) hm fs fe f → FX n c (b + 1) (m + 3) hm fs fe (leaveC co f (nI b) k) := fun f k hf => by
    unfold leaveC
    rw [hco]
    split
    · exact join_x hn hb (by omega) hf _
    · exact hf.more
  unfold leave
  exact hC _ _ (hB _ _ _ (hA _ _))
theorem part_x {n c b : Nat} {hm fs fe : Nat → Nat} {co fl : Ob} (hco : gi co 0 = nI n) (hn : n ≤ 19) (hb : b < c) (hc : c ≤ 19) (h : FX n c b (3 * b) hm fs fe fl) : ∃ fe2 : Nat → Nat, (∀ b', b' < b → fe2 b' = fe b') ∧ FX n c (b + 1) (3 * (b + 1)) hm fs fe2 (partStep co b fl) := by
  obtain ⟨E, fr, eg, ⟨a1, a2, a3, a4, a5⟩, h2, h3, h4, h5, h6⟩ := h
  refine ⟨va_up fe b E, fun b' hb' => va_up_ne _ _ (by omega), ?_⟩
  unfold partStep
  refine leave_x (m := 3 * b) hco hn hb (by omega) ?_
  rw [a2]
  refine ⟨E, fr, eg, ⟨?_, ?_, a3, ?_, ?_⟩, fun e he => ?_, fun b' hb' => ?_, fun b' hb' k => ?_, h5, by omega⟩
  · simp only [gi_sl, gi_sA, gi_sB, gi_si_s, gi_si_n, gl_si, gl_sA, gl_sB, gl_sl_s, gl_sl_n, gA_si, gA_sl, gA_sB, gA_sA_s, gA_sA_n, gB_si, gB_sl, gB_sA, gB_sB_s, gB_sB_n, Nat.reduceBEq]; exact a1
  · simp only [gi_sl, gi_sA, gi_sB, gi_si_s, gi_si_n, gl_si, gl_sA, gl_sB, gl_sl_s, gl_sl_n, gA_si, gA_sl, gA_sB, gA_sA_s, gA_sA_n, gB_si, gB_sl, gB_sA, gB_sB_s, gB_sB_n, Nat.reduceBEq]; exact a2
  · simp only [gi_sl, gi_sA, gi_sB, gi_si_s, gi_si_n, gl_si, gl_sA, gl_sB, gl_sl_s, gl_sl_n, gA_si, gA_sl, gA_sB, gA_sA_s, gA_sA_n, gB_si, gB_sl, gB_sA, gB_sB_s, gB_sB_n, Nat.reduceBEq]; exact a4
  · simp only [gi_sl, gi_sA, gi_sB, gi_si_s, gi_si_n, gl_si, gl_sA, gl_sB, gl_sl_s, gl_sl_n, gA_si, gA_sl, gA_sB, gA_sA_s, gA_sA_n, gB_si, gB_sl, gB_sA, gB_sB_s, gB_sB_n, Nat.reduceBEq]; exact a5
  · have := h2 e he
    simp only [gi_sl, gi_sA, gi_sB, gi_si_s, gi_si_n, gl_si, gl_sA, gl_sB, gl_sl_s, gl_sl_n, gA_si, gA_sl, gA_sB, gA_sA_s, gA_sA_n, gB_si, gB_sl, gB_sA, gB_sB_s, gB_sB_n, Nat.reduceBEq]
    exact ⟨this.1, this.2.1, by omega, this.2.2.2⟩
  · simp only [gi_sl, gi_sA, gi_sB, gi_si_s, gi_si_n, gl_si, gl_sA, gl_sB, gl_sl_s, gl_sl_n, gA_si, gA_sl, gA_sB, gA_sA_s, gA_sA_n, gB_si, gB_sl, gB_sA, gB_sB_s, gB_sB_n, Nat.reduceBEq]
    rw [wr_nI (by omega) (by decide)]
    refine ⟨upd_va (k := b + 1) (fun j hj e => (h3 j (by omega)).1) b' hb', ?_⟩
    by_cases q : b' = b
    · subst q
      rw [va_up_self]
      refine ⟨Nat.le_refl _, fun e he => ?_⟩
      have := (h2 e he).2.2.1
      omega
    · rw [va_up_ne _ _ q]; exact (h3 b' (by omega)).2
  · simp only [gi_sl, gi_sA, gi_sB, gi_si_s, gi_si_n, gl_si, gl_sA, gl_sB, gl_sl_s, gl_sl_n, gA_si, gA_sl, gA_sB, gA_sA_s, gA_sA_n, gB_si, gB_sl, gB_sA, gB_sB_s, gB_sB_n, Nat.reduceBEq]
    rw [wrL_nI (by omega) (by decide)]
    by_cases q : b' = b
    · subst q
      rw [updL_s, tb_0]
      refine ⟨fun z => by (cases z), ?_⟩
      rintro ⟨e, e1, e2, e3⟩
      have := (h2 e e1).2.2.1
      omega
    · rw [updL_n _ _ q]; exact h4 b' (by omega) k
/-! ===== Flow: what holds of it when it is worked out ===== -/
def FL (n c E : Nat) (hm fs fr eg fe : Nat → Nat) (fl : Ob) : Prop :=
  (gi fl 0 = nI c ∧ gi fl 1 = nI E ∧ CutF n c hm fs ∧ (∀ j, j < n → gA fl 0 j = nI (hm j)) ∧ (∀ b, b < c → gA fl 1 b = nI (fs b))) ∧
  (∀ e, e < E → gA fl 3 e = nI (fr e) ∧ gA fl 4 e = tv (eg e) ∧ fr e < c ∧ (eg e < c ∨ eg e = 40)) ∧
  (∀ b, b ≤ c → gA fl 5 b = nI (fe b) ∧ fe b ≤ E ∧ ∀ e, e < E → (fe b ≤ e ↔ b ≤ fr e)) ∧
  (∀ b, b < c → ∀ k, tb (gB fl 0 b) k = true ↔ ∃ e, e < E ∧ fr e = b ∧ eg e = k) ∧
  (∀ e, e + 1 < E → fr e ≤ fr (e + 1) ∧ (fr e = fr (e + 1) → eg e ≠ eg (e + 1))) ∧
  E ≤ 3 * c ∧ n ≤ 19 ∧
  gl fl 0 = (if 0 < c then spread (gB fl 0) 1 (bitL 40) else 0)
theorem part_ok {n : Nat} {co fl : Ob} (hco : gi co 0 = nI n) (hn : n ≤ 19) : ∃ (c E : Nat) (hm fs fr eg fe : Nat → Nat), FL n c E hm fs fr eg fe (part co fl) := by
  obtain ⟨c, hm, fs, b1, b2, b3, b4⟩ := cut_all (fl := fl) hn (lead_0 co)
  have hc : c ≤ 19 := by have := b4.1; omega
  have key : ∃ fe : Nat → Nat, FX n c c (3 * c) hm fs fe (partL co fl) := by
    unfold partL
    rw [hco, b1, nN_nI (by omega)]
    refine lp_ind (fun b t => ∃ fe : Nat → Nat, FX n c b (3 * b) hm fs fe t) ?_ (fun b t hb h => ?_)
    · refine ⟨fun _ => 0, 0, fun _ => 0, fun _ => 0, ⟨?_, ?_, b4, ?_, ?_⟩, fun e he => absurd he (Nat.not_lt_zero e), fun b hb => absurd hb (Nat.not_lt_zero b), fun b hb => absurd hb (Nat.not_lt_zero b), fun e he => absurd he (Nat.not_lt_zero _), by omega⟩
      · simp only [gi_sl, gi_sA, gi_sB, gi_si_s, gi_si_n, gl_si, gl_sA, gl_sB, gl_sl_s, gl_sl_n, gA_si, gA_sl, gA_sB, gA_sA_s, gA_sA_n, gB_si, gB_sl, gB_sA, gB_sB_s, gB_sB_n, Nat.reduceBEq]; exact b1
      · simp only [gi_sl, gi_sA, gi_sB, gi_si_s, gi_si_n, gl_si, gl_sA, gl_sB, gl_sl_s, gl_sl_n, gA_si, gA_sl, gA_sB, gA_sA_s, gA_sA_n, gB_si, gB_sl, gB_sA, gB_sB_s, gB_sB_n, Nat.reduceBEq]; rfl
      · simp only [gi_sl, gi_sA, gi_sB, gi_si_s, gi_si_n, gl_si, gl_sA, gl_sB, gl_sl_s, gl_sl_n, gA_si, gA_sl, gA_sB, gA_sA_s, gA_sA_n, gB_si, gB_sl, gB_sA, gB_sB_s, gB_sB_n, Nat.reduceBEq]; exact b2
      · simp only [gi_sl, gi_sA, gi_sB, gi_si_s, gi_si_n, gl_si, gl_sA, gl_sB, gl_sl_s, gl_sl_n, gA_si, gA_sl, gA_sB, gA_sA_s, gA_sA_n, gB_si, gB_sl, gB_sA, gB_sB_s, gB_sB_n, Nat.reduceBEq]; exact b3
    · obtain ⟨fe, h⟩ := h
      obtain ⟨fe2, -, h2⟩ := part_x hco hn hb hc h
      exact ⟨fe2, h2⟩
  obtain ⟨fe, E, fr, eg, ⟨a1, a2, a3, a4, a5⟩, h2, h3, h4, h5, h6⟩ := key
  have hif : (if (0 : Int32) < nI c then spread (gB (partL co fl) 0) 1 (bitL 40) else 0) = (if 0 < c then spread (gB (partL co fl) 0) 1 (bitL 40) else 0) := by
    by_cases e : 0 < c
    · rw [if_pos e, if_pos (show (0 : Int32) < nI c from nI_lt (a := 0) e (by omega))]
    · have e0 : c = 0 := by omega
      subst e0
      rfl
  unfold part partE
  rw [a1, a2, hif]
  refine ⟨c, E, hm, fs, fr, eg, va_up fe c E, ⟨?_, ?_, a3, ?_, ?_⟩, fun e he => ?_, fun b hb => ?_, fun b hb => ?_, h5, h6, hn, ?_⟩
  · simp only [gi_sl, gi_sA, gi_sB, gi_si_s, gi_si_n, gl_si, gl_sA, gl_sB, gl_sl_s, gl_sl_n, gA_si, gA_sl, gA_sB, gA_sA_s, gA_sA_n, gB_si, gB_sl, gB_sA, gB_sB_s, gB_sB_n, Nat.reduceBEq]; exact a1
  · simp only [gi_sl, gi_sA, gi_sB, gi_si_s, gi_si_n, gl_si, gl_sA, gl_sB, gl_sl_s, gl_sl_n, gA_si, gA_sl, gA_sB, gA_sA_s, gA_sA_n, gB_si, gB_sl, gB_sA, gB_sB_s, gB_sB_n, Nat.reduceBEq]; exact a2
  · simp only [gi_sl, gi_sA, gi_sB, gi_si_s, gi_si_n, gl_si, gl_sA, gl_sB, gl_sl_s, gl_sl_n, gA_si, gA_sl, gA_sB, gA_sA_s, gA_sA_n, gB_si, gB_sl, gB_sA, gB_sB_s, gB_sB_n, Nat.reduceBEq]; exact a4
  · simp only [gi_sl, gi_sA, gi_sB, gi_si_s, gi_si_n, gl_si, gl_sA, gl_sB, gl_sl_s, gl_sl_n, gA_si, gA_sl, gA_sB, gA_sA_s, gA_sA_n, gB_si, gB_sl, gB_sA, gB_sB_s, gB_sB_n, Nat.reduceBEq]; exact a5
  · simp only [gi_sl, gi_sA, gi_sB, gi_si_s, gi_si_n, gl_si, gl_sA, gl_sB, gl_sl_s, gl_sl_n, gA_si, gA_sl, gA_sB, gA_sA_s, gA_sA_n, gB_si, gB_sl, gB_sA, gB_sB_s, gB_sB_n, Nat.reduceBEq]; exact h2 e he
  · simp only [gi_sl, gi_sA, gi_sB, gi_si_s, gi_si_n, gl_si, gl_sA, gl_sB, gl_sl_s, gl_sl_n, gA_si, gA_sl, gA_sB, gA_sA_s, gA_sA_n, gB_si, gB_sl, gB_sA, gB_sB_s, gB_sB_n, Nat.reduceBEq]
    rw [wr_nI (by omega) (by decide)]
    refine ⟨upd_va (k := c + 1) (fun j hj e => (h3 j (by omega)).1) b (by omega), ?_⟩
    by_cases q : b = c
    · subst q
      rw [va_up_self]
      refine ⟨Nat.le_refl _, fun e he => ?_⟩
      have := (h2 e he).2.2.1
      omega
    · rw [va_up_ne _ _ q]; exact (h3 b (by omega)).2
  · simp only [gi_sl, gi_sA, gi_sB, gi_si_s, gi_si_n, gl_si, gl_sA, gl_sB, gl_sl_s, gl_sl_n, gA_si, gA_sl, gA_sB, gA_sA_s, gA_sA_n, gB_si, gB_sl, gB_sA, gB_sB_s, gB_sB_n, Nat.reduceBEq]; exact h4 b hb
  · simp only [gi_sl, gi_sA, gi_sB, gi_si_s, gi_si_n, gl_si, gl_sA, gl_sB, gl_sl_s, gl_sl_n, gA_si, gA_sl, gA_sB, gA_sA_s, gA_sA_n, gB_si, gB_sl, gB_sA, gB_sB_s, gB_sB_n, Nat.reduceBEq]
