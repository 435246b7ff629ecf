/-! ===== what is reached; who is ahead of whom ===== -/
theorem tv_neg {g : Nat} (h : g ≤ 40) : tv g < 0 ↔ g = 40 := by
  unfold tv
  by_cases e : g = 40
  · rw [if_pos e]; exact ⟨fun _ => e, fun _ => by decide⟩
  · rw [if_neg e]
    exact ⟨fun z => absurd z (nI_pos (by omega)), fun z => absurd z e⟩
theorem tv_nI {g : Nat} (h : g ≠ 40) : tv g = nI g := if_neg h
theorem ct_ext {p : Nat → Bool} {m n : Nat} (h : m ≤ n) (hp : ∀ k, m ≤ k → k < n → p k = false) : fb_ct p n = fb_ct p m := by
  obtain ⟨d, rfl⟩ : ∃ d, n = m + d := ⟨n - m, by omega⟩
  rw [fb_ct_split, fb_ct_zero.mpr (fun k hk => hp (m + k) (by omega) (by omega)), Nat.add_zero]
theorem lp_ct (p : Nat → Bool) {f : Nat → Int32 → Int32} {n a : Nat} (h : ∀ i m, i < n → f i (nI m) = nI (m + if p i = true then 1 else 0)) : lp f n (nI a) = nI (a + fb_ct p n) := by
  refine lp_ind (fun i t => t = nI (a + fb_ct p i)) rfl (fun i t hi ht => ?_)
  rw [ht, h i _ hi, fb_ct_succ, Nat.add_assoc]
section FLS
variable {n c E : Nat} {hm fs fr eg fe : Nat → Nat} {fl : Ob}
theorem FL.bc (h : FL n c E hm fs fr eg fe fl) : gi fl 0 = nI c := h.1.1
theorem FL.ec (h : FL n c E hm fs fr eg fe fl) : gi fl 1 = nI E := h.1.2.1
theorem FL.cut (h : FL n c E hm fs fr eg fe fl) : CutF n c hm fs := h.1.2.2.1
theorem FL.n19 (h : FL n c E hm fs fr eg fe fl) : n ≤ 19 := h.2.2.2.2.2.2.1
theorem FL.c19 (h : FL n c E hm fs fr eg fe fl) : c ≤ 19 := by have := h.cut.1; have := h.n19; omega
theorem FL.e57 (h : FL n c E hm fs fr eg fe fl) : E ≤ 57 := by have := h.2.2.2.2.2.1; have := h.c19; omega
theorem FL.edge (h : FL n c E hm fs fr eg fe fl) {e : Nat} (he : e < E) : gA fl 3 e = nI (fr e) ∧ gA fl 4 e = tv (eg e) ∧ fr e < c ∧ (eg e < c ∨ eg e = 40) := h.2.1 e he
theorem FL.rdf (h : FL n c E hm fs fr eg fe fl) {e : Nat} (he : e < E) : rd (gA fl 3) 80 (nI e) = nI (fr e) := by
  have := h.e57
  rw [rd_nI (by omega) (by decide)]; exact (h.edge he).1
theorem FL.rdt (h : FL n c E hm fs fr eg fe fl) {e : Nat} (he : e < E) : rd (gA fl 4) 80 (nI e) = tv (eg e) := by
  have := h.e57
  rw [rd_nI (by omega) (by decide)]; exact (h.edge he).2.1
theorem FL.g40 (h : FL n c E hm fs fr eg fe fl) {e : Nat} (he : e < E) : eg e ≤ 40 := by
  have := h.c19
  have := (h.edge he).2.2.2
  omega
theorem FL.row (h : FL n c E hm fs fr eg fe fl) {b : Nat} (hb : b < c) (k : Nat) : tb (gB fl 0 b) k = true ↔ ∃ e, e < E ∧ fr e = b ∧ eg e = k := h.2.2.2.1 b hb k
theorem FL.rowc (h : FL n c E hm fs fr eg fe fl) {b k : Nat} (hb : b < c) (hk : tb (gB fl 0 b) k = true) : k < c ∨ k = 40 := by
  obtain ⟨e, he, -, rfl⟩ := (h.row hb k).mp hk
  exact (h.edge he).2.2.2
/-- what one comes to from 0 but never by y -/
theorem FL.spr (h : FL n c E hm fs fr eg fe fl) (h0 : 0 < c) (y : Int64) (P : Nat → Prop) (p0 : tb y 0 = false → P 0) (ps : ∀ a k, P a → a < c → tb (gB fl 0 a) k = true → tb y k = false → P k) :
    (tb y 0 = false → tb (spread (gB fl 0) 1 y) 0 = true) ∧ (∀ k, tb (spread (gB fl 0) 1 y) k = true → tb y k = false ∧ P k ∧ (k < c ∨ k = 40)) ∧ (∀ a k, tb (spread (gB fl 0) 1 y) a = true → a < c → tb (gB fl 0 a) k = true → tb y k = false → tb (spread (gB fl 0) 1 y) k = true) := by
  have hc := h.c19
  have key := spread_facts (gB fl 0) 1 y (fun k hk => by rw [tb_1] at hk; have := of_decide_eq_true hk; omega) (fun k => P k ∧ (k < c ∨ k = 40))
    (fun b k hb h40 hk => by
      have hbc : b < c := by have := hb.2; omega
      have := h.rowc hbc hk
      omega)
    (fun k hk hy => by
      rw [tb_1] at hk
      have := of_decide_eq_true hk
      subst this
      exact ⟨p0 hy, Or.inl h0⟩)
    (fun a k ha h40 hk hy => by
      have hac : a < c := by have := ha.2; omega
      exact ⟨ps a k ha.1 hac hk hy, h.rowc hac hk⟩)
  exact ⟨fun hy => key.1 0 (by rw [tb_1]; rfl) hy, fun k hk => ⟨(key.2.1 k hk).1, (key.2.1 k hk).2.1.1, (key.2.1 k hk).2.1.2⟩, fun a k ha hac => key.2.2 a k ha (by omega)⟩
theorem FL.rch (h : FL n c E hm fs fr eg fe fl) : gl fl 0 = (if 0 < c then spread (gB fl 0) 1 (bitL 40) else 0) := h.2.2.2.2.2.2.2
theorem b40 (k : Nat) : tb (bitL 40) k = decide (k = 40) := tb_bit (n := 40) (by decide) k
theorem FL.r_lt (h : FL n c E hm fs fr eg fe fl) {k : Nat} (hk : tb (gl fl 0) k = true) : k < c := by
  rw [h.rch] at hk
  by_cases e : 0 < c
  · rw [if_pos e] at hk
    have h9 := (h.spr e (bitL 40) (fun _ => True) (fun _ => trivial) (fun _ _ _ _ _ _ => trivial)).2.1 k hk
    rw [b40] at h9
    have := of_decide_eq_false h9.1
    have := h9.2.2
    omega
  · rw [if_neg e, tb_0] at hk; cases hk
theorem FL.r_0 (h : FL n c E hm fs fr eg fe fl) (h0 : 0 < c) : tb (gl fl 0) 0 = true := by
  rw [h.rch, if_pos h0]
  exact (h.spr h0 (bitL 40) (fun _ => True) (fun _ => trivial) (fun _ _ _ _ _ _ => trivial)).1 (by rw [b40]; rfl)
theorem FL.r_go (h : FL n c E hm fs fr eg fe fl) {a k : Nat} (ha : tb (gl fl 0) a = true) (hk : tb (gB fl 0 a) k = true) (h40 : k ≠ 40) : tb (gl fl 0) k = true := by
  have hac := h.r_lt ha
  have h0 : 0 < c := by omega
  rw [h.rch, if_pos h0] at ha ⊢
  exact (h.spr h0 (bitL 40) (fun _ => True) (fun _ => trivial) (fun _ _ _ _ _ _ => trivial)).2.2 a k ha hac hk (by rw [b40]; exact decide_eq_false h40)
theorem FL.r_least (h : FL n c E hm fs fr eg fe fl) (P : Nat → Prop) (p0 : P 0) (ps : ∀ a k, P a → a < c → tb (gB fl 0 a) k = true → k ≠ 40 → P k) {k : Nat} (hk : tb (gl fl 0) k = true) : P k := by
  have hkc := h.r_lt hk
  have h0 : 0 < c := by omega
  rw [h.rch, if_pos h0] at hk
  exact ((h.spr h0 (bitL 40) P (fun _ => p0) (fun a k ha hac hk hy => ps a k ha hac hk (by rw [b40] at hy; exact of_decide_eq_false hy))).2.1 k hk).2.1
/-- an edge of a block that is reached -/
theorem FL.r_edge (h : FL n c E hm fs fr eg fe fl) {e : Nat} (he : e < E) (hr : tb (gl fl 0) (fr e) = true) (h40 : eg e ≠ 40) : tb (gl fl 0) (eg e) = true :=
  h.r_go hr ((h.row (h.edge he).2.2.1 _).mpr ⟨e, he, rfl, rfl⟩) h40
/-- the blocks that one comes to but never by b -/
def Sp (fl : Ob) (b : Nat) : Int64 := spread (gB fl 0) 1 (bitL (nI b))
theorem FL.s_0 (h : FL n c E hm fs fr eg fe fl) (h0 : 0 < c) {b : Nat} (hb : b < 40) (hb0 : b ≠ 0) : tb (Sp fl b) 0 = true :=
  (h.spr h0 (bitL (nI b)) (fun _ => True) (fun _ => trivial) (fun _ _ _ _ _ _ => trivial)).1 (by rw [tb_bit (by omega)]; exact decide_eq_false (fun z => hb0 z.symm))
theorem FL.s_no (h : FL n c E hm fs fr eg fe fl) (h0 : 0 < c) {b : Nat} (hb : b < 40) : tb (Sp fl b) b = false := by
  cases hk : tb (Sp fl b) b
  · rfl
  · have := ((h.spr h0 (bitL (nI b)) (fun _ => True) (fun _ => trivial) (fun _ _ _ _ _ _ => trivial)).2.1 b hk).1
    rw [tb_bit (by omega)] at this
    simp at this
theorem FL.s_z (h : FL n c E hm fs fr eg fe fl) (h0 : 0 < c) (k : Nat) : tb (Sp fl 0) k = false := by
  cases hk : tb (Sp fl 0) k
  · rfl
  · exact (((h.spr h0 (bitL (nI 0)) (fun _ => False) (fun z => by rw [tb_bit (by decide)] at z; simp at z) (fun _ _ z _ _ _ => z)).2.1 k hk).2.1).elim
theorem FL.s_go (h : FL n c E hm fs fr eg fe fl) (h0 : 0 < c) {b a k : Nat} (hb : b < 40) (ha : tb (Sp fl b) a = true) (hac : a < c) (hk : tb (gB fl 0 a) k = true) (hkb : k ≠ b) : tb (Sp fl b) k = true :=
  (h.spr h0 (bitL (nI b)) (fun _ => True) (fun _ => trivial) (fun _ _ _ _ _ _ => trivial)).2.2 a k ha hac hk (by rw [tb_bit (by omega)]; exact decide_eq_false hkb)
theorem ruled_tb (fl : Ob) (a b : Nat) : tb (ruledBy fl (nI a)) b = (tb (gl fl 0) b && !tb (Sp fl a) b) := tb_sub _ _ _
/-- two different blocks don't dominate each other -/
theorem FL.anti (h : FL n c E hm fs fr eg fe fl) {a b : Nat} (ha : a < 40) (hb : b < 40) (hab : a ≠ b) (h1 : tb (ruledBy fl (nI a)) b = true) (h2 : tb (ruledBy fl (nI b)) a = true) : False := by
  rw [ruled_tb] at h1 h2
  have r1 : tb (gl fl 0) b = true := by
    cases q : tb (gl fl 0) b
    · rw [q] at h1; cases h1
    · rfl
  have r2 : tb (gl fl 0) a = true := by
    cases q : tb (gl fl 0) a
    · rw [q] at h2; cases h2
    · rfl
  rw [r1] at h1
  rw [r2] at h2
  have s1 : tb (Sp fl a) b = false := by simpa using h1
  have s2 : tb (Sp fl b) a = false := by simpa using h2
  have h0 : 0 < c := by have := h.r_lt r1; omega
  have a0 : a ≠ 0 := by
    intro z; subst z
    rw [h.s_0 h0 hb (fun z => hab z.symm)] at s2; cases s2
  have b0 : b ≠ 0 := by
    intro z; subst z
    rw [h.s_0 h0 ha hab] at s1; cases s1
  have key := h.r_least (fun k => tb (Sp fl a) k = true ∧ tb (Sp fl b) k = true) ⟨h.s_0 h0 ha a0, h.s_0 h0 hb b0⟩ (fun x k hx hxc hk h40 => by
    have ka : k ≠ a := by
      intro z; subst z
      rw [h.s_go h0 hb hx.2 hxc hk hab] at s2; cases s2
    have kb : k ≠ b := by
      intro z; subst z
      rw [h.s_go h0 ha hx.1 hxc hk (fun z => hab z.symm)] at s1; cases s1
    exact ⟨h.s_go h0 ha hx.1 hxc hk ka, h.s_go h0 hb hx.2 hxc hk kb⟩) r1
  rw [key.1] at s1; cases s1
/-! ===== Ranks: what holds when they are worked out ===== -/
def RK (c E : Nat) (fr eg : Nat → Nat) (fl ra : Ob) : Prop :=
  (∀ b, b < 40 → gB ra 0 b = if tb (gl fl 0) b = true then ruledBy fl (nI b) else 0) ∧
  (∀ h, h < 40 → ∀ k, tb (gB ra 1 h) k = true → tb (gl fl 0) k = true) ∧
  (∀ h, h < 40 → gB ra 1 h ≠ 0 → tb (gB ra 1 h) h = true) ∧
  gi ra 0 = nI (fb_ct (fun h => decide (gB ra 1 h ≠ 0)) c) ∧
  (∀ h, c ≤ h → h < 40 → gB ra 1 h = 0) ∧
  (∀ e, e < E → eg e < c → tb (gl fl 0) (fr e) = true → tb (gB ra 0 (eg e)) (fr e) = true → gB ra 1 (eg e) ≠ 0)
def RA (i : Nat) (fl ra : Ob) : Prop := ∀ b, b < i → (gB ra 0 b = if tb (gl fl 0) b = true then ruledBy fl (nI b) else 0) ∧ gB ra 1 b = 0 ∧ gB ra 2 b = 0
theorem rankA_ok (fl ra : Ob) : RA 40 fl (lp (rankA fl) 40 ra) := by
  refine lp_ind (fun i t => RA i fl t) (fun b hb => absurd hb (Nat.not_lt_zero b)) (fun i t hi h b hb => ?_)
  unfold rankA
  simp only [gi_sl, gi_sA, gi_sB, gi_si_s, gi_si_n, gl_si, gl_sA, gl_sB, gl_sl_s, gl_sl_n, gA_si, gA_sl, gA_sB, gA_sA_s, gA_sA_n, gB_si, gB_sl, gB_sA, gB_sB_s, gB_sB_n, Nat.reduceBEq]
  rw [wrL_nI hi (by decide), wrL_nI hi (by decide), wrL_nI hi (by decide), hs_tb _ (by omega)]
  by_cases e : b = i
  · subst e
    rw [updL_s, updL_s, updL_s]
    exact ⟨rfl, rfl, rfl⟩
  · rw [updL_n _ _ e, updL_n _ _ e, updL_n _ _ e]
    exact h b (by omega)
theorem sortA_ok {fl ra : Ob} (h : RA 40 fl ra) : RA 40 fl (lp sortA 40 ra) := by
  refine lp_ind (fun _ t => RA 40 fl t) h (fun i t hi h b hb => ?_)
  unfold sortA
  simp only [gi_sl, gi_sA, gi_sB, gi_si_s, gi_si_n, gl_si, gl_sA, gl_sB, gl_sl_s, gl_sl_n, gA_si, gA_sl, gA_sB, gA_sA_s, gA_sA_n, gB_si, gB_sl, gB_sA, gB_sB_s, gB_sB_n, Nat.reduceBEq]
  exact h b hb
def RB (i c : Nat) (fr eg : Nat → Nat) (fl ra : Ob) : Prop :=
  (∀ b, b < 40 → (gB ra 0 b = if tb (gl fl 0) b = true then ruledBy fl (nI b) else 0) ∧ gB ra 1 b = 0) ∧
  (∀ t, t < 40 → ∀ k, tb (gB ra 2 t) k = true → tb (gl fl 0) k = true) ∧
  (∀ e, e < i → eg e < c → tb (gl fl 0) (fr e) = true → tb (gB ra 2 (eg e)) (fr e) = true)
theorem sortD_ok {i c : Nat} {fr eg : Nat → Nat} {fl ra : Ob} (hc : c ≤ 19) (h : RB i c fr eg fl ra) (hg : eg i < c) (hf : fr i < c) (hr : tb (gl fl 0) (fr i) = true) : RB (i + 1) c fr eg fl (sortD ra (nI (fr i)) (nI (eg i))) := by
  have h2 : RB (i + 1) c fr eg fl (sortC ra (nI (fr i)) (nI (eg i))) := by
    obtain ⟨h1, h2, h3⟩ := h
    unfold sortC
    rw [wrL_nI (by omega) (by decide), rdL_nI (by omega) (by decide)]
    refine ⟨fun b hb => ?_, fun t ht k hk => ?_, fun e he hge hre => ?_⟩
    · simp only [gi_sl, gi_sA, gi_sB, gi_si_s, gi_si_n, gl_si, gl_sA, gl_sB, gl_sl_s, gl_sl_n, gA_si, gA_sl, gA_sB, gA_sA_s, gA_sA_n, gB_si, gB_sl, gB_sA, gB_sB_s, gB_sB_n, Nat.reduceBEq]; exact h1 b hb
    · simp only [gi_sl, gi_sA, gi_sB, gi_si_s, gi_si_n, gl_si, gl_sA, gl_sB, gl_sl_s, gl_sl_n, gA_si, gA_sl, gA_sB, gA_sA_s, gA_sA_n, gB_si, gB_sl, gB_sA, gB_sB_s, gB_sB_n, Nat.reduceBEq] at hk
      by_cases e : t = eg i
      · subst e
        rw [updL_s, tb_or, tb_bit (by omega)] at hk
        rcases Bool.or_eq_true_iff.mp hk with z | z
        · exact h2 _ ht k z
        · rw [of_decide_eq_true z]; exact hr
      · rw [updL_n _ _ e] at hk; exact h2 t ht k hk
    · simp only [gi_sl, gi_sA, gi_sB, gi_si_s, gi_si_n, gl_si, gl_sA, gl_sB, gl_sl_s, gl_sl_n, gA_si, gA_sl, gA_sB, gA_sA_s, gA_sA_n, gB_si, gB_sl, gB_sA, gB_sB_s, gB_sB_n, Nat.reduceBEq]
      by_cases q : eg e = eg i
      · rw [q, updL_s, tb_or, tb_bit (by omega)]
        by_cases q2 : fr e = fr i
        · rw [decide_eq_true q2, Bool.or_true]
        · have hei : e < i := by
            rcases Nat.lt_or_ge e i with z | z
            · exact z
            · have : e = i := by omega
              subst this; exact absurd rfl q2
          have := h3 e hei hge hre
          rw [q] at this
          rw [this, Bool.true_or]
      · rw [updL_n _ _ q]
        have hei : e < i := by
          rcases Nat.lt_or_ge e i with z | z
          · exact z
          · have : e = i := by omega
            subst this; exact absurd rfl q
        exact h3 e hei hge hre
  unfold sortD
  split
  · exact h2
  · obtain ⟨h1, h2, h3⟩ := h2
    refine ⟨fun b hb => ?_, fun t ht k hk => ?_, fun e he hge hre => ?_⟩
    · simp only [gi_sl, gi_sA, gi_sB, gi_si_s, gi_si_n, gl_si, gl_sA, gl_sB, gl_sl_s, gl_sl_n, gA_si, gA_sl, gA_sB, gA_sA_s, gA_sA_n, gB_si, gB_sl, gB_sA, gB_sB_s, gB_sB_n, Nat.reduceBEq]; exact h1 b hb
    · simp only [gi_sl, gi_sA, gi_sB, gi_si_s, gi_si_n, gl_si, gl_sA, gl_sB, gl_sl_s, gl_sl_n, gA_si, gA_sl, gA_sB, gA_sA_s, gA_sA_n, gB_si, gB_sl, gB_sA, gB_sB_s, gB_sB_n, Nat.reduceBEq] at hk; exact h2 t ht k hk
    · simp only [gi_sl, gi_sA, gi_sB, gi_si_s, gi_si_n, gl_si, gl_sA, gl_sB, gl_sl_s, gl_sl_n, gA_si, gA_sl, gA_sB, gA_sA_s, gA_sA_n, gB_si, gB_sl, gB_sA, gB_sB_s, gB_sB_n, Nat.reduceBEq]; exact h3 e he hge hre
theorem sortB_ok (h : FL n c E hm fs fr eg fe fl) {ra : Ob} (hr : RA 40 fl ra) : RB E c fr eg fl (lp (sortB fl) E ra) := by
  have hc := h.c19
  refine lp_ind (fun i t => RB i c fr eg fl t) ?_ (fun i t hi hb => ?_)
  · exact ⟨fun b hb => ⟨(hr b hb).1, (hr b hb).2.1⟩, fun t ht k hk => (by rw [(hr t ht).2.2, tb_0] at hk; cases hk), fun e he => absurd he (Nat.not_lt_zero e)⟩
  · have he := h.edge hi
    have h40 := h.g40 hi
    unfold sortB
    rw [h.rdf hi, h.rdt hi]
    by_cases q : eg i = 40
    · rw [if_pos ((tv_neg h40).mpr q)]
      refine ⟨hb.1, hb.2.1, fun e hei hge hre => ?_⟩
      have : e ≠ i := fun z => by subst z; omega
      exact hb.2.2 e (by omega) hge hre
    · rw [if_neg (fun z => q ((tv_neg h40).mp z)), tv_nI q, hs_tb _ (by omega)]
      cases hrr : tb (gl fl 0) (fr i)
      · rw [if_neg (by decide)]
        refine ⟨hb.1, hb.2.1, fun e hei hge hre => ?_⟩
        have : e ≠ i := fun z => by subst z; rw [hrr] at hre; cases hre
        exact hb.2.2 e (by omega) hge hre
      · rw [if_pos rfl]
        exact sortD_ok hc hb (by omega) he.2.2.1 hrr
def RC (i c E : Nat) (fr eg : Nat → Nat) (fl ra : Ob) : Prop :=
  (∀ b, b < 40 → gB ra 0 b = if tb (gl fl 0) b = true then ruledBy fl (nI b) else 0) ∧
  (∀ t, t < 40 → ∀ k, tb (gB ra 2 t) k = true → tb (gl fl 0) k = true) ∧
  (∀ e, e < E → eg e < c → tb (gl fl 0) (fr e) = true → tb (gB ra 2 (eg e)) (fr e) = true) ∧
  (∀ h, h < 40 → ∀ k, tb (gB ra 1 h) k = true → tb (gl fl 0) k = true) ∧
  (∀ h, h < 40 → gB ra 1 h ≠ 0 → tb (gB ra 1 h) h = true) ∧
  gi ra 0 = nI (fb_ct (fun h => decide (gB ra 1 h ≠ 0)) i) ∧
  (∀ h, i ≤ h → h < 40 → gB ra 1 h = 0) ∧
  (∀ h, h < i → (gB ra 2 h &&& gB ra 0 h) ≠ 0 → gB ra 1 h ≠ 0)
theorem closeLoop_ok {i c E : Nat} {fr eg : Nat → Nat} {fl ra : Ob} (hi : i < 40) (hrc : ∀ k, tb (gl fl 0) k = true → k < 41) (h : RC i c E fr eg fl ra) : RC (i + 1) c E fr eg fl (closeLoop ra (nI i)) := by
  obtain ⟨h1, h2, h3, h4, h5, h6, h7, h8⟩ := h
  unfold closeLoop clEnds
  rw [rdL_nI hi (by decide), rdL_nI hi (by decide)]
  by_cases e : (gB ra 2 i &&& gB ra 0 i) = 0
  · rw [if_pos e]
    refine ⟨h1, h2, h3, h4, h5, ?_, fun k hk h40 => h7 k (by omega) h40, fun k hk => ?_⟩
    · rw [h6, fb_ct_succ, if_neg (by simp [h7 i (Nat.le_refl i) hi])]; rfl
    · by_cases q : k = i
      · subst q; exact fun z => absurd e z
      · exact h8 k (by omega)
  · rw [if_neg e]
    obtain ⟨x, hx64, hx⟩ := tb_some e
    rw [tb_and] at hx
    have hri : tb (gl fl 0) i = true := by
      have : tb (gB ra 0 i) x = true := by
        cases q : tb (gB ra 0 i) x
        · rw [q, Bool.and_false] at hx; cases hx
        · rfl
      rw [h1 i hi] at this
      by_cases q : tb (gl fl 0) i = true
      · exact q
      · rw [if_neg q, tb_0] at this; cases this
    have hend : ∀ k, tb (gB ra 2 i &&& gB ra 0 i) k = true → tb (gl fl 0) k = true := fun k hk => by
      rw [tb_and] at hk
      cases q : tb (gB ra 2 i) k
      · rw [q] at hk; cases hk
      · exact h2 i hi k q
    have key := (spread_facts (gB ra 2) (gB ra 2 i &&& gB ra 0 i) (bitL (nI i)) (fun k hk => hrc k (hend k hk)) (fun k => tb (gl fl 0) k = true) (fun b k _ hb hk => hrc k (h2 b hb k hk)) (fun k hk _ => hend k hk) (fun a k _ ha hk _ => h2 a ha k hk)).2.1
    rw [wrL_nI hi (by decide)]
    have hb : ∀ k, tb (bitL (nI i) ||| spread (gB ra 2) (gB ra 2 i &&& gB ra 0 i) (bitL (nI i))) k = true → tb (gl fl 0) k = true := fun k hk => by
      rw [tb_or, tb_bit (by omega)] at hk
      rcases Bool.or_eq_true_iff.mp hk with z | z
      · rw [of_decide_eq_true z]; exact hri
      · exact (key k z).2.1
    have hbi : tb (bitL (nI i) ||| spread (gB ra 2) (gB ra 2 i &&& gB ra 0 i) (bitL (nI i))) i = true := by
      rw [tb_or, tb_bit (by omega), decide_eq_true rfl, Bool.true_or]
    generalize bitL (nI i) ||| spread (gB ra 2) (gB ra 2 i &&& gB ra 0 i) (bitL (nI i)) = L at hb hbi
    refine ⟨?_, ?_, ?_, fun k h40 z hz => ?_, fun k h40 hz => ?_, ?_, fun k hk h40 => ?_, fun k hk hz => ?_⟩
    · simp only [gi_sl, gi_sA, gi_sB, gi_si_s, gi_si_n, gl_si, gl_sA, gl_sB, gl_sl_s, gl_sl_n, gA_si, gA_sl, gA_sB, gA_sA_s, gA_sA_n, gB_si, gB_sl, gB_sA, gB_sB_s, gB_sB_n, Nat.reduceBEq]; exact h1
    · simp only [gi_sl, gi_sA, gi_sB, gi_si_s, gi_si_n, gl_si, gl_sA, gl_sB, gl_sl_s, gl_sl_n, gA_si, gA_sl, gA_sB, gA_sA_s, gA_sA_n, gB_si, gB_sl, gB_sA, gB_sB_s, gB_sB_n, Nat.reduceBEq]; exact h2
    · simp only [gi_sl, gi_sA, gi_sB, gi_si_s, gi_si_n, gl_si, gl_sA, gl_sB, gl_sl_s, gl_sl_n, gA_si, gA_sl, gA_sB, gA_sA_s, gA_sA_n, gB_si, gB_sl, gB_sA, gB_sB_s, gB_sB_n, Nat.reduceBEq]; exact h3
    · simp only [gi_sl, gi_sA, gi_sB, gi_si_s, gi_si_n, gl_si, gl_sA, gl_sB, gl_sl_s, gl_sl_n, gA_si, gA_sl, gA_sB, gA_sA_s, gA_sA_n, gB_si, gB_sl, gB_sA, gB_sB_s, gB_sB_n, Nat.reduceBEq] at hz
      by_cases q : k = i
      · subst q; rw [updL_s] at hz; exact hb z hz
      · rw [updL_n _ _ q] at hz; exact h4 k h40 z hz
    · simp only [gi_sl, gi_sA, gi_sB, gi_si_s, gi_si_n, gl_si, gl_sA, gl_sB, gl_sl_s, gl_sl_n, gA_si, gA_sl, gA_sB, gA_sA_s, gA_sA_n, gB_si, gB_sl, gB_sA, gB_sB_s, gB_sB_n, Nat.reduceBEq] at hz ⊢
      by_cases q : k = i
      · subst q; rw [updL_s]; exact hbi
      · rw [updL_n _ _ q] at hz ⊢; exact h5 k h40 hz
    · simp only [gi_sl, gi_sA, gi_sB, gi_si_s, gi_si_n, gl_si, gl_sA, gl_sB, gl_sl_s, gl_sl_n, gA_si, gA_sl, gA_sB, gA_sA_s, gA_sA_n, gB_si, gB_sl, gB_sA, gB_sB_s, gB_sB_n, Nat.reduceBEq]
      rw [h6, nI_1, fb_ct_succ, updL_s, if_pos (decide_eq_true (tb_ne hbi))]
      congr 2
      exact fb_ct_cong fun k hk => by rw [updL_n _ _ (by omega)]
    · simp only [gi_sl, gi_sA, gi_sB, gi_si_s, gi_si_n, gl_si, gl_sA, gl_sB, gl_sl_s, gl_sl_n, gA_si, gA_sl, gA_sB, gA_sA_s, gA_sA_n, gB_si, gB_sl, gB_sA, gB_sB_s, gB_sB_n, Nat.reduceBEq]
      rw [updL_n _ _ (by omega)]; exact h7 k (by omega) h40
    · simp only [gi_sl, gi_sA, gi_sB, gi_si_s, gi_si_n, gl_si, gl_sA, gl_sB, gl_sl_s, gl_sl_n, gA_si, gA_sl, gA_sB, gA_sA_s, gA_sA_n, gB_si, gB_sl, gB_sA, gB_sB_s, gB_sB_n, Nat.reduceBEq] at hz ⊢
      by_cases q : k = i
      · subst q; rw [updL_s]; exact tb_ne hbi
      · rw [updL_n _ _ q]; exact h8 k (by omega) hz
theorem rank_ok (h : FL n c E hm fs fr eg fe fl) (ra : Ob) : RK c E fr eg fl (rank fl ra) := by
  have hc := h.c19
  have he := h.e57
  have hB := sortB_ok h (sortA_ok (rankA_ok fl ra))
  have key : RC c c E fr eg fl (rank fl ra) := by
    unfold rank sortEdges
    rw [h.bc, h.ec, nN_nI (by omega), nN_nI (by omega)]
    refine lp_ind (fun i t => RC i c E fr eg fl t) ?_ (fun i t hi ht => ?_)
    · refine ⟨?_, ?_, ?_, ?_, ?_, ?_, ?_, fun k hk => absurd hk (Nat.not_lt_zero k)⟩
      · simp only [gi_sl, gi_sA, gi_sB, gi_si_s, gi_si_n, gl_si, gl_sA, gl_sB, gl_sl_s, gl_sl_n, gA_si, gA_sl, gA_sB, gA_sA_s, gA_sA_n, gB_si, gB_sl, gB_sA, gB_sB_s, gB_sB_n, Nat.reduceBEq]; exact fun b hb => (hB.1 b hb).1
      · simp only [gi_sl, gi_sA, gi_sB, gi_si_s, gi_si_n, gl_si, gl_sA, gl_sB, gl_sl_s, gl_sl_n, gA_si, gA_sl, gA_sB, gA_sA_s, gA_sA_n, gB_si, gB_sl, gB_sA, gB_sB_s, gB_sB_n, Nat.reduceBEq]; exact hB.2.1
      · simp only [gi_sl, gi_sA, gi_sB, gi_si_s, gi_si_n, gl_si, gl_sA, gl_sB, gl_sl_s, gl_sl_n, gA_si, gA_sl, gA_sB, gA_sA_s, gA_sA_n, gB_si, gB_sl, gB_sA, gB_sB_s, gB_sB_n, Nat.reduceBEq]; exact hB.2.2
      · simp only [gi_sl, gi_sA, gi_sB, gi_si_s, gi_si_n, gl_si, gl_sA, gl_sB, gl_sl_s, gl_sl_n, gA_si, gA_sl, gA_sB, gA_sA_s, gA_sA_n, gB_si, gB_sl, gB_sA, gB_sB_s, gB_sB_n, Nat.reduceBEq]; exact fun k hk z hz => by rw [(hB.1 k hk).2, tb_0] at hz; cases hz
      · simp only [gi_sl, gi_sA, gi_sB, gi_si_s, gi_si_n, gl_si, gl_sA, gl_sB, gl_sl_s, gl_sl_n, gA_si, gA_sl, gA_sB, gA_sA_s, gA_sA_n, gB_si, gB_sl, gB_sA, gB_sB_s, gB_sB_n, Nat.reduceBEq]; exact fun k hk hz => absurd (hB.1 k hk).2 hz
      · simp only [gi_sl, gi_sA, gi_sB, gi_si_s, gi_si_n, gl_si, gl_sA, gl_sB, gl_sl_s, gl_sl_n, gA_si, gA_sl, gA_sB, gA_sA_s, gA_sA_n, gB_si, gB_sl, gB_sA, gB_sB_s, gB_sB_n, Nat.reduceBEq]; rfl
      · simp only [gi_sl, gi_sA, gi_sB, gi_si_s, gi_si_n, gl_si, gl_sA, gl_sB, gl_sl_s, gl_sl_n, gA_si, gA_sl, gA_sB, gA_sA_s, gA_sA_n, gB_si, gB_sl, gB_sA, gB_sB_s, gB_sB_n, Nat.reduceBEq]; exact fun k _ hk => (hB.1 k hk).2
    · have h9 := closeLoop_ok (by omega) (fun k hk => by have := h.r_lt hk; omega) ht
      unfold rankB rankT
      split
      · obtain ⟨a1, a2, a3, a4, a5, a6, a7, a8⟩ := h9
        refine ⟨?_, ?_, ?_, ?_, ?_, ?_, ?_, ?_⟩ <;> simp only [gi_sl, gi_sA, gi_sB, gi_si_s, gi_si_n, gl_si, gl_sA, gl_sB, gl_sl_s, gl_sl_n, gA_si, gA_sl, gA_sB, gA_sA_s, gA_sA_n, gB_si, gB_sl, gB_sA, gB_sB_s, gB_sB_n, Nat.reduceBEq] <;> assumption
      · exact h9
  obtain ⟨h1, h2, h3, h4, h5, h6, h7, h8⟩ := key
  refine ⟨h1, h4, h5, h6, h7, fun e he2 hg hr hd => h8 _ hg (fun z => ?_)⟩
  have := h3 e he2 hg hr
  have q : tb (gB (rank fl ra) 2 (eg e) &&& gB (rank fl ra) 0 (eg e)) (fr e) = true := by rw [tb_and, this, hd]; rfl
  rw [z, tb_0] at q; cases q
/-! ===== the nearest above, depth ===== -/
theorem rules_tb {ra : Ob} {d b : Nat} (hd : d < 40) (hb : b < 64) : rules ra (nI d) (nI b) = tb (gB ra 0 d) b := by
  unfold rules
  rw [rdL_nI hd (by decide), hs_tb _ hb]
theorem near_cases {ra : Ob} {b : Nat} (hb : b < 40) : (nearest ra (nI b) = -1 ∧ ∀ d, d < 40 → d ≠ b → tb (gB ra 0 d) b = true → ¬ bc (gB ra 0 d) < 41) ∨ (∃ d, d < 40 ∧ nearest ra (nI b) = nI d ∧ d ≠ b ∧ tb (gB ra 0 d) b = true) := by
  have key := lp_ind (f := nearStep ra (nI b)) (n := 40) (s := ((-1 : Int32), (41 : Int32))) (fun i p => (p = (-1, 41) ∧ ∀ d, d < i → d ≠ b → tb (gB ra 0 d) b = true → ¬ bc (gB ra 0 d) < 41) ∨ (∃ d, d < i ∧ p.1 = nI d ∧ d ≠ b ∧ tb (gB ra 0 d) b = true)) (Or.inl ⟨rfl, fun d hd => absurd hd (Nat.not_lt_zero d)⟩) (fun i p hi h => ?_)
  · rcases key with ⟨h1, h2⟩ | h
    · exact Or.inl ⟨by unfold nearest; rw [h1], h2⟩
    · exact Or.inr h
  · unfold nearStep
    rw [rules_tb hi (by omega), rdL_nI hi (by decide)]
    by_cases e : i = b
    · subst e
      rw [if_pos rfl]
      rcases h with ⟨h1, h2⟩ | ⟨d, h1, h2⟩
      · exact Or.inl ⟨h1, fun d hd hdb => h2 d (by omega) hdb⟩
      · exact Or.inr ⟨d, by omega, h2⟩
    · rw [if_neg (fun z => e (nI_inj (by omega) (by omega) z))]
      by_cases q : tb (gB ra 0 i) b = true
      · rw [if_pos q]
        by_cases q2 : bc (gB ra 0 i) < p.2
        · rw [if_pos q2]
          exact Or.inr ⟨i, by omega, rfl, e, q⟩
        · rw [if_neg q2]
          rcases h with ⟨h1, h2⟩ | ⟨d, h1, h2⟩
          · refine Or.inl ⟨h1, fun d hd hdb hz => ?_⟩
            by_cases q3 : d = i
            · subst q3
              rw [h1] at q2
              exact q2
            · exact h2 d (by omega) hdb hz
          · exact Or.inr ⟨d, by omega, h2⟩
      · rw [if_neg q]
        rcases h with ⟨h1, h2⟩ | ⟨d, h1, h2⟩
        · refine Or.inl ⟨h1, fun d hd hdb hz => ?_⟩
          by_cases q3 : d = i
          · subst q3; exact absurd hz q
          · exact h2 d (by omega) hdb hz
        · exact Or.inr ⟨d, by omega, h2⟩
theorem depth_ct {ra : Ob} {b : Nat} (hb : b < 64) : depth ra (nI b) = nI (fb_ct (fun h => tb (gB ra 1 h) b) 40) := by
  unfold depth
  rw [show (0 : Int32) = nI 0 from rfl, lp_ct (fun h => tb (gB ra 1 h) b) (fun i m hi => ?_), Nat.zero_add]
  unfold depStep
  rw [rdL_nI hi (by decide), hs_tb _ hb]
  by_cases q : tb (gB ra 1 i) b = true
  · rw [if_pos q, if_pos q, nI_1]
  · rw [if_neg q, if_neg q]; rfl
/-- the parent: none of the block 0 and of what is not reached; else one that dominates and is not dominated -/
theorem parent_ok (h : FL n c E hm fs fr eg fe fl) {ra : Ob} (hr : RK c E fr eg fl ra) {b : Nat} (hb : b < c) :
    ((b = 0 ∨ tb (gl fl 0) b = false) ∧ nearest ra (nI b) = -1) ∨ (b ≠ 0 ∧ tb (gl fl 0) b = true ∧ ∃ d, d < c ∧ nearest ra (nI b) = nI d ∧ tb (gB ra 0 d) b = true ∧ tb (gB ra 0 b) d = false) := by
  have hc := h.c19
  have h0 : 0 < c := by omega
  have hx : ∀ d k, d < 40 → tb (gB ra 0 d) k = true → tb (gl fl 0) d = true ∧ tb (gl fl 0) k = true ∧ tb (Sp fl d) k = false := fun d k hd hk => by
    rw [hr.1 d hd] at hk
    by_cases q : tb (gl fl 0) d = true
    · rw [if_pos q, ruled_tb] at hk
      cases a : tb (gl fl 0) k <;> cases a2 : tb (Sp fl d) k <;> rw [a, a2] at hk <;> first | exact ⟨q, rfl, rfl⟩ | cases hk
    · rw [if_neg q, tb_0] at hk; cases hk
  by_cases e : b = 0 ∨ tb (gl fl 0) b = false
  · refine Or.inl ⟨e, ?_⟩
    rcases near_cases (ra := ra) (b := b) (by omega) with h9 | ⟨d, h1, h2, h3, h4⟩
    · exact h9.1
    · exfalso
      have h8 := hx d b h1 h4
      rcases e with e | e
      · subst e
        rw [h.s_0 h0 h1 h3] at h8
        cases h8.2.2
      · rw [e] at h8; cases h8.2.1
  · have hb0 : b ≠ 0 := fun z => e (Or.inl z)
    have hrb : tb (gl fl 0) b = true := ts_nf (fun z => e (Or.inr z))
    refine Or.inr ⟨hb0, hrb, ?_⟩
    rcases near_cases (ra := ra) (b := b) (by omega) with h9 | ⟨d, h1, h2, h3, h4⟩
    · exfalso
      have r0 := h.r_0 h0
      have e0 : gB ra 0 0 = ruledBy fl (nI 0) := by rw [hr.1 0 (by decide), if_pos r0]
      refine h9.2 0 (by decide) (fun z => hb0 z.symm) ?_ ?_
      · rw [e0, ruled_tb, hrb, h.s_z h0]; rfl
      · rw [bc_ct]
        have : fb_ct (tb (gB ra 0 0)) 64 ≤ fb_ct (fun i => decide (i < 19)) 64 := fb_ct_sub fun k hk hz => by
          have := h.r_lt (hx 0 k (by decide) hz).2.1
          exact decide_eq_true (by omega)
        rw [ct_lt 19 64 (by decide)] at this
        exact nI_lt (b := 41) (by omega) (by decide)
    · have h8 := hx d b h1 h4
      refine ⟨d, h.r_lt h8.1, h2, h4, ?_⟩
      cases q : tb (gB ra 0 b) d
      · rfl
      · exfalso
        have e1 : gB ra 0 d = ruledBy fl (nI d) := by rw [hr.1 d h1, if_pos h8.1]
        have e2 : gB ra 0 b = ruledBy fl (nI b) := by rw [hr.1 b (by omega), if_pos hrb]
        rw [e1] at h4
        rw [e2] at q
        exact h.anti h1 (by omega) h3 h4 q
/-- a block dominates itself where it is reached -/
theorem self_ok (h : FL n c E hm fs fr eg fe fl) {ra : Ob} (hr : RK c E fr eg fl ra) {b : Nat} (hb : b < c) : tb (gB ra 0 b) b = tb (gl fl 0) b := by
  have hc := h.c19
  rw [hr.1 b (by omega)]
  by_cases q : tb (gl fl 0) b = true
  · rw [if_pos q, ruled_tb, q, h.s_no (by omega) (by omega)]; rfl
  · rw [if_neg q, tb_0, ts_nt q]
end FLS
/-! ===== Lives: nothing lives where nothing is reached ===== -/
def LV (fl li : Ob) : Prop := ∀ b, b < 40 → tb (gl fl 0) b = false → gA li 0 b = 0
theorem pass_lv {co fl li : Ob} (h : LV fl li) : LV fl (passUp co fl li).1 := by
  unfold passUp
  refine lp_ind (fun _ (p : Ob × Bool) => LV fl p.1) h (fun j p hj h b hb hz => ?_)
  unfold passStep
  generalize gi fl 0 - 1 - nI j = x
  by_cases q : hs (gl fl 0) x = true
  · rw [if_pos q]
    unfold passB
    simp only [gi_sl, gi_sA, gi_sB, gi_si_s, gi_si_n, gl_si, gl_sA, gl_sB, gl_sl_s, gl_sl_n, gA_si, gA_sl, gA_sB, gA_sA_s, gA_sA_n, gB_si, gB_sl, gB_sA, gB_sB_s, gB_sB_n, Nat.reduceBEq]
    rcases ix_case x with hx | ⟨k, hk, rfl⟩
    · rw [wr_neg hx]; exact h b hb hz
    · rcases Nat.lt_or_ge k 40 with hk4 | hk4
      · rw [wr_nI hk4 (by decide)]
        rw [hs_tb _ (by omega)] at q
        have : b ≠ k := fun e => by subst e; rw [hz] at q; cases q
        rw [upd_n _ _ this]; exact h b hb hz
      · rw [wr_out hk4 hk]; exact h b hb hz
  · rw [if_neg q]; exact h b hb hz
theorem follow_lv (co fl li : Ob) : LV fl (follow co fl li) := by
  have h1 : ∀ b, b < 40 → gA (lp liInit 40 li) 0 b = 0 := by
    refine lp_ind (fun i t => ∀ b, b < i → gA t 0 b = 0) (fun b hb => absurd hb (Nat.not_lt_zero b)) (fun i t hi h b hb => ?_)
    unfold liInit
    simp only [gi_sl, gi_sA, gi_sB, gi_si_s, gi_si_n, gl_si, gl_sA, gl_sB, gl_sl_s, gl_sl_n, gA_si, gA_sl, gA_sB, gA_sA_s, gA_sA_n, gB_si, gB_sl, gB_sA, gB_sB_s, gB_sB_n, Nat.reduceBEq]
    rw [wr_nI hi (by decide)]
    by_cases e : b = i
    · subst e; rw [upd_s]
    · rw [upd_n _ _ e]; exact h b (by omega)
  have h2 : LV fl (foP co fl li) := by
    unfold foP
    exact lpW_ind (fun _ (p : Ob × Bool) => LV fl p.1) (fun b hb _ => h1 b hb) (fun i p _ h _ => pass_lv h) (fun i p _ h _ => h)
  unfold follow
  refine lp_ind (fun _ t => LV fl t) ?_ (fun i t hi h b hb hz => ?_)
  · intro b hb hz
    simp only [gi_sl, gi_sA, gi_sB, gi_si_s, gi_si_n, gl_si, gl_sA, gl_sB, gl_sl_s, gl_sl_n, gA_si, gA_sl, gA_sB, gA_sA_s, gA_sA_n, gB_si, gB_sl, gB_sA, gB_sB_s, gB_sB_n, Nat.reduceBEq]
    exact h2 b hb hz
  · unfold foV
    split
    · simp only [gi_sl, gi_sA, gi_sB, gi_si_s, gi_si_n, gl_si, gl_sA, gl_sB, gl_sl_s, gl_sl_n, gA_si, gA_sl, gA_sB, gA_sA_s, gA_sA_n, gB_si, gB_sl, gB_sA, gB_sB_s, gB_sB_n, Nat.reduceBEq]; exact h b hb hz
    · exact h b hb hz
