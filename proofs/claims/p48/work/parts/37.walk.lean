/-! ===== Walk: the way through the graph ===== -/
def FIN (sn so : Nat → Bool) (b : Nat) : Prop := sn b = true ∧ so b = false
def ORD (m : Nat) (sn so : Nat → Bool) (st ft : Nat → Nat) (u l : Nat) : Prop := (FIN sn so l ∧ (FIN sn so u → ft l < ft u)) ∨ (∃ i j, i < j ∧ j < m ∧ st i = u ∧ st j = l)
def EDG (fl : Ob) (m : Nat) (sn so : Nat → Bool) (st ft : Nat → Nat) (f g : Nat) (u l : Int32) : Prop :=
  (u = nI f ∧ l = nI g ∧ tb (Sp fl g) f = true ∧ ORD m sn so st ft f g) ∨ (u = nI g ∧ l = nI f ∧ ORD m sn so st ft g f)
def DF (E : Nat) (fr eg fe : Nat → Nat) (fl : Ob) (m cc T : Nat) (sn so : Nat → Bool) (st ca ep ft : Nat → Nat) (up lo : Nat → Int32) : Prop :=
  ((∀ i j, i < j → j < cc → ca i ≠ ca j) ∧ (∀ k, sn k = true ↔ ∃ i, i < cc ∧ ca i = k)) ∧
  ((∀ i j, i < j → j < m → st i ≠ st j) ∧ (∀ k, so k = true ↔ ∃ i, i < m ∧ st i = k) ∧ (∀ k, so k = true → sn k = true)) ∧
  (∀ k, sn k = true → tb (gl fl 0) k = true) ∧
  ((0 < m → st 0 = 0) ∧ ∀ i, i + 1 < m → tb (gB fl 0 (st i)) (st (i + 1)) = true) ∧
  (∀ b, sn b = true → fe b ≤ ep b ∧ ep b ≤ fe (b + 1) ∧ (so b = false → ep b = fe (b + 1))) ∧
  (∀ e, e < E → (sn (fr e) = true → e < ep (fr e) → eg e ≠ 40 → sn (eg e) = true ∧ (eg e ≠ fr e → EDG fl m sn so st ft (fr e) (eg e) (up e) (lo e))) ∧ (¬ (sn (fr e) = true ∧ e < ep (fr e) ∧ eg e ≠ 40 ∧ eg e ≠ fr e) → up e = -1)) ∧
  ((∀ b, FIN sn so b → ft b < T) ∧ T + m = cc) ∧ sn 0 = true
theorem DF.leave {E : Nat} {fr eg fe : Nat → Nat} {fl : Ob} {m cc T : Nat} {sn so : Nat → Bool} {st ca ep ft : Nat → Nat} {up lo : Nat → Int32} (h : DF E fr eg fe fl (m + 1) cc T sn so st ca ep ft up lo) (hx : ep (st m) = fe (st m + 1)) :
    DF E fr eg fe fl m cc (T + 1) sn (fun k => so k && !decide (k = st m)) st ca ep (va_up ft (st m) T) up lo := by
  obtain ⟨h1, ⟨h2a, h2b, h2c⟩, h3, h4, h5, h6, ⟨h7a, h7b⟩, h8⟩ := h
  have hsx : so (st m) = true := (h2b _).mpr ⟨m, by omega, rfl⟩
  have hfin : ∀ b, FIN sn (fun k => so k && !decide (k = st m)) b → b ≠ st m → FIN sn so b := fun b hb hne => by
    refine ⟨hb.1, ?_⟩
    have := hb.2
    simp only [decide_eq_false hne, Bool.not_false, Bool.and_true] at this
    exact this
  have hfin2 : ∀ b, FIN sn so b → FIN sn (fun k => so k && !decide (k = st m)) b ∧ b ≠ st m := fun b hb => by
    refine ⟨⟨hb.1, ?_⟩, fun z => ?_⟩
    · show (so b && !decide (b = st m)) = false
      rw [hb.2]; rfl
    · have h9 := hb.2
      rw [z, hsx] at h9; cases h9
  have hord : ∀ u l, ORD (m + 1) sn so st ft u l → ORD m sn (fun k => so k && !decide (k = st m)) st (va_up ft (st m) T) u l := fun u l ho => by
    rcases ho with ⟨o1, o2⟩ | ⟨i, j, o1, o2, o3, o4⟩
    · left
      have := hfin2 l o1
      refine ⟨this.1, fun hu => ?_⟩
      rw [va_up_ne _ _ this.2]
      by_cases q : u = st m
      · rw [q, va_up_self]; exact h7a l o1
      · rw [va_up_ne _ _ q]; exact o2 (hfin u hu q)
    · by_cases q : j = m
      · left
        subst q
        have hl : so l = true := (h2b l).mpr ⟨j, by omega, o4⟩
        have hu : so u = true := (h2b u).mpr ⟨i, by omega, o3⟩
        have hne : u ≠ st j := by rw [← o3]; exact h2a i j o1 (by omega)
        refine ⟨⟨h2c l hl, ?_⟩, fun hz => ?_⟩
        · show (so l && !decide (l = st j)) = false
          rw [decide_eq_true o4.symm, Bool.not_true, Bool.and_false]
        · have := (hfin u hz hne).2
          rw [hu] at this; cases this
      · exact Or.inr ⟨i, j, o1, by omega, o3, o4⟩
  refine ⟨h1, ⟨fun i j hij hj => h2a i j hij (by omega), fun k => ?_, fun k hk => h2c k (Bool.and_eq_true_iff.mp hk).1⟩, h3, ⟨fun _ => h4.1 (by omega), fun i hi => h4.2 i (by omega)⟩, fun b hb => ?_, fun e he => ?_, ⟨fun b hb => ?_, by omega⟩, h8⟩
  · show (so k && !decide (k = st m)) = true ↔ _
    constructor
    · intro z
      have z2 := Bool.and_eq_true_iff.mp z
      obtain ⟨i, hi, e⟩ := (h2b k).mp z2.1
      refine ⟨i, ?_, e⟩
      have : i ≠ m := fun y => by
        subst y
        rw [decide_eq_true e.symm] at z2
        cases z2.2
      omega
    · rintro ⟨i, hi, e⟩
      have h9 : so k = true := (h2b k).mpr ⟨i, by omega, e⟩
      have : k ≠ st m := by rw [← e]; exact h2a i m hi (by omega)
      rw [h9, decide_eq_false this]; rfl
  · have := h5 b hb
    refine ⟨this.1, this.2.1, fun z => ?_⟩
    by_cases q : b = st m
    · rw [q]; exact hx
    · exact this.2.2 (hfin b ⟨hb, z⟩ q).2
  · have := h6 e he
    refine ⟨fun z1 z2 z3 => ⟨(this.1 z1 z2 z3).1, fun z4 => ?_⟩, this.2⟩
    rcases (this.1 z1 z2 z3).2 z4 with ⟨y1, y2, y3, y4⟩ | ⟨y1, y2, y3⟩
    · exact Or.inl ⟨y1, y2, y3, hord _ _ y4⟩
    · exact Or.inr ⟨y1, y2, hord _ _ y3⟩
  · by_cases q : b = st m
    · rw [q, va_up_self]; omega
    · rw [va_up_ne _ _ q]
      have := h7a b (hfin b hb q)
      omega
theorem DF.take {E : Nat} {fr eg fe : Nat → Nat} {fl : Ob} {m cc T x e : Nat} {sn so : Nat → Bool} {st ca ep ft : Nat → Nat} {up lo : Nat → Int32} (h : DF E fr eg fe fl m cc T sn so st ca ep ft up lo) (hx : so x = true) (he : ep x = e) (hf : fr e = x) (hn : e < fe (x + 1)) (U L : Int32)
    (h1 : eg e ≠ 40 → sn (eg e) = true ∧ (eg e ≠ x → EDG fl m sn so st ft x (eg e) U L)) (h0 : eg e = 40 ∨ eg e = x → U = -1) :
    DF E fr eg fe fl m cc T sn so st ca (va_up ep x (e + 1)) ft (upd up e U) (upd lo e L) := by
  obtain ⟨g1, g2, g3, g4, g5, g6, g7, g8⟩ := h
  have hsx := g2.2.2 x hx
  refine ⟨g1, g2, g3, g4, fun b hb => ?_, fun e' he' => ?_, g7, g8⟩
  · by_cases q : b = x
    · subst q
      rw [va_up_self]
      have := g5 b hb
      exact ⟨by omega, by omega, fun z => by rw [hx] at z; cases z⟩
    · rw [va_up_ne _ _ q]; exact g5 b hb
  · by_cases q : e' = e
    · subst q
      rw [hf, va_up_self, upd_s, upd_s]
      refine ⟨fun _ _ z => h1 z, fun z => h0 ?_⟩
      refine Classical.byContradiction fun y => z ⟨hsx, by omega, fun a => y (Or.inl a), fun a => y (Or.inr a)⟩
    · rw [upd_n _ _ q, upd_n _ _ q]
      have hiff : e' < va_up ep x (e + 1) (fr e') ↔ e' < ep (fr e') := by
        by_cases q2 : fr e' = x
        · rw [q2, va_up_self]; omega
        · rw [va_up_ne _ _ q2]
      have := g6 e' he'
      exact ⟨fun z1 z2 z3 => this.1 z1 (hiff.mp z2) z3, fun z => this.2 (fun y => z ⟨y.1, hiff.mpr y.2.1, y.2.2⟩)⟩
theorem DF.enter {E : Nat} {fr eg fe : Nat → Nat} {fl : Ob} {m cc T g : Nat} {sn so : Nat → Bool} {st ca ep ft : Nat → Nat} {up lo : Nat → Int32} (h : DF E fr eg fe fl (m + 1) cc T sn so st ca ep ft up lo) (hg : sn g = false) (hr : tb (gl fl 0) g = true) (hrow : tb (gB fl 0 (st m)) g = true) (hfe : fe g ≤ fe (g + 1)) (hfg : ∀ e, e < E → fr e = g → fe g ≤ e) :
    DF E fr eg fe fl (m + 2) (cc + 1) T (fun k => sn k || decide (k = g)) (fun k => so k || decide (k = g)) (va_up st (m + 1) g) (va_up ca cc g) (va_up ep g (fe g)) ft up lo := by
  obtain ⟨h1, ⟨h2a, h2b, h2c⟩, h3, h4, h5, h6, ⟨h7a, h7b⟩, h8⟩ := h
  have hso : so g = false := by
    cases q : so g
    · rfl
    · rw [h2c g q] at hg; cases hg
  have hcan : ∀ i, i < cc → ca i ≠ g := fun i hi e => by rw [(h1.2 g).mpr ⟨i, hi, e⟩] at hg; cases hg
  have hstn : ∀ i, i < m + 1 → st i ≠ g := fun i hi e => by rw [(h2b g).mpr ⟨i, hi, e⟩] at hso; cases hso
  have hfin : ∀ b, FIN (fun k => sn k || decide (k = g)) (fun k => so k || decide (k = g)) b ↔ FIN sn so b := fun b => by
    unfold FIN
    by_cases q : b = g
    · subst q
      constructor
      · intro z
        have := z.2
        simp at this
      · intro z; rw [hg] at z; cases z.1
    · simp only [decide_eq_false q, Bool.or_false]
  have hord : ∀ u l, ORD (m + 1) sn so st ft u l → ORD (m + 2) (fun k => sn k || decide (k = g)) (fun k => so k || decide (k = g)) (va_up st (m + 1) g) ft u l := fun u l ho => by
    rcases ho with ⟨o1, o2⟩ | ⟨i, j, o1, o2, o3, o4⟩
    · exact Or.inl ⟨(hfin l).mpr o1, fun z => o2 ((hfin u).mp z)⟩
    · exact Or.inr ⟨i, j, o1, by omega, by rw [va_up_ne _ _ (by omega)]; exact o3, by rw [va_up_ne _ _ (by omega)]; exact o4⟩
  refine ⟨⟨fun i j hij hj => ?_, fun k => ?_⟩, ⟨fun i j hij hj => ?_, fun k => ?_, fun k hk => ?_⟩, fun k hk => ?_, ⟨fun _ => ?_, fun i hi => ?_⟩, fun b hb => ?_, fun e he => ?_, ⟨fun b hb => h7a b ((hfin b).mp hb), by omega⟩, by show (sn 0 || _) = true; rw [h8]; rfl⟩
  · rw [va_up_ne _ _ (show i ≠ cc by omega)]
    by_cases q : j = cc
    · rw [q, va_up_self]; exact hcan i (by omega)
    · rw [va_up_ne _ _ q]; exact h1.1 i j hij (by omega)
  · show (sn k || decide (k = g)) = true ↔ _
    constructor
    · intro z
      rcases Bool.or_eq_true_iff.mp z with z | z
      · obtain ⟨i, hi, e⟩ := (h1.2 k).mp z
        exact ⟨i, by omega, by rw [va_up_ne _ _ (by omega)]; exact e⟩
      · exact ⟨cc, by omega, by rw [va_up_self]; exact (of_decide_eq_true z).symm⟩
    · rintro ⟨i, hi, e⟩
      by_cases q : i = cc
      · rw [q, va_up_self] at e; rw [decide_eq_true e.symm, Bool.or_true]
      · rw [va_up_ne _ _ q] at e; rw [(h1.2 k).mpr ⟨i, by omega, e⟩, Bool.true_or]
  · rw [va_up_ne _ _ (show i ≠ m + 1 by omega)]
    by_cases q : j = m + 1
    · rw [q, va_up_self]; exact hstn i (by omega)
    · rw [va_up_ne _ _ q]; exact h2a i j hij (by omega)
  · show (so k || decide (k = g)) = true ↔ _
    constructor
    · intro z
      rcases Bool.or_eq_true_iff.mp z with z | z
      · obtain ⟨i, hi, e⟩ := (h2b k).mp z
        exact ⟨i, by omega, by rw [va_up_ne _ _ (by omega)]; exact e⟩
      · exact ⟨m + 1, by omega, by rw [va_up_self]; exact (of_decide_eq_true z).symm⟩
    · rintro ⟨i, hi, e⟩
      by_cases q : i = m + 1
      · rw [q, va_up_self] at e; rw [decide_eq_true e.symm, Bool.or_true]
      · rw [va_up_ne _ _ q] at e; rw [(h2b k).mpr ⟨i, by omega, e⟩, Bool.true_or]
  · rcases Bool.or_eq_true_iff.mp hk with z | z
    · show (sn k || _) = true
      rw [h2c k z]; rfl
    · show (_ || decide (k = g)) = true
      rw [z, Bool.or_true]
  · rcases Bool.or_eq_true_iff.mp hk with z | z
    · exact h3 k z
    · rw [of_decide_eq_true z]; exact hr
  · rw [va_up_ne _ _ (by omega)]; exact h4.1 (by omega)
  · by_cases q : i + 1 = m + 1
    · have : i = m := by omega
      subst this
      rw [va_up_self, va_up_ne _ _ (by omega)]; exact hrow
    · rw [va_up_ne _ _ (show i ≠ m + 1 by omega), va_up_ne _ _ q]; exact h4.2 i (by omega)
  · by_cases q : b = g
    · subst q
      rw [va_up_self]
      exact ⟨Nat.le_refl _, hfe, fun z => by simp at z⟩
    · rw [va_up_ne _ _ q]
      have hb2 : sn b = true := by
        rcases Bool.or_eq_true_iff.mp hb with z | z
        · exact z
        · exact absurd (of_decide_eq_true z) q
      have := h5 b hb2
      refine ⟨this.1, this.2.1, fun z => this.2.2 ?_⟩
      cases y : so b
      · rfl
      · have : (so b || decide (b = g)) = false := z
        rw [y] at this; cases this
  · have h9 := h6 e he
    by_cases q : fr e = g
    · have := hfg e he q
      refine ⟨fun _ z => ?_, fun _ => h9.2 (fun y => by rw [q, hg] at y; cases y.1)⟩
      rw [q, va_up_self] at z
      omega
    · rw [va_up_ne _ _ q]
      have hs : ∀ k, sn k = true → (sn k || decide (k = g)) = true := fun k hk => by rw [hk]; rfl
      have hs2 : (sn (fr e) || decide (fr e = g)) = true → sn (fr e) = true := fun z => by
        rcases Bool.or_eq_true_iff.mp z with z | z
        · exact z
        · exact absurd (of_decide_eq_true z) q
      refine ⟨fun z1 z2 z3 => ⟨hs _ (h9.1 (hs2 z1) z2 z3).1, fun z4 => ?_⟩, fun z => h9.2 (fun y => z ⟨hs _ y.1, y.2⟩)⟩
      rcases (h9.1 (hs2 z1) z2 z3).2 z4 with ⟨y1, y2, y3, y4⟩ | ⟨y1, y2, y3⟩
      · exact Or.inl ⟨y1, y2, y3, hord _ _ y4⟩
      · exact Or.inr ⟨y1, y2, hord _ _ y3⟩
/-- the stack is a way that avoids what is not on it -/
theorem DF.path {n c E : Nat} {hm fs fr eg fe : Nat → Nat} {fl : Ob} (hF : FL n c E hm fs fr eg fe fl) {m cc T g : Nat} {sn so : Nat → Bool} {st ca ep ft : Nat → Nat} {up lo : Nat → Int32} (h : DF E fr eg fe fl m cc T sn so st ca ep ft up lo) (hg : g < 40) (hs : so g = false) : ∀ i, i < m → tb (Sp fl g) (st i) = true := by
  obtain ⟨h1, ⟨h2a, h2b, h2c⟩, h3, h4, -⟩ := h
  have hlt : ∀ i, i < m → st i < c := fun i hi => hF.r_lt (h3 _ (h2c _ ((h2b _).mpr ⟨i, hi, rfl⟩)))
  intro i
  induction i with
  | zero =>
    intro hi
    have h0 := hlt 0 hi
    rw [h4.1 hi] at h0 ⊢
    refine hF.s_0 h0 hg (fun z => ?_)
    subst z
    rw [(h2b 0).mpr ⟨0, hi, h4.1 hi⟩] at hs; cases hs
  | succ i ih =>
    intro hi
    have h0 := hlt i (by omega)
    refine hF.s_go (by omega) hg (ih (by omega)) h0 (h4.2 i hi) (fun z => ?_)
    rw [(h2b g).mpr ⟨i + 1, hi, z⟩] at hs; cases hs
/-! ===== the object and the way ===== -/
def LK (E : Nat) (wa : Ob) (m cc : Nat) (sn so : Nat → Bool) (st ca ep : Nat → Nat) (up lo : Nat → Int32) : Prop :=
  gi wa 0 = nI cc ∧ gi wa 1 = nI m ∧ (∀ i, i < cc → gA wa 0 i = nI (ca i)) ∧ (∀ i, i < m → gA wa 3 i = nI (st i)) ∧ (∀ k, tb (gl wa 0) k = sn k) ∧ (∀ k, tb (gl wa 1) k = so k) ∧ (∀ b, sn b = true → gA wa 4 b = nI (ep b)) ∧ (∀ e, e < E → gA wa 1 e = up e ∧ gA wa 2 e = lo e)
def ptF (fe : Nat → Nat) (sn so : Nat → Bool) (ep : Nat → Nat) (b : Nat) : Nat := if sn b = true then (if so b = true then fe (b + 1) - ep b + 1 else 0) else fe (b + 1) - fe b + 1
theorem sm_dec {p q : Nat → Nat} {x n : Nat} (hx : x < n) (h : q x + 1 = p x) (hs : ∀ k, k < n → k ≠ x → q k = p k) : fb_sm q n + 1 = fb_sm p n := by
  have h1 : fb_sm q n = fb_sm (fun k => if k = x then q x else p k) n := fb_sm_cong fun k hk => by
    by_cases e : k = x
    · subst e; rw [if_pos rfl]
    · rw [if_neg e]; exact hs k hk e
  have h2 := fb_sm_upd p (q x) (i := x) (n := n) hx
  omega
theorem FL.feR {n c E : Nat} {hm fs fr eg fe : Nat → Nat} {fl : Ob} (h : FL n c E hm fs fr eg fe fl) {b : Nat} (hb : b ≤ c) : gA fl 5 b = nI (fe b) ∧ fe b ≤ E ∧ ∀ e, e < E → (fe b ≤ e ↔ b ≤ fr e) := h.2.2.1 b hb
theorem FL.feM {n c E : Nat} {hm fs fr eg fe : Nat → Nat} {fl : Ob} (h : FL n c E hm fs fr eg fe fl) {b : Nat} (hb : b < c) : fe b ≤ fe (b + 1) := by
  have h1 := h.feR (b := b) (by omega)
  have h2 := h.feR (b := b + 1) hb
  rcases Nat.lt_or_ge (fe (b + 1)) (fe b) with q | q
  · have he : fe (b + 1) < E := by omega
    have := (h2.2.2 _ he).mp (Nat.le_refl _)
    have := (h1.2.2 _ he).mpr (by omega)
    omega
  · exact q
/-- an edge by its block -/
theorem FL.feI {n c E : Nat} {hm fs fr eg fe : Nat → Nat} {fl : Ob} (h : FL n c E hm fs fr eg fe fl) {b e : Nat} (hb : b < c) (h1 : fe b ≤ e) (h2 : e < fe (b + 1)) : e < E ∧ fr e = b := by
  have g1 := h.feR (b := b) (by omega)
  have g2 := h.feR (b := b + 1) hb
  have he : e < E := by omega
  have := (g1.2.2 e he).mp h1
  have q : ¬ (b + 1 ≤ fr e) := fun z => by have := (g2.2.2 e he).mpr z; omega
  exact ⟨he, by omega⟩
theorem FL.feJ {n c E : Nat} {hm fs fr eg fe : Nat → Nat} {fl : Ob} (h : FL n c E hm fs fr eg fe fl) {e : Nat} (he : e < E) : fe (fr e) ≤ e ∧ e < fe (fr e + 1) := by
  have hf := (h.edge he).2.2.1
  have g1 := h.feR (b := fr e) (by omega)
  have g2 := h.feR (b := fr e + 1) hf
  refine ⟨(g1.2.2 e he).mpr (Nat.le_refl _), ?_⟩
  rcases Nat.lt_or_ge e (fe (fr e + 1)) with q | q
  · exact q
  · have := (g2.2.2 e he).mp q; omega
def WS (c E : Nat) (fr eg fe : Nat → Nat) (fl : Ob) (k : Nat) (wa : Ob) : Prop := ∃ (m cc T : Nat) (sn so : Nat → Bool) (st ca ep ft : Nat → Nat) (up lo : Nat → Int32), DF E fr eg fe fl m cc T sn so st ca ep ft up lo ∧ LK E wa m cc sn so st ca ep up lo ∧ (m = 0 ∨ fb_sm (ptF fe sn so ep) c + k ≤ 76)
theorem upd_self (f : Nat → Int32) (e : Nat) : upd f e (f e) = f := funext fun i => by
  by_cases q : i = e
  · subst q; rw [upd_s]
  · rw [upd_n _ _ q]
section WKS
variable {n c E : Nat} {hm fs fr eg fe : Nat → Nat} {fl : Ob}
theorem upd_lk {f : Nat → Int32} {g : Nat → Int32} {E e : Nat} {v : Int32} (h : ∀ i, i < E → f i = g i) : ∀ i, i < E → upd f e v i = upd g e v i := fun i hi => by
  by_cases q : i = e
  · subst q; rw [upd_s, upd_s]
  · rw [upd_n _ _ q, upd_n _ _ q]; exact h i hi
theorem walk_step (h : FL n c E hm fs fr eg fe fl) {k : Nat} {wa : Ob} (hk : k < 120) (hw : WS c E fr eg fe fl k wa) (hgo : gtGo wa = true) : WS c E fr eg fe fl (k + 1) (gtStep fl wa) := by
  have hc := h.c19
  have hE := h.e57
  obtain ⟨m', cc, T, sn, so, st, ca, ep, ft, up, lo, hD, ⟨l1, l2, l3, l4, l5, l6, l7, l8⟩, hp⟩ := hw
  have hD2 := hD
  obtain ⟨h1, ⟨h2a, h2b, h2c⟩, h3, h4, h5, h6, ⟨h7a, h7b⟩, h8⟩ := hD2
  have hcc : cc ≤ c := fb_holes c cc ca (fun i hi => h.r_lt (h3 _ ((h1.2 _).mpr ⟨i, hi, rfl⟩))) h1.1
  have hm0 : m' ≠ 0 := fun z => by
    subst z
    unfold gtGo at hgo
    rw [l2] at hgo
    exact absurd (of_decide_eq_true hgo) (by decide)
  obtain ⟨m, rfl⟩ : ∃ m, m' = m + 1 := ⟨m' - 1, by omega⟩
  have hp2 : fb_sm (ptF fe sn so ep) c + k ≤ 76 := hp.resolve_left hm0
  have hxs : so (st m) = true := (h2b _).mpr ⟨m, by omega, rfl⟩
  have hxn := h2c _ hxs
  have hxc := h.r_lt (h3 _ hxn)
  have hx5 := h5 _ hxn
  have hbk : rd (gA wa 3) 40 (gi wa 1 - 1) = nI (st m) := by
    rw [l2, nI_pred, rd_nI (by omega) (by decide)]; exact l4 m (by omega)
  obtain ⟨x, hx⟩ : ∃ x, st m = x := ⟨_, rfl⟩
  rw [hx] at hxs hxn hxc hx5 hbk
  unfold gtStep
  rw [hbk]
  unfold goOn goE
  rw [rd_nI (by omega) (by decide), l7 x hxn, nI_1, rd_nI (by omega) (by decide), (h.feR (b := x + 1) hxc).1]
  have hfE := (h.feR (b := x + 1) hxc).2.1
  by_cases q : ep x < fe (x + 1)
  · rw [if_pos (nI_lt q (by omega))]
    obtain ⟨e, he⟩ : ∃ e, ep x = e := ⟨_, rfl⟩
    rw [he] at q hx5 ⊢
    obtain ⟨heE, hfe⟩ := h.feI hxc hx5.1 q
    have hg40 := h.g40 heE
    rw [h.rdt heE]
    have hx0 : ∀ u, fb_sm (ptF fe sn so (va_up ep x (e + 1))) c + (k + 1) ≤ 76 ∨ u := fun u => by
      left
      have := sm_dec (p := ptF fe sn so ep) (q := ptF fe sn so (va_up ep x (e + 1))) (x := x) (n := c) hxc (by
        unfold ptF
        rw [if_pos hxn, if_pos hxn, if_pos hxs, if_pos hxs, va_up_self, he]; omega) (fun b hb hne => by
        unfold ptF
        rw [va_up_ne _ _ hne])
      omega
    have hupe : eg e = 40 ∨ eg e = x → up e = -1 := fun z => (h6 e heE).2 (fun y => by
      rw [hfe] at y
      rcases z with z | z
      · exact y.2.2.1 z
      · exact y.2.2.2 z)
    have l7' : ∀ b, sn b = true → upd (gA wa 4) x (nI (e + 1)) b = nI (va_up ep x (e + 1) b) := fun b hb => by
      by_cases z : b = x
      · subst z; rw [upd_s, va_up_self]
      · rw [upd_n _ _ z, va_up_ne _ _ z]; exact l7 b hb
    by_cases q1 : eg e = 40
    · unfold goF
      rw [if_pos ((tv_neg (by omega)).mpr q1), wr_nI (by omega) (by decide), nI_1]
      refine ⟨m + 1, cc, T, sn, so, st, ca, va_up ep x (e + 1), ft, upd up e (up e), upd lo e (lo e), hD.take hxs he hfe q (up e) (lo e) (fun z => absurd q1 z) hupe, ?_, Or.inr ((hx0 False).resolve_right id)⟩
      refine ⟨?_, ?_, ?_, ?_, ?_, ?_, ?_, fun i hi => ?_⟩ <;> simp only [gi_sl, gi_sA, gi_sB, gi_si_s, gi_si_n, gl_si, gl_sA, gl_sB, gl_sl_s, gl_sl_n, gA_si, gA_sl, gA_sB, gA_sA_s, gA_sA_n, gB_si, gB_sl, gB_sA, gB_sB_s, gB_sB_n, Nat.reduceBEq] <;> try assumption
      rw [upd_self, upd_self]; exact l8 i hi
    · have hgc : eg e < c := (h.edge heE).2.2.2.resolve_right q1
      unfold goF
      rw [if_neg (fun z => q1 ((tv_neg (by omega)).mp z)), tv_nI q1]
      by_cases q2 : eg e = x
      · rw [if_pos (by rw [q2]), wr_nI (by omega) (by decide), nI_1]
        refine ⟨m + 1, cc, T, sn, so, st, ca, va_up ep x (e + 1), ft, upd up e (up e), upd lo e (lo e), hD.take hxs he hfe q (up e) (lo e) (fun _ => ⟨by rw [q2]; exact hxn, fun z => absurd q2 z⟩) hupe, ?_, Or.inr ((hx0 False).resolve_right id)⟩
        refine ⟨?_, ?_, ?_, ?_, ?_, ?_, ?_, fun i hi => ?_⟩ <;> simp only [gi_sl, gi_sA, gi_sB, gi_si_s, gi_si_n, gl_si, gl_sA, gl_sB, gl_sl_s, gl_sl_n, gA_si, gA_sl, gA_sB, gA_sA_s, gA_sA_n, gB_si, gB_sl, gB_sA, gB_sB_s, gB_sB_n, Nat.reduceBEq] <;> try assumption
        rw [upd_self, upd_self]; exact l8 i hi
      · rw [if_neg (fun z => q2 (nI_inj (by omega) (by omega) z))]
        obtain ⟨g, hg⟩ : ∃ g, eg e = g := ⟨_, rfl⟩
        rw [hg] at q1 q2 hgc hg40 ⊢
        have hno : ¬ (g = 40 ∨ g = x) := fun z => z.elim q1 q2
        have hrg : tb (gl fl 0) g = true := by
          have := h.r_edge heE (by rw [hfe]; exact h3 x hxn) (by rw [hg]; exact q1)
          rwa [hg] at this
        unfold goD
        rw [hs_tb _ (by omega), l5 g]
        by_cases q3 : sn g = true
        · rw [if_pos q3]
          unfold goM
          rw [wr_nI (by omega) (by decide), wr_nI (by omega) (by decide), wr_nI (by omega) (by decide), nI_1, hs_tb _ (by omega), l6 g]
          by_cases q4 : so g = true
          · rw [if_pos q4, if_pos q4]
            obtain ⟨i, hi, hsi⟩ := (h2b g).mp q4
            have him : i < m := by
              rcases Nat.lt_or_ge i m with z | z
              · exact z
              · have : i = m := by omega
                subst this; rw [hx] at hsi; exact absurd hsi.symm q2
            refine ⟨m + 1, cc, T, sn, so, st, ca, va_up ep x (e + 1), ft, upd up e (nI g), upd lo e (nI x), hD.take hxs he hfe q (nI g) (nI x) (fun _ => by rw [hg]; exact ⟨q3, fun _ => Or.inr ⟨rfl, rfl, Or.inr ⟨i, m, him, by omega, hsi, hx⟩⟩⟩) (fun z => by rw [hg] at z; exact absurd z hno), ?_, Or.inr ((hx0 False).resolve_right id)⟩
            refine ⟨?_, ?_, ?_, ?_, ?_, ?_, ?_, fun i hi => ?_⟩ <;> simp only [gi_sl, gi_sA, gi_sB, gi_si_s, gi_si_n, gl_si, gl_sA, gl_sB, gl_sl_s, gl_sl_n, gA_si, gA_sl, gA_sB, gA_sA_s, gA_sA_n, gB_si, gB_sl, gB_sA, gB_sB_s, gB_sB_n, Nat.reduceBEq] <;> try assumption
            exact ⟨upd_lk (fun i hi => (l8 i hi).1) i hi, upd_lk (fun i hi => (l8 i hi).2) i hi⟩
          · rw [if_neg q4, if_neg q4]
            have hpa := hD.path h (g := g) (by omega) (ts_nt q4) m (by omega)
            rw [hx] at hpa
            refine ⟨m + 1, cc, T, sn, so, st, ca, va_up ep x (e + 1), ft, upd up e (nI x), upd lo e (nI g), hD.take hxs he hfe q (nI x) (nI g) (fun _ => by rw [hg]; exact ⟨q3, fun _ => Or.inl ⟨rfl, rfl, hpa, Or.inl ⟨⟨q3, ts_nt q4⟩, fun z => (by have h9 := z.2; rw [hxs] at h9; cases h9)⟩⟩⟩) (fun z => by rw [hg] at z; exact absurd z hno), ?_, Or.inr ((hx0 False).resolve_right id)⟩
            refine ⟨?_, ?_, ?_, ?_, ?_, ?_, ?_, fun i hi => ?_⟩ <;> simp only [gi_sl, gi_sA, gi_sB, gi_si_s, gi_si_n, gl_si, gl_sA, gl_sB, gl_sl_s, gl_sl_n, gA_si, gA_sl, gA_sB, gA_sA_s, gA_sA_n, gB_si, gB_sl, gB_sA, gB_sB_s, gB_sB_n, Nat.reduceBEq] <;> try assumption
            exact ⟨upd_lk (fun i hi => (l8 i hi).1) i hi, upd_lk (fun i hi => (l8 i hi).2) i hi⟩
        · rw [if_neg q3]
          have hg0 : sn g = false := ts_nt q3
          have hso : so g = false := by
            cases z : so g
            · rfl
            · rw [h2c g z] at hg0; cases hg0
          have hpa := hD.path h (g := g) (by omega) hso m (by omega)
          rw [hx] at hpa
          have hrow : tb (gB fl 0 (st m)) g = true := by rw [hx]; exact (h.row hxc g).mpr ⟨e, heE, hfe, hg⟩
          have hD3 := hD.enter hg0 hrg hrow (h.feM hgc) (fun e' he' z => by have := (h.feJ he').1; rw [z] at this; exact this)
          have hxg : x ≠ g := fun z => q2 z.symm
          have hep : va_up ep g (fe g) x = e := by rw [va_up_ne _ _ hxg]; exact he
          have hD4 := hD3.take (x := x) (e := e) (by show (so x || decide (x = g)) = true; rw [hxs]; rfl) hep hfe q (nI x) (nI g) (fun _ => by
            rw [hg]
            refine ⟨by show (sn g || decide (g = g)) = true; rw [decide_eq_true rfl, Bool.or_true], fun _ => Or.inl ⟨rfl, rfl, hpa, Or.inr ⟨m, m + 1, by omega, by omega, ?_, ?_⟩⟩⟩
            · rw [va_up_ne _ _ (by omega)]; exact hx
            · exact va_up_self _ _ _) (fun z => by rw [hg] at z; exact absurd z hno)
          unfold enter goM
          simp only [gi_sl, gi_sA, gi_sB, gi_si_s, gi_si_n, gl_si, gl_sA, gl_sB, gl_sl_s, gl_sl_n, gA_si, gA_sl, gA_sB, gA_sA_s, gA_sA_n, gB_si, gB_sl, gB_sA, gB_sB_s, gB_sB_n, Nat.reduceBEq]
          rw [l1, l2, nI_1, nI_1, nI_1, wr_nI (i := cc) (by omega) (by decide), wr_nI (i := m + 1) (by omega) (by decide), wr_nI (i := x) (by omega) (by decide), wr_nI (i := g) (by omega) (by decide), wr_nI (i := e) (by omega) (by decide), wr_nI (i := e) (by omega) (by decide), hs_tb _ (by omega), l6 g, hso, if_neg (by decide), if_neg (by decide), rd_nI (by omega) (by decide), (h.feR (b := g) (by omega)).1]
          refine ⟨m + 2, cc + 1, T, _, _, _, _, _, ft, _, _, hD4, ?_, Or.inr ?_⟩
          · refine ⟨?_, ?_, ?_, ?_, fun j => ?_, fun j => ?_, fun b hb => ?_, fun i hi => ?_⟩ <;> simp only [gi_sl, gi_sA, gi_sB, gi_si_s, gi_si_n, gl_si, gl_sA, gl_sB, gl_sl_s, gl_sl_n, gA_si, gA_sl, gA_sB, gA_sA_s, gA_sA_n, gB_si, gB_sl, gB_sA, gB_sB_s, gB_sB_n, Nat.reduceBEq]
            · exact upd_va (fun j hj _ => l3 j (by omega))
            · exact upd_va (fun j hj _ => l4 j (by omega))
            · rw [tb_or, tb_bit (by omega), l5]
            · rw [tb_or, tb_bit (by omega), l6]
            · by_cases z : b = g
              · subst z; rw [upd_s, va_up_ne _ _ (fun y => hxg y.symm), va_up_self]
              · rw [upd_n _ _ z]
                by_cases z2 : b = x
                · subst z2; rw [upd_s, va_up_self]
                · rw [upd_n _ _ z2, va_up_ne _ _ z2, va_up_ne _ _ z]
                  rcases Bool.or_eq_true_iff.mp hb with y | y
                  · exact l7 b y
                  · exact absurd (of_decide_eq_true y) z
            · exact ⟨upd_lk (fun i hi => (l8 i hi).1) i hi, upd_lk (fun i hi => (l8 i hi).2) i hi⟩
          · have := sm_dec (p := ptF fe sn so ep) (q := ptF fe (fun k => sn k || decide (k = g)) (fun k => so k || decide (k = g)) (va_up (va_up ep g (fe g)) x (e + 1))) (x := x) (n := c) hxc (by
              unfold ptF
              simp only [hxn, hxs, Bool.true_or, if_true]
              rw [va_up_self, he]; omega) (fun b hb hne => by
              unfold ptF
              rw [va_up_ne _ _ hne]
              by_cases z : b = g
              · subst z
                simp only [hg0, hso, decide_true, Bool.or_true, if_true, Bool.false_eq_true, if_false]
                rw [va_up_self]
              · rw [va_up_ne _ _ z]
                simp only [decide_eq_false z, Bool.or_false])
            omega
  · rw [if_neg (nI_nlt (by omega) (by omega))]
    have hxe : ep (st m) = fe (st m + 1) := by rw [hx]; omega
    have hD3 := hD.leave hxe
    rw [hx] at hD3
    rw [l2, nI_pred]
    refine ⟨m, cc, T + 1, _, _, _, _, _, _, up, lo, hD3, ?_, Or.inr ?_⟩
    · refine ⟨?_, ?_, ?_, fun i hi => ?_, ?_, fun j => ?_, ?_, ?_⟩ <;> simp only [gi_sl, gi_sA, gi_sB, gi_si_s, gi_si_n, gl_si, gl_sA, gl_sB, gl_sl_s, gl_sl_n, gA_si, gA_sl, gA_sB, gA_sA_s, gA_sA_n, gB_si, gB_sl, gB_sA, gB_sB_s, gB_sB_n, Nat.reduceBEq] <;> try assumption
      · exact l4 i (by omega)
      · rw [tb_sub, tb_bit (by omega), l6]
    · have := sm_dec (p := ptF fe sn so ep) (q := ptF fe sn (fun k => so k && !decide (k = x)) ep) (x := x) (n := c) hxc (by
        unfold ptF
        simp only [hxn, hxs, if_true, decide_true, Bool.not_true, Bool.and_false, Bool.false_eq_true, if_false]
        omega) (fun b hb hne => by
        unfold ptF
        simp only [decide_eq_false hne, Bool.not_false, Bool.and_true])
      omega
theorem gtZero_ok (wa : Ob) : gi (gtZero wa) 0 = nI 0 ∧ gi (gtZero wa) 1 = nI 0 ∧ gl (gtZero wa) 0 = 0 ∧ gl (gtZero wa) 1 = 0 ∧ ∀ e, e < 80 → gA (gtZero wa) 1 e = -1 ∧ gA (gtZero wa) 2 e = -1 := by
  unfold gtZero
  refine lp_ind (fun i t => gi t 0 = nI 0 ∧ gi t 1 = nI 0 ∧ gl t 0 = 0 ∧ gl t 1 = 0 ∧ ∀ e, e < i → gA t 1 e = -1 ∧ gA t 2 e = -1) ⟨by simp only [gi_sl, gi_sA, gi_sB, gi_si_s, gi_si_n, gl_si, gl_sA, gl_sB, gl_sl_s, gl_sl_n, gA_si, gA_sl, gA_sB, gA_sA_s, gA_sA_n, gB_si, gB_sl, gB_sA, gB_sB_s, gB_sB_n, Nat.reduceBEq]; rfl, by simp only [gi_sl, gi_sA, gi_sB, gi_si_s, gi_si_n, gl_si, gl_sA, gl_sB, gl_sl_s, gl_sl_n, gA_si, gA_sl, gA_sB, gA_sA_s, gA_sA_n, gB_si, gB_sl, gB_sA, gB_sB_s, gB_sB_n, Nat.reduceBEq]; rfl, by simp only [gi_sl, gi_sA, gi_sB, gi_si_s, gi_si_n, gl_si, gl_sA, gl_sB, gl_sl_s, gl_sl_n, gA_si, gA_sl, gA_sB, gA_sA_s, gA_sA_n, gB_si, gB_sl, gB_sA, gB_sB_s, gB_sB_n, Nat.reduceBEq], by simp only [gi_sl, gi_sA, gi_sB, gi_si_s, gi_si_n, gl_si, gl_sA, gl_sB, gl_sl_s, gl_sl_n, gA_si, gA_sl, gA_sB, gA_sA_s, gA_sA_n, gB_si, gB_sl, gB_sA, gB_sB_s, gB_sB_n, Nat.reduceBEq], fun e he => absurd he (Nat.not_lt_zero e)⟩ (fun i t hi h => ?_)
  unfold gtInit
  simp only [gi_sl, gi_sA, gi_sB, gi_si_s, gi_si_n, gl_si, gl_sA, gl_sB, gl_sl_s, gl_sl_n, gA_si, gA_sl, gA_sB, gA_sA_s, gA_sA_n, gB_si, gB_sl, gB_sA, gB_sB_s, gB_sB_n, Nat.reduceBEq]
  rw [wr_nI hi (by decide), wr_nI hi (by decide)]
  refine ⟨h.1, h.2.1, h.2.2.1, h.2.2.2.1, fun e he => ?_⟩
  by_cases q : e = i
  · subst q; rw [upd_s, upd_s]; exact ⟨rfl, rfl⟩
  · rw [upd_n _ _ q, upd_n _ _ q]; exact h.2.2.2.2 e (by omega)
theorem FL.tele (h : FL n c E hm fs fr eg fe fl) : ∀ k, k ≤ c → fb_sm (fun b => fe (b + 1) - fe b + 1) k + fe 0 = fe k + k := by
  intro k
  induction k with
  | zero => intro _; rw [show fb_sm (fun b => fe (b + 1) - fe b + 1) 0 = 0 from rfl]; omega
  | succ k ih =>
    intro hk
    have h1 := ih (by omega)
    have h2 := h.feM (b := k) (by omega)
    rw [fb_sm_succ]
    omega
def sn0 (k : Nat) : Bool := decide (k = 0)
theorem init_df (h : FL n c E hm fs fr eg fe fl) (h0 : 0 < c) : DF E fr eg fe fl 1 1 0 sn0 sn0 (fun _ => 0) (fun _ => 0) (fun _ => fe 0) (fun _ => 0) (fun _ => -1) (fun _ => -1) := by
  have hz : ∀ k, sn0 k = true → k = 0 := fun k hk => of_decide_eq_true hk
  have hz2 : ∀ k, sn0 k = true ↔ ∃ i : Nat, i < 1 ∧ 0 = k := fun k => ⟨fun z => ⟨0, Nat.zero_lt_one, (hz k z).symm⟩, fun z => decide_eq_true (by obtain ⟨i, hi, e⟩ := z; exact e.symm)⟩
  refine ⟨⟨fun i j hij hj => absurd hj (by omega), hz2⟩, ⟨fun i j hij hj => absurd hj (by omega), hz2, fun k hk => hk⟩, fun k hk => ?_, ⟨fun _ => rfl, fun i hi => absurd hi (by omega)⟩, fun b hb => ?_, fun e he => ⟨fun w1 w2 => ?_, fun _ => rfl⟩, ⟨fun b hb => ?_, rfl⟩, rfl⟩
  · rw [hz k hk]; exact h.r_0 h0
  · have hb0 := hz b hb
    subst hb0
    exact ⟨Nat.le_refl _, h.feM h0, fun z => absurd z (by decide)⟩
  · have hb0 := hz _ w1
    have w4 := (h.feJ he).1
    rw [hb0] at w4
    have w3 : e < fe 0 := w2
    omega
  · have hb1 := hb.1
    rw [hb.2] at hb1; cases hb1
theorem en_gi0 (fl w : Ob) (b : Int32) : gi (enter fl w b) 0 = gi w 0 + 1 := by unfold enter; simp only [gi_sl, gi_sA, gi_sB, gi_si_s, gi_si_n, gl_si, gl_sA, gl_sB, gl_sl_s, gl_sl_n, gA_si, gA_sl, gA_sB, gA_sA_s, gA_sA_n, gB_si, gB_sl, gB_sA, gB_sB_s, gB_sB_n, Nat.reduceBEq]
theorem en_gi1 (fl w : Ob) (b : Int32) : gi (enter fl w b) 1 = gi w 1 + 1 := by unfold enter; simp only [gi_sl, gi_sA, gi_sB, gi_si_s, gi_si_n, gl_si, gl_sA, gl_sB, gl_sl_s, gl_sl_n, gA_si, gA_sl, gA_sB, gA_sA_s, gA_sA_n, gB_si, gB_sl, gB_sA, gB_sB_s, gB_sB_n, Nat.reduceBEq]
theorem en_A0 (fl w : Ob) (b : Int32) : gA (enter fl w b) 0 = wr (gA w 0) 40 (gi w 0) b := by unfold enter; simp only [gi_sl, gi_sA, gi_sB, gi_si_s, gi_si_n, gl_si, gl_sA, gl_sB, gl_sl_s, gl_sl_n, gA_si, gA_sl, gA_sB, gA_sA_s, gA_sA_n, gB_si, gB_sl, gB_sA, gB_sB_s, gB_sB_n, Nat.reduceBEq]
theorem en_A1 (fl w : Ob) (b : Int32) : gA (enter fl w b) 1 = gA w 1 := by unfold enter; simp only [gi_sl, gi_sA, gi_sB, gi_si_s, gi_si_n, gl_si, gl_sA, gl_sB, gl_sl_s, gl_sl_n, gA_si, gA_sl, gA_sB, gA_sA_s, gA_sA_n, gB_si, gB_sl, gB_sA, gB_sB_s, gB_sB_n, Nat.reduceBEq]
theorem en_A2 (fl w : Ob) (b : Int32) : gA (enter fl w b) 2 = gA w 2 := by unfold enter; simp only [gi_sl, gi_sA, gi_sB, gi_si_s, gi_si_n, gl_si, gl_sA, gl_sB, gl_sl_s, gl_sl_n, gA_si, gA_sl, gA_sB, gA_sA_s, gA_sA_n, gB_si, gB_sl, gB_sA, gB_sB_s, gB_sB_n, Nat.reduceBEq]
theorem en_A3 (fl w : Ob) (b : Int32) : gA (enter fl w b) 3 = wr (gA w 3) 40 (gi w 1) b := by unfold enter; simp only [gi_sl, gi_sA, gi_sB, gi_si_s, gi_si_n, gl_si, gl_sA, gl_sB, gl_sl_s, gl_sl_n, gA_si, gA_sl, gA_sB, gA_sA_s, gA_sA_n, gB_si, gB_sl, gB_sA, gB_sB_s, gB_sB_n, Nat.reduceBEq]
theorem en_A4 (fl w : Ob) (b : Int32) : gA (enter fl w b) 4 = wr (gA w 4) 40 b (rd (gA fl 5) 41 b) := by unfold enter; simp only [gi_sl, gi_sA, gi_sB, gi_si_s, gi_si_n, gl_si, gl_sA, gl_sB, gl_sl_s, gl_sl_n, gA_si, gA_sl, gA_sB, gA_sA_s, gA_sA_n, gB_si, gB_sl, gB_sA, gB_sB_s, gB_sB_n, Nat.reduceBEq]
theorem en_l0 (fl w : Ob) (b : Int32) : gl (enter fl w b) 0 = gl w 0 ||| bitL b := by unfold enter; simp only [gi_sl, gi_sA, gi_sB, gi_si_s, gi_si_n, gl_si, gl_sA, gl_sB, gl_sl_s, gl_sl_n, gA_si, gA_sl, gA_sB, gA_sA_s, gA_sA_n, gB_si, gB_sl, gB_sA, gB_sB_s, gB_sB_n, Nat.reduceBEq]
theorem en_l1 (fl w : Ob) (b : Int32) : gl (enter fl w b) 1 = gl w 1 ||| bitL b := by unfold enter; simp only [gi_sl, gi_sA, gi_sB, gi_si_s, gi_si_n, gl_si, gl_sA, gl_sB, gl_sl_s, gl_sl_n, gA_si, gA_sl, gA_sB, gA_sA_s, gA_sA_n, gB_si, gB_sl, gB_sA, gB_sB_s, gB_sB_n, Nat.reduceBEq]
theorem enter0_lk (h : FL n c E hm fs fr eg fe fl) (w : Ob) (z1 : gi w 0 = nI 0) (z2 : gi w 1 = nI 0) (z3 : gl w 0 = 0) (z4 : gl w 1 = 0) (z5 : ∀ e, e < 80 → gA w 1 e = -1 ∧ gA w 2 e = -1) : LK E (enter fl w (nI 0)) 1 1 sn0 sn0 (fun _ => 0) (fun _ => 0) (fun _ => fe 0) (fun _ => -1) (fun _ => -1) := by
  have hE := h.e57
  have f0 : gA fl 5 0 = nI (fe 0) := (h.feR (b := 0) (Nat.zero_le c)).1
  refine ⟨?_, ?_, fun i hi => ?_, fun i hi => ?_, fun k => ?_, fun k => ?_, fun b hb => ?_, fun e he => ?_⟩
  · rw [en_gi0, z1, nI_1]
  · rw [en_gi1, z2, nI_1]
  · have e9 : i = 0 := by omega
    rw [en_A0, z1, wr_nI (i := 0) (by decide) (by decide), e9, upd_s]
  · have e9 : i = 0 := by omega
    rw [en_A3, z2, wr_nI (i := 0) (by decide) (by decide), e9, upd_s]
  · rw [en_l0, z3, tb_or, tb_0, tb_bit (n := 0) (by decide), Bool.false_or]
    rfl
  · rw [en_l1, z4, tb_or, tb_0, tb_bit (n := 0) (by decide), Bool.false_or]
    rfl
  · have e9 : b = 0 := of_decide_eq_true hb
    rw [en_A4, wr_nI (i := 0) (by decide) (by decide), rd_nI (i := 0) (by decide) (by decide), f0, e9, upd_s]
  · rw [en_A1, en_A2]
    exact z5 e (by omega)
theorem init_lk (h : FL n c E hm fs fr eg fe fl) (wa : Ob) : LK E (enter fl (gtZero wa) (nI 0)) 1 1 sn0 sn0 (fun _ => 0) (fun _ => 0) (fun _ => fe 0) (fun _ => -1) (fun _ => -1) :=
  enter0_lk h (gtZero wa) (gtZero_ok wa).1 (gtZero_ok wa).2.1 (gtZero_ok wa).2.2.1 (gtZero_ok wa).2.2.2.1 (gtZero_ok wa).2.2.2.2
theorem init_pot (h : FL n c E hm fs fr eg fe fl) : fb_sm (ptF fe sn0 sn0 (fun _ => fe 0)) c + 0 ≤ 76 := by
  have hc := h.c19
  have hE := h.e57
  have e : fb_sm (ptF fe sn0 sn0 (fun _ => fe 0)) c = fb_sm (fun b => fe (b + 1) - fe b + 1) c := fb_sm_cong fun b hb => by
    unfold ptF
    by_cases q : b = 0
    · subst q
      rw [if_pos (show sn0 0 = true from rfl), if_pos (show sn0 0 = true from rfl)]
    · rw [if_neg (show ¬ sn0 b = true from fun z => q (of_decide_eq_true z))]
  have h1 := h.tele c (Nat.le_refl c)
  have h2 := (h.feR (b := c) (Nat.le_refl c)).2.1
  omega
theorem walk_init (h : FL n c E hm fs fr eg fe fl) (h0 : 0 < c) (wa : Ob) : WS c E fr eg fe fl 0 (enter fl (gtZero wa) (nI 0)) :=
  ⟨1, 1, 0, sn0, sn0, fun _ => 0, fun _ => 0, fun _ => fe 0, fun _ => 0, fun _ => -1, fun _ => -1, init_df h h0, init_lk h wa, Or.inr (init_pot h)⟩
def DRW (fr eg : Nat → Nat) (fl : Ob) (e : Nat) : Prop := tb (gl fl 0) (fr e) = true ∧ eg e ≠ 40 ∧ eg e ≠ fr e
def WK (c E : Nat) (fr eg : Nat → Nat) (fl wa : Ob) (cc : Nat) (ca ht : Nat → Nat) : Prop :=
  (∀ k, tb (gl wa 0) k = tb (gl fl 0) k) ∧
  (gi wa 0 = nI cc ∧ cc ≤ c ∧ (∀ i, i < cc → gA wa 0 i = nI (ca i)) ∧ (∀ i j, i < j → j < cc → ca i ≠ ca j) ∧ (∀ k, tb (gl fl 0) k = true ↔ ∃ i, i < cc ∧ ca i = k)) ∧
  (∀ e, e < E → (DRW fr eg fl e → ∃ u l, gA wa 1 e = nI u ∧ gA wa 2 e = nI l ∧ ht u < ht l ∧ ((u = fr e ∧ l = eg e ∧ tb (Sp fl (eg e)) (fr e) = true) ∨ (u = eg e ∧ l = fr e))) ∧ (¬ DRW fr eg fl e → gA wa 1 e = -1)) ∧
  (∀ k, tb (gl fl 0) k = true → ht k < c)
theorem walk_ok (h : FL n c E hm fs fr eg fe fl) (wa : Ob) : ∃ (cc : Nat) (ca ht : Nat → Nat), WK c E fr eg fl (goThrough fl wa) cc ca ht := by
  have hc := h.c19
  unfold goThrough gtStart
  rcases Nat.eq_zero_or_pos c with q | q
  · subst q
    have hE : E = 0 := by have := h.2.2.2.2.2.1; omega
    subst hE
    obtain ⟨z1, z2, z3, z4, z5⟩ := gtZero_ok wa
    rw [h.bc, if_neg (by decide), lpW_same (by unfold gtGo; rw [z2]; decide)]
    have hR : gl fl 0 = 0 := by rw [h.rch, if_neg (by decide)]
    refine ⟨0, fun _ => 0, fun _ => 0, fun k => by rw [z3, hR], ⟨z1, Nat.le_refl _, fun i hi => absurd hi (Nat.not_lt_zero i), fun i j _ hj => absurd hj (Nat.not_lt_zero j), fun k => ⟨fun z => by (rw [hR, tb_0] at z; cases z), fun ⟨i, hi, _⟩ => absurd hi (Nat.not_lt_zero i)⟩⟩, fun e he => absurd he (Nat.not_lt_zero e), fun k z => by rw [hR, tb_0] at z; cases z⟩
  · rw [h.bc, if_pos (show (0 : Int32) < nI c from nI_lt (a := 0) q (by omega))]
    rw [show (enter fl (gtZero wa) 0) = enter fl (gtZero wa) (nI 0) from rfl]
    have key := lpW_ind (c := gtGo) (f := gtStep fl) (n := 120) (s := enter fl (gtZero wa) (nI 0)) (fun k t => WS c E fr eg fe fl k t) (walk_init h q wa) (fun k t hk ht hg => walk_step h hk ht hg) (fun k t hk ht hg => by
      obtain ⟨m, cc, T, sn, so, st, ca, ep, ft, up, lo, hD, hL, hp⟩ := ht
      refine ⟨m, cc, T, sn, so, st, ca, ep, ft, up, lo, hD, hL, Or.inl ?_⟩
      have hcc : cc ≤ c := fb_holes c cc ca (fun i hi => h.r_lt (hD.2.2.1 _ ((hD.1.2 _).mpr ⟨i, hi, rfl⟩))) hD.1.1
      have hm := hD.2.2.2.2.2.2.1.2
      unfold gtGo at hg
      rw [hL.2.1] at hg
      rcases Nat.eq_zero_or_pos m with z | z
      · exact z
      · exact absurd (nI_lt (a := 0) z (by omega)) (of_decide_eq_false hg))
    generalize lpW gtGo (gtStep fl) 120 (enter fl (gtZero wa) (nI 0)) = w at key
    obtain ⟨m, cc, T, sn, so, st, ca, ep, ft, up, lo, hD, ⟨l1, l2, l3, l4, l5, l6, l7, l8⟩, hp⟩ := key
    obtain ⟨h1, ⟨h2a, h2b, h2c⟩, h3, h4, h5, h6, ⟨h7a, h7b⟩, h8⟩ := hD
    have hm : m = 0 := by
      rcases hp with z | z
      · exact z
      · omega
    subst hm
    have hso : ∀ k, so k = false := fun k => by
      cases z : so k
      · rfl
      · obtain ⟨i, hi, -⟩ := (h2b k).mp z
        exact absurd hi (Nat.not_lt_zero i)
    have hfin : ∀ k, sn k = true → FIN sn so k := fun k hk => ⟨hk, hso k⟩
    have htk : ∀ e, e < E → sn (fr e) = true → e < ep (fr e) := fun e he hs => by
      rw [(h5 _ hs).2.2 (hso _)]
      exact (h.feJ he).2
    have hR : ∀ k, tb (gl fl 0) k = sn k := fun k => by
      cases z : sn k
      · cases z2 : tb (gl fl 0) k
        · rfl
        · have := h.r_least (fun j => sn j = true) h8 (fun a j ha hac hj h40 => by
            obtain ⟨e, he, e1, e2⟩ := (h.row hac j).mp hj
            have := (h6 e he).1 (by rw [e1]; exact ha) (htk e he (by rw [e1]; exact ha)) (by rw [e2]; exact h40)
            rw [e2] at this
            exact this.1) z2
          rw [z] at this; cases this
      · exact h3 k z
    have hcc : cc ≤ c := fb_holes c cc ca (fun i hi => h.r_lt (h3 _ ((h1.2 _).mpr ⟨i, hi, rfl⟩))) h1.1
    refine ⟨cc, ca, fun k => T - 1 - ft k, fun k => by rw [l5, hR], ⟨l1, hcc, l3, h1.1, fun k => by rw [hR]; exact h1.2 k⟩, fun e he => ⟨fun hd => ?_, fun hd => ?_⟩, fun k hk => ?_⟩
    · have hs : sn (fr e) = true := by rw [← hR]; exact hd.1
      have h9 := (h6 e he).1 hs (htk e he hs) hd.2.1
      have hlt : ∀ u l, ORD 0 sn so st ft u l → sn u = true → T - 1 - ft u < T - 1 - ft l := fun u l ho hu => by
        rcases ho with ⟨o1, o2⟩ | ⟨i, j, -, o2, -⟩
        · have a1 := o2 (hfin u hu)
          have a2 := h7a u (hfin u hu)
          omega
        · exact absurd o2 (Nat.not_lt_zero j)
      rcases h9.2 hd.2.2 with ⟨y1, y2, y3, y4⟩ | ⟨y1, y2, y3⟩
      · exact ⟨fr e, eg e, by rw [(l8 e he).1]; exact y1, by rw [(l8 e he).2]; exact y2, hlt _ _ y4 hs, Or.inl ⟨rfl, rfl, y3⟩⟩
      · exact ⟨eg e, fr e, by rw [(l8 e he).1]; exact y1, by rw [(l8 e he).2]; exact y2, hlt _ _ y3 h9.1, Or.inr ⟨rfl, rfl⟩⟩
    · rw [(l8 e he).1]
      exact (h6 e he).2 (fun z => hd ⟨by rw [hR]; exact z.1, z.2.2.1, z.2.2.2⟩)
    · have := h7a k (hfin k (by rw [← hR]; exact hk))
      have h9 : T - 1 - ft k < c := by omega
      exact h9
end WKS
