/-! ===== the lowest, one, two ===== -/
theorem tb_neg1 {x : Int64} {i : Nat} (hi : i < 64) (h : ∃ j, j < i ∧ tb x j = true) : tb (-x) i = !tb x i := by
  unfold tb at *
  rw [Int64.toBitVec_neg, BitVec.getLsbD_neg]
  simp [hi, h]
theorem tb_neg0 {x : Int64} {i : Nat} (h : ¬ ∃ j, j < i ∧ tb x j = true) : tb (-x) i = tb x i := by
  unfold tb at *
  rw [Int64.toBitVec_neg, BitVec.getLsbD_neg, decide_eq_false h, Bool.and_false, Bool.xor_false]
theorem ct_lt (k : Nat) : ∀ n, k ≤ n → fb_ct (fun i => decide (i < k)) n = k := by
  intro n
  induction n with
  | zero => intro h; have e : k = 0 := by omega
            subst e; rfl
  | succ n ih =>
    intro h
    rw [fb_ct_succ]
    rcases Nat.lt_or_ge n k with q | q
    · have e : k = n + 1 := by omega
      subst e
      rw [if_pos (decide_eq_true (by omega)), fb_ct_all.mpr (fun i hi => decide_eq_true (by omega))]
    · rw [ih q, if_neg (by simp; omega)]
      rfl
theorem low_bit {x : Int64} (h : x ≠ 0) : ∃ k, k < 64 ∧ lowest x = nI k ∧ tb x k = true ∧ ∀ j, j < k → tb x j = false := by
  obtain ⟨k, hk, hb, hl⟩ := fb_first (p := fun i => tb x i = true) (n := 64) (tb_some h)
  refine ⟨k, hk, ?_, hb, fun j hj => ts_nt (hl j hj)⟩
  have e : x &&& -x = lN (2 ^ k) := by
    apply tb_ext
    intro i hi
    rw [tb_and, tb_lN, decide_eq_true hi, Bool.true_and, Nat.testBit_two_pow]
    rcases Nat.lt_trichotomy i k with q | q | q
    · rw [ts_nt (hl i q), decide_eq_false (by omega), Bool.false_and]
    · subst q
      rw [tb_neg0 (fun ⟨j, hj, z⟩ => hl j hj z), hb]
      simp
    · rw [tb_neg1 hi ⟨k, q, hb⟩, decide_eq_false (by omega)]
      cases tb x i <;> rfl
  unfold lowest
  rw [e, show lN (2 ^ k) - 1 = lN (2 ^ k - 1) from lN_sub (a := 2 ^ k) (b := 1) Nat.one_le_two_pow, bc_ct]
  congr 1
  rw [fb_ct_cong (q := fun i => decide (i < k)) (fun i hi => by rw [tb_lN, decide_eq_true hi, Bool.true_and, Nat.testBit_two_pow_sub_one])]
  exact ct_lt k 64 (by omega)
theorem ct_one {p : Nat → Bool} {i n : Nat} (hi : i < n) (h : p i = true) : 1 ≤ fb_ct p n := fb_ct_pos.mpr ⟨i, hi, h⟩
theorem ct_two {p : Nat → Bool} {i j n : Nat} (hij : i < j) (hj : j < n) (h1 : p i = true) (h2 : p j = true) : 2 ≤ fb_ct p n := by
  have a := ct_one (n := j) hij h1
  have b := fb_ct_mono p (show j + 1 ≤ n from hj)
  rw [fb_ct_succ, h2] at b
  simp at b
  omega
theorem ct_three {p : Nat → Bool} {i j k n : Nat} (hij : i < j) (hjk : j < k) (hk : k < n) (h1 : p i = true) (h2 : p j = true) (h3 : p k = true) : 3 ≤ fb_ct p n := by
  have a := ct_two (n := k) hij hjk h1 h2
  have b := fb_ct_mono p (show k + 1 ≤ n from hk)
  rw [fb_ct_succ, h3] at b
  simp at b
  omega
theorem nI_inj {a b : Nat} (ha : a < 2 ^ 31) (hb : b < 2 ^ 31) (h : nI a = nI b) : a = b := (nI_eq ha hb).mp h
theorem bc_is {x : Int64} {n : Nat} (hn : n < 2 ^ 31) (h : bc x = nI n) : fb_ct (tb x) 64 = n := by
  rw [bc_ct] at h
  have := fb_ct_le (tb x) 64
  exact nI_inj (by omega) hn h
theorem bc_one {x : Int64} (h : bc x = 1) : ∃ k, k < 64 ∧ lowest x = nI k ∧ ∀ j, tb x j = decide (j = k) := by
  have hc := bc_is (n := 1) (by decide) h
  have hx : x ≠ 0 := by
    intro z; subst z; revert hc; rw [fb_ct_zero.mpr (fun k _ => tb_0 k)]; decide
  obtain ⟨k, hk, hl, hb, hm⟩ := low_bit hx
  refine ⟨k, hk, hl, fun j => ?_⟩
  by_cases e : j = k
  · subst e; rw [hb, decide_eq_true rfl]
  · rw [decide_eq_false e]
    cases hj : tb x j
    · rfl
    · exfalso
      rcases Nat.lt_trichotomy j k with q | q | q
      · rw [hm j q] at hj; cases hj
      · exact e q
      · have := ct_two q (tb_lt hj) hb hj; omega
theorem bc_two {x : Int64} (h : bc x = 2) : ∃ k m, k < 64 ∧ m < 64 ∧ k ≠ m ∧ lowest x = nI k ∧ rfC x = nI m ∧ ∀ j, tb x j = (decide (j = k) || decide (j = m)) := by
  have hc := bc_is (n := 2) (by decide) h
  have hx : x ≠ 0 := by
    intro z; subst z; revert hc; rw [fb_ct_zero.mpr (fun k _ => tb_0 k)]; decide
  obtain ⟨k, hk, hl, hb, hm⟩ := low_bit hx
  have ht : ∀ j, tb (x &&& (bitL (lowest x) ^^^ (-1))) j = (tb x j && !decide (j = k)) := fun j => by rw [tb_sub, hl, tb_bit hk]
  have hy : (x &&& (bitL (lowest x) ^^^ (-1))) ≠ 0 := by
    intro z
    have h9 : fb_ct (tb x) 64 ≤ fb_ct (fun i => decide (i = k)) 64 := fb_ct_sub fun i hi hq => by
      have := ht i
      rw [z, tb_0, hq] at this
      simpa using this.symm
    have h8 : fb_ct (fun i => if i = k then true else false) 64 + (if false = true then 1 else 0) = fb_ct (fun _ => false) 64 + (if true = true then 1 else 0) := fb_ct_upd (fun _ => false) true hk
    rw [if_neg (by decide), if_pos rfl, fb_ct_zero.mpr (fun _ _ => rfl)] at h8
    have h7 : fb_ct (fun i => decide (i = k)) 64 = fb_ct (fun i => if i = k then true else false) 64 := fb_ct_cong fun i hi => by by_cases e : i = k <;> simp [e]
    omega
  obtain ⟨m, hm2, hl2, hb2, hmm⟩ := low_bit hy
  rw [ht] at hb2
  have e1 : tb x m = true ∧ m ≠ k := by
    cases hq : tb x m
    · rw [hq] at hb2; cases hb2
    · rw [hq] at hb2; exact ⟨rfl, by simpa using hb2⟩
  refine ⟨k, m, hk, hm2, fun z => e1.2 z.symm, hl, hl2, fun j => ?_⟩
  by_cases q1 : j = k
  · subst q1; simp [hb]
  · by_cases q2 : j = m
    · subst q2; simp [e1.1]
    · rw [decide_eq_false q1, decide_eq_false q2]
      cases hj : tb x j
      · rfl
      · exfalso
        have k1 : k < j := by
          rcases Nat.lt_trichotomy j k with q | q | q
          · rw [hm j q] at hj; cases hj
          · exact absurd q q1
          · exact q
        have k2 : k < m := by
          rcases Nat.lt_trichotomy m k with q | q | q
          · rw [hm m q] at e1; cases e1.1
          · exact absurd q e1.2
          · exact q
        rcases Nat.lt_trichotomy j m with q | q | q
        · have := ct_three k1 q hm2 hb hj e1.1; omega
        · exact q2 q
        · have := ct_three k2 q (tb_lt hj) hb e1.1 hj; omega
/-! ===== rows ===== -/
theorem rd_nI {f : Nat → Int32} {n i : Nat} (h : i < n) (hn : n < 2 ^ 31) : rd f n (nI i) = f i := by
  unfold rd
  rw [if_neg (nI_pos (by omega)), if_pos (nI_lt h hn), nI_clamp (by omega)]
theorem rd_neg {f : Nat → Int32} {n : Nat} {x : Int32} (h : x < 0) : rd f n x = 0 := if_pos h
theorem rd_out {f : Nat → Int32} {n i : Nat} (h : n ≤ i) (hi : i < 2 ^ 31) : rd f n (nI i) = 0 := by
  unfold rd
  rw [if_neg (nI_pos (by omega)), if_neg (nI_nlt h (by omega))]
theorem rdL_nI {f : Nat → Int64} {n i : Nat} (h : i < n) (hn : n < 2 ^ 31) : rdL f n (nI i) = f i := by
  unfold rdL
  rw [if_neg (nI_pos (by omega)), if_pos (nI_lt h hn), nI_clamp (by omega)]
theorem rdL_neg {f : Nat → Int64} {n : Nat} {x : Int32} (h : x < 0) : rdL f n x = 0 := if_pos h
theorem rdL_out {f : Nat → Int64} {n i : Nat} (h : n ≤ i) (hi : i < 2 ^ 31) : rdL f n (nI i) = 0 := by
  unfold rdL
  rw [if_neg (nI_pos (by omega)), if_neg (nI_nlt h (by omega))]
theorem wr_nI {f : Nat → Int32} {n i : Nat} {v : Int32} (h : i < n) (hn : n < 2 ^ 31) : wr f n (nI i) v = upd f i v := by
  unfold wr
  rw [if_neg (nI_pos (by omega)), if_pos (nI_lt h hn), nI_clamp (by omega)]
theorem wr_out {f : Nat → Int32} {n i : Nat} {v : Int32} (h : n ≤ i) (hi : i < 2 ^ 31) : wr f n (nI i) v = f := by
  unfold wr
  rw [if_neg (nI_pos (by omega)), if_neg (nI_nlt h (by omega))]
theorem wr_neg {f : Nat → Int32} {n : Nat} {x v : Int32} (h : x < 0) : wr f n x v = f := if_pos h
theorem wrL_nI {f : Nat → Int64} {n i : Nat} {v : Int64} (h : i < n) (hn : n < 2 ^ 31) : wrL f n (nI i) v = vp_updL f i v := by
  unfold wrL
  rw [if_neg (nI_pos (by omega)), if_pos (nI_lt h hn), nI_clamp (by omega)]
/-- an index: below 0, or a number -/
theorem ix_case (x : Int32) : x < 0 ∨ ∃ i, i < 2 ^ 31 ∧ x = nI i := by
  by_cases h : x < 0
  · exact Or.inl h
  · exact Or.inr (nI_of h)
theorem upd_s (f : Nat → Int32) (i : Nat) (v : Int32) : upd f i v i = v := pk_us
theorem upd_n (f : Nat → Int32) {i j : Nat} (v : Int32) (h : j ≠ i) : upd f i v j = f j := pk_un h
theorem updL_s (f : Nat → Int64) (i : Nat) (v : Int64) : vp_updL f i v i = v := pk_uLs
theorem updL_n (f : Nat → Int64) {i j : Nat} (v : Int64) (h : j ≠ i) : vp_updL f i v j = f j := pk_uLn h
/-- what holds of 0 and of all elements holds of what is read -/
theorem rd_all {P : Int32 → Prop} {f : Nat → Int32} {n : Nat} (x : Int32) (h0 : P 0) (h : ∀ i, i < n → P (f i)) (hn : n < 2 ^ 31) : P (rd f n x) := by
  rcases ix_case x with h9 | ⟨i, hi, rfl⟩
  · rw [rd_neg h9]; exact h0
  · rcases Nat.lt_or_ge i n with q | q
    · rw [rd_nI q hn]; exact h i q
    · rw [rd_out q hi]; exact h0
theorem rdL_all {P : Int64 → Prop} {f : Nat → Int64} {n : Nat} (x : Int32) (h0 : P 0) (h : ∀ i, i < n → P (f i)) (hn : n < 2 ^ 31) : P (rdL f n x) := by
  rcases ix_case x with h9 | ⟨i, hi, rfl⟩
  · rw [rdL_neg h9]; exact h0
  · rcases Nat.lt_or_ge i n with q | q
    · rw [rdL_nI q hn]; exact h i q
    · rw [rdL_out q hi]; exact h0
/-- what holds of the value and of each element holds of each element afterwards -/
theorem wr_all {P : Int32 → Prop} {f : Nat → Int32} {n : Nat} (x v : Int32) {i : Nat} (h : P (f i)) (hv : P v) : P (wr f n x v i) := by
  unfold wr
  split
  · exact h
  · split
    · unfold upd; split
      · exact hv
      · exact h
    · exact h
theorem nN_nI {n : Nat} (h : n < 2 ^ 31) : nN (nI n) = n := by
  unfold nN
  rw [nI_toInt h]
  omega
/-! ===== loops ===== -/
theorem lp_ind {σ : Type} {f : Nat → σ → σ} (P : Nat → σ → Prop) {n : Nat} {s : σ} (h0 : P 0 s) (hs : ∀ i t, i < n → P i t → P (i + 1) (f i t)) : P n (lp f n s) := by
  have key : ∀ m, m ≤ n → P m (lp f m s) := by
    intro m
    induction m with
    | zero => exact fun _ => h0
    | succ m ih =>
      intro hm
      exact hs m _ (by omega) (ih (by omega))
  exact key n (Nat.le_refl n)
theorem lp_s {σ : Type} (f : Nat → σ → σ) (n : Nat) (s : σ) : lp f (n + 1) s = f n (lp f n s) := rfl
theorem lp_z {σ : Type} (f : Nat → σ → σ) (s : σ) : lp f 0 s = s := rfl
theorem lpW_ind {σ : Type} {c : σ → Bool} {f : σ → σ} (P : Nat → σ → Prop) {n : Nat} {s : σ} (h0 : P 0 s) (hs : ∀ i t, i < n → P i t → c t = true → P (i + 1) (f t)) (hn : ∀ i t, i < n → P i t → c t = false → P (i + 1) t) : P n (lpW c f n s) := by
  have key : ∀ m, m ≤ n → P m (lpW c f m s) := by
    intro m
    induction m with
    | zero => exact fun _ => h0
    | succ m ih =>
      intro hm
      have h := ih (by omega)
      show P (m + 1) (if c (lpW c f m s) = true then f (lpW c f m s) else lpW c f m s)
      by_cases hc : c (lpW c f m s) = true
      · rw [if_pos hc]; exact hs m _ (by omega) h hc
      · rw [if_neg hc]; exact hn m _ (by omega) h (ts_nt hc)
  exact key n (Nat.le_refl n)
/-- two runs side by side -/
theorem lp_rel {σ τ : Type} {f : Nat → σ → σ} {g : Nat → τ → τ} (P : Nat → σ → τ → Prop) {n : Nat} {s : σ} {t : τ} (h0 : P 0 s t) (hs : ∀ i a b, i < n → P i a b → P (i + 1) (f i a) (g i b)) : P n (lp f n s) (lp g n t) := by
  have key : ∀ m, m ≤ n → P m (lp f m s) (lp g m t) := by
    intro m
    induction m with
    | zero => exact fun _ => h0
    | succ m ih =>
      intro hm
      exact hs m _ _ (by omega) (ih (by omega))
  exact key n (Nat.le_refl n)
/-! ===== what one comes to ===== -/
theorem spread_facts (f : Nat → Int64) (x y : Int64) (hx : ∀ k, tb x k = true → k < 41) (P : Nat → Prop) (hf : ∀ b k, P b → b < 40 → tb (f b) k = true → k < 41)
    (p0 : ∀ k, tb x k = true → tb y k = false → P k) (ps : ∀ a k, P a → a < 40 → tb (f a) k = true → tb y k = false → P k) :
    (∀ k, tb x k = true → tb y k = false → tb (spread f x y) k = true) ∧ (∀ k, tb (spread f x y) k = true → tb y k = false ∧ P k ∧ k < 41) ∧ (∀ a k, tb (spread f x y) a = true → a < 40 → tb (f a) k = true → tb y k = false → tb (spread f x y) k = true) := by
  have key := lpW_ind (c := spGo) (f := spStep f y) (n := 41) (s := (x &&& (y ^^^ (-1)), x &&& (y ^^^ (-1))))
    (fun i p => (∀ k, tb x k = true → tb y k = false → tb p.1 k = true) ∧ (∀ k, tb p.1 k = true → tb y k = false ∧ P k ∧ k < 41) ∧ (∀ k, tb p.2 k = true → tb p.1 k = true) ∧ (∀ a k, tb p.1 a = true → tb p.2 a = false → a < 40 → tb (f a) k = true → tb y k = false → tb p.1 k = true) ∧ (p.2 = 0 ∨ i ≤ fb_ct (fun k => tb p.1 k && !tb p.2 k) 41)) ?_ ?_ ?_
  · obtain ⟨k1, k2, k3, k4, k5⟩ := key
    have e : (lpW spGo (spStep f y) 41 (x &&& (y ^^^ (-1)), x &&& (y ^^^ (-1)))).2 = 0 := by
      rcases k5 with h | h
      · exact h
      · apply tb_none
        intro k hk
        cases hb : tb (lpW spGo (spStep f y) 41 (x &&& (y ^^^ (-1)), x &&& (y ^^^ (-1)))).2 k
        · rfl
        · have h1 := k3 k hb
          have h2 := (k2 k h1).2.2
          have h3 := fb_ct_all.mp (Nat.le_antisymm (fb_ct_le _ _) h) k h2
          rw [hb] at h3
          simp at h3
    exact ⟨k1, k2, fun a k ha => k4 a k ha (by rw [e, tb_0])⟩
  · refine ⟨fun k h1 h2 => ?_, fun k h => ?_, fun k h => h, fun a k h1 h2 => ?_, Or.inr (Nat.zero_le _)⟩
    · show tb (x &&& (y ^^^ (-1))) k = true
      rw [tb_sub, h1, h2]; rfl
    · have h9 : tb (x &&& (y ^^^ (-1))) k = true := h
      rw [tb_sub] at h9
      cases h1 : tb x k <;> cases h2 : tb y k <;> rw [h1, h2] at h9 <;> first | exact ⟨rfl, p0 k h1 h2, hx k h1⟩ | cases h9
    · exact absurd h1 (by show ¬ tb (x &&& (y ^^^ (-1))) a = true; rw [show tb (x &&& (y ^^^ (-1))) a = false from h2]; decide)
  · rintro i ⟨s, o⟩ hi ⟨k1, k2, k3, k4, k5⟩ hc
    have ho : o ≠ 0 := by
      have : (decide (¬ o = 0)) = true := hc
      simpa using this
    simp only at k1 k2 k3 k4 k5
    obtain ⟨q, hq, hl, hb, -⟩ := low_bit ho
    have hs := k3 q hb
    have hq41 := (k2 q hs).2.2
    have hr : ∀ k, tb (rdL f 40 (lowest o)) k = true → q < 40 ∧ tb (f q) k = true := by
      intro k h
      rw [hl] at h
      rcases Nat.lt_or_ge q 40 with h9 | h9
      · rw [rdL_nI h9 (by decide)] at h; exact ⟨h9, h⟩
      · rw [rdL_out h9 (by omega), tb_0] at h; cases h
    have hr2 : ∀ k, q < 40 → tb (f q) k = true → tb (rdL f 40 (lowest o)) k = true := by
      intro k h9 h
      rw [hl, rdL_nI h9 (by decide)]; exact h
    have hm : ∀ k, tb ((rdL f 40 (lowest o) &&& (s ^^^ (-1))) &&& (y ^^^ (-1))) k = ((tb (rdL f 40 (lowest o)) k && !tb s k) && !tb y k) := fun k => by rw [tb_sub, tb_sub]
    generalize hmm : (rdL f 40 (lowest o) &&& (s ^^^ (-1))) &&& (y ^^^ (-1)) = mo at hm
    have e1 : ∀ k, tb (spStep f y (s, o)).1 k = (tb s k || tb mo k) := fun k => by
      show tb (s ||| ((rdL f 40 (lowest o) &&& (s ^^^ (-1))) &&& (y ^^^ (-1)))) k = _
      rw [hmm, tb_or]
    have e2 : ∀ k, tb (spStep f y (s, o)).2 k = ((tb o k && !decide (k = q)) || tb mo k) := fun k => by
      show tb ((o &&& (bitL (lowest o) ^^^ (-1))) ||| ((rdL f 40 (lowest o) &&& (s ^^^ (-1))) &&& (y ^^^ (-1)))) k = _
      rw [hmm, tb_or, tb_sub, hl, tb_bit hq]
    have hmt : ∀ k, tb mo k = true → tb (rdL f 40 (lowest o)) k = true ∧ tb s k = false ∧ tb y k = false := by
      intro k h
      rw [hm] at h
      cases a : tb (rdL f 40 (lowest o)) k <;> cases b : tb s k <;> cases d : tb y k <;> rw [a, b, d] at h <;> first | exact ⟨rfl, rfl, rfl⟩ | cases h
    generalize spStep f y (s, o) = z at e1 e2
    refine ⟨fun k h1 h2 => ?_, fun k h => ?_, fun k h => ?_, fun a k h1 h2 h3 h4 h5 => ?_, Or.inr ?_⟩
    · rw [e1, k1 k h1 h2]; rfl
    · rw [e1] at h
      cases h1 : tb s k
      · rw [h1] at h
        have h9 := hmt k h
        have h8 := hr k h9.1
        exact ⟨h9.2.2, ps q k (k2 q hs).2.1 h8.1 h8.2 h9.2.2, hf q k (k2 q hs).2.1 h8.1 h8.2⟩
      · exact k2 k h1
    · rw [e2] at h
      rw [e1]
      cases h1 : tb mo k
      · rw [h1] at h
        cases h2 : tb o k
        · rw [h2] at h; cases h
        · rw [k3 k h2]; rfl
      · rw [Bool.or_true]
    · rw [e1] at h1 ⊢
      rw [e2] at h2
      cases hma : tb mo a
      · rw [hma] at h1 h2
        rw [Bool.or_false] at h1 h2
        by_cases hk0 : tb s k = true
        · rw [hk0]; rfl
        · by_cases haq : a = q
          · subst haq
            have : tb mo k = true := by
              rw [hm, hr2 k h3 h4, ts_nt hk0, h5]; rfl
            rw [this, Bool.or_true]
          · have hoa : tb o a = false := by
              cases hoa : tb o a
              · rfl
              · rw [hoa] at h2; simp at h2; exact absurd h2 haq
            rw [k4 a k h1 hoa h3 h4 h5]; rfl
      · rw [hma, Bool.or_true] at h2; cases h2
    · have h6 : i ≤ fb_ct (fun k => tb s k && !tb o k) 41 := by
        rcases k5 with h | h
        · exact absurd h ho
        · exact h
      have h8 : (tb s q && !tb o q) = false := by rw [hs, hb]; rfl
      have h7 : fb_ct (fun k => if k = q then true else (tb s k && !tb o k)) 41 + (if (tb s q && !tb o q) = true then 1 else 0) = fb_ct (fun k => tb s k && !tb o k) 41 + (if true = true then 1 else 0) := fb_ct_upd _ true hq41
      rw [h8, if_neg (by decide), if_pos rfl] at h7
      have h9 : fb_ct (fun k => tb z.1 k && !tb z.2 k) 41 = fb_ct (fun k => if k = q then true else (tb s k && !tb o k)) 41 := by
        refine fb_ct_cong fun k hk => ?_
        rw [e1, e2]
        by_cases e : k = q
        · subst e
          have h9 : tb mo k = false := by rw [hm, hs]; simp
          rw [hs, h9]; simp
        · rw [decide_eq_false e, if_neg e]
          cases hk1 : tb mo k
          · simp
          · rw [(hmt k hk1).2.1]; simp
      show i + 1 ≤ fb_ct (fun k => tb z.1 k && !tb z.2 k) 41
      omega
  · rintro i ⟨s, o⟩ hi ⟨k1, k2, k3, k4, k5⟩ hc
    have ho : o = 0 := by
      have : (decide (¬ o = 0)) = false := hc
      simpa using this
    exact ⟨k1, k2, k3, k4, Or.inl ho⟩
