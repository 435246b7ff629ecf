/-! ===== what areBlocksRight asks ===== -/
def AFX (n c E : Nat) (hm fs fr eg fe : Nat → Nat) (sd cc L : Nat) (ca ht ly : Nat → Nat) (co fl ra li re wa pi : Ob) : Prop :=
  gi co 0 = nI n ∧ FL n c E hm fs fr eg fe fl ∧ RK c E fr eg fl ra ∧ LV fl li ∧ (sd ≤ 120 ∧ RDI sd fl re) ∧ WK c E fr eg fl wa cc ca ht ∧ PIC E cc L fl wa ly ca pi ∧
  (¬ gi fl 2 = 0) ∧ (¬ gi ra 2 = 0) ∧ (¬ gi li 1 = 0) ∧ (¬ gi re 1 = 0) ∧ ¬ gi pi 3 = 0
theorem INV.afx {n : Nat} {co fl ra li re wa pi : Ob} (h : INV n co fl ra li re wa pi) (zf : ¬ gi fl 2 = 0) (zr : ¬ gi ra 2 = 0) (zl : ¬ gi li 1 = 0) (zd : ¬ gi re 1 = 0) (zp : ¬ gi pi 3 = 0) :
    ∃ (c E : Nat) (hm fs fr eg fe : Nat → Nat) (sd cc L : Nat) (ca ht ly : Nat → Nat), AFX n c E hm fs fr eg fe sd cc L ca ht ly co fl ra li re wa pi := by
  obtain ⟨c, E, hm, fs, fr, eg, fe, hF⟩ := h.f zf
  obtain ⟨sd, h1, h2⟩ := (h.d zd).2
  obtain ⟨cc, L, ca, ht, ly, w, q⟩ := (h.p zp).2 c E hm fs fr eg fe hF
  exact ⟨c, E, hm, fs, fr, eg, fe, sd, cc, L, ca, ht, ly, h.co0, hF, (h.r zr).2 c E hm fs fr eg fe hF, (h.l zl).2, ⟨h1, h2⟩, w, q, zf, zr, zl, zd, zp⟩
theorem imin_nI {a b : Nat} (ha : a < 2 ^ 31) (hb : b < 2 ^ 31) : imin (nI a) (nI b) = nI (min a b) := by
  unfold imin
  by_cases h : b < a
  · rw [if_pos (nI_lt2 h ha), show min a b = b by omega]
  · rw [if_neg (nI_nlt2 (by omega) hb), show min a b = a by omega]
theorem tst_out {x : Int32} {N : Nat} (e : x = nI N) : x ≤ nI N := by rw [e]; exact Int32.le_refl _
theorem tst_in {x : Int32} {N i : Nat} (e : x = nI N) (hi : i < N) (hN : N < 2 ^ 31) : ¬ x ≤ nI i := by
  rw [e]; exact i_lt_nle (nI_lt2 hi hN)
theorem bc_pos {x : Int64} : 0 < bc x ↔ x ≠ 0 := by
  rw [bc_ct]
  have hle := fb_ct_le (tb x) 64
  constructor
  · intro h z
    subst z
    rw [fb_ct_zero.mpr (fun k _ => tb_0 k)] at h
    exact absurd h (by decide)
  · intro h
    obtain ⟨k, hk, e⟩ := tb_some h
    exact nI_lt2 (a := 0) (fb_ct_pos.mpr ⟨k, hk, e⟩) (by omega)
section LAWF
variable {n c E : Nat} {hm fs fr eg fe : Nat → Nat} {sd cc L : Nat} {ca ht ly : Nat → Nat} {co fl ra li re wa pi : Ob}
theorem AFX.c0 (h : AFX n c E hm fs fr eg fe sd cc L ca ht ly co fl ra li re wa pi) : gi co 0 = nI n := h.1
theorem AFX.F (h : AFX n c E hm fs fr eg fe sd cc L ca ht ly co fl ra li re wa pi) : FL n c E hm fs fr eg fe fl := h.2.1
theorem AFX.R (h : AFX n c E hm fs fr eg fe sd cc L ca ht ly co fl ra li re wa pi) : RK c E fr eg fl ra := h.2.2.1
theorem AFX.V (h : AFX n c E hm fs fr eg fe sd cc L ca ht ly co fl ra li re wa pi) : LV fl li := h.2.2.2.1
theorem AFX.s (h : AFX n c E hm fs fr eg fe sd cc L ca ht ly co fl ra li re wa pi) : sd ≤ 120 := h.2.2.2.2.1.1
theorem AFX.D (h : AFX n c E hm fs fr eg fe sd cc L ca ht ly co fl ra li re wa pi) : RDI sd fl re := h.2.2.2.2.1.2
theorem AFX.W (h : AFX n c E hm fs fr eg fe sd cc L ca ht ly co fl ra li re wa pi) : WK c E fr eg fl wa cc ca ht := h.2.2.2.2.2.1
theorem AFX.P (h : AFX n c E hm fs fr eg fe sd cc L ca ht ly co fl ra li re wa pi) : PIC E cc L fl wa ly ca pi := h.2.2.2.2.2.2.1
theorem AFX.zf (h : AFX n c E hm fs fr eg fe sd cc L ca ht ly co fl ra li re wa pi) : ¬ gi fl 2 = 0 := h.2.2.2.2.2.2.2.1
theorem AFX.zr (h : AFX n c E hm fs fr eg fe sd cc L ca ht ly co fl ra li re wa pi) : ¬ gi ra 2 = 0 := h.2.2.2.2.2.2.2.2.1
theorem AFX.zl (h : AFX n c E hm fs fr eg fe sd cc L ca ht ly co fl ra li re wa pi) : ¬ gi li 1 = 0 := h.2.2.2.2.2.2.2.2.2.1
theorem AFX.zd (h : AFX n c E hm fs fr eg fe sd cc L ca ht ly co fl ra li re wa pi) : ¬ gi re 1 = 0 := h.2.2.2.2.2.2.2.2.2.2.1
theorem AFX.zp (h : AFX n c E hm fs fr eg fe sd cc L ca ht ly co fl ra li re wa pi) : ¬ gi pi 3 = 0 := h.2.2.2.2.2.2.2.2.2.2.2
/-! the blocks of the instructions -/
theorem l1_lt (h : AFX n c E hm fs fr eg fe sd cc L ca ht ly co fl ra li re wa pi) {i : Nat} (hi : i < n) : ¬ nI i < 0 ∧ nI i < gi co 0 := by
  have := h.F.n19
  rw [h.c0]; exact ⟨nI_pos (by omega), nI_lt2 hi (by omega)⟩
theorem l1_nz {i : Nat} (hz : ¬ nI i = 0) : ∃ j, i = j + 1 := by
  cases i with
  | zero => exact absurd rfl hz
  | succ j => exact ⟨j, rfl⟩
theorem l1_hm (h : AFX n c E hm fs fr eg fe sd cc L ca ht ly co fl ra li re wa pi) {i : Nat} (hi : i < n) : rd (gA fl 0) 40 (nI i) = nI (hm i) := by
  have := h.F.n19
  rw [rd_nI (by omega) (by decide), h.F.1.2.2.2.1 i hi]
theorem l1_m (h : AFX n c E hm fs fr eg fe sd cc L ca ht ly co fl ra li re wa pi) {i : Nat} (hi : i < n) (hz : ¬ nI i = 0) : ¬ nI i - 1 < 0 ∧ nI i - 1 < gi co 0 := by
  have := h.F.n19
  obtain ⟨j, rfl⟩ := l1_nz hz
  rw [nI_pr (by omega), show j + 1 - 1 = j by omega]
  exact l1_lt h (by omega)
theorem l1_x (h : AFX n c E hm fs fr eg fe sd cc L ca ht ly co fl ra li re wa pi) {i : Nat} (hi : i < n) (hz : ¬ nI i = 0) :
    ∃ m, m < c ∧ m = min (c - 1) (hm (i - 1) + 1) ∧ imin (gi fl 0 - 1) (rd (gA fl 0) 40 (nI i - 1) + 1) = nI m ∧ rd (gA fl 0) 40 (nI i - 1) = nI (hm (i - 1)) := by
  have hn := h.F.n19
  have hc := h.F.c19
  obtain ⟨j, rfl⟩ := l1_nz hz
  have hj := (h.F.cut.2.2.1 j (by omega)).1
  rw [nI_pr (by omega), show j + 1 - 1 = j by omega, l1_hm h (by omega), h.F.bc, nI_pr (by omega), show (1 : Int32) = nI 1 from rfl, nI_add, imin_nI (by omega) (by omega)]
  exact ⟨_, by omega, rfl, rfl, rfl⟩
theorem l1_k (h : AFX n c E hm fs fr eg fe sd cc L ca ht ly co fl ra li re wa pi) {i : Nat} (hi : i < n) (hz : ¬ nI i = 0) :
    ¬ imin (gi fl 0 - 1) (rd (gA fl 0) 40 (nI i - 1) + 1) < 0 ∧ imin (gi fl 0 - 1) (rd (gA fl 0) 40 (nI i - 1) + 1) < gi fl 0 := by
  have hc := h.F.c19
  obtain ⟨m, h1, -, h2, -⟩ := l1_x h hi hz
  rw [h2, h.F.bc]; exact ⟨nI_pos (by omega), nI_lt2 h1 (by omega)⟩
theorem l1_a (h : AFX n c E hm fs fr eg fe sd cc L ca ht ly co fl ra li re wa pi) {i : Nat} (hi : i < n) (hz : nI i = 0) : rd (gA fl 0) 40 (nI i) = 0 := by
  have hn := h.F.n19
  have : i = 0 := nI_inj (b := 0) (by omega) (by decide) hz
  subst this
  rw [l1_hm h hi, (h.F.cut.2.1 hi).2.2]; rfl
theorem l1_b (h : AFX n c E hm fs fr eg fe sd cc L ca ht ly co fl ra li re wa pi) {i : Nat} (hi : i < n) (hz : ¬ nI i = 0) (hq : rd (gA fl 1) 40 (imin (gi fl 0 - 1) (rd (gA fl 0) 40 (nI i - 1) + 1)) = nI i) :
    rd (gA fl 0) 40 (nI i) = rd (gA fl 0) 40 (nI i - 1) + 1 := by
  have hn := h.F.n19
  have hc := h.F.c19
  obtain ⟨m, h1, h2, h3, h4⟩ := l1_x h hi hz
  obtain ⟨j, rfl⟩ := l1_nz hz
  rw [show j + 1 - 1 = j by omega] at h2 h4
  have hj := h.F.cut.2.2.1 j (by omega)
  have hf := h.F.cut.2.2.2.1 m h1
  rw [h3, rd_nI (by omega) (by decide), h.F.1.2.2.2.2 m h1] at hq
  have e := nI_inj (by omega) (by omega) hq
  rw [l1_hm h hi, h4, show (1 : Int32) = nI 1 from rfl, nI_add]
  have e2 := hf.2
  rw [e] at e2
  rw [e2]
  by_cases q : hm j + 1 ≤ c - 1
  · exact congrArg nI (by omega)
  · have e3 : m = hm j := by omega
    rw [e3] at e
    omega
theorem l1_c (h : AFX n c E hm fs fr eg fe sd cc L ca ht ly co fl ra li re wa pi) {i : Nat} (hi : i < n) (hz : ¬ nI i = 0) (hq : ¬ rd (gA fl 1) 40 (imin (gi fl 0 - 1) (rd (gA fl 0) 40 (nI i - 1) + 1)) = nI i) :
    rd (gA fl 0) 40 (nI i) = rd (gA fl 0) 40 (nI i - 1) + 0 := by
  have hn := h.F.n19
  have hc := h.F.c19
  obtain ⟨m, h1, h2, h3, h4⟩ := l1_x h hi hz
  obtain ⟨j, rfl⟩ := l1_nz hz
  rw [show j + 1 - 1 = j by omega] at h2 h4
  have hj := h.F.cut.2.2.1 (j + 1) (by omega)
  rw [h3, rd_nI (by omega) (by decide), h.F.1.2.2.2.2 m h1] at hq
  rw [l1_hm h hi, h4, Int32.add_zero]
  rcases h.F.cut.2.2.2.2 j (by omega) with e | ⟨e, e2⟩
  · rw [e]
  · exfalso
    apply hq
    have : m = hm (j + 1) := by omega
    rw [this, e2]
/-! the blocks -/
theorem l2_lt (h : AFX n c E hm fs fr eg fe sd cc L ca ht ly co fl ra li re wa pi) {i : Nat} (hi : i < c) : ¬ nI i < 0 ∧ nI i < gi fl 0 := by
  have := h.F.c19
  rw [h.F.bc]; exact ⟨nI_pos (by omega), nI_lt2 hi (by omega)⟩
theorem hs_t {x : Int64} {i : Nat} (hi : i < 64) (h : tb x i = true) : hs x (nI i) = true := by rw [hs_tb _ hi]; exact h
theorem hs_f {x : Int64} {i : Nat} (hi : i < 64) (h : tb x i = false) : ¬ hs x (nI i) = true := by rw [hs_tb _ hi, h]; decide
theorem l2_nr (h : AFX n c E hm fs fr eg fe sd cc L ca ht ly co fl ra li re wa pi) {i : Nat} (hi : i < c) (hr : tb (gl fl 0) i = false) : depth ra (nI i) = 0 ∧ placeB pi (nI i) = -1 ∧ rd (gA pi 0) 40 (nI i) = -1 ∧ rd (gA li 0) 40 (nI i) = 0 ∧ rd (gA re 0) 40 (nI i) = -1 := by
  have hc := h.F.c19
  have hp : rd (gA pi 0) 40 (nI i) = -1 := by
    rw [rd_nI (by omega) (by decide), h.P.1.2.2.2.1 i (by omega), if_neg (by rw [hr]; decide)]
  refine ⟨?_, ?_, hp, ?_, ?_⟩
  · rw [depth_ct (by omega), fb_ct_zero.mpr (fun k hk => ?_)]
    · rfl
    · cases q : tb (gB ra 1 k) i
      · rfl
      · exact absurd (h.R.2.1 k hk i q) (by rw [hr]; decide)
  · unfold placeB
    rw [hp, if_pos (by decide)]
  · rw [rd_nI (by omega) (by decide)]; exact h.V i (by omega) hr
  · rw [rd_nI (by omega) (by decide)]; exact h.D.2.2.2.1 i (by omega) hr
theorem l2_self (h : AFX n c E hm fs fr eg fe sd cc L ca ht ly co fl ra li re wa pi) {i : Nat} (hi : i < c) : hs (rdL (gB ra 0) 40 (nI i)) (nI i) = tb (gl fl 0) i := by
  have hc := h.F.c19
  rw [rdL_nI (by omega) (by decide), hs_tb _ (by omega)]
  exact self_ok h.F h.R hi
theorem l2_rr (h : AFX n c E hm fs fr eg fe sd cc L ca ht ly co fl ra li re wa pi) {i : Nat} (hi : i < c) (hr : tb (gl fl 0) i = true) :
    ¬ rd (gA re 0) 40 (nI i) < 0 ∧ rd (gA re 0) 40 (nI i) < gi fl 0 ∧ ¬ nI i < rd (gA re 0) 40 (nI i) ∧ rd (gA re 0) 40 (rd (gA re 0) 40 (nI i)) = rd (gA re 0) 40 (nI i) ∧ ¬ gi ra 0 < depth ra (nI i) ∧ (0 < bc (rdL (gB ra 1) 40 (nI i)) → ¬ depth ra (nI i) = 0) := by
  have hc := h.F.c19
  obtain ⟨g, g1, g2, g3⟩ := h.D.2.2.1 i (by omega) hr
  have g4 := (h.D.2.2.2.2.1 g g3).2
  have hd : fb_ct (fun k => tb (gB ra 1 k) i) 40 = fb_ct (fun k => tb (gB ra 1 k) i) c := ct_ext (by omega) (fun k hk hk2 => by rw [h.R.2.2.2.2.1 k hk hk2, tb_0])
  have hle := fb_ct_le (fun k => tb (gB ra 1 k) i) c
  have hle2 := fb_ct_le (fun k => decide (gB ra 1 k ≠ 0)) c
  refine ⟨?_, ?_, ?_, ?_, ?_, ?_⟩
  · rw [rd_nI (by omega) (by decide), g2]; exact nI_pos (by omega)
  · rw [rd_nI (by omega) (by decide), g2, h.F.bc]; exact nI_lt2 (by omega) (by omega)
  · rw [rd_nI (by omega) (by decide), g2]; exact nI_nlt2 g1 (by omega)
  · rw [rd_nI (i := i) (by omega) (by decide), g2, rd_nI (by omega) (by decide), g4]
  · rw [depth_ct (by omega), h.R.2.2.2.1, hd]
    refine nI_nlt2 (fb_ct_sub fun k hk q => ?_) (by omega)
    exact decide_eq_true (tb_ne q)
  · intro hb
    rw [depth_ct (by omega)]
    have hne := bc_pos.mp hb
    rw [rdL_nI (by omega) (by decide)] at hne
    have := h.R.2.2.1 i (by omega) hne
    have hp : 0 < fb_ct (fun k => tb (gB ra 1 k) i) 40 := fb_ct_pos.mpr ⟨i, by omega, this⟩
    intro z
    have := nI_inj (b := 0) (by omega) (by decide) z
    omega
/-- the three cases of a block, in the words of the code -/
theorem l2_case (h : AFX n c E hm fs fr eg fe sd cc L ca ht ly co fl ra li re wa pi) {i : Nat} (hi : i < c) :
    (¬ hs (gl fl 0) (nI i) = true ∧ ¬ nI i = 0 ∧ nearest ra (nI i) < 0 ∧ ¬ hs (rdL (gB ra 0) 40 (nI i)) (nI i) = true ∧ depth ra (nI i) = 0 ∧ placeB pi (nI i) = -1 ∧ rd (gA pi 0) 40 (nI i) = -1 ∧ rd (gA li 0) 40 (nI i) = 0 ∧ rd (gA re 0) 40 (nI i) = -1) ∨
    ((hs (gl fl 0) (nI i) = true ∧ hs (rdL (gB ra 0) 40 (nI i)) (nI i) = true ∧ ¬ rd (gA re 0) 40 (nI i) < 0 ∧ rd (gA re 0) 40 (nI i) < gi fl 0 ∧ ¬ nI i < rd (gA re 0) 40 (nI i) ∧ rd (gA re 0) 40 (rd (gA re 0) 40 (nI i)) = rd (gA re 0) 40 (nI i) ∧ ¬ gi ra 0 < depth ra (nI i) ∧ (0 < bc (rdL (gB ra 1) 40 (nI i)) → ¬ depth ra (nI i) = 0)) ∧
      ((nI i = 0 ∧ nearest ra (nI i) < 0) ∨ (¬ nI i = 0 ∧ ¬ nearest ra (nI i) < 0 ∧ nearest ra (nI i) < gi fl 0 ∧ hs (rdL (gB ra 0) 40 (nearest ra (nI i))) (nI i) = true ∧ ¬ hs (rdL (gB ra 0) 40 (nI i)) (nearest ra (nI i)) = true))) := by
  have hc := h.F.c19
  have hnz : i ≠ 0 → ¬ nI i = 0 := fun z q => z (nI_inj (b := 0) (by omega) (by decide) q)
  have hself := l2_self h hi
  cases hr : tb (gl fl 0) i with
  | false =>
    left
    rw [hr] at hself
    obtain ⟨n1, n2, n3, n4, n5⟩ := l2_nr h hi hr
    have hi0 : i ≠ 0 := fun z => by
      subst z
      rw [h.F.r_0 hi] at hr
      cases hr
    refine ⟨hs_f (by omega) hr, hnz hi0, ?_, by rw [hself]; decide, n1, n2, n3, n4, n5⟩
    rcases parent_ok h.F h.R hi with ⟨-, e⟩ | ⟨-, e, -⟩
    · rw [e]; decide
    · rw [hr] at e; cases e
  | true =>
    right
    rw [hr] at hself
    obtain ⟨r1, r2, r3, r4, r5, r6⟩ := l2_rr h hi hr
    refine ⟨⟨hs_t (by omega) hr, hself, r1, r2, r3, r4, r5, r6⟩, ?_⟩
    rcases parent_ok h.F h.R hi with ⟨e1, e⟩ | ⟨e1, -, d, hd, e2, e3, e4⟩
    · left
      rcases e1 with e1 | e1
      · subst e1
        exact ⟨rfl, by rw [e]; decide⟩
      · rw [hr] at e1; cases e1
    · right
      refine ⟨hnz e1, by rw [e2]; exact nI_pos (by omega), by rw [e2, h.F.bc]; exact nI_lt2 hd (by omega), ?_, ?_⟩
      · rw [e2, rdL_nI (by omega) (by decide), hs_tb _ (by omega)]; exact e3
      · rw [e2, rdL_nI (by omega) (by decide), hs_tb _ (by omega), e4]; decide
def abS (fl ra re : Ob) (i : Nat) (p : Int32 × Int32 × Int32) : Int32 × Int32 × Int32 :=
  (p.1 + (if hs (gl fl 0) (nI i) = true then 1 else 0), p.2.1 + (if 0 < bc (rdL (gB ra 1) 40 (nI i)) then 1 else 0), p.2.2 + (if rd (gA re 0) 40 (nI i) = nI i then 1 else 0))
theorem add_b {m : Nat} {P : Prop} [Decidable P] {b : Bool} (h : P ↔ b = true) : nI m + (if P then 1 else 0) = nI (m + if b = true then 1 else 0) := by
  by_cases q : P
  · rw [if_pos q, if_pos (h.mp q), show (1 : Int32) = nI 1 from rfl, nI_add]
  · rw [if_neg q, if_neg (fun z => q (h.mpr z)), Int32.add_zero]; rfl
theorem l2_sum (h : AFX n c E hm fs fr eg fe sd cc L ca ht ly co fl ra li re wa pi) : lp (abS fl ra re) c (0, 0, 0) = (bc (gl fl 0), gi ra 0, bc (gl re 0)) := by
  have hc := h.F.c19
  have key : lp (abS fl ra re) c (0, 0, 0) = (nI (fb_ct (tb (gl fl 0)) c), nI (fb_ct (fun k => decide (gB ra 1 k ≠ 0)) c), nI (fb_ct (tb (gl re 0)) c)) := by
    refine lp_ind (fun i p => p = (nI (fb_ct (tb (gl fl 0)) i), nI (fb_ct (fun k => decide (gB ra 1 k ≠ 0)) i), nI (fb_ct (tb (gl re 0)) i))) rfl (fun i p hi hp => ?_)
    rw [hp]
    unfold abS
    simp only
    rw [add_b (b := tb (gl fl 0) i) (by rw [hs_tb _ (by omega)]), add_b (b := decide (gB ra 1 i ≠ 0)) (by rw [bc_pos, rdL_nI (by omega) (by decide), decide_eq_true_iff]), add_b (b := tb (gl re 0) i) ?_]
    · rfl
    · rw [rd_nI (by omega) (by decide)]
      constructor
      · intro e
        cases q : tb (gl fl 0) i with
        | false => rw [h.D.2.2.2.1 i (by omega) q] at e; exact absurd (e.symm ▸ (by decide : (-1 : Int32) < 0)) (nI_pos (by omega))
        | true =>
          obtain ⟨g, g1, g2, g3⟩ := h.D.2.2.1 i (by omega) q
          rw [g2] at e
          rw [← nI_inj (by omega) (by omega) e]; exact g3
      · intro e; exact (h.D.2.2.2.2.1 i e).2
  rw [key, h.R.2.2.2.1, bc_ct, bc_ct]
  rw [ct_ext (p := tb (gl fl 0)) (m := c) (n := 64) (by omega) (fun k hk _ => by
    cases q : tb (gl fl 0) k
    · rfl
    · have := h.F.r_lt q; omega)]
  rw [ct_ext (p := tb (gl re 0)) (m := c) (n := 64) (by omega) (fun k hk _ => by
    cases q : tb (gl re 0) k
    · rfl
    · have := h.F.r_lt (h.D.2.2.2.2.1 k q).1; omega)]
theorem neat_t {x y : Int32} (e : x = y) (h : x = 1) : b2i (decide (y = 1)) = 1 := by
  subst e
  rw [decide_eq_true h]; rfl
theorem neat_f {x y : Int32} (e : x = y) (h : ¬ x = 1) : b2i (decide (y = 1)) = 0 := by
  subst e
  rw [decide_eq_false h]; rfl
theorem l2_steps (h : AFX n c E hm fs fr eg fe sd cc L ca ht ly co fl ra li re wa pi) (z : gi re 0 = 0) : (lp (abS fl ra re) c (0, 0, 0)).1 ≤ (lp (abS fl ra re) c (0, 0, 0)).2.2 := by
  have := h.s
  rw [h.D.1] at z
  rw [l2_sum h, h.D.2.1 (nI_inj (b := 0) (by omega) (by decide) z)]
  exact Int32.le_refl _
/-! the edges -/
theorem e_lt (h : AFX n c E hm fs fr eg fe sd cc L ca ht ly co fl ra li re wa pi) {i : Nat} (hi : i < E) : ¬ nI i < 0 ∧ nI i < gi fl 1 := by
  have := h.F.e57
  rw [h.F.ec]; exact ⟨nI_pos (by omega), nI_lt2 hi (by omega)⟩
theorem e_pos (h : AFX n c E hm fs fr eg fe sd cc L ca ht ly co fl ra li re wa pi) {i : Nat} (hi : i < E) (h0 : 0 < nI i) : ∃ j, i = j + 1 ∧ nI i - 1 = nI j := by
  cases i with
  | zero => exact absurd h0 (by decide)
  | succ j => exact ⟨j, rfl, nI_pr (by omega)⟩
theorem e_m (h : AFX n c E hm fs fr eg fe sd cc L ca ht ly co fl ra li re wa pi) {i : Nat} (hi : i < E) (h0 : 0 < nI i) : ¬ nI i - 1 < 0 ∧ nI i - 1 < gi fl 1 := by
  obtain ⟨j, rfl, e⟩ := e_pos h hi h0
  rw [e]; exact e_lt h (by omega)
theorem e_ord (h : AFX n c E hm fs fr eg fe sd cc L ca ht ly co fl ra li re wa pi) {i : Nat} (hi : i < E) (h0 : 0 < nI i) : ¬ rd (gA fl 3) 80 (nI i) < rd (gA fl 3) 80 (nI i - 1) := by
  have hc := h.F.c19
  obtain ⟨j, rfl, e⟩ := e_pos h hi h0
  have := (h.F.edge hi).2.2.1
  rw [e, h.F.rdf hi, h.F.rdf (by omega)]
  exact nI_nlt2 (h.F.2.2.2.2.1 j hi).1 (by omega)
theorem tv_inj {a b : Nat} (ha : a ≤ 40) (hb : b ≤ 40) (h : tv a = tv b) : a = b := by
  by_cases qa : a = 40
  · by_cases qb : b = 40
    · omega
    · exact absurd ((tv_neg ha).mpr qa) (by rw [h, tv_nI qb]; exact nI_pos (by omega))
  · by_cases qb : b = 40
    · exact absurd ((tv_neg hb).mpr qb) (by rw [← h, tv_nI qa]; exact nI_pos (by omega))
    · rw [tv_nI qa, tv_nI qb] at h
      exact nI_inj (by omega) (by omega) h
theorem e_dif (h : AFX n c E hm fs fr eg fe sd cc L ca ht ly co fl ra li re wa pi) {i : Nat} (hi : i < E) (h0 : 0 < nI i) (hq : rd (gA fl 3) 80 (nI i) = rd (gA fl 3) 80 (nI i - 1)) : ¬ rd (gA fl 4) 80 (nI i) = rd (gA fl 4) 80 (nI i - 1) := by
  have hc := h.F.c19
  obtain ⟨j, rfl, e⟩ := e_pos h hi h0
  have f1 := (h.F.edge hi).2.2.1
  have f2 := (h.F.edge (e := j) (by omega)).2.2.1
  rw [e, h.F.rdf hi, h.F.rdf (by omega)] at hq
  rw [e, h.F.rdt hi, h.F.rdt (by omega)]
  intro z
  exact (h.F.2.2.2.2.1 j hi).2 (nI_inj (by omega) (by omega) hq).symm (tv_inj (h.F.g40 (by omega)) (h.F.g40 (by omega)) z.symm)
theorem e_from (h : AFX n c E hm fs fr eg fe sd cc L ca ht ly co fl ra li re wa pi) {i : Nat} (hi : i < E) : ¬ rd (gA fl 3) 80 (nI i) < 0 ∧ rd (gA fl 3) 80 (nI i) < gi fl 0 := by
  have hc := h.F.c19
  have := (h.F.edge hi).2.2.1
  rw [h.F.rdf hi, h.F.bc]; exact ⟨nI_pos (by omega), nI_lt2 this (by omega)⟩
theorem e_to (h : AFX n c E hm fs fr eg fe sd cc L ca ht ly co fl ra li re wa pi) {i : Nat} (hi : i < E) : rd (gA fl 4) 80 (nI i) < gi fl 0 := by
  have hc := h.F.c19
  have := (h.F.edge hi).2.2
  rw [h.F.rdt hi, h.F.bc]
  rcases this.2 with q | q
  · rw [tv_nI (by omega)]; exact nI_lt2 q (by omega)
  · have hn : tv (eg i) < 0 := (tv_neg (h.F.g40 hi)).mpr q
    rw [Int32.lt_iff_toInt_lt] at hn ⊢
    rw [nI_toInt (by omega)]
    have : (0 : Int32).toInt = 0 := by decide
    omega
theorem e_tn (h : AFX n c E hm fs fr eg fe sd cc L ca ht ly co fl ra li re wa pi) {i : Nat} (hi : i < E) (h0 : ¬ rd (gA fl 4) 80 (nI i) < 0) : eg i < c ∧ rd (gA fl 4) 80 (nI i) = nI (eg i) := by
  have hc := h.F.c19
  have hg := h.F.g40 hi
  rw [h.F.rdt hi] at h0 ⊢
  have hne : eg i ≠ 40 := fun z => h0 ((tv_neg hg).mpr z)
  refine ⟨?_, tv_nI hne⟩
  rcases (h.F.edge hi).2.2.2 with q | q
  · exact q
  · exact absurd q hne
theorem e_rt (h : AFX n c E hm fs fr eg fe sd cc L ca ht ly co fl ra li re wa pi) {i : Nat} (hi : i < E) (h0 : ¬ rd (gA fl 4) 80 (nI i) < 0) (hr : hs (gl fl 0) (rd (gA fl 3) 80 (nI i)) = true) : hs (gl fl 0) (rd (gA fl 4) 80 (nI i)) = true := by
  have hc := h.F.c19
  obtain ⟨g1, g2⟩ := e_tn h hi h0
  have f1 := (h.F.edge hi).2.2.1
  rw [h.F.rdf hi, hs_tb _ (by omega)] at hr
  rw [g2, hs_tb _ (by omega)]
  exact h.F.r_edge hi hr (by omega)
theorem e_bk (h : AFX n c E hm fs fr eg fe sd cc L ca ht ly co fl ra li re wa pi) {i : Nat} (h0 : rd (gA fl 4) 80 (nI i) < 0) : ¬ goesBack ra fl (nI i) = true := by
  unfold goesBack
  rw [if_pos h0]; decide
theorem e_dm (h : AFX n c E hm fs fr eg fe sd cc L ca ht ly co fl ra li re wa pi) {i : Nat} (h0 : ¬ rd (gA fl 4) 80 (nI i) < 0) (hb : goesBack ra fl (nI i) = true) : hs (rdL (gB ra 0) 40 (rd (gA fl 4) 80 (nI i))) (rd (gA fl 3) 80 (nI i)) = true := by
  unfold goesBack at hb
  rw [if_neg h0] at hb
  exact hb
theorem e_lp (h : AFX n c E hm fs fr eg fe sd cc L ca ht ly co fl ra li re wa pi) {i : Nat} (hi : i < E) (h0 : ¬ rd (gA fl 4) 80 (nI i) < 0) (hb : goesBack ra fl (nI i) = true) : ¬ bc (rdL (gB ra 1) 40 (rd (gA fl 4) 80 (nI i))) = 0 := by
  have hc := h.F.c19
  have hd := e_dm h h0 hb
  obtain ⟨g1, g2⟩ := e_tn h hi h0
  have f1 := (h.F.edge hi).2.2.1
  rw [g2, h.F.rdf hi, rdL_nI (by omega) (by decide), hs_tb _ (by omega)] at hd
  rw [g2, rdL_nI (by omega) (by decide)]
  have hr : tb (gl fl 0) (fr i) = true := by
    rw [h.R.1 (eg i) (by omega)] at hd
    by_cases q : tb (gl fl 0) (eg i) = true
    · rw [if_pos q, ruled_tb, Bool.and_eq_true] at hd
      exact hd.1
    · rw [if_neg q, tb_0] at hd; cases hd
  have := bc_pos.mpr (h.R.2.2.2.2.2 i hi g1 hr hd)
  intro z
  rw [z] at this
  exact absurd this (by decide)
/-! the windings -/
theorem l2_w0 (h : AFX n c E hm fs fr eg fe sd cc L ca ht ly co fl ra li re wa pi) (z : gi co 0 = 0) : windings fl = 0 := by
  have hn := h.F.n19
  rw [h.c0] at z
  have hn0 : n = 0 := nI_inj (b := 0) (by omega) (by decide) z
  have hc0 : c = 0 := by have := h.F.cut.1; omega
  unfold windings
  rw [if_pos (by rw [h.F.bc, hc0]; rfl)]
theorem l2_w1 (h : AFX n c E hm fs fr eg fe sd cc L ca ht ly co fl ra li re wa pi) (z : ¬ gi co 0 = 0) : windings fl = lp (windStep fl) E 0 - (lp (abS fl ra re) c (0, 0, 0)).1 + 1 := by
  have hn := h.F.n19
  have he := h.F.e57
  have hn0 : 0 < n := by
    apply Nat.pos_of_ne_zero
    intro q
    apply z
    rw [h.c0, q]; rfl
  have hc0 := (h.F.cut.2.1 hn0).1
  have hc := h.F.c19
  unfold windings
  rw [if_neg (by rw [h.F.bc]; exact fun q => by have := nI_inj (b := 0) (by omega) (by decide) q; omega), h.F.ec, nN_nI (by omega), l2_sum h]
  generalize lp (windStep fl) E 0 = x
  show x - bc (gl fl 0) - 1 + 2 = x - bc (gl fl 0) + 1
  generalize x - bc (gl fl 0) = y
  rw [show (2 : Int32) = 1 + 1 from rfl, ← Int32.add_assoc, Int32.sub_add_cancel]
end LAWF
