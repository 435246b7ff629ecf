/-! ===== the mean is a number ===== -/
theorem rr_ok (s : Bool) (num den : Nat) (e : Int) : (∃ t, FP.Core.roundRatio FP.Core.b64 s num den e = .inf t) ∨ ∃ c q, FP.Core.roundRatio FP.Core.b64 s num den e = .fin s c q ∧ c < 2 ^ 53 ∧ q ≤ 971 ∧ -1074 ≤ q := by
  unfold FP.Core.roundRatio
  split
  · exact Or.inr ⟨0, _, rfl, by decide, by decide, by decide⟩
  · unfold FP.Core.roundAt FP.Core.settle
    have hq : -1074 ≤ FP.Core.quantum FP.Core.b64 num den e := by
      unfold FP.Core.quantum
      exact Int.le_trans (by decide) (Int.le_max_left _ _)
    generalize FP.Core.quantum FP.Core.b64 num den e = q at hq ⊢
    generalize FP.Core.nearest (FP.Core.unitsNum num e q) (FP.Core.unitsDen den e q) = c
    have h971 : FP.Core.b64.qmax = 971 := by decide
    unfold FP.Core.bound
    rw [h971]
    split
    · rename_i hc
      split
      · rename_i hq2
        exact Or.inr ⟨c, q, rfl, hc, hq2, hq⟩
      · exact Or.inl ⟨_, rfl⟩
    · split
      · rename_i hq2
        exact Or.inr ⟨_, q + 1, rfl, by decide, hq2, by omega⟩
      · exact Or.inl ⟨_, rfl⟩
theorem enc_ok {d : FP.Core.Datum} (h : (∃ t, d = .inf t) ∨ ∃ s c q, d = .fin s c q ∧ c < 2 ^ 53 ∧ q ≤ 971 ∧ -1074 ≤ q) : FP.Core.encode FP.Core.b64 d % 9223372036854775808 ≤ 9218868437227405312 ∧ FP.Core.encode FP.Core.b64 d < 18446744073709551616 := by
  rcases h with ⟨t, rfl⟩ | ⟨s, c, q, rfl, hc, h1, h2⟩
  · cases t <;> decide
  · have e1 : FP.Core.b64.tails = 4503599627370496 := by decide
    have e2 : FP.Core.b64.exps = 2048 := by decide
    have e3 : FP.Core.b64.qmin = -1074 := by decide
    have hs : s.toNat ≤ 1 := by cases s <;> decide
    unfold FP.Core.encode FP.Core.assemble
    simp only
    rw [e1, e2, e3]
    generalize s.toNat = b at hs
    split
    · omega
    · have : (q - -1074).toNat ≤ 2045 := by omega
      generalize (q - -1074).toNat = z at this
      omega
theorem n64_of {n : Nat} (h1 : n % 9223372036854775808 ≤ 9218868437227405312) (h2 : n < 18446744073709551616) : vf_n64 (UInt64.ofNat n) := by
  unfold vf_n64
  rw [UInt64.le_iff_toNat_le, UInt64.toNat_and]
  have e : (UInt64.ofNat n).toNat = n := Nat.mod_eq_of_lt h2
  have e2 : (0x7fffffffffffffff : UInt64).toNat = 2 ^ 63 - 1 := by decide
  have e3 : (0x7ff0000000000000 : UInt64).toNat = 9218868437227405312 := by decide
  rw [e, e2, e3, Nat.and_two_pow_sub_one_eq_mod]
  exact h1
def isFin (d : FP.Core.Datum) : Bool := match d with
  | .fin _ _ _ => true
  | _ => false
def isPos (d : FP.Core.Datum) : Bool := match d with
  | .fin _ c _ => decide (c ≠ 0)
  | _ => false
theorem fin_all : ∀ a, a < 1100 → isFin (FP.Core.decode FP.Core.b64 (FP.i2d (nI a)).toNat) = true := by decide +kernel
theorem pos_all : ∀ b, b < 58 → b ≠ 0 → isPos (FP.Core.decode FP.Core.b64 (FP.i2d (nI b)).toNat) = true := by decide +kernel
theorem mean_n64 {a b : Nat} (ha : a < 1100) (hb : b < 58) (hb0 : b ≠ 0) : vf_n64 (FP.ddiv (FP.i2d (nI a)) (FP.i2d (nI b))) := by
  have h1 := fin_all a ha
  have h2 := pos_all b hb hb0
  show vf_n64 (UInt64.ofNat (FP.Core.encode FP.Core.b64 (FP.Core.quotient FP.Core.b64 (FP.Core.decode FP.Core.b64 (FP.i2d (nI a)).toNat) (FP.Core.decode FP.Core.b64 (FP.i2d (nI b)).toNat))))
  generalize FP.Core.decode FP.Core.b64 (FP.i2d (nI a)).toNat = x at h1 ⊢
  generalize FP.Core.decode FP.Core.b64 (FP.i2d (nI b)).toNat = y at h2 ⊢
  cases x with
  | nan => cases h1
  | inf s => cases h1
  | fin s c q =>
    cases y with
    | nan => cases h2
    | inf s => cases h2
    | fin t d r =>
      have hd : d ≠ 0 := of_decide_eq_true h2
      unfold FP.Core.quotient
      simp only
      rw [if_neg hd]
      have key := enc_ok (d := FP.Core.roundRatio FP.Core.b64 (s != t) c d (q - r)) (by
        rcases rr_ok (s != t) c d (q - r) with h | ⟨c2, q2, h⟩
        · exact Or.inl h
        · exact Or.inr ⟨_, c2, q2, h⟩)
      exact n64_of key.1 key.2
theorem dcmp_self {r : UInt64} (h : vf_n64 r) : FP.dcmp r r = some .eq := by
  unfold vf_n64 at h
  rw [UInt64.le_iff_toNat_le, UInt64.toNat_and] at h
  have e2 : (0x7fffffffffffffff : UInt64).toNat = 2 ^ 63 - 1 := by decide
  have e3 : (0x7ff0000000000000 : UInt64).toNat = 9218868437227405312 := by decide
  rw [e2, e3, Nat.and_two_pow_sub_one_eq_mod] at h
  show FP.Core.order (FP.Core.decode FP.Core.b64 r.toNat) (FP.Core.decode FP.Core.b64 r.toNat) = some .eq
  have hn : FP.Core.decode FP.Core.b64 r.toNat ≠ .nan := by
    unfold FP.Core.decode FP.Core.fieldE FP.Core.fieldT
    have t1 : FP.Core.b64.tails = 4503599627370496 := by decide
    have t2 : FP.Core.b64.exps = 2048 := by decide
    rw [t1, t2]
    split
    · rename_i he
      rw [if_pos (by omega)]
      exact fun z => by cases z
    · split
      · exact fun z => by cases z
      · exact fun z => by cases z
  generalize FP.Core.decode FP.Core.b64 r.toNat = d at hn
  cases d with
  | nan => exact absurd rfl hn
  | inf s => simp [FP.Core.order, compare, compareOfLessAndEq]
  | fin s c q => simp [FP.Core.order, compare, compareOfLessAndEq]
theorem n64_0 : vf_n64 FP.dconst0 := by unfold vf_n64; decide
