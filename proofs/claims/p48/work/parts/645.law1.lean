/-! ===== the law's own numbers ===== -/
def blw (v n : Int32) : Int32 := (v &&& 2147483647) - (v &&& 2147483647) / n * n
theorem blw_nI (v : Int32) {m : Nat} (h0 : 0 < m) (hm : m < 2 ^ 31) : ∃ j, j < m ∧ blw v (nI m) = nI j := by
  obtain ⟨k, hk, e⟩ := pk_andE v (m := 2147483647) 31 (by decide)
  unfold blw
  rw [e, pk_rem hk h0 hm]
  exact ⟨k % m, Nat.mod_lt _ h0, rfl⟩
theorem i_lt_nle {x y : Int32} (h : x < y) : ¬ y ≤ x := fun z => by
  rw [Int32.lt_iff_toInt_lt] at h
  rw [Int32.le_iff_toInt_le] at z
  omega
theorem i_nlt_le {x y : Int32} (h : ¬ x < y) : y ≤ x := i_ge' h
theorem nI_nneg {j : Nat} (h : j < 2 ^ 31) : ¬ nI j < 0 := nI_pos h
theorem nI_lt2 {a b : Nat} (h : a < b) (hb : b < 2 ^ 31) : nI a < nI b := (nI_ltI (by omega) hb).mpr h
theorem nI_nlt2 {a b : Nat} (h : b ≤ a) (ha : a < 2 ^ 31) : ¬ nI a < nI b := fun z => by
  have := (nI_ltI ha (by omega)).mp z
  omega
theorem nI_max1 (n : Nat) (hn : n < 2 ^ 31) : imax 1 (nI n) = nI (max 1 n) := by
  unfold imax
  by_cases h : 1 < n
  · rw [if_pos (show (1 : Int32) < nI n from nI_lt2 (a := 1) h hn), show max 1 n = n by omega]
  · rw [if_neg (show ¬ (1 : Int32) < nI n from nI_nlt2 (a := 1) (by omega) (by decide)), show max 1 n = 1 by omega]; rfl
theorem isT_nI {j : Nat} (h : j ≤ 40) : isT (nI j) = true := by
  unfold isT
  rw [decide_eq_true (show ¬ nI j < 0 from nI_pos (by omega)), decide_eq_true (show ¬ 40 < nI j from nI_nlt2 (a := 40) (b := j) h (by decide))]
  rfl
/-- what act asks for -/
theorem act_k {n : Nat} (hn : n ≤ 19) (v : Int32) : ∃ j, j < max 1 n ∧ blw v (imax 1 (nI n)) = nI j := by
  rw [nI_max1 n (by omega)]
  exact blw_nI v (by omega) (by omega)
theorem act_k0 {n : Nat} {co : Ob} (hc : gi co 0 = nI n) (hn : n ≤ 19) (v : Int32) : ¬ blw v (imax 1 (gi co 0)) < 0 := by
  obtain ⟨j, hj, e⟩ := act_k hn v
  rw [hc, e]; exact nI_pos (by omega)
theorem act_k1 {n : Nat} {co : Ob} (hc : gi co 0 = nI n) (hn : n ≤ 19) (h0 : 0 < n) (v : Int32) : blw v (imax 1 (gi co 0)) < gi co 0 := by
  obtain ⟨j, hj, e⟩ := act_k hn v
  rw [hc, e]; exact nI_lt2 (by omega) (by omega)
theorem act_kn {n : Nat} {co : Ob} (hc : gi co 0 = nI n) (h0 : n = 0) (v : Int32) : ¬ blw v (imax 1 (gi co 0)) < gi co 0 := by
  obtain ⟨j, hj, e⟩ := act_k (n := n) (by omega) v
  rw [hc, e]; exact nI_nlt2 (by omega) (by omega)
theorem act_ne {n : Nat} {co : Ob} (hc : gi co 0 = nI n) (hn : n ≤ 19) : ¬ imax 1 (gi co 0) = 0 := by
  rw [hc, nI_max1 n (by omega)]
  exact fun z => by have := nI_inj (b := 0) (by omega) (by decide) z; omega
theorem act_ni {n : Nat} {co : Ob} (hc : gi co 0 = nI n) (hn : n ≤ 19) (k : Nat) (h0 : 0 < k) (hk : k ≤ 100) {y : Int32} (hy : y = nI k) : ¬ gi co 0 + y = 0 := by
  rw [hc, hy, nI_add]
  exact fun z => by have := nI_inj (b := 0) (by omega) (by decide) z; omega
/-- insert -/
theorem ins_p {n : Nat} {co : Ob} (hc : gi co 0 = nI n) (hn : n ≤ 19) (v : Int32) : ¬ blw v (gi co 0 + 1) < 0 ∧ ¬ gi co 0 < blw v (gi co 0 + 1) := by
  rw [hc, show (1 : Int32) = nI 1 from rfl, nI_add]
  obtain ⟨j, hj, e⟩ := blw_nI v (m := n + 1) (by omega) (by omega)
  rw [e]; exact ⟨nI_pos (by omega), nI_nlt2 (by omega) (by omega)⟩
theorem ins_k (v : Int32) : ¬ blw v 7 / 2 < 0 ∧ ¬ 3 < blw v 7 / 2 := by
  obtain ⟨j, hj, e⟩ := blw_nI v (m := 7) (by decide) (by decide)
  rw [show (7 : Int32) = nI 7 from rfl, e, show (2 : Int32) = nI 2 from rfl, pk_div (by omega) (by decide) (by decide)]
  exact ⟨nI_pos (by omega), nI_nlt2 (a := 3) (b := j / 2) (by omega) (by decide)⟩
theorem tgt_ok {n : Nat} {co : Ob} (hc : gi co 0 = nI n) (hn : n ≤ 19) (v : Int32) (k : Nat) (h0 : 0 < k) (hk : k ≤ 3) {y : Int32} (hy : y = nI k) : isT (blw v (gi co 0 + y)) = true := by
  rw [hc, hy, nI_add]
  obtain ⟨j, hj, e⟩ := blw_nI v (m := n + k) (by omega) (by omega)
  rw [e]; exact isT_nI (by omega)
theorem ins_c {n : Nat} {co : Ob} (hc : gi co 0 = nI n) (hn : n ≤ 19) : gi co 0 < 40 := by
  rw [hc]; exact nI_lt2 (b := 40) (by omega) (by decide)
theorem ins_n {n : Nat} {co : Ob} (hc : gi co 0 = nI n) (hn : n ≤ 19) (h : ¬ 18 < gi co 0) : n + 1 ≤ 19 := by
  rw [hc] at h
  have h2 : ¬ 18 < n := fun z => h (nI_lt2 (a := 18) (b := n) z (by omega))
  omega
theorem ins_0 {n : Nat} {co : Ob} (hc : gi co 0 = nI n) (p k t : Int32) : gi (coAdd co p k t) 0 = nI (n + 1) := by
  rw [coAdd_n, hc, show (1 : Int32) = nI 1 from rfl, nI_add]
theorem rem_0 {n : Nat} {co : Ob} (hc : gi co 0 = nI n) (h0 : 0 < n) (k : Int32) : gi (coDrop co k) 0 = nI (n - 1) := by
  rw [coDrop_n, hc, show (1 : Int32) = nI 1 from rfl, pk_sub (by omega)]
/-- setUse -/
theorem use_s (v : Int32) : ¬ blw v 9 - 1 < -1 ∧ ¬ 7 < blw v 9 - 1 := by
  obtain ⟨j, hj, e⟩ := blw_nI v (m := 9) (by decide) (by decide)
  rw [show (9 : Int32) = nI 9 from rfl, e]
  have : j = 0 ∨ j = 1 ∨ j = 2 ∨ j = 3 ∨ j = 4 ∨ j = 5 ∨ j = 6 ∨ j = 7 ∨ j = 8 := by omega
  rcases this with h | h | h | h | h | h | h | h | h <;> subst h <;> decide
theorem use_u (v : Int32) : ¬ blw v 256 < 0 ∧ ¬ 255 < blw v 256 := by
  obtain ⟨j, hj, e⟩ := blw_nI v (m := 256) (by decide) (by decide)
  rw [show (256 : Int32) = nI 256 from rfl, e]
  exact ⟨nI_pos (by omega), nI_nlt2 (a := 255) (by omega) (by decide)⟩
/-- sweeps -/
theorem swp_m (v : Int32) : ¬ 1 + blw v 3 < 1 ∧ ¬ 20 < 1 + blw v 3 ∧ nI (nN (1 + blw v 3)) = 1 + blw v 3 := by
  obtain ⟨j, hj, e⟩ := blw_nI v (m := 3) (by decide) (by decide)
  rw [show (3 : Int32) = nI 3 from rfl, e]
  have : j = 0 ∨ j = 1 ∨ j = 2 := by omega
  rcases this with h | h | h <;> subst h <;> decide
/-- the switch -/
theorem sw_j (v : Int32) : ∃ j, j < 12 ∧ blw v 12 = nI j := blw_nI v (m := 12) (by decide) (by decide)
