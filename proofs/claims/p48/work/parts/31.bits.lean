/-! ===== sets as longs ===== -/
def tb (x : Int64) (k : Nat) : Bool := x.toBitVec.getLsbD k
theorem tb_ext {x y : Int64} (h : ∀ k, k < 64 → tb x k = tb y k) : x = y := Int64.toBitVec_inj.mp (BitVec.eq_of_getLsbD_eq (fun i hi => h i hi))
theorem tb_big {x : Int64} {k : Nat} (h : 64 ≤ k) : tb x k = false := BitVec.getLsbD_of_ge _ _ h
theorem tb_lt {x : Int64} {k : Nat} (h : tb x k = true) : k < 64 := by
  rcases Nat.lt_or_ge k 64 with q | q
  · exact q
  · rw [tb_big q] at h; cases h
theorem tb_or (x y : Int64) (k : Nat) : tb (x ||| y) k = (tb x k || tb y k) := by unfold tb; rw [Int64.toBitVec_or, BitVec.getLsbD_or]
theorem tb_and (x y : Int64) (k : Nat) : tb (x &&& y) k = (tb x k && tb y k) := by unfold tb; rw [Int64.toBitVec_and, BitVec.getLsbD_and]
theorem tb_0 (k : Nat) : tb 0 k = false := BitVec.getLsbD_zero
theorem tb_m1 : ∀ k, k < 64 → tb (-1) k = true := by decide +kernel
theorem tb_not (x : Int64) {k : Nat} (hk : k < 64) : tb (x ^^^ (-1)) k = !tb x k := by
  have h := tb_m1 k hk
  unfold tb at *
  rw [Int64.toBitVec_xor, BitVec.getLsbD_xor, h, Bool.xor_true]
theorem tb_notB (x : Int64) (k : Nat) : tb (x ^^^ (-1)) k = (decide (k < 64) && !tb x k) := by
  by_cases h : k < 64
  · rw [tb_not x h, decide_eq_true h, Bool.true_and]
  · rw [tb_big (by omega), decide_eq_false h, Bool.false_and]
/-- x without y -/
theorem tb_sub (x y : Int64) (k : Nat) : tb (x &&& (y ^^^ (-1))) k = (tb x k && !tb y k) := by
  rw [tb_and, tb_notB]
  cases hx : tb x k
  · rfl
  · rw [decide_eq_true (tb_lt hx), Bool.true_and]
theorem tb_lN (n k : Nat) : tb (lN n) k = (decide (k < 64) && n.testBit k) := by unfold tb; rw [wb_tb, BitVec.getLsbD_ofNat]
theorem bitL_lN {n : Nat} (h : n < 64) : bitL (nI n) = lN (2 ^ n) := by
  show lN 1 <<< ((nI n).toInt64 &&& 63) = lN (2 ^ n)
  rw [wb_shl 1 h, Nat.one_mul]
theorem tb_bit {n : Nat} (h : n < 64) (k : Nat) : tb (bitL (nI n)) k = decide (k = n) := by
  rw [bitL_lN h, tb_lN, Nat.testBit_two_pow]
  by_cases e : k = n
  · subst e; simp [h]
  · rw [decide_eq_false e, decide_eq_false (p := n = k) (fun z => e z.symm), Bool.and_false]
theorem tb_1 (k : Nat) : tb 1 k = decide (k = 0) := by
  have h := tb_bit (n := 0) (by decide) k
  rwa [show bitL (nI 0) = 1 from rfl] at h
theorem hs_tb (x : Int64) {n : Nat} (h : n < 64) : hs x (nI n) = tb x n := by
  unfold hs us
  rw [wb_cu n h]
  have e := ts_bit (w := x) (s := UInt64.ofNat n) (j := n) h (Nat.mod_eq_of_lt (by omega))
  cases hb : tb x n
  · exact decide_eq_false (not_not_intro (e.mpr hb))
  · refine decide_eq_true (fun z => ?_)
    have h9 := e.mp z
    unfold tb at hb
    rw [hb] at h9
    cases h9
theorem tb_ne {x : Int64} {k : Nat} (h : tb x k = true) : x ≠ 0 := fun z => by rw [z, tb_0] at h; cases h
theorem tb_some {x : Int64} (h : x ≠ 0) : ∃ k, k < 64 ∧ tb x k = true := by
  refine Classical.byContradiction fun z => h (tb_ext fun k hk => ?_)
  rw [tb_0]
  cases hb : tb x k
  · rfl
  · exact absurd ⟨k, hk, hb⟩ z
theorem tb_none {x : Int64} (h : ∀ k, k < 64 → tb x k = false) : x = 0 := tb_ext fun k hk => by rw [h k hk, tb_0]
/-! ===== how many: the machine's count is the count ===== -/
def rep (c : Nat) : Nat → Nat
  | 0 => 0
  | k + 1 => 256 * rep c k + c
theorem rep_s (c k : Nat) : rep c (k + 1) = 256 * rep c k + c := rfl
theorem land_split {a b c d : Nat} (hb : b < 256) (hd : d < 256) : (256 * a + b) &&& (256 * c + d) = 256 * (a &&& c) + (b &&& d) := by
  have h1 := @Nat.and_div_two_pow (256 * a + b) (256 * c + d) 8
  have h2 := @Nat.and_mod_two_pow (256 * a + b) (256 * c + d) 8
  rw [show (2 : Nat) ^ 8 = 256 from rfl] at h1 h2
  rw [show (256 * a + b) / 256 = a by omega, show (256 * c + d) / 256 = c by omega] at h1
  rw [show (256 * a + b) % 256 = b by omega, show (256 * c + d) % 256 = d by omega] at h2
  omega
def A1 (k n : Nat) : Nat := n - (n / 2 &&& rep 85 k)
def A2 (k n : Nat) : Nat := (n &&& rep 51 k) + (n / 4 &&& rep 51 k)
def A3 (k n : Nat) : Nat := (n + n / 16) &&& rep 15 k
def B1 (b : Nat) : Nat := b - (b / 2 &&& 85)
def B2 (b : Nat) : Nat := (b &&& 51) + (b / 4 &&& 51)
def B3 (b : Nat) : Nat := (b + b / 16) &&& 15
def p8 (b : Nat) : Nat := fb_ct (fun i => b.testBit i) 8
theorem b85 : ∀ r, r < 2 → ∀ b, b < 256 → (128 * r + b / 2) &&& 85 = (b / 2 &&& 85) := by decide +kernel
theorem b51 : ∀ r, r < 4 → ∀ b, b < 256 → (64 * r + b / 4) &&& 51 = (b / 4 &&& 51) := by decide +kernel
theorem b15 : ∀ r, r < 5 → ∀ b, b < 256 → (B2 (B1 b) + 16 * r + B2 (B1 b) / 16) &&& 15 = p8 b ∧ B2 (B1 b) + 16 * r + B2 (B1 b) / 16 < 256 ∧ B2 (B1 b) % 16 < 5 ∧ B1 b < 256 ∧ B2 (B1 b) < 256 := by decide +kernel
theorem A1_s (k q b : Nat) (hb : b < 256) : A1 (k + 1) (256 * q + b) = 256 * A1 k q + B1 b := by
  unfold A1 B1
  rw [rep_s, show (256 * q + b) / 2 = 256 * (q / 2) + (128 * (q % 2) + b / 2) by omega, land_split (by omega) (by decide), b85 (q % 2) (by omega) b hb]
  have h1 : q / 2 &&& rep 85 k ≤ q / 2 := Nat.and_le_left
  have h2 : b / 2 &&& 85 ≤ b / 2 := Nat.and_le_left
  omega
theorem A2_s (k q b : Nat) (hb : b < 256) : A2 (k + 1) (256 * q + b) = 256 * A2 k q + B2 b := by
  unfold A2 B2
  rw [rep_s, show (256 * q + b) / 4 = 256 * (q / 4) + (64 * (q % 4) + b / 4) by omega, land_split hb (by decide), land_split (by omega) (by decide), b51 (q % 4) (by omega) b hb]
  omega
theorem A12 (k : Nat) : ∀ n, n < 256 ^ k → A2 k (A1 k n) % 16 < 5 := by
  cases k with
  | zero => intro n h; have e : n = 0 := by simpa using h
            subst e; decide
  | succ k =>
    intro n h
    have hb : n % 256 < 256 := Nat.mod_lt _ (by decide)
    have h9 := b15 0 (by decide) (n % 256) hb
    rw [show n = 256 * (n / 256) + n % 256 by omega, A1_s _ _ _ hb, A2_s _ _ _ h9.2.2.2.1]
    omega
def T8 : Nat → Nat → Nat
  | 0, _ => 0
  | k + 1, n => 256 * T8 k (n / 256) + p8 (n % 256)
def S8 : Nat → Nat → Nat
  | 0, _ => 0
  | k + 1, n => p8 (n % 256) + S8 k (n / 256)
theorem A3_T (k : Nat) : ∀ n, n < 256 ^ k → A3 k (A2 k (A1 k n)) = T8 k n := by
  induction k with
  | zero => intro n h; have e : n = 0 := by simpa using h
            subst e; decide
  | succ k ih =>
    intro n h
    have hb : n % 256 < 256 := Nat.mod_lt _ (by decide)
    have hq : n / 256 < 256 ^ k := by
      rw [Nat.pow_succ] at h
      omega
    have h5 := A12 k (n / 256) hq
    have h9 := b15 (A2 k (A1 k (n / 256)) % 16) h5 (n % 256) hb
    have hT := ih (n / 256) hq
    show _ = 256 * T8 k (n / 256) + p8 (n % 256)
    rw [← hT]
    rw [show A3 (k + 1) (A2 (k + 1) (A1 (k + 1) n)) = A3 (k + 1) (256 * A2 k (A1 k (n / 256)) + B2 (B1 (n % 256))) from by
      rw [← A2_s _ _ _ h9.2.2.2.1, ← A1_s _ _ _ hb, show 256 * (n / 256) + n % 256 = n by omega]]
    generalize A2 k (A1 k (n / 256)) = q at h5 h9 ⊢
    generalize B2 (B1 (n % 256)) = b at h9 ⊢
    unfold A3
    rw [rep_s, show 256 * q + b + (256 * q + b) / 16 = 256 * (q + q / 16) + (b + 16 * (q % 16) + b / 16) by omega, land_split h9.2.1 (by decide), h9.1]
theorem ct_bytes (k : Nat) : ∀ n, fb_ct (fun i => n.testBit i) (8 * k) = S8 k n := by
  induction k with
  | zero => intro n; rfl
  | succ k ih =>
    intro n
    rw [show 8 * (k + 1) = 8 + 8 * k by omega, fb_ct_split]
    show _ = p8 (n % 256) + S8 k (n / 256)
    rw [← ih (n / 256)]
    congr 1
    · unfold p8
      exact fb_ct_cong fun i hi => by
        rw [show (256 : Nat) = 2 ^ 8 from rfl, Nat.testBit_mod_two_pow, decide_eq_true hi, Bool.true_and]
    · exact fb_ct_cong fun i hi => by
        rw [show (256 : Nat) = 2 ^ 8 from rfl, Nat.testBit_div_two_pow, Nat.add_comm]
theorem p8_le (b : Nat) : p8 b ≤ 8 := fb_ct_le _ _
theorem dv256 {t a x : Nat} (h : t = a + 256 * x) (ha : a < 256) : t / 256 = x := by omega
theorem dv16 {t a x : Nat} (h : t = a + 65536 * x) (ha : a < 65536) : t / 65536 = x := by omega
theorem dv32 {t a x : Nat} (h : t = a + 4294967296 * x) (ha : a < 4294967296) : t / 4294967296 = x := by omega
theorem md128 {m s w : Nat} (h : m = s + 256 * w) (hs : s < 128) : m % 128 = s := by omega
theorem id1 (a0 a1 a2 a3 a4 a5 a6 a7 : Nat) : a0 + 256 * (a1 + 256 * (a2 + 256 * (a3 + 256 * (a4 + 256 * (a5 + 256 * (a6 + 256 * a7)))))) + (a1 + 256 * (a2 + 256 * (a3 + 256 * (a4 + 256 * (a5 + 256 * (a6 + 256 * a7)))))) = ((a0 + a1) + 256 * (a1 + a2)) + 65536 * ((a2 + a3) + 256 * ((a3 + a4) + 256 * ((a4 + a5) + 256 * ((a5 + a6) + 256 * ((a6 + a7) + 256 * a7))))) := by omega
theorem id2 (a0 a1 a2 a3 a4 a5 a6 a7 : Nat) : ((a0 + a1) + 256 * (a1 + a2)) + 65536 * ((a2 + a3) + 256 * ((a3 + a4) + 256 * ((a4 + a5) + 256 * ((a5 + a6) + 256 * ((a6 + a7) + 256 * a7))))) + ((a2 + a3) + 256 * ((a3 + a4) + 256 * ((a4 + a5) + 256 * ((a5 + a6) + 256 * ((a6 + a7) + 256 * a7))))) = ((a0 + a1 + a2 + a3) + 256 * (a1 + a2 + a3 + a4) + 65536 * (a2 + a3 + a4 + a5) + 16777216 * (a3 + a4 + a5 + a6)) + 4294967296 * ((a4 + a5 + a6 + a7) + 256 * ((a5 + a6 + a7) + 256 * ((a6 + a7) + 256 * a7))) := by omega
theorem id3 (b0 b1 b2 b3 z c4 y : Nat) (hz : z = c4 + 256 * y) : (b0 + 256 * b1 + 65536 * b2 + 16777216 * b3) + 4294967296 * z + z = (b0 + c4) + 256 * (b1 + 256 * b2 + 65536 * b3 + 16777216 * z + y) := by omega
section SB
variable {a0 a1 a2 a3 a4 a5 a6 a7 : Nat}
theorem sb1 (b0 : a0 ≤ 8) (b1 : a1 ≤ 8) (b2 : a2 ≤ 8) : a0 + a1 + 256 * (a1 + a2) < 65536 := by omega
theorem sb2 (b0 : a0 ≤ 8) (b1 : a1 ≤ 8) (b2 : a2 ≤ 8) (b3 : a3 ≤ 8) (b4 : a4 ≤ 8) (b5 : a5 ≤ 8) (b6 : a6 ≤ 8) : a0 + a1 + a2 + a3 + 256 * (a1 + a2 + a3 + a4) + 65536 * (a2 + a3 + a4 + a5) + 16777216 * (a3 + a4 + a5 + a6) < 4294967296 := by omega
theorem sb3 (b0 : a0 ≤ 8) (b1 : a1 ≤ 8) (b2 : a2 ≤ 8) (b3 : a3 ≤ 8) (b4 : a4 ≤ 8) (b5 : a5 ≤ 8) (b6 : a6 ≤ 8) (b7 : a7 ≤ 8) : a0 + a1 + a2 + a3 + (a4 + a5 + a6 + a7) < 128 := by omega
theorem sb4 (b0 : a0 ≤ 8) (b1 : a1 ≤ 8) (b2 : a2 ≤ 8) (b3 : a3 ≤ 8) (b4 : a4 ≤ 8) (b5 : a5 ≤ 8) (b6 : a6 ≤ 8) (b7 : a7 ≤ 8) : a0 + 256 * (a1 + 256 * (a2 + 256 * (a3 + 256 * (a4 + 256 * (a5 + 256 * (a6 + 256 * a7)))))) < 2 ^ 60 := by omega
theorem sb5 (a0 a1 a2 a3 a4 a5 a6 a7 : Nat) : a0 + a1 + a2 + a3 + (a4 + a5 + a6 + a7) = a0 + a1 + a2 + a3 + a4 + a5 + a6 + a7 := by omega
end SB
theorem fold64 {t a0 a1 a2 a3 a4 a5 a6 a7 : Nat} (h : t = a0 + 256 * (a1 + 256 * (a2 + 256 * (a3 + 256 * (a4 + 256 * (a5 + 256 * (a6 + 256 * a7))))))) (b0 : a0 ≤ 8) (b1 : a1 ≤ 8) (b2 : a2 ≤ 8) (b3 : a3 ≤ 8) (b4 : a4 ≤ 8) (b5 : a5 ≤ 8) (b6 : a6 ≤ 8) (b7 : a7 ≤ 8) :
    (t + t / 256 + (t + t / 256) / 65536 + (t + t / 256 + (t + t / 256) / 65536) / 4294967296) % 128 = a0 + a1 + a2 + a3 + a4 + a5 + a6 + a7 ∧ t < 2 ^ 60 := by
  have s1 := sb1 b0 b1 b2
  have s2 := sb2 b0 b1 b2 b3 b4 b5 b6
  have s3 := sb3 b0 b1 b2 b3 b4 b5 b6 b7
  have s4 := sb4 b0 b1 b2 b3 b4 b5 b6 b7
  have s5 := sb5 a0 a1 a2 a3 a4 a5 a6 a7
  have s6 : a0 < 256 := Nat.lt_of_le_of_lt b0 (by decide)
  refine ⟨?_, by rw [h]; exact s4⟩
  have e1 := dv256 h s6
  have e2 := id1 a0 a1 a2 a3 a4 a5 a6 a7
  rw [← h, ← e1] at e2
  have e3 := dv16 e2 s1
  have e4 := id2 a0 a1 a2 a3 a4 a5 a6 a7
  rw [← e2, ← e3] at e4
  have e5 := dv32 e4 s2
  have e6 := id3 (a0 + a1 + a2 + a3) (a1 + a2 + a3 + a4) (a2 + a3 + a4 + a5) (a3 + a4 + a5 + a6) _ _ _ e5
  rw [← e5] at e4
  rw [← e4] at e6
  rw [md128 e6 s3]
  exact s5
theorem T8_s (k n : Nat) : T8 (k + 1) n = 256 * T8 k (n / 256) + p8 (n % 256) := rfl
theorem S8_s (k n : Nat) : S8 (k + 1) n = p8 (n % 256) + S8 k (n / 256) := rfl
theorem T8_8 (n : Nat) : ∃ a0 a1 a2 a3 a4 a5 a6 a7, (a0 ≤ 8 ∧ a1 ≤ 8 ∧ a2 ≤ 8 ∧ a3 ≤ 8 ∧ a4 ≤ 8 ∧ a5 ≤ 8 ∧ a6 ≤ 8 ∧ a7 ≤ 8) ∧ T8 8 n = a0 + 256 * (a1 + 256 * (a2 + 256 * (a3 + 256 * (a4 + 256 * (a5 + 256 * (a6 + 256 * a7)))))) ∧ S8 8 n = a0 + a1 + a2 + a3 + a4 + a5 + a6 + a7 := by
  refine ⟨_, _, _, _, _, _, _, _, ⟨p8_le (n % 256), p8_le (n / 256 % 256), p8_le (n / 256 / 256 % 256), p8_le (n / 256 / 256 / 256 % 256), p8_le (n / 256 / 256 / 256 / 256 % 256), p8_le (n / 256 / 256 / 256 / 256 / 256 % 256), p8_le (n / 256 / 256 / 256 / 256 / 256 / 256 % 256), p8_le (n / 256 / 256 / 256 / 256 / 256 / 256 / 256 % 256)⟩, ?_, ?_⟩
  · rw [T8_s 7, T8_s 6, T8_s 5, T8_s 4, T8_s 3, T8_s 2, T8_s 1, T8_s 0, show ∀ m, T8 0 m = 0 from fun _ => rfl]
    generalize p8 (n % 256) = a0
    generalize p8 (n / 256 % 256) = a1
    generalize p8 (n / 256 / 256 % 256) = a2
    generalize p8 (n / 256 / 256 / 256 % 256) = a3
    generalize p8 (n / 256 / 256 / 256 / 256 % 256) = a4
    generalize p8 (n / 256 / 256 / 256 / 256 / 256 % 256) = a5
    generalize p8 (n / 256 / 256 / 256 / 256 / 256 / 256 % 256) = a6
    generalize p8 (n / 256 / 256 / 256 / 256 / 256 / 256 / 256 % 256) = a7
    omega
  · rw [S8_s 7, S8_s 6, S8_s 5, S8_s 4, S8_s 3, S8_s 2, S8_s 1, S8_s 0, show ∀ m, S8 0 m = 0 from fun _ => rfl]
    generalize p8 (n % 256) = a0
    generalize p8 (n / 256 % 256) = a1
    generalize p8 (n / 256 / 256 % 256) = a2
    generalize p8 (n / 256 / 256 / 256 % 256) = a3
    generalize p8 (n / 256 / 256 / 256 / 256 % 256) = a4
    generalize p8 (n / 256 / 256 / 256 / 256 / 256 % 256) = a5
    generalize p8 (n / 256 / 256 / 256 / 256 / 256 / 256 % 256) = a6
    generalize p8 (n / 256 / 256 / 256 / 256 / 256 / 256 / 256 % 256) = a7
    omega
theorem rep85 : rep 85 8 = 6148914691236517205 := by decide +kernel
theorem rep51 : rep 51 8 = 3689348814741910323 := by decide +kernel
theorem rep15 : rep 15 8 = 1085102592571150095 := by decide +kernel
theorem A1_8 (n : Nat) : A1 8 n = n - (n / 2 &&& 6148914691236517205) := by unfold A1; rw [rep85]
theorem A2_8 (n : Nat) : A2 8 n = (n &&& 3689348814741910323) + (n / 4 &&& 3689348814741910323) := by unfold A2; rw [rep51]
theorem A3_8 (n : Nat) : A3 8 n = (n + n / 16) &&& 1085102592571150095 := by unfold A3; rw [rep15]
theorem us_lN {n : Nat} (hn : n < 2 ^ 64) {k : Nat} (hk : k < 64) : us (lN n) (nI k) = lN (n / 2 ^ k) := wb_shr hn hk
theorem c55 : (6148914691236517205 : Int64) = lN 6148914691236517205 := rfl
theorem c33 : (3689348814741910323 : Int64) = lN 3689348814741910323 := rfl
theorem c0f : (1085102592571150095 : Int64) = lN 1085102592571150095 := rfl
theorem lt55 : (6148914691236517205 : Nat) < 2 ^ 64 := by decide
theorem lt33 : (3689348814741910323 : Nat) < 2 ^ 64 := by decide
theorem lt0f : (1085102592571150095 : Nat) < 2 ^ 64 := by decide
theorem bc1_eq {n : Nat} (hn : n < 2 ^ 64) : bc1 (lN n) = lN (A1 8 n) := by
  have m1 : n / 2 &&& 6148914691236517205 ≤ n / 2 := Nat.and_le_left
  unfold bc1
  rw [show (1 : Int32) = nI 1 from rfl, us_lN hn (by decide), Nat.pow_one, c55, wb_and (by omega) lt55, lN_sub (by omega), A1_8]
theorem bc2_eq {n : Nat} (hn : n < 2 ^ 64) : bc2 (lN n) = lN (A2 8 n) ∧ A2 8 n < 2 ^ 63 := by
  have m2 : n &&& 3689348814741910323 ≤ 3689348814741910323 := Nat.and_le_right
  have m3 : n / 4 &&& 3689348814741910323 ≤ 3689348814741910323 := Nat.and_le_right
  constructor
  · unfold bc2
    rw [show (2 : Int32) = nI 2 from rfl, us_lN hn (by decide), show (2 : Nat) ^ 2 = 4 from rfl, c33, wb_and hn lt33, wb_and (by omega) lt33, lN_add, A2_8]
  · rw [A2_8]; omega
theorem bc3_eq {n : Nat} (hn : n < 2 ^ 63) : bc3 (lN n) = lN (A3 8 n) := by
  unfold bc3
  rw [show (4 : Int32) = nI 4 from rfl, us_lN (by omega) (by decide), show (2 : Nat) ^ 4 = 16 from rfl, c0f, lN_add, wb_and (by omega) lt0f, A3_8]
theorem bc_tail {t : Nat} (ht : t < 2 ^ 60) : (bc6 (bc5 (bc4 (lN t)))).toInt32 &&& 127 = nI ((t + t / 256 + (t + t / 256) / 65536 + (t + t / 256 + (t + t / 256) / 65536) / 4294967296) % 128) := by
  have g4 : bc4 (lN t) = lN (t + t / 256) := by
    unfold bc4
    rw [show (8 : Int32) = nI 8 from rfl, us_lN (by omega) (by decide), show (2 : Nat) ^ 8 = 256 from rfl, lN_add]
  rw [g4]
  generalize hu : t + t / 256 = u
  have g5 : bc5 (lN u) = lN (u + u / 65536) := by
    unfold bc5
    rw [show (16 : Int32) = nI 16 from rfl, us_lN (by omega) (by decide), show (2 : Nat) ^ 16 = 65536 from rfl, lN_add]
  rw [g5]
  generalize hv : u + u / 65536 = v
  have g6 : bc6 (lN v) = lN (v + v / 4294967296) := by
    unfold bc6
    rw [show (32 : Int32) = nI 32 from rfl, us_lN (by omega) (by decide), show (2 : Nat) ^ 32 = 4294967296 from rfl, lN_add]
  rw [g6, lN_i, pk_and _ (m := 127) 7 (by decide)]
  generalize v + v / 4294967296 = w
  congr 1
  show (BitVec.ofNat 32 w).toNat % 2 ^ 7 = _
  rw [BitVec.toNat_ofNat]
  omega
theorem bc_ct (x : Int64) : bc x = nI (fb_ct (tb x) 64) := by
  obtain ⟨n, hn, rfl⟩ := wb_of x
  have c1 : fb_ct (tb (lN n)) 64 = S8 8 n := by
    rw [← ct_bytes 8 n]
    exact fb_ct_cong fun i hi => by rw [tb_lN, decide_eq_true hi, Bool.true_and]
  have l1 : A1 8 n < 2 ^ 64 := by rw [A1_8]; omega
  obtain ⟨e2, l2⟩ := bc2_eq l1
  have hT : A3 8 (A2 8 (A1 8 n)) = T8 8 n := A3_T 8 n hn
  obtain ⟨a0, a1, a2, a3, a4, a5, a6, a7, ⟨b0, b1, b2, b3, b4, b5, b6, b7⟩, eT, eS⟩ := T8_8 n
  have f := fold64 eT b0 b1 b2 b3 b4 b5 b6 b7
  rw [← eS] at f
  unfold bc
  rw [bc1_eq hn, e2, bc3_eq l2, hT, c1, bc_tail f.2, f.1]
