/-! ===== sets as longs ===== -/
def tb (x : Int64) (k : Nat) : Bool := x.toBitVec.getLsbD k
theorem tb_ext {x y : Int64} (h : ∀ k, k < 64 → tb x k = tb y k) : x = y := Int64.toBitVec_inj.mp (BitVec.eq_of_getLsbD_eq (fun i hi => h i hi))
theorem tb_big {x : Int64} {k : Nat} (h : 64 ≤ k) : tb x k = false := BitVec.getLsbD_of_ge _ _ h
theorem tb_lt {x : Int64} {k : Nat} (h : tb x k = true) : k < 64 := by
  rcases Nat.lt_or_ge k 64 with q | q
  · exact q
  · rw [tb_big q] at h; cases h
theorem tb_or (x y : Int64) (k : Nat) : tb (x ||| y) k = (tb x k || tb y k) := by unfold tb; rw [Int64.toBitVec_or, BitVec.getLsbD_or]
theorem tb_and (x y : Int64) (k : Nat) : tb (x &&& y) k = (tb x k && tb y k) := by unfold tb; rw [Int64.toBitVec_and, BitVec.getLsbD_and]
theorem tb_0 (k : Nat) : tb 0 k = false := BitVec.getLsbD_zero
theorem tb_m1 : ∀ k, k < 64 → tb (-1) k = true := by decide +kernel
theorem tb_not (x : Int64) {k : Nat} (hk : k < 64) : tb (x ^^^ (-1)) k = !tb x k := by
  have h := tb_m1 k hk
  unfold tb at *
  rw [Int64.toBitVec_xor, BitVec.getLsbD_xor, h, Bool.xor_true]
theorem tb_notB (x : Int64) (k : Nat) : tb (x ^^^ (-1)) k = (decide (k < 64) && !tb x k) := by
  by_cases h : k < 64
  · rw [tb_not x h, decide_eq_true h, Bool.true_and]
  · rw [tb_big (by omega), decide_eq_false h, Bool.false_and]
/-- x without y -/
theorem tb_sub (x y : Int64) (k : Nat) : tb (x &&& (y ^^^ (-1))) k = (tb x k && !tb y k) := by
  rw [tb_and, tb_notB]
  cases hx : tb x k
  · rfl
  · rw [decide_eq_true (tb_lt hx), Bool.true_and]
theorem tb_lN (n k : Nat) : tb (lN n) k = (decide (k < 64) && n.testBit k) := by unfold tb; rw [wb_tb, BitVec.getLsbD_ofNat]
theorem bitL_lN {n : Nat} (h : n < 64) : bitL (nI n) = lN (2 ^ n) := by
  show lN 1 <<< ((nI n).toInt64 &&& 63) = lN (2 ^ n)
  rw [wb_shl 1 h, Nat.one_mul]
theorem tb_bit {n : Nat} (h : n < 64) (k : Nat) : tb (bitL (nI n)) k = decide (k = n) := by
  rw [bitL_lN h, tb_lN, Nat.testBit_two_pow]
  by_cases e : k = n
  · subst e; simp [h]
  · rw [decide_eq_false e, decide_eq_false (p := n = k) (fun z => e z.symm), Bool.and_false]
theorem tb_1 (k : Nat) : tb 1 k = decide (k = 0) := by
  have h := tb_bit (n := 0) (by decide) k
  rwa [show bitL (nI 0) = 1 from rfl] at h
theorem hs_tb (x : Int64) {n : Nat} (h : n < 64) : hs x (nI n) = tb x n := by
  unfold hs us
  rw [wb_cu n h]
  have e := ts_bit (w := x) (s := UInt64.ofNat n) (j := n) h (Nat.mod_eq_of_lt (by omega))
  cases hb : tb x n
  · exact decide_eq_false (not_not_intro (e.mpr hb))
  · refine decide_eq_true (fun z => ?_)
    have h9 := e.mp z
    unfold tb at hb
    rw [hb] at h9
    cases h9
theorem tb_ne {x : Int64} {k : Nat} (h : tb x k = true) : x ≠ 0 := fun z => by rw [z, tb_0] at h; cases h
theorem tb_some {x : Int64} (h : x ≠ 0) : ∃ k, k < 64 ∧ tb x k = true := by
  refine Classical.byContradiction fun z => h (tb_ext fun k hk => ?_)
  rw [tb_0]
  cases hb : tb x k
  · rfl
  · exact absurd ⟨k, hk, hb⟩ z
theorem tb_none {x : Int64} (h : ∀ k, k < 64 → tb x k = false) : x = 0 := tb_ext fun k hk => by rw [h k hk, tb_0]
/-! ===== how many: the machine's count is the count ===== -/
def rep (c : Nat) : Nat → Nat
  | 0 => 0
  | k + 1 => 256 * rep c k + c
theorem rep_s (c k : Nat) : rep c (k + 1) = 256 * rep c k + c := rfl
theorem land_split {a b c d : Nat} (hb : b < 256) (hd : d < 256) : (256 * a + b) &&& (256 * c + d) = 256 * (a &&& c) + (b &&& d) := by
  have h1 := @Nat.and_div_two_pow (256 * a + b) (256 * c + d) 8
  have h2 := @Nat.and_mod_two_pow (256 * a + b) (256 * c + d) 8
  rw [show (2 : Nat) ^ 8 = 256 from rfl] at h1 h2
  rw [show (256 * a + b) / 256 = a by omega, show (256 * c + d) / 256 = c by omega] at h1
  rw [show (256 * a + b) % 256 = b by omega, show (256 * c + d) % 256 = d by omega] at h2
  omega
def A1 (k n : Nat) : Nat := n - (n / 2 &&& rep 85 k)
def A2 (k n : Nat) : Nat := (n &&& rep 51 k) + (n / 4 &&& rep 51 k)
def A3 (k n : Nat) : Nat := (n + n / 16) &&& rep 15 k
def B1 (b : Nat) : Nat := b - (b / 2 &&& 85)
def B2 (b : Nat) : Nat := (b &&& 51) + (b / 4 &&& 51)
def B3 (b : Nat) : Nat := (b + b / 16) &&& 15
def p8 (b : Nat) : Nat := fb_ct (fun i => b.testBit i) 8
theorem b85 : ∀ r, r < 2 → ∀ b, b < 256 → (128 * r + b / 2) &&& 85 = (b / 2 &&& 85) := by decide +kernel
theorem b51 : ∀ r, r < 4 → ∀ b, b < 256 → (64 * r + b / 4) &&& 51 = (b / 4 &&& 51) := by decide +kernel
theorem b15 : ∀ r, r < 5 → ∀ b, b < 256 → (B2 (B1 b) + 16 * r + B2 (B1 b) / 16) &&& 15 = p8 b ∧ B2 (B1 b) + 16 * r + B2 (B1 b) / 16 < 256 ∧ B2 (B1 b) % 16 < 5 ∧ B1 b < 256 ∧ B2 (B1 b) < 256 := by decide +kernel
theorem A1_s (k q b : Nat) (hb : b < 256) : A1 (k + 1) (256 * q + b) = 256 * A1 k q + B1 b := by
  unfold A1 B1
  rw [rep_s, show (256 * q + b) / 2 = 256 * (q / 2) + (128 * (q % 2) + b / 2) by omega, land_split (by omega) (by decide), b85 (q % 2) (by omega) b hb]
  have h1 : q / 2 &&& rep 85 k ≤ q / 2 := Nat.and_le_left
  have h2 : b / 2 &&& 85 ≤ b / 2 := Nat.and_le_left
  omega
theorem A2_s (k q b : Nat) (hb : b < 256) : A2 (k + 1) (256 * q + b) = 256 * A2 k q + B2 b := by
  unfold A2 B2
  rw [rep_s, show (256 * q + b) / 4 = 256 * (q / 4) + (64 * (q % 4) + b / 4) by omega, land_split hb (by decide), land_split (by omega) (by decide), b51 (q % 4) (by omega) b hb]
  omega
theorem A12 (k : Nat) : ∀ n, n < 256 ^ k → A2 k (A1 k n) % 16 < 5 := by
  cases k with
  | zero => intro n h; have e : n = 0 := by simpa using h
            subst e; decide
  | succ k =>
    intro n h
    have hb : n % 256 < 256 := Nat.mod_lt _ (by decide)
    have h9 := b15 0 (by decide) (n % 256) hb
    rw [show n = 256 * (n / 256) + n % 256 by omega, A1_s _ _ _ hb, A2_s _ _ _ h9.2.2.2.1]
    omega
def T8 : Nat → Nat → Nat
  | 0, _ => 0
  | k + 1, n => 256 * T8 k (n / 256) + p8 (n % 256)
def S8 : Nat → Nat → Nat
  | 0, _ => 0
  | k + 1, n => p8 (n % 256) + S8 k (n / 256)
theorem A3_T (k : Nat) : ∀ n, n < 256 ^ k → A3 k (A2 k (A1 k n)) = T8 k n := by
  induction k with
  | zero => intro n h; have e : n = 0 := by simpa using h
            subst e; decide
  | succ k ih =>
    intro n h
    have hb : n % 256 < 256 := Nat.mod_lt _ (by decide)
    have hq : n / 256 < 256 ^ k := by
      rw [Nat.pow_succ] at h
      omega
    have h5 := A12 k (n / 256) hq
    have h9 := b15 (A2 k (A1 k (n / 256)) % 16) h5 (n % 256) hb
    have hT := ih (n / 256) hq
    show _ = 256 * T8 k (n / 256) + p8 (n % 256)
    rw [← hT]
    rw [show A3 (k + 1) (A2 (k + 1) (A1 (k + 1) n)) = A3 (k + 1) (256 * A2 k (A1 k (n / 256)) + B2 (B1 (n % 256))) from by
      rw [← A2_s _ _ _ h9.2.2.2.1, ← A1_s _ _ _ hb, show 256 * (n / 256) + n % 256 = n by omega]]
    generalize A2 k (A1 k (n / 256)) = q at h5 h9 ⊢
    generalize B2 (B1 (n % 256)) = b at h9 ⊢
    unfold A3
    rw [rep_s, show 256 * q + b + (256 * q + b) / 16 = 256 * (q + q / 16) + (b + 16 * (q % 16) + b / 16) by omega, land_split h9.2.1 (by decide), h9.1]
theorem ct_bytes (k : Nat) : ∀ n, fb_ct (fun i => n.testBit i) (8 * k) = S8 k n := by
  induction k with
  | zero => intro n; rfl
  | succ k ih =>
    intro n
    rw [show 8 * (k + 1) = 8 + 8 * k by omega, fb_ct_split]
    show _ = p8 (n % 256) + S8 k (n / 256)
    rw [← ih (n / 256)]
    congr 1
    · unfold p8
      exact fb_ct_cong fun i hi => by
        rw [show (256 : Nat) = 2 ^ 8 from rfl, Nat.testBit_mod_two_pow, decide_eq_true hi, Bool.true_and]
    · exact fb_ct_cong fun i hi => by
        rw [show (256 : Nat) = 2 ^ 8 from rfl, Nat.testBit_div_two_pow, Nat.add_comm]
theorem p8_le (b : Nat) : p8 b ≤ 8 := fb_ct_le _ _
theorem fold64 {t a0 a1 a2 a3 a4 a5 a6 a7 : Nat} (h : t = a0 + 256 * (a1 + 256 * (a2 + 256 * (a3 + 256 * (a4 + 256 * (a5 + 256 * (a6 + 256 * a7))))))) (b0 : a0 ≤ 8) (b1 : a1 ≤ 8) (b2 : a2 ≤ 8) (b3 : a3 ≤ 8) (b4 : a4 ≤ 8) (b5 : a5 ≤ 8) (b6 : a6 ≤ 8) (b7 : a7 ≤ 8) :
    (t + t / 256 + (t + t / 256) / 65536 + (t + t / 256 + (t + t / 256) / 65536) / 4294967296) % 128 = a0 + a1 + a2 + a3 + a4 + a5 + a6 + a7 ∧ t < 2 ^ 60 := by
  have e1 : t / 256 = a1 + 256 * (a2 + 256 * (a3 + 256 * (a4 + 256 * (a5 + 256 * (a6 + 256 * a7))))) := by omega
  refine ⟨?_, by omega⟩
  rw [e1]
  generalize hu : t + (a1 + 256 * (a2 + 256 * (a3 + 256 * (a4 + 256 * (a5 + 256 * (a6 + 256 * a7)))))) = u
  have e3 : u = (a0 + a1) + 256 * (a1 + a2) + 65536 * ((a2 + a3) + 256 * ((a3 + a4) + 256 * ((a4 + a5) + 256 * ((a5 + a6) + 256 * ((a6 + a7) + 256 * a7))))) := by omega
  have e4 : u / 65536 = (a2 + a3) + 256 * ((a3 + a4) + 256 * ((a4 + a5) + 256 * ((a5 + a6) + 256 * ((a6 + a7) + 256 * a7)))) := by omega
  rw [e4]
  generalize hv : u + ((a2 + a3) + 256 * ((a3 + a4) + 256 * ((a4 + a5) + 256 * ((a5 + a6) + 256 * ((a6 + a7) + 256 * a7))))) = v
  have e5 : v = (a0 + a1 + a2 + a3) + 256 * ((a1 + a2 + a3 + a4) + 256 * ((a2 + a3 + a4 + a5) + 256 * (a3 + a4 + a5 + a6))) + 4294967296 * ((a4 + a5 + a6 + a7) + 256 * ((a5 + a6 + a7) + 256 * ((a6 + a7) + 256 * a7))) := by omega
  have e6 : v / 4294967296 = (a4 + a5 + a6 + a7) + 256 * ((a5 + a6 + a7) + 256 * ((a6 + a7) + 256 * a7)) := by omega
  rw [e6]
  omega
theorem bc_ct (x : Int64) : bc x = nI (fb_ct (tb x) 64) := by
  obtain ⟨n, hn, rfl⟩ := wb_of x
  have c1 : fb_ct (tb (lN n)) 64 = S8 8 n := by
    rw [← ct_bytes 8 n]
    exact fb_ct_cong fun i hi => by rw [tb_lN, decide_eq_true hi, Bool.true_and]
  have m1 : n / 2 &&& 6148914691236517205 ≤ n / 2 := Nat.and_le_left
  have e1 : bc1 (lN n) = lN (A1 8 n) := by
    show lN n - (((lN n).toUInt64 >>> ((nI 1).toInt64.toUInt64 &&& Int64.toUInt64 63)).toInt64 &&& lN 6148914691236517205) = _
    rw [wb_shr hn (by decide), Nat.pow_one, wb_and (by omega) (by decide), lN_sub (by omega)]
    rfl
  have l1 : A1 8 n < 2 ^ 64 := by unfold A1; omega
  generalize h1 : A1 8 n = y1 at *
  have m2 : y1 &&& 3689348814741910323 ≤ 3689348814741910323 := Nat.and_le_right
  have m3 : y1 / 4 &&& 3689348814741910323 ≤ 3689348814741910323 := Nat.and_le_right
  have e2 : bc2 (lN y1) = lN (A2 8 y1) := by
    show (lN y1 &&& lN 3689348814741910323) + (((lN y1).toUInt64 >>> ((nI 2).toInt64.toUInt64 &&& Int64.toUInt64 63)).toInt64 &&& lN 3689348814741910323) = _
    rw [wb_shr l1 (by decide), wb_and l1 (by decide), wb_and (by omega) (by decide), lN_add]
    rfl
  have l2 : A2 8 y1 < 2 ^ 63 := by
    show (y1 &&& 3689348814741910323) + (y1 / 4 &&& 3689348814741910323) < 2 ^ 63
    omega
  generalize h2 : A2 8 y1 = y2 at *
  have e3 : bc3 (lN y2) = lN (A3 8 y2) := by
    show (lN y2 + ((lN y2).toUInt64 >>> ((nI 4).toInt64.toUInt64 &&& Int64.toUInt64 63)).toInt64) &&& lN 1085102592571150095 = _
    rw [wb_shr (by omega) (by decide), lN_add, wb_and (by omega) (by decide)]
    rfl
  have hT : A3 8 y2 = T8 8 n := by rw [← h2, ← h1]; exact A3_T 8 n hn
  have eT : T8 8 n = p8 (n % 256) + 256 * (p8 (n / 256 % 256) + 256 * (p8 (n / 256 / 256 % 256) + 256 * (p8 (n / 256 / 256 / 256 % 256) + 256 * (p8 (n / 256 / 256 / 256 / 256 % 256) + 256 * (p8 (n / 256 / 256 / 256 / 256 / 256 % 256) + 256 * (p8 (n / 256 / 256 / 256 / 256 / 256 / 256 % 256) + 256 * p8 (n / 256 / 256 / 256 / 256 / 256 / 256 / 256 % 256))))))) := by
    show 256 * (256 * (256 * (256 * (256 * (256 * (256 * (256 * 0 + _) + _) + _) + _) + _) + _) + _) + _ = _
    omega
  have f := fold64 eT (p8_le _) (p8_le _) (p8_le _) (p8_le _) (p8_le _) (p8_le _) (p8_le _) (p8_le _)
  have eS : S8 8 n = p8 (n % 256) + p8 (n / 256 % 256) + p8 (n / 256 / 256 % 256) + p8 (n / 256 / 256 / 256 % 256) + p8 (n / 256 / 256 / 256 / 256 % 256) + p8 (n / 256 / 256 / 256 / 256 / 256 % 256) + p8 (n / 256 / 256 / 256 / 256 / 256 / 256 % 256) + p8 (n / 256 / 256 / 256 / 256 / 256 / 256 / 256 % 256) := by
    show _ + (_ + (_ + (_ + (_ + (_ + (_ + (_ + 0))))))) = _
    omega
  rw [← eS] at f
  unfold bc
  rw [e1, e2, e3, hT, c1]
  generalize T8 8 n = t at *
  generalize S8 8 n = z at *
  have g4 : bc4 (lN t) = lN (t + t / 256) := by
    show lN t + ((lN t).toUInt64 >>> ((nI 8).toInt64.toUInt64 &&& Int64.toUInt64 63)).toInt64 = _
    rw [wb_shr (by omega) (by decide), lN_add]
  have g5 : bc5 (lN (t + t / 256)) = lN (t + t / 256 + (t + t / 256) / 65536) := by
    show lN (t + t / 256) + ((lN (t + t / 256)).toUInt64 >>> ((nI 16).toInt64.toUInt64 &&& Int64.toUInt64 63)).toInt64 = _
    rw [wb_shr (by omega) (by decide), lN_add]
  have g6 : bc6 (lN (t + t / 256 + (t + t / 256) / 65536)) = lN (t + t / 256 + (t + t / 256) / 65536 + (t + t / 256 + (t + t / 256) / 65536) / 4294967296) := by
    show lN (t + t / 256 + (t + t / 256) / 65536) + ((lN (t + t / 256 + (t + t / 256) / 65536)).toUInt64 >>> ((nI 32).toInt64.toUInt64 &&& Int64.toUInt64 63)).toInt64 = _
    rw [wb_shr (by omega) (by decide), lN_add]
  rw [g4, g5, g6, lN_i, pk_and _ (m := 127) 7 (by decide)]
  congr 1
  rw [← f.1]
  show (BitVec.ofNat 32 _).toNat % 2 ^ 7 = _
  rw [BitVec.toNat_ofNat]
  omega
