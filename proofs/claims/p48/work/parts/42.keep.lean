/-! ===== what the loops leave as it is ===== -/
theorem lp_inv {σ τ : Type} (g : σ → τ) {f : Nat → σ → σ} (h : ∀ i s, g (f i s) = g s) (n : Nat) (s : σ) : g (lp f n s) = g s := by
  induction n with
  | zero => rfl
  | succ n ih => exact (h n _).trans ih
theorem lp_invW {σ τ : Type} (g : σ → τ) {c : σ → Bool} {f : σ → σ} (h : ∀ s, g (f s) = g s) (n : Nat) (s : σ) : g (lpW c f n s) = g s := by
  refine lpW_ind (fun _ t => g t = g s) rfl (fun i t _ ht _ => (h t).trans ht) (fun i t _ ht _ => ht)
theorem k_pd (wa : Ob) (e : Nat) (p : Ob × Bool) (k : Nat) : gi (pdStep wa e p).1 k = gi p.1 k := by
  unfold pdStep pdPut
  split
  · split
    · rfl
    · simp only [gi_sl, gi_sA, gi_sB, gi_si_s, gi_si_n, gl_si, gl_sA, gl_sB, gl_sl_s, gl_sl_n, gA_si, gA_sl, gA_sB, gA_sA_s, gA_sA_n, gB_si, gB_sl, gB_sA, gB_sB_s, gB_sB_n, Nat.reduceBEq]
  · rfl
theorem k_pdL (wa : Ob) (i : Nat) (p : Ob × Bool) (k : Nat) : gi (lp (pdStep wa) i p).1 k = gi p.1 k := lp_inv (fun q : Ob × Bool => gi q.1 k) (fun i s => k_pd wa i s k) i p
theorem k_nbI (e i : Nat) (p : Ob × Int32) (k : Nat) : gi (lp (nbIn e) i p).1 k = gi p.1 k := lp_inv (fun q : Ob × Int32 => gi q.1 k) (fun i s => by unfold nbIn; simp only [gi_sl, gi_sA, gi_sB, gi_si_s, gi_si_n, gl_si, gl_sA, gl_sB, gl_sl_s, gl_sl_n, gA_si, gA_sl, gA_sB, gA_sA_s, gA_sA_n, gB_si, gB_sl, gB_sA, gB_sB_s, gB_sB_n, Nat.reduceBEq]) i p
theorem k_nb (wa : Ob) (e : Nat) (p : Ob × Int32) (k : Nat) : gi (nbStep wa e p).1 k = gi p.1 k := by
  unfold nbStep
  rw [k_nbI]
  unfold nbPut
  simp only [gi_sl, gi_sA, gi_sB, gi_si_s, gi_si_n, gl_si, gl_sA, gl_sB, gl_sl_s, gl_sl_n, gA_si, gA_sl, gA_sB, gA_sA_s, gA_sA_n, gB_si, gB_sl, gB_sA, gB_sB_s, gB_sB_n, Nat.reduceBEq]
theorem k_nbL (wa : Ob) (i : Nat) (p : Ob × Int32) (k : Nat) : gi (lp (nbStep wa) i p).1 k = gi p.1 k := lp_inv (fun q : Ob × Int32 => gi q.1 k) (fun i s => k_nb wa i s k) i p
theorem k_put (pi : Ob) (l i p : Int32) (k : Nat) : gi (putPoint pi l i p) k = gi pi k := by unfold putPoint; simp only [gi_sl, gi_sA, gi_sB, gi_si_s, gi_si_n, gl_si, gl_sA, gl_sB, gl_sl_s, gl_sl_n, gA_si, gA_sl, gA_sB, gA_sA_s, gA_sA_n, gB_si, gB_sl, gB_sA, gB_sB_s, gB_sB_n, Nat.reduceBEq]
theorem k_fiA (wa : Ob) (l : Int32) (i : Nat) (p : Ob × Int32) (k : Nat) : gi (fiA wa l i p).1 k = gi p.1 k := by
  unfold fiA
  split
  · exact k_put _ _ _ _ k
  · rfl
theorem k_fiAL (wa : Ob) (l : Int32) (i : Nat) (p : Ob × Int32) (k : Nat) : gi (lp (fiA wa l) i p).1 k = gi p.1 k := lp_inv (fun q : Ob × Int32 => gi q.1 k) (fun i s => k_fiA wa l i s k) i p
theorem k_fiB (wa : Ob) (l : Int32) (i : Nat) (p : Ob × Int32) (k : Nat) : gi (fiB wa l i p).1 k = gi p.1 k := by
  unfold fiB
  split
  · split
    · split
      · exact k_put _ _ _ _ k
      · rfl
    · rfl
  · rfl
theorem k_fiBL (wa : Ob) (l : Int32) (i : Nat) (p : Ob × Int32) (k : Nat) : gi (lp (fiB wa l) i p).1 k = gi p.1 k := lp_inv (fun q : Ob × Int32 => gi q.1 k) (fun i s => k_fiB wa l i s k) i p
theorem k_fill (wa pi : Ob) (l f : Int32) (k : Nat) : gi (fill wa pi l f).1 k = gi pi k := by
  unfold fill
  rw [k_fiBL, k_fiAL]
theorem k_dr (wa : Ob) (l : Nat) (p : Ob × Int32) (k : Nat) : gi (drStep wa l p).1 k = gi p.1 k := by
  unfold drStep
  rw [k_fill]
  simp only [gi_sl, gi_sA, gi_sB, gi_si_s, gi_si_n, gl_si, gl_sA, gl_sB, gl_sl_s, gl_sl_n, gA_si, gA_sl, gA_sB, gA_sA_s, gA_sA_n, gB_si, gB_sl, gB_sA, gB_sB_s, gB_sB_n, Nat.reduceBEq]
theorem k_drL (wa : Ob) (i : Nat) (p : Ob × Int32) (k : Nat) : gi (lp (drStep wa) i p).1 k = gi p.1 k := lp_inv (fun q : Ob × Int32 => gi q.1 k) (fun i s => k_dr wa i s k) i p
theorem k_cuA (wa : Ob) (l : Int32) (i : Nat) (p : Ob × Int32) (k : Nat) : gi (cuA wa l i p).1 k = gi p.1 k := by
  unfold cuA
  split
  · simp only [gi_sl, gi_sA, gi_sB, gi_si_s, gi_si_n, gl_si, gl_sA, gl_sB, gl_sl_s, gl_sl_n, gA_si, gA_sl, gA_sB, gA_sA_s, gA_sA_n, gB_si, gB_sl, gB_sA, gB_sB_s, gB_sB_n, Nat.reduceBEq]
  · rfl
theorem k_cuAL (wa : Ob) (l : Int32) (i : Nat) (p : Ob × Int32) (k : Nat) : gi (lp (cuA wa l) i p).1 k = gi p.1 k := lp_inv (fun q : Ob × Int32 => gi q.1 k) (fun i s => k_cuA wa l i s k) i p
theorem k_cc (wa : Ob) (l : Nat) (p : Ob × Int32) (k : Nat) : gi (ccStep wa l p).1 k = gi p.1 k := by
  unfold ccStep cuP
  exact k_cuAL _ _ _ _ k
theorem k_ccL (wa : Ob) (i : Nat) (p : Ob × Int32) (k : Nat) : gi (lp (ccStep wa) i p).1 k = gi p.1 k := lp_inv (fun q : Ob × Int32 => gi q.1 k) (fun i s => k_cc wa i s k) i p
theorem k_weAL (i : Nat) (p : Ob) (k : Nat) : gi (lp weA i p) k = gi p k := lp_inv (fun q : Ob => gi q k) (fun i s => by unfold weA; simp only [gi_sl, gi_sA, gi_sB, gi_si_s, gi_si_n, gl_si, gl_sA, gl_sB, gl_sl_s, gl_sl_n, gA_si, gA_sl, gA_sB, gA_sA_s, gA_sA_n, gB_si, gB_sl, gB_sA, gB_sB_s, gB_sB_n, Nat.reduceBEq]) i p
theorem k_weBL (wa : Ob) (l o v : Int32) (i : Nat) (p : Ob) (k : Nat) : gi (lp (weB wa l o v) i p) k = gi p k := lp_inv (fun q : Ob => gi q k) (fun i s => by
  unfold weB
  split
  · simp only [gi_sl, gi_sA, gi_sB, gi_si_s, gi_si_n, gl_si, gl_sA, gl_sB, gl_sl_s, gl_sl_n, gA_si, gA_sl, gA_sB, gA_sA_s, gA_sA_n, gB_si, gB_sl, gB_sA, gB_sB_s, gB_sB_n, Nat.reduceBEq]
  · rfl) i p
theorem k_weCL (i : Nat) (p : Ob) (k : Nat) : gi (lp weC i p) k = gi p k := lp_inv (fun q : Ob => gi q k) (fun i s => by
  unfold weC
  split
  · simp only [gi_sl, gi_sA, gi_sB, gi_si_s, gi_si_n, gl_si, gl_sA, gl_sB, gl_sl_s, gl_sl_n, gA_si, gA_sl, gA_sB, gA_sA_s, gA_sA_n, gB_si, gB_sl, gB_sA, gB_sB_s, gB_sB_n, Nat.reduceBEq]
  · rfl) i p
theorem k_we (wa pi : Ob) (l o z : Int32) (k : Nat) : gi (weigh wa pi l o z) k = gi pi k := by
  unfold weigh
  rw [k_weCL, k_weBL, k_weAL]
/-- the sliding, as a loop with a test -/
def slC (base pt : Int32) (p : Ob × Nat) : Bool := decide (0 < p.2) && isAhead p.1 pt (rd (gA p.1 4) 1600 (base + nI p.2 - 1))
def slF (base : Int32) (p : Ob × Nat) : Ob × Nat := (slidePut base (p.2 - 1) p.1, p.2 - 1)
theorem lpW_front {σ : Type} (c : σ → Bool) (f : σ → σ) (n : Nat) (s : σ) (h : c s = true) : lpW c f (n + 1) s = lpW c f n (f s) := by
  induction n with
  | zero => show (if c s = true then f s else s) = f s; rw [if_pos h]
  | succ n ih =>
    show (if c (lpW c f (n + 1) s) = true then f (lpW c f (n + 1) s) else lpW c f (n + 1) s) = (if c (lpW c f n (f s)) = true then f (lpW c f n (f s)) else lpW c f n (f s))
    rw [ih]
theorem slide_w (base pt : Int32) : ∀ (k : Nat) (pi : Ob), slide base pt k pi = lpW (slC base pt) (slF base) k (pi, k) := by
  intro k
  induction k with
  | zero => intro pi; rfl
  | succ k ih =>
    intro pi
    rw [show slide base pt (k + 1) pi = if isAhead pi pt (rd (gA pi 4) 1600 (base + nI (k + 1) - 1)) = true then slide base pt k (slidePut base k pi) else (pi, k + 1) from rfl]
    have e : slC base pt (pi, k + 1) = isAhead pi pt (rd (gA pi 4) 1600 (base + nI (k + 1) - 1)) := by
      unfold slC
      rw [decide_eq_true (show 0 < k + 1 by omega), Bool.true_and]
    by_cases h : isAhead pi pt (rd (gA pi 4) 1600 (base + nI (k + 1) - 1)) = true
    · rw [if_pos h, lpW_front _ _ _ _ (e.trans h)]
      exact ih _
    · rw [if_neg h, lpW_same (by rw [e]; exact bf_of h)]
theorem slW_k (base pt : Int32) (n : Nat) (p : Ob × Nat) (k : Nat) : gi (lpW (slC base pt) (slF base) n p).1 k = gi p.1 k := lp_invW (fun q : Ob × Nat => gi q.1 k) (fun s => by unfold slF slidePut; simp only [gi_sl, gi_sA, gi_sB, gi_si_s, gi_si_n, gl_si, gl_sA, gl_sB, gl_sl_s, gl_sl_n, gA_si, gA_sl, gA_sB, gA_sA_s, gA_sA_n, gB_si, gB_sl, gB_sA, gB_sB_s, gB_sB_n, Nat.reduceBEq]) n p
theorem slW_2 (base pt : Int32) (n : Nat) (p : Ob × Nat) : (lpW (slC base pt) (slF base) n p).2 ≤ p.2 := lpW_ind (fun _ (q : Ob × Nat) => q.2 ≤ p.2) (Nat.le_refl _) (fun i q _ h _ => by unfold slF; show q.2 - 1 ≤ p.2; omega) (fun i q _ h _ => h)
theorem k_arS (base : Int32) (j : Nat) (pi : Ob) (k : Nat) : gi (arStep base j pi) k = gi pi k := by
  unfold arStep
  rw [slide_w]
  simp only [gi_sl, gi_sA, gi_sB, gi_si_s, gi_si_n, gl_si, gl_sA, gl_sB, gl_sl_s, gl_sl_n, gA_si, gA_sl, gA_sB, gA_sA_s, gA_sA_n, gB_si, gB_sl, gB_sA, gB_sB_s, gB_sB_n, Nat.reduceBEq]
  exact slW_k _ _ _ _ k
theorem k_arSL (base : Int32) (i : Nat) (p : Ob) (k : Nat) : gi (lp (arStep base) i p) k = gi p k := lp_inv (fun q : Ob => gi q k) (fun i s => k_arS base i s k) i p
theorem k_arPL (l base : Int32) (i : Nat) (p : Ob) (k : Nat) : gi (lp (arPut l base) i p) k = gi p k := lp_inv (fun q : Ob => gi q k) (fun i s => by unfold arPut; exact k_put _ _ _ _ k) i p
theorem k_ar (wa pi : Ob) (l o : Int32) (k : Nat) : gi (arrange wa pi l o) k = gi pi k := by
  unfold arrange
  rw [k_arPL, k_arSL, k_we]
theorem k_so (wa : Ob) (d : Bool) (j : Nat) (pi : Ob) (k : Nat) : gi (soK wa d j pi) k = gi pi k := by
  unfold soK
  split
  · exact k_ar _ _ _ _ k
  · exact k_ar _ _ _ _ k
theorem k_soL (wa : Ob) (d : Bool) (i : Nat) (p : Ob) (k : Nat) : gi (lp (soK wa d) i p) k = gi p k := lp_inv (fun q : Ob => gi q k) (fun i s => k_so wa d i s k) i p
theorem k_toBL (l a : Int32) (i : Nat) (p : Ob) (k : Nat) : gi (lp (toB l a) i p) k = gi p k := lp_inv (fun q : Ob => gi q k) (fun i s => by unfold toB; exact k_put _ _ _ _ k) i p
theorem a_toBL (l a : Int32) (i : Nat) (p : Ob) : gA (lp (toB l a) i p) 1 = gA p 1 := lp_inv (fun q : Ob => gA q 1) (fun i s => by unfold toB putPoint; simp only [gi_sl, gi_sA, gi_sB, gi_si_s, gi_si_n, gl_si, gl_sA, gl_sB, gl_sl_s, gl_sl_n, gA_si, gA_sl, gA_sB, gA_sA_s, gA_sA_n, gB_si, gB_sl, gB_sA, gB_sB_s, gB_sB_n, Nat.reduceBEq]) i p
theorem k_toLL (i : Nat) (p : Ob) (k : Nat) : gi (lp toL i p) k = gi p k := lp_inv (fun q : Ob => gi q k) (fun i s => by unfold toL; exact k_toBL _ _ _ _ k) i p
/-! ===== tests of loops ===== -/
theorem to_out (x y : Int32) : y ≤ x + nI (y.toInt - x.toInt).toNat := by
  by_cases h : x.toInt ≤ y.toInt
  · have e : x + nI (y.toInt - x.toInt).toNat = y := by
      apply Int32.toInt_inj.mp
      have h1 := fb_rng x
      have h2 := fb_rng y
      rw [Int32.toInt_add]
      have e1 : (nI (y.toInt - x.toInt).toNat).toInt = (y.toInt - x.toInt).bmod (2 ^ 32) := by
        unfold nI
        rw [Int32.toInt_ofNat']
        rw [show (((y.toInt - x.toInt).toNat : Nat) : Int) = y.toInt - x.toInt by omega]
      rw [e1, Int.add_bmod_bmod, show x.toInt + (y.toInt - x.toInt) = y.toInt by omega]
      exact fb_bmod h2.1 h2.2
    rw [e]; exact Int32.le_refl _
  · rw [show (y.toInt - x.toInt).toNat = 0 by omega, add_nI0, Int32.le_iff_toInt_le]
    omega
theorem to_in {x y : Int32} {j : Nat} (h : j < (y.toInt - x.toInt).toNat) : ¬ y ≤ x + nI j := by
  have h1 := fb_rng x
  have h2 := fb_rng y
  rw [Int32.le_iff_toInt_le, Int32.toInt_add]
  have e1 : (nI j).toInt = (j : Int).bmod (2 ^ 32) := by
    unfold nI
    rw [Int32.toInt_ofNat']
  rw [e1, Int.add_bmod_bmod, fb_bmod (by omega) (by omega)]
  omega
theorem dn_out {x : Int32} (h : ¬ x < 0) : x - 1 - nI (nN x) < 0 := by
  obtain ⟨j, hj, rfl⟩ := nI_of h
  rw [nN_nI hj, Int32.lt_iff_toInt_lt]
  have e : nI j - 1 - nI j = -1 := by
    rw [Int32.sub_eq_add_neg, Int32.sub_eq_add_neg, Int32.add_assoc, Int32.add_comm, Int32.add_assoc, Int32.add_left_neg, Int32.add_zero]
  rw [e]; decide
theorem dn_in {x : Int32} {j : Nat} (h : j < nN x) : ¬ x - 1 - nI j < 0 := by
  have h0 : ¬ x < 0 := fun z => by
    rw [Int32.lt_iff_toInt_lt] at z
    have : (0 : Int32).toInt = 0 := rfl
    unfold nN at h
    omega
  obtain ⟨k, hk, rfl⟩ := nI_of h0
  rw [nN_nI hk] at h
  rw [show (1 : Int32) = nI 1 from rfl, pk_sub (by omega), pk_sub (by omega)]
  exact nI_pos (by omega)
def dnN (x y : Int32) : Nat := (x.toInt - y.toInt + 1).toNat
theorem sc_in {x y : Int32} {j : Nat} (hy : ¬ y < 0) (h : j < dnN x y) : ¬ x - nI j < y := by
  have h1 := fb_rng x
  have h2 := fb_rng y
  have h0 : (0 : Int32).toInt = 0 := rfl
  rw [Int32.lt_iff_toInt_lt] at hy
  unfold dnN at h
  have e1 : (nI j).toInt = (j : Int) := nI_toInt (by omega)
  rw [Int32.lt_iff_toInt_lt, fb_subI (by omega) (by omega)]
  omega
theorem sc_out {x y : Int32} (hy : ¬ y < 0) : x - nI (dnN x y) < y := by
  have h1 := fb_rng x
  have h2 := fb_rng y
  have h0 : (0 : Int32).toInt = 0 := rfl
  rw [Int32.lt_iff_toInt_lt] at hy
  by_cases h : x.toInt - y.toInt + 1 ≤ 0
  · have e : dnN x y = 0 := by unfold dnN; omega
    rw [e, sub_nI0, Int32.lt_iff_toInt_lt]
    omega
  · by_cases h3 : x.toInt - y.toInt + 1 < 2147483648
    · have e1 : (nI (dnN x y)).toInt = x.toInt - y.toInt + 1 := by
        rw [nI_toInt (by unfold dnN; omega)]
        unfold dnN
        omega
      rw [Int32.lt_iff_toInt_lt, fb_subI (by omega) (by omega)]
      omega
    · have e1 : x.toInt = 2147483647 := by omega
      have e2 : y.toInt = 0 := by omega
      have e3 : x = 2147483647 := Int32.toInt_inj.mp e1
      have e4 : y = 0 := Int32.toInt_inj.mp e2
      rw [e3, e4]
      decide
theorem feB_z (n k : Nat) (s : Ob) : lp (feB 0 n) k s = s := by
  induction k with
  | zero => rfl
  | succ k ih =>
    show feB 0 n k (lp (feB 0 n) k s) = s
    rw [ih]
    unfold feB
    rw [if_neg]
    unfold hs us
    have e : (((0 : Int64).toUInt64 >>> ((nI k).toInt64.toUInt64 &&& Int64.toUInt64 63)).toInt64 &&& 1) = 0 := by
      have : ((0 : Int64).toUInt64 >>> ((nI k).toInt64.toUInt64 &&& Int64.toUInt64 63)).toInt64 = 0 := by
        apply Int64.toBitVec_inj.mp
        apply BitVec.eq_of_toNat_eq
        show ((0 : Int64).toUInt64 >>> ((nI k).toInt64.toUInt64 &&& Int64.toUInt64 63)).toNat = 0
        rw [UInt64.toNat_shiftRight]
        show 0 >>> _ = 0
        exact Nat.zero_shiftRight _
      rw [this]; decide
    rw [e]
    decide
theorem feB_zz {m : Int64} {n : Nat} (hm : m = 0) (i k : Nat) (s : Ob) : lp (feB m n) i s = lp (feB m n) k s := by
  subst hm
  rw [feB_z, feB_z]
theorem b2i_t {b : Bool} (h : b = true) : ¬ b2i b = 0 := by subst h; decide
theorem b2i_f {b : Bool} (h : ¬ b = true) : b2i b = 0 := by rw [bf_of h]; rfl
theorem n1_out (b : Int32) : b ≤ nI (nN b - 1 + 1) := by
  have h := lp_out b
  rcases Nat.eq_zero_or_pos (nN b) with q | q
  · rw [q] at h ⊢
    exact Int32.le_trans h (by decide)
  · rw [show nN b - 1 + 1 = nN b by omega]; exact h
theorem n1_in {b : Int32} {i : Nat} (h : i < nN b - 1) : ¬ b ≤ nI (i + 1) := lp_in (by omega)
theorem le0 {a n : Nat} (h : a + n = n) : nI a ≤ 0 := by
  have : a = 0 := by omega
  subst this; decide
theorem gt0 {σ : Type} {p q : σ × Nat} {i N : Nat} (h : p = q) (hf : q.2 + i = N) (hi : i < N) : 0 < p.2 := by subst h; omega
theorem gt0' {σ : Type} {p q : σ × Nat} {i N : Nat} (h : p = q) (hf : q.2 + i = N) (hi : i < N) (hN : N < 2 ^ 31) : ¬ nI p.2 ≤ 0 := nI_nle (gt0 h hf hi) (by subst h; omega)
theorem sl_fact {base pt : Int32} {i N : Nat} {s p : Ob × Nat} (h : p = lpW (slC base pt) (slF base) i s) (hc : slC base pt p = true) (hf : (lpW (slC base pt) (slF base) i s).2 + i = N) (hi : i < N) : (lpW (slC base pt) (slF base) (i + 1) s).2 + (i + 1) = N := by
  have e := lpW_go (f := slF base) h hc
  rw [← e, h]
  show (lpW (slC base pt) (slF base) i s).2 - 1 + (i + 1) = N
  omega
def FlowLo (fl : Ob) : Prop := ¬ gi fl 0 < 0 ∧ ∀ b, b < nN (gi fl 0) → ¬ rd (gA fl 1) 40 (nI b) < 0
theorem FlowLo.at {fl : Ob} (h : FlowLo fl) {j : Nat} (hj : j < nN (gi fl 0)) : ¬ rd (gA fl 1) 40 (gi fl 0 - 1 - nI j) < 0 := by
  obtain ⟨k, hk, e⟩ := nI_of h.1
  have h2 := h.2
  rw [e, nN_nI hk] at hj h2
  rw [e, show (1 : Int32) = nI 1 from rfl, pk_sub (by omega), pk_sub (by omega)]
  exact h2 _ (by omega)
theorem FL.lo {n c E : Nat} {hm fs fr eg fe : Nat → Nat} {fl : Ob} (h : FL n c E hm fs fr eg fe fl) : FlowLo fl := by
  have hc := h.c19
  have hn := h.n19
  refine ⟨by rw [h.bc]; exact nI_pos (by omega), fun b hb => ?_⟩
  rw [h.bc, nN_nI (by omega)] at hb
  rw [rd_nI (by omega) (by decide), h.1.2.2.2.2 b hb]
  have := (h.cut.2.2.2.1 b hb).1
  exact nI_pos (by omega)
theorem fnd_s {p : Nat → Bool} {i : Nat} (h : fnd p i = i) (hp : p i = false) : fnd p (i + 1) = i + 1 := by
  show (if fnd p i < i then fnd p i else if p i = true then i else i + 1) = i + 1
  rw [h, if_neg (Nat.lt_irrefl i), if_neg (by rw [hp]; decide)]
theorem fnd_hit {p : Nat → Bool} {i : Nat} (h : fnd p i = i) (hp : p i = true) : ∀ n, i < n → fnd p n = i := by
  intro n
  induction n with
  | zero => intro hn; exact absurd hn (Nat.not_lt_zero i)
  | succ n ih =>
    intro hn
    show (if fnd p n < n then fnd p n else if p n = true then n else n + 1) = i
    by_cases q : i = n
    · subst q
      rw [h, if_neg (Nat.lt_irrefl i), if_pos hp]
    · rw [ih (by omega), if_pos (by omega)]
theorem ts_no {re : Ob} (h : fnd (isFound (findEntries re)) 40 = 40) : takeStep re = (findEntries re, false) := by
  unfold takeStep takeF
  rw [h, if_neg (by decide)]
theorem ts_yes {re : Ob} {i : Nat} (hi : i < 40) (h : fnd (isFound (findEntries re)) i = i) (hy : isFound (findEntries re) i = true) : takeStep re = (apply (tsPut (findEntries re) i) (foundAt (findEntries re) i) (nI i), true) := by
  unfold takeStep takeF
  rw [fnd_hit h hy 40 hi, if_pos hi]
