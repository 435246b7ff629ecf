/-! ===== Picture: the layers ===== -/
def ub (wa : Ob) (e : Nat) : Nat := nN (gA wa 1 e)
def lb (wa : Ob) (e : Nat) : Nat := nN (gA wa 2 e)
def dw (wa : Ob) (e : Nat) : Bool := decide (¬ gA wa 1 e < 0)
def LYR (fl : Ob) (ly : Nat → Nat) (pi : Ob) : Prop := ∀ b, b < 40 → gA pi 0 b = if tb (gl fl 0) b = true then nI (ly b) else -1
section LAYS
variable {n c E : Nat} {hm fs fr eg fe : Nat → Nat} {fl wa : Ob} {cc : Nat} {ca ht : Nat → Nat}
theorem WK.dw_iff (hF : FL n c E hm fs fr eg fe fl) (h : WK c E fr eg fl wa cc ca ht) {e : Nat} (he : e < E) : dw wa e = true ↔ DRW fr eg fl e := by
  have h9 := h.2.2.1 e he
  unfold dw
  constructor
  · intro z
    refine Classical.byContradiction fun y => of_decide_eq_true z ?_
    rw [h9.2 y]; decide
  · intro z
    obtain ⟨u, l, h1, h2, h3, h4⟩ := h9.1 z
    have hu : u < c := by
      rcases h4 with ⟨q, -⟩ | ⟨q, -⟩
      · rw [q]; exact (hF.edge he).2.2.1
      · rw [q]; exact (hF.edge he).2.2.2.resolve_right z.2.1
    have hc := hF.c19
    rw [h1]
    exact decide_eq_true (nI_pos (by omega))
theorem WK.ul (hF : FL n c E hm fs fr eg fe fl) (h : WK c E fr eg fl wa cc ca ht) {e : Nat} (he : e < E) (hd : dw wa e = true) :
    gA wa 1 e = nI (ub wa e) ∧ gA wa 2 e = nI (lb wa e) ∧ ht (ub wa e) < ht (lb wa e) ∧ tb (gl fl 0) (ub wa e) = true ∧ tb (gl fl 0) (lb wa e) = true ∧ ((ub wa e = fr e ∧ lb wa e = eg e ∧ tb (Sp fl (eg e)) (fr e) = true) ∨ (ub wa e = eg e ∧ lb wa e = fr e)) := by
  have hc := hF.c19
  have z := (h.dw_iff hF he).mp hd
  obtain ⟨u, l, h1, h2, h3, h4⟩ := (h.2.2.1 e he).1 z
  have r1 : tb (gl fl 0) (fr e) = true := z.1
  have r2 : tb (gl fl 0) (eg e) = true := hF.r_edge he z.1 z.2.1
  have k1 := hF.r_lt r1
  have k2 := hF.r_lt r2
  have hu : u < 40 ∧ l < 40 ∧ tb (gl fl 0) u = true ∧ tb (gl fl 0) l = true := by
    rcases h4 with ⟨q, q2, -⟩ | ⟨q, q2⟩
    · rw [q, q2]; exact ⟨by omega, by omega, r1, r2⟩
    · rw [q, q2]; exact ⟨by omega, by omega, r2, r1⟩
  have e1 : ub wa e = u := by unfold ub; rw [h1, nN_nI (by omega)]
  have e2 : lb wa e = l := by unfold lb; rw [h2, nN_nI (by omega)]
  rw [e1, e2]
  exact ⟨h1, h2, h3, hu.2.2.1, hu.2.2.2, h4⟩
theorem draws_dw {e : Nat} (he : e < 80) : draws wa (nI e) = dw wa e := by
  unfold draws dw
  rw [rd_nI he (by decide)]
theorem top_eq (hF : FL n c E hm fs fr eg fe fl) (h : WK c E fr eg fl wa cc ca ht) {pi : Ob} {ly : Nat → Nat} (hl : LYR fl ly pi) {e : Nat} (he : e < E) (hd : dw wa e = true) : topE wa pi (nI e) = nI (ly (ub wa e)) ∧ botE wa pi (nI e) = nI (ly (lb wa e)) := by
  have hE := hF.e57
  have hc := hF.c19
  obtain ⟨h1, h2, h3, h4, h5, -⟩ := h.ul hF he hd
  have k1 := hF.r_lt h4
  have k2 := hF.r_lt h5
  unfold topE botE
  rw [rd_nI (by omega) (by decide), rd_nI (by omega) (by decide), h1, h2, rd_nI (by omega) (by decide), rd_nI (by omega) (by decide), hl _ (by omega), hl _ (by omega), if_pos h4, if_pos h5]
  exact ⟨rfl, rfl⟩
/-- one pass -/
theorem push_ok (hF : FL n c E hm fs fr eg fe fl) (h : WK c E fr eg fl wa cc ca ht) {pi : Ob} {ly0 : Nat → Nat} {p : Nat} (hE0 : gi pi 0 = nI E) (hl : LYR fl ly0 pi) (hle : ∀ b, tb (gl fl 0) b = true → ly0 b ≤ ht b) (hp : ∀ e, e < E → dw wa e = true → ht (lb wa e) ≤ p → ly0 (ub wa e) < ly0 (lb wa e)) :
    ∃ ly, LYR fl ly (pushDown wa pi).1 ∧ (∀ b, tb (gl fl 0) b = true → ly b ≤ ht b) ∧ (∀ e, e < E → dw wa e = true → ht (lb wa e) ≤ p + 1 → ly (ub wa e) < ly (lb wa e)) ∧ ((pushDown wa pi).2 = false → ∀ e, e < E → dw wa e = true → ly (ub wa e) < ly (lb wa e)) ∧ (∀ k, gi (pushDown wa pi).1 k = gi pi k) := by
  have hE := hF.e57
  have hc := hF.c19
  unfold pushDown
  rw [hE0, nN_nI (by omega)]
  have key := lp_ind (f := pdStep wa) (n := E) (s := (pi, false)) (fun i q => ∃ ly, LYR fl ly q.1 ∧ (∀ b, tb (gl fl 0) b = true → ly b ≤ ht b) ∧ (∀ b, tb (gl fl 0) b = true → ht b ≤ p → ly b = ly0 b) ∧ (∀ e, e < i → dw wa e = true → ht (lb wa e) ≤ p + 1 → ly (ub wa e) < ly (lb wa e)) ∧ (q.2 = false → ∀ e, e < i → dw wa e = true → ly (ub wa e) < ly (lb wa e)) ∧ (∀ k, gi q.1 k = gi pi k))
    ⟨ly0, hl, hle, fun _ _ _ => rfl, fun e he => absurd he (Nat.not_lt_zero e), fun _ e he => absurd he (Nat.not_lt_zero e), fun _ => rfl⟩ ?_
  · obtain ⟨ly, k1, k2, k3, k4, k5, k6⟩ := key
    exact ⟨ly, k1, k2, k4, k5, k6⟩
  · rintro i ⟨t, ch⟩ hi ⟨ly, k1, k2, k3, k4, k5, k6⟩
    simp only at k1 k5 k6
    unfold pdStep
    rw [draws_dw (by omega)]
    by_cases hd : dw wa i = true
    · obtain ⟨g1, g2, g3, g4, g5, -⟩ := h.ul hF hi hd
      obtain ⟨t1, t2⟩ := top_eq hF h k1 hi hd
      have q4 := hF.r_lt g4
      have q5 := hF.r_lt g5
      have b4 := k2 _ g4
      have b5 := k2 _ g5
      have b6 := h.2.2.2 _ g4
      have b7 := h.2.2.2 _ g5
      rw [if_pos hd, t1, t2]
      by_cases hlt : ly (ub wa i) < ly (lb wa i)
      · rw [if_pos (nI_lt hlt (by omega))]
        refine ⟨ly, k1, k2, k3, fun e he hde hz => ?_, fun hch e he hde => ?_, k6⟩
        · by_cases q : e = i
          · subst q; exact hlt
          · exact k4 e (by omega) hde hz
        · by_cases q : e = i
          · subst q; exact hlt
          · exact k5 hch e (by omega) hde
      · rw [if_neg (nI_nlt (by omega) (by omega))]
        have hnp : ¬ ht (lb wa i) ≤ p := fun z => by
          have a1 := hp i hi hd z
          have a2 := k3 _ g4 (by omega)
          have a3 := k3 _ g5 z
          omega
        have hul : ub wa i ≠ lb wa i := fun z => by rw [z] at g3; omega
        refine ⟨va_up ly (lb wa i) (ly (ub wa i) + 1), fun b hb => ?_, fun b hb => ?_, fun b hb hz => ?_, fun e he hde hz => ?_, fun hch => (by cases hch), fun k => ?_⟩
        · unfold pdPut
          simp only [gi_sl, gi_sA, gi_sB, gi_si_s, gi_si_n, gl_si, gl_sA, gl_sB, gl_sl_s, gl_sl_n, gA_si, gA_sl, gA_sB, gA_sA_s, gA_sA_n, gB_si, gB_sl, gB_sA, gB_sB_s, gB_sB_n, Nat.reduceBEq]
          rw [rd_nI (by omega) (by decide), g2, t1, nI_1, wr_nI (by omega) (by decide)]
          by_cases q : b = lb wa i
          · subst q; rw [upd_s, va_up_self, if_pos g5]
          · rw [upd_n _ _ q, va_up_ne _ _ q]; exact k1 b hb
        · by_cases q : b = lb wa i
          · subst q; rw [va_up_self]; omega
          · rw [va_up_ne _ _ q]; exact k2 b hb
        · by_cases q : b = lb wa i
          · subst q; exact absurd hz hnp
          · rw [va_up_ne _ _ q]; exact k3 b hb hz
        · obtain ⟨f1, f2, f3, f4, f5, -⟩ := h.ul hF (show e < E by omega) hde
          have hu : ub wa e ≠ lb wa i := fun z => by rw [z] at f3; omega
          rw [va_up_ne _ _ hu]
          by_cases q : e = i
          · subst q; rw [va_up_self]; omega
          · have a1 := k4 e (by omega) hde hz
            by_cases q2 : lb wa e = lb wa i
            · rw [q2, va_up_self]; rw [q2] at a1; omega
            · rw [va_up_ne _ _ q2]; exact a1
        · unfold pdPut; simp only [gi_sl, gi_sA, gi_sB, gi_si_s, gi_si_n, gl_si, gl_sA, gl_sB, gl_sl_s, gl_sl_n, gA_si, gA_sl, gA_sB, gA_sA_s, gA_sA_n, gB_si, gB_sl, gB_sA, gB_sB_s, gB_sB_n, Nat.reduceBEq]; exact k6 k
    · rw [if_neg hd]
      refine ⟨ly, k1, k2, k3, fun e he hde hz => ?_, fun hch e he hde => ?_, k6⟩
      · have : e ≠ i := fun q => by subst q; exact hd hde
        exact k4 e (by omega) hde hz
      · have : e ≠ i := fun q => by subst q; exact hd hde
        exact k5 hch e (by omega) hde
def LAY (E L : Nat) (fl wa : Ob) (ly : Nat → Nat) (pi : Ob) : Prop :=
  gi pi 0 = nI E ∧ gi pi 1 = nI L ∧ L ≤ 19 ∧ LYR fl ly pi ∧ (∀ b, tb (gl fl 0) b = true → ly b < L ∧ ly b < 19) ∧ (∀ e, e < E → dw wa e = true → ly (ub wa e) < ly (lb wa e))
theorem LAY.top (hF : FL n c E hm fs fr eg fe fl) (h : WK c E fr eg fl wa cc ca ht) {L : Nat} {ly : Nat → Nat} {pi : Ob} (hL : LAY E L fl wa ly pi) {e : Nat} (he : e < E) (hd : dw wa e = true) : topE wa pi (nI e) = nI (ly (ub wa e)) ∧ botE wa pi (nI e) = nI (ly (lb wa e)) ∧ ly (ub wa e) < ly (lb wa e) ∧ ly (lb wa e) < L ∧ ly (lb wa e) < 19 := by
  obtain ⟨g1, g2, g3, g4, g5, -⟩ := h.ul hF he hd
  obtain ⟨t1, t2⟩ := top_eq hF h hL.2.2.2.1 he hd
  exact ⟨t1, t2, hL.2.2.2.2.2 e he hd, hL.2.2.2.2.1 _ g5⟩
theorem layers_ok (hF : FL n c E hm fs fr eg fe fl) (h : WK c E fr eg fl wa cc ca ht) {pi : Ob} (hE0 : gi pi 0 = nI E) : ∃ (L : Nat) (ly : Nat → Nat), LAY E L fl wa ly (setLayers wa pi) ∧ gi (setLayers wa pi) 2 = gi pi 2 := by
  have hE := hF.e57
  have hc := hF.c19
  have h0 : LYR fl (fun _ => 0) (lp (slInit wa) 40 pi) ∧ ∀ k, gi (lp (slInit wa) 40 pi) k = gi pi k := by
    refine lp_ind (fun i t => (∀ b, b < i → gA t 0 b = if tb (gl fl 0) b = true then nI 0 else -1) ∧ ∀ k, gi t k = gi pi k) ⟨fun b hb => absurd hb (Nat.not_lt_zero b), fun _ => rfl⟩ (fun i t hi ht => ?_)
    unfold slInit
    simp only [gi_sl, gi_sA, gi_sB, gi_si_s, gi_si_n, gl_si, gl_sA, gl_sB, gl_sl_s, gl_sl_n, gA_si, gA_sl, gA_sB, gA_sA_s, gA_sA_n, gB_si, gB_sl, gB_sA, gB_sB_s, gB_sB_n, Nat.reduceBEq]
    rw [hs_tb _ (by omega), h.1, wr_nI hi (by decide)]
    refine ⟨fun b hb => ?_, ht.2⟩
    by_cases q : b = i
    · subst q; rw [upd_s]; rfl
    · rw [upd_n _ _ q]; exact ht.1 b (by omega)
  have key := lpW_ind (c := fun q : Ob × Bool => q.2) (f := fun q => pushDown wa q.1) (n := 40) (s := (lp (slInit wa) 40 pi, true)) (fun i q => ∃ ly, LYR fl ly q.1 ∧ (∀ b, tb (gl fl 0) b = true → ly b ≤ ht b) ∧ (∀ e, e < E → dw wa e = true → ht (lb wa e) ≤ i → ly (ub wa e) < ly (lb wa e)) ∧ (q.2 = false → ∀ e, e < E → dw wa e = true → ly (ub wa e) < ly (lb wa e)) ∧ (∀ k, gi q.1 k = gi pi k))
    ⟨fun _ => 0, h0.1, fun _ _ => Nat.zero_le _, fun e he hd hz => by have := (h.ul hF he hd).2.2.1; omega, (fun z => by cases z), h0.2⟩ ?_ ?_
  · unfold setLayers slPush
    generalize (lpW (fun q : Ob × Bool => q.2) (fun q => pushDown wa q.1) 40 (lp (slInit wa) 40 pi, true)) = w at key
    obtain ⟨ly, k1, k2, k3, -, k5⟩ := key
    have hsat : ∀ e, e < E → dw wa e = true → ly (ub wa e) < ly (lb wa e) := fun e he hd => k3 e he hd (by have := h.2.2.2 _ (h.ul hF he hd).2.2.2.2.1; omega)
    have h19 : ∀ b, tb (gl fl 0) b = true → ly b < 19 := fun b hb => by
      have := h.2.2.2 b hb
      have := k2 b hb
      omega
    have fin := lp_ind (f := slMax) (n := 40) (s := si w.1 1 0) (fun i t => gA t 0 = gA w.1 0 ∧ gi t 0 = gi pi 0 ∧ gi t 2 = gi pi 2 ∧ ∃ L, L ≤ 19 ∧ gi t 1 = nI L ∧ ∀ b, b < i → tb (gl fl 0) b = true → ly b < L)
      ⟨by simp only [gi_sl, gi_sA, gi_sB, gi_si_s, gi_si_n, gl_si, gl_sA, gl_sB, gl_sl_s, gl_sl_n, gA_si, gA_sl, gA_sB, gA_sA_s, gA_sA_n, gB_si, gB_sl, gB_sA, gB_sB_s, gB_sB_n, Nat.reduceBEq], by simp only [gi_sl, gi_sA, gi_sB, gi_si_s, gi_si_n, gl_si, gl_sA, gl_sB, gl_sl_s, gl_sl_n, gA_si, gA_sl, gA_sB, gA_sA_s, gA_sA_n, gB_si, gB_sl, gB_sA, gB_sB_s, gB_sB_n, Nat.reduceBEq]; exact k5 0, by simp only [gi_sl, gi_sA, gi_sB, gi_si_s, gi_si_n, gl_si, gl_sA, gl_sB, gl_sl_s, gl_sl_n, gA_si, gA_sl, gA_sB, gA_sA_s, gA_sA_n, gB_si, gB_sl, gB_sA, gB_sB_s, gB_sB_n, Nat.reduceBEq]; exact k5 2, 0, by decide, by simp only [gi_sl, gi_sA, gi_sB, gi_si_s, gi_si_n, gl_si, gl_sA, gl_sB, gl_sl_s, gl_sl_n, gA_si, gA_sl, gA_sB, gA_sA_s, gA_sA_n, gB_si, gB_sl, gB_sA, gB_sB_s, gB_sB_n, Nat.reduceBEq]; rfl, fun b hb => absurd hb (Nat.not_lt_zero b)⟩ (fun i t hi ht => by
        obtain ⟨f1, f2, f3, L, f4, f5, f6⟩ := ht
        unfold slMax
        simp only [gi_sl, gi_sA, gi_sB, gi_si_s, gi_si_n, gl_si, gl_sA, gl_sB, gl_sl_s, gl_sl_n, gA_si, gA_sl, gA_sB, gA_sA_s, gA_sA_n, gB_si, gB_sl, gB_sA, gB_sB_s, gB_sB_n, Nat.reduceBEq]
        refine ⟨f1, f2, f3, ?_⟩
        rw [rd_nI hi (by decide), f1, f5, k1 i hi]
        by_cases q : tb (gl fl 0) i = true
        · rw [if_pos q, nI_1]
          have q2 := h19 i q
          unfold imax
          by_cases q3 : L < ly i + 1
          · rw [if_pos (nI_lt q3 (by omega))]
            refine ⟨ly i + 1, by omega, rfl, fun b hb hr => ?_⟩
            by_cases q4 : b = i
            · subst q4; omega
            · have := f6 b (by omega) hr; omega
          · rw [if_neg (nI_nlt (by omega) (by omega))]
            refine ⟨L, f4, rfl, fun b hb hr => ?_⟩
            by_cases q4 : b = i
            · subst q4; omega
            · exact f6 b (by omega) hr
        · rw [if_neg q]
          unfold imax
          rw [show (-1 : Int32) + 1 = nI 0 from by decide, if_neg (nI_nlt (Nat.zero_le L) (by omega))]
          refine ⟨L, f4, rfl, fun b hb hr => ?_⟩
          have : b ≠ i := fun z => by subst z; exact q hr
          exact f6 b (by omega) hr)
    obtain ⟨f1, f2, f3, L, f4, f5, f6⟩ := fin
    refine ⟨L, ly, ⟨by rw [f2]; exact hE0, f5, f4, fun b hb => by rw [f1]; exact k1 b hb, fun b hb => ⟨f6 b (by have := hF.r_lt hb; omega) hb, h19 b hb⟩, hsat⟩, f3⟩
  · rintro i ⟨t, ch⟩ hi ⟨ly, k1, k2, k3, k4, k5⟩ hch
    obtain ⟨ly2, g1, g2, g3, g4, g5⟩ := push_ok hF h (by rw [k5]; exact hE0) k1 k2 k3
    exact ⟨ly2, g1, g2, g3, g4, fun k => by rw [g5]; exact k5 k⟩
  · rintro i ⟨t, ch⟩ hi ⟨ly, k1, k2, k3, k4, k5⟩ hch
    exact ⟨ly, k1, k2, fun e he hd _ => k4 hch e he hd, k4, k5⟩
/-! ===== Picture: the bends ===== -/
def bd (wa : Ob) (ly : Nat → Nat) (e : Nat) : Nat := if dw wa e = true then ly (lb wa e) - ly (ub wa e) - 1 else 0
def fbn (wa : Ob) (ly : Nat → Nat) (e : Nat) : Nat := 40 + fb_sm (bd wa ly) e
theorem bendCount_eq (hF : FL n c E hm fs fr eg fe fl) (h : WK c E fr eg fl wa cc ca ht) {L : Nat} {ly : Nat → Nat} {pi : Ob} (hL : LAY E L fl wa ly pi) {e : Nat} (he : e < E) : bendCount wa pi (nI e) = if dw wa e = true then nI (bd wa ly e) else -1 := by
  have hE := hF.e57
  unfold bendCount bd
  rw [draws_dw (by omega)]
  by_cases hd : dw wa e = true
  · obtain ⟨t1, t2, t3, t4, t5⟩ := hL.top hF h he hd
    rw [if_pos hd, if_pos hd, if_pos hd, t1, t2, pk_sub (by omega), show (1 : Int32) = nI 1 from rfl, pk_sub (by omega)]
  · rw [if_neg hd, if_neg hd]
theorem bd_le (hF : FL n c E hm fs fr eg fe fl) (h : WK c E fr eg fl wa cc ca ht) {L : Nat} {ly : Nat → Nat} {pi : Ob} (hL : LAY E L fl wa ly pi) {e : Nat} (he : e < E) : bd wa ly e ≤ 17 := by
  unfold bd
  by_cases hd : dw wa e = true
  · obtain ⟨t1, t2, t3, t4, t5⟩ := hL.top hF h he hd
    rw [if_pos hd]; omega
  · rw [if_neg hd]; omega
theorem fbn_le (hF : FL n c E hm fs fr eg fe fl) (h : WK c E fr eg fl wa cc ca ht) {L : Nat} {ly : Nat → Nat} {pi : Ob} (hL : LAY E L fl wa ly pi) {e : Nat} (he : e ≤ E) : fbn wa ly e ≤ 1009 := by
  have hE := hF.e57
  have : fb_sm (bd wa ly) e ≤ e * 17 := fb_sm_bound (fun k hk => bd_le hF h hL (by omega))
  unfold fbn
  omega
theorem fbn_s (ly : Nat → Nat) (e : Nat) : fbn wa ly (e + 1) = fbn wa ly e + bd wa ly e := by
  unfold fbn
  rw [fb_sm_succ]; omega
theorem fbn_mono (ly : Nat → Nat) {e e2 : Nat} (h : e < e2) : fbn wa ly e + bd wa ly e ≤ fbn wa ly e2 := by
  have := fb_sm_part (bd wa ly) h
  unfold fbn
  omega
theorem fbn_40 (ly : Nat → Nat) (e : Nat) : 40 ≤ fbn wa ly e := by unfold fbn; omega
/-- a number of a bend has one edge and one place on it -/
theorem fbn_inj {ly : Nat → Nat} {e e2 k k2 : Nat} (hk : k < bd wa ly e) (hk2 : k2 < bd wa ly e2) (h : fbn wa ly e + k = fbn wa ly e2 + k2) : e = e2 ∧ k = k2 := by
  rcases Nat.lt_trichotomy e e2 with q | q | q
  · have := fbn_mono (wa := wa) ly q; omega
  · subst q; exact ⟨rfl, by omega⟩
  · have := fbn_mono (wa := wa) ly q; omega
def BND (E : Nat) (wa : Ob) (ly : Nat → Nat) (pi : Ob) : Prop := (∀ e, e < E → gA pi 2 e = nI (fbn wa ly e)) ∧ (∀ e, e < E → ∀ k, k < bd wa ly e → gA pi 3 (fbn wa ly e + k) = nI e)
theorem bends_ok (hF : FL n c E hm fs fr eg fe fl) (h : WK c E fr eg fl wa cc ca ht) {L : Nat} {ly : Nat → Nat} {pi : Ob} (hL : LAY E L fl wa ly pi) : BND E wa ly (numberBends wa pi) ∧ LAY E L fl wa ly (numberBends wa pi) ∧ gi (numberBends wa pi) 2 = gi pi 2 := by
  have hE := hF.e57
  unfold numberBends
  rw [hL.1, nN_nI (by omega)]
  have key := lp_ind (f := nbStep wa) (n := E) (s := (pi, (40 : Int32))) (fun i q => q.2 = nI (fbn wa ly i) ∧ (∀ k, gi q.1 k = gi pi k) ∧ gA q.1 0 = gA pi 0 ∧ (∀ e, e < i → gA q.1 2 e = nI (fbn wa ly e)) ∧ (∀ e, e < i → ∀ k, k < bd wa ly e → gA q.1 3 (fbn wa ly e + k) = nI e))
    ⟨rfl, fun _ => rfl, rfl, fun e he => absurd he (Nat.not_lt_zero e), fun e he => absurd he (Nat.not_lt_zero e)⟩ ?_
  · obtain ⟨-, k2, k3, k4, k5⟩ := key
    obtain ⟨l1, l2, l3, l4, l5, l6⟩ := hL
    exact ⟨⟨k4, k5⟩, ⟨by rw [k2]; exact l1, by rw [k2]; exact l2, l3, fun b hb => by rw [k3]; exact l4 b hb, l5, l6⟩, k2 2⟩
  · rintro i ⟨t, num⟩ hi ⟨k1, k2, k3, k4, k5⟩
    simp only at k1 k2 k3 k4 k5
    subst k1
    have hb := fbn_le hF h hL (e := i) (by omega)
    have hb2 := fbn_le hF h hL (e := i + 1) (by omega)
    have hs := fbn_s (wa := wa) ly i
    unfold nbStep
    have e1 : nbPut i (t, nI (fbn wa ly i)) = sA t 2 (upd (gA t 2) i (nI (fbn wa ly i))) := by
      unfold nbPut
      rw [wr_nI (by omega) (by decide)]
    have hLt : LAY E L fl wa ly (nbPut i (t, nI (fbn wa ly i))) := by
      obtain ⟨l1, l2, l3, l4, l5, l6⟩ := hL
      rw [e1]
      refine ⟨by simp only [gi_sl, gi_sA, gi_sB, gi_si_s, gi_si_n, gl_si, gl_sA, gl_sB, gl_sl_s, gl_sl_n, gA_si, gA_sl, gA_sB, gA_sA_s, gA_sA_n, gB_si, gB_sl, gB_sA, gB_sB_s, gB_sB_n, Nat.reduceBEq]; rw [k2]; exact l1, by simp only [gi_sl, gi_sA, gi_sB, gi_si_s, gi_si_n, gl_si, gl_sA, gl_sB, gl_sl_s, gl_sl_n, gA_si, gA_sl, gA_sB, gA_sA_s, gA_sA_n, gB_si, gB_sl, gB_sA, gB_sB_s, gB_sB_n, Nat.reduceBEq]; rw [k2]; exact l2, l3, fun b hb => ?_, l5, l6⟩
      simp only [gi_sl, gi_sA, gi_sB, gi_si_s, gi_si_n, gl_si, gl_sA, gl_sB, gl_sl_s, gl_sl_n, gA_si, gA_sl, gA_sB, gA_sA_s, gA_sA_n, gB_si, gB_sl, gB_sA, gB_sB_s, gB_sB_n, Nat.reduceBEq]
      rw [k3]; exact l4 b hb
    have e2 : nN (bendCount wa (nbPut i (t, nI (fbn wa ly i))) (nI i)) = bd wa ly i := by
      rw [bendCount_eq hF h hLt hi]
      by_cases hd : dw wa i = true
      · rw [if_pos hd, nN_nI (by have := bd_le hF h hL hi; omega)]
      · rw [if_neg hd]
        unfold bd
        rw [if_neg hd]; decide
    rw [e2]
    have inn := lp_ind (f := nbIn i) (n := bd wa ly i) (s := (nbPut i (t, nI (fbn wa ly i)), nI (fbn wa ly i))) (fun k q => q.2 = nI (fbn wa ly i + k) ∧ (∀ k, gi q.1 k = gi pi k) ∧ gA q.1 0 = gA pi 0 ∧ gA q.1 2 = upd (gA t 2) i (nI (fbn wa ly i)) ∧ (∀ j, j < fbn wa ly i → gA q.1 3 j = gA t 3 j) ∧ (∀ k', k' < k → gA q.1 3 (fbn wa ly i + k') = nI i))
      ⟨rfl, fun k => by rw [e1]; simp only [gi_sl, gi_sA, gi_sB, gi_si_s, gi_si_n, gl_si, gl_sA, gl_sB, gl_sl_s, gl_sl_n, gA_si, gA_sl, gA_sB, gA_sA_s, gA_sA_n, gB_si, gB_sl, gB_sA, gB_sB_s, gB_sB_n, Nat.reduceBEq]; exact k2 k, by rw [e1]; simp only [gi_sl, gi_sA, gi_sB, gi_si_s, gi_si_n, gl_si, gl_sA, gl_sB, gl_sl_s, gl_sl_n, gA_si, gA_sl, gA_sB, gA_sA_s, gA_sA_n, gB_si, gB_sl, gB_sA, gB_sB_s, gB_sB_n, Nat.reduceBEq]; exact k3, by rw [e1]; simp only [gi_sl, gi_sA, gi_sB, gi_si_s, gi_si_n, gl_si, gl_sA, gl_sB, gl_sl_s, gl_sl_n, gA_si, gA_sl, gA_sB, gA_sA_s, gA_sA_n, gB_si, gB_sl, gB_sA, gB_sB_s, gB_sB_n, Nat.reduceBEq], fun j _ => by rw [e1]; simp only [gi_sl, gi_sA, gi_sB, gi_si_s, gi_si_n, gl_si, gl_sA, gl_sB, gl_sl_s, gl_sl_n, gA_si, gA_sl, gA_sB, gA_sA_s, gA_sA_n, gB_si, gB_sl, gB_sA, gB_sB_s, gB_sB_n, Nat.reduceBEq], fun k' hk => absurd hk (Nat.not_lt_zero k')⟩ ?_
    · obtain ⟨j1, j2, j3, j4, j5, j6⟩ := inn
      refine ⟨by rw [j1, hs], j2, j3, fun e he => ?_, fun e he k hk => ?_⟩
      · rw [j4]
        by_cases q : e = i
        · subst q; rw [upd_s]
        · rw [upd_n _ _ q]; exact k4 e (by omega)
      · by_cases q : e = i
        · subst q; exact j6 k hk
        · have := fbn_mono (wa := wa) ly (show e < i by omega)
          rw [j5 _ (by omega)]; exact k5 e (by omega) k hk
    · rintro k ⟨u, num⟩ hk ⟨j1, j2, j3, j4, j5, j6⟩
      simp only at j1 j2 j3 j4 j5 j6
      subst j1
      unfold nbIn
      simp only [gi_sl, gi_sA, gi_sB, gi_si_s, gi_si_n, gl_si, gl_sA, gl_sB, gl_sl_s, gl_sl_n, gA_si, gA_sl, gA_sB, gA_sA_s, gA_sA_n, gB_si, gB_sl, gB_sA, gB_sB_s, gB_sB_n, Nat.reduceBEq]
      rw [wr_nI (by omega) (by decide), nI_1]
      refine ⟨rfl, j2, j3, j4, fun j hj => ?_, fun k' hk' => ?_⟩
      · rw [upd_n _ _ (by omega)]; exact j5 j hj
      · by_cases q : k' = k
        · subst q; rw [upd_s]
        · rw [upd_n _ _ (by omega)]; exact j6 k' (by omega)
end LAYS
