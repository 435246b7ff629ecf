/-! ===== what lies in the rows of work doesn't matter ===== -/
def REL (a b : Ob) : Prop := EY XSC a b ∧ gi a 2 = gi b 2
theorem REL.rf (a : Ob) : REL a a := ⟨EY.rf _ _, rfl⟩
theorem REL.sy {a b : Ob} (h : REL a b) : REL b a := ⟨h.1.sy, h.2.symm⟩
theorem REL.tr {a b d : Ob} (h : REL a b) (h2 : REL b d) : REL a d := ⟨h.1.tr h2.1, h.2.trans h2.2⟩
theorem REL.gi {a b : Ob} (h : REL a b) (k : Nat) : gi a k = gi b k := by
  by_cases q : k = 2
  · subst q; exact h.2
  · exact h.1.1 k q
theorem REL.row {a b : Ob} (h : REL a b) {k : Nat} (hk : k < 6) : gA a k = gA b k := h.1.2.2.1 k (decide_eq_false (by omega))
theorem REL.put {a b : Ob} (h : REL a b) (k : Nat) (v w : Nat → Int32) (hk : 6 ≤ k) : REL (sA a k v) (sA b k w) :=
  ⟨(h.1.sA k v (decide_eq_true hk)).tr ((EY.rf XSC b).sA k w (decide_eq_true hk)).sy, h.2⟩
theorem REL.put1 (a : Ob) (k : Nat) (v : Nat → Int32) (hk : 6 ≤ k) : REL (sA a k v) a := ⟨(EY.rf XSC a).sA k v (decide_eq_true hk), gi_sA a k 2 v⟩
theorem REL.put2 {a b : Ob} (h : REL a b) (k : Nat) {v w : Nat → Int32} (e : v = w) : REL (sA a k v) (sA b k w) := by
  subst e
  refine ⟨⟨fun j hj => h.1.1 j hj, fun j => h.1.2.1 j, fun j hj => ?_, fun j => h.1.2.2.2 j⟩, h.2⟩
  by_cases q : j = k
  · subst q; rw [gA_sA_s, gA_sA_s]
  · rw [sA_ne _ _ _ _ q, sA_ne _ _ _ _ q]; exact h.1.2.2.1 j hj
theorem REL.si2 {a b : Ob} (h : REL a b) {v w : Int32} (e : v = w) : REL (si a 2 v) (si b 2 w) := by
  subst e
  refine ⟨⟨fun j hj => ?_, fun j => h.1.2.1 j, fun j hj => h.1.2.2.1 j hj, fun j => h.1.2.2.2 j⟩, ?_⟩
  · rw [gi_si_n _ _ _ _ (by simp [hj]), gi_si_n _ _ _ _ (by simp [hj])]; exact h.1.1 j hj
  · rw [gi_si_s, gi_si_s]
theorem topE_c {wa a b : Ob} (h : gA a 0 = gA b 0) (e : Int32) : topE wa a e = topE wa b e := by unfold topE; rw [h]
theorem botE_c {wa a b : Ob} (h : gA a 0 = gA b 0) (e : Int32) : botE wa a e = botE wa b e := by unfold botE; rw [h]
theorem leaves_c {wa a b : Ob} (h : gA a 0 = gA b 0) (e l : Int32) : leaves wa a e l = leaves wa b e l := by unfold leaves; rw [topE_c h, botE_c h]
theorem pointOn_c {wa a b : Ob} (h : gA a 0 = gA b 0) (h2 : gA a 2 = gA b 2) (e l : Int32) : pointOn wa a e l = pointOn wa b e l := by unfold pointOn; rw [topE_c h, botE_c h, h2]
theorem weSpot_c {wa a b : Ob} (h : REL a b) (l : Int32) (e : Nat) : weSpot wa a l e = weSpot wa b l e := by
  unfold weSpot
  rw [pointOn_c (h.row (by decide)) (h.row (by decide)), h.row (k := 5) (by decide)]
def R7 (z : Nat) (a b : Ob) : Prop := REL a b ∧ (∀ j, j < z → gA a 7 j = gA b 7 j) ∧ (∀ j, j < z → gA a 8 j = gA b 8 j)
theorem wr_c {f g : Nat → Int32} {z : Nat} (hz : z ≤ 120) (h : ∀ j, j < z → f j = g j) (x y : Int32) : ∀ j, j < z → wr f 120 x (rd f 120 x + y) j = wr g 120 x (rd g 120 x + y) j := fun j hj => by
  rcases ix_case x with hx | ⟨q, hq, rfl⟩
  · rw [wr_neg hx, wr_neg hx]; exact h j hj
  · rcases Nat.lt_or_ge q 120 with q1 | q1
    · rw [wr_nI q1 (by decide), wr_nI q1 (by decide), rd_nI q1 (by decide), rd_nI q1 (by decide)]
      by_cases e : j = q
      · subst e; rw [upd_s, upd_s, h j hj]
      · rw [upd_n _ _ e, upd_n _ _ e]; exact h j hj
    · rw [wr_out q1 hq, wr_out q1 hq]; exact h j hj
theorem upd_c {f g : Nat → Int32} {z i : Nat} {v w : Int32} (h : ∀ j, j < z → f j = g j) (e : v = w) : ∀ j, j < z → upd f i v j = upd g i w j := fun j hj => by
  by_cases q : j = i
  · subst q; rw [upd_s, upd_s, e]
  · rw [upd_n _ _ q, upd_n _ _ q]; exact h j hj
theorem weigh_c {wa a b : Ob} {z : Nat} (hz : z ≤ 120) (h : REL a b) (l o : Int32) : R7 z (weigh wa a l o (nI z)) (weigh wa b l o (nI z)) := by
  unfold weigh
  rw [nN_nI (by omega), h.gi 0]
  refine lp_rel (fun _ x y => R7 z x y) ?_ (fun i x y hi hxy => ?_)
  · refine lp_rel (fun _ x y => R7 z x y) ?_ (fun i x y hi hxy => ?_)
    · have := lp_rel (f := weA) (g := weA) (n := z) (s := a) (t := b) (fun i x y => REL x y ∧ (∀ j, j < i → gA x 7 j = gA y 7 j) ∧ (∀ j, j < i → gA x 8 j = gA y 8 j)) ⟨h, fun j hj => absurd hj (Nat.not_lt_zero j), fun j hj => absurd hj (Nat.not_lt_zero j)⟩ (fun i x y hi hxy => by
        obtain ⟨h1, h2, h3⟩ := hxy
        unfold weA
        refine ⟨(h1.put 7 _ _ (by decide)).put 8 _ _ (by decide), fun j hj => ?_, fun j hj => ?_⟩ <;> simp only [gi_sl, gi_sA, gi_sB, gi_si_s, gi_si_n, gl_si, gl_sA, gl_sB, gl_sl_s, gl_sl_n, gA_si, gA_sl, gA_sB, gA_sA_s, gA_sA_n, gB_si, gB_sl, gB_sA, gB_sB_s, gB_sB_n, Nat.reduceBEq] <;> rw [wr_nI (by omega) (by decide), wr_nI (by omega) (by decide)]
        · by_cases q : j = i
          · subst q; rw [upd_s, upd_s]
          · rw [upd_n _ _ q, upd_n _ _ q]; exact h2 j (by omega)
        · by_cases q : j = i
          · subst q; rw [upd_s, upd_s]
          · rw [upd_n _ _ q, upd_n _ _ q]; exact h3 j (by omega))
      exact this
    · obtain ⟨h1, h2, h3⟩ := hxy
      unfold weB
      rw [leaves_c (h1.row (by decide)), weSpot_c h1, weSpot_c h1]
      split
      · refine ⟨(h1.put 7 _ _ (by decide)).put 8 _ _ (by decide), ?_, ?_⟩ <;> simp only [gi_sl, gi_sA, gi_sB, gi_si_s, gi_si_n, gl_si, gl_sA, gl_sB, gl_sl_s, gl_sl_n, gA_si, gA_sl, gA_sB, gA_sA_s, gA_sA_n, gB_si, gB_sl, gB_sA, gB_sB_s, gB_sB_n, Nat.reduceBEq]
        · exact wr_c hz h2 _ _
        · exact wr_c hz h3 _ _
      · exact ⟨h1, h2, h3⟩
  · obtain ⟨h1, h2, h3⟩ := hxy
    unfold weC
    rw [rd_nI (by omega) (by decide), rd_nI (by omega) (by decide), h3 i hi]
    split
    · refine ⟨(h1.put 7 _ _ (by decide)).put 8 _ _ (by decide), ?_, ?_⟩ <;> simp only [gi_sl, gi_sA, gi_sB, gi_si_s, gi_si_n, gl_si, gl_sA, gl_sB, gl_sl_s, gl_sl_n, gA_si, gA_sl, gA_sB, gA_sA_s, gA_sA_n, gB_si, gB_sl, gB_sA, gB_sB_s, gB_sB_n, Nat.reduceBEq] <;> rw [wr_nI (by omega) (by decide), wr_nI (by omega) (by decide)]
      · exact upd_c h2 rfl
      · exact upd_c h3 rfl
    · exact ⟨h1, h2, h3⟩
def okp (z : Nat) (a : Ob) (x : Int32) : Prop := ∃ p q, x = nI p ∧ p < 1600 ∧ gA a 5 p = nI q ∧ q < z
theorem isAhead_c {a b : Ob} {z : Nat} {x y : Int32} (hz : z ≤ 120) (h : R7 z a b) (hx : okp z a x) (hy : okp z a y) : isAhead a x y = isAhead b x y := by
  obtain ⟨p, q, rfl, p1, p2, p3⟩ := hx
  obtain ⟨p', q', rfl, p1', p2', p3'⟩ := hy
  obtain ⟨h1, h2, h3⟩ := h
  unfold isAhead
  rw [← h1.row (k := 5) (by decide), rd_nI p1 (by decide), rd_nI p1' (by decide), p2, p2', rd_nI (by omega) (by decide), rd_nI (by omega) (by decide), rd_nI (by omega) (by decide), rd_nI (by omega) (by decide), rd_nI (by omega) (by decide), rd_nI (by omega) (by decide), rd_nI (by omega) (by decide), rd_nI (by omega) (by decide), h2 q p3, h2 q' p3', h3 q p3, h3 q' p3']
theorem slide_c {z s : Nat} {pt : Int32} (hz : z ≤ 120) : ∀ (k : Nat) (a b : Ob), s + k < 1600 → R7 z a b → okp z a pt → (∀ j, j ≤ k → okp z a (gA a 4 (s + j))) → (slide (nI s) pt k a).2 = (slide (nI s) pt k b).2 ∧ R7 z (slide (nI s) pt k a).1 (slide (nI s) pt k b).1 := by
  intro k
  induction k with
  | zero => intro a b _ h _ _; exact ⟨rfl, h⟩
  | succ k ih =>
    intro a b hk h hp hs
    have e4 : gA a 4 = gA b 4 := h.1.row (by decide)
    rw [slide_s, slide_s, nI_add, show nI (s + (k + 1)) - 1 = nI (s + k) from nI_pred (s + k), rd_nI (by omega) (by decide), rd_nI (by omega) (by decide), ← e4, isAhead_c hz h hp (hs k (by omega))]
    split
    · rw [slidePut_eq hk, slidePut_eq hk]
      refine ih _ _ (by omega) ⟨h.1.put2 4 (by rw [e4]), ?_, ?_⟩ ?_ (fun j hj => ?_)
      · simp only [gi_sl, gi_sA, gi_sB, gi_si_s, gi_si_n, gl_si, gl_sA, gl_sB, gl_sl_s, gl_sl_n, gA_si, gA_sl, gA_sB, gA_sA_s, gA_sA_n, gB_si, gB_sl, gB_sA, gB_sB_s, gB_sB_n, Nat.reduceBEq]; exact h.2.1
      · simp only [gi_sl, gi_sA, gi_sB, gi_si_s, gi_si_n, gl_si, gl_sA, gl_sB, gl_sl_s, gl_sl_n, gA_si, gA_sl, gA_sB, gA_sA_s, gA_sA_n, gB_si, gB_sl, gB_sA, gB_sB_s, gB_sB_n, Nat.reduceBEq]; exact h.2.2
      · unfold okp; simp only [gi_sl, gi_sA, gi_sB, gi_si_s, gi_si_n, gl_si, gl_sA, gl_sB, gl_sl_s, gl_sl_n, gA_si, gA_sl, gA_sB, gA_sA_s, gA_sA_n, gB_si, gB_sl, gB_sA, gB_sB_s, gB_sB_n, Nat.reduceBEq]; exact hp
      · unfold okp; simp only [gi_sl, gi_sA, gi_sB, gi_si_s, gi_si_n, gl_si, gl_sA, gl_sB, gl_sl_s, gl_sl_n, gA_si, gA_sl, gA_sB, gA_sA_s, gA_sA_n, gB_si, gB_sl, gB_sA, gB_sB_s, gB_sB_n, Nat.reduceBEq]
        by_cases q : s + j = s + (k + 1)
        · rw [q, upd_s]; exact hs k (by omega)
        · rw [upd_n _ _ q]; exact hs j (by omega)
    · exact ⟨rfl, h⟩
theorem arStep_c {z s j : Nat} {a b : Ob} (hz : z ≤ 120) (hj : j + 1 < z) (hs : s + z ≤ 1600) (h : R7 z a b) (hk : ∀ x, x < z → okp z a (gA a 4 (s + x))) : R7 z (arStep (nI s) j a) (arStep (nI s) j b) ∧ ∀ x, x < z → okp z (arStep (nI s) j a) (gA (arStep (nI s) j a) 4 (s + x)) := by
  have e4 : gA a 4 = gA b 4 := h.1.row (by decide)
  constructor
  · unfold arStep arPoint
    rw [nI_add, rd_nI (by omega) (by decide), rd_nI (by omega) (by decide), ← e4]
    obtain ⟨h1, h2, h3, h4⟩ := slide_c (s := s) (pt := gA a 4 (s + (j + 1))) hz (j + 1) a b (by omega) h (hk _ hj) (fun x hx => hk x (by omega))
    rw [← h1]
    refine ⟨h2.put2 4 (by rw [h2.row (k := 4) (by decide)]), ?_, ?_⟩ <;> simp only [gi_sl, gi_sA, gi_sB, gi_si_s, gi_si_n, gl_si, gl_sA, gl_sB, gl_sl_s, gl_sl_n, gA_si, gA_sl, gA_sB, gA_sA_s, gA_sA_n, gB_si, gB_sl, gB_sA, gB_sB_s, gB_sB_n, Nat.reduceBEq]
    · exact h3
    · exact h4
  · obtain ⟨a1, a2, r, a3, a4⟩ := arStep_eq (s := s) (j := j) (pi := a) (by omega)
    intro x hx
    unfold okp
    rw [a4, a1.2.2.1 5 rfl]
    split
    · exact hk _ hj
    · split
      · rw [show s + x - 1 = s + (x - 1) by omega]; exact hk _ (by omega)
      · exact hk x hx
section CONGS
variable {n c E : Nat} {hm fs fr eg fe : Nat → Nat} {fl wa : Ob} {cc L : Nat} {ca ht ly : Nat → Nat}
theorem arrange_c (hF : FL n c E hm fs fr eg fe fl) (h : WK c E fr eg fl wa cc ca ht) {a b : Ob} (hP : PIC E cc L fl wa ly ca a) (hR : REL a b) {l : Nat} (hl : l < L) (o : Int32) : REL (arrange wa a (nI l) o) (arrange wa b (nI l) o) := by
  have hE := hF.e57
  have hc := hF.c19
  have hL := hP.1.2.2.1
  have hcc := h.2.1.2.1
  obtain ⟨z1, z2⟩ := size_eq hP hl
  have hPb : PIC E cc L fl wa ly ca b := hP.cong (hR.gi 0).symm (hR.gi 1).symm (fun k hk => (hR.row hk).symm)
  obtain ⟨z3, z4⟩ := size_eq hPb hl
  have hz := zL_le (wa := wa) (ly := ly) (ca := ca) hE (show cc ≤ 19 by omega) l
  have hs := sF_le (wa := wa) (ly := ly) (ca := ca) hE (show cc ≤ 19 by omega) (show l ≤ 19 by omega)
  have hss := sF_s (E := E) (cc := cc) (wa := wa) (ly := ly) (ca := ca) l
  unfold arrange
  rw [z1, z2, z3, z4, nN_nI (by omega)]
  have hseg : ∀ i, i < zL E cc wa ly ca l → okp (zL E cc wa ly ca l) a (gA a 4 (sF E cc wa ly ca l + i)) := fun i hi => by
    obtain ⟨pt, a1, a2, a3⟩ := hP.2.2.2.1 l hl (sF E cc wa ly ca l + i) (by omega) (by omega)
    exact ⟨pt, i, a1, PT_lt hF h hP.1 a2, by rw [a3]; congr 1; omega, hi⟩
  generalize sF E cc wa ly ca l = s at *
  generalize zL E cc wa ly ca l = z at *
  have w := weigh_c (wa := wa) (z := z) (by omega) hR (nI l) o
  obtain ⟨wa1, -⟩ := weigh_ey wa a (nI l) o (nI z)
  have hseg2 : ∀ i, i < z → okp z (weigh wa a (nI l) o (nI z)) (gA (weigh wa a (nI l) o (nI z)) 4 (s + i)) := fun i hi => by
    unfold okp
    rw [wa1.2.2.1 4 rfl, wa1.2.2.1 5 rfl]
    exact hseg i hi
  have mid := lp_rel (f := arStep (nI s)) (g := arStep (nI s)) (n := z - 1) (s := weigh wa a (nI l) o (nI z)) (t := weigh wa b (nI l) o (nI z)) (fun _ x y => R7 z x y ∧ ∀ i, i < z → okp z x (gA x 4 (s + i))) ⟨w, hseg2⟩ (fun j x y hj hxy => arStep_c (by omega) (by omega) (by omega) hxy.1 hxy.2)
  refine lp_rel (fun _ x y => REL x y) mid.1.1 (fun i x y hi hxy => ?_)
  unfold arPut putPoint
  rw [← hxy.row (k := 4) (by decide), ← hxy.row (k := 5) (by decide), ← hxy.row (k := 1) (by decide)]
  exact (hxy.put2 4 rfl).put2 5 rfl
theorem soK_ok (hF : FL n c E hm fs fr eg fe fl) (h : WK c E fr eg fl wa cc ca ht) {a : Ob} (hP : PIC E cc L fl wa ly ca a) (down : Bool) {j : Nat} (hj : j < L - 1) :
    PIC E cc L fl wa ly ca (soK wa down j a) ∧ EY XAR (soK wa down j a) a ∧ gi (soK wa down j a) 2 = gi a 2 ∧ (∀ x, sF E cc wa ly ca L ≤ x → gA (soK wa down j a) 4 x = gA a 4 x) ∧ (∀ p, (∀ l, l < L → ¬ PT E fl wa ly l p) → gA (soK wa down j a) 5 p = gA a 5 p) ∧ ∀ b, REL a b → REL (soK wa down j a) (soK wa down j b) := by
  have hL := hP.1.2.2.1
  have key : ∀ l o, l < L → PIC E cc L fl wa ly ca (arrange wa a (nI l) o) ∧ EY XAR (arrange wa a (nI l) o) a ∧ gi (arrange wa a (nI l) o) 2 = gi a 2 ∧ (∀ x, sF E cc wa ly ca L ≤ x → gA (arrange wa a (nI l) o) 4 x = gA a 4 x) ∧ (∀ p, (∀ l, l < L → ¬ PT E fl wa ly l p) → gA (arrange wa a (nI l) o) 5 p = gA a 5 p) ∧ ∀ b, REL a b → REL (arrange wa a (nI l) o) (arrange wa b (nI l) o) := fun l o hl => by
    obtain ⟨k1, k2, k3, k4, k5⟩ := arrange_ok hF h hP hl o
    have hm := sF_mono (E := E) (cc := cc) (wa := wa) (ly := ly) (ca := ca) hl
    exact ⟨k1, k2, k3, fun x hx => k4 x (Or.inr (by omega)), fun p hp => k5 p (hp l hl), fun b hb => arrange_c hF h hP hb hl o⟩
  unfold soK
  cases down
  · rw [if_neg (by decide), hP.1.2.1, show (1 : Int32) = nI 1 from rfl, pk_sub (by omega), pk_sub (by omega), pk_sub (by omega)]
    obtain ⟨k1, k2, k3, k4, k5, k6⟩ := key (L - 1 - (j + 1)) (nI (L - (j + 1))) (by omega)
    refine ⟨k1, k2, k3, k4, k5, fun b hb => ?_⟩
    rw [if_neg (by decide), ← hb.gi 1, hP.1.2.1, pk_sub (by omega), pk_sub (by omega), pk_sub (by omega)]
    exact k6 b hb
  · rw [if_pos rfl]
    obtain ⟨k1, k2, k3, k4, k5, k6⟩ := key (j + 1) (nI (j + 1) - 1) (by omega)
    refine ⟨k1, k2, k3, k4, k5, fun b hb => ?_⟩
    rw [if_pos rfl]
    exact k6 b hb
theorem sweep_ok (hF : FL n c E hm fs fr eg fe fl) (h : WK c E fr eg fl wa cc ca ht) {a : Ob} (hP : PIC E cc L fl wa ly ca a) (many : Int32) :
    PIC E cc L fl wa ly ca (sweepOften wa a many) ∧ EY XAR (sweepOften wa a many) a ∧ gi (sweepOften wa a many) 2 = gi a 2 + nI (nN many) ∧ (∀ x, sF E cc wa ly ca L ≤ x → gA (sweepOften wa a many) 4 x = gA a 4 x) ∧ (∀ p, (∀ l, l < L → ¬ PT E fl wa ly l p) → gA (sweepOften wa a many) 5 p = gA a 5 p) := by
  have hL := hP.1.2.2.1
  unfold sweepOften
  refine lp_ind (fun i t => PIC E cc L fl wa ly ca t ∧ EY XAR t a ∧ gi t 2 = gi a 2 + nI i ∧ (∀ x, sF E cc wa ly ca L ≤ x → gA t 4 x = gA a 4 x) ∧ (∀ p, (∀ l, l < L → ¬ PT E fl wa ly l p) → gA t 5 p = gA a 5 p))
    ⟨hP, EY.rf _ _, by rw [nI_0, Int32.add_zero], fun _ _ => rfl, fun _ _ => rfl⟩ (fun i t hi ht => ?_)
  obtain ⟨t1, t2, t3, t4, t5⟩ := ht
  have inn : PIC E cc L fl wa ly ca (soAll wa t) ∧ EY XAR (soAll wa t) t ∧ gi (soAll wa t) 2 = gi t 2 ∧ (∀ x, sF E cc wa ly ca L ≤ x → gA (soAll wa t) 4 x = gA t 4 x) ∧ (∀ p, (∀ l, l < L → ¬ PT E fl wa ly l p) → gA (soAll wa t) 5 p = gA t 5 p) := by
    unfold soAll
    rw [t1.1.2.1, nN_nI (by omega)]
    refine lp_ind (fun _ u => PIC E cc L fl wa ly ca u ∧ EY XAR u t ∧ gi u 2 = gi t 2 ∧ (∀ x, sF E cc wa ly ca L ≤ x → gA u 4 x = gA t 4 x) ∧ (∀ p, (∀ l, l < L → ¬ PT E fl wa ly l p) → gA u 5 p = gA t 5 p)) ⟨t1, EY.rf _ _, rfl, fun _ _ => rfl, fun _ _ => rfl⟩ (fun j u hj hu => ?_)
    obtain ⟨k1, k2, k3, k4, k5, -⟩ := soK_ok hF h hu.1 (soDown t) hj
    exact ⟨k1, k2.tr hu.2.1, k3.trans hu.2.2.1, fun x hx => (k4 x hx).trans (hu.2.2.2.1 x hx), fun p hp => (k5 p hp).trans (hu.2.2.2.2 p hp)⟩
  unfold soStep
  obtain ⟨k1, k2, k3, k4, k5⟩ := inn
  refine ⟨k1.cong (by simp only [gi_sl, gi_sA, gi_sB, gi_si_s, gi_si_n, gl_si, gl_sA, gl_sB, gl_sl_s, gl_sl_n, gA_si, gA_sl, gA_sB, gA_sA_s, gA_sA_n, gB_si, gB_sl, gB_sA, gB_sB_s, gB_sB_n, Nat.reduceBEq]) (by simp only [gi_sl, gi_sA, gi_sB, gi_si_s, gi_si_n, gl_si, gl_sA, gl_sB, gl_sl_s, gl_sl_n, gA_si, gA_sl, gA_sB, gA_sA_s, gA_sA_n, gB_si, gB_sl, gB_sA, gB_sB_s, gB_sB_n, Nat.reduceBEq]) (fun k _ => by simp only [gi_sl, gi_sA, gi_sB, gi_si_s, gi_si_n, gl_si, gl_sA, gl_sB, gl_sl_s, gl_sl_n, gA_si, gA_sl, gA_sB, gA_sA_s, gA_sA_n, gB_si, gB_sl, gB_sA, gB_sB_s, gB_sB_n, Nat.reduceBEq]), ?_, ?_, fun x hx => ?_, fun p hp => ?_⟩
  · have k6 := k2.tr t2
    exact ⟨fun k hk => by rw [gi_si_n _ _ _ _ (by simp [hk])]; exact k6.1 k hk, fun k => k6.2.1 k, fun k hk => k6.2.2.1 k hk, fun k => k6.2.2.2 k⟩
  · rw [gi_si_s, k3, t3, add_nI1]
  · show gA (soAll wa t) 4 x = _
    rw [k4 x hx]; exact t4 x hx
  · show gA (soAll wa t) 5 p = _
    rw [k5 p hp]; exact t5 p hp
theorem sweep_c (hF : FL n c E hm fs fr eg fe fl) (h : WK c E fr eg fl wa cc ca ht) {a b : Ob} (hP : PIC E cc L fl wa ly ca a) (hR : REL a b) (many : Int32) : REL (sweepOften wa a many) (sweepOften wa b many) := by
  have hL := hP.1.2.2.1
  unfold sweepOften
  have key := lp_rel (f := soStep wa) (g := soStep wa) (n := nN many) (s := a) (t := b) (fun _ x y => PIC E cc L fl wa ly ca x ∧ REL x y) ⟨hP, hR⟩ (fun i x y hi hxy => by
    obtain ⟨h1, h2⟩ := hxy
    have inn : PIC E cc L fl wa ly ca (soAll wa x) ∧ REL (soAll wa x) (soAll wa y) := by
      unfold soAll
      rw [show soDown y = soDown x from by unfold soDown; rw [h2.2], ← h2.gi 1, h1.1.2.1, nN_nI (by omega)]
      refine lp_rel (fun _ u v => PIC E cc L fl wa ly ca u ∧ REL u v) ⟨h1, h2⟩ (fun j u v hj huv => ?_)
      obtain ⟨k1, -, -, -, -, k6⟩ := soK_ok hF h huv.1 (soDown x) hj
      exact ⟨k1, k6 v huv.2⟩
    unfold soStep
    exact ⟨inn.1.cong (by simp only [gi_sl, gi_sA, gi_sB, gi_si_s, gi_si_n, gl_si, gl_sA, gl_sB, gl_sl_s, gl_sl_n, gA_si, gA_sl, gA_sB, gA_sA_s, gA_sA_n, gB_si, gB_sl, gB_sA, gB_sB_s, gB_sB_n, Nat.reduceBEq]) (by simp only [gi_sl, gi_sA, gi_sB, gi_si_s, gi_si_n, gl_si, gl_sA, gl_sB, gl_sl_s, gl_sl_n, gA_si, gA_sl, gA_sB, gA_sA_s, gA_sA_n, gB_si, gB_sl, gB_sA, gB_sB_s, gB_sB_n, Nat.reduceBEq]) (fun k _ => by simp only [gi_sl, gi_sA, gi_sB, gi_si_s, gi_si_n, gl_si, gl_sA, gl_sB, gl_sl_s, gl_sl_n, gA_si, gA_sl, gA_sB, gA_sA_s, gA_sA_n, gB_si, gB_sl, gB_sA, gB_sB_s, gB_sB_n, Nat.reduceBEq]), inn.2.si2 (by rw [inn.2.gi 2])⟩)
  exact key.2
/-! ===== crossings ===== -/
def R9 (k : Nat) (p q : Ob × Int32) : Prop := REL p.1 q.1 ∧ p.2 = q.2 ∧ p.2 = nI k ∧ (∀ j, j < k → gA p.1 9 j = gA q.1 9 j ∧ gA p.1 10 j = gA q.1 10 j)
theorem cuP_c {wa a b : Ob} {E : Nat} (hE : E ≤ 57) (he : gi a 0 = nI E) (h : REL a b) (l : Int32) : ∃ k, k ≤ E ∧ R9 k (cuP wa a l) (cuP wa b l) := by
  unfold cuP
  rw [← h.gi 0, he, nN_nI (by omega)]
  refine lp_rel (fun i p q => ∃ k, k ≤ i ∧ R9 k p q) ⟨0, Nat.le_refl 0, h, rfl, rfl, fun j hj => absurd hj (Nat.not_lt_zero j)⟩ (fun i p q hi hpq => ?_)
  obtain ⟨k, hk, h1, h2, h3, h4⟩ := hpq
  have e5 : gA p.1 5 = gA q.1 5 := h1.row (by decide)
  unfold cuA
  rw [leaves_c (h1.row (by decide)), pointOn_c (h1.row (by decide)) (h1.row (by decide)), pointOn_c (h1.row (by decide)) (h1.row (by decide)), ← e5, ← h2, h3]
  split
  · refine ⟨k + 1, by omega, (h1.put 9 _ _ (by decide)).put 10 _ _ (by decide), rfl, nI_1 k, fun j hj => ?_⟩
    simp only [gi_sl, gi_sA, gi_sB, gi_si_s, gi_si_n, gl_si, gl_sA, gl_sB, gl_sl_s, gl_sl_n, gA_si, gA_sl, gA_sB, gA_sA_s, gA_sA_n, gB_si, gB_sl, gB_sA, gB_sB_s, gB_sB_n, Nat.reduceBEq]
    rw [wr_nI (by omega) (by decide), wr_nI (by omega) (by decide), wr_nI (by omega) (by decide), wr_nI (by omega) (by decide)]
    by_cases z : j = k
    · subst z; rw [upd_s, upd_s, upd_s, upd_s]; exact ⟨rfl, rfl⟩
    · rw [upd_n _ _ z, upd_n _ _ z, upd_n _ _ z, upd_n _ _ z]; exact h4 j (by omega)
  · exact ⟨k, by omega, h1, h2, h3, h4⟩
theorem crossN_c {wa a b : Ob} {E : Nat} (hE : E ≤ 57) (he : gi a 0 = nI E) (h : REL a b) (l : Int32) : crossN wa a l = crossN wa b l ∧ REL (cuP wa a l).1 (cuP wa b l).1 ∧ ∃ m, m ≤ 3249 ∧ crossN wa a l = nI m := by
  obtain ⟨k, hk, h1, h2, h3, h4⟩ := cuP_c (wa := wa) hE he h l
  unfold crossN
  rw [← h2, h3, nN_nI (by omega)]
  generalize (cuP wa a l).1 = x at *
  generalize (cuP wa b l).1 = y at *
  have hin : ∀ i, i < k → ∀ m, ∃ d, d ≤ i ∧ lp (cuB x i) i (nI m) = nI (m + d) := fun i hi m => by
    refine lp_ind (fun j t => ∃ d, d ≤ j ∧ t = nI (m + d)) ⟨0, Nat.le_refl 0, rfl⟩ (fun j t hj ht => ?_)
    obtain ⟨d, d1, d2⟩ := ht
    unfold cuB
    split
    · exact ⟨d + 1, by omega, by rw [d2, nI_1]; rfl⟩
    · exact ⟨d, by omega, d2⟩
  refine ⟨?_, h1, ?_⟩
  · refine lp_rel (fun _ s t => s = t) rfl (fun i s t hi hst => ?_)
    subst hst
    unfold cuC
    refine lp_rel (fun _ s t => s = t) rfl (fun j s t hj hst => ?_)
    subst hst
    unfold cuB
    rw [rd_nI (by omega) (by decide), rd_nI (by omega) (by decide), rd_nI (by omega) (by decide), rd_nI (by omega) (by decide), rd_nI (by omega) (by decide), rd_nI (by omega) (by decide), rd_nI (by omega) (by decide), rd_nI (by omega) (by decide), (h4 i hi).1, (h4 i hi).2, (h4 j (by omega)).1, (h4 j (by omega)).2]
  · have key := lp_ind (f := cuC x) (n := k) (s := (0 : Int32)) (fun i t => ∃ m, m ≤ i * 57 ∧ t = nI m) ⟨0, by omega, rfl⟩ (fun i t hi ht => by
      obtain ⟨m, m1, rfl⟩ := ht
      obtain ⟨d, d1, d2⟩ := hin i hi m
      exact ⟨m + d, by omega, d2⟩)
    obtain ⟨m, m1, m2⟩ := key
    exact ⟨m, by omega, m2⟩
theorem cuP_rel (wa a : Ob) (l : Int32) : REL (cuP wa a l).1 a := by
  unfold cuP
  refine lp_ind (fun _ (p : Ob × Int32) => REL p.1 a) (REL.rf a) (fun i p hi hp => ?_)
  unfold cuA
  split
  · exact ((REL.put1 _ 10 _ (by decide)).tr (REL.put1 _ 9 _ (by decide))).tr hp
  · exact hp
theorem cross_c {wa a b : Ob} {E L : Nat} (hE : E ≤ 57) (hL : L ≤ 19) (he : gi a 0 = nI E) (hl : gi a 1 = nI L) (h : REL a b) : (countCross wa a).2 = (countCross wa b).2 ∧ (∃ m, m ≤ 61731 ∧ (countCross wa a).2 = nI m) ∧ REL (countCross wa a).1 a ∧ REL (countCross wa b).1 b := by
  unfold countCross
  rw [← h.gi 1, hl]
  have hN : nN (nI L - 1) ≤ 19 := by
    rcases Nat.eq_zero_or_pos L with q | q
    · subst q; decide
    · rw [show (1 : Int32) = nI 1 from rfl, pk_sub (by omega), nN_nI (by omega)]; omega
  have key := lp_rel (f := ccStep wa) (g := ccStep wa) (n := nN (nI L - 1)) (s := (a, (0 : Int32))) (t := (b, (0 : Int32))) (fun i p q => p.2 = q.2 ∧ (∃ m, m ≤ i * 3249 ∧ p.2 = nI m) ∧ REL p.1 a ∧ REL q.1 b) ⟨rfl, ⟨0, by omega, rfl⟩, REL.rf a, REL.rf b⟩ (fun i p q hi hpq => by
    obtain ⟨h1, ⟨m, m1, m2⟩, h2, h3⟩ := hpq
    have hpq2 : REL p.1 q.1 := (h2.tr h).tr h3.sy
    obtain ⟨c1, c2, m', m3, m4⟩ := crossN_c (wa := wa) hE (by rw [h2.gi 0]; exact he) hpq2 (nI i)
    unfold ccStep
    refine ⟨by rw [h1, c1], ⟨m + m', by omega, by rw [m2, m4, nI_add]⟩, (cuP_rel wa p.1 (nI i)).tr h2, (cuP_rel wa q.1 (nI i)).tr h3⟩)
  obtain ⟨k1, ⟨m, m1, m2⟩, k3, k4⟩ := key
  have := Nat.mul_le_mul_right 3249 hN
  exact ⟨k1, ⟨m, by omega, m2⟩, k3, k4⟩
/-! ===== trying out ===== -/
theorem toAll_ok {a : Ob} {m : Nat} (hm : rd (gA a 1) 41 (gi a 1) = nI m) (hm2 : m ≤ 1600) : REL (toAll a) a ∧ ∀ i, i < m → gA (toAll a) 6 i = gA a 4 i := by
  unfold toAll
  rw [hm, nN_nI (by omega)]
  refine lp_ind (fun i t => REL t a ∧ ∀ j, j < i → gA t 6 j = gA a 4 j) ⟨REL.rf a, fun j hj => absurd hj (Nat.not_lt_zero j)⟩ (fun i t hi ht => ?_)
  unfold toKeep
  have e : REL (sA t 6 (wr (gA t 6) 1600 (nI i) (rd (gA t 4) 1600 (nI i)))) t := REL.put1 t 6 _ (by decide)
  refine ⟨e.tr ht.1, fun j hj => ?_⟩
  simp only [gi_sl, gi_sA, gi_sB, gi_si_s, gi_si_n, gl_si, gl_sA, gl_sB, gl_sl_s, gl_sl_n, gA_si, gA_sl, gA_sB, gA_sA_s, gA_sA_n, gB_si, gB_sl, gB_sA, gB_sB_s, gB_sB_n, Nat.reduceBEq]
  rw [wr_nI (by omega) (by decide), rd_nI (by omega) (by decide), ht.1.row (k := 4) (by decide)]
  by_cases q : j = i
  · subst q; rw [upd_s]
  · rw [upd_n _ _ q]; exact ht.2 j (by omega)
/-- trying out tells what sweeping would, and changes nothing -/
theorem try_ok (hF : FL n c E hm fs fr eg fe fl) (h : WK c E fr eg fl wa cc ca ht) {a : Ob} (hP : PIC E cc L fl wa ly ca a) (many : Int32) :
    REL (tryOut wa a many) a ∧ (toQ wa a many).2 = (countCross wa (sweepOften wa a many)).2 := by
  have hE := hF.e57
  have hc := hF.c19
  have hL := hP.1.2.2.1
  have hcc := h.2.1.2.1
  have hsL := sF_le (wa := wa) (ly := ly) (ca := ca) hE (show cc ≤ 19 by omega) hL
  obtain ⟨k1, k2⟩ := toAll_ok (a := a) (m := sF E cc wa ly ca L) (by rw [hP.1.2.1, rd_nI (by omega) (by decide)]; exact hP.2.2.1 L (Nat.le_refl L)) (by omega)
  have hPk : PIC E cc L fl wa ly ca (toAll a) := hP.cong (k1.gi 0) (k1.gi 1) (fun k hk => k1.row hk)
  obtain ⟨w1, w2, w3, w4, w5⟩ := sweep_ok hF h hPk many
  have hsw := sweep_c hF h hP k1.sy many
  have hQ : (toQ wa a many).2 = (countCross wa (sweepOften wa a many)).2 := by
    unfold toQ
    have := (cross_c (wa := wa) (a := sweepOften wa a many) (b := sweepOften wa (toAll a) many) hE hL (by rw [(sweep_ok hF h hP many).1.1.1]) (by rw [(sweep_ok hF h hP many).1.1.2.1]) hsw).1
    exact this.symm
  refine ⟨?_, hQ⟩
  obtain ⟨-, -, hx, -⟩ := cross_c (wa := wa) (a := sweepOften wa (toAll a) many) (b := sweepOften wa (toAll a) many) hE hL (by rw [w1.1.1]) (by rw [w1.1.2.1]) (REL.rf _)
  have hx6 : gA (countCross wa (sweepOften wa (toAll a) many)).1 6 = gA (toAll a) 6 := by
    have e1 : ∀ (x : Ob) (l : Int32), gA (cuP wa x l).1 6 = gA x 6 := fun x l => by
      unfold cuP
      refine lp_ind (fun _ (p : Ob × Int32) => gA p.1 6 = gA x 6) rfl (fun i p hi hp => ?_)
      unfold cuA
      split
      · simp only [gi_sl, gi_sA, gi_sB, gi_si_s, gi_si_n, gl_si, gl_sA, gl_sB, gl_sl_s, gl_sl_n, gA_si, gA_sl, gA_sB, gA_sA_s, gA_sA_n, gB_si, gB_sl, gB_sA, gB_sB_s, gB_sB_n, Nat.reduceBEq]; exact hp
      · exact hp
    have e2 : gA (countCross wa (sweepOften wa (toAll a) many)).1 6 = gA (sweepOften wa (toAll a) many) 6 := by
      unfold countCross
      refine lp_ind (fun _ (p : Ob × Int32) => gA p.1 6 = gA (sweepOften wa (toAll a) many) 6) rfl (fun i p hi hp => ?_)
      unfold ccStep
      rw [e1]; exact hp
    rw [e2, w2.2.2.1 6 rfl]
  have e0 : toQ wa a many = countCross wa (sweepOften wa (toAll a) many) := rfl
  unfold tryOut
  rw [e0]
  generalize (countCross wa (sweepOften wa (toAll a) many)).1 = q at hx hx6
  have qA : ∀ k, k < 6 → k ≠ 4 → k ≠ 5 → gA q k = gA a k := fun k hk h4 h5 => by
    rw [hx.row hk, w2.2.2.1 k (by unfold XAR X45 X78; simp; omega), k1.row hk]
  have q1 : gi q 1 = nI L := by rw [hx.gi 1, w1.1.2.1]
  have q4 : ∀ x, sF E cc wa ly ca L ≤ x → gA q 4 x = gA a 4 x := fun x hx9 => by
    rw [hx.row (k := 4) (by decide), w4 x hx9, k1.row (k := 4) (by decide)]
  have q5 : ∀ p, (∀ l, l < L → ¬ PT E fl wa ly l p) → gA q 5 p = gA a 5 p := fun p hp => by
    rw [hx.row (k := 5) (by decide), w5 p hp, k1.row (k := 5) (by decide)]
  have qk : ∀ i, i < sF E cc wa ly ca L → gA q 6 i = gA a 4 i := fun i hi => by rw [hx6]; exact k2 i hi
  have qg : ∀ k, k ≠ 2 → gi q k = gi a k := fun k hk => by rw [hx.gi k, w2.1 k hk, k1.gi k]
  have ql : ∀ k, gl q k = gl a k := fun k => by rw [hx.1.2.1 k, w2.2.1 k, k1.1.2.1 k]
  have qB : ∀ k, gB q k = gB a k := fun k => by rw [hx.1.2.2.2 k, w2.2.2.2 k, k1.1.2.2.2 k]
  rw [q1, nN_nI (by omega)]
  have key := lp_ind (f := toL) (n := L) (s := q) (fun l t => SM45 t q ∧ (∀ k, gl t k = gl q k) ∧ (∀ k, gB t k = gB q k) ∧ (∀ x, sF E cc wa ly ca L ≤ x → gA t 4 x = gA a 4 x) ∧ (∀ x, x < sF E cc wa ly ca l → gA t 4 x = gA a 4 x) ∧ (∀ p, (∀ l', l' < L → ¬ PT E fl wa ly l' p) → gA t 5 p = gA a 5 p) ∧ (∀ l', l' < l → ∀ p, PT E fl wa ly l' p → gA t 5 p = gA a 5 p))
    ⟨SM45.rf q, fun _ => rfl, fun _ => rfl, q4, fun x hx9 => absurd hx9 (Nat.not_lt_zero x), q5, fun l' hl => absurd hl (Nat.not_lt_zero l')⟩ (fun l t hl ht => by
      obtain ⟨t1, t1b, t1c, t2, t3, t4, t5⟩ := ht
      have s1 := hP.2.2.1 l (by omega)
      have s2 := hP.2.2.1 (l + 1) hl
      have e1 : gA t 1 = gA a 1 := by rw [t1.2 1 (by decide) (by decide)]; exact qA 1 (by decide) (by decide) (by decide)
      have hss := sF_s (E := E) (cc := cc) (wa := wa) (ly := ly) (ca := ca) l
      have hm := sF_mono (E := E) (cc := cc) (wa := wa) (ly := ly) (ca := ca) hl
      unfold toL
      rw [nI_1, e1, rd_nI (by omega) (by decide), rd_nI (by omega) (by decide), s1, s2, nI_toInt (by omega), nI_toInt (by omega), show ((sF E cc wa ly ca (l + 1) : Nat) : Int) - ((sF E cc wa ly ca l : Nat) : Int) = ((zL E cc wa ly ca l : Nat) : Int) by omega, Int.toNat_natCast]
      have seg := hP.2.2.2.1 l hl
      have inn := lp_ind (f := toB (nI l) (nI (sF E cc wa ly ca l))) (n := zL E cc wa ly ca l) (s := t) (fun j u => SM45 u t ∧ (∀ k, gl u k = gl q k) ∧ (∀ k, gB u k = gB q k) ∧ (∀ x, (x < sF E cc wa ly ca l ∨ sF E cc wa ly ca (l + 1) ≤ x) → gA u 4 x = gA t 4 x) ∧ (∀ j', j' < j → gA u 4 (sF E cc wa ly ca l + j') = gA a 4 (sF E cc wa ly ca l + j')) ∧ (∀ p, ¬ PT E fl wa ly l p → gA u 5 p = gA t 5 p) ∧ (∀ j', j' < j → ∀ p, gA a 4 (sF E cc wa ly ca l + j') = nI p → p < 1600 → gA u 5 p = gA a 5 p))
        ⟨SM45.rf t, t1b, t1c, fun _ _ => rfl, fun j hj => absurd hj (Nat.not_lt_zero j), fun _ _ => rfl, fun j hj => absurd hj (Nat.not_lt_zero j)⟩ (fun j u hj hu => by
          obtain ⟨u1, u1b, u1c, u2, u3, u4, u5⟩ := hu
          obtain ⟨pt, p1, p2, p3⟩ := seg (sF E cc wa ly ca l + j) (by omega) (by omega)
          have hpt := PT_lt hF h hP.1 p2
          have e6 : gA u 6 = gA q 6 := by rw [u1.2 6 (by decide) (by decide), t1.2 6 (by decide) (by decide)]
          have e7 : toB (nI l) (nI (sF E cc wa ly ca l)) j u = putPoint u (nI l) (nI (sF E cc wa ly ca l + j)) (nI pt) := by
            unfold toB
            rw [nI_add, e6, rd_nI (by omega) (by decide), qk _ (by omega), p1]
          obtain ⟨g1, g2, g3⟩ := put_eq (t := u) (l := l) (i := sF E cc wa ly ca l + j) (p := pt) (s0 := sF E cc wa ly ca l) (by omega) (by rw [u1.2 1 (by decide) (by decide), e1]; exact s1) (by omega) hpt (by omega)
          rw [e7]
          refine ⟨g3.tr u1, fun k => by unfold putPoint; simp only [gi_sl, gi_sA, gi_sB, gi_si_s, gi_si_n, gl_si, gl_sA, gl_sB, gl_sl_s, gl_sl_n, gA_si, gA_sl, gA_sB, gA_sA_s, gA_sA_n, gB_si, gB_sl, gB_sA, gB_sB_s, gB_sB_n, Nat.reduceBEq]; exact u1b k, fun k => by unfold putPoint; simp only [gi_sl, gi_sA, gi_sB, gi_si_s, gi_si_n, gl_si, gl_sA, gl_sB, gl_sl_s, gl_sl_n, gA_si, gA_sl, gA_sB, gA_sA_s, gA_sA_n, gB_si, gB_sl, gB_sA, gB_sB_s, gB_sB_n, Nat.reduceBEq]; exact u1c k, fun x hx9 => ?_, fun j' hj' => ?_, fun p hp => ?_, fun j' hj' p hp1 hp2 => ?_⟩
          · rw [g1, upd_n _ _ (by omega)]; exact u2 x hx9
          · rw [g1]
            by_cases z : j' = j
            · subst z; rw [upd_s, p1]
            · rw [upd_n _ _ (by omega)]; exact u3 j' (by omega)
          · rw [g2, upd_n _ _ (fun z => hp (by rw [z]; exact p2))]; exact u4 p hp
          · rw [g2]
            by_cases z : p = pt
            · subst z; rw [upd_s, p3]
            · rw [upd_n _ _ z]
              have : j' ≠ j := fun z2 => by
                subst z2
                rw [p1] at hp1
                exact z (nI_inj (by omega) (by omega) hp1).symm
              exact u5 j' (by omega) p hp1 hp2)
      generalize lp (toB (nI l) (nI (sF E cc wa ly ca l))) (zL E cc wa ly ca l) t = u at inn
      obtain ⟨u1, u1b, u1c, u2, u3, u4, u5⟩ := inn
      refine ⟨u1.tr t1, u1b, u1c, fun x hx9 => by rw [u2 x (Or.inr (by omega))]; exact t2 x hx9, fun x hx9 => ?_, fun p hp => by rw [u4 p (hp l hl)]; exact t4 p hp, fun l' hl' p hp => ?_⟩
      · rcases Nat.lt_or_ge x (sF E cc wa ly ca l) with z | z
        · rw [u2 x (Or.inl z)]; exact t3 x z
        · have := u3 (x - sF E cc wa ly ca l) (by omega)
          rwa [show sF E cc wa ly ca l + (x - sF E cc wa ly ca l) = x by omega] at this
      · by_cases z : l' = l
        · subst z
          obtain ⟨i, i1, i2, i3⟩ := hP.2.2.2.2 l' hl p hp
          have := u5 (i - sF E cc wa ly ca l') (by omega) p (by rw [show sF E cc wa ly ca l' + (i - sF E cc wa ly ca l') = i by omega]; exact i3) (PT_lt hF h hP.1 hp)
          exact this
        · rw [u4 p (fun y => z (PT_one hF hp y))]
          exact t5 l' (by omega) p hp)
  generalize lp toL L q = t at key
  obtain ⟨t1, t1b, t1c, t2, t3, t4, t5⟩ := key
  refine ⟨⟨fun k hk => ?_, fun k => ?_, fun k hk => ?_, fun k => ?_⟩, by rw [gi_si_s]⟩
  · rw [gi_si_n _ _ _ _ (by simp [hk]), t1.1, qg k hk]
  · show gl t k = _
    rw [t1b, ql]
  · show gA t k = _
    have hk6 : k < 6 := by
      have := of_decide_eq_false hk
      omega
    by_cases z4 : k = 4
    · subst z4
      funext x
      rcases Nat.lt_or_ge x (sF E cc wa ly ca L) with z | z
      · exact t3 x z
      · exact t2 x z
    · by_cases z5 : k = 5
      · subst z5
        funext p
        by_cases z : ∃ l, l < L ∧ PT E fl wa ly l p
        · obtain ⟨l, hl, hp⟩ := z
          exact t5 l hl p hp
        · exact t4 p (fun l hl hp => z ⟨l, hl, hp⟩)
      · rw [t1.2 k z4 z5]; exact qA k hk6 z4 z5
  · show gB t k = _
    rw [t1c, qB]
end CONGS
