/-! ===== Picture: the points ===== -/
def SM45 (a b : Ob) : Prop := (∀ k, gi a k = gi b k) ∧ (∀ k, k ≠ 4 → k ≠ 5 → gA a k = gA b k)
theorem SM45.rf (a : Ob) : SM45 a a := ⟨fun _ => rfl, fun _ _ _ => rfl⟩
theorem sA_ne (o : Ob) (k j : Nat) (v : Nat → Int32) (h : j ≠ k) : gA (sA o k v) j = gA o j := gA_sA_n o k j v (by simp [h])
theorem put_eq {t : Ob} {l i p s0 : Nat} (hl : l < 41) (h1 : gA t 1 l = nI s0) (hi : i < 1600) (hp : p < 1600) (hs : s0 ≤ i) :
    gA (putPoint t (nI l) (nI i) (nI p)) 4 = upd (gA t 4) i (nI p) ∧ gA (putPoint t (nI l) (nI i) (nI p)) 5 = upd (gA t 5) p (nI (i - s0)) ∧ SM45 (putPoint t (nI l) (nI i) (nI p)) t := by
  unfold putPoint
  rw [wr_nI hi (by decide), wr_nI hp (by decide), rd_nI hl (by decide), h1, pk_sub hs]
  refine ⟨by simp only [gi_sl, gi_sA, gi_sB, gi_si_s, gi_si_n, gl_si, gl_sA, gl_sB, gl_sl_s, gl_sl_n, gA_si, gA_sl, gA_sB, gA_sA_s, gA_sA_n, gB_si, gB_sl, gB_sA, gB_sB_s, gB_sB_n, Nat.reduceBEq], by simp only [gi_sl, gi_sA, gi_sB, gi_si_s, gi_si_n, gl_si, gl_sA, gl_sB, gl_sl_s, gl_sl_n, gA_si, gA_sl, gA_sB, gA_sA_s, gA_sA_n, gB_si, gB_sl, gB_sA, gB_sB_s, gB_sB_n, Nat.reduceBEq], fun k => by simp only [gi_sl, gi_sA, gi_sB, gi_si_s, gi_si_n, gl_si, gl_sA, gl_sB, gl_sl_s, gl_sl_n, gA_si, gA_sl, gA_sB, gA_sA_s, gA_sA_n, gB_si, gB_sl, gB_sA, gB_sB_s, gB_sB_n, Nat.reduceBEq], fun k h4 h5 => ?_⟩
  rw [sA_ne _ _ _ _ h5, sA_ne _ _ _ _ h4]
theorem SM45.tr {a b d : Ob} (h : SM45 a b) (h2 : SM45 b d) : SM45 a d := ⟨fun k => (h.1 k).trans (h2.1 k), fun k h4 h5 => (h.2 k h4 h5).trans (h2.2 k h4 h5)⟩
theorem ct_lt_of {p : Nat → Bool} {i n : Nat} (hi : i < n) (h : p i = true) : fb_ct p i < fb_ct p n := by
  have := fb_ct_mono p (show i + 1 ≤ n from hi)
  rw [fb_ct_succ, if_pos h] at this
  omega
theorem list_loop {p : Nat → Bool} {q : Nat → Nat} {n a s0 l : Nat} {f : Nat → Ob × Int32 → Ob × Int32} {t0 : Ob}
    (hl : l < 41) (h1 : gA t0 1 l = nI s0) (hb : s0 + a + n < 1600) (hq : ∀ i, i < n → p i = true → q i < 1600) (hinj : ∀ i j, i < j → j < n → p i = true → p j = true → q i ≠ q j)
    (hf : ∀ i t k, i < n → SM45 t t0 → f i (t, nI k) = if p i = true then (putPoint t (nI l) (nI k) (nI (q i)), nI (k + 1)) else (t, nI k)) :
    ∃ t1, lp f n (t0, nI (s0 + a)) = (t1, nI (s0 + a + fb_ct p n)) ∧ SM45 t1 t0 ∧ (∀ j, j < s0 + a → gA t1 4 j = gA t0 4 j) ∧ (∀ i, i < n → p i = true → gA t1 4 (s0 + a + fb_ct p i) = nI (q i) ∧ gA t1 5 (q i) = nI (a + fb_ct p i)) ∧ (∀ pt, (∀ i, i < n → p i = true → q i ≠ pt) → gA t1 5 pt = gA t0 5 pt) := by
  have key := lp_ind (f := f) (n := n) (s := (t0, nI (s0 + a))) (fun m x => ∃ t1, x = (t1, nI (s0 + a + fb_ct p m)) ∧ SM45 t1 t0 ∧ (∀ j, j < s0 + a → gA t1 4 j = gA t0 4 j) ∧ (∀ i, i < m → p i = true → gA t1 4 (s0 + a + fb_ct p i) = nI (q i) ∧ gA t1 5 (q i) = nI (a + fb_ct p i)) ∧ (∀ pt, (∀ i, i < m → p i = true → q i ≠ pt) → gA t1 5 pt = gA t0 5 pt))
    ⟨t0, rfl, SM45.rf t0, fun _ _ => rfl, fun i hi => absurd hi (Nat.not_lt_zero i), fun _ _ => rfl⟩ ?_
  · exact key
  · rintro m x hm ⟨t1, rfl, k1, k2, k3, k4⟩
    rw [hf m t1 _ hm k1]
    have hct := fb_ct_le p m
    by_cases hp : p m = true
    · rw [if_pos hp]
      obtain ⟨g1, g2, g3⟩ := put_eq (t := t1) (l := l) (i := s0 + a + fb_ct p m) (p := q m) (s0 := s0) hl (by rw [k1.2 1 (by decide) (by decide)]; exact h1) (by omega) (hq m hm hp) (by omega)
      refine ⟨_, by rw [fb_ct_succ, if_pos hp]; rfl, g3.tr k1, fun j hj => ?_, fun i hi hpi => ?_, fun pt hpt => ?_⟩
      · rw [g1, upd_n _ _ (by omega)]; exact k2 j hj
      · rw [g1, g2]
        by_cases e : i = m
        · subst e
          rw [upd_s, upd_s]
          exact ⟨rfl, by congr 1; omega⟩
        · have h9 := ct_lt_of (show i < m by omega) hpi
          rw [upd_n _ _ (by omega), upd_n _ _ (hinj i m (by omega) hm hpi hp)]
          exact k3 i (by omega) hpi
      · rw [g2, upd_n _ _ (fun z => hpt m (by omega) hp z.symm)]
        exact k4 pt (fun i hi => hpt i (by omega))
    · rw [if_neg hp]
      refine ⟨t1, by rw [fb_ct_succ, if_neg hp, Nat.add_zero], k1, k2, fun i hi hpi => ?_, fun pt hpt => k4 pt (fun i hi => hpt i (by omega))⟩
      have : i ≠ m := fun z => by subst z; exact hp hpi
      exact k3 i (by omega) hpi
def PT (E : Nat) (fl wa : Ob) (ly : Nat → Nat) (l pt : Nat) : Prop := (tb (gl fl 0) pt = true ∧ ly pt = l) ∨ (∃ e, e < E ∧ dw wa e = true ∧ ly (ub wa e) < l ∧ l < ly (lb wa e) ∧ pt = fbn wa ly e + (l - ly (ub wa e) - 1))
def pA (ly ca : Nat → Nat) (l i : Nat) : Bool := decide (ly (ca i) = l)
def pB (wa : Ob) (ly : Nat → Nat) (l e : Nat) : Bool := dw wa e && (decide (ly (ub wa e) < l) && decide (l < ly (lb wa e)))
def zL (E cc : Nat) (wa : Ob) (ly ca : Nat → Nat) (l : Nat) : Nat := fb_ct (pA ly ca l) cc + fb_ct (pB wa ly l) E
def sF (E cc : Nat) (wa : Ob) (ly ca : Nat → Nat) (l : Nat) : Nat := fb_sm (zL E cc wa ly ca) l
/-- the orders of the layers below l -/
def PCi (l : Nat) (s : Nat → Nat) (P : Nat → Nat → Prop) (t : Ob) : Prop :=
  (∀ l', l' < l → ∀ i, s l' ≤ i → i < s (l' + 1) → ∃ pt, gA t 4 i = nI pt ∧ P l' pt ∧ gA t 5 pt = nI (i - s l')) ∧
  (∀ l', l' < l → ∀ pt, P l' pt → ∃ i, s l' ≤ i ∧ i < s (l' + 1) ∧ gA t 4 i = nI pt)
section FILLS
variable {n c E : Nat} {hm fs fr eg fe : Nat → Nat} {fl wa : Ob} {cc L : Nat} {ca ht ly : Nat → Nat}
theorem pB_iff {l e : Nat} : pB wa ly l e = true ↔ dw wa e = true ∧ ly (ub wa e) < l ∧ l < ly (lb wa e) := by
  unfold pB
  rw [Bool.and_eq_true, Bool.and_eq_true, decide_eq_true_iff, decide_eq_true_iff]
theorem pB_bd {l e : Nat} (h : pB wa ly l e = true) : l - ly (ub wa e) - 1 < bd wa ly e := by
  obtain ⟨h1, h2, h3⟩ := pB_iff.mp h
  unfold bd
  rw [if_pos h1]; omega
theorem PT_lt (hF : FL n c E hm fs fr eg fe fl) (h : WK c E fr eg fl wa cc ca ht) {pi : Ob} (hL : LAY E L fl wa ly pi) {l pt : Nat} (hp : PT E fl wa ly l pt) : pt < 1600 := by
  rcases hp with ⟨h1, -⟩ | ⟨e, he, hd, h1, h2, rfl⟩
  · have := hF.r_lt h1
    have := hF.c19
    omega
  · have a := fbn_le hF h hL (e := e) (by omega)
    have := pB_bd (pB_iff.mpr ⟨hd, h1, h2⟩)
    have := bd_le hF h hL he
    omega
/-- a point is in one layer -/
theorem PT_one (hF : FL n c E hm fs fr eg fe fl) {l l2 pt : Nat} (h1 : PT E fl wa ly l pt) (h2 : PT E fl wa ly l2 pt) : l = l2 := by
  have hc := hF.c19
  rcases h1 with ⟨a1, a2⟩ | ⟨e, he, hd, b1, b2, b3⟩
  · rcases h2 with ⟨d1, d2⟩ | ⟨e2, he2, hd2, f1, f2, f3⟩
    · omega
    · have := hF.r_lt a1
      have := fbn_40 (wa := wa) ly e2
      omega
  · rcases h2 with ⟨d1, d2⟩ | ⟨e2, he2, hd2, f1, f2, f3⟩
    · have := hF.r_lt d1
      have := fbn_40 (wa := wa) ly e
      omega
    · have := fbn_inj (pB_bd (pB_iff.mpr ⟨hd, b1, b2⟩)) (pB_bd (pB_iff.mpr ⟨hd2, f1, f2⟩)) (b3.symm.trans f3)
      obtain ⟨q1, q2⟩ := this
      subst q1
      omega
theorem zL_le (hE : E ≤ 57) (hcc : cc ≤ 19) (l : Nat) : zL E cc wa ly ca l ≤ 76 := by
  have := fb_ct_le (pA ly ca l) cc
  have := fb_ct_le (pB wa ly l) E
  unfold zL
  omega
theorem sF_le (hE : E ≤ 57) (hcc : cc ≤ 19) {l : Nat} (hl : l ≤ 19) : sF E cc wa ly ca l ≤ 1444 := by
  have : sF E cc wa ly ca l ≤ l * 76 := fb_sm_bound (fun k _ => zL_le hE hcc k)
  omega
theorem sF_s (l : Nat) : sF E cc wa ly ca (l + 1) = sF E cc wa ly ca l + zL E cc wa ly ca l := fb_sm_succ _ _
theorem sF_mono {l l2 : Nat} (h : l < l2) : sF E cc wa ly ca (l + 1) ≤ sF E cc wa ly ca l2 := by
  have := fb_sm_part (zL E cc wa ly ca) h
  rw [sF_s]
  exact this
theorem pn_mid (hF : FL n c E hm fs fr eg fe fl) (h : WK c E fr eg fl wa cc ca ht) {pi : Ob} (hL : LAY E L fl wa ly pi) (hB : ∀ e, e < E → gA pi 2 e = nI (fbn wa ly e)) {l e : Nat} (he : e < E) (hp : pB wa ly l e = true) : pointOn wa pi (nI e) (nI l) = nI (fbn wa ly e + (l - ly (ub wa e) - 1)) := by
  have hE := hF.e57
  obtain ⟨h1, h2, h3⟩ := pB_iff.mp hp
  obtain ⟨t1, t2, t3, t4, t5⟩ := hL.top hF h he h1
  have a := fbn_le hF h hL (e := e) (by omega)
  unfold pointOn
  rw [t1, t2, if_neg (fun z => by have := nI_inj (by omega) (by omega) z; omega), if_neg (fun z => by have := nI_inj (by omega) (by omega) z; omega), rd_nI (by omega) (by decide), hB e he, nI_add, pk_sub (by omega), show (1 : Int32) = nI 1 from rfl, pk_sub (by omega)]
  congr 1
  omega
theorem fill_ok (hF : FL n c E hm fs fr eg fe fl) (h : WK c E fr eg fl wa cc ca ht) {t : Ob} (hL : LAY E L fl wa ly t) (hB : ∀ e, e < E → gA t 2 e = nI (fbn wa ly e)) {l : Nat} (hl : l < L) (h1 : gA t 1 l = nI (sF E cc wa ly ca l)) :
    ∃ t1, fill wa t (nI l) (nI (sF E cc wa ly ca l)) = (t1, nI (sF E cc wa ly ca (l + 1))) ∧ SM45 t1 t ∧ (∀ j, j < sF E cc wa ly ca l → gA t1 4 j = gA t 4 j) ∧
      (∀ i, sF E cc wa ly ca l ≤ i → i < sF E cc wa ly ca (l + 1) → ∃ pt, gA t1 4 i = nI pt ∧ PT E fl wa ly l pt ∧ gA t1 5 pt = nI (i - sF E cc wa ly ca l)) ∧
      (∀ pt, PT E fl wa ly l pt → ∃ i, sF E cc wa ly ca l ≤ i ∧ i < sF E cc wa ly ca (l + 1) ∧ gA t1 4 i = nI pt) ∧ (∀ pt, ¬ PT E fl wa ly l pt → gA t1 5 pt = gA t 5 pt) := by
  have hE := hF.e57
  have hc := hF.c19
  have hLL := hL.2.2.1
  obtain ⟨w1, hcc, w3, w4, w5⟩ := h.2.1
  have hsl := sF_le (wa := wa) (ly := ly) (ca := ca) hE (show cc ≤ 19 by omega) (show l ≤ 19 by omega)
  have hss := sF_s (E := E) (cc := cc) (wa := wa) (ly := ly) (ca := ca) l
  have hz := zL_le (wa := wa) (ly := ly) (ca := ca) hE (show cc ≤ 19 by omega) l
  have hrc : ∀ i, i < cc → tb (gl fl 0) (ca i) = true := fun i hi => (w5 _).mpr ⟨i, hi, rfl⟩
  have hcac : ∀ i, i < cc → ca i < c := fun i hi => hF.r_lt (hrc i hi)
  generalize hsd : sF E cc wa ly ca l = s0 at *
  obtain ⟨ta, a1, a2, a3, a4, a5⟩ := list_loop (p := pA ly ca l) (q := ca) (n := cc) (a := 0) (s0 := s0) (l := l) (f := fiA wa (nI l)) (t0 := t) (by omega) h1 (by omega) (fun i hi _ => by have := hcac i hi; omega) (fun i j hij hj _ _ => w4 i j hij hj) (fun i t' k hi ht' => by
    have r1 := hrc i hi
    have r2 := hcac i hi
    have r3 := hL.2.2.2.2.1 _ r1
    unfold fiA pA
    simp only
    rw [rd_nI (by omega) (by decide), w3 i hi, rd_nI (by omega) (by decide), ht'.2 0 (by decide) (by decide), hL.2.2.2.1 _ (by omega), if_pos r1]
    by_cases q : ly (ca i) = l
    · rw [if_pos (by rw [q]), if_pos (decide_eq_true q), nI_1]
    · rw [if_neg (fun z => q (nI_inj (by omega) (by omega) z)), if_neg (by simp [q])])
  have hLa : LAY E L fl wa ly ta := by
    obtain ⟨l1, l2, l3, l4, l5, l6⟩ := hL
    exact ⟨by rw [a2.1]; exact l1, by rw [a2.1]; exact l2, l3, fun b hb => by rw [a2.2 0 (by decide) (by decide)]; exact l4 b hb, l5, l6⟩
  have hnA := fb_ct_le (pA ly ca l) cc
  generalize hna : fb_ct (pA ly ca l) cc = nA at *
  rw [Nat.add_zero] at a1
  obtain ⟨t1, b1, b2, b3, b4, b5⟩ := list_loop (p := pB wa ly l) (q := fun e => fbn wa ly e + (l - ly (ub wa e) - 1)) (n := E) (a := nA) (s0 := s0) (l := l) (f := fiB wa (nI l)) (t0 := ta) (by omega) (by rw [a2.2 1 (by decide) (by decide)]; exact h1) (by omega) (fun i hi hp => by
      have := pB_bd hp
      have := bd_le hF h hL hi
      have := fbn_le hF h hL (e := i) (by omega)
      show fbn wa ly i + (l - ly (ub wa i) - 1) < 1600
      omega) (fun i j hij hj hi hpj z => by
      have := (fbn_inj (pB_bd hi) (pB_bd hpj) z).1
      omega) (fun i t' k hi ht' => by
      have hLt : LAY E L fl wa ly t' := by
        obtain ⟨l1, l2, l3, l4, l5, l6⟩ := hLa
        exact ⟨by rw [ht'.1]; exact l1, by rw [ht'.1]; exact l2, l3, fun b hb => by rw [ht'.2 0 (by decide) (by decide)]; exact l4 b hb, l5, l6⟩
      have hBt : ∀ e, e < E → gA t' 2 e = nI (fbn wa ly e) := fun e he => by rw [ht'.2 2 (by decide) (by decide), a2.2 2 (by decide) (by decide)]; exact hB e he
      unfold fiB
      simp only
      rw [draws_dw (by omega)]
      by_cases hd : dw wa i = true
      · obtain ⟨u1, u2, u3, u4, u5⟩ := hLt.top hF h hi hd
        rw [if_pos hd, u1, u2]
        by_cases q1 : ly (ub wa i) < l
        · rw [if_pos (nI_lt q1 (by omega))]
          by_cases q2 : l < ly (lb wa i)
          · have hp : pB wa ly l i = true := pB_iff.mpr ⟨hd, q1, q2⟩
            rw [if_pos (nI_lt q2 (by omega)), if_pos hp, pn_mid hF h hLt hBt hi hp, nI_1]
          · rw [if_neg (nI_nlt (by omega) (by omega)), if_neg (fun z => q2 (pB_iff.mp z).2.2)]
        · rw [if_neg (nI_nlt (by omega) (by omega)), if_neg (fun z => q1 (pB_iff.mp z).2.1)]
      · rw [if_neg hd, if_neg (fun z => hd (pB_iff.mp z).1)])
  have hzz : zL E cc wa ly ca l = nA + fb_ct (pB wa ly l) E := by unfold zL; rw [hna]
  have hpl : ∀ i e, i < cc → ca i ≠ fbn wa ly e + (l - ly (ub wa e) - 1) := fun i e hi z => by
    have := hcac i hi
    have := fbn_40 (wa := wa) ly e
    omega
  refine ⟨t1, ?_, b2.tr a2, fun j hj => ?_, fun i hi1 hi2 => ?_, fun pt hpt => ?_, fun pt hpt => ?_⟩
  · unfold fill
    rw [h.2.1.1, nN_nI (by omega), a1, hL.1, nN_nI (by omega), b1, hss, hzz, Nat.add_assoc]
  · rw [b3 j (by omega)]; exact a3 j (by omega)
  · rw [hss, hzz] at hi2
    rcases Nat.lt_or_ge i (s0 + nA) with q | q
    · obtain ⟨x, x1, x2, x3⟩ := fb_ct_kth (p := pA ly ca l) (k := i - s0) (n := cc) (by omega)
      have y := a4 x x1 x2
      rw [x3, show s0 + 0 + (i - s0) = i by omega, Nat.zero_add] at y
      refine ⟨ca x, by rw [b3 i q]; exact y.1, Or.inl ⟨hrc x x1, of_decide_eq_true x2⟩, ?_⟩
      rw [b5 _ (fun e he hp z => hpl x e x1 z.symm)]
      exact y.2
    · obtain ⟨x, x1, x2, x3⟩ := fb_ct_kth (p := pB wa ly l) (k := i - s0 - nA) (n := E) (by omega)
      have y := b4 x x1 x2
      rw [x3, show s0 + nA + (i - s0 - nA) = i by omega, show nA + (i - s0 - nA) = i - s0 by omega] at y
      obtain ⟨z1, z2, z3⟩ := pB_iff.mp x2
      exact ⟨_, y.1, Or.inr ⟨x, x1, z1, z2, z3, rfl⟩, y.2⟩
  · rw [hss, hzz]
    rcases hpt with ⟨r1, r2⟩ | ⟨e, he, hd, r1, r2, rfl⟩
    · obtain ⟨x, x1, x2⟩ := (w5 pt).mp r1
      have hp : pA ly ca l x = true := by unfold pA; rw [x2]; exact decide_eq_true r2
      have y := a4 x x1 hp
      have q := ct_lt_of x1 hp
      refine ⟨s0 + 0 + fb_ct (pA ly ca l) x, by omega, by omega, ?_⟩
      rw [b3 _ (by omega), y.1, x2]
    · have hp := pB_iff.mpr ⟨hd, r1, r2⟩
      have y := b4 e he hp
      have q := ct_lt_of he hp
      exact ⟨s0 + nA + fb_ct (pB wa ly l) e, by omega, by omega, y.1⟩
  · rw [b5 pt (fun e he hp z => hpt (Or.inr ⟨e, he, (pB_iff.mp hp).1, (pB_iff.mp hp).2.1, (pB_iff.mp hp).2.2, z.symm⟩))]
    exact a5 pt (fun i hi hp z => hpt (Or.inl ⟨by rw [← z]; exact hrc i hi, by rw [← z]; exact of_decide_eq_true hp⟩))
/-- the picture, as it is drawn and after any sweeps -/
def PIC (E cc L : Nat) (fl wa : Ob) (ly ca : Nat → Nat) (t : Ob) : Prop :=
  LAY E L fl wa ly t ∧ BND E wa ly t ∧ (∀ l, l ≤ L → gA t 1 l = nI (sF E cc wa ly ca l)) ∧ PCi L (sF E cc wa ly ca) (PT E fl wa ly) t
theorem draw_ok (hF : FL n c E hm fs fr eg fe fl) (wa0 pi : Ob) : ∃ (cc L : Nat) (ca ht ly : Nat → Nat), WK c E fr eg fl (goThrough fl wa0) cc ca ht ∧ PIC E cc L fl (goThrough fl wa0) ly ca (draw fl wa0 pi) ∧ gi (draw fl wa0 pi) 2 = 0 := by
  have hE := hF.e57
  have hc := hF.c19
  obtain ⟨cc, ca, ht, h⟩ := walk_ok hF wa0
  have hcc := h.2.1.2.1
  obtain ⟨L, ly, h2, h3⟩ := layers_ok hF h (pi := si (si pi 0 (gi fl 1)) 2 0) (by simp only [gi_sl, gi_sA, gi_sB, gi_si_s, gi_si_n, gl_si, gl_sA, gl_sB, gl_sl_s, gl_sl_n, gA_si, gA_sl, gA_sB, gA_sA_s, gA_sA_n, gB_si, gB_sl, gB_sA, gB_sB_s, gB_sB_n, Nat.reduceBEq]; exact hF.ec)
  obtain ⟨h4, h5, h6⟩ := bends_ok hF h h2
  have hLL := h5.2.2.1
  refine ⟨cc, L, ca, ht, ly, h, ?_⟩
  unfold draw drFill drNum
  generalize goThrough fl wa0 = wa at *
  have e2 : gi (numberBends wa (setLayers wa (si (si pi 0 (gi fl 1)) 2 0))) 2 = 0 := by rw [h6, h3]; simp only [gi_sl, gi_sA, gi_sB, gi_si_s, gi_si_n, gl_si, gl_sA, gl_sB, gl_sl_s, gl_sl_n, gA_si, gA_sl, gA_sB, gA_sA_s, gA_sA_n, gB_si, gB_sl, gB_sA, gB_sB_s, gB_sB_n, Nat.reduceBEq]
  generalize numberBends wa (setLayers wa (si (si pi 0 (gi fl 1)) 2 0)) = t0 at *
  rw [h5.2.1, nN_nI (by omega)]
  have key := lp_ind (f := drStep wa) (n := L) (s := (t0, (0 : Int32))) (fun l x => ∃ t, x = (t, nI (sF E cc wa ly ca l)) ∧ (∀ k, gi t k = gi t0 k) ∧ gA t 0 = gA t0 0 ∧ gA t 2 = gA t0 2 ∧ gA t 3 = gA t0 3 ∧ (∀ l', l' < l → gA t 1 l' = nI (sF E cc wa ly ca l')) ∧ PCi l (sF E cc wa ly ca) (PT E fl wa ly) t)
    ⟨t0, rfl, fun _ => rfl, rfl, rfl, rfl, fun l' hl => absurd hl (Nat.not_lt_zero l'), fun l' hl => absurd hl (Nat.not_lt_zero l'), fun l' hl => absurd hl (Nat.not_lt_zero l')⟩ ?_
  · obtain ⟨t, e, k1, k2, k3, k4, k5, k6⟩ := key
    rw [e]
    simp only
    obtain ⟨l1, l2, l3, l4, l5, l6⟩ := h5
    rw [k1, l2, wr_nI (by omega) (by decide)]
    refine ⟨⟨⟨?_, ?_, l3, fun b hb => ?_, l5, l6⟩, ⟨fun e he => ?_, fun e he k hk => ?_⟩, fun l hl => ?_, ⟨fun l' hl' i hi1 hi2 => ?_, fun l' hl' pt hpt => ?_⟩⟩, ?_⟩ <;> simp only [gi_sl, gi_sA, gi_sB, gi_si_s, gi_si_n, gl_si, gl_sA, gl_sB, gl_sl_s, gl_sl_n, gA_si, gA_sl, gA_sB, gA_sA_s, gA_sA_n, gB_si, gB_sl, gB_sA, gB_sB_s, gB_sB_n, Nat.reduceBEq]
    · rw [k1]; exact l1
    · rw [k1]; exact l2
    · rw [k2]; exact l4 b hb
    · rw [k3]; exact h4.1 e he
    · rw [k4]; exact h4.2 e he k hk
    · by_cases q : l = L
      · subst q; rw [upd_s]
      · rw [upd_n _ _ q]; exact k5 l (by omega)
    · exact k6.1 l' hl' i hi1 hi2
    · exact k6.2 l' hl' pt hpt
    · rw [k1]; exact e2
  · rintro l x hl ⟨t, rfl, k1, k2, k3, k4, k5, k6⟩
    unfold drStep
    simp only
    rw [wr_nI (by omega) (by decide)]
    obtain ⟨l1, l2, l3, l4, l5, l6⟩ := h5
    obtain ⟨t1, f1, f2, f3, f4, f5, f6⟩ := fill_ok hF h (t := sA t 1 (upd (gA t 1) l (nI (sF E cc wa ly ca l)))) (L := L) (ly := ly) (l := l) ⟨by simp only [gi_sl, gi_sA, gi_sB, gi_si_s, gi_si_n, gl_si, gl_sA, gl_sB, gl_sl_s, gl_sl_n, gA_si, gA_sl, gA_sB, gA_sA_s, gA_sA_n, gB_si, gB_sl, gB_sA, gB_sB_s, gB_sB_n, Nat.reduceBEq]; rw [k1]; exact l1, by simp only [gi_sl, gi_sA, gi_sB, gi_si_s, gi_si_n, gl_si, gl_sA, gl_sB, gl_sl_s, gl_sl_n, gA_si, gA_sl, gA_sB, gA_sA_s, gA_sA_n, gB_si, gB_sl, gB_sA, gB_sB_s, gB_sB_n, Nat.reduceBEq]; rw [k1]; exact l2, l3, fun b hb => by simp only [gi_sl, gi_sA, gi_sB, gi_si_s, gi_si_n, gl_si, gl_sA, gl_sB, gl_sl_s, gl_sl_n, gA_si, gA_sl, gA_sB, gA_sA_s, gA_sA_n, gB_si, gB_sl, gB_sA, gB_sB_s, gB_sB_n, Nat.reduceBEq]; rw [k2]; exact l4 b hb, l5, l6⟩ (fun e he => by simp only [gi_sl, gi_sA, gi_sB, gi_si_s, gi_si_n, gl_si, gl_sA, gl_sB, gl_sl_s, gl_sl_n, gA_si, gA_sl, gA_sB, gA_sA_s, gA_sA_n, gB_si, gB_sl, gB_sA, gB_sB_s, gB_sB_n, Nat.reduceBEq]; rw [k3]; exact h4.1 e he) hl (by simp only [gi_sl, gi_sA, gi_sB, gi_si_s, gi_si_n, gl_si, gl_sA, gl_sB, gl_sl_s, gl_sl_n, gA_si, gA_sl, gA_sB, gA_sA_s, gA_sA_n, gB_si, gB_sl, gB_sA, gB_sB_s, gB_sB_n, Nat.reduceBEq]; rw [upd_s])
    rw [f1]
    refine ⟨t1, rfl, fun k => by rw [f2.1]; simp only [gi_sl, gi_sA, gi_sB, gi_si_s, gi_si_n, gl_si, gl_sA, gl_sB, gl_sl_s, gl_sl_n, gA_si, gA_sl, gA_sB, gA_sA_s, gA_sA_n, gB_si, gB_sl, gB_sA, gB_sB_s, gB_sB_n, Nat.reduceBEq]; exact k1 k, ?_, ?_, ?_, fun l' hl' => ?_, ⟨fun l' hl' i hi1 hi2 => ?_, fun l' hl' pt hpt => ?_⟩⟩
    · rw [f2.2 0 (by decide) (by decide)]; simp only [gi_sl, gi_sA, gi_sB, gi_si_s, gi_si_n, gl_si, gl_sA, gl_sB, gl_sl_s, gl_sl_n, gA_si, gA_sl, gA_sB, gA_sA_s, gA_sA_n, gB_si, gB_sl, gB_sA, gB_sB_s, gB_sB_n, Nat.reduceBEq]; exact k2
    · rw [f2.2 2 (by decide) (by decide)]; simp only [gi_sl, gi_sA, gi_sB, gi_si_s, gi_si_n, gl_si, gl_sA, gl_sB, gl_sl_s, gl_sl_n, gA_si, gA_sl, gA_sB, gA_sA_s, gA_sA_n, gB_si, gB_sl, gB_sA, gB_sB_s, gB_sB_n, Nat.reduceBEq]; exact k3
    · rw [f2.2 3 (by decide) (by decide)]; simp only [gi_sl, gi_sA, gi_sB, gi_si_s, gi_si_n, gl_si, gl_sA, gl_sB, gl_sl_s, gl_sl_n, gA_si, gA_sl, gA_sB, gA_sA_s, gA_sA_n, gB_si, gB_sl, gB_sA, gB_sB_s, gB_sB_n, Nat.reduceBEq]; exact k4
    · rw [f2.2 1 (by decide) (by decide)]; simp only [gi_sl, gi_sA, gi_sB, gi_si_s, gi_si_n, gl_si, gl_sA, gl_sB, gl_sl_s, gl_sl_n, gA_si, gA_sl, gA_sB, gA_sA_s, gA_sA_n, gB_si, gB_sl, gB_sA, gB_sB_s, gB_sB_n, Nat.reduceBEq]
      by_cases q : l' = l
      · subst q; rw [upd_s]
      · rw [upd_n _ _ q]; exact k5 l' (by omega)
    · by_cases q : l' = l
      · subst q; exact f4 i hi1 hi2
      · have hm := sF_mono (E := E) (cc := cc) (wa := wa) (ly := ly) (ca := ca) (show l' < l by omega)
        obtain ⟨pt, p1, p2, p3⟩ := k6.1 l' (by omega) i hi1 hi2
        refine ⟨pt, ?_, p2, ?_⟩
        · rw [f3 i (by omega)]; simp only [gi_sl, gi_sA, gi_sB, gi_si_s, gi_si_n, gl_si, gl_sA, gl_sB, gl_sl_s, gl_sl_n, gA_si, gA_sl, gA_sB, gA_sA_s, gA_sA_n, gB_si, gB_sl, gB_sA, gB_sB_s, gB_sB_n, Nat.reduceBEq]; exact p1
        · rw [f6 pt (fun z => q (PT_one hF p2 z))]; simp only [gi_sl, gi_sA, gi_sB, gi_si_s, gi_si_n, gl_si, gl_sA, gl_sB, gl_sl_s, gl_sl_n, gA_si, gA_sl, gA_sB, gA_sA_s, gA_sA_n, gB_si, gB_sl, gB_sA, gB_sB_s, gB_sB_n, Nat.reduceBEq]; exact p3
    · by_cases q : l' = l
      · subst q; exact f5 pt hpt
      · have hm := sF_mono (E := E) (cc := cc) (wa := wa) (ly := ly) (ca := ca) (show l' < l by omega)
        obtain ⟨i, p1, p2, p3⟩ := k6.2 l' (by omega) pt hpt
        exact ⟨i, p1, p2, by rw [f3 i (by omega)]; simp only [gi_sl, gi_sA, gi_sB, gi_si_s, gi_si_n, gl_si, gl_sA, gl_sB, gl_sl_s, gl_sl_n, gA_si, gA_sl, gA_sB, gA_sA_s, gA_sA_n, gB_si, gB_sl, gB_sA, gB_sB_s, gB_sB_n, Nat.reduceBEq]; exact p3⟩
/-- all points: the blocks that are reached, and all bends -/
theorem sm_one (P : Nat → Bool) : ∀ n, fb_sm (fun l => if P l = true then 1 else 0) n = fb_ct P n := by
  intro n
  induction n with
  | zero => rfl
  | succ n ih => rw [fb_sm_succ, fb_ct_succ, ih]
theorem sm_swap (P : Nat → Nat → Bool) (L : Nat) : ∀ n, fb_sm (fun l => fb_ct (P l) n) L = fb_sm (fun i => fb_ct (fun l => P l i) L) n := by
  intro n
  induction n with
  | zero =>
    exact (fb_sm_cong (g := fun _ => 0) (fun _ _ => rfl)).trans ((fb_sm_const 0 L).trans (Nat.mul_zero L))
  | succ n ih =>
    rw [fb_sm_succ, ← ih, ← sm_one, ← fb_sm_add]
    exact fb_sm_cong fun l _ => fb_ct_succ _ _
theorem ct_eq1 {a n : Nat} (h : a < n) : fb_ct (fun l => decide (a = l)) n = 1 := by
  have h1 : fb_ct (fun l => if l = a then true else false) n + (if false = true then 1 else 0) = fb_ct (fun _ => false) n + (if true = true then 1 else 0) := fb_ct_upd (fun _ => false) true h
  rw [if_neg (by decide), if_pos rfl, fb_ct_zero.mpr (fun _ _ => rfl)] at h1
  rw [fb_ct_cong (q := fun l => if l = a then true else false) (fun k _ => by
    by_cases e : k = a
    · subst e; simp
    · rw [if_neg e, decide_eq_false (fun z => e z.symm)])]
  omega
theorem ct_mid (a b : Nat) : ∀ n, fb_ct (fun l => decide (a < l) && decide (l < b)) n = min n b - (a + 1) := by
  intro n
  induction n with
  | zero => rw [show fb_ct (fun l => decide (a < l) && decide (l < b)) 0 = 0 from rfl]; omega
  | succ n ih =>
    rw [fb_ct_succ, ih]
    by_cases h1 : a < n
    · by_cases h2 : n < b
      · rw [decide_eq_true h1, decide_eq_true h2, if_pos (by decide)]; omega
      · rw [decide_eq_false h2, Bool.and_false, if_neg (by decide)]; omega
    · rw [decide_eq_false h1, Bool.false_and, if_neg (by decide)]; omega
theorem points_all (hF : FL n c E hm fs fr eg fe fl) (h : WK c E fr eg fl wa cc ca ht) {t : Ob} (hL : LAY E L fl wa ly t) : sF E cc wa ly ca L = cc + fb_sm (bd wa ly) E := by
  obtain ⟨w1, hcc, w3, w4, w5⟩ := h.2.1
  unfold sF
  rw [show fb_sm (zL E cc wa ly ca) L = fb_sm (fun l => fb_ct (pA ly ca l) cc + fb_ct (pB wa ly l) E) L from rfl, fb_sm_add, sm_swap (fun l i => pA ly ca l i), sm_swap (fun l e => pB wa ly l e)]
  congr 1
  · refine (fb_sm_cong (g := fun _ => 1) (fun i hi => ?_)).trans ((fb_sm_const 1 cc).trans (Nat.mul_one cc))
    exact ct_eq1 (hL.2.2.2.2.1 _ ((w5 _).mpr ⟨i, hi, rfl⟩)).1
  · refine fb_sm_cong fun e he => ?_
    unfold bd
    by_cases hd : dw wa e = true
    · obtain ⟨t1, t2, t3, t4, t5⟩ := hL.top hF h he hd
      rw [if_pos hd, fb_ct_cong (q := fun l => decide (ly (ub wa e) < l) && decide (l < ly (lb wa e))) (fun l _ => by unfold pB; rw [hd, Bool.true_and]), ct_mid]
      omega
    · rw [if_neg hd]
      exact fb_ct_zero.mpr (fun l _ => by unfold pB; rw [ts_nt hd, Bool.false_and])
end FILLS
