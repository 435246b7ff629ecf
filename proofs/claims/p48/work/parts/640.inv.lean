/-! ===== what stays true of a chart ===== -/
def FLX (n : Nat) (fl : Ob) : Prop := ∃ (c E : Nat) (hm fs fr eg fe : Nat → Nat), FL n c E hm fs fr eg fe fl
def RKX (n : Nat) (fl ra : Ob) : Prop := ∀ (c E : Nat) (hm fs fr eg fe : Nat → Nat), FL n c E hm fs fr eg fe fl → RK c E fr eg fl ra
def RDX (fl re : Ob) : Prop := ∃ s, s ≤ 120 ∧ RDI s fl re
def PCX (n : Nat) (fl wa pi : Ob) : Prop := ∀ (c E : Nat) (hm fs fr eg fe : Nat → Nat), FL n c E hm fs fr eg fe fl → ∃ (cc L : Nat) (ca ht ly : Nat → Nat), WK c E fr eg fl wa cc ca ht ∧ PIC E cc L fl wa ly ca pi
def INV (n : Nat) (co fl ra li re wa pi : Ob) : Prop :=
  gi co 0 = nI n ∧ n ≤ 19 ∧ (¬ gi fl 2 = 0 → FLX n fl) ∧ (¬ gi ra 2 = 0 → ¬ gi fl 2 = 0 ∧ RKX n fl ra) ∧ (¬ gi li 1 = 0 → ¬ gi fl 2 = 0 ∧ LV fl li) ∧
  (¬ gi re 1 = 0 → ¬ gi fl 2 = 0 ∧ RDX fl re) ∧ (¬ gi pi 3 = 0 → ¬ gi fl 2 = 0 ∧ PCX n fl wa pi)
section INVP
variable {n : Nat} {co fl ra li re wa pi : Ob}
theorem INV.co0 (h : INV n co fl ra li re wa pi) : gi co 0 = nI n := h.1
theorem INV.n19 (h : INV n co fl ra li re wa pi) : n ≤ 19 := h.2.1
theorem INV.f (h : INV n co fl ra li re wa pi) : ¬ gi fl 2 = 0 → FLX n fl := h.2.2.1
theorem INV.r (h : INV n co fl ra li re wa pi) : ¬ gi ra 2 = 0 → ¬ gi fl 2 = 0 ∧ RKX n fl ra := h.2.2.2.1
theorem INV.l (h : INV n co fl ra li re wa pi) : ¬ gi li 1 = 0 → ¬ gi fl 2 = 0 ∧ LV fl li := h.2.2.2.2.1
theorem INV.d (h : INV n co fl ra li re wa pi) : ¬ gi re 1 = 0 → ¬ gi fl 2 = 0 ∧ RDX fl re := h.2.2.2.2.2.1
theorem INV.p (h : INV n co fl ra li re wa pi) : ¬ gi pi 3 = 0 → ¬ gi fl 2 = 0 ∧ PCX n fl wa pi := h.2.2.2.2.2.2
end INVP
theorem FL.si2 {n c E : Nat} {hm fs fr eg fe : Nat → Nat} {fl : Ob} (h : FL n c E hm fs fr eg fe fl) (v : Int32) : FL n c E hm fs fr eg fe (si fl 2 v) := by
  unfold FL at *
  simp only [gi_sl, gi_sA, gi_sB, gi_si_s, gi_si_n, gl_si, gl_sA, gl_sB, gl_sl_s, gl_sl_n, gA_si, gA_sl, gA_sB, gA_sA_s, gA_sA_n, gB_si, gB_sl, gB_sA, gB_sB_s, gB_sB_n, Nat.reduceBEq]
  exact h
theorem RK.si2 {c E : Nat} {fr eg : Nat → Nat} {fl ra : Ob} (h : RK c E fr eg fl ra) (v : Int32) : RK c E fr eg fl (si ra 2 v) := by
  unfold RK at *
  simp only [gi_sl, gi_sA, gi_sB, gi_si_s, gi_si_n, gl_si, gl_sA, gl_sB, gl_sl_s, gl_sl_n, gA_si, gA_sl, gA_sB, gA_sA_s, gA_sA_n, gB_si, gB_sl, gB_sA, gB_sB_s, gB_sB_n, Nat.reduceBEq]
  exact h
theorem LV.si1 {fl li : Ob} (h : LV fl li) (v : Int32) : LV fl (si li 1 v) := by
  unfold LV at *
  simp only [gi_sl, gi_sA, gi_sB, gi_si_s, gi_si_n, gl_si, gl_sA, gl_sB, gl_sl_s, gl_sl_n, gA_si, gA_sl, gA_sB, gA_sA_s, gA_sA_n, gB_si, gB_sl, gB_sA, gB_sB_s, gB_sB_n, Nat.reduceBEq]
  exact h
theorem PIC.si3 {E cc L : Nat} {fl wa : Ob} {ly ca : Nat → Nat} {pi : Ob} (h : PIC E cc L fl wa ly ca pi) (v : Int32) : PIC E cc L fl wa ly ca (si pi 3 v) :=
  h.cong (by simp only [gi_sl, gi_sA, gi_sB, gi_si_s, gi_si_n, gl_si, gl_sA, gl_sB, gl_sl_s, gl_sl_n, gA_si, gA_sl, gA_sB, gA_sA_s, gA_sA_n, gB_si, gB_sl, gB_sA, gB_sB_s, gB_sB_n, Nat.reduceBEq]) (by simp only [gi_sl, gi_sA, gi_sB, gi_si_s, gi_si_n, gl_si, gl_sA, gl_sB, gl_sl_s, gl_sl_n, gA_si, gA_sl, gA_sB, gA_sA_s, gA_sA_n, gB_si, gB_sl, gB_sA, gB_sB_s, gB_sB_n, Nat.reduceBEq]) (fun k _ => by simp only [gi_sl, gi_sA, gi_sB, gi_si_s, gi_si_n, gl_si, gl_sA, gl_sB, gl_sl_s, gl_sl_n, gA_si, gA_sl, gA_sB, gA_sA_s, gA_sA_n, gB_si, gB_sl, gB_sA, gB_sB_s, gB_sB_n, Nat.reduceBEq])
theorem RDX.si1 {fl re : Ob} (h : RDX fl re) (v : Int32) : RDX fl (si re 1 v) := by
  obtain ⟨s, h1, h2⟩ := h
  exact ⟨s, h1, h2.cong (by simp only [gi_sl, gi_sA, gi_sB, gi_si_s, gi_si_n, gl_si, gl_sA, gl_sB, gl_sl_s, gl_sl_n, gA_si, gA_sl, gA_sB, gA_sA_s, gA_sA_n, gB_si, gB_sl, gB_sA, gB_sB_s, gB_sB_n, Nat.reduceBEq]) (by simp only [gi_sl, gi_sA, gi_sB, gi_si_s, gi_si_n, gl_si, gl_sA, gl_sB, gl_sl_s, gl_sl_n, gA_si, gA_sl, gA_sB, gA_sA_s, gA_sA_n, gB_si, gB_sl, gB_sA, gB_sB_s, gB_sB_n, Nat.reduceBEq]) (by simp only [gi_sl, gi_sA, gi_sB, gi_si_s, gi_si_n, gl_si, gl_sA, gl_sB, gl_sl_s, gl_sl_n, gA_si, gA_sl, gA_sB, gA_sA_s, gA_sA_n, gB_si, gB_sl, gB_sA, gB_sB_s, gB_sB_n, Nat.reduceBEq]) (by simp only [gi_sl, gi_sA, gi_sB, gi_si_s, gi_si_n, gl_si, gl_sA, gl_sB, gl_sl_s, gl_sl_n, gA_si, gA_sl, gA_sB, gA_sA_s, gA_sA_n, gB_si, gB_sl, gB_sA, gB_sB_s, gB_sB_n, Nat.reduceBEq])⟩
theorem n01 : ¬ (1 : Int32) = 0 := by decide
section INVS
variable {n : Nat} {co fl ra li re wa pi : Ob}
theorem INV.flow (h : INV n co fl ra li re wa pi) : INV n co (frF co fl) ra li re wa pi ∧ ¬ gi (frF co fl) 2 = 0 := by
  unfold frF
  by_cases z : gi fl 2 = 0
  · rw [if_pos z]
    refine ⟨⟨h.co0, h.n19, fun _ => ?_, fun y => absurd z (h.r y).1, fun y => absurd z (h.l y).1, fun y => absurd z (h.d y).1, fun y => absurd z (h.p y).1⟩, by rw [gi_si_s]; exact n01⟩
    obtain ⟨c, E, hm, fs, fr, eg, fe, k⟩ := part_ok (fl := fl) h.co0 h.n19
    exact ⟨c, E, hm, fs, fr, eg, fe, k.si2 1⟩
  · rw [if_neg z]; exact ⟨h, z⟩
theorem INV.ranks (h : INV n co fl ra li re wa pi) : INV n co (frRf co fl ra) (frR co fl ra) li re wa pi ∧ ¬ gi (frRf co fl ra) 2 = 0 ∧ ¬ gi (frR co fl ra) 2 = 0 := by
  unfold frRf frR
  by_cases z : gi ra 2 = 0
  · rw [if_pos z, if_pos z]
    obtain ⟨k, kz⟩ := h.flow
    generalize frF co fl = F at k kz
    exact ⟨⟨k.co0, k.n19, k.f, fun _ => ⟨kz, fun c E hm fs fr eg fe hF => (rank_ok hF ra).si2 1⟩, k.l, k.d, k.p⟩, kz, by rw [gi_si_s]; exact n01⟩
  · rw [if_neg z, if_neg z]; exact ⟨h, (h.r z).1, z⟩
theorem INV.lives (h : INV n co fl ra li re wa pi) : INV n co (frLf co fl li) ra (frL co fl li) re wa pi ∧ ¬ gi (frLf co fl li) 2 = 0 ∧ ¬ gi (frL co fl li) 1 = 0 := by
  unfold frLf frL
  by_cases z : gi li 1 = 0
  · rw [if_pos z, if_pos z]
    obtain ⟨k, kz⟩ := h.flow
    generalize frF co fl = F at k kz
    exact ⟨⟨k.co0, k.n19, k.f, k.r, fun _ => ⟨kz, (follow_lv co F li).si1 1⟩, k.d, k.p⟩, kz, by rw [gi_si_s]; exact n01⟩
  · rw [if_neg z, if_neg z]; exact ⟨h, (h.l z).1, z⟩
theorem INV.red (h : INV n co fl ra li re wa pi) : INV n co (frDf co fl re) ra li (frD co fl re) wa pi ∧ ¬ gi (frDf co fl re) 2 = 0 ∧ ¬ gi (frD co fl re) 1 = 0 := by
  unfold frDf frD
  by_cases z : gi re 1 = 0
  · rw [if_pos z, if_pos z]
    obtain ⟨k, kz⟩ := h.flow
    generalize frF co fl = F at k kz
    obtain ⟨c, E, hm, fs, fr, eg, fe, hF⟩ := k.f kz
    exact ⟨⟨k.co0, k.n19, k.f, k.r, k.l, fun _ => ⟨kz, RDX.si1 (reduce_ok hF re) 1⟩, k.p⟩, kz, by rw [gi_si_s]; exact n01⟩
  · rw [if_neg z, if_neg z]; exact ⟨h, (h.d z).1, z⟩
theorem INV.pic (h : INV n co fl ra li re wa pi) : INV n co (frPf co fl pi) ra li re (frPw co fl wa pi) (frP co fl wa pi) ∧ ¬ gi (frPf co fl pi) 2 = 0 ∧ ¬ gi (frP co fl wa pi) 3 = 0 := by
  unfold frPf frPw frP
  by_cases z : gi pi 3 = 0
  · rw [if_pos z, if_pos z, if_pos z]
    obtain ⟨k, kz⟩ := h.flow
    generalize frF co fl = F at k kz
    refine ⟨⟨k.co0, k.n19, k.f, k.r, k.l, k.d, fun _ => ⟨kz, fun c E hm fs fr eg fe hF => ?_⟩⟩, kz, by rw [gi_si_s]; exact n01⟩
    obtain ⟨cc, L, ca, ht, ly, w, q, -⟩ := draw_ok hF wa pi
    exact ⟨cc, L, ca, ht, ly, w, q.si3 1⟩
  · rw [if_neg z, if_neg z, if_neg z]; exact ⟨h, (h.p z).1, z⟩
theorem INV.lo (h : INV n co fl ra li re wa pi) : FlowLo (frF co fl) := by
  obtain ⟨k, kz⟩ := h.flow
  obtain ⟨c, E, hm, fs, fr, eg, fe, hF⟩ := k.f kz
  exact hF.lo
/-- the swept count of a new drawing, and of an old one -/
theorem INV.sw0 (h : INV n co fl ra li re wa pi) (z : gi pi 3 = 0) : gi (frP co fl wa pi) 2 = 0 := by
  obtain ⟨k, kz⟩ := h.flow
  obtain ⟨c, E, hm, fs, fr, eg, fe, hF⟩ := k.f kz
  unfold frP
  rw [if_pos z, gi_si_n _ _ _ _ (by decide)]
  obtain ⟨cc, L, ca, ht, ly, w, q, e⟩ := draw_ok hF wa pi
  exact e
theorem INV.cross (h : INV n co fl ra li re wa pi) (z : ¬ gi pi 3 = 0) : INV n co fl ra li re wa (countCross wa pi).1 ∧ REL (countCross wa pi).1 pi ∧ ∃ m, m ≤ 61731 ∧ (countCross wa pi).2 = nI m := by
  obtain ⟨kz, kp⟩ := h.p z
  obtain ⟨c, E, hm, fs, fr, eg, fe, hF⟩ := h.f kz
  obtain ⟨cc, L, ca, ht, ly, w, q⟩ := kp c E hm fs fr eg fe hF
  obtain ⟨-, h2, h3, -⟩ := cross_c (wa := wa) hF.e57 q.1.2.2.1 q.1.1 q.1.2.1 (REL.rf pi)
  refine ⟨⟨h.co0, h.n19, h.f, h.r, h.l, h.d, fun _ => ⟨kz, fun c E hm fs fr eg fe hF => ?_⟩⟩, h3, h2⟩
  obtain ⟨cc, L, ca, ht, ly, w, q⟩ := kp c E hm fs fr eg fe hF
  exact ⟨cc, L, ca, ht, ly, w, q.cong (h3.gi 0) (h3.gi 1) (fun k hk => h3.row hk)⟩
theorem INV.sweep (h : INV n co fl ra li re wa pi) (z : ¬ gi pi 3 = 0) (many : Int32) : INV n co fl ra li re wa (sweepOften wa pi many) ∧ gi (sweepOften wa pi many) 2 = gi pi 2 + nI (nN many) := by
  obtain ⟨kz, kp⟩ := h.p z
  obtain ⟨c, E, hm, fs, fr, eg, fe, hF⟩ := h.f kz
  obtain ⟨cc, L, ca, ht, ly, w, q⟩ := kp c E hm fs fr eg fe hF
  refine ⟨⟨h.co0, h.n19, h.f, h.r, h.l, h.d, fun _ => ⟨kz, fun c E hm fs fr eg fe hF => ?_⟩⟩, (sweep_ok hF w q many).2.2.1⟩
  obtain ⟨cc, L, ca, ht, ly, w, q⟩ := kp c E hm fs fr eg fe hF
  exact ⟨cc, L, ca, ht, ly, w, (sweep_ok hF w q many).1⟩
theorem INV.rel (h : INV n co fl ra li re wa pi) {pj : Ob} (hr : REL pj pi) : INV n co fl ra li re wa pj := by
  refine ⟨h.co0, h.n19, h.f, h.r, h.l, h.d, fun z => ?_⟩
  obtain ⟨kz, kp⟩ := h.p (by rw [← hr.gi 3]; exact z)
  refine ⟨kz, fun c E hm fs fr eg fe hF => ?_⟩
  obtain ⟨cc, L, ca, ht, ly, w, q⟩ := kp c E hm fs fr eg fe hF
  exact ⟨cc, L, ca, ht, ly, w, q.cong (hr.gi 0) (hr.gi 1) (fun k hk => hr.row hk)⟩
/-- trying out: the picture stays, and what it tells is what the sweeps would come to -/
theorem INV.tryo (h : INV n co fl ra li re wa pi) (z : ¬ gi pi 3 = 0) (many : Int32) : REL (tryOut wa pi many) pi ∧ (toQ wa pi many).2 = (countCross wa (sweepOften wa (tryOut wa pi many) many)).2 ∧ INV n co fl ra li re wa (tryOut wa pi many) := by
  obtain ⟨kz, kp⟩ := h.p z
  obtain ⟨c, E, hm, fs, fr, eg, fe, hF⟩ := h.f kz
  obtain ⟨cc, L, ca, ht, ly, w, q⟩ := kp c E hm fs fr eg fe hF
  obtain ⟨t1, t2⟩ := try_ok hF w q many
  refine ⟨t1, ?_, h.rel t1⟩
  rw [t2]
  have hs := sweep_c hF w q t1.sy many
  have q2 := (sweep_ok hF w q many).1
  exact (cross_c (wa := wa) hF.e57 q2.1.2.2.1 q2.1.1 q2.1.2.1 hs).1
theorem INV.change (h : INV n co fl ra li re wa pi) {m : Nat} {co2 : Ob} (h0 : gi co2 0 = nI m) (hm : m ≤ 19) : INV m co2 (si fl 2 0) (si ra 2 0) (si li 1 0) (si re 1 0) wa (si pi 3 0) :=
  ⟨h0, hm, fun y => absurd (gi_si_s _ _ _) y, fun y => absurd (gi_si_s _ _ _) y, fun y => absurd (gi_si_s _ _ _) y, fun y => absurd (gi_si_s _ _ _) y, fun y => absurd (gi_si_s _ _ _) y⟩
theorem INV.use (h : INV n co fl ra li re wa pi) {co2 : Ob} (h0 : gi co2 0 = gi co 0) : INV n co2 fl ra (si li 1 0) re wa pi :=
  ⟨by rw [h0]; exact h.co0, h.n19, h.f, h.r, fun y => absurd (gi_si_s _ _ _) y, h.d, h.p⟩
theorem gi_z9 (k : Nat) : gi z9 k = 0 := rfl
theorem INV.zero : INV 0 z9 z9 z9 z9 z9 z9 z9 :=
  ⟨rfl, by omega, fun y => absurd (gi_z9 _) y, fun y => absurd (gi_z9 _) y, fun y => absurd (gi_z9 _) y, fun y => absurd (gi_z9 _) y, fun y => absurd (gi_z9 _) y⟩
end INVS
