/-! ===== the class itself: freshness, changes of the code, the digest ===== -/
def frF (co fl : Ob) : Ob := if gi fl 2 = 0 then si (part co fl) 2 1 else fl
def frRf (co fl ra : Ob) : Ob := if gi ra 2 = 0 then frF co fl else fl
def frR (co fl ra : Ob) : Ob := if gi ra 2 = 0 then si (rank (frF co fl) ra) 2 1 else ra
def frLf (co fl li : Ob) : Ob := if gi li 1 = 0 then frF co fl else fl
def frL (co fl li : Ob) : Ob := if gi li 1 = 0 then si (follow co (frF co fl) li) 1 1 else li
def frDf (co fl re : Ob) : Ob := if gi re 1 = 0 then frF co fl else fl
def frD (co fl re : Ob) : Ob := if gi re 1 = 0 then si (reduce (frF co fl) re) 1 1 else re
def frPf (co fl pi : Ob) : Ob := if gi pi 3 = 0 then frF co fl else fl
def frPw (co fl wa pi : Ob) : Ob := if gi pi 3 = 0 then goThrough (frF co fl) wa else wa
def frP (co fl wa pi : Ob) : Ob := if gi pi 3 = 0 then si (draw (frF co fl) wa pi) 3 1 else pi
def shStep (beyond by9 : Int32) (i : Nat) (co : Ob) : Ob := if beyond < rd (gA co 1) 40 (nI i) then sA co 1 (wr (gA co 1) 40 (nI i) (imin (rd (gA co 1) 40 (nI i) + by9) 40)) else co
def coShift (co : Ob) (beyond by9 : Int32) : Ob := lp (shStep beyond by9) (nN (gi co 0)) co
def cpDn (x : Int32) (j : Nat) (co : Ob) : Ob := coCopy co (x - nI j - 1) (x - nI j)
def cpUp (x : Int32) (j : Nat) (co : Ob) : Ob := coCopy co (x + nI j + 1) (x + nI j)
def coAddL (co : Ob) (place : Int32) : Ob := lp (cpDn (gi co 0)) ((gi co 0).toInt - place.toInt).toNat co
def coAddP (co : Ob) (place kind target : Int32) : Ob :=
  sA (sA (sA (sA co 0 (wr (gA co 0) 40 place kind)) 1 (wr (gA co 1) 40 place target)) 2 (wr (gA co 2) 40 place (-1))) 3 (wr (gA co 3) 40 place 0)
def coAdd (co : Ob) (place kind target : Int32) : Ob := si (coAddP (coAddL (coShift co place 1) place) place kind target) 0 (gi (coAddL (coShift co place 1) place) 0 + 1)
def coDropL (co : Ob) (i : Int32) : Ob := lp (cpUp i) ((gi co 0).toInt - i.toInt).toNat co
def coDrop (co : Ob) (i : Int32) : Ob := coShift (coDropL (si co 0 (gi co 0 - 1)) i) i (-1)
theorem k_sh (b y : Int32) (n : Nat) (co : Ob) (k : Nat) : gi (lp (shStep b y) n co) k = gi co k := lp_inv (fun q : Ob => gi q k) (fun i s => by
  unfold shStep
  split
  · exact gi_sA _ _ _ _
  · rfl) n co
theorem k_dn (x : Int32) (n : Nat) (co : Ob) (k : Nat) : gi (lp (cpDn x) n co) k = gi co k := lp_inv (fun q : Ob => gi q k) (fun i s => by unfold cpDn coCopy; simp only [gi_sA]) n co
theorem k_up (x : Int32) (n : Nat) (co : Ob) (k : Nat) : gi (lp (cpUp x) n co) k = gi co k := lp_inv (fun q : Ob => gi q k) (fun i s => by unfold cpUp coCopy; simp only [gi_sA]) n co
theorem coAdd_n (co : Ob) (p k t : Int32) : gi (coAdd co p k t) 0 = gi co 0 + 1 := by
  unfold coAdd
  rw [gi_si_s]
  unfold coAddL coShift
  rw [k_dn, k_sh]
theorem coDrop_n (co : Ob) (i : Int32) : gi (coDrop co i) 0 = gi co 0 - 1 := by
  unfold coDrop coShift
  rw [k_sh]
  unfold coDropL
  rw [k_up, gi_si_s]
theorem dx_out (x y : Int32) : x - nI (x.toInt - y.toInt).toNat ≤ y := by
  by_cases h : y.toInt ≤ x.toInt
  · have e : x - nI (x.toInt - y.toInt).toNat = y := by
      apply Int32.toInt_inj.mp
      have h2 := fb_rng y
      rw [Int32.toInt_sub]
      have e1 : (nI (x.toInt - y.toInt).toNat).toInt = (x.toInt - y.toInt).bmod (2 ^ 32) := by
        unfold nI
        rw [Int32.toInt_ofNat']
        rw [show (((x.toInt - y.toInt).toNat : Nat) : Int) = x.toInt - y.toInt by omega]
      rw [e1, Int.sub_bmod_bmod, show x.toInt - (x.toInt - y.toInt) = y.toInt by omega]
      exact fb_bmod h2.1 h2.2
    rw [e]; exact Int32.le_refl _
  · rw [show (x.toInt - y.toInt).toNat = 0 by omega, sub_nI0, Int32.le_iff_toInt_le]
    omega
theorem dx_in {x y : Int32} {j : Nat} (h : j < (x.toInt - y.toInt).toNat) : ¬ x - nI j ≤ y := by
  have h1 := fb_rng x
  have h2 := fb_rng y
  rw [Int32.le_iff_toInt_le, Int32.toInt_sub]
  have e1 : (nI j).toInt = (j : Int).bmod (2 ^ 32) := by
    unfold nI
    rw [Int32.toInt_ofNat']
  rw [e1, Int.sub_bmod_bmod, fb_bmod (by omega) (by omega)]
  omega
def dgC (co fl : Ob) (i : Nat) (d : Int64) : Int64 := mixI (mixI (mixI d (rd (gA co 0) 40 (nI i))) (rd (gA co 1) 40 (nI i))) (rd (gA fl 0) 40 (nI i))
def dgCode (co fl : Ob) (d : Int64) : Int64 := lp (dgC co fl) (nN (gi co 0)) (mixI d (gi co 0))
def dgB (fl ra li re pi : Ob) (b : Nat) (d : Int64) : Int64 :=
  mixI (mixI (mixI (mixI (mixI (mixI (mixI (mixZ (mixI d (rd (gA fl 1) 40 (nI b))) (hs (gl fl 0) (nI b))) (nearest ra (nI b))) (bc (rdL (gB ra 1) 40 (nI b)))) (depth ra (nI b))) (rd (gA li 0) 40 (nI b))) (rd (gA re 0) 40 (nI b))) (rd (gA pi 0) 40 (nI b))) (placeB pi (nI b))
def dgBlocks (fl ra li re pi : Ob) (d : Int64) : Int64 := lp (dgB fl ra li re pi) (nN (gi fl 0)) (mixI d (gi fl 0))
def dgE (fl ra wa pi : Ob) (e : Nat) (d : Int64) : Int64 :=
  mixI (mixZ (mixZ (mixI (mixI d (rd (gA fl 3) 80 (nI e))) (rd (gA fl 4) 80 (nI e))) (goesBack ra fl (nI e))) (turns fl wa (nI e))) (bendCount wa pi (nI e))
def dgEdges (fl ra wa pi : Ob) (d : Int64) : Int64 := lp (dgE fl ra wa pi) (nN (gi fl 1)) (mixI d (gi fl 1))
def dgS (re : Ob) (s : Nat) (d : Int64) : Int64 := mixI (mixI d (rd (gA re 1) 120 (nI s))) (rd (gA re 2) 120 (nI s))
def dgSteps (re : Ob) (d : Int64) : Int64 := mixZ (mixI (lp (dgS re) (nN (gi re 0)) (mixI d (gi re 0))) (bc (gl re 0))) (decide (bc (gl re 0) = 1))
def dgP (pi : Ob) (l : Nat) (i : Nat) (d : Int64) : Int64 := mixI d (shownAt pi (nI l) (nI i))
def dgL (pi : Ob) (l : Nat) (d : Int64) : Int64 := lp (dgP pi l) (nN (sizeOf pi (nI l))) (mixI d (sizeOf pi (nI l)))
def dgLayers (pi : Ob) (d : Int64) : Int64 := lp (dgL pi) (nN (gi pi 1)) (mixI d (gi pi 1))
def dg1 (co fl ra li re wa pi : Ob) : Int64 := dgEdges fl ra wa pi (dgBlocks fl ra li re pi (dgCode co fl 2557))
def dg2 (co fl ra li re wa pi : Ob) : Int64 := mixI (mixI (mixZ (mixI (dg1 co fl ra li re wa pi) (gi ra 0)) (decide (¬ gi ra 1 = 0))) (gi li 0)) (windings fl)
def dgAll (co fl ra li re wa pi : Ob) : Int64 := mixI (mixI (dgLayers pi (dgSteps re (dg2 co fl ra li re wa pi))) (countCross wa pi).2) (gi (countCross wa pi).1 2)

