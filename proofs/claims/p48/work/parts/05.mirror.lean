/-! ===== the class, once more, as functions: an object is its int fields, its long fields, its int rows, its long rows ===== -/
abbrev Ob : Type := (Nat → Int32) × (Nat → Int64) × (Nat → Nat → Int32) × (Nat → Nat → Int64)
def gi (o : Ob) (k : Nat) : Int32 := o.1 k
def gl (o : Ob) (k : Nat) : Int64 := o.2.1 k
def gA (o : Ob) (k : Nat) : Nat → Int32 := o.2.2.1 k
def gB (o : Ob) (k : Nat) : Nat → Int64 := o.2.2.2 k
def si (o : Ob) (k : Nat) (v : Int32) : Ob := (va_up o.1 k v, o.2.1, o.2.2.1, o.2.2.2)
def sl (o : Ob) (k : Nat) (v : Int64) : Ob := (o.1, va_up o.2.1 k v, o.2.2.1, o.2.2.2)
def sA (o : Ob) (k : Nat) (v : Nat → Int32) : Ob := (o.1, o.2.1, va_up o.2.2.1 k v, o.2.2.2)
def sB (o : Ob) (k : Nat) (v : Nat → Int64) : Ob := (o.1, o.2.1, o.2.2.1, va_up o.2.2.2 k v)
def rd (f : Nat → Int32) (n : Nat) (i : Int32) : Int32 := if i < 0 then 0 else if i < nI n then f i.toNatClampNeg else 0
def rdL (f : Nat → Int64) (n : Nat) (i : Int32) : Int64 := if i < 0 then 0 else if i < nI n then f i.toNatClampNeg else 0
def wr (f : Nat → Int32) (n : Nat) (i : Int32) (v : Int32) : Nat → Int32 := if i < 0 then f else if i < nI n then upd f i.toNatClampNeg v else f
def wrL (f : Nat → Int64) (n : Nat) (i : Int32) (v : Int64) : Nat → Int64 := if i < 0 then f else if i < nI n then vp_updL f i.toNatClampNeg v else f
def b2i (b : Bool) : Int32 := cond b 1 0
def nN (x : Int32) : Nat := x.toInt.toNat
def us (x : Int64) (k : Int32) : Int64 := (x.toUInt64 >>> (k.toInt64.toUInt64 &&& Int64.toUInt64 63)).toInt64
def sh (x : Int64) (k : Int32) : Int64 := x <<< (k.toInt64 &&& 63)
def lp {σ : Type} (f : Nat → σ → σ) (n : Nat) (s : σ) : σ := Nat.rec s (fun k r => f k r) n
def lpW {σ : Type} (c : σ → Bool) (f : σ → σ) (n : Nat) (s : σ) : σ := Nat.rec s (fun _ r => if c r then f r else r) n
def fnd (p : Nat → Bool) (n : Nat) : Nat := Nat.rec 0 (fun k r => if r < k then r else if p k then k else k + 1) n
-- small ones
def bitL (n : Int32) : Int64 := sh 1 n
def hs (x : Int64) (n : Int32) : Bool := decide (¬ (us x n &&& 1) = 0)
def bc1 (x : Int64) : Int64 := x - (us x 1 &&& 6148914691236517205)
def bc2 (x : Int64) : Int64 := (x &&& 3689348814741910323) + (us x 2 &&& 3689348814741910323)
def bc3 (x : Int64) : Int64 := (x + us x 4) &&& 1085102592571150095
def bc4 (x : Int64) : Int64 := x + us x 8
def bc5 (x : Int64) : Int64 := x + us x 16
def bc6 (x : Int64) : Int64 := x + us x 32
def bc (x : Int64) : Int32 := (bc6 (bc5 (bc4 (bc3 (bc2 (bc1 x)))))).toInt32 &&& 127
def lowest (x : Int64) : Int32 := bc ((x &&& (-x)) - 1)
def jmp (k : Int32) : Bool := decide (k = 1) || decide (k = 2)
def isT (k : Int32) : Bool := decide (¬ k < 0) && decide (¬ 40 < k)
def imax (x y : Int32) : Int32 := if x < y then y else x
def imin (x y : Int32) : Int32 := if y < x then y else x
def spStep (next : Nat → Int64) (without : Int64) (p : Int64 × Int64) : Int64 × Int64 :=
  (p.1 ||| ((rdL next 40 (lowest p.2) &&& (p.1 ^^^ (-1))) &&& (without ^^^ (-1))), (p.2 &&& (bitL (lowest p.2) ^^^ (-1))) ||| ((rdL next 40 (lowest p.2) &&& (p.1 ^^^ (-1))) &&& (without ^^^ (-1))))
def spGo (p : Int64 × Int64) : Bool := decide (¬ p.2 = 0)
def spread (next : Nat → Int64) (set without : Int64) : Int64 :=
  (lpW spGo (spStep next without) 41 (set &&& (without ^^^ (-1)), set &&& (without ^^^ (-1)))).1
def mixI (d : Int64) (v : Int32) : Int64 := d * 31 + v.toInt64
def mixZ (d : Int64) (b : Bool) : Int64 := d * 31 + cond b 1 0
/- Code: int rows 0 kind, 1 target, 2 sets, 3 uses; ints 0 count -/
def coCopy (co : Ob) (source goal : Int32) : Ob :=
  sA (sA (sA (sA co 0 (wr (gA co 0) 40 goal (rd (gA co 0) 40 source))) 1 (wr (gA co 1) 40 goal (rd (gA co 1) 40 source))) 2 (wr (gA co 2) 40 goal (rd (gA co 2) 40 source))) 3 (wr (gA co 3) 40 goal (rd (gA co 3) 40 source))
/- Flow: int rows 0 home, 1 first, 2 last, 3 from, 4 to, 5 firstEdge; long rows 0 next; ints 0 blockCount, 1 edgeCount, 2 fresh; longs 0 reached -/
def leadA (co : Ob) (i : Nat) (l : Int64) : Int64 := if rd (gA co 0) 40 (nI i) = 0 then l else l ||| bitL (nI i + 1)
def leadStep (co : Ob) (i : Nat) (l : Int64) : Int64 := if jmp (rd (gA co 0) 40 (nI i)) then leadA co i l ||| bitL (rd (gA co 1) 40 (nI i)) else leadA co i l
def leaders (co : Ob) : Int64 := lp (leadStep co) (nN (gi co 0)) 1
def cutA (ld : Int64) (i : Nat) (fl : Ob) : Ob := if hs ld (nI i) then si (sA fl 1 (wr (gA fl 1) 40 (gi fl 0) (nI i))) 0 (gi fl 0 + 1) else fl
def cutB (i : Nat) (fl : Ob) : Ob := sA (sA fl 0 (wr (gA fl 0) 40 (nI i) (gi fl 0 - 1))) 2 (wr (gA fl 2) 40 (gi fl 0 - 1) (nI i))
def cutStep (ld : Int64) (i : Nat) (fl : Ob) : Ob := cutB i (cutA ld i fl)
def cut (fl : Ob) (count : Int32) (ld : Int64) : Ob := lp (cutStep ld) (nN count) (si fl 0 0)
def joinG (fl : Ob) (instr count : Int32) : Int32 := if instr < count then rd (gA fl 0) 40 instr else 40
def joinP (fl : Ob) (block goal : Int32) : Ob :=
  si (sA (sA (sB fl 0 (wrL (gB fl 0) 40 block (rdL (gB fl 0) 40 block ||| bitL goal))) 3 (wr (gA fl 3) 80 (gi fl 1) block)) 4 (wr (gA fl 4) 80 (gi fl 1) (if goal = 40 then -1 else goal))) 1 (gi fl 1 + 1)
def join (fl : Ob) (block instr count : Int32) : Ob := if hs (rdL (gB fl 0) 40 block) (joinG fl instr count) then fl else joinP fl block (joinG fl instr count)
def leaveA (co fl : Ob) (block e k : Int32) : Ob := if k = 0 then join fl block (e + 1) (gi co 0) else if k = 1 then join fl block (e + 1) (gi co 0) else fl
def leaveB (co fl : Ob) (block e k : Int32) : Ob := if jmp k then join fl block (rd (gA co 1) 40 e) (gi co 0) else fl
def leaveC (co fl : Ob) (block k : Int32) : Ob := if k = 3 then join fl block (gi co 0) (gi co 0) else fl
def leaveK (co fl : Ob) (block : Int32) : Int32 := rd (gA co 0) 40 (rd (gA fl 2) 40 block)
def leave (co fl : Ob) (block : Int32) : Ob :=
  leaveC co (leaveB co (leaveA co fl block (rd (gA fl 2) 40 block) (leaveK co fl block)) block (rd (gA fl 2) 40 block) (leaveK co fl block)) block (leaveK co fl block)
def partStep (co : Ob) (b : Nat) (fl : Ob) : Ob := leave co (sB (sA fl 5 (wr (gA fl 5) 41 (nI b) (gi fl 1))) 0 (wrL (gB fl 0) 40 (nI b) 0)) (nI b)
def partL (co fl : Ob) : Ob := lp (partStep co) (nN (gi (cut fl (gi co 0) (leaders co)) 0)) (si (cut fl (gi co 0) (leaders co)) 1 0)
def partE (fl : Ob) : Ob := sA fl 5 (wr (gA fl 5) 41 (gi fl 0) (gi fl 1))
def part (co fl : Ob) : Ob := sl (partE (partL co fl)) 0 (if 0 < gi (partL co fl) 0 then spread (gB (partL co fl) 0) 1 (bitL 40) else 0)
def windStep (fl : Ob) (e : Nat) (many : Int32) : Int32 := if hs (gl fl 0) (rd (gA fl 3) 80 (nI e)) then many + 1 else many
def windings (fl : Ob) : Int32 := if gi fl 0 = 0 then 0 else lp (windStep fl) (nN (gi fl 1)) 0 - bc (gl fl 0) - 1 + 2
/- Ranks: long rows 0 ruled, 1 loop, 2 previous, 3 onward; ints 0 loopCount, 1 tame, 2 fresh -/
def ruledBy (fl : Ob) (b : Int32) : Int64 := gl fl 0 &&& (spread (gB fl 0) 1 (bitL b) ^^^ (-1))
def rankA (fl : Ob) (b : Nat) (ra : Ob) : Ob :=
  sB (sB (sB ra 0 (wrL (gB ra 0) 40 (nI b) (if hs (gl fl 0) (nI b) then ruledBy fl (nI b) else 0))) 2 (wrL (gB ra 2) 40 (nI b) 0)) 1 (wrL (gB ra 1) 40 (nI b) 0)
def rules (ra : Ob) (one other : Int32) : Bool := hs (rdL (gB ra 0) 40 one) other
def sortA (b : Nat) (ra : Ob) : Ob := sB ra 3 (wrL (gB ra 3) 40 (nI b) 0)
def sortC (ra : Ob) (f t : Int32) : Ob := sB ra 2 (wrL (gB ra 2) 40 t (rdL (gB ra 2) 40 t ||| bitL f))
def sortD (ra : Ob) (f t : Int32) : Ob := if rules ra t f then sortC ra f t else sB (sortC ra f t) 3 (wrL (gB ra 3) 40 f (rdL (gB ra 3) 40 f ||| bitL t))
def sortB (fl : Ob) (e : Nat) (ra : Ob) : Ob :=
  if rd (gA fl 4) 80 (nI e) < 0 then ra else if hs (gl fl 0) (rd (gA fl 3) 80 (nI e)) then sortD ra (rd (gA fl 3) 80 (nI e)) (rd (gA fl 4) 80 (nI e)) else ra
def sortEdges (fl ra : Ob) : Ob := lp (sortB fl) (nN (gi fl 1)) (lp sortA 40 ra)
def clEnds (ra : Ob) (h : Int32) : Int64 := rdL (gB ra 2) 40 h &&& rdL (gB ra 0) 40 h
def closeLoop (ra : Ob) (h : Int32) : Ob :=
  if clEnds ra h = 0 then ra else si (sB ra 1 (wrL (gB ra 1) 40 h (bitL h ||| spread (gB ra 2) (clEnds ra h) (bitL h)))) 0 (gi ra 0 + 1)
def rankT (b : Nat) (ra : Ob) : Ob := if hs (spread (gB ra 3) (rdL (gB ra 3) 40 (nI b)) 0) (nI b) then si ra 1 0 else ra
def rankB (b : Nat) (ra : Ob) : Ob := rankT b (closeLoop ra (nI b))
def rank (fl ra : Ob) : Ob := lp rankB (nN (gi fl 0)) (si (si (sortEdges fl (lp (rankA fl) 40 ra)) 0 0) 1 1)
def nearStep (ra : Ob) (b : Int32) (d : Nat) (p : Int32 × Int32) : Int32 × Int32 :=
  if nI d = b then p else if rules ra (nI d) b then (if bc (rdL (gB ra 0) 40 (nI d)) < p.2 then (nI d, bc (rdL (gB ra 0) 40 (nI d))) else p) else p
def nearest (ra : Ob) (b : Int32) : Int32 := (lp (nearStep ra b) 40 (-1, 41)).1
def goesBack (ra fl : Ob) (e : Int32) : Bool := if rd (gA fl 4) 80 e < 0 then false else rules ra (rd (gA fl 4) 80 e) (rd (gA fl 3) 80 e)
def depStep (ra : Ob) (b : Int32) (h : Nat) (many : Int32) : Int32 := if hs (rdL (gB ra 1) 40 (nI h)) b then many + 1 else many
def depth (ra : Ob) (b : Int32) : Int32 := lp (depStep ra b) 40 0
/- Lives: int rows 0 live; ints 0 vainCount, 1 fresh -/
def ahead (co : Ob) (i now : Int32) : Int32 :=
  (if rd (gA co 2) 40 i < 0 then now else now &&& ((1 <<< (rd (gA co 2) 40 i &&& 31)) ^^^ (-1))) ||| rd (gA co 3) 40 i
def behStep (fl li : Ob) (b : Int32) (k : Nat) (now : Int32) : Int32 := if hs (rdL (gB fl 0) 40 b) (nI k) then now ||| rd (gA li 0) 40 (nI k) else now
def behind (fl li : Ob) (b : Int32) : Int32 := lp (behStep fl li b) (nN (gi fl 0)) 0
def scanN (fl : Ob) (b : Int32) : Nat := ((rd (gA fl 2) 40 b).toInt - (rd (gA fl 1) 40 b).toInt + 1).toNat
def scan (co fl : Ob) (b now : Int32) : Int32 := lp (fun j now => ahead co (rd (gA fl 2) 40 b - nI j) now) (scanN fl b) now
def passB (co fl : Ob) (b : Int32) (p : Ob × Bool) : Ob × Bool :=
  (sA p.1 0 (wr (gA p.1 0) 40 b (scan co fl b (behind fl p.1 b))), p.2 || decide (¬ scan co fl b (behind fl p.1 b) = rd (gA p.1 0) 40 b))
def passStep (co fl : Ob) (j : Nat) (p : Ob × Bool) : Ob × Bool := if hs (gl fl 0) (gi fl 0 - 1 - nI j) then passB co fl (gi fl 0 - 1 - nI j) p else p
def passUp (co fl li : Ob) : Ob × Bool := lp (passStep co fl) (nN (gi fl 0)) (li, false)
def vainStep (co fl : Ob) (b : Int32) (j : Nat) (p : Int32 × Int32) : Int32 × Int32 :=
  (if rd (gA co 2) 40 (rd (gA fl 2) 40 b - nI j) < 0 then p.1 else if hs p.2.toInt64 (rd (gA co 2) 40 (rd (gA fl 2) 40 b - nI j)) then p.1 else p.1 + 1, ahead co (rd (gA fl 2) 40 b - nI j) p.2)
def vainIn (co fl li : Ob) (b : Int32) : Int32 := (lp (vainStep co fl b) (scanN fl b) (0, behind fl li b)).1
def liInit (b : Nat) (li : Ob) : Ob := sA li 0 (wr (gA li 0) 40 (nI b) 0)
def foV (co fl : Ob) (b : Nat) (li : Ob) : Ob := if hs (gl fl 0) (nI b) then si li 0 (gi li 0 + vainIn co fl li (nI b)) else li
def foP (co fl li : Ob) : Ob := (lpW (fun p : Ob × Bool => p.2) (fun p => passUp co fl p.1) 41 (lp liInit 40 li, true)).1
def follow (co fl li : Ob) : Ob := lp (foV co fl) (nN (gi fl 0)) (si (foP co fl li) 0 0)
/- Reduction: long rows 0 next; int rows 0 home, 1 rule, 2 node, 3 entry; longs 0 nodes; ints 0 stepCount, 1 fresh -/
def reInit (fl : Ob) (b : Nat) (re : Ob) : Ob :=
  sA (sB re 0 (wrL (gB re 0) 40 (nI b) (if hs (gl re 0) (nI b) then rdL (gB fl 0) 40 (nI b) else 0))) 0 (wr (gA re 0) 40 (nI b) (if hs (gl re 0) (nI b) then nI b else -1))
def feA (re : Ob) (n : Nat) (p : Int64 × Int64) : Int64 × Int64 := (p.1 ||| rdL (gB re 0) 40 (nI n), p.2 ||| (p.1 &&& rdL (gB re 0) 40 (nI n)))
def feC (n : Nat) (re : Ob) : Ob := sA re 3 (wr (gA re 3) 41 (nI n) (-1))
def feB (mine : Int64) (n : Nat) (b : Nat) (re : Ob) : Ob := if hs mine (nI b) then sA re 3 (wr (gA re 3) 41 (nI b) (nI n)) else re
def feN (only : Int64) (n : Nat) (re : Ob) : Ob := lp (feB (rdL (gB re 0) 40 (nI n) &&& only) n) 40 re
def feOnly (re : Ob) : Int64 := (lp (feA re) 40 (0, bitL 40 ||| 1)).1 &&& ((lp (feA re) 40 (0, bitL 40 ||| 1)).2 ^^^ (-1))
def findEntries (re : Ob) : Ob := lp (feN (feOnly re)) 40 (lp feC 41 re)
def isSingle (re : Ob) (a b c : Int32) : Bool := decide (rd (gA re 3) 41 b = a) && decide (rdL (gB re 0) 40 b = bitL c)
def isDouble (re : Ob) (a b c : Int32) : Bool :=
  decide (rd (gA re 3) 41 b = a) && (decide (rd (gA re 3) 41 c = a) && (decide (bc (rdL (gB re 0) 40 b) = 1) && (decide (rdL (gB re 0) 40 b = rdL (gB re 0) 40 c) && decide ((rdL (gB re 0) 40 b &&& (bitL a ||| bitL b ||| bitL c)) = 0))))
def rfC (out : Int64) : Int32 := lowest (out &&& (bitL (lowest out) ^^^ (-1)))
def ruleTwo (re : Ob) (a b c : Int32) : Int32 := if isSingle re a b c then 2 else if isSingle re a c b then 2 else if isDouble re a b c then 3 else -1
def ruleFor (re : Ob) (a : Int32) : Int32 :=
  if hs (rdL (gB re 0) 40 a) a then 0
  else if bc (rdL (gB re 0) 40 a) = 1 then (if rd (gA re 3) 41 (lowest (rdL (gB re 0) 40 a)) = a then 1 else -1)
  else if bc (rdL (gB re 0) 40 a) = 2 then ruleTwo re a (lowest (rdL (gB re 0) 40 a)) (rfC (rdL (gB re 0) 40 a))
  else -1
def mgA (members : Int64) (n : Nat) (p : Ob × Int64) : Ob × Int64 :=
  if hs members (nI n) then (sB p.1 0 (wrL (gB p.1 0) 40 (nI n) 0), p.2 ||| rdL (gB p.1 0) 40 (nI n)) else p
def mgC (members : Int64) (name : Int32) (n : Nat) (re : Ob) : Ob :=
  if (rdL (gB re 0) 40 (nI n) &&& members) = 0 then re else sB re 0 (wrL (gB re 0) 40 (nI n) ((rdL (gB re 0) 40 (nI n) &&& (members ^^^ (-1))) ||| bitL name))
def mgD (members : Int64) (name : Int32) (n : Nat) (re : Ob) : Ob :=
  if rd (gA re 0) 40 (nI n) < 0 then re else if hs members (rd (gA re 0) 40 (nI n)) then sA re 0 (wr (gA re 0) 40 (nI n) name) else re
def mgB (members : Int64) (name : Int32) (n : Nat) (re : Ob) : Ob := mgD members name n (mgC members name n re)
def mgN (p : Ob × Int64) (members : Int64) (name : Int32) (circles : Bool) : Ob :=
  sl (sB p.1 0 (wrL (gB p.1 0) 40 name ((p.2 &&& (members ^^^ (-1))) ||| (if circles then bitL name else 0)))) 0 ((gl p.1 0 &&& (members ^^^ (-1))) ||| bitL name)
def merge (re : Ob) (members : Int64) (name : Int32) (circles : Bool) : Ob := lp (mgB members name) 40 (mgN (lp (mgA members) 40 (re, 0)) members name circles)
def apM (re : Ob) (found a : Int32) (out : Int64) : Int64 :=
  if found = 2 then (bitL a ||| out) &&& (bitL (if isSingle re a (lowest out) (rfC out) then rfC out else lowest out) ^^^ (-1)) else bitL a ||| out
def apC (re : Ob) (found a : Int32) (out : Int64) : Bool := decide (found = 1) && hs (rdL (gB re 0) 40 (lowest out)) a
def apply (re : Ob) (found a : Int32) : Ob :=
  if found = 0 then sB re 0 (wrL (gB re 0) 40 a (rdL (gB re 0) 40 a &&& (bitL a ^^^ (-1))))
  else merge re (apM re found a (rdL (gB re 0) 40 a)) (lowest (apM re found a (rdL (gB re 0) 40 a))) (apC re found a (rdL (gB re 0) 40 a))
def foundAt (re : Ob) (n : Nat) : Int32 := if hs (gl re 0) (nI n) then ruleFor re (nI n) else -1
def isFound (re : Ob) (n : Nat) : Bool := decide (¬ foundAt re n = -1)
def tsPut (re : Ob) (n : Nat) : Ob :=
  si (sA (sA re 1 (wr (gA re 1) 120 (gi re 0) (foundAt re n))) 2 (wr (gA re 2) 120 (gi re 0) (nI n))) 0 (gi re 0 + 1)
def takeF (re : Ob) (k : Nat) : Ob × Bool := if k < 40 then (apply (tsPut re k) (foundAt re k) (nI k), true) else (re, false)
def takeStep (re : Ob) : Ob × Bool := takeF (findEntries re) (fnd (isFound (findEntries re)) 40)
def reduce (fl re : Ob) : Ob := (lpW (fun p : Ob × Bool => p.2) (fun p => takeStep p.1) 120 (lp (reInit fl) 40 (si (sl re 0 (gl fl 0)) 0 0), true)).1
/- Walk: int rows 0 came, 1 upper, 2 lower, 3 open, 4 edge; ints 0 cameCount, 1 openCount; longs 0 seen, 1 stillGoing -/
def enter (fl wa : Ob) (b : Int32) : Ob :=
  sl (sl (sA (si (sA (si (sA wa 0 (wr (gA wa 0) 40 (gi wa 0) b)) 0 (gi wa 0 + 1)) 3 (wr (gA wa 3) 40 (gi wa 1) b)) 1 (gi wa 1 + 1)) 4 (wr (gA wa 4) 40 b (rd (gA fl 5) 41 b))) 0 (gl wa 0 ||| bitL b)) 1 (gl wa 1 ||| bitL b)
def goE (wa : Ob) (block : Int32) : Int32 := rd (gA wa 4) 40 block
def goM (wa : Ob) (block e goal : Int32) : Ob :=
  sA (sA (sA wa 4 (wr (gA wa 4) 40 block (e + 1))) 1 (wr (gA wa 1) 80 e (if hs (gl wa 1) goal then goal else block))) 2 (wr (gA wa 2) 80 e (if hs (gl wa 1) goal then block else goal))
def goD (fl wa : Ob) (block e goal : Int32) : Ob := if hs (gl wa 0) goal then goM wa block e goal else enter fl (goM wa block e goal) goal
def goF (fl wa : Ob) (block e goal : Int32) : Ob :=
  if goal < 0 then sA wa 4 (wr (gA wa 4) 40 block (e + 1)) else if goal = block then sA wa 4 (wr (gA wa 4) 40 block (e + 1)) else goD fl wa block e goal
def goOn (fl wa : Ob) (block : Int32) : Ob :=
  if goE wa block < rd (gA fl 5) 41 (block + 1) then goF fl wa block (goE wa block) (rd (gA fl 4) 80 (goE wa block))
  else sl (si wa 1 (gi wa 1 - 1)) 1 (gl wa 1 &&& (bitL block ^^^ (-1)))
def gtInit (e : Nat) (wa : Ob) : Ob := sA (sA wa 1 (wr (gA wa 1) 80 (nI e) (-1))) 2 (wr (gA wa 2) 80 (nI e) (-1))
def gtZero (wa : Ob) : Ob := lp gtInit 80 (sl (sl (si (si wa 0 0) 1 0) 0 0) 1 0)
def gtStart (fl wa : Ob) : Ob := if 0 < gi fl 0 then enter fl (gtZero wa) 0 else gtZero wa
def gtGo (wa : Ob) : Bool := decide (0 < gi wa 1)
def gtStep (fl wa : Ob) : Ob := goOn fl wa (rd (gA wa 3) 40 (gi wa 1 - 1))
def goThrough (fl wa : Ob) : Ob := lpW gtGo (gtStep fl) 120 (gtStart fl wa)
def draws (wa : Ob) (e : Int32) : Bool := decide (¬ rd (gA wa 1) 80 e < 0)
def turns (fl wa : Ob) (e : Int32) : Bool := draws wa e && decide (rd (gA wa 1) 80 e = rd (gA fl 4) 80 e)
/- Picture: int rows 0 layer, 1 start, 2 firstBend, 3 edgeOf, 4 order, 5 place, 6 kept, 7 sum, 8 lines, 9 above, 10 below; ints 0 edgeCount, 1 layerCount, 2 sweeps, 3 fresh -/
def topE (wa pi : Ob) (e : Int32) : Int32 := rd (gA pi 0) 40 (rd (gA wa 1) 80 e)
def botE (wa pi : Ob) (e : Int32) : Int32 := rd (gA pi 0) 40 (rd (gA wa 2) 80 e)
def pdPut (wa pi : Ob) (e : Int32) : Ob := sA pi 0 (wr (gA pi 0) 40 (rd (gA wa 2) 80 e) (topE wa pi e + 1))
def pdStep (wa : Ob) (e : Nat) (p : Ob × Bool) : Ob × Bool :=
  if draws wa (nI e) then (if topE wa p.1 (nI e) < botE wa p.1 (nI e) then p else (pdPut wa p.1 (nI e), true)) else p
def pushDown (wa pi : Ob) : Ob × Bool := lp (pdStep wa) (nN (gi pi 0)) (pi, false)
def slInit (wa : Ob) (b : Nat) (pi : Ob) : Ob := sA pi 0 (wr (gA pi 0) 40 (nI b) (if hs (gl wa 0) (nI b) then 0 else -1))
def slMax (b : Nat) (pi : Ob) : Ob := si pi 1 (imax (gi pi 1) (rd (gA pi 0) 40 (nI b) + 1))
def slPush (wa pi : Ob) : Ob := (lpW (fun p : Ob × Bool => p.2) (fun p => pushDown wa p.1) 40 (lp (slInit wa) 40 pi, true)).1
def setLayers (wa pi : Ob) : Ob := lp slMax 40 (si (slPush wa pi) 1 0)
def bendCount (wa pi : Ob) (e : Int32) : Int32 := if draws wa e then botE wa pi e - topE wa pi e - 1 else -1
def nbIn (e : Nat) (_k : Nat) (p : Ob × Int32) : Ob × Int32 := (sA p.1 3 (wr (gA p.1 3) 1600 p.2 (nI e)), p.2 + 1)
def nbPut (e : Nat) (p : Ob × Int32) : Ob := sA p.1 2 (wr (gA p.1 2) 80 (nI e) p.2)
def nbStep (wa : Ob) (e : Nat) (p : Ob × Int32) : Ob × Int32 := lp (nbIn e) (nN (bendCount wa (nbPut e p) (nI e))) (nbPut e p, p.2)
def numberBends (wa pi : Ob) : Ob := (lp (nbStep wa) (nN (gi pi 0)) (pi, 40)).1
def putPoint (pi : Ob) (l ix pt : Int32) : Ob := sA (sA pi 4 (wr (gA pi 4) 1600 ix pt)) 5 (wr (gA pi 5) 1600 pt (ix - rd (gA pi 1) 41 l))
def pointOn (wa pi : Ob) (e l : Int32) : Int32 :=
  if l = topE wa pi e then rd (gA wa 1) 80 e else if l = botE wa pi e then rd (gA wa 2) 80 e else rd (gA pi 2) 80 e + l - topE wa pi e - 1
def fiA (wa : Ob) (l : Int32) (i : Nat) (p : Ob × Int32) : Ob × Int32 :=
  if rd (gA p.1 0) 40 (rd (gA wa 0) 40 (nI i)) = l then (putPoint p.1 l p.2 (rd (gA wa 0) 40 (nI i)), p.2 + 1) else p
def fiB (wa : Ob) (l : Int32) (e : Nat) (p : Ob × Int32) : Ob × Int32 :=
  if draws wa (nI e) then (if topE wa p.1 (nI e) < l then (if l < botE wa p.1 (nI e) then (putPoint p.1 l p.2 (pointOn wa p.1 (nI e) l), p.2 + 1) else p) else p) else p
def fill (wa pi : Ob) (l filled : Int32) : Ob × Int32 := lp (fiB wa l) (nN (gi pi 0)) (lp (fiA wa l) (nN (gi wa 0)) (pi, filled))
def drStep (wa : Ob) (l : Nat) (p : Ob × Int32) : Ob × Int32 := fill wa (sA p.1 1 (wr (gA p.1 1) 41 (nI l) p.2)) (nI l) p.2
def drNum (fl wa pi : Ob) : Ob := numberBends (goThrough fl wa) (setLayers (goThrough fl wa) (si (si pi 0 (gi fl 1)) 2 0))
def drFill (fl wa pi : Ob) : Ob × Int32 := lp (drStep (goThrough fl wa)) (nN (gi (drNum fl wa pi) 1)) (drNum fl wa pi, 0)
def draw (fl wa pi : Ob) : Ob := sA (drFill fl wa pi).1 1 (wr (gA (drFill fl wa pi).1 1) 41 (gi (drFill fl wa pi).1 1) (drFill fl wa pi).2)
def sizeOf (pi : Ob) (l : Int32) : Int32 := rd (gA pi 1) 41 (l + 1) - rd (gA pi 1) 41 l
def shPt (pi : Ob) (l spot : Int32) : Int32 := rd (gA pi 4) 1600 (rd (gA pi 1) 41 l + spot)
def shownAt (pi : Ob) (l spot : Int32) : Int32 := if shPt pi l spot < 40 then shPt pi l spot else -1 - rd (gA pi 3) 1600 (shPt pi l spot)
def placeB (pi : Ob) (b : Int32) : Int32 := if rd (gA pi 0) 40 b < 0 then -1 else rd (gA pi 5) 1600 b
def placeBend (pi : Ob) (e bend : Int32) : Int32 := rd (gA pi 5) 1600 (rd (gA pi 2) 80 e + bend)
def msStep (wa pi : Ob) (e : Nat) (p : Int32 × Int32) : Int32 × Int32 := if draws wa (nI e) then (p.1 + 1, p.2 + (botE wa pi (nI e) - topE wa pi (nI e))) else p
def msAll (wa pi : Ob) : Int32 × Int32 := lp (msStep wa pi) (nN (gi pi 0)) (0, 0)
def leaves (wa pi : Ob) (e l : Int32) : Bool := draws wa e && (decide (¬ l < topE wa pi e) && decide (l < botE wa pi e))
def cuA (wa : Ob) (l : Int32) (e : Nat) (p : Ob × Int32) : Ob × Int32 :=
  if leaves wa p.1 (nI e) l then (sA (sA p.1 9 (wr (gA p.1 9) 80 p.2 (rd (gA p.1 5) 1600 (pointOn wa p.1 (nI e) l)))) 10 (wr (gA p.1 10) 80 p.2 (rd (gA p.1 5) 1600 (pointOn wa p.1 (nI e) (l + 1)))), p.2 + 1) else p
def cuB (pi : Ob) (i : Nat) (j : Nat) (many : Int32) : Int32 :=
  if (rd (gA pi 9) 80 (nI i) - rd (gA pi 9) 80 (nI j)) * (rd (gA pi 10) 80 (nI i) - rd (gA pi 10) 80 (nI j)) < 0 then many + 1 else many
def cuC (pi : Ob) (i : Nat) (many : Int32) : Int32 := lp (cuB pi i) i many
def cuP (wa pi : Ob) (l : Int32) : Ob × Int32 := lp (cuA wa l) (nN (gi pi 0)) (pi, 0)
def crossN (wa pi : Ob) (l : Int32) : Int32 := lp (cuC (cuP wa pi l).1) (nN (cuP wa pi l).2) 0
def ccStep (wa : Ob) (l : Nat) (p : Ob × Int32) : Ob × Int32 := ((cuP wa p.1 (nI l)).1, p.2 + crossN wa p.1 (nI l))
def countCross (wa pi : Ob) : Ob × Int32 := lp (ccStep wa) (nN (gi pi 1 - 1)) (pi, 0)
def weA (i : Nat) (pi : Ob) : Ob := sA (sA pi 7 (wr (gA pi 7) 120 (nI i) 0)) 8 (wr (gA pi 8) 120 (nI i) 0)
def weSpot (wa pi : Ob) (l : Int32) (e : Nat) : Int32 := rd (gA pi 5) 1600 (pointOn wa pi (nI e) l)
def weB (wa : Ob) (l other over : Int32) (e : Nat) (pi : Ob) : Ob :=
  if leaves wa pi (nI e) over then
    sA (sA pi 7 (wr (gA pi 7) 120 (weSpot wa pi l e) (rd (gA pi 7) 120 (weSpot wa pi l e) + weSpot wa pi other e))) 8 (wr (gA pi 8) 120 (weSpot wa pi l e) (rd (gA pi 8) 120 (weSpot wa pi l e) + 1))
  else pi
def weC (i : Nat) (pi : Ob) : Ob := if rd (gA pi 8) 120 (nI i) = 0 then sA (sA pi 7 (wr (gA pi 7) 120 (nI i) (nI i))) 8 (wr (gA pi 8) 120 (nI i) 1) else pi
def weigh (wa pi : Ob) (l other size : Int32) : Ob := lp weC (nN size) (lp (weB wa l other (imin l other)) (nN (gi pi 0)) (lp weA (nN size) pi))
def isAhead (pi : Ob) (point other : Int32) : Bool :=
  decide (rd (gA pi 7) 120 (rd (gA pi 5) 1600 point) * rd (gA pi 8) 120 (rd (gA pi 5) 1600 other) < rd (gA pi 7) 120 (rd (gA pi 5) 1600 other) * rd (gA pi 8) 120 (rd (gA pi 5) 1600 point))
def slidePut (base : Int32) (k : Nat) (pi : Ob) : Ob := sA pi 4 (wr (gA pi 4) 1600 (base + nI (k + 1)) (rd (gA pi 4) 1600 (base + nI (k + 1) - 1)))
def slide (base point : Int32) (k : Nat) : Ob → Ob × Nat :=
  Nat.rec (fun pi => (pi, 0)) (fun k r pi => if isAhead pi point (rd (gA pi 4) 1600 (base + nI (k + 1) - 1)) then r (slidePut base k pi) else (pi, k + 1)) k
def arPoint (base : Int32) (i : Nat) (pi : Ob) : Int32 := rd (gA pi 4) 1600 (base + nI i)
def arStep (base : Int32) (j : Nat) (pi : Ob) : Ob :=
  sA (slide base (arPoint base (j + 1) pi) (j + 1) pi).1 4 (wr (gA (slide base (arPoint base (j + 1) pi) (j + 1) pi).1 4) 1600 (base + nI (slide base (arPoint base (j + 1) pi) (j + 1) pi).2) (arPoint base (j + 1) pi))
def arPut (l base : Int32) (i : Nat) (pi : Ob) : Ob := putPoint pi l (base + nI i) (rd (gA pi 4) 1600 (base + nI i))
def arrange (wa pi : Ob) (l other : Int32) : Ob :=
  lp (arPut l (rd (gA pi 1) 41 l)) (nN (sizeOf pi l)) (lp (arStep (rd (gA pi 1) 41 l)) (nN (sizeOf pi l) - 1) (weigh wa pi l other (sizeOf pi l)))
def soK (wa : Ob) (down : Bool) (j : Nat) (pi : Ob) : Ob :=
  if down then arrange wa pi (nI (j + 1)) (nI (j + 1) - 1) else arrange wa pi (gi pi 1 - 1 - nI (j + 1)) (gi pi 1 - nI (j + 1))
def soDown (pi : Ob) : Bool := decide ((gi pi 2 &&& 1) = 0)
def soAll (wa pi : Ob) : Ob := lp (soK wa (soDown pi)) (nN (gi pi 1) - 1) pi
def soStep (wa : Ob) (_i : Nat) (pi : Ob) : Ob := si (soAll wa pi) 2 (gi (soAll wa pi) 2 + 1)
def sweepOften (wa pi : Ob) (many : Int32) : Ob := lp (soStep wa) (nN many) pi
def toKeep (i : Nat) (pi : Ob) : Ob := sA pi 6 (wr (gA pi 6) 1600 (nI i) (rd (gA pi 4) 1600 (nI i)))
def toAll (pi : Ob) : Ob := lp toKeep (nN (rd (gA pi 1) 41 (gi pi 1))) pi
def toB (l a : Int32) (j : Nat) (pi : Ob) : Ob := putPoint pi l (a + nI j) (rd (gA pi 6) 1600 (a + nI j))
def toL (l : Nat) (pi : Ob) : Ob := lp (toB (nI l) (rd (gA pi 1) 41 (nI l))) ((rd (gA pi 1) 41 (nI l + 1)).toInt - (rd (gA pi 1) 41 (nI l)).toInt).toNat pi
def toQ (wa pi : Ob) (many : Int32) : Ob × Int32 := countCross wa (sweepOften wa (toAll pi) many)
def tryOut (wa pi : Ob) (many : Int32) : Ob := si (lp toL (nN (gi (toQ wa pi many).1 1)) (toQ wa pi many).1) 2 (gi pi 2)

theorem gi_sl (o : Ob) (k j : Nat) (v : Int64) : gi (sl o k v) j = gi o j := (rfl)
theorem gi_sA (o : Ob) (k j : Nat) (v : Nat → Int32) : gi (sA o k v) j = gi o j := (rfl)
theorem gi_sB (o : Ob) (k j : Nat) (v : Nat → Int64) : gi (sB o k v) j = gi o j := (rfl)
theorem gi_si_s (o : Ob) (k : Nat) (v : Int32) : gi (si o k v) k = v := if_pos rfl
theorem gi_si_n (o : Ob) (k j : Nat) (v : Int32) (h : (j == k) = false) : gi (si o k v) j = gi o j := if_neg (fun z => by subst z; simp at h)
theorem gl_si (o : Ob) (k j : Nat) (v : Int32) : gl (si o k v) j = gl o j := (rfl)
theorem gl_sA (o : Ob) (k j : Nat) (v : Nat → Int32) : gl (sA o k v) j = gl o j := (rfl)
theorem gl_sB (o : Ob) (k j : Nat) (v : Nat → Int64) : gl (sB o k v) j = gl o j := (rfl)
theorem gl_sl_s (o : Ob) (k : Nat) (v : Int64) : gl (sl o k v) k = v := if_pos rfl
theorem gl_sl_n (o : Ob) (k j : Nat) (v : Int64) (h : (j == k) = false) : gl (sl o k v) j = gl o j := if_neg (fun z => by subst z; simp at h)
theorem gA_si (o : Ob) (k j : Nat) (v : Int32) : gA (si o k v) j = gA o j := (rfl)
theorem gA_sl (o : Ob) (k j : Nat) (v : Int64) : gA (sl o k v) j = gA o j := (rfl)
theorem gA_sB (o : Ob) (k j : Nat) (v : Nat → Int64) : gA (sB o k v) j = gA o j := (rfl)
theorem gA_sA_s (o : Ob) (k : Nat) (v : Nat → Int32) : gA (sA o k v) k = v := if_pos rfl
theorem gA_sA_n (o : Ob) (k j : Nat) (v : Nat → Int32) (h : (j == k) = false) : gA (sA o k v) j = gA o j := if_neg (fun z => by subst z; simp at h)
theorem gB_si (o : Ob) (k j : Nat) (v : Int32) : gB (si o k v) j = gB o j := (rfl)
theorem gB_sl (o : Ob) (k j : Nat) (v : Int64) : gB (sl o k v) j = gB o j := (rfl)
theorem gB_sA (o : Ob) (k j : Nat) (v : Nat → Int32) : gB (sA o k v) j = gB o j := (rfl)
theorem gB_sB_s (o : Ob) (k : Nat) (v : Nat → Int64) : gB (sB o k v) k = v := if_pos rfl
theorem gB_sB_n (o : Ob) (k j : Nat) (v : Nat → Int64) (h : (j == k) = false) : gB (sB o k v) j = gB o j := if_neg (fun z => by subst z; simp at h)

abbrev TY (cI cJ : ClassId) : List (ClassId × FieldType) := [(cI, .int), (cJ, .long)]
theorem i_ge {x y : Int32} (h : y ≤ x) : ¬ x < y := fun z => by
  rw [Int32.lt_iff_toInt_lt] at z
  rw [Int32.le_iff_toInt_le] at h
  omega
theorem i_nge {x y : Int32} (h : ¬ y ≤ x) : x < y := by
  rw [Int32.le_iff_toInt_le] at h
  rw [Int32.lt_iff_toInt_lt]
  omega
theorem i_ge' {x y : Int32} (h : ¬ x < y) : y ≤ x := by
  rw [Int32.lt_iff_toInt_lt] at h
  rw [Int32.le_iff_toInt_le]
  omega
theorem b2i_tt : b2i true = 1 := rfl
theorem b2i_ff : b2i false = 0 := rfl
theorem b2i_0 {b : Bool} (h : b2i b = 0) : ¬ b = true := by
  cases b
  · decide
  · exact absurd h (by decide)
theorem b2i_1 {b : Bool} (h : ¬ b2i b = 0) : b = true := by
  cases b
  · exact absurd rfl h
  · rfl
theorem bf_of {b : Bool} (h : ¬ b = true) : b = false := by
  cases b
  · rfl
  · exact absurd rfl h
theorem nar_b2i {b : Bool} : narrow .boolean (.int (b2i b)) = .int (b2i b) := by cases b <;> rfl
theorem lcmp_0 {x y : Int64} (h : lg_cmp x y = 0) : x = y := by
  unfold lg_cmp at h
  by_cases h1 : x > y
  · rw [if_pos h1] at h; exact absurd h (by decide)
  · rw [if_neg h1] at h
    by_cases h2 : x = y
    · exact h2
    · rw [if_neg h2] at h; exact absurd h (by decide)
theorem lcmp_1 {x y : Int64} (h : ¬ lg_cmp x y = 0) : ¬ x = y := fun z => h (by
  subst z
  unfold lg_cmp
  by_cases h1 : x > x
  · exact absurd h1 (Int64.lt_irrefl)
  · rw [if_neg h1, if_pos rfl])
theorem lp_go {σ : Type} {f : Nat → σ → σ} {i : Nat} {s p : σ} (h : p = lp f i s) : f i p = lp f (i + 1) s := by subst h; rfl
theorem lpW_go {σ : Type} {c : σ → Bool} {f : σ → σ} {i : Nat} {s p : σ} (h : p = lpW c f i s) (hc : c p = true) : f p = lpW c f (i + 1) s := by
  subst h
  show _ = (if c (lpW c f i s) = true then f (lpW c f i s) else lpW c f i s)
  rw [if_pos hc]
theorem lpW_same {σ : Type} {c : σ → Bool} {f : σ → σ} {s : σ} (hc : c s = false) (n : Nat) : lpW c f n s = s := by
  induction n with
  | zero => rfl
  | succ n ih =>
    show (if c (lpW c f n s) = true then f (lpW c f n s) else lpW c f n s) = s
    rw [ih, if_neg (by rw [hc]; decide)]
theorem lpW_stop {σ : Type} {c : σ → Bool} {f : σ → σ} {i n : Nat} {s p : σ} (h : p = lpW c f i s) (hc : c p = false) (hn : i ≤ n) : p = lpW c f n s := by
  subst h
  obtain ⟨k, rfl⟩ : ∃ k, n = i + k := ⟨n - i, by omega⟩
  induction k with
  | zero => rfl
  | succ k ih =>
    show _ = (if c (lpW c f (i + k) s) = true then f (lpW c f (i + k) s) else lpW c f (i + k) s)
    rw [← ih (by omega), if_neg (by rw [hc]; decide)]
theorem nN_lt (b : Int32) : nN b < 2 ^ 31 := by
  have h := b.toInt_lt
  unfold nN
  omega
theorem lp_out (b : Int32) : b ≤ nI (nN b) := by
  rw [Int32.le_iff_toInt_le, nI_toInt (nN_lt b)]
  unfold nN
  omega
theorem lp_in {b : Int32} {i : Nat} (h : i < nN b) : ¬ b ≤ nI i := by
  have h2 := nN_lt b
  rw [Int32.le_iff_toInt_le, nI_toInt (by omega)]
  unfold nN at h
  omega
theorem nI_01 : nI (0 + 1) = 1 := rfl
theorem sub_nI0 (x : Int32) : x - nI 0 = x := by
  apply Int32.toBitVec_inj.mp
  rw [Int32.toBitVec_sub]
  show x.toBitVec - 0#32 = x.toBitVec
  simp
theorem add_nI0 (x : Int32) : x + nI 0 = x := by
  apply Int32.toBitVec_inj.mp
  rw [Int32.toBitVec_add]
  show x.toBitVec + 0#32 = x.toBitVec
  simp
theorem add_nI1 (x : Int32) (i : Nat) : x + nI i + 1 = x + nI (i + 1) := by
  rw [← nI_1 i, Int32.add_assoc]
theorem sub_nI1 (x : Int32) (i : Nat) : x - nI i + (-1) = x - nI (i + 1) := by
  rw [← nI_1 i, Int32.sub_eq_add_neg, Int32.sub_eq_add_neg, Int32.neg_add, Int32.sub_eq_add_neg, Int32.add_assoc]
theorem set_same {w : va_W} {q0 : Nat} {e : Nat × va_E} (hq : w[q0]? = some e) : w.set q0 e = w := by
  obtain ⟨h, e9⟩ := List.getElem?_eq_some_iff.mp hq
  apply List.ext_getElem?
  intro j
  by_cases hj : j = q0
  · subst hj
    rw [List.getElem?_set_self h, hq]
  · rw [List.getElem?_set_ne (Ne.symm hj)]
theorem vp_yes {i : Int32} {n : Nat} (hn : n < 2 ^ 31) (h0 : ¬ i < 0) (h : i < nI n) : vp_in i n := by
  rw [vp_in_iff]
  rw [Int32.lt_iff_toInt_lt, nI_toInt hn] at h
  rw [Int32.lt_iff_toInt_lt, Int32.toInt_zero] at h0
  omega

