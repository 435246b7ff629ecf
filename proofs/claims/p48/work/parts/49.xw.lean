def FFX7 (ad : Nat → Nat) : List Value := [.ref (ad 1), .ref (ad 2), .ref (ad 3), .ref (ad 4), .ref (ad 5), .ref (ad 6)]
def FFX0 (ad : Nat → Nat) (co : Ob) : List Value := [.ref (ad 8), .ref (ad 9), .ref (ad 10), .ref (ad 11), .int (gi co 0)]
def FFX1 (ad : Nat → Nat) (fl : Ob) : List Value := [.ref (ad 12), .ref (ad 13), .ref (ad 14), .ref (ad 15), .ref (ad 16), .ref (ad 17), .ref (ad 18), .int (gi fl 0), .int (gi fl 1), .long (gl fl 0), .int (gi fl 2)]
def FFX4 (ad : Nat → Nat) (ra : Ob) : List Value := [.ref (ad 19), .ref (ad 20), .ref (ad 21), .ref (ad 22), .int (gi ra 0), .int (gi ra 1), .int (gi ra 2)]
def FFX2 (ad : Nat → Nat) (li : Ob) : List Value := [.ref (ad 23), .int (gi li 0), .int (gi li 1)]
def FFX5 (ad : Nat → Nat) (re : Ob) : List Value := [.ref (ad 24), .ref (ad 25), .ref (ad 26), .ref (ad 27), .ref (ad 28), .long (gl re 0), .int (gi re 0), .int (gi re 1)]
def FFX3 (ad : Nat → Nat) (pi : Ob) : List Value := [.ref (ad 7), .ref (ad 34), .ref (ad 35), .ref (ad 36), .ref (ad 37), .ref (ad 38), .ref (ad 39), .ref (ad 40), .ref (ad 41), .ref (ad 42), .ref (ad 43), .ref (ad 44), .int (gi pi 0), .int (gi pi 1), .int (gi pi 2), .int (gi pi 3)]
def FFX6 (ad : Nat → Nat) (wa : Ob) : List Value := [.ref (ad 29), .ref (ad 30), .ref (ad 31), .ref (ad 32), .ref (ad 33), .int (gi wa 0), .int (gi wa 1), .long (gl wa 0), .long (gl wa 1)]
def XW (ad : Nat → Nat) (cI cJ : ClassId) (co fl ra li re wa pi : Ob) : va_W := [(ad 0, .inr (7, (FFX7 ad))), (ad 1, .inr (0, (FFX0 ad co))), (ad 2, .inr (1, (FFX1 ad fl))), (ad 3, .inr (4, (FFX4 ad ra))), (ad 4, .inr (2, (FFX2 ad li))), (ad 5, .inr (5, (FFX5 ad re))), (ad 6, .inr (3, (FFX3 ad pi))), (ad 7, .inr (6, (FFX6 ad wa))), (ad 8, .inl (cI, 40, .inl (gA co 0))), (ad 9, .inl (cI, 40, .inl (gA co 1))), (ad 10, .inl (cI, 40, .inl (gA co 2))), (ad 11, .inl (cI, 40, .inl (gA co 3))), (ad 12, .inl (cI, 40, .inl (gA fl 0))), (ad 13, .inl (cI, 40, .inl (gA fl 1))), (ad 14, .inl (cI, 40, .inl (gA fl 2))), (ad 15, .inl (cI, 80, .inl (gA fl 3))), (ad 16, .inl (cI, 80, .inl (gA fl 4))), (ad 17, .inl (cI, 41, .inl (gA fl 5))), (ad 18, .inl (cJ, 40, .inr (.inl (gB fl 0)))), (ad 19, .inl (cJ, 40, .inr (.inl (gB ra 0)))), (ad 20, .inl (cJ, 40, .inr (.inl (gB ra 1)))), (ad 21, .inl (cJ, 40, .inr (.inl (gB ra 2)))), (ad 22, .inl (cJ, 40, .inr (.inl (gB ra 3)))), (ad 23, .inl (cI, 40, .inl (gA li 0))), (ad 24, .inl (cJ, 40, .inr (.inl (gB re 0)))), (ad 25, .inl (cI, 40, .inl (gA re 0))), (ad 26, .inl (cI, 120, .inl (gA re 1))), (ad 27, .inl (cI, 120, .inl (gA re 2))), (ad 28, .inl (cI, 41, .inl (gA re 3))), (ad 29, .inl (cI, 40, .inl (gA wa 0))), (ad 30, .inl (cI, 80, .inl (gA wa 1))), (ad 31, .inl (cI, 80, .inl (gA wa 2))), (ad 32, .inl (cI, 40, .inl (gA wa 3))), (ad 33, .inl (cI, 40, .inl (gA wa 4))), (ad 34, .inl (cI, 40, .inl (gA pi 0))), (ad 35, .inl (cI, 41, .inl (gA pi 1))), (ad 36, .inl (cI, 80, .inl (gA pi 2))), (ad 37, .inl (cI, 1600, .inl (gA pi 3))), (ad 38, .inl (cI, 1600, .inl (gA pi 4))), (ad 39, .inl (cI, 1600, .inl (gA pi 5))), (ad 40, .inl (cI, 1600, .inl (gA pi 6))), (ad 41, .inl (cI, 120, .inl (gA pi 7))), (ad 42, .inl (cI, 120, .inl (gA pi 8))), (ad 43, .inl (cI, 80, .inl (gA pi 9))), (ad 44, .inl (cI, 80, .inl (gA pi 10)))]
theorem cgP {D : va_G} {cl : List vw_C} {w w2 : va_W} {H : Heap} (e : w = w2) (h : va_P D cl w H) : va_P D cl w2 H := e ▸ h
theorem cgD {A : Nat → Prop} {w w2 : va_W} (e : w = w2) (h : va_D A w) : va_D A w2 := e ▸ h
theorem xo0 {ad : Nat → Nat} {cI cJ : ClassId} {co fl ra li re wa pi : Ob} : (XW ad cI cJ co fl ra li re wa pi)[0]? = some (ad 0, .inr (7, (FFX7 ad))) := rfl
theorem xvX7_0 {ad : Nat → Nat} : (FFX7 ad)[0]? = some (.ref (ad 1)) := rfl
theorem xvX7_1 {ad : Nat → Nat} : (FFX7 ad)[1]? = some (.ref (ad 2)) := rfl
theorem xvX7_2 {ad : Nat → Nat} : (FFX7 ad)[2]? = some (.ref (ad 3)) := rfl
theorem xvX7_3 {ad : Nat → Nat} : (FFX7 ad)[3]? = some (.ref (ad 4)) := rfl
theorem xvX7_4 {ad : Nat → Nat} : (FFX7 ad)[4]? = some (.ref (ad 5)) := rfl
theorem xvX7_5 {ad : Nat → Nat} : (FFX7 ad)[5]? = some (.ref (ad 6)) := rfl
theorem xo1 {ad : Nat → Nat} {cI cJ : ClassId} {co fl ra li re wa pi : Ob} : (XW ad cI cJ co fl ra li re wa pi)[1]? = some (ad 1, .inr (0, (FFX0 ad co))) := rfl
theorem xvX0_0 {ad : Nat → Nat} {co : Ob} : (FFX0 ad co)[0]? = some (.ref (ad 8)) := rfl
theorem xvX0_1 {ad : Nat → Nat} {co : Ob} : (FFX0 ad co)[1]? = some (.ref (ad 9)) := rfl
theorem xvX0_2 {ad : Nat → Nat} {co : Ob} : (FFX0 ad co)[2]? = some (.ref (ad 10)) := rfl
theorem xvX0_3 {ad : Nat → Nat} {co : Ob} : (FFX0 ad co)[3]? = some (.ref (ad 11)) := rfl
theorem xvX0_4 {ad : Nat → Nat} {co : Ob} {v : Int32} (h : gi co 0 = v) : (FFX0 ad co)[4]? = some (.int v) := by subst h; rfl
theorem xpX0_4 {ad : Nat → Nat} {cI cJ : ClassId} {co fl ra li re wa pi : Ob} {v : Int32} : (XW ad cI cJ co fl ra li re wa pi).set 1 (ad 1, .inr (0, (FFX0 ad co).set 4 (.int v))) = (XW ad cI cJ (si co 0 v) fl ra li re wa pi) := by
  unfold XW FFX0
  simp only [List.set_cons_succ, List.set_cons_zero, gi_sl, gi_sA, gi_sB, gi_si_s, gi_si_n, gl_si, gl_sA, gl_sB, gl_sl_s, gl_sl_n, gA_si, gA_sl, gA_sB, gA_sA_s, gA_sA_n, gB_si, gB_sl, gB_sA, gB_sB_s, gB_sB_n, Nat.reduceBEq]
theorem xo2 {ad : Nat → Nat} {cI cJ : ClassId} {co fl ra li re wa pi : Ob} : (XW ad cI cJ co fl ra li re wa pi)[2]? = some (ad 2, .inr (1, (FFX1 ad fl))) := rfl
theorem xvX1_0 {ad : Nat → Nat} {fl : Ob} : (FFX1 ad fl)[0]? = some (.ref (ad 12)) := rfl
theorem xvX1_1 {ad : Nat → Nat} {fl : Ob} : (FFX1 ad fl)[1]? = some (.ref (ad 13)) := rfl
theorem xvX1_2 {ad : Nat → Nat} {fl : Ob} : (FFX1 ad fl)[2]? = some (.ref (ad 14)) := rfl
theorem xvX1_3 {ad : Nat → Nat} {fl : Ob} : (FFX1 ad fl)[3]? = some (.ref (ad 15)) := rfl
theorem xvX1_4 {ad : Nat → Nat} {fl : Ob} : (FFX1 ad fl)[4]? = some (.ref (ad 16)) := rfl
theorem xvX1_5 {ad : Nat → Nat} {fl : Ob} : (FFX1 ad fl)[5]? = some (.ref (ad 17)) := rfl
theorem xvX1_6 {ad : Nat → Nat} {fl : Ob} : (FFX1 ad fl)[6]? = some (.ref (ad 18)) := rfl
theorem xvX1_7 {ad : Nat → Nat} {fl : Ob} {v : Int32} (h : gi fl 0 = v) : (FFX1 ad fl)[7]? = some (.int v) := by subst h; rfl
theorem xpX1_7 {ad : Nat → Nat} {cI cJ : ClassId} {co fl ra li re wa pi : Ob} {v : Int32} : (XW ad cI cJ co fl ra li re wa pi).set 2 (ad 2, .inr (1, (FFX1 ad fl).set 7 (.int v))) = (XW ad cI cJ co (si fl 0 v) ra li re wa pi) := by
  unfold XW FFX1
  simp only [List.set_cons_succ, List.set_cons_zero, gi_sl, gi_sA, gi_sB, gi_si_s, gi_si_n, gl_si, gl_sA, gl_sB, gl_sl_s, gl_sl_n, gA_si, gA_sl, gA_sB, gA_sA_s, gA_sA_n, gB_si, gB_sl, gB_sA, gB_sB_s, gB_sB_n, Nat.reduceBEq]
theorem xvX1_8 {ad : Nat → Nat} {fl : Ob} {v : Int32} (h : gi fl 1 = v) : (FFX1 ad fl)[8]? = some (.int v) := by subst h; rfl
theorem xpX1_8 {ad : Nat → Nat} {cI cJ : ClassId} {co fl ra li re wa pi : Ob} {v : Int32} : (XW ad cI cJ co fl ra li re wa pi).set 2 (ad 2, .inr (1, (FFX1 ad fl).set 8 (.int v))) = (XW ad cI cJ co (si fl 1 v) ra li re wa pi) := by
  unfold XW FFX1
  simp only [List.set_cons_succ, List.set_cons_zero, gi_sl, gi_sA, gi_sB, gi_si_s, gi_si_n, gl_si, gl_sA, gl_sB, gl_sl_s, gl_sl_n, gA_si, gA_sl, gA_sB, gA_sA_s, gA_sA_n, gB_si, gB_sl, gB_sA, gB_sB_s, gB_sB_n, Nat.reduceBEq]
theorem xvX1_9 {ad : Nat → Nat} {fl : Ob} {v : Int64} (h : gl fl 0 = v) : (FFX1 ad fl)[9]? = some (.long v) := by subst h; rfl
theorem xpX1_9 {ad : Nat → Nat} {cI cJ : ClassId} {co fl ra li re wa pi : Ob} {v : Int64} : (XW ad cI cJ co fl ra li re wa pi).set 2 (ad 2, .inr (1, (FFX1 ad fl).set 9 (.long v))) = (XW ad cI cJ co (sl fl 0 v) ra li re wa pi) := by
  unfold XW FFX1
  simp only [List.set_cons_succ, List.set_cons_zero, gi_sl, gi_sA, gi_sB, gi_si_s, gi_si_n, gl_si, gl_sA, gl_sB, gl_sl_s, gl_sl_n, gA_si, gA_sl, gA_sB, gA_sA_s, gA_sA_n, gB_si, gB_sl, gB_sA, gB_sB_s, gB_sB_n, Nat.reduceBEq]
theorem xvX1_10 {ad : Nat → Nat} {fl : Ob} {v : Int32} (h : gi fl 2 = v) : (FFX1 ad fl)[10]? = some (.int v) := by subst h; rfl
theorem xpX1_10 {ad : Nat → Nat} {cI cJ : ClassId} {co fl ra li re wa pi : Ob} {v : Int32} : (XW ad cI cJ co fl ra li re wa pi).set 2 (ad 2, .inr (1, (FFX1 ad fl).set 10 (.int v))) = (XW ad cI cJ co (si fl 2 v) ra li re wa pi) := by
  unfold XW FFX1
  simp only [List.set_cons_succ, List.set_cons_zero, gi_sl, gi_sA, gi_sB, gi_si_s, gi_si_n, gl_si, gl_sA, gl_sB, gl_sl_s, gl_sl_n, gA_si, gA_sl, gA_sB, gA_sA_s, gA_sA_n, gB_si, gB_sl, gB_sA, gB_sB_s, gB_sB_n, Nat.reduceBEq]
theorem xo3 {ad : Nat → Nat} {cI cJ : ClassId} {co fl ra li re wa pi : Ob} : (XW ad cI cJ co fl ra li re wa pi)[3]? = some (ad 3, .inr (4, (FFX4 ad ra))) := rfl
theorem xvX4_0 {ad : Nat → Nat} {ra : Ob} : (FFX4 ad ra)[0]? = some (.ref (ad 19)) := rfl
theorem xvX4_1 {ad : Nat → Nat} {ra : Ob} : (FFX4 ad ra)[1]? = some (.ref (ad 20)) := rfl
theorem xvX4_2 {ad : Nat → Nat} {ra : Ob} : (FFX4 ad ra)[2]? = some (.ref (ad 21)) := rfl
theorem xvX4_3 {ad : Nat → Nat} {ra : Ob} : (FFX4 ad ra)[3]? = some (.ref (ad 22)) := rfl
theorem xvX4_4 {ad : Nat → Nat} {ra : Ob} {v : Int32} (h : gi ra 0 = v) : (FFX4 ad ra)[4]? = some (.int v) := by subst h; rfl
theorem xpX4_4 {ad : Nat → Nat} {cI cJ : ClassId} {co fl ra li re wa pi : Ob} {v : Int32} : (XW ad cI cJ co fl ra li re wa pi).set 3 (ad 3, .inr (4, (FFX4 ad ra).set 4 (.int v))) = (XW ad cI cJ co fl (si ra 0 v) li re wa pi) := by
  unfold XW FFX4
  simp only [List.set_cons_succ, List.set_cons_zero, gi_sl, gi_sA, gi_sB, gi_si_s, gi_si_n, gl_si, gl_sA, gl_sB, gl_sl_s, gl_sl_n, gA_si, gA_sl, gA_sB, gA_sA_s, gA_sA_n, gB_si, gB_sl, gB_sA, gB_sB_s, gB_sB_n, Nat.reduceBEq]
theorem xvX4_5 {ad : Nat → Nat} {ra : Ob} {v : Int32} (h : gi ra 1 = v) : (FFX4 ad ra)[5]? = some (.int v) := by subst h; rfl
theorem xpX4_5 {ad : Nat → Nat} {cI cJ : ClassId} {co fl ra li re wa pi : Ob} {v : Int32} : (XW ad cI cJ co fl ra li re wa pi).set 3 (ad 3, .inr (4, (FFX4 ad ra).set 5 (.int v))) = (XW ad cI cJ co fl (si ra 1 v) li re wa pi) := by
  unfold XW FFX4
  simp only [List.set_cons_succ, List.set_cons_zero, gi_sl, gi_sA, gi_sB, gi_si_s, gi_si_n, gl_si, gl_sA, gl_sB, gl_sl_s, gl_sl_n, gA_si, gA_sl, gA_sB, gA_sA_s, gA_sA_n, gB_si, gB_sl, gB_sA, gB_sB_s, gB_sB_n, Nat.reduceBEq]
theorem xvX4_6 {ad : Nat → Nat} {ra : Ob} {v : Int32} (h : gi ra 2 = v) : (FFX4 ad ra)[6]? = some (.int v) := by subst h; rfl
theorem xpX4_6 {ad : Nat → Nat} {cI cJ : ClassId} {co fl ra li re wa pi : Ob} {v : Int32} : (XW ad cI cJ co fl ra li re wa pi).set 3 (ad 3, .inr (4, (FFX4 ad ra).set 6 (.int v))) = (XW ad cI cJ co fl (si ra 2 v) li re wa pi) := by
  unfold XW FFX4
  simp only [List.set_cons_succ, List.set_cons_zero, gi_sl, gi_sA, gi_sB, gi_si_s, gi_si_n, gl_si, gl_sA, gl_sB, gl_sl_s, gl_sl_n, gA_si, gA_sl, gA_sB, gA_sA_s, gA_sA_n, gB_si, gB_sl, gB_sA, gB_sB_s, gB_sB_n, Nat.reduceBEq]
theorem xo4 {ad : Nat → Nat} {cI cJ : ClassId} {co fl ra li re wa pi : Ob} : (XW ad cI cJ co fl ra li re wa pi)[4]? = some (ad 4, .inr (2, (FFX2 ad li))) := rfl
theorem xvX2_0 {ad : Nat → Nat} {li : Ob} : (FFX2 ad li)[0]? = some (.ref (ad 23)) := rfl
theorem xvX2_1 {ad : Nat → Nat} {li : Ob} {v : Int32} (h : gi li 0 = v) : (FFX2 ad li)[1]? = some (.int v) := by subst h; rfl
theorem xpX2_1 {ad : Nat → Nat} {cI cJ : ClassId} {co fl ra li re wa pi : Ob} {v : Int32} : (XW ad cI cJ co fl ra li re wa pi).set 4 (ad 4, .inr (2, (FFX2 ad li).set 1 (.int v))) = (XW ad cI cJ co fl ra (si li 0 v) re wa pi) := by
  unfold XW FFX2
  simp only [List.set_cons_succ, List.set_cons_zero, gi_sl, gi_sA, gi_sB, gi_si_s, gi_si_n, gl_si, gl_sA, gl_sB, gl_sl_s, gl_sl_n, gA_si, gA_sl, gA_sB, gA_sA_s, gA_sA_n, gB_si, gB_sl, gB_sA, gB_sB_s, gB_sB_n, Nat.reduceBEq]
theorem xvX2_2 {ad : Nat → Nat} {li : Ob} {v : Int32} (h : gi li 1 = v) : (FFX2 ad li)[2]? = some (.int v) := by subst h; rfl
theorem xpX2_2 {ad : Nat → Nat} {cI cJ : ClassId} {co fl ra li re wa pi : Ob} {v : Int32} : (XW ad cI cJ co fl ra li re wa pi).set 4 (ad 4, .inr (2, (FFX2 ad li).set 2 (.int v))) = (XW ad cI cJ co fl ra (si li 1 v) re wa pi) := by
  unfold XW FFX2
  simp only [List.set_cons_succ, List.set_cons_zero, gi_sl, gi_sA, gi_sB, gi_si_s, gi_si_n, gl_si, gl_sA, gl_sB, gl_sl_s, gl_sl_n, gA_si, gA_sl, gA_sB, gA_sA_s, gA_sA_n, gB_si, gB_sl, gB_sA, gB_sB_s, gB_sB_n, Nat.reduceBEq]
theorem xo5 {ad : Nat → Nat} {cI cJ : ClassId} {co fl ra li re wa pi : Ob} : (XW ad cI cJ co fl ra li re wa pi)[5]? = some (ad 5, .inr (5, (FFX5 ad re))) := rfl
theorem xvX5_0 {ad : Nat → Nat} {re : Ob} : (FFX5 ad re)[0]? = some (.ref (ad 24)) := rfl
theorem xvX5_1 {ad : Nat → Nat} {re : Ob} : (FFX5 ad re)[1]? = some (.ref (ad 25)) := rfl
theorem xvX5_2 {ad : Nat → Nat} {re : Ob} : (FFX5 ad re)[2]? = some (.ref (ad 26)) := rfl
theorem xvX5_3 {ad : Nat → Nat} {re : Ob} : (FFX5 ad re)[3]? = some (.ref (ad 27)) := rfl
theorem xvX5_4 {ad : Nat → Nat} {re : Ob} : (FFX5 ad re)[4]? = some (.ref (ad 28)) := rfl
theorem xvX5_5 {ad : Nat → Nat} {re : Ob} {v : Int64} (h : gl re 0 = v) : (FFX5 ad re)[5]? = some (.long v) := by subst h; rfl
theorem xpX5_5 {ad : Nat → Nat} {cI cJ : ClassId} {co fl ra li re wa pi : Ob} {v : Int64} : (XW ad cI cJ co fl ra li re wa pi).set 5 (ad 5, .inr (5, (FFX5 ad re).set 5 (.long v))) = (XW ad cI cJ co fl ra li (sl re 0 v) wa pi) := by
  unfold XW FFX5
  simp only [List.set_cons_succ, List.set_cons_zero, gi_sl, gi_sA, gi_sB, gi_si_s, gi_si_n, gl_si, gl_sA, gl_sB, gl_sl_s, gl_sl_n, gA_si, gA_sl, gA_sB, gA_sA_s, gA_sA_n, gB_si, gB_sl, gB_sA, gB_sB_s, gB_sB_n, Nat.reduceBEq]
theorem xvX5_6 {ad : Nat → Nat} {re : Ob} {v : Int32} (h : gi re 0 = v) : (FFX5 ad re)[6]? = some (.int v) := by subst h; rfl
theorem xpX5_6 {ad : Nat → Nat} {cI cJ : ClassId} {co fl ra li re wa pi : Ob} {v : Int32} : (XW ad cI cJ co fl ra li re wa pi).set 5 (ad 5, .inr (5, (FFX5 ad re).set 6 (.int v))) = (XW ad cI cJ co fl ra li (si re 0 v) wa pi) := by
  unfold XW FFX5
  simp only [List.set_cons_succ, List.set_cons_zero, gi_sl, gi_sA, gi_sB, gi_si_s, gi_si_n, gl_si, gl_sA, gl_sB, gl_sl_s, gl_sl_n, gA_si, gA_sl, gA_sB, gA_sA_s, gA_sA_n, gB_si, gB_sl, gB_sA, gB_sB_s, gB_sB_n, Nat.reduceBEq]
theorem xvX5_7 {ad : Nat → Nat} {re : Ob} {v : Int32} (h : gi re 1 = v) : (FFX5 ad re)[7]? = some (.int v) := by subst h; rfl
theorem xpX5_7 {ad : Nat → Nat} {cI cJ : ClassId} {co fl ra li re wa pi : Ob} {v : Int32} : (XW ad cI cJ co fl ra li re wa pi).set 5 (ad 5, .inr (5, (FFX5 ad re).set 7 (.int v))) = (XW ad cI cJ co fl ra li (si re 1 v) wa pi) := by
  unfold XW FFX5
  simp only [List.set_cons_succ, List.set_cons_zero, gi_sl, gi_sA, gi_sB, gi_si_s, gi_si_n, gl_si, gl_sA, gl_sB, gl_sl_s, gl_sl_n, gA_si, gA_sl, gA_sB, gA_sA_s, gA_sA_n, gB_si, gB_sl, gB_sA, gB_sB_s, gB_sB_n, Nat.reduceBEq]
theorem xo6 {ad : Nat → Nat} {cI cJ : ClassId} {co fl ra li re wa pi : Ob} : (XW ad cI cJ co fl ra li re wa pi)[6]? = some (ad 6, .inr (3, (FFX3 ad pi))) := rfl
theorem xvX3_0 {ad : Nat → Nat} {pi : Ob} : (FFX3 ad pi)[0]? = some (.ref (ad 7)) := rfl
theorem xvX3_1 {ad : Nat → Nat} {pi : Ob} : (FFX3 ad pi)[1]? = some (.ref (ad 34)) := rfl
theorem xvX3_2 {ad : Nat → Nat} {pi : Ob} : (FFX3 ad pi)[2]? = some (.ref (ad 35)) := rfl
theorem xvX3_3 {ad : Nat → Nat} {pi : Ob} : (FFX3 ad pi)[3]? = some (.ref (ad 36)) := rfl
theorem xvX3_4 {ad : Nat → Nat} {pi : Ob} : (FFX3 ad pi)[4]? = some (.ref (ad 37)) := rfl
theorem xvX3_5 {ad : Nat → Nat} {pi : Ob} : (FFX3 ad pi)[5]? = some (.ref (ad 38)) := rfl
theorem xvX3_6 {ad : Nat → Nat} {pi : Ob} : (FFX3 ad pi)[6]? = some (.ref (ad 39)) := rfl
theorem xvX3_7 {ad : Nat → Nat} {pi : Ob} : (FFX3 ad pi)[7]? = some (.ref (ad 40)) := rfl
theorem xvX3_8 {ad : Nat → Nat} {pi : Ob} : (FFX3 ad pi)[8]? = some (.ref (ad 41)) := rfl
theorem xvX3_9 {ad : Nat → Nat} {pi : Ob} : (FFX3 ad pi)[9]? = some (.ref (ad 42)) := rfl
theorem xvX3_10 {ad : Nat → Nat} {pi : Ob} : (FFX3 ad pi)[10]? = some (.ref (ad 43)) := rfl
theorem xvX3_11 {ad : Nat → Nat} {pi : Ob} : (FFX3 ad pi)[11]? = some (.ref (ad 44)) := rfl
theorem xvX3_12 {ad : Nat → Nat} {pi : Ob} {v : Int32} (h : gi pi 0 = v) : (FFX3 ad pi)[12]? = some (.int v) := by subst h; rfl
theorem xpX3_12 {ad : Nat → Nat} {cI cJ : ClassId} {co fl ra li re wa pi : Ob} {v : Int32} : (XW ad cI cJ co fl ra li re wa pi).set 6 (ad 6, .inr (3, (FFX3 ad pi).set 12 (.int v))) = (XW ad cI cJ co fl ra li re wa (si pi 0 v)) := by
  unfold XW FFX3
  simp only [List.set_cons_succ, List.set_cons_zero, gi_sl, gi_sA, gi_sB, gi_si_s, gi_si_n, gl_si, gl_sA, gl_sB, gl_sl_s, gl_sl_n, gA_si, gA_sl, gA_sB, gA_sA_s, gA_sA_n, gB_si, gB_sl, gB_sA, gB_sB_s, gB_sB_n, Nat.reduceBEq]
theorem xvX3_13 {ad : Nat → Nat} {pi : Ob} {v : Int32} (h : gi pi 1 = v) : (FFX3 ad pi)[13]? = some (.int v) := by subst h; rfl
theorem xpX3_13 {ad : Nat → Nat} {cI cJ : ClassId} {co fl ra li re wa pi : Ob} {v : Int32} : (XW ad cI cJ co fl ra li re wa pi).set 6 (ad 6, .inr (3, (FFX3 ad pi).set 13 (.int v))) = (XW ad cI cJ co fl ra li re wa (si pi 1 v)) := by
  unfold XW FFX3
  simp only [List.set_cons_succ, List.set_cons_zero, gi_sl, gi_sA, gi_sB, gi_si_s, gi_si_n, gl_si, gl_sA, gl_sB, gl_sl_s, gl_sl_n, gA_si, gA_sl, gA_sB, gA_sA_s, gA_sA_n, gB_si, gB_sl, gB_sA, gB_sB_s, gB_sB_n, Nat.reduceBEq]
theorem xvX3_14 {ad : Nat → Nat} {pi : Ob} {v : Int32} (h : gi pi 2 = v) : (FFX3 ad pi)[14]? = some (.int v) := by subst h; rfl
theorem xpX3_14 {ad : Nat → Nat} {cI cJ : ClassId} {co fl ra li re wa pi : Ob} {v : Int32} : (XW ad cI cJ co fl ra li re wa pi).set 6 (ad 6, .inr (3, (FFX3 ad pi).set 14 (.int v))) = (XW ad cI cJ co fl ra li re wa (si pi 2 v)) := by
  unfold XW FFX3
  simp only [List.set_cons_succ, List.set_cons_zero, gi_sl, gi_sA, gi_sB, gi_si_s, gi_si_n, gl_si, gl_sA, gl_sB, gl_sl_s, gl_sl_n, gA_si, gA_sl, gA_sB, gA_sA_s, gA_sA_n, gB_si, gB_sl, gB_sA, gB_sB_s, gB_sB_n, Nat.reduceBEq]
theorem xvX3_15 {ad : Nat → Nat} {pi : Ob} {v : Int32} (h : gi pi 3 = v) : (FFX3 ad pi)[15]? = some (.int v) := by subst h; rfl
theorem xpX3_15 {ad : Nat → Nat} {cI cJ : ClassId} {co fl ra li re wa pi : Ob} {v : Int32} : (XW ad cI cJ co fl ra li re wa pi).set 6 (ad 6, .inr (3, (FFX3 ad pi).set 15 (.int v))) = (XW ad cI cJ co fl ra li re wa (si pi 3 v)) := by
  unfold XW FFX3
  simp only [List.set_cons_succ, List.set_cons_zero, gi_sl, gi_sA, gi_sB, gi_si_s, gi_si_n, gl_si, gl_sA, gl_sB, gl_sl_s, gl_sl_n, gA_si, gA_sl, gA_sB, gA_sA_s, gA_sA_n, gB_si, gB_sl, gB_sA, gB_sB_s, gB_sB_n, Nat.reduceBEq]
theorem xo7 {ad : Nat → Nat} {cI cJ : ClassId} {co fl ra li re wa pi : Ob} : (XW ad cI cJ co fl ra li re wa pi)[7]? = some (ad 7, .inr (6, (FFX6 ad wa))) := rfl
theorem xvX6_0 {ad : Nat → Nat} {wa : Ob} : (FFX6 ad wa)[0]? = some (.ref (ad 29)) := rfl
theorem xvX6_1 {ad : Nat → Nat} {wa : Ob} : (FFX6 ad wa)[1]? = some (.ref (ad 30)) := rfl
theorem xvX6_2 {ad : Nat → Nat} {wa : Ob} : (FFX6 ad wa)[2]? = some (.ref (ad 31)) := rfl
theorem xvX6_3 {ad : Nat → Nat} {wa : Ob} : (FFX6 ad wa)[3]? = some (.ref (ad 32)) := rfl
theorem xvX6_4 {ad : Nat → Nat} {wa : Ob} : (FFX6 ad wa)[4]? = some (.ref (ad 33)) := rfl
theorem xvX6_5 {ad : Nat → Nat} {wa : Ob} {v : Int32} (h : gi wa 0 = v) : (FFX6 ad wa)[5]? = some (.int v) := by subst h; rfl
theorem xpX6_5 {ad : Nat → Nat} {cI cJ : ClassId} {co fl ra li re wa pi : Ob} {v : Int32} : (XW ad cI cJ co fl ra li re wa pi).set 7 (ad 7, .inr (6, (FFX6 ad wa).set 5 (.int v))) = (XW ad cI cJ co fl ra li re (si wa 0 v) pi) := by
  unfold XW FFX6
  simp only [List.set_cons_succ, List.set_cons_zero, gi_sl, gi_sA, gi_sB, gi_si_s, gi_si_n, gl_si, gl_sA, gl_sB, gl_sl_s, gl_sl_n, gA_si, gA_sl, gA_sB, gA_sA_s, gA_sA_n, gB_si, gB_sl, gB_sA, gB_sB_s, gB_sB_n, Nat.reduceBEq]
theorem xvX6_6 {ad : Nat → Nat} {wa : Ob} {v : Int32} (h : gi wa 1 = v) : (FFX6 ad wa)[6]? = some (.int v) := by subst h; rfl
theorem xpX6_6 {ad : Nat → Nat} {cI cJ : ClassId} {co fl ra li re wa pi : Ob} {v : Int32} : (XW ad cI cJ co fl ra li re wa pi).set 7 (ad 7, .inr (6, (FFX6 ad wa).set 6 (.int v))) = (XW ad cI cJ co fl ra li re (si wa 1 v) pi) := by
  unfold XW FFX6
  simp only [List.set_cons_succ, List.set_cons_zero, gi_sl, gi_sA, gi_sB, gi_si_s, gi_si_n, gl_si, gl_sA, gl_sB, gl_sl_s, gl_sl_n, gA_si, gA_sl, gA_sB, gA_sA_s, gA_sA_n, gB_si, gB_sl, gB_sA, gB_sB_s, gB_sB_n, Nat.reduceBEq]
theorem xvX6_7 {ad : Nat → Nat} {wa : Ob} {v : Int64} (h : gl wa 0 = v) : (FFX6 ad wa)[7]? = some (.long v) := by subst h; rfl
theorem xpX6_7 {ad : Nat → Nat} {cI cJ : ClassId} {co fl ra li re wa pi : Ob} {v : Int64} : (XW ad cI cJ co fl ra li re wa pi).set 7 (ad 7, .inr (6, (FFX6 ad wa).set 7 (.long v))) = (XW ad cI cJ co fl ra li re (sl wa 0 v) pi) := by
  unfold XW FFX6
  simp only [List.set_cons_succ, List.set_cons_zero, gi_sl, gi_sA, gi_sB, gi_si_s, gi_si_n, gl_si, gl_sA, gl_sB, gl_sl_s, gl_sl_n, gA_si, gA_sl, gA_sB, gA_sA_s, gA_sA_n, gB_si, gB_sl, gB_sA, gB_sB_s, gB_sB_n, Nat.reduceBEq]
theorem xvX6_8 {ad : Nat → Nat} {wa : Ob} {v : Int64} (h : gl wa 1 = v) : (FFX6 ad wa)[8]? = some (.long v) := by subst h; rfl
theorem xpX6_8 {ad : Nat → Nat} {cI cJ : ClassId} {co fl ra li re wa pi : Ob} {v : Int64} : (XW ad cI cJ co fl ra li re wa pi).set 7 (ad 7, .inr (6, (FFX6 ad wa).set 8 (.long v))) = (XW ad cI cJ co fl ra li re (sl wa 1 v) pi) := by
  unfold XW FFX6
  simp only [List.set_cons_succ, List.set_cons_zero, gi_sl, gi_sA, gi_sB, gi_si_s, gi_si_n, gl_si, gl_sA, gl_sB, gl_sl_s, gl_sl_n, gA_si, gA_sl, gA_sB, gA_sA_s, gA_sA_n, gB_si, gB_sl, gB_sA, gB_sB_s, gB_sB_n, Nat.reduceBEq]
theorem xg8 {ad : Nat → Nat} {cI cJ : ClassId} {co fl ra li re wa pi : Ob} {f : Nat → Int32} (h : gA co 0 = f) : (XW ad cI cJ co fl ra li re wa pi)[8]? = some (ad 8, .inl (cI, 40, .inl f)) := by subst h; rfl
theorem xs8 {ad : Nat → Nat} {cI cJ : ClassId} {co fl ra li re wa pi : Ob} {f : Nat → Int32} : (XW ad cI cJ co fl ra li re wa pi).set 8 (ad 8, .inl (cI, 40, .inl f)) = (XW ad cI cJ (sA co 0 f) fl ra li re wa pi) := by
  unfold XW FFX0
  simp only [List.set_cons_succ, List.set_cons_zero, gi_sl, gi_sA, gi_sB, gi_si_s, gi_si_n, gl_si, gl_sA, gl_sB, gl_sl_s, gl_sl_n, gA_si, gA_sl, gA_sB, gA_sA_s, gA_sA_n, gB_si, gB_sl, gB_sA, gB_sB_s, gB_sB_n, Nat.reduceBEq]
theorem xg9 {ad : Nat → Nat} {cI cJ : ClassId} {co fl ra li re wa pi : Ob} {f : Nat → Int32} (h : gA co 1 = f) : (XW ad cI cJ co fl ra li re wa pi)[9]? = some (ad 9, .inl (cI, 40, .inl f)) := by subst h; rfl
theorem xs9 {ad : Nat → Nat} {cI cJ : ClassId} {co fl ra li re wa pi : Ob} {f : Nat → Int32} : (XW ad cI cJ co fl ra li re wa pi).set 9 (ad 9, .inl (cI, 40, .inl f)) = (XW ad cI cJ (sA co 1 f) fl ra li re wa pi) := by
  unfold XW FFX0
  simp only [List.set_cons_succ, List.set_cons_zero, gi_sl, gi_sA, gi_sB, gi_si_s, gi_si_n, gl_si, gl_sA, gl_sB, gl_sl_s, gl_sl_n, gA_si, gA_sl, gA_sB, gA_sA_s, gA_sA_n, gB_si, gB_sl, gB_sA, gB_sB_s, gB_sB_n, Nat.reduceBEq]
theorem xg10 {ad : Nat → Nat} {cI cJ : ClassId} {co fl ra li re wa pi : Ob} {f : Nat → Int32} (h : gA co 2 = f) : (XW ad cI cJ co fl ra li re wa pi)[10]? = some (ad 10, .inl (cI, 40, .inl f)) := by subst h; rfl
theorem xs10 {ad : Nat → Nat} {cI cJ : ClassId} {co fl ra li re wa pi : Ob} {f : Nat → Int32} : (XW ad cI cJ co fl ra li re wa pi).set 10 (ad 10, .inl (cI, 40, .inl f)) = (XW ad cI cJ (sA co 2 f) fl ra li re wa pi) := by
  unfold XW FFX0
  simp only [List.set_cons_succ, List.set_cons_zero, gi_sl, gi_sA, gi_sB, gi_si_s, gi_si_n, gl_si, gl_sA, gl_sB, gl_sl_s, gl_sl_n, gA_si, gA_sl, gA_sB, gA_sA_s, gA_sA_n, gB_si, gB_sl, gB_sA, gB_sB_s, gB_sB_n, Nat.reduceBEq]
theorem xg11 {ad : Nat → Nat} {cI cJ : ClassId} {co fl ra li re wa pi : Ob} {f : Nat → Int32} (h : gA co 3 = f) : (XW ad cI cJ co fl ra li re wa pi)[11]? = some (ad 11, .inl (cI, 40, .inl f)) := by subst h; rfl
theorem xs11 {ad : Nat → Nat} {cI cJ : ClassId} {co fl ra li re wa pi : Ob} {f : Nat → Int32} : (XW ad cI cJ co fl ra li re wa pi).set 11 (ad 11, .inl (cI, 40, .inl f)) = (XW ad cI cJ (sA co 3 f) fl ra li re wa pi) := by
  unfold XW FFX0
  simp only [List.set_cons_succ, List.set_cons_zero, gi_sl, gi_sA, gi_sB, gi_si_s, gi_si_n, gl_si, gl_sA, gl_sB, gl_sl_s, gl_sl_n, gA_si, gA_sl, gA_sB, gA_sA_s, gA_sA_n, gB_si, gB_sl, gB_sA, gB_sB_s, gB_sB_n, Nat.reduceBEq]
theorem xg12 {ad : Nat → Nat} {cI cJ : ClassId} {co fl ra li re wa pi : Ob} {f : Nat → Int32} (h : gA fl 0 = f) : (XW ad cI cJ co fl ra li re wa pi)[12]? = some (ad 12, .inl (cI, 40, .inl f)) := by subst h; rfl
theorem xs12 {ad : Nat → Nat} {cI cJ : ClassId} {co fl ra li re wa pi : Ob} {f : Nat → Int32} : (XW ad cI cJ co fl ra li re wa pi).set 12 (ad 12, .inl (cI, 40, .inl f)) = (XW ad cI cJ co (sA fl 0 f) ra li re wa pi) := by
  unfold XW FFX1
  simp only [List.set_cons_succ, List.set_cons_zero, gi_sl, gi_sA, gi_sB, gi_si_s, gi_si_n, gl_si, gl_sA, gl_sB, gl_sl_s, gl_sl_n, gA_si, gA_sl, gA_sB, gA_sA_s, gA_sA_n, gB_si, gB_sl, gB_sA, gB_sB_s, gB_sB_n, Nat.reduceBEq]
theorem xg13 {ad : Nat → Nat} {cI cJ : ClassId} {co fl ra li re wa pi : Ob} {f : Nat → Int32} (h : gA fl 1 = f) : (XW ad cI cJ co fl ra li re wa pi)[13]? = some (ad 13, .inl (cI, 40, .inl f)) := by subst h; rfl
theorem xs13 {ad : Nat → Nat} {cI cJ : ClassId} {co fl ra li re wa pi : Ob} {f : Nat → Int32} : (XW ad cI cJ co fl ra li re wa pi).set 13 (ad 13, .inl (cI, 40, .inl f)) = (XW ad cI cJ co (sA fl 1 f) ra li re wa pi) := by
  unfold XW FFX1
  simp only [List.set_cons_succ, List.set_cons_zero, gi_sl, gi_sA, gi_sB, gi_si_s, gi_si_n, gl_si, gl_sA, gl_sB, gl_sl_s, gl_sl_n, gA_si, gA_sl, gA_sB, gA_sA_s, gA_sA_n, gB_si, gB_sl, gB_sA, gB_sB_s, gB_sB_n, Nat.reduceBEq]
theorem xg14 {ad : Nat → Nat} {cI cJ : ClassId} {co fl ra li re wa pi : Ob} {f : Nat → Int32} (h : gA fl 2 = f) : (XW ad cI cJ co fl ra li re wa pi)[14]? = some (ad 14, .inl (cI, 40, .inl f)) := by subst h; rfl
theorem xs14 {ad : Nat → Nat} {cI cJ : ClassId} {co fl ra li re wa pi : Ob} {f : Nat → Int32} : (XW ad cI cJ co fl ra li re wa pi).set 14 (ad 14, .inl (cI, 40, .inl f)) = (XW ad cI cJ co (sA fl 2 f) ra li re wa pi) := by
  unfold XW FFX1
  simp only [List.set_cons_succ, List.set_cons_zero, gi_sl, gi_sA, gi_sB, gi_si_s, gi_si_n, gl_si, gl_sA, gl_sB, gl_sl_s, gl_sl_n, gA_si, gA_sl, gA_sB, gA_sA_s, gA_sA_n, gB_si, gB_sl, gB_sA, gB_sB_s, gB_sB_n, Nat.reduceBEq]
theorem xg15 {ad : Nat → Nat} {cI cJ : ClassId} {co fl ra li re wa pi : Ob} {f : Nat → Int32} (h : gA fl 3 = f) : (XW ad cI cJ co fl ra li re wa pi)[15]? = some (ad 15, .inl (cI, 80, .inl f)) := by subst h; rfl
theorem xs15 {ad : Nat → Nat} {cI cJ : ClassId} {co fl ra li re wa pi : Ob} {f : Nat → Int32} : (XW ad cI cJ co fl ra li re wa pi).set 15 (ad 15, .inl (cI, 80, .inl f)) = (XW ad cI cJ co (sA fl 3 f) ra li re wa pi) := by
  unfold XW FFX1
  simp only [List.set_cons_succ, List.set_cons_zero, gi_sl, gi_sA, gi_sB, gi_si_s, gi_si_n, gl_si, gl_sA, gl_sB, gl_sl_s, gl_sl_n, gA_si, gA_sl, gA_sB, gA_sA_s, gA_sA_n, gB_si, gB_sl, gB_sA, gB_sB_s, gB_sB_n, Nat.reduceBEq]
theorem xg16 {ad : Nat → Nat} {cI cJ : ClassId} {co fl ra li re wa pi : Ob} {f : Nat → Int32} (h : gA fl 4 = f) : (XW ad cI cJ co fl ra li re wa pi)[16]? = some (ad 16, .inl (cI, 80, .inl f)) := by subst h; rfl
theorem xs16 {ad : Nat → Nat} {cI cJ : ClassId} {co fl ra li re wa pi : Ob} {f : Nat → Int32} : (XW ad cI cJ co fl ra li re wa pi).set 16 (ad 16, .inl (cI, 80, .inl f)) = (XW ad cI cJ co (sA fl 4 f) ra li re wa pi) := by
  unfold XW FFX1
  simp only [List.set_cons_succ, List.set_cons_zero, gi_sl, gi_sA, gi_sB, gi_si_s, gi_si_n, gl_si, gl_sA, gl_sB, gl_sl_s, gl_sl_n, gA_si, gA_sl, gA_sB, gA_sA_s, gA_sA_n, gB_si, gB_sl, gB_sA, gB_sB_s, gB_sB_n, Nat.reduceBEq]
theorem xg17 {ad : Nat → Nat} {cI cJ : ClassId} {co fl ra li re wa pi : Ob} {f : Nat → Int32} (h : gA fl 5 = f) : (XW ad cI cJ co fl ra li re wa pi)[17]? = some (ad 17, .inl (cI, 41, .inl f)) := by subst h; rfl
theorem xs17 {ad : Nat → Nat} {cI cJ : ClassId} {co fl ra li re wa pi : Ob} {f : Nat → Int32} : (XW ad cI cJ co fl ra li re wa pi).set 17 (ad 17, .inl (cI, 41, .inl f)) = (XW ad cI cJ co (sA fl 5 f) ra li re wa pi) := by
  unfold XW FFX1
  simp only [List.set_cons_succ, List.set_cons_zero, gi_sl, gi_sA, gi_sB, gi_si_s, gi_si_n, gl_si, gl_sA, gl_sB, gl_sl_s, gl_sl_n, gA_si, gA_sl, gA_sB, gA_sA_s, gA_sA_n, gB_si, gB_sl, gB_sA, gB_sB_s, gB_sB_n, Nat.reduceBEq]
theorem xg18 {ad : Nat → Nat} {cI cJ : ClassId} {co fl ra li re wa pi : Ob} {f : Nat → Int64} (h : gB fl 0 = f) : (XW ad cI cJ co fl ra li re wa pi)[18]? = some (ad 18, .inl (cJ, 40, .inr (.inl f))) := by subst h; rfl
theorem xs18 {ad : Nat → Nat} {cI cJ : ClassId} {co fl ra li re wa pi : Ob} {f : Nat → Int64} : (XW ad cI cJ co fl ra li re wa pi).set 18 (ad 18, .inl (cJ, 40, .inr (.inl f))) = (XW ad cI cJ co (sB fl 0 f) ra li re wa pi) := by
  unfold XW FFX1
  simp only [List.set_cons_succ, List.set_cons_zero, gi_sl, gi_sA, gi_sB, gi_si_s, gi_si_n, gl_si, gl_sA, gl_sB, gl_sl_s, gl_sl_n, gA_si, gA_sl, gA_sB, gA_sA_s, gA_sA_n, gB_si, gB_sl, gB_sA, gB_sB_s, gB_sB_n, Nat.reduceBEq]
theorem xg19 {ad : Nat → Nat} {cI cJ : ClassId} {co fl ra li re wa pi : Ob} {f : Nat → Int64} (h : gB ra 0 = f) : (XW ad cI cJ co fl ra li re wa pi)[19]? = some (ad 19, .inl (cJ, 40, .inr (.inl f))) := by subst h; rfl
theorem xs19 {ad : Nat → Nat} {cI cJ : ClassId} {co fl ra li re wa pi : Ob} {f : Nat → Int64} : (XW ad cI cJ co fl ra li re wa pi).set 19 (ad 19, .inl (cJ, 40, .inr (.inl f))) = (XW ad cI cJ co fl (sB ra 0 f) li re wa pi) := by
  unfold XW FFX4
  simp only [List.set_cons_succ, List.set_cons_zero, gi_sl, gi_sA, gi_sB, gi_si_s, gi_si_n, gl_si, gl_sA, gl_sB, gl_sl_s, gl_sl_n, gA_si, gA_sl, gA_sB, gA_sA_s, gA_sA_n, gB_si, gB_sl, gB_sA, gB_sB_s, gB_sB_n, Nat.reduceBEq]
theorem xg20 {ad : Nat → Nat} {cI cJ : ClassId} {co fl ra li re wa pi : Ob} {f : Nat → Int64} (h : gB ra 1 = f) : (XW ad cI cJ co fl ra li re wa pi)[20]? = some (ad 20, .inl (cJ, 40, .inr (.inl f))) := by subst h; rfl
theorem xs20 {ad : Nat → Nat} {cI cJ : ClassId} {co fl ra li re wa pi : Ob} {f : Nat → Int64} : (XW ad cI cJ co fl ra li re wa pi).set 20 (ad 20, .inl (cJ, 40, .inr (.inl f))) = (XW ad cI cJ co fl (sB ra 1 f) li re wa pi) := by
  unfold XW FFX4
  simp only [List.set_cons_succ, List.set_cons_zero, gi_sl, gi_sA, gi_sB, gi_si_s, gi_si_n, gl_si, gl_sA, gl_sB, gl_sl_s, gl_sl_n, gA_si, gA_sl, gA_sB, gA_sA_s, gA_sA_n, gB_si, gB_sl, gB_sA, gB_sB_s, gB_sB_n, Nat.reduceBEq]
theorem xg21 {ad : Nat → Nat} {cI cJ : ClassId} {co fl ra li re wa pi : Ob} {f : Nat → Int64} (h : gB ra 2 = f) : (XW ad cI cJ co fl ra li re wa pi)[21]? = some (ad 21, .inl (cJ, 40, .inr (.inl f))) := by subst h; rfl
theorem xs21 {ad : Nat → Nat} {cI cJ : ClassId} {co fl ra li re wa pi : Ob} {f : Nat → Int64} : (XW ad cI cJ co fl ra li re wa pi).set 21 (ad 21, .inl (cJ, 40, .inr (.inl f))) = (XW ad cI cJ co fl (sB ra 2 f) li re wa pi) := by
  unfold XW FFX4
  simp only [List.set_cons_succ, List.set_cons_zero, gi_sl, gi_sA, gi_sB, gi_si_s, gi_si_n, gl_si, gl_sA, gl_sB, gl_sl_s, gl_sl_n, gA_si, gA_sl, gA_sB, gA_sA_s, gA_sA_n, gB_si, gB_sl, gB_sA, gB_sB_s, gB_sB_n, Nat.reduceBEq]
theorem xg22 {ad : Nat → Nat} {cI cJ : ClassId} {co fl ra li re wa pi : Ob} {f : Nat → Int64} (h : gB ra 3 = f) : (XW ad cI cJ co fl ra li re wa pi)[22]? = some (ad 22, .inl (cJ, 40, .inr (.inl f))) := by subst h; rfl
theorem xs22 {ad : Nat → Nat} {cI cJ : ClassId} {co fl ra li re wa pi : Ob} {f : Nat → Int64} : (XW ad cI cJ co fl ra li re wa pi).set 22 (ad 22, .inl (cJ, 40, .inr (.inl f))) = (XW ad cI cJ co fl (sB ra 3 f) li re wa pi) := by
  unfold XW FFX4
  simp only [List.set_cons_succ, List.set_cons_zero, gi_sl, gi_sA, gi_sB, gi_si_s, gi_si_n, gl_si, gl_sA, gl_sB, gl_sl_s, gl_sl_n, gA_si, gA_sl, gA_sB, gA_sA_s, gA_sA_n, gB_si, gB_sl, gB_sA, gB_sB_s, gB_sB_n, Nat.reduceBEq]
theorem xg23 {ad : Nat → Nat} {cI cJ : ClassId} {co fl ra li re wa pi : Ob} {f : Nat → Int32} (h : gA li 0 = f) : (XW ad cI cJ co fl ra li re wa pi)[23]? = some (ad 23, .inl (cI, 40, .inl f)) := by subst h; rfl
theorem xs23 {ad : Nat → Nat} {cI cJ : ClassId} {co fl ra li re wa pi : Ob} {f : Nat → Int32} : (XW ad cI cJ co fl ra li re wa pi).set 23 (ad 23, .inl (cI, 40, .inl f)) = (XW ad cI cJ co fl ra (sA li 0 f) re wa pi) := by
  unfold XW FFX2
  simp only [List.set_cons_succ, List.set_cons_zero, gi_sl, gi_sA, gi_sB, gi_si_s, gi_si_n, gl_si, gl_sA, gl_sB, gl_sl_s, gl_sl_n, gA_si, gA_sl, gA_sB, gA_sA_s, gA_sA_n, gB_si, gB_sl, gB_sA, gB_sB_s, gB_sB_n, Nat.reduceBEq]
theorem xg24 {ad : Nat → Nat} {cI cJ : ClassId} {co fl ra li re wa pi : Ob} {f : Nat → Int64} (h : gB re 0 = f) : (XW ad cI cJ co fl ra li re wa pi)[24]? = some (ad 24, .inl (cJ, 40, .inr (.inl f))) := by subst h; rfl
theorem xs24 {ad : Nat → Nat} {cI cJ : ClassId} {co fl ra li re wa pi : Ob} {f : Nat → Int64} : (XW ad cI cJ co fl ra li re wa pi).set 24 (ad 24, .inl (cJ, 40, .inr (.inl f))) = (XW ad cI cJ co fl ra li (sB re 0 f) wa pi) := by
  unfold XW FFX5
  simp only [List.set_cons_succ, List.set_cons_zero, gi_sl, gi_sA, gi_sB, gi_si_s, gi_si_n, gl_si, gl_sA, gl_sB, gl_sl_s, gl_sl_n, gA_si, gA_sl, gA_sB, gA_sA_s, gA_sA_n, gB_si, gB_sl, gB_sA, gB_sB_s, gB_sB_n, Nat.reduceBEq]
theorem xg25 {ad : Nat → Nat} {cI cJ : ClassId} {co fl ra li re wa pi : Ob} {f : Nat → Int32} (h : gA re 0 = f) : (XW ad cI cJ co fl ra li re wa pi)[25]? = some (ad 25, .inl (cI, 40, .inl f)) := by subst h; rfl
theorem xs25 {ad : Nat → Nat} {cI cJ : ClassId} {co fl ra li re wa pi : Ob} {f : Nat → Int32} : (XW ad cI cJ co fl ra li re wa pi).set 25 (ad 25, .inl (cI, 40, .inl f)) = (XW ad cI cJ co fl ra li (sA re 0 f) wa pi) := by
  unfold XW FFX5
  simp only [List.set_cons_succ, List.set_cons_zero, gi_sl, gi_sA, gi_sB, gi_si_s, gi_si_n, gl_si, gl_sA, gl_sB, gl_sl_s, gl_sl_n, gA_si, gA_sl, gA_sB, gA_sA_s, gA_sA_n, gB_si, gB_sl, gB_sA, gB_sB_s, gB_sB_n, Nat.reduceBEq]
theorem xg26 {ad : Nat → Nat} {cI cJ : ClassId} {co fl ra li re wa pi : Ob} {f : Nat → Int32} (h : gA re 1 = f) : (XW ad cI cJ co fl ra li re wa pi)[26]? = some (ad 26, .inl (cI, 120, .inl f)) := by subst h; rfl
theorem xs26 {ad : Nat → Nat} {cI cJ : ClassId} {co fl ra li re wa pi : Ob} {f : Nat → Int32} : (XW ad cI cJ co fl ra li re wa pi).set 26 (ad 26, .inl (cI, 120, .inl f)) = (XW ad cI cJ co fl ra li (sA re 1 f) wa pi) := by
  unfold XW FFX5
  simp only [List.set_cons_succ, List.set_cons_zero, gi_sl, gi_sA, gi_sB, gi_si_s, gi_si_n, gl_si, gl_sA, gl_sB, gl_sl_s, gl_sl_n, gA_si, gA_sl, gA_sB, gA_sA_s, gA_sA_n, gB_si, gB_sl, gB_sA, gB_sB_s, gB_sB_n, Nat.reduceBEq]
theorem xg27 {ad : Nat → Nat} {cI cJ : ClassId} {co fl ra li re wa pi : Ob} {f : Nat → Int32} (h : gA re 2 = f) : (XW ad cI cJ co fl ra li re wa pi)[27]? = some (ad 27, .inl (cI, 120, .inl f)) := by subst h; rfl
theorem xs27 {ad : Nat → Nat} {cI cJ : ClassId} {co fl ra li re wa pi : Ob} {f : Nat → Int32} : (XW ad cI cJ co fl ra li re wa pi).set 27 (ad 27, .inl (cI, 120, .inl f)) = (XW ad cI cJ co fl ra li (sA re 2 f) wa pi) := by
  unfold XW FFX5
  simp only [List.set_cons_succ, List.set_cons_zero, gi_sl, gi_sA, gi_sB, gi_si_s, gi_si_n, gl_si, gl_sA, gl_sB, gl_sl_s, gl_sl_n, gA_si, gA_sl, gA_sB, gA_sA_s, gA_sA_n, gB_si, gB_sl, gB_sA, gB_sB_s, gB_sB_n, Nat.reduceBEq]
theorem xg28 {ad : Nat → Nat} {cI cJ : ClassId} {co fl ra li re wa pi : Ob} {f : Nat → Int32} (h : gA re 3 = f) : (XW ad cI cJ co fl ra li re wa pi)[28]? = some (ad 28, .inl (cI, 41, .inl f)) := by subst h; rfl
theorem xs28 {ad : Nat → Nat} {cI cJ : ClassId} {co fl ra li re wa pi : Ob} {f : Nat → Int32} : (XW ad cI cJ co fl ra li re wa pi).set 28 (ad 28, .inl (cI, 41, .inl f)) = (XW ad cI cJ co fl ra li (sA re 3 f) wa pi) := by
  unfold XW FFX5
  simp only [List.set_cons_succ, List.set_cons_zero, gi_sl, gi_sA, gi_sB, gi_si_s, gi_si_n, gl_si, gl_sA, gl_sB, gl_sl_s, gl_sl_n, gA_si, gA_sl, gA_sB, gA_sA_s, gA_sA_n, gB_si, gB_sl, gB_sA, gB_sB_s, gB_sB_n, Nat.reduceBEq]
theorem xg29 {ad : Nat → Nat} {cI cJ : ClassId} {co fl ra li re wa pi : Ob} {f : Nat → Int32} (h : gA wa 0 = f) : (XW ad cI cJ co fl ra li re wa pi)[29]? = some (ad 29, .inl (cI, 40, .inl f)) := by subst h; rfl
theorem xs29 {ad : Nat → Nat} {cI cJ : ClassId} {co fl ra li re wa pi : Ob} {f : Nat → Int32} : (XW ad cI cJ co fl ra li re wa pi).set 29 (ad 29, .inl (cI, 40, .inl f)) = (XW ad cI cJ co fl ra li re (sA wa 0 f) pi) := by
  unfold XW FFX6
  simp only [List.set_cons_succ, List.set_cons_zero, gi_sl, gi_sA, gi_sB, gi_si_s, gi_si_n, gl_si, gl_sA, gl_sB, gl_sl_s, gl_sl_n, gA_si, gA_sl, gA_sB, gA_sA_s, gA_sA_n, gB_si, gB_sl, gB_sA, gB_sB_s, gB_sB_n, Nat.reduceBEq]
theorem xg30 {ad : Nat → Nat} {cI cJ : ClassId} {co fl ra li re wa pi : Ob} {f : Nat → Int32} (h : gA wa 1 = f) : (XW ad cI cJ co fl ra li re wa pi)[30]? = some (ad 30, .inl (cI, 80, .inl f)) := by subst h; rfl
theorem xs30 {ad : Nat → Nat} {cI cJ : ClassId} {co fl ra li re wa pi : Ob} {f : Nat → Int32} : (XW ad cI cJ co fl ra li re wa pi).set 30 (ad 30, .inl (cI, 80, .inl f)) = (XW ad cI cJ co fl ra li re (sA wa 1 f) pi) := by
  unfold XW FFX6
  simp only [List.set_cons_succ, List.set_cons_zero, gi_sl, gi_sA, gi_sB, gi_si_s, gi_si_n, gl_si, gl_sA, gl_sB, gl_sl_s, gl_sl_n, gA_si, gA_sl, gA_sB, gA_sA_s, gA_sA_n, gB_si, gB_sl, gB_sA, gB_sB_s, gB_sB_n, Nat.reduceBEq]
theorem xg31 {ad : Nat → Nat} {cI cJ : ClassId} {co fl ra li re wa pi : Ob} {f : Nat → Int32} (h : gA wa 2 = f) : (XW ad cI cJ co fl ra li re wa pi)[31]? = some (ad 31, .inl (cI, 80, .inl f)) := by subst h; rfl
theorem xs31 {ad : Nat → Nat} {cI cJ : ClassId} {co fl ra li re wa pi : Ob} {f : Nat → Int32} : (XW ad cI cJ co fl ra li re wa pi).set 31 (ad 31, .inl (cI, 80, .inl f)) = (XW ad cI cJ co fl ra li re (sA wa 2 f) pi) := by
  unfold XW FFX6
  simp only [List.set_cons_succ, List.set_cons_zero, gi_sl, gi_sA, gi_sB, gi_si_s, gi_si_n, gl_si, gl_sA, gl_sB, gl_sl_s, gl_sl_n, gA_si, gA_sl, gA_sB, gA_sA_s, gA_sA_n, gB_si, gB_sl, gB_sA, gB_sB_s, gB_sB_n, Nat.reduceBEq]
theorem xg32 {ad : Nat → Nat} {cI cJ : ClassId} {co fl ra li re wa pi : Ob} {f : Nat → Int32} (h : gA wa 3 = f) : (XW ad cI cJ co fl ra li re wa pi)[32]? = some (ad 32, .inl (cI, 40, .inl f)) := by subst h; rfl
theorem xs32 {ad : Nat → Nat} {cI cJ : ClassId} {co fl ra li re wa pi : Ob} {f : Nat → Int32} : (XW ad cI cJ co fl ra li re wa pi).set 32 (ad 32, .inl (cI, 40, .inl f)) = (XW ad cI cJ co fl ra li re (sA wa 3 f) pi) := by
  unfold XW FFX6
  simp only [List.set_cons_succ, List.set_cons_zero, gi_sl, gi_sA, gi_sB, gi_si_s, gi_si_n, gl_si, gl_sA, gl_sB, gl_sl_s, gl_sl_n, gA_si, gA_sl, gA_sB, gA_sA_s, gA_sA_n, gB_si, gB_sl, gB_sA, gB_sB_s, gB_sB_n, Nat.reduceBEq]
theorem xg33 {ad : Nat → Nat} {cI cJ : ClassId} {co fl ra li re wa pi : Ob} {f : Nat → Int32} (h : gA wa 4 = f) : (XW ad cI cJ co fl ra li re wa pi)[33]? = some (ad 33, .inl (cI, 40, .inl f)) := by subst h; rfl
theorem xs33 {ad : Nat → Nat} {cI cJ : ClassId} {co fl ra li re wa pi : Ob} {f : Nat → Int32} : (XW ad cI cJ co fl ra li re wa pi).set 33 (ad 33, .inl (cI, 40, .inl f)) = (XW ad cI cJ co fl ra li re (sA wa 4 f) pi) := by
  unfold XW FFX6
  simp only [List.set_cons_succ, List.set_cons_zero, gi_sl, gi_sA, gi_sB, gi_si_s, gi_si_n, gl_si, gl_sA, gl_sB, gl_sl_s, gl_sl_n, gA_si, gA_sl, gA_sB, gA_sA_s, gA_sA_n, gB_si, gB_sl, gB_sA, gB_sB_s, gB_sB_n, Nat.reduceBEq]
theorem xg34 {ad : Nat → Nat} {cI cJ : ClassId} {co fl ra li re wa pi : Ob} {f : Nat → Int32} (h : gA pi 0 = f) : (XW ad cI cJ co fl ra li re wa pi)[34]? = some (ad 34, .inl (cI, 40, .inl f)) := by subst h; rfl
theorem xs34 {ad : Nat → Nat} {cI cJ : ClassId} {co fl ra li re wa pi : Ob} {f : Nat → Int32} : (XW ad cI cJ co fl ra li re wa pi).set 34 (ad 34, .inl (cI, 40, .inl f)) = (XW ad cI cJ co fl ra li re wa (sA pi 0 f)) := by
  unfold XW FFX3
  simp only [List.set_cons_succ, List.set_cons_zero, gi_sl, gi_sA, gi_sB, gi_si_s, gi_si_n, gl_si, gl_sA, gl_sB, gl_sl_s, gl_sl_n, gA_si, gA_sl, gA_sB, gA_sA_s, gA_sA_n, gB_si, gB_sl, gB_sA, gB_sB_s, gB_sB_n, Nat.reduceBEq]
theorem xg35 {ad : Nat → Nat} {cI cJ : ClassId} {co fl ra li re wa pi : Ob} {f : Nat → Int32} (h : gA pi 1 = f) : (XW ad cI cJ co fl ra li re wa pi)[35]? = some (ad 35, .inl (cI, 41, .inl f)) := by subst h; rfl
theorem xs35 {ad : Nat → Nat} {cI cJ : ClassId} {co fl ra li re wa pi : Ob} {f : Nat → Int32} : (XW ad cI cJ co fl ra li re wa pi).set 35 (ad 35, .inl (cI, 41, .inl f)) = (XW ad cI cJ co fl ra li re wa (sA pi 1 f)) := by
  unfold XW FFX3
  simp only [List.set_cons_succ, List.set_cons_zero, gi_sl, gi_sA, gi_sB, gi_si_s, gi_si_n, gl_si, gl_sA, gl_sB, gl_sl_s, gl_sl_n, gA_si, gA_sl, gA_sB, gA_sA_s, gA_sA_n, gB_si, gB_sl, gB_sA, gB_sB_s, gB_sB_n, Nat.reduceBEq]
theorem xg36 {ad : Nat → Nat} {cI cJ : ClassId} {co fl ra li re wa pi : Ob} {f : Nat → Int32} (h : gA pi 2 = f) : (XW ad cI cJ co fl ra li re wa pi)[36]? = some (ad 36, .inl (cI, 80, .inl f)) := by subst h; rfl
theorem xs36 {ad : Nat → Nat} {cI cJ : ClassId} {co fl ra li re wa pi : Ob} {f : Nat → Int32} : (XW ad cI cJ co fl ra li re wa pi).set 36 (ad 36, .inl (cI, 80, .inl f)) = (XW ad cI cJ co fl ra li re wa (sA pi 2 f)) := by
  unfold XW FFX3
  simp only [List.set_cons_succ, List.set_cons_zero, gi_sl, gi_sA, gi_sB, gi_si_s, gi_si_n, gl_si, gl_sA, gl_sB, gl_sl_s, gl_sl_n, gA_si, gA_sl, gA_sB, gA_sA_s, gA_sA_n, gB_si, gB_sl, gB_sA, gB_sB_s, gB_sB_n, Nat.reduceBEq]
theorem xg37 {ad : Nat → Nat} {cI cJ : ClassId} {co fl ra li re wa pi : Ob} {f : Nat → Int32} (h : gA pi 3 = f) : (XW ad cI cJ co fl ra li re wa pi)[37]? = some (ad 37, .inl (cI, 1600, .inl f)) := by subst h; rfl
theorem xs37 {ad : Nat → Nat} {cI cJ : ClassId} {co fl ra li re wa pi : Ob} {f : Nat → Int32} : (XW ad cI cJ co fl ra li re wa pi).set 37 (ad 37, .inl (cI, 1600, .inl f)) = (XW ad cI cJ co fl ra li re wa (sA pi 3 f)) := by
  unfold XW FFX3
  simp only [List.set_cons_succ, List.set_cons_zero, gi_sl, gi_sA, gi_sB, gi_si_s, gi_si_n, gl_si, gl_sA, gl_sB, gl_sl_s, gl_sl_n, gA_si, gA_sl, gA_sB, gA_sA_s, gA_sA_n, gB_si, gB_sl, gB_sA, gB_sB_s, gB_sB_n, Nat.reduceBEq]
theorem xg38 {ad : Nat → Nat} {cI cJ : ClassId} {co fl ra li re wa pi : Ob} {f : Nat → Int32} (h : gA pi 4 = f) : (XW ad cI cJ co fl ra li re wa pi)[38]? = some (ad 38, .inl (cI, 1600, .inl f)) := by subst h; rfl
theorem xs38 {ad : Nat → Nat} {cI cJ : ClassId} {co fl ra li re wa pi : Ob} {f : Nat → Int32} : (XW ad cI cJ co fl ra li re wa pi).set 38 (ad 38, .inl (cI, 1600, .inl f)) = (XW ad cI cJ co fl ra li re wa (sA pi 4 f)) := by
  unfold XW FFX3
  simp only [List.set_cons_succ, List.set_cons_zero, gi_sl, gi_sA, gi_sB, gi_si_s, gi_si_n, gl_si, gl_sA, gl_sB, gl_sl_s, gl_sl_n, gA_si, gA_sl, gA_sB, gA_sA_s, gA_sA_n, gB_si, gB_sl, gB_sA, gB_sB_s, gB_sB_n, Nat.reduceBEq]
theorem xg39 {ad : Nat → Nat} {cI cJ : ClassId} {co fl ra li re wa pi : Ob} {f : Nat → Int32} (h : gA pi 5 = f) : (XW ad cI cJ co fl ra li re wa pi)[39]? = some (ad 39, .inl (cI, 1600, .inl f)) := by subst h; rfl
theorem xs39 {ad : Nat → Nat} {cI cJ : ClassId} {co fl ra li re wa pi : Ob} {f : Nat → Int32} : (XW ad cI cJ co fl ra li re wa pi).set 39 (ad 39, .inl (cI, 1600, .inl f)) = (XW ad cI cJ co fl ra li re wa (sA pi 5 f)) := by
  unfold XW FFX3
  simp only [List.set_cons_succ, List.set_cons_zero, gi_sl, gi_sA, gi_sB, gi_si_s, gi_si_n, gl_si, gl_sA, gl_sB, gl_sl_s, gl_sl_n, gA_si, gA_sl, gA_sB, gA_sA_s, gA_sA_n, gB_si, gB_sl, gB_sA, gB_sB_s, gB_sB_n, Nat.reduceBEq]
theorem xg40 {ad : Nat → Nat} {cI cJ : ClassId} {co fl ra li re wa pi : Ob} {f : Nat → Int32} (h : gA pi 6 = f) : (XW ad cI cJ co fl ra li re wa pi)[40]? = some (ad 40, .inl (cI, 1600, .inl f)) := by subst h; rfl
theorem xs40 {ad : Nat → Nat} {cI cJ : ClassId} {co fl ra li re wa pi : Ob} {f : Nat → Int32} : (XW ad cI cJ co fl ra li re wa pi).set 40 (ad 40, .inl (cI, 1600, .inl f)) = (XW ad cI cJ co fl ra li re wa (sA pi 6 f)) := by
  unfold XW FFX3
  simp only [List.set_cons_succ, List.set_cons_zero, gi_sl, gi_sA, gi_sB, gi_si_s, gi_si_n, gl_si, gl_sA, gl_sB, gl_sl_s, gl_sl_n, gA_si, gA_sl, gA_sB, gA_sA_s, gA_sA_n, gB_si, gB_sl, gB_sA, gB_sB_s, gB_sB_n, Nat.reduceBEq]
theorem xg41 {ad : Nat → Nat} {cI cJ : ClassId} {co fl ra li re wa pi : Ob} {f : Nat → Int32} (h : gA pi 7 = f) : (XW ad cI cJ co fl ra li re wa pi)[41]? = some (ad 41, .inl (cI, 120, .inl f)) := by subst h; rfl
theorem xs41 {ad : Nat → Nat} {cI cJ : ClassId} {co fl ra li re wa pi : Ob} {f : Nat → Int32} : (XW ad cI cJ co fl ra li re wa pi).set 41 (ad 41, .inl (cI, 120, .inl f)) = (XW ad cI cJ co fl ra li re wa (sA pi 7 f)) := by
  unfold XW FFX3
  simp only [List.set_cons_succ, List.set_cons_zero, gi_sl, gi_sA, gi_sB, gi_si_s, gi_si_n, gl_si, gl_sA, gl_sB, gl_sl_s, gl_sl_n, gA_si, gA_sl, gA_sB, gA_sA_s, gA_sA_n, gB_si, gB_sl, gB_sA, gB_sB_s, gB_sB_n, Nat.reduceBEq]
theorem xg42 {ad : Nat → Nat} {cI cJ : ClassId} {co fl ra li re wa pi : Ob} {f : Nat → Int32} (h : gA pi 8 = f) : (XW ad cI cJ co fl ra li re wa pi)[42]? = some (ad 42, .inl (cI, 120, .inl f)) := by subst h; rfl
theorem xs42 {ad : Nat → Nat} {cI cJ : ClassId} {co fl ra li re wa pi : Ob} {f : Nat → Int32} : (XW ad cI cJ co fl ra li re wa pi).set 42 (ad 42, .inl (cI, 120, .inl f)) = (XW ad cI cJ co fl ra li re wa (sA pi 8 f)) := by
  unfold XW FFX3
  simp only [List.set_cons_succ, List.set_cons_zero, gi_sl, gi_sA, gi_sB, gi_si_s, gi_si_n, gl_si, gl_sA, gl_sB, gl_sl_s, gl_sl_n, gA_si, gA_sl, gA_sB, gA_sA_s, gA_sA_n, gB_si, gB_sl, gB_sA, gB_sB_s, gB_sB_n, Nat.reduceBEq]
theorem xg43 {ad : Nat → Nat} {cI cJ : ClassId} {co fl ra li re wa pi : Ob} {f : Nat → Int32} (h : gA pi 9 = f) : (XW ad cI cJ co fl ra li re wa pi)[43]? = some (ad 43, .inl (cI, 80, .inl f)) := by subst h; rfl
theorem xs43 {ad : Nat → Nat} {cI cJ : ClassId} {co fl ra li re wa pi : Ob} {f : Nat → Int32} : (XW ad cI cJ co fl ra li re wa pi).set 43 (ad 43, .inl (cI, 80, .inl f)) = (XW ad cI cJ co fl ra li re wa (sA pi 9 f)) := by
  unfold XW FFX3
  simp only [List.set_cons_succ, List.set_cons_zero, gi_sl, gi_sA, gi_sB, gi_si_s, gi_si_n, gl_si, gl_sA, gl_sB, gl_sl_s, gl_sl_n, gA_si, gA_sl, gA_sB, gA_sA_s, gA_sA_n, gB_si, gB_sl, gB_sA, gB_sB_s, gB_sB_n, Nat.reduceBEq]
theorem xg44 {ad : Nat → Nat} {cI cJ : ClassId} {co fl ra li re wa pi : Ob} {f : Nat → Int32} (h : gA pi 10 = f) : (XW ad cI cJ co fl ra li re wa pi)[44]? = some (ad 44, .inl (cI, 80, .inl f)) := by subst h; rfl
theorem xs44 {ad : Nat → Nat} {cI cJ : ClassId} {co fl ra li re wa pi : Ob} {f : Nat → Int32} : (XW ad cI cJ co fl ra li re wa pi).set 44 (ad 44, .inl (cI, 80, .inl f)) = (XW ad cI cJ co fl ra li re wa (sA pi 10 f)) := by
  unfold XW FFX3
  simp only [List.set_cons_succ, List.set_cons_zero, gi_sl, gi_sA, gi_sB, gi_si_s, gi_si_n, gl_si, gl_sA, gl_sB, gl_sl_s, gl_sl_n, gA_si, gA_sl, gA_sB, gA_sA_s, gA_sA_n, gB_si, gB_sl, gB_sA, gB_sB_s, gB_sB_n, Nat.reduceBEq]
theorem xw_eq {ad : Nat → Nat} {cI cJ : ClassId} {co fl ra li re wa pi co2 fl2 ra2 li2 re2 wa2 pi2 : Ob} (h1 : co = co2) (h2 : fl = fl2) (h3 : ra = ra2) (h4 : li = li2) (h5 : re = re2) (h6 : wa = wa2) (h7 : pi = pi2) : XW ad cI cJ co fl ra li re wa pi = XW ad cI cJ co2 fl2 ra2 li2 re2 wa2 pi2 := by
  rw [h1, h2, h3, h4, h5, h6, h7]
theorem pr_eta {α β : Type} (p : α × β) : (p.1, p.2) = p := by cases p; rfl
theorem lp_0 {σ : Type} (f : Nat → σ → σ) (s : σ) : s = lp f 0 s := rfl
theorem lpW_0 {σ : Type} (c : σ → Bool) (f : σ → σ) (s : σ) : s = lpW c f 0 s := rfl
theorem lpW_00 {σ : Type} (c : σ × Nat → Bool) (f : σ × Nat → σ × Nat) (a : σ) (k : Nat) : (lpW c f 0 (a, k)).2 + 0 = k := rfl

