theorem c_digest1 (l : Launch) (D : va_G) (cI cJ : ClassId) (ad : Nat → Nat) (co fl ra li re wa pi : Ob) (zr : ¬ gi ra 2 = 0) (zl : ¬ gi li 1 = 0) (zd : ¬ gi re 1 = 0) (zp : ¬ gi pi 3 = 0) : CT l D (TY cI cJ) yX7_digest (.code yX7_digest cX7_digest 3 (some Jvm.ClassFile.FieldType.long)) 7 0 0 (XW ad cI cJ co fl ra li re wa pi) [.ref (ad 0)] (QL D (TY cI cJ) (fun r u => r = (dgAll co fl ra li re wa pi) ∧ u = (XW ad cI cJ co fl ra li re wa (countCross wa pi).1))) := by
  have h := c_digest l D cI cJ ad co fl ra li re wa pi (fun z => absurd z zl)
  obtain ⟨e1, e2, e3, e4, e5, e6, e7, e8, e9⟩ := fr_id (co := co) (fl := fl) (wa := wa) zr zl zd zp
  rw [e1, e2, e3, e4, e5, e6, e7, e8, e9] at h
  exact h
