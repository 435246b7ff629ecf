theorem dL_cell_0 : decode cL_cell 0 = .ok (.iload_n 1, 1) := by decide +kernel
theorem dL_cell_1 : decode cL_cell 1 = .ok (.aload_n 0, 1) := by decide +kernel
theorem dL_cell_2 : decode cL_cell 2 = .ok (.arraylength, 1) := by decide +kernel
theorem dL_cell_3 : decode cL_cell 3 = .ok (.if_icmp .ge 9, 3) := by decide +kernel
theorem dL_cell_6 : decode cL_cell 6 = .ok (.aload_n 0, 1) := by decide +kernel
theorem dL_cell_7 : decode cL_cell 7 = .ok (.iload_n 1, 1) := by decide +kernel
theorem dL_cell_8 : decode cL_cell 8 = .ok (.iaload, 1) := by decide +kernel
theorem dL_cell_9 : decode cL_cell 9 = .ok (.goto 9, 3) := by decide +kernel
theorem dL_cell_12 : decode cL_cell 12 = .ok (.ldc 8, 2) := by decide +kernel
theorem dL_cell_14 : decode cL_cell 14 = .ok (.iload_n 1, 1) := by decide +kernel
theorem dL_cell_15 : decode cL_cell 15 = .ok (.iconst 3, 1) := by decide +kernel
theorem dL_cell_16 : decode cL_cell 16 = .ok (.iadd, 1) := by decide +kernel
theorem dL_cell_17 : decode cL_cell 17 = .ok (.imul, 1) := by decide +kernel
theorem dL_cell_18 : decode cL_cell 18 = .ok (.ireturn, 1) := by decide +kernel
theorem mw_698 : Cond.constant RL 8 (790386105) ∈ GW := gw_mem (inT3 _ (List.mem_of_getElem? (i := 162) rfl)) rfl
def PBS (D : va_G) (tys : List (ClassId × FieldType)) (w : va_W) (b L : Nat) (xs : Nat → Int32) (sz : Nat) : State → Prop := fun U => PB D tys w sz U ∧ va_X b L xs U U.heap ∧ b < U.heap.size ∧ ¬ va_A w sz b
theorem blindPBS {As : List Value} {D : va_G} {tys : List (ClassId × FieldType)} {w : va_W} {b L : Nat} {xs : Nat → Int32} {sz : Nat} : FrameBlind (va_Pc As (PBS D tys w b L xs sz)) := fun a U g mk q => by
  obtain ⟨q0, q1, qX, q2, q3⟩ := q
  obtain ⟨-, b1⟩ := blindPB a U g mk ⟨q0, q1⟩
  exact ⟨q0, b1, va_X.moved (u := U) (U := U.calling g mk a) (Vm.Alike.refl U.vm) qX, q2, q3⟩
abbrev CS (l : Launch) (D : va_G) (tys : List (ClassId × FieldType)) (y : MethodName) (ck : Cond) (d mc ms : Nat) (w : va_W) (b L : Nat) (xs : Nat → Int32) (As : List Value) (Qc : (Nat → Prop) → Array Value → State → Outcome → State → Prop) : Prop :=
  ∀ sz : Nat, Met l y (ck :: GW) (rmf d mc ms) (va_Pc As (PBS D tys w b L xs sz)) (Qc (va_A w sz)) mc ms (va_A w sz)
section XS
variable {p : Program} {l : Launch} {e : Env} {R : Room} {s : State} {m : MethodId} {args : Array Value} {below : List Frame} {meth : Method} {c : Code} {H : Heap} {locs : List Loc} {cells slots : Nat} {Q : State → Prop}
variable {cc bytes : ByteArray} {pc : Nat} {ls : Array Slot} {st0 rest : List Value} {D : va_G} {tys : List (ClassId × FieldType)} {A : Nat → Prop} {w : va_W}
variable {y : MethodName} {maxL nL mc ms n index d b L : Nat} {xs : Nat → Int32} {ret : Option FieldType} {own : String} {As : List Value} {Qc : (Nat → Prop) → Array Value → State → Outcome → State → Prop}
theorem rSC (hx : p.tables.exec = Jvm.exec) (hb : c.code = cc) (hml : c.maxLocals = nL) (hown : s.vm.findClass own = some m.cls) (hg : ∀ w ∈ GW, w.before args s = true) (hN : NW s) (hK : va_K D vwCl tys s) (hP : va_P D vwCl w H) (hD : va_D A w)
    (hX : va_X b L xs s s.heap) (hbl : b < s.heap.size) (hbA : ¬ A b) (hS : va_S A s.heap H locs)
    (hM : CS l D tys y (.code y bytes maxL ret) d mc ms w b L xs As Qc) (m5 : Cond.code y bytes maxL ret ∈ GW) (m1 : Cond.methodLink own index y ∈ GW) (m2 : Cond.static y ∈ GW) (m4 : Cond.initialized y.cls ∈ GW)
    (hd : y.cls ≠ "java/lang/invoke/MethodHandle" ∧ y.cls ≠ "java/lang/invoke/VarHandle" ∧ (parseMethodDescriptor y.desc).map (fun d => d.parameters.length) = some n) (hR : (rmf d mc ms).frames + 1 ≤ R.frames ∧ 8 + (maxL + 11) + (rmf d mc ms).locals ≤ R.locals)
    (hn : As.length = n) (hl : ls.size = nL) (hst : st0 = As.reverse ++ rest) (hW : (rest.map fun v => v.category).sum ≤ 8) (hdg : decode cc pc = .ok (.invokestatic index, 3)) (hf : cells + mc ≤ R.cells ∧ slots + ms ≤ R.slots) :
    va_Run p l e R s m args below meth c H locs cells slots mc ms (F0 m pc ls st0) rest (Qc (va_A w H.size) As.toArray) (va_A w H.size) :=
  va_runS (As := As) (rest := rest) ⟨hx, hb, hml, hown, hg⟩ (hM H.size) (va_cwS n hg (gw_S m5 m1 m2 m4) rfl rfl rfl hd hR)
    ⟨blindPBS, fun U hU hW => ⟨rfl, ((hpre hK hN hP hD As).2 U hU hW).2, by rw [hU]; exact va_X.moved hW.alike (hX.kept (hS.2.1 b hbl hbA)), by rw [hU]; exact Nat.lt_of_lt_of_le hbl hS.1, fun z => by
      rcases z with ⟨k, e, h⟩ | h
      · exact hbA (hD.2 k _ h)
      · exact absurd (Nat.lt_of_lt_of_le hbl hS.1) (Nat.not_lt.mpr h)⟩⟩
    rfl hn hl hst (lv_room (m := m) (pc := pc) (ls := ls) (rest := st0) hW) hdg hf
end XS
theorem lcmp_eq {a b : Int64} (e : a = b) : lg_cmp a b = 0 := Classical.byContradiction (fun h => lcmp_1 h e)
/-- all fresh -/
theorem INV.all {n : Nat} {co fl ra li re wa pi : Ob} (h : INV n co fl ra li re wa pi) :
    INV n co (frPf co (frDf co (frLf co (frRf co fl ra) li) re) pi) (frR co fl ra) (frL co (frRf co fl ra) li) (frD co (frLf co (frRf co fl ra) li) re) (frPw co (frDf co (frLf co (frRf co fl ra) li) re) wa pi) (frP co (frDf co (frLf co (frRf co fl ra) li) re) wa pi) ∧
    ¬ gi (frPf co (frDf co (frLf co (frRf co fl ra) li) re) pi) 2 = 0 ∧ ¬ gi (frR co fl ra) 2 = 0 ∧ ¬ gi (frL co (frRf co fl ra) li) 1 = 0 ∧ ¬ gi (frD co (frLf co (frRf co fl ra) li) re) 1 = 0 ∧ ¬ gi (frP co (frDf co (frLf co (frRf co fl ra) li) re) wa pi) 3 = 0 := by
  obtain ⟨h1, -, zr⟩ := h.ranks
  obtain ⟨h2, -, zl⟩ := h1.lives
  obtain ⟨h3, -, zd⟩ := h2.red
  obtain ⟨h4, zf, zp⟩ := h3.pic
  exact ⟨h4, zf, zr, zl, zd, zp⟩
theorem fr_id {co fl ra li re wa pi : Ob} (zr : ¬ gi ra 2 = 0) (zl : ¬ gi li 1 = 0) (zd : ¬ gi re 1 = 0) (zp : ¬ gi pi 3 = 0) :
    frRf co fl ra = fl ∧ frR co fl ra = ra ∧ frLf co fl li = fl ∧ frL co fl li = li ∧ frDf co fl re = fl ∧ frD co fl re = re ∧ frPf co fl pi = fl ∧ frPw co fl wa pi = wa ∧ frP co fl wa pi = pi :=
  ⟨if_neg zr, if_neg zr, if_neg zl, if_neg zl, if_neg zd, if_neg zd, if_neg zp, if_neg zp, if_neg zp⟩
theorem dg_rel {co fl ra li re wa a b : Ob} (h : REL a b) : dgLayers a (dgSteps re (dg2 co fl ra li re wa a)) = dgLayers b (dgSteps re (dg2 co fl ra li re wa b)) := by
  have e0 := h.row (k := 0) (by decide)
  have e1 := h.row (k := 1) (by decide)
  have e3 := h.row (k := 3) (by decide)
  have e4 := h.row (k := 4) (by decide)
  have e5 := h.row (k := 5) (by decide)
  have b1 : dgB fl ra li re a = dgB fl ra li re b := by
    funext k d
    unfold dgB placeB
    rw [e0, e5]
  have b2 : dgE fl ra wa a = dgE fl ra wa b := by
    funext k d
    unfold dgE bendCount botE topE
    rw [e0]
  have b3 : dgL a = dgL b := by
    funext k d
    unfold dgL dgP sizeOf shownAt shPt
    rw [e1, e3, e4]
  unfold dgLayers dg2 dg1 dgBlocks dgEdges
  rw [b1, b2, b3, h.gi 1]
theorem dg_same {n : Nat} {co fl ra li re wa pi : Ob} (h : INV n co fl ra li re wa pi) (z : ¬ gi pi 3 = 0) : dgAll co fl ra li re wa (countCross wa pi).1 = dgAll co fl ra li re wa pi := by
  obtain ⟨h1, h2, -⟩ := h.cross z
  have z1 : ¬ gi (countCross wa pi).1 3 = 0 := by rw [h2.gi 3]; exact z
  obtain ⟨-, h3, -⟩ := h1.cross z1
  unfold dgAll
  rw [dg_rel h2, cross_same h z, h3.gi 2]

theorem cell_in {k : Int32} {L : Nat} (hL : L < 2 ^ 31) (hk : ¬ k < 0) (h : k < Int32.ofNat L) : vp_in k L := by
  rcases pk_ix k hL with q | q | ⟨j, hj, e⟩
  · exact absurd q hk
  · exact absurd q (i_lt_nle h)
  · exact pk_in j L hj e hL
set_option maxHeartbeats 4000000 in
set_option maxRecDepth 100000 in
theorem c_cell (l : Launch) (D : va_G) (cI cJ : ClassId) (w : va_W) (b L : Nat) (xs : Nat → Int32) (k : Int32) (hk : ¬ k < 0) (hL : L < 2 ^ 31) : CS l D (TY cI cJ) yL_cell (.code yL_cell cL_cell 2 (some Jvm.ClassFile.FieldType.int)) 0 0 0 w b L xs [.ref b, .int k] (QI D (TY cI cJ) (fun r u => u = w)) := by
  intro sz
  refine Met.ofW (cc := cL_cell) (maxL := 2) (ret := (some Jvm.ClassFile.FieldType.int)) (by decide) rfl ?_
  intro p e s m args below meth c s₁ B hml hv
  obtain ⟨rfl, ⟨hsz, hP, hK, hD0, hN⟩, hX, hbl, hbA⟩ := hv
  have hts := atoms_spec (ws := (.code yL_cell cL_cell 2 (some Jvm.ClassFile.FieldType.int)) :: GW) B.pre
  subst hsz
  have hD := hD0.self (sz := s.heap.size)
  have hl := lv_entry [.ref b, .int k] (n := 2) (Nat.le_of_ble_eq_true rfl)
  rw [lg_entry_eq]
  have hx := B.exec
  have hb := B.bytes
  have hr := B.returns
  have hg : ∀ w ∈ GW, w.before _ s = true := fun w hw => hts w (List.mem_cons_of_mem _ hw)
  have hown := findClass_of_methodNamed B.named
  have hlocks := B.notSynchronized
  have hS : va_S (va_A w s.heap.size) s.heap s.heap [] := va_S.rf
  generalize (lg_sl [.ref b, .int k] ++ List.replicate (2 - (lg_sl [.ref b, .int k]).length) Slot.unset).toArray = ls at hl ⊢
  have hl : lv_has ls 2 [(0, .ref b), (1, .int k)] := hl
  refine lv_iload_n hx hb dL_cell_0 rfl (lv_at hl 1 rfl) ?_
  refine lv_aload_n hx hb dL_cell_1 rfl (lv_at hl 0 rfl) ?_
  refine va_slen hx hb hX hbl hbA hS dL_cell_2 ?_
  refine lv_icmp_ge (tgt := 12) hx hb dL_cell_3 (by decide) (fun c_3 => ?_) (fun c_3 => ?_)
  · have c_3 : ¬ k < (Int32.ofNat L) := i_ge c_3
    refine lv_ldc (v := 790386105) hx hb hown (hg _ mw_698) dL_cell_12 ?_
    refine lv_iload_n hx hb dL_cell_14 rfl (lv_at hl 1 rfl) ?_
    refine lv_iconst (v := 3) hx hb dL_cell_15 (by decide) ?_
    refine lv_iadd hx hb dL_cell_16 ?_
    refine lv_imul hx hb dL_cell_17 ?_
    exact W.iret (v := ((790386105 : Int32) * (k + 3))) hx hb hr (fun t ht hW => ⟨⟨((790386105 : Int32) * (k + 3)), w, rfl, rfl, ⟨by rw [ht]; exact hP, va_K.moved hW.alike hK, hD⟩⟩, hS.F ht⟩) hS.2.2 dL_cell_18
  · have c_3 : k < (Int32.ofNat L) := i_nge c_3
    refine lv_aload_n hx hb dL_cell_6 rfl (lv_at hl 0 rfl) ?_
    refine lv_iload_n hx hb dL_cell_7 rfl (lv_at hl 1 rfl) ?_
    refine va_sld hx hb hX hbl hbA hS (i := k) (cell_in hL hk c_3) dL_cell_8 ?_
    refine lv_goto (tgt := 18) hx hb dL_cell_9 (by decide) ?_
    exact W.iret (v := (xs (k : Int32).toNatClampNeg)) hx hb hr (fun t ht hW => ⟨⟨(xs (k : Int32).toNatClampNeg), w, rfl, rfl, ⟨by rw [ht]; exact hP, va_K.moved hW.alike hK, hD⟩⟩, hS.F ht⟩) hS.2.2 dL_cell_18
