/-! ===== methods that throw: the same contract, with the class of what is thrown ===== -/
def ST (A : Nat → Prop) (U : State) : Prop := vx_Zq Bundle.tN "UNASSIGNED_STACK" Bundle.steD A U U.heap ∧ vx_Zq Bundle.tN "SUPPRESSED_SENTINEL" Bundle.listD A U U.heap
def STRS : List (Nat × String) := [(100, "neither an IF nor a GO"), (321, "no such instruction")]
def SR (U : State) : Prop := (∀ q ∈ STRS, ∃ sa : Nat, vk_R "OrielChart" q.1 q.2 sa U) ∧ va_Nc "java/lang/IllegalArgumentException" "java/lang/IndexOutOfBoundsException" U
theorem SR.warm {s U : State} (h : SR s) (hW : s.WarmedH U.vm) : SR U := ⟨fun q hq => by
  obtain ⟨sa, h9⟩ := h.1 q hq
  exact ⟨sa, vk_R.warm hW h9⟩, va_Nc.moved hW.alike h.2⟩
theorem SR.same {s U : State} (h : SR s) (hv : U.vm = s.vm) : SR U := ⟨fun q hq => by
  obtain ⟨sa, h9⟩ := h.1 q hq
  exact ⟨sa, vk_R.same hv h9⟩, va_Nc.moved (hv ▸ Vm.Alike.refl U.vm) h.2⟩
def PBX (D : va_G) (tys : List (ClassId × FieldType)) (w : va_W) (sz : Nat) : State → Prop := fun U => PB D tys w sz U ∧ ST (va_A w sz) U ∧ SR U
abbrev XE (D : va_G) (tys : List (ClassId × FieldType)) (PX : Prop) (w : va_W) (E : String) (A : Nat → Prop) : String → State → State → Prop := vx_X (fun u : va_W => PX ∧ u = w) (fun E' u t => E' = E ∧ BW D tys A u t) A
abbrev CX (l : Launch) (D : va_G) (tys : List (ClassId × FieldType)) (y : MethodName) (ck : Cond) (d mc ms : Nat) (w : va_W) (As : List Value) (Qc : (Nat → Prop) → Array Value → State → Outcome → State → Prop) (E : String) (PX : Prop) : Prop :=
  ∀ sz : Nat, vx_Met l y (ck :: GW) (rmf d mc ms) (va_Pc As (PBX D tys w sz)) (Qc (va_A w sz)) (XE D tys PX w E (va_A w sz)) mc ms (va_A w sz)
theorem blindPBX {As : List Value} {D : va_G} {tys : List (ClassId × FieldType)} {w : va_W} {sz : Nat} : FrameBlind (va_Pc As (PBX D tys w sz)) := fun a U g mk q => by
  obtain ⟨q0, q1, q2, q3⟩ := q
  obtain ⟨-, b1⟩ := blindPB a U g mk ⟨q0, q1⟩
  exact ⟨q0, b1, ⟨vx_Zq.moved (u := U) (U := U.calling g mk a) (Vm.Alike.refl U.vm) q2.1, vx_Zq.moved (u := U) (U := U.calling g mk a) (Vm.Alike.refl U.vm) q2.2⟩, q3.same rfl⟩
theorem entX {l : Launch} {D : va_G} {tys : List (ClassId × FieldType)} {y : MethodName} {cc : ByteArray} {maxL : Nat} {ret : Option FieldType} {d mc ms : Nat} {w : va_W} {As : List Value} {Qc : (Nat → Prop) → Array Value → State → Outcome → State → Prop} {E : String} {PX : Prop} (hy : plainName y.cls = true) (hlen : (lg_sl As).length ≤ maxL)
    (body : ∀ (p : Program) (e : Env) (s : State) (m : MethodId) (below : List Frame) (meth : Method) (c : Code) (ls : Array Slot) (A : Nat → Prop), p.tables.exec = Jvm.exec → c.code = cc → meth.sig.returnType = ret → (∀ w ∈ GW, w.before As.toArray s = true) → s.vm.findClass y.cls = some m.cls → c.maxLocals = maxL → meth.locks = false → meth.name = y.name →
      va_P D vwCl w s.heap → va_K D vwCl tys s → va_D A w → va_S A s.heap s.heap [] → (∀ q, s.heap.size ≤ q → A q) → NW s → lv_has ls maxL (lv_args 0 As) → (∀ x ∈ c.exceptionTable.toList, False) → ST A s → SR s → A = va_A w s.heap.size →
      W p l e (rmf d mc ms) s m As.toArray below meth c s.heap [] 0 0 (vx_MQ below (Qc A) (XE D tys PX w E A) As.toArray s mc ms A) (F0 m 0 ls [])) : CX l D tys y (.code y cc maxL ret) d mc ms w As Qc E PX := by
  intro sz
  refine vx_ofW (cc := cc) (maxL := maxL) (ret := ret) hy rfl ?_
  intro p e s m args below meth c s₁ B hml hE hv
  obtain ⟨rfl, ⟨hsz, hP, hK, hD0, hN⟩, hST, hSR⟩ := hv
  have hts := atoms_spec (ws := (.code y cc maxL ret) :: GW) B.pre
  subst hsz
  have hD := hD0.self (sz := s.heap.size)
  have hl := lv_entry As (n := maxL) hlen
  rw [lg_entry_eq]
  exact body p e s m below meth c _ (va_A w s.heap.size) B.exec B.bytes B.returns (fun w hw => hts w (List.mem_cons_of_mem _ hw)) (findClass_of_methodNamed B.named) hml B.notSynchronized (name_of_methodNamed B.named B.method).1 hP hK hD va_S.rf (fun q h => Or.inr h) hN hl hE hST hSR rfl
/-- the words of a throw -/
theorem hat_of {own X : String} {ic : Nat} {names : List String} {args : Array Value} {s : State} (h1 : ∀ w ∈ (vx_atS own ic X names).filter goodWord, w ∈ lw_tbl) (h2 : ∀ w ∈ (vx_atS own ic X names).filter (fun w => !goodWord w), w ∈ NLm) (hg : ∀ w ∈ GW, w.before args s = true) (hN : NW s) : ∀ w ∈ vx_atS own ic X names, w.before args s = true :=
  vx_hat (fun w hw => hg w (gw_mem (h1 w hw) (List.mem_filter.mp hw).2)) h2 (fun w hw => hN.use hw)
abbrev EIAE : String := "java/lang/IllegalArgumentException"
abbrev EIOB : String := "java/lang/IndexOutOfBoundsException"
abbrev ENM : List String := ["java/lang/RuntimeException", "java/lang/Exception"]
theorem at1a : ∀ w ∈ (vx_atS "OrielChart" 59 EIAE ENM).filter goodWord, w ∈ lw_tbl := by decide +kernel
theorem at1b : ∀ w ∈ (vx_atS "OrielChart" 59 EIAE ENM).filter (fun w => !goodWord w), w ∈ NLm := by decide +kernel
theorem at2a : ∀ w ∈ (vx_atS "OrielChart" 261 EIOB ENM).filter goodWord, w ∈ lw_tbl := by decide +kernel
theorem at2b : ∀ w ∈ (vx_atS "OrielChart" 261 EIOB ENM).filter (fun w => !goodWord w), w ∈ NLm := by decide +kernel
theorem gd1 : ∀ w ∈ Cond.classLink "OrielChart" 55 EIAE :: Cond.initialized EIAE :: vx_atS "OrielChart" 59 EIAE ENM, vx_ot w = true := by decide +kernel
theorem gd2 : ∀ w ∈ Cond.classLink "OrielChart" 259 EIOB :: Cond.initialized EIOB :: vx_atS "OrielChart" 261 EIOB ENM, vx_ot w = true := by decide +kernel
theorem fitE : Bundle.fit EIAE = true ∧ Bundle.fit EIOB = true ∧ ∀ n ∈ ENM, Bundle.fit n = true := by decide +kernel
section XX
variable {p : Program} {l : Launch} {e : Env} {R : Room} {s : State} {m : MethodId} {args : Array Value} {below : List Frame} {meth : Method} {c : Code} {H : Heap} {locs : List Loc} {cells slots : Nat} {Q : State → Prop}
variable {cc bytes : ByteArray} {pc : Nat} {ls : Array Slot} {st0 rest : List Value} {D : va_G} {tys : List (ClassId × FieldType)} {A : Nat → Prop} {w : va_W}
variable {PX PX2 : Prop} {y : MethodName} {maxL nL mc ms n index d q0 ci N b : Nat} {ret : Option FieldType} {own C E : String} {T : u_T} {As fs : List Value} {Qc : (Nat → Prop) → Array Value → State → Outcome → State → Prop}
theorem st_pre {U : State} (hST : ST A s) (hD : va_D A w) (hS : va_S A s.heap H locs) (hA : ∀ q, s.heap.size ≤ q → A q) (hU : U.heap = H) (hW : s.WarmedH U.vm) : ST (va_A w H.size) U := by
  have hF := fr_all hD hS hA
  refine ⟨?_, ?_⟩
  · rw [hU]; exact vx_Zq.moved hW.alike ((hST.1.kept hS.2.1).narrow hF)
  · rw [hU]; exact vx_Zq.moved hW.alike ((hST.2.kept hS.2.1).narrow hF)
theorem hpreX (hK : va_K D vwCl tys s) (hN : NW s) (hP : va_P D vwCl w H) (hD : va_D A w) (hST : ST A s) (hSR : SR s) (hS : va_S A s.heap H locs) (hA : ∀ q, s.heap.size ≤ q → A q) (av : List Value) : PreS s H (va_Pc av (PBX D tys w H.size)) av :=
  ⟨blindPBX, fun U hU hW => ⟨rfl, ((hpre hK hN hP hD av).2 U hU hW).2, st_pre hST hD hS hA hU hW, hSR.warm hW⟩⟩
theorem rXV (hx : p.tables.exec = Jvm.exec) (hb : c.code = cc) (hml : c.maxLocals = nL) (hown : s.vm.findClass own = some m.cls) (hg : ∀ w ∈ GW, w.before args s = true) (hN : NW s) (hK : va_K D vwCl tys s) (hP : va_P D vwCl w H) (hD : va_D A w) (hST : ST A s) (hSR : SR s) (hS : va_S A s.heap H locs) (hA : ∀ q, s.heap.size ≤ q → A q)
    (hM : CX l D tys y (.code y bytes maxL ret) d mc ms w (.ref b :: As) Qc E PX) (m5 : Cond.code y bytes maxL ret ∈ GW) (m1 : Cond.methodLink own index y ∈ GW) (m2 : Cond.instanceMethod y ∈ GW) (m3 : Cond.selects C y y ∈ GW) (m4 : Cond.initialized C ∈ GW)
    (hd : y.cls = C ∧ y.cls ≠ "java/lang/invoke/MethodHandle" ∧ y.cls ≠ "java/lang/invoke/VarHandle" ∧ (parseMethodDescriptor y.desc).map (fun d => d.parameters.length) = some n) (hR : (rmf d mc ms).frames + 1 ≤ R.frames ∧ 8 + (maxL + 11) + (rmf d mc ms).locals ≤ R.locals)
    (hc : vwCl[ci]? = some (C, T, N)) (hq : w[q0]? = some (b, .inr (ci, fs))) (hn : As.length = n) (hl : ls.size = nL) (hst : st0 = As.reverse ++ .ref b :: rest) (hW : (rest.map fun v => v.category).sum ≤ 8) (hdg : decode cc pc = .ok (.invokevirtual index, 3)) (hf : cells + mc ≤ R.cells ∧ slots + ms ≤ R.slots) :
    vx_Run p l e R s m args below meth c H locs cells slots mc ms (F0 m pc ls st0) rest (Qc (va_A w H.size) (Value.ref b :: As).toArray) (XE D tys PX w E (va_A w H.size)) (va_A w H.size) :=
  vx_runV (As := As) (rest := rest) (C := C) ⟨hx, hb, hml, hown, hg⟩ (hM H.size) (cwV n hg (gw_V m5 m1 m2 m3 m4) rfl rfl rfl hd hR) ⟨blindPBX, va_recv (ci := ci) (q0 := q0) hK hP hc hq, (hpreX hK hN hP hD hST hSR hS hA _).2⟩ rfl hn hl hst (lv_room (m := m) (pc := pc) (ls := ls) (rest := st0) hW) hdg hf
theorem rXS (hx : p.tables.exec = Jvm.exec) (hb : c.code = cc) (hml : c.maxLocals = nL) (hown : s.vm.findClass own = some m.cls) (hg : ∀ w ∈ GW, w.before args s = true) (hN : NW s) (hK : va_K D vwCl tys s) (hP : va_P D vwCl w H) (hD : va_D A w) (hST : ST A s) (hSR : SR s) (hS : va_S A s.heap H locs) (hA : ∀ q, s.heap.size ≤ q → A q)
    (hM : CX l D tys y (.code y bytes maxL ret) d mc ms w As Qc E PX) (m5 : Cond.code y bytes maxL ret ∈ GW) (m1 : Cond.methodLink own index y ∈ GW) (m2 : Cond.static y ∈ GW) (m4 : Cond.initialized y.cls ∈ GW)
    (hd : y.cls ≠ "java/lang/invoke/MethodHandle" ∧ y.cls ≠ "java/lang/invoke/VarHandle" ∧ (parseMethodDescriptor y.desc).map (fun d => d.parameters.length) = some n) (hR : (rmf d mc ms).frames + 1 ≤ R.frames ∧ 8 + (maxL + 11) + (rmf d mc ms).locals ≤ R.locals)
    (hn : As.length = n) (hl : ls.size = nL) (hst : st0 = As.reverse ++ rest) (hW : (rest.map fun v => v.category).sum ≤ 8) (hdg : decode cc pc = .ok (.invokestatic index, 3)) (hf : cells + mc ≤ R.cells ∧ slots + ms ≤ R.slots) :
    vx_Run p l e R s m args below meth c H locs cells slots mc ms (F0 m pc ls st0) rest (Qc (va_A w H.size) As.toArray) (XE D tys PX w E (va_A w H.size)) (va_A w H.size) :=
  vx_runS (As := As) (rest := rest) ⟨hx, hb, hml, hown, hg⟩ (hM H.size) (va_cwS n hg (gw_S m5 m1 m2 m4) rfl rfl rfl hd hR) (hpreX hK hN hP hD hST hSR hS hA _) rfl hn hl hst (lv_room (m := m) (pc := pc) (ls := ls) (rest := st0) hW) hdg hf
variable {H0 : Heap} {a9 : Array Value}
theorem kXI {post : Int32 → va_W → Prop} (hr : vx_Run p l e R s m args below meth c H locs cells slots mc ms (F0 m pc ls st0) rest (QI D tys post (va_A w H.size) a9) (XE D tys PX w E (va_A w H.size)) (va_A w H.size)) (hD : va_D A w) (hS : va_S A H0 H locs) (hA : ∀ q, H0.size ≤ q → A q)
    (kx : ∀ (ce : Cell) (q9 : Addr) (H1 : Heap) (locs1 : List Loc), PX → va_P D vwCl w H1 → va_D A w → va_S A H0 H1 locs1 → H1[q9]? = some ce → ce.vm = .none → s.vm.findClass E = some ce.cls → vx_W p l e R s m args below meth c H1 locs1 (cells + mc) (slots + ms) Q (F0 m pc ls rest) q9)
    (kk : ∀ (r : Int32) (u : va_W) (H1 : Heap) (locs1 : List Loc), post r u → va_P D vwCl u H1 → va_D A u → va_S A H0 H1 locs1 → W p l e R s m args below meth c H1 locs1 (cells + mc) (slots + ms) Q (F0 m (pc + 3) ls (.int r :: rest))) : W p l e R s m args below meth c H locs cells slots Q (F0 m pc ls st0) :=
  vx_calli hr hS (fun q _ h => fr_all hD hS hA q h) (fr_all hD hS hA) (fun q _ h => fr_all hD hS hA q h) (fun E' ce q9 u t H1 locs1 ht hvm hp hB hz hk hS1 h1 h2 h3 => by obtain ⟨hp1, hp2⟩ := hp; subst hp2; obtain ⟨hb1, hb2, -, -⟩ := hB; subst hb1; exact kx ce q9 H1 locs1 hp1 (by rw [← ht]; exact hb2) hD hS1 h1 h2 h3)
    (fun r u t H1 locs1 ht hvm hw hB hz1 hk1 hS1 => kk r u H1 locs1 hw (by rw [← ht]; exact hB.1) (hB.2.2.weaken (fun k q _ h => fr_all hD hS hA q.1 h)) hS1)
theorem kXV {post : va_W → Prop} (hr : vx_Run p l e R s m args below meth c H locs cells slots mc ms (F0 m pc ls st0) rest (QV D tys post (va_A w H.size) a9) (XE D tys PX w E (va_A w H.size)) (va_A w H.size)) (hD : va_D A w) (hS : va_S A H0 H locs) (hA : ∀ q, H0.size ≤ q → A q)
    (kx : ∀ (ce : Cell) (q9 : Addr) (H1 : Heap) (locs1 : List Loc), PX → va_P D vwCl w H1 → va_D A w → va_S A H0 H1 locs1 → H1[q9]? = some ce → ce.vm = .none → s.vm.findClass E = some ce.cls → vx_W p l e R s m args below meth c H1 locs1 (cells + mc) (slots + ms) Q (F0 m pc ls rest) q9)
    (kk : ∀ (u : va_W) (H1 : Heap) (locs1 : List Loc), post u → va_P D vwCl u H1 → va_D A u → va_S A H0 H1 locs1 → W p l e R s m args below meth c H1 locs1 (cells + mc) (slots + ms) Q (F0 m (pc + 3) ls rest)) : W p l e R s m args below meth c H locs cells slots Q (F0 m pc ls st0) :=
  vx_callv hr hS (fun q _ h => fr_all hD hS hA q h) (fr_all hD hS hA) (fun q _ h => fr_all hD hS hA q h) (fun E' ce q9 u t H1 locs1 ht hvm hp hB hz hk hS1 h1 h2 h3 => by obtain ⟨hp1, hp2⟩ := hp; subst hp2; obtain ⟨hb1, hb2, -, -⟩ := hB; subst hb1; exact kx ce q9 H1 locs1 hp1 (by rw [← ht]; exact hb2) hD hS1 h1 h2 h3)
    (fun u t H1 locs1 ht hvm hw hB hz1 hk1 hS1 => kk u H1 locs1 hw (by rw [← ht]; exact hB.1) (hB.2.2.weaken (fun k q _ h => fr_all hD hS hA q.1 h)) hS1)
/-- it goes on to the caller -/
theorem xout {ce : Cell} {q : Addr} (hpx : PX) (hP : va_P D vwCl w H) (hK : va_K D vwCl tys s) (hD : va_D A w) (hE : ∀ x ∈ c.exceptionTable.toList, False) (hlocks : meth.locks = false) (hS : va_S A s.heap H locs) (h1 : H[q]? = some ce) (h2 : ce.vm = .none) (h3 : s.vm.findClass E = some ce.cls) (hc : cells ≤ mc) (hs : slots ≤ ms) :
    vx_W p l e R s m args below meth c H locs cells slots (vx_MQ below (Qc A) (XE D tys PX w E A) args s mc ms A) (F0 m pc ls rest) q :=
  vx_out (fun x hx => (hE x hx).elim) hlocks h1 h2 h3 (fun t ht hv => ⟨w, ⟨hpx, rfl⟩, ⟨rfl, by rw [ht]; exact hP, va_K.moved hv hK, hD⟩, hS.F ht⟩) hS.2.2 hc hs
theorem xE {E' : String} (h : E' = E) (hpx : PX) (hP : va_P D vwCl w H) (hK : va_K D vwCl tys s) (hD : va_D A w) (hS : va_S A s.heap H locs) : ∀ t : State, s.vm.Alike t.vm → H.size ≤ t.heap.size → (∀ q : Nat, q < H.size → t.heap[q]? = H[q]?) → XE D tys PX w E A E' s t :=
  fun t hv h1 h2 => ⟨w, ⟨hpx, rfl⟩, ⟨h, fun k q hq => (hP k q hq).kept (h2 q.1 (hP k q hq).lt), va_K.moved hv hK, hD⟩, Nat.le_trans hS.1 h1, fun q hq hA9 => (h2 q (Nat.lt_of_lt_of_le hq hS.1)).trans (hS.2.1 q hq hA9)⟩
end XX
abbrev CW (l : Launch) (D : va_G) (tys : List (ClassId × FieldType)) (y : MethodName) (ck : Cond) (d mc ms : Nat) (w : va_W) (As : List Value) (Qc : (Nat → Prop) → Array Value → State → Outcome → State → Prop) : Prop :=
  ∀ sz : Nat, Met l y (ck :: GW) (rmf d mc ms) (va_Pc As (PBX D tys w sz)) (Qc (va_A w sz)) mc ms (va_A w sz)
/-- a method with a table, that always returns -/
theorem entW {l : Launch} {D : va_G} {tys : List (ClassId × FieldType)} {y : MethodName} {cc : ByteArray} {maxL : Nat} {ret : Option FieldType} {hh : List (Nat × Nat × Nat × Nat)} {d mc ms : Nat} {w : va_W} {As : List Value} {Qc : (Nat → Prop) → Array Value → State → Outcome → State → Prop} (hy : plainName y.cls = true) (hlen : (lg_sl As).length ≤ maxL)
    (body : ∀ (p : Program) (e : Env) (s : State) (m : MethodId) (below : List Frame) (meth : Method) (c : Code) (ls : Array Slot) (A : Nat → Prop), p.tables.exec = Jvm.exec → c.code = cc → meth.sig.returnType = ret → (∀ w ∈ GW, w.before As.toArray s = true) → s.vm.findClass y.cls = some m.cls → c.maxLocals = maxL → meth.locks = false → meth.name = y.name →
      va_P D vwCl w s.heap → va_K D vwCl tys s → va_D A w → va_S A s.heap s.heap [] → (∀ q, s.heap.size ≤ q → A q) → NW s → lv_has ls maxL (lv_args 0 As) → c.exceptionTable.toList = tableOf hh → ST A s → SR s → A = va_A w s.heap.size →
      W p l e (rmf d mc ms) s m As.toArray below meth c s.heap [] 0 0 (MQ below (Qc A) As.toArray s mc ms A) (F0 m 0 ls [])) : CW l D tys y (.codeWith y cc maxL ret hh) d mc ms w As Qc := by
  intro sz
  refine va_MetW (cc := cc) (maxL := maxL) (ret := ret) (hh := hh) hy rfl ?_
  intro p e s m args below meth c s₁ B hml hv
  obtain ⟨rfl, ⟨hsz, hP, hK, hD0, hN⟩, hST, hSR⟩ := hv
  have hts := atoms_spec (ws := (.codeWith y cc maxL ret hh) :: GW) B.pre
  subst hsz
  have hD := hD0.self (sz := s.heap.size)
  have hl := lv_entry As (n := maxL) hlen
  rw [lg_entry_eq]
  exact body p e s m below meth c _ (va_A w s.heap.size) B.exec B.bytes B.returns (fun w hw => hts w (List.mem_cons_of_mem _ hw)) (findClass_of_methodNamed B.named) hml B.notSynchronized (name_of_methodNamed B.named B.method).1 hP hK hD va_S.rf (fun q h => Or.inr h) hN hl (vx_table (x := y) B (hts _ List.mem_cons_self)) hST hSR rfl
section XL
variable {p : Program} {l : Launch} {e : Env} {R : Room} {s : State} {m : MethodId} {args : Array Value} {below : List Frame} {meth : Method} {c : Code} {H : Heap} {locs : List Loc} {cells slots : Nat} {Q : State → Prop}
variable {cc bytes : ByteArray} {pc : Nat} {ls : Array Slot} {st0 rest : List Value} {D : va_G} {tys : List (ClassId × FieldType)} {A : Nat → Prop} {w wr : va_W}
variable {PX : Prop} {y : MethodName} {maxL nL mc ms n index d q0 ci N b : Nat} {ret : Option FieldType} {own C E : String} {T : u_T} {As fs : List Value} {Qc : (Nat → Prop) → Array Value → State → Outcome → State → Prop} {hh : List (Nat × Nat × Nat × Nat)}
variable {H0 : Heap} {a9 : Array Value}
theorem rSW (hx : p.tables.exec = Jvm.exec) (hb : c.code = cc) (hml : c.maxLocals = nL) (hown : s.vm.findClass own = some m.cls) (hg : ∀ w ∈ GW, w.before args s = true) (hN : NW s) (hK : va_K D vwCl tys s) (hP : va_P D vwCl w H) (hD : va_D A w) (hST : ST A s) (hSR : SR s) (hS : va_S A s.heap H locs) (hA : ∀ q, s.heap.size ≤ q → A q)
    (hM : CW l D tys y (.codeWith y bytes maxL ret hh) d mc ms w As Qc) (m5 : Cond.codeWith y bytes maxL ret hh ∈ GW) (m1 : Cond.methodLink own index y ∈ GW) (m2 : Cond.static y ∈ GW) (m4 : Cond.initialized y.cls ∈ GW)
    (hd : y.cls ≠ "java/lang/invoke/MethodHandle" ∧ y.cls ≠ "java/lang/invoke/VarHandle" ∧ (parseMethodDescriptor y.desc).map (fun d => d.parameters.length) = some n) (hR : (rmf d mc ms).frames + 1 ≤ R.frames ∧ 8 + (maxL + 11) + (rmf d mc ms).locals ≤ R.locals)
    (hn : As.length = n) (hl : ls.size = nL) (hst : st0 = As.reverse ++ rest) (hW : (rest.map fun v => v.category).sum ≤ 8) (hdg : decode cc pc = .ok (.invokestatic index, 3)) (hf : cells + mc ≤ R.cells ∧ slots + ms ≤ R.slots) :
    va_Run p l e R s m args below meth c H locs cells slots mc ms (F0 m pc ls st0) rest (Qc (va_A w H.size) As.toArray) (va_A w H.size) :=
  vx_runSW (As := As) (rest := rest) ⟨hx, hb, hml, hown, hg⟩ (hM H.size) (vx_cwSW n hg (gw_S m5 m1 m2 m4) rfl rfl rfl hd hR) (hpreX hK hN hP hD hST hSR hS hA _) rfl hn hl hst (lv_room (m := m) (pc := pc) (ls := ls) (rest := st0) hW) hdg hf
end XL

