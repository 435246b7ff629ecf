theorem dL_law_0 : decode cL_law 0 = .ok (.new 9, 3) := by decide +kernel
theorem dL_law_3 : decode cL_law 3 = .ok (.dup, 1) := by decide +kernel
theorem dL_law_4 : decode cL_law 4 = .ok (.invokespecial 11, 3) := by decide +kernel
theorem dL_law_7 : decode cL_law 7 = .ok (.astore_n 1, 1) := by decide +kernel
theorem dL_law_8 : decode cL_law 8 = .ok (.iconst 0, 1) := by decide +kernel
theorem dL_law_9 : decode cL_law 9 = .ok (.istore_n 2, 1) := by decide +kernel
theorem mw_715 : Cond.initialized Bundle.tN ∈ GW := gw_mem (inT1 _ (List.mem_of_getElem? (i := 11) rfl)) rfl
theorem mw_716 : Cond.instantiable RX7 6 ∈ GW := gw_mem (inT1 _ (List.mem_of_getElem? (i := 18) rfl)) rfl
theorem mw_717 : Cond.classLink RL 9 RX7 ∈ GW := gw_mem (inT1 _ (List.mem_of_getElem? (i := 17) rfl)) rfl
theorem mw_718 : Cond.code yX7_init cX7_init 1 (none : Option FieldType) ∈ GW := gw_mem (inT1 _ (List.mem_of_getElem? (i := 21) rfl)) rfl
theorem mw_719 : Cond.methodLink RL 11 yX7_init ∈ GW := gw_mem (inT1 _ (List.mem_of_getElem? (i := 19) rfl)) rfl
theorem mw_720 : Cond.instanceMethod yX7_init ∈ GW := gw_mem (inT1 _ (List.mem_of_getElem? (i := 20) rfl)) rfl
theorem pd_X7_init : yX7_init.cls ≠ "java/lang/invoke/MethodHandle" ∧ yX7_init.cls ≠ "java/lang/invoke/VarHandle" ∧ (parseMethodDescriptor yX7_init.desc).map (fun d => d.parameters.length) = some 0 := by decide +kernel
theorem tw_s1 : Cond.laysStatic Bundle.tN "UNASSIGNED_STACK" Bundle.steD ∈ lw_tbl := inT3 _ (List.mem_of_getElem? (i := 212) rfl)
theorem tw_s2 : Cond.laysStatic Bundle.tN "SUPPRESSED_SENTINEL" Bundle.listD ∈ lw_tbl := inT3 _ (List.mem_of_getElem? (i := 214) rfl)
theorem tw_t100 : Cond.stringRef "OrielChart" 100 "neither an IF nor a GO" ∈ lw_tbl := inT4 _ (List.mem_of_getElem? (i := 92) rfl)
theorem tw_t321 : Cond.stringRef "OrielChart" 321 "no such instruction" ∈ lw_tbl := inT4 _ (List.mem_of_getElem? (i := 73) rfl)
theorem arr_known {ty : FieldType} {args : Array Value} {s : State} (h : (Cond.arrayClass ty).before args s = true) (hra : ∀ c1, s.vm.findClass ("[" ++ ty.toString) = some c1 → va_RA s c1 ty) : ∃ cA : ClassId, ArrOfT s cA ty ∧ va_RA s cA ty := by
  obtain ⟨c, k, comp, h1, h2, h3⟩ := Cond.arrayClass_spec h
  exact ⟨c, fun n z => ⟨fun k h => (by cases h), k, h2, comp, h3⟩, hra c h1⟩
theorem str_known {s : State} {b k : Nat} {tx : String} (h1 : (Cond.stringRef "OrielChart" k tx).before #[Value.ref b] s = true) (h2 : (Cond.exactly (Term.string "OrielChart" k) "java/lang/String").before #[Value.ref b] s = true) : ∃ sa : Nat, vk_R "OrielChart" k tx sa s := by
  obtain ⟨a, c, cell, k9, h, -⟩ := Cond.exactly_spec h2
  exact ⟨a, vk_R.of h1 h⟩
theorem st_known {s : State} {b : Nat} (hts : ∀ w ∈ lw_tbl, w.before #[Value.ref b] s = true) (hgv : (Jvm.Cond.and given_1 narrow_1).before #[Value.ref b] s = true) : ST (fun q => s.heap.size ≤ q) s := by
  have hs := flat_of_before _ hgv
  exact ⟨vx_Zqof (hts _ tw_s1) (hts _ (gw_tbl mw_715)) (hs _ (by decide +kernel)) (fun a h => Nat.not_le.mpr h), vx_Zqof (hts _ tw_s2) (hts _ (gw_tbl mw_715)) (hs _ (by decide +kernel)) (fun a h => Nat.not_le.mpr h)⟩
theorem sr_known {s : State} {b : Nat} (hts : ∀ w ∈ lw_tbl, w.before #[Value.ref b] s = true) (hgv : (Jvm.Cond.and given_1 narrow_1).before #[Value.ref b] s = true) : SR s := by
  have hs := flat_of_before _ hgv
  exact ⟨List.forall_mem_cons.mpr ⟨str_known (hts _ tw_t100) (hs _ (by decide +kernel)), List.forall_mem_cons.mpr ⟨str_known (hts _ tw_t321) (hs _ (by decide +kernel)), fun _ h => absurd h List.not_mem_nil⟩⟩, va_Nc.of (args := #[Value.ref b]) (hs _ (by decide +kernel))⟩
theorem kn_known {s : State} {b : Nat} (hts : ∀ w ∈ lw_tbl, w.before #[Value.ref b] s = true) : ∃ (D : va_G) (cI cJ : ClassId), va_K D vwCl (TY cI cJ) s := by
  obtain ⟨c0, iS0, hKn0⟩ := u_known (C := RX0) (T := TX0) (N := 5) (n := 5) hts (fun w h => gw_tbl (inGX0 w h)) (hts (.instantiable RX0 5) (gw_tbl mw_514))
  obtain ⟨c1, iS1, hKn1⟩ := u_known (C := RX1) (T := TX1) (N := 11) (n := 11) hts (fun w h => gw_tbl (inGX1 w h)) (hts (.instantiable RX1 11) (gw_tbl mw_518))
  obtain ⟨c2, iS2, hKn2⟩ := u_known (C := RX2) (T := TX2) (N := 3) (n := 3) hts (fun w h => gw_tbl (inGX2 w h)) (hts (.instantiable RX2 3) (gw_tbl mw_526))
  obtain ⟨c3, iS3, hKn3⟩ := u_known (C := RX3) (T := TX3) (N := 16) (n := 16) hts (fun w h => gw_tbl (inGX3 w h)) (hts (.instantiable RX3 16) (gw_tbl mw_534))
  obtain ⟨c4, iS4, hKn4⟩ := u_known (C := RX4) (T := TX4) (N := 7) (n := 7) hts (fun w h => gw_tbl (inGX4 w h)) (hts (.instantiable RX4 7) (gw_tbl mw_522))
  obtain ⟨c5, iS5, hKn5⟩ := u_known (C := RX5) (T := TX5) (N := 8) (n := 8) hts (fun w h => gw_tbl (inGX5 w h)) (hts (.instantiable RX5 8) (gw_tbl mw_530))
  obtain ⟨c6, iS6, hKn6⟩ := u_known (C := RX6) (T := TX6) (N := 9) (n := 9) hts (fun w h => gw_tbl (inGX6 w h)) (hts (.instantiable RX6 9) (gw_tbl mw_509))
  obtain ⟨c7, iS7, hKn7⟩ := u_known (C := RX7) (T := TX7) (N := 6) (n := 6) hts (fun w h => gw_tbl (inGX7 w h)) (hts (.instantiable RX7 6) (gw_tbl mw_716))
  obtain ⟨cI, hI1, hI2⟩ := arr_known (ty := .int) (hts _ (gw_tbl mw_500)) (fun _ h => h)
  obtain ⟨cJ, hJ1, hJ2⟩ := arr_known (ty := .long) (hts _ (gw_tbl mw_502)) (fun _ h => h)
  refine ⟨(fun k => [c0, c1, c2, c3, c4, c5, c6, c7].getD k c0, fun k => [iS0, iS1, iS2, iS3, iS4, iS5, iS6, iS7].getD k iS0), cI, cJ, ?_, ?_⟩
  · intro k q hq
    match k, hq with
    | 0, hq => cases hq; exact hKn0
    | 1, hq => cases hq; exact hKn1
    | 2, hq => cases hq; exact hKn2
    | 3, hq => cases hq; exact hKn3
    | 4, hq => cases hq; exact hKn4
    | 5, hq => cases hq; exact hKn5
    | 6, hq => cases hq; exact hKn6
    | 7, hq => cases hq; exact hKn7
    | k + 8, hq => simp [vwCl] at hq
  · intro k q hq
    match k, hq with
    | 0, hq => cases hq; exact ⟨hI1, hI2⟩
    | 1, hq => cases hq; exact ⟨hJ1, hJ2⟩
    | k + 2, hq => simp [TY] at hq
set_option maxHeartbeats 4000000 in
set_option maxRecDepth 100000 in
/-- from the entry, for every script of at most 260 ints, the law comes to its end with true -/
theorem whole_start {p : Program} {e : Env} {s : State} {m : MethodId} {below : List Frame} {meth : Method} {c : Code} (l : Launch) (hflags : l.flags = flags0) {b L : Nat} {xs : Nat → Int32} (hL : L ≤ 260) (C0 : lw_At p s m meth c b L xs) : W p l e room_1 s m #[Value.ref b] below meth c s.heap [] 0 0 (lw_Z below #[Value.ref b] s) (entryFrame m ([Value.ref b] : List Value).toArray 5) := by
  obtain ⟨hx, hb, hr, hml, hown, hts, hX, hbl, hlocks, hgv⟩ := id C0
  have hfl : l.stackTraces = false := by unfold Launch.stackTraces; rw [hflags]; decide +kernel
  have hg : ∀ w ∈ GW, w.before #[Value.ref b] s = true := fun w hw => hts w (gw_tbl hw)
  obtain ⟨A, hAe⟩ : ∃ z : Nat → Prop, z = fun q : Nat => s.heap.size ≤ q := ⟨_, rfl⟩
  have hST : ST A s := by rw [hAe]; exact st_known hts hgv
  have hSR : SR s := sr_known hts hgv
  have hN : NW s := fun w hw => nest_of (List.all_eq_true.mp nl_all w hw) (hts w (nl_tbl w hw))
  obtain ⟨D, cI, cJ, hK⟩ := kn_known hts
  have hA : ∀ q, s.heap.size ≤ q → A q := fun q h => by rw [hAe]; exact h
  have hAl : ∀ q, A q → s.heap.size ≤ q := fun q h => by rw [hAe] at h; exact h
  have hbA : ¬ A b := fun h => absurd (hAl b h) (Nat.not_le.mpr hbl)
  have hS : va_S A s.heap s.heap [] := va_S.rf
  have hP : va_P D vwCl [] s.heap := fun k q h => by simp at h
  have hD : va_D A [] := ⟨fun i j p q h => by simp at h, fun k q h => by simp at h⟩
  have hl := lv_entry ([.ref b]) (n := 5) (Nat.le_of_ble_eq_true rfl)
  rw [lg_entry_eq]
  generalize (lg_sl ([.ref b]) ++ List.replicate (5 - (lg_sl ([.ref b])).length) Slot.unset).toArray = ls at hl ⊢
  have hl : lv_has ls 5 [(0, .ref b)] := hl
  refine va_new (ci := 7) (fs := [.null, .null, .null, .null, .null, .null]) (C := RX7) (T := TX7) (N := 6) hx hb hg inGX7 tyX7 tyX7_ok hown (hg _ mw_717) (hg _ mw_716) (hg _ mw_77) hK hP hD hS hA rfl df_X7 (Nat.le_of_ble_eq_true rfl) (Nat.le_of_ble_eq_true rfl) dL_law_0 (fun q_1 H hP hD hS => ?_)
  have hP : va_P D vwCl [(q_1, .inr (7, [.null, .null, .null, .null, .null, .null]))] H := mvP hP
  have hD : va_D A [(q_1, .inr (7, [.null, .null, .null, .null, .null, .null]))] := mvD hD
  refine lv_dup hx hb dL_law_3 rfl ?_
  refine kV (rI hx hb hml hown hg hN hK hP hD (i_X7 l D cI cJ q_1) mw_718 mw_719 mw_720 mw_77 rfl pd_X7_init ⟨Nat.le_of_ble_eq_true rfl, Nat.le_of_ble_eq_true rfl⟩ rfl hl.1 rfl (Nat.le_of_ble_eq_true rfl) dL_law_4 ⟨Nat.le_of_ble_eq_true rfl, Nat.le_of_ble_eq_true rfl⟩) hD hS hA (fun u_2 H locs hp hP hD hS => ?_)
  obtain ⟨ad, had, rfl⟩ := hp
  have hP9 := hP
  have hD9 := hD
  subst had
  have hP := hP9
  have hD := hD9
  refine lv_astore_n (lv' := [(1, .ref (ad 0)), (0, .ref b)]) hx hb dL_law_7 rfl hl (by decide) rfl (fun ls hl => ?_)
  refine lv_iconst (v := 0) hx hb dL_law_8 (by decide) ?_
  refine lv_istore_n (lv' := [(2, .int 0), (1, .ref (ad 0)), (0, .ref b)]) hx hb dL_law_9 rfl hl (by decide) rfl (fun ls hl => ?_)
  exact law_loop hL hfl D cI cJ ad C0 hN hST hSR hK hA hAl hbA 48 0 rfl 0 z9 z9 z9 z9 z9 z9 z9 INV.zero H locs ls hP hD hS (lv_sub hl [2, 1, 0] rfl)
