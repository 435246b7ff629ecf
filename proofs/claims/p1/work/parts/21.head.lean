theorem dL_law_32 : decode cL_law 32 = .ok (.aload_n 0, 1) := by decide +kernel
theorem dL_law_33 : decode cL_law 33 = .ok (.iload 4, 2) := by decide +kernel
theorem dL_law_35 : decode cL_law 35 = .ok (.iaload, 1) := by decide +kernel
theorem dL_law_36 : decode cL_law 36 = .ok (.bipush 63, 2) := by decide +kernel
theorem dL_law_38 : decode cL_law 38 = .ok (.iand, 1) := by decide +kernel
theorem dL_law_39 : decode cL_law 39 = .ok (.tableswitch 2240 0 44 #[193, 273, 329, 397, 477, 490, 546, 602, 615, 671, 727, 790, 803, 859, 915, 990, 1046, 1121, 1184, 1197, 1253, 1309, 1322, 1378, 1391, 1404, 1417, 1473, 1529, 1542, 1555, 1611, 1624, 1680, 1743, 1799, 1867, 1923, 1979, 2047, 2060, 2116, 2172, 2185, 2226], 193) := by decide +kernel
theorem mw_997 : Cond.initialized Bundle.tN ∈ GW := gw_mem (inT1 _ (List.mem_of_getElem? (i := 10) rfl)) rfl
theorem mw_998 : Cond.instantiable RX7 6 ∈ GW := gw_mem (inT1 _ (List.mem_of_getElem? (i := 23) rfl)) rfl
theorem mw_999 : Cond.instantiable RX8 32 ∈ GW := gw_mem (inT5 _ (List.mem_of_getElem? (i := 155) rfl)) rfl
theorem tw_over : Cond.arrayOver (.array .int) ∈ lw_tbl := inT5 _ (List.mem_of_getElem? (i := 161) rfl)
theorem tw_s1 : Cond.laysStatic Bundle.tN "UNASSIGNED_STACK" Bundle.steD ∈ lw_tbl := inT4 _ (List.mem_of_getElem? (i := 20) rfl)
theorem tw_s2 : Cond.laysStatic Bundle.tN "SUPPRESSED_SENTINEL" Bundle.listD ∈ lw_tbl := inT4 _ (List.mem_of_getElem? (i := 22) rfl)
theorem tw_t57 : Cond.stringRef "OrielChart" 57 "no such place" ∈ lw_tbl := inT4 _ (List.mem_of_getElem? (i := 34) rfl)
theorem tw_t62 : Cond.stringRef "OrielChart" 62 "no such kind" ∈ lw_tbl := inT4 _ (List.mem_of_getElem? (i := 61) rfl)
theorem tw_t71 : Cond.stringRef "OrielChart" 71 "no such target" ∈ lw_tbl := inT4 _ (List.mem_of_getElem? (i := 66) rfl)
theorem tw_t75 : Cond.stringRef "OrielChart" 75 "there are 40 instructions" ∈ lw_tbl := inT4 _ (List.mem_of_getElem? (i := 76) rfl)
theorem tw_t321 : Cond.stringRef "OrielChart" 321 "no such instruction" ∈ lw_tbl := inT4 _ (List.mem_of_getElem? (i := 125) rfl)
theorem tw_t323 : Cond.stringRef "OrielChart" 323 "no such block" ∈ lw_tbl := inT4 _ (List.mem_of_getElem? (i := 186) rfl)
theorem tw_t325 : Cond.stringRef "OrielChart" 325 "no such edge" ∈ lw_tbl := inT4 _ (List.mem_of_getElem? (i := 205) rfl)
theorem tw_t327 : Cond.stringRef "OrielChart" 327 "no such step" ∈ lw_tbl := inT5 _ (List.mem_of_getElem? (i := 38) rfl)
theorem tw_t329 : Cond.stringRef "OrielChart" 329 "no such layer" ∈ lw_tbl := inT5 _ (List.mem_of_getElem? (i := 78) rfl)
theorem tw_t331 : Cond.stringRef "OrielChart" 331 "1 to 20 sweeps only" ∈ lw_tbl := inT5 _ (List.mem_of_getElem? (i := 122) rfl)
theorem arr_known {ty : FieldType} {args : Array Value} {s : State} (h : (Cond.arrayClass ty).before args s = true) (hra : ∀ c1, s.vm.findClass ("[" ++ ty.toString) = some c1 → va_RA s c1 ty) : ∃ cA : ClassId, ArrOfT s cA ty ∧ va_RA s cA ty := by
  obtain ⟨c, k, comp, h1, h2, h3⟩ := Cond.arrayClass_spec h
  exact ⟨c, fun n z => ⟨fun k h => (by cases h), k, h2, comp, h3⟩, hra c h1⟩
theorem over_known {args : Array Value} {s : State} (h : (Cond.arrayOver (.array .int)).before args s = true) : ∃ cA : ClassId, ArrOfT s cA (.array .int) ∧ va_RA s cA (.array .int) := by
  obtain ⟨comp, c, k, h1, h2, h3, h4, h5⟩ := arrayOverA_spec h
  exact ⟨c, fun n z => ⟨fun k h => (by cases h), k, h3, comp, h4⟩, h5⟩
theorem str_known {s : State} {b k : Nat} {tx : String} (h1 : (Cond.stringRef "OrielChart" k tx).before #[Value.ref b] s = true) (h2 : (Cond.exactly (Term.string "OrielChart" k) "java/lang/String").before #[Value.ref b] s = true) : ∃ sa : Nat, vk_R "OrielChart" k tx sa s := by
  obtain ⟨a, c, cell, k9, h, -⟩ := Cond.exactly_spec h2
  exact ⟨a, vk_R.of h1 h⟩
theorem st_known {s : State} {b : Nat} (hts : ∀ w ∈ lw_tbl, w.before #[Value.ref b] s = true) (hgv : (Jvm.Cond.and given_1 narrow_1).before #[Value.ref b] s = true) : ST (fun q => s.heap.size ≤ q) s := by
  have hs := flat_of_before _ hgv
  exact ⟨vx_Zqof (hts _ tw_s1) (hts _ (gw_tbl mw_997)) (hs _ (by decide +kernel)) (fun a h => Nat.not_le.mpr h), vx_Zqof (hts _ tw_s2) (hts _ (gw_tbl mw_997)) (hs _ (by decide +kernel)) (fun a h => Nat.not_le.mpr h)⟩
theorem sr_known {s : State} {b : Nat} (hts : ∀ w ∈ lw_tbl, w.before #[Value.ref b] s = true) (hgv : (Jvm.Cond.and given_1 narrow_1).before #[Value.ref b] s = true) : SR s := by
  have hs := flat_of_before _ hgv
  exact List.forall_mem_cons.mpr ⟨str_known (hts _ tw_t57) (hs _ (by decide +kernel)), List.forall_mem_cons.mpr ⟨str_known (hts _ tw_t62) (hs _ (by decide +kernel)), List.forall_mem_cons.mpr ⟨str_known (hts _ tw_t71) (hs _ (by decide +kernel)), List.forall_mem_cons.mpr ⟨str_known (hts _ tw_t75) (hs _ (by decide +kernel)), List.forall_mem_cons.mpr ⟨str_known (hts _ tw_t321) (hs _ (by decide +kernel)), List.forall_mem_cons.mpr ⟨str_known (hts _ tw_t323) (hs _ (by decide +kernel)), List.forall_mem_cons.mpr ⟨str_known (hts _ tw_t325) (hs _ (by decide +kernel)), List.forall_mem_cons.mpr ⟨str_known (hts _ tw_t327) (hs _ (by decide +kernel)), List.forall_mem_cons.mpr ⟨str_known (hts _ tw_t329) (hs _ (by decide +kernel)), List.forall_mem_cons.mpr ⟨str_known (hts _ tw_t331) (hs _ (by decide +kernel)), fun _ h => absurd h List.not_mem_nil⟩⟩⟩⟩⟩⟩⟩⟩⟩⟩
theorem kn_known {s : State} {b : Nat} (hts : ∀ w ∈ lw_tbl, w.before #[Value.ref b] s = true) : ∃ (D : va_G) (cI cJ cZ cO : ClassId), va_K D vwCl (TO cI cJ cZ cO) s := by
  obtain ⟨c0, iS0, hKn0⟩ := u_known (C := RX0) (T := TX0) (N := 5) (n := 5) hts (fun w h => gw_tbl (inGX0 w h)) (hts (.instantiable RX0 5) (gw_tbl mw_507))
  obtain ⟨c1, iS1, hKn1⟩ := u_known (C := RX1) (T := TX1) (N := 11) (n := 11) hts (fun w h => gw_tbl (inGX1 w h)) (hts (.instantiable RX1 11) (gw_tbl mw_511))
  obtain ⟨c2, iS2, hKn2⟩ := u_known (C := RX2) (T := TX2) (N := 3) (n := 3) hts (fun w h => gw_tbl (inGX2 w h)) (hts (.instantiable RX2 3) (gw_tbl mw_519))
  obtain ⟨c3, iS3, hKn3⟩ := u_known (C := RX3) (T := TX3) (N := 16) (n := 16) hts (fun w h => gw_tbl (inGX3 w h)) (hts (.instantiable RX3 16) (gw_tbl mw_527))
  obtain ⟨c4, iS4, hKn4⟩ := u_known (C := RX4) (T := TX4) (N := 7) (n := 7) hts (fun w h => gw_tbl (inGX4 w h)) (hts (.instantiable RX4 7) (gw_tbl mw_515))
  obtain ⟨c5, iS5, hKn5⟩ := u_known (C := RX5) (T := TX5) (N := 8) (n := 8) hts (fun w h => gw_tbl (inGX5 w h)) (hts (.instantiable RX5 8) (gw_tbl mw_523))
  obtain ⟨c6, iS6, hKn6⟩ := u_known (C := RX6) (T := TX6) (N := 9) (n := 9) hts (fun w h => gw_tbl (inGX6 w h)) (hts (.instantiable RX6 9) (gw_tbl mw_493))
  obtain ⟨c7, iS7, hKn7⟩ := u_known (C := RX7) (T := TX7) (N := 6) (n := 6) hts (fun w h => gw_tbl (inGX7 w h)) (hts (.instantiable RX7 6) (gw_tbl mw_998))
  obtain ⟨c8, iS8, hKn8⟩ := u_known (C := RX8) (T := TX8) (N := 32) (n := 32) hts (fun w h => gw_tbl (inGX8 w h)) (hts (.instantiable RX8 32) (gw_tbl mw_999))
  obtain ⟨cI, hI1, hI2⟩ := arr_known (ty := .int) (hts _ (gw_tbl mw_389)) (fun _ h => h)
  obtain ⟨cJ, hJ1, hJ2⟩ := arr_known (ty := .long) (hts _ (gw_tbl mw_480)) (fun _ h => h)
  obtain ⟨cZ, hZ1, hZ2⟩ := arr_known (ty := .boolean) (hts _ (gw_tbl mw_388)) (fun _ h => h)
  obtain ⟨cO, hO1, hO2⟩ := over_known (hts _ tw_over)
  refine ⟨(fun k => [c0, c1, c2, c3, c4, c5, c6, c7, c8].getD k c0, fun k => [iS0, iS1, iS2, iS3, iS4, iS5, iS6, iS7, iS8].getD k iS0), cI, cJ, cZ, cO, ?_, ?_⟩
  · intro k q hq
    match k, hq with
    | 0, hq => cases hq; exact hKn0
    | 1, hq => cases hq; exact hKn1
    | 2, hq => cases hq; exact hKn2
    | 3, hq => cases hq; exact hKn3
    | 4, hq => cases hq; exact hKn4
    | 5, hq => cases hq; exact hKn5
    | 6, hq => cases hq; exact hKn6
    | 7, hq => cases hq; exact hKn7
    | 8, hq => cases hq; exact hKn8
    | k + 9, hq => simp [vwCl] at hq
  · intro k q hq
    match k, hq with
    | 0, hq => cases hq; exact ⟨hI1, hI2⟩
    | 1, hq => cases hq; exact ⟨hJ1, hJ2⟩
    | 2, hq => cases hq; exact ⟨hZ1, hZ2⟩
    | 3, hq => cases hq; exact ⟨hO1, hO2⟩
    | k + 4, hq => simp [TO] at hq
set_option maxHeartbeats 4000000 in
set_option maxRecDepth 100000 in
theorem lc_sw {p : Program} {l : Launch} {e : Env} {s : State} {m : MethodId} {below : List Frame} {meth : Method} {c : Code} {b : Nat} {xs : Nat → Int32} {A : Nat → Prop} {H : Heap} {locs : List Loc} {ls : Array Slot} (hfl : l.stackTraces = false) (D : va_G) (cI cJ cZ cO : ClassId) (ad : Nat → Nat) (bf : Nat → Int32) (hb0 : ∀ k, bf k = 0) (F : Nat → Nat → Int32) (G : Nat → Nat → Int64) (ao : Nat) (g : Nat → Int64) (am : Nat → Nat) (qo : Nat) (F2 : Nat → Nat → Int32) (G2 : Nat → Nat → Int64) (C0 : lw_At p s m meth c b 4 xs) (hN : NW s) (hST : ST A s) (hSR : SR s) (hK : va_K D vwCl (TO cI cJ cZ cO) s) (hA : ∀ q, s.heap.size ≤ q → A q) (hAl : ∀ q, A q → s.heap.size ≤ q) (hbA : ¬ A b) (hP : va_P D vwCl (XW ad cI cJ 0 bf F G ++ MW (ao, .inl (cJ, 1, .inr (.inl g))) am cI cJ cZ cO 0 0 0 0 0 qo F2 G2) H) (hD : va_D A (XW ad cI cJ 0 bf F G ++ MW (ao, .inl (cJ, 1, .inr (.inl g))) am cI cJ cZ cO 0 0 0 0 0 qo F2 G2)) (hS : va_S A s.heap H locs) (hl : lv_has ls 9 [(0, .ref b), (1, .ref (ad 0)), (2, .ref (am 1)), (3, .ref ao), (4, .int 0)]) (j : Nat) (hj : j < 64) : W p l e room_1 s m #[Value.ref b] below meth c H locs 67 9542 (lw_Z below #[Value.ref b] s) (F0 m 39 ls [.int (nI j)]) := by
  obtain ⟨hx, hb, hr, hml, hown, hts, hX, hbl, hlocks, hgv⟩ := id C0
  match j, hj with
  | 0, _ => exact lv_tableIn (off := 193) (tgt := 232) hx hb dL_law_39 (by decide) (by decide) rfl (by decide) (lc_0 hfl D cI cJ cZ cO ad bf hb0 F G ao g am qo F2 G2 C0 hN hST hSR hK hA hAl hbA hP hD hS hl)
  | 1, _ => exact lv_tableIn (off := 273) (tgt := 312) hx hb dL_law_39 (by decide) (by decide) rfl (by decide) (lc_1 hfl D cI cJ cZ cO ad bf hb0 F G ao g am qo F2 G2 C0 hN hST hSR hK hA hAl hbA hP hD hS hl)
  | 2, _ => exact lv_tableIn (off := 329) (tgt := 368) hx hb dL_law_39 (by decide) (by decide) rfl (by decide) (lc_2 hfl D cI cJ cZ cO ad bf hb0 F G ao g am qo F2 G2 C0 hN hST hSR hK hA hAl hbA hP hD hS hl)
  | 3, _ => exact lv_tableIn (off := 397) (tgt := 436) hx hb dL_law_39 (by decide) (by decide) rfl (by decide) (lc_3 hfl D cI cJ cZ cO ad bf hb0 F G ao g am qo F2 G2 C0 hN hST hSR hK hA hAl hbA hP hD hS hl)
  | 4, _ => exact lv_tableIn (off := 477) (tgt := 516) hx hb dL_law_39 (by decide) (by decide) rfl (by decide) (lc_4 hfl D cI cJ cZ cO ad bf hb0 F G ao g am qo F2 G2 C0 hN hST hSR hK hA hAl hbA hP hD hS hl)
  | 5, _ => exact lv_tableIn (off := 490) (tgt := 529) hx hb dL_law_39 (by decide) (by decide) rfl (by decide) (lc_5 hfl D cI cJ cZ cO ad bf hb0 F G ao g am qo F2 G2 C0 hN hST hSR hK hA hAl hbA hP hD hS hl)
  | 6, _ => exact lv_tableIn (off := 546) (tgt := 585) hx hb dL_law_39 (by decide) (by decide) rfl (by decide) (lc_6 hfl D cI cJ cZ cO ad bf hb0 F G ao g am qo F2 G2 C0 hN hST hSR hK hA hAl hbA hP hD hS hl)
  | 7, _ => exact lv_tableIn (off := 602) (tgt := 641) hx hb dL_law_39 (by decide) (by decide) rfl (by decide) (lc_7 hfl D cI cJ cZ cO ad bf hb0 F G ao g am qo F2 G2 C0 hN hST hSR hK hA hAl hbA hP hD hS hl)
  | 8, _ => exact lv_tableIn (off := 615) (tgt := 654) hx hb dL_law_39 (by decide) (by decide) rfl (by decide) (lc_8 hfl D cI cJ cZ cO ad bf hb0 F G ao g am qo F2 G2 C0 hN hST hSR hK hA hAl hbA hP hD hS hl)
  | 9, _ => exact lv_tableIn (off := 671) (tgt := 710) hx hb dL_law_39 (by decide) (by decide) rfl (by decide) (lc_9 hfl D cI cJ cZ cO ad bf hb0 F G ao g am qo F2 G2 C0 hN hST hSR hK hA hAl hbA hP hD hS hl)
  | 10, _ => exact lv_tableIn (off := 727) (tgt := 766) hx hb dL_law_39 (by decide) (by decide) rfl (by decide) (lc_10 hfl D cI cJ cZ cO ad bf hb0 F G ao g am qo F2 G2 C0 hN hST hSR hK hA hAl hbA hP hD hS hl)
  | 11, _ => exact lv_tableIn (off := 790) (tgt := 829) hx hb dL_law_39 (by decide) (by decide) rfl (by decide) (lc_11 hfl D cI cJ cZ cO ad bf hb0 F G ao g am qo F2 G2 C0 hN hST hSR hK hA hAl hbA hP hD hS hl)
  | 12, _ => exact lv_tableIn (off := 803) (tgt := 842) hx hb dL_law_39 (by decide) (by decide) rfl (by decide) (lc_12 hfl D cI cJ cZ cO ad bf hb0 F G ao g am qo F2 G2 C0 hN hST hSR hK hA hAl hbA hP hD hS hl)
  | 13, _ => exact lv_tableIn (off := 859) (tgt := 898) hx hb dL_law_39 (by decide) (by decide) rfl (by decide) (lc_13 hfl D cI cJ cZ cO ad bf hb0 F G ao g am qo F2 G2 C0 hN hST hSR hK hA hAl hbA hP hD hS hl)
  | 14, _ => exact lv_tableIn (off := 915) (tgt := 954) hx hb dL_law_39 (by decide) (by decide) rfl (by decide) (lc_14 hfl D cI cJ cZ cO ad bf hb0 F G ao g am qo F2 G2 C0 hN hST hSR hK hA hAl hbA hP hD hS hl)
  | 15, _ => exact lv_tableIn (off := 990) (tgt := 1029) hx hb dL_law_39 (by decide) (by decide) rfl (by decide) (lc_15 hfl D cI cJ cZ cO ad bf hb0 F G ao g am qo F2 G2 C0 hN hST hSR hK hA hAl hbA hP hD hS hl)
  | 16, _ => exact lv_tableIn (off := 1046) (tgt := 1085) hx hb dL_law_39 (by decide) (by decide) rfl (by decide) (lc_16 hfl D cI cJ cZ cO ad bf hb0 F G ao g am qo F2 G2 C0 hN hST hSR hK hA hAl hbA hP hD hS hl)
  | 17, _ => exact lv_tableIn (off := 1121) (tgt := 1160) hx hb dL_law_39 (by decide) (by decide) rfl (by decide) (lc_17 hfl D cI cJ cZ cO ad bf hb0 F G ao g am qo F2 G2 C0 hN hST hSR hK hA hAl hbA hP hD hS hl)
  | 18, _ => exact lv_tableIn (off := 1184) (tgt := 1223) hx hb dL_law_39 (by decide) (by decide) rfl (by decide) (lc_18 hfl D cI cJ cZ cO ad bf hb0 F G ao g am qo F2 G2 C0 hN hST hSR hK hA hAl hbA hP hD hS hl)
  | 19, _ => exact lv_tableIn (off := 1197) (tgt := 1236) hx hb dL_law_39 (by decide) (by decide) rfl (by decide) (lc_19 hfl D cI cJ cZ cO ad bf hb0 F G ao g am qo F2 G2 C0 hN hST hSR hK hA hAl hbA hP hD hS hl)
  | 20, _ => exact lv_tableIn (off := 1253) (tgt := 1292) hx hb dL_law_39 (by decide) (by decide) rfl (by decide) (lc_20 hfl D cI cJ cZ cO ad bf hb0 F G ao g am qo F2 G2 C0 hN hST hSR hK hA hAl hbA hP hD hS hl)
  | 21, _ => exact lv_tableIn (off := 1309) (tgt := 1348) hx hb dL_law_39 (by decide) (by decide) rfl (by decide) (lc_21 hfl D cI cJ cZ cO ad bf hb0 F G ao g am qo F2 G2 C0 hN hST hSR hK hA hAl hbA hP hD hS hl)
  | 22, _ => exact lv_tableIn (off := 1322) (tgt := 1361) hx hb dL_law_39 (by decide) (by decide) rfl (by decide) (lc_22 hfl D cI cJ cZ cO ad bf hb0 F G ao g am qo F2 G2 C0 hN hST hSR hK hA hAl hbA hP hD hS hl)
  | 23, _ => exact lv_tableIn (off := 1378) (tgt := 1417) hx hb dL_law_39 (by decide) (by decide) rfl (by decide) (lc_23 hfl D cI cJ cZ cO ad bf hb0 F G ao g am qo F2 G2 C0 hN hST hSR hK hA hAl hbA hP hD hS hl)
  | 24, _ => exact lv_tableIn (off := 1391) (tgt := 1430) hx hb dL_law_39 (by decide) (by decide) rfl (by decide) (lc_24 hfl D cI cJ cZ cO ad bf hb0 F G ao g am qo F2 G2 C0 hN hST hSR hK hA hAl hbA hP hD hS hl)
  | 25, _ => exact lv_tableIn (off := 1404) (tgt := 1443) hx hb dL_law_39 (by decide) (by decide) rfl (by decide) (lc_25 hfl D cI cJ cZ cO ad bf hb0 F G ao g am qo F2 G2 C0 hN hST hSR hK hA hAl hbA hP hD hS hl)
  | 26, _ => exact lv_tableIn (off := 1417) (tgt := 1456) hx hb dL_law_39 (by decide) (by decide) rfl (by decide) (lc_26 hfl D cI cJ cZ cO ad bf hb0 F G ao g am qo F2 G2 C0 hN hST hSR hK hA hAl hbA hP hD hS hl)
  | 27, _ => exact lv_tableIn (off := 1473) (tgt := 1512) hx hb dL_law_39 (by decide) (by decide) rfl (by decide) (lc_27 hfl D cI cJ cZ cO ad bf hb0 F G ao g am qo F2 G2 C0 hN hST hSR hK hA hAl hbA hP hD hS hl)
  | 28, _ => exact lv_tableIn (off := 1529) (tgt := 1568) hx hb dL_law_39 (by decide) (by decide) rfl (by decide) (lc_28 hfl D cI cJ cZ cO ad bf hb0 F G ao g am qo F2 G2 C0 hN hST hSR hK hA hAl hbA hP hD hS hl)
  | 29, _ => exact lv_tableIn (off := 1542) (tgt := 1581) hx hb dL_law_39 (by decide) (by decide) rfl (by decide) (lc_29 hfl D cI cJ cZ cO ad bf hb0 F G ao g am qo F2 G2 C0 hN hST hSR hK hA hAl hbA hP hD hS hl)
  | 30, _ => exact lv_tableIn (off := 1555) (tgt := 1594) hx hb dL_law_39 (by decide) (by decide) rfl (by decide) (lc_30 hfl D cI cJ cZ cO ad bf hb0 F G ao g am qo F2 G2 C0 hN hST hSR hK hA hAl hbA hP hD hS hl)
  | 31, _ => exact lv_tableIn (off := 1611) (tgt := 1650) hx hb dL_law_39 (by decide) (by decide) rfl (by decide) (lc_31 hfl D cI cJ cZ cO ad bf hb0 F G ao g am qo F2 G2 C0 hN hST hSR hK hA hAl hbA hP hD hS hl)
  | 32, _ => exact lv_tableIn (off := 1624) (tgt := 1663) hx hb dL_law_39 (by decide) (by decide) rfl (by decide) (lc_32 hfl D cI cJ cZ cO ad bf hb0 F G ao g am qo F2 G2 C0 hN hST hSR hK hA hAl hbA hP hD hS hl)
  | 33, _ => exact lv_tableIn (off := 1680) (tgt := 1719) hx hb dL_law_39 (by decide) (by decide) rfl (by decide) (lc_33 hfl D cI cJ cZ cO ad bf hb0 F G ao g am qo F2 G2 C0 hN hST hSR hK hA hAl hbA hP hD hS hl)
  | 34, _ => exact lv_tableIn (off := 1743) (tgt := 1782) hx hb dL_law_39 (by decide) (by decide) rfl (by decide) (lc_34 hfl D cI cJ cZ cO ad bf hb0 F G ao g am qo F2 G2 C0 hN hST hSR hK hA hAl hbA hP hD hS hl)
  | 35, _ => exact lv_tableIn (off := 1799) (tgt := 1838) hx hb dL_law_39 (by decide) (by decide) rfl (by decide) (lc_35 hfl D cI cJ cZ cO ad bf hb0 F G ao g am qo F2 G2 C0 hN hST hSR hK hA hAl hbA hP hD hS hl)
  | 36, _ => exact lv_tableIn (off := 1867) (tgt := 1906) hx hb dL_law_39 (by decide) (by decide) rfl (by decide) (lc_36 hfl D cI cJ cZ cO ad bf hb0 F G ao g am qo F2 G2 C0 hN hST hSR hK hA hAl hbA hP hD hS hl)
  | 37, _ => exact lv_tableIn (off := 1923) (tgt := 1962) hx hb dL_law_39 (by decide) (by decide) rfl (by decide) (lc_37 hfl D cI cJ cZ cO ad bf hb0 F G ao g am qo F2 G2 C0 hN hST hSR hK hA hAl hbA hP hD hS hl)
  | 38, _ => exact lv_tableIn (off := 1979) (tgt := 2018) hx hb dL_law_39 (by decide) (by decide) rfl (by decide) (lc_38 hfl D cI cJ cZ cO ad bf hb0 F G ao g am qo F2 G2 C0 hN hST hSR hK hA hAl hbA hP hD hS hl)
  | 39, _ => exact lv_tableIn (off := 2047) (tgt := 2086) hx hb dL_law_39 (by decide) (by decide) rfl (by decide) (lc_39 hfl D cI cJ cZ cO ad bf hb0 F G ao g am qo F2 G2 C0 hN hST hSR hK hA hAl hbA hP hD hS hl)
  | 40, _ => exact lv_tableIn (off := 2060) (tgt := 2099) hx hb dL_law_39 (by decide) (by decide) rfl (by decide) (lc_40 hfl D cI cJ cZ cO ad bf hb0 F G ao g am qo F2 G2 C0 hN hST hSR hK hA hAl hbA hP hD hS hl)
  | 41, _ => exact lv_tableIn (off := 2116) (tgt := 2155) hx hb dL_law_39 (by decide) (by decide) rfl (by decide) (lc_41 hfl D cI cJ cZ cO ad bf hb0 F G ao g am qo F2 G2 C0 hN hST hSR hK hA hAl hbA hP hD hS hl)
  | 42, _ => exact lv_tableIn (off := 2172) (tgt := 2211) hx hb dL_law_39 (by decide) (by decide) rfl (by decide) (lc_42 hfl D cI cJ cZ cO ad bf hb0 F G ao g am qo F2 G2 C0 hN hST hSR hK hA hAl hbA hP hD hS hl)
  | 43, _ => exact lv_tableIn (off := 2185) (tgt := 2224) hx hb dL_law_39 (by decide) (by decide) rfl (by decide) (lc_43 hfl D cI cJ cZ cO ad bf hb0 F G ao g am qo F2 G2 C0 hN hST hSR hK hA hAl hbA hP hD hS hl)
  | 44, _ => exact lv_tableIn (off := 2226) (tgt := 2265) hx hb dL_law_39 (by decide) (by decide) rfl (by decide) (lc_44 hfl D cI cJ cZ cO ad bf hb0 F G ao g am qo F2 G2 C0 hN hST hSR hK hA hAl hbA hP hD hS hl)
  | n + 45, h => exact lv_tableOut (tgt := 2279) hx hb dL_law_39 (Or.inr (by rw [nI_toInt (by omega)]; omega)) (by decide) (lc_end C0 hAl hbA hS (lv_sub hl [0, 4] rfl) (Nat.le_of_ble_eq_true rfl) (Nat.le_of_ble_eq_true rfl))
set_option maxHeartbeats 4000000 in
set_option maxRecDepth 100000 in
theorem lc_head {p : Program} {l : Launch} {e : Env} {s : State} {m : MethodId} {below : List Frame} {meth : Method} {c : Code} {b : Nat} {xs : Nat → Int32} {A : Nat → Prop} {H : Heap} {locs : List Loc} {ls : Array Slot} {L : Nat} (hL : L ≤ 4) (hfl : l.stackTraces = false) (D : va_G) (cI cJ cZ cO : ClassId) (ad : Nat → Nat) (bf : Nat → Int32) (hb0 : ∀ k, bf k = 0) (F : Nat → Nat → Int32) (G : Nat → Nat → Int64) (ao : Nat) (g : Nat → Int64) (am : Nat → Nat) (qo : Nat) (F2 : Nat → Nat → Int32) (G2 : Nat → Nat → Int64) (C0 : lw_At p s m meth c b L xs) (hN : NW s) (hST : ST A s) (hSR : SR s) (hK : va_K D vwCl (TO cI cJ cZ cO) s) (hA : ∀ q, s.heap.size ≤ q → A q) (hAl : ∀ q, A q → s.heap.size ≤ q) (hbA : ¬ A b) (hP : va_P D vwCl (XW ad cI cJ 0 bf F G ++ MW (ao, .inl (cJ, 1, .inr (.inl g))) am cI cJ cZ cO 0 0 0 0 0 qo F2 G2) H) (hD : va_D A (XW ad cI cJ 0 bf F G ++ MW (ao, .inl (cJ, 1, .inr (.inl g))) am cI cJ cZ cO 0 0 0 0 0 qo F2 G2)) (hS : va_S A s.heap H locs) (hl : lv_has ls 9 [(0, .ref b), (1, .ref (ad 0)), (2, .ref (am 1)), (3, .ref ao), (4, .int 0)]) : W p l e room_1 s m #[Value.ref b] below meth c H locs 67 9542 (lw_Z below #[Value.ref b] s) (F0 m 23 ls []) := by
  obtain ⟨hx, hb, hr, hml, hown, hts, hX, hbl, hlocks, hgv⟩ := id C0
  refine lv_iload hx hb dL_law_23 (lv_at hl 4 rfl) ?_
  refine lv_aload_n hx hb dL_law_25 rfl (lv_at hl 0 rfl) ?_
  refine va_slen hx hb hX hbl hbA hS dL_law_26 ?_
  refine lv_iconst (v := 4) hx hb dL_law_27 (by decide) ?_
  refine lv_isub hx hb dL_law_28 ?_
  match L, hL, C0, hX with
  | 0, _, C0, hX => exact lv_icmp_gt (tgt := 2285) hx hb dL_law_29 (by decide) (fun _ => lc_ret C0 hAl hS (Nat.le_of_ble_eq_true rfl) (Nat.le_of_ble_eq_true rfl)) (fun h => absurd (by decide) h)
  | 1, _, C0, hX => exact lv_icmp_gt (tgt := 2285) hx hb dL_law_29 (by decide) (fun _ => lc_ret C0 hAl hS (Nat.le_of_ble_eq_true rfl) (Nat.le_of_ble_eq_true rfl)) (fun h => absurd (by decide) h)
  | 2, _, C0, hX => exact lv_icmp_gt (tgt := 2285) hx hb dL_law_29 (by decide) (fun _ => lc_ret C0 hAl hS (Nat.le_of_ble_eq_true rfl) (Nat.le_of_ble_eq_true rfl)) (fun h => absurd (by decide) h)
  | 3, _, C0, hX => exact lv_icmp_gt (tgt := 2285) hx hb dL_law_29 (by decide) (fun _ => lc_ret C0 hAl hS (Nat.le_of_ble_eq_true rfl) (Nat.le_of_ble_eq_true rfl)) (fun h => absurd (by decide) h)
  | 4, _, C0, hX =>
    refine lv_icmp_gt (tgt := 2285) hx hb dL_law_29 (by decide) (fun h => absurd h (by decide)) (fun _ => ?_)
    refine lv_aload_n hx hb dL_law_32 rfl (lv_at hl 0 rfl) ?_
    refine lv_iload hx hb dL_law_33 (lv_at hl 4 rfl) ?_
    refine va_sld hx hb hX hbl hbA hS (i := 0) (by unfold vp_in; decide) dL_law_35 ?_
    refine lv_bipush (v := 63) hx hb dL_law_36 (by decide) ?_
    refine lv_iand hx hb dL_law_38 ?_
    obtain ⟨j, hj, ej⟩ := pk_andE (xs (0 : Int32).toNatClampNeg) (m := 63) 6 (by decide)
    rw [ej]
    exact lc_sw hfl D cI cJ cZ cO ad bf hb0 F G ao g am qo F2 G2 C0 hN hST hSR hK hA hAl hbA hP hD hS hl j (by omega)
  | n + 5, h, _, _ => omega
