theorem dL_law_0 : decode cL_law 0 = .ok (.new 8, 3) := by decide +kernel
theorem dL_law_3 : decode cL_law 3 = .ok (.dup, 1) := by decide +kernel
theorem dL_law_4 : decode cL_law 4 = .ok (.invokespecial 110, 3) := by decide +kernel
theorem dL_law_7 : decode cL_law 7 = .ok (.astore_n 1, 1) := by decide +kernel
theorem dL_law_8 : decode cL_law 8 = .ok (.new 111, 3) := by decide +kernel
theorem dL_law_11 : decode cL_law 11 = .ok (.dup, 1) := by decide +kernel
theorem dL_law_12 : decode cL_law 12 = .ok (.invokespecial 113, 3) := by decide +kernel
theorem dL_law_15 : decode cL_law 15 = .ok (.astore_n 2, 1) := by decide +kernel
theorem dL_law_16 : decode cL_law 16 = .ok (.iconst 1, 1) := by decide +kernel
theorem dL_law_17 : decode cL_law 17 = .ok (.newarray .long, 2) := by decide +kernel
theorem dL_law_19 : decode cL_law 19 = .ok (.astore_n 3, 1) := by decide +kernel
theorem dL_law_20 : decode cL_law 20 = .ok (.iconst 0, 1) := by decide +kernel
theorem dL_law_21 : decode cL_law 21 = .ok (.istore 4, 2) := by decide +kernel
theorem mw_1000 : Cond.classLink RL 8 RX7 ∈ GW := gw_mem (inT1 _ (List.mem_of_getElem? (i := 22) rfl)) rfl
theorem mw_1001 : Cond.code yX7_init cX7_init 1 (none : Option FieldType) ∈ GW := gw_mem (inT1 _ (List.mem_of_getElem? (i := 26) rfl)) rfl
theorem mw_1002 : Cond.methodLink RL 110 yX7_init ∈ GW := gw_mem (inT1 _ (List.mem_of_getElem? (i := 24) rfl)) rfl
theorem mw_1003 : Cond.instanceMethod yX7_init ∈ GW := gw_mem (inT1 _ (List.mem_of_getElem? (i := 25) rfl)) rfl
theorem mw_1004 : Cond.classLink RL 111 RX8 ∈ GW := gw_mem (inT5 _ (List.mem_of_getElem? (i := 154) rfl)) rfl
theorem mw_1005 : Cond.code yX8_init cX8_init 1 (none : Option FieldType) ∈ GW := gw_mem (inT5 _ (List.mem_of_getElem? (i := 158) rfl)) rfl
theorem mw_1006 : Cond.methodLink RL 113 yX8_init ∈ GW := gw_mem (inT5 _ (List.mem_of_getElem? (i := 156) rfl)) rfl
theorem mw_1007 : Cond.instanceMethod yX8_init ∈ GW := gw_mem (inT5 _ (List.mem_of_getElem? (i := 157) rfl)) rfl
theorem pd_X7_init : yX7_init.cls ≠ "java/lang/invoke/MethodHandle" ∧ yX7_init.cls ≠ "java/lang/invoke/VarHandle" ∧ (parseMethodDescriptor yX7_init.desc).map (fun d => d.parameters.length) = some 0 := by decide +kernel
theorem pd_X8_init : yX8_init.cls ≠ "java/lang/invoke/MethodHandle" ∧ yX8_init.cls ≠ "java/lang/invoke/VarHandle" ∧ (parseMethodDescriptor yX8_init.desc).map (fun d => d.parameters.length) = some 0 := by decide +kernel
set_option maxHeartbeats 4000000 in
set_option maxRecDepth 100000 in
/-- from the entry, for every script of at most 4 ints, the law comes to its end with true -/
theorem whole_start {p : Program} {e : Env} {s : State} {m : MethodId} {below : List Frame} {meth : Method} {c : Code} (l : Launch) (hflags : l.flags = flags0) {b L : Nat} {xs : Nat → Int32} (hL : L ≤ 4) (C0 : lw_At p s m meth c b L xs) : W p l e room_1 s m #[Value.ref b] below meth c s.heap [] 0 0 (lw_Z below #[Value.ref b] s) (entryFrame m ([Value.ref b] : List Value).toArray 9) := by
  obtain ⟨hx, hb, hr, hml, hown, hts, hX, hbl, hlocks, hgv⟩ := id C0
  have hfl : l.stackTraces = false := by unfold Launch.stackTraces; rw [hflags]; decide +kernel
  have hg : ∀ w ∈ GW, w.before #[Value.ref b] s = true := fun w hw => hts w (gw_tbl hw)
  obtain ⟨A, hAe⟩ : ∃ z : Nat → Prop, z = fun q : Nat => s.heap.size ≤ q := ⟨_, rfl⟩
  have hST : ST A s := by rw [hAe]; exact st_known hts hgv
  have hSR : SR s := sr_known hts hgv
  have hN : NW s := ⟨fun w hw => nest_of (List.all_eq_true.mp nl_all w hw) (hts w (nl_tbl w hw)), hts _ tw_over⟩
  obtain ⟨D, cI, cJ, cZ, cO, hK⟩ := kn_known hts
  have hA : ∀ q, s.heap.size ≤ q → A q := fun q h => by rw [hAe]; exact h
  have hAl : ∀ q, A q → s.heap.size ≤ q := fun q h => by rw [hAe] at h; exact h
  have hbA : ¬ A b := fun h => absurd (hAl b h) (Nat.not_le.mpr hbl)
  have hS : va_S A s.heap s.heap [] := va_S.rf
  have hP : va_P D vwCl [] s.heap := fun k q h => by simp at h
  have hD : va_D A [] := ⟨fun i j p q h => by simp at h, fun k q h => by simp at h⟩
  have hl := lv_entry ([.ref b]) (n := 9) (Nat.le_of_ble_eq_true rfl)
  rw [lg_entry_eq]
  generalize (lg_sl ([.ref b]) ++ List.replicate (9 - (lg_sl ([.ref b])).length) Slot.unset).toArray = ls at hl ⊢
  have hl : lv_has ls 9 [(0, .ref b)] := hl
  refine va_new (ci := 7) (fs := [.null, .null, .null, .null, .null, .null]) (C := RX7) (T := TX7) (N := 6) hx hb hg inGX7 tyX7 tyX7_ok hown (hg _ mw_1000) (hg _ mw_998) (hg _ mw_110) hK hP hD hS hA rfl df_X7 (Nat.le_of_ble_eq_true rfl) (Nat.le_of_ble_eq_true rfl) dL_law_0 (fun q_1 H hP hD hS => ?_)
  have hP : va_P D vwCl [(q_1, .inr (7, [.null, .null, .null, .null, .null, .null]))] H := mvP hP
  have hD : va_D A [(q_1, .inr (7, [.null, .null, .null, .null, .null, .null]))] := mvD hD
  refine lv_dup hx hb dL_law_3 rfl ?_
  refine kV (rI hx hb hml hown hg hN (hK.sub (tys' := TY cI cJ cZ) [0, 1, 2] rfl) hP hD (i_X7 l D cI cJ cZ q_1) mw_1001 mw_1002 mw_1003 mw_110 rfl pd_X7_init ⟨Nat.le_of_ble_eq_true rfl, Nat.le_of_ble_eq_true rfl⟩ rfl hl.1 rfl (Nat.le_of_ble_eq_true rfl) dL_law_4 ⟨Nat.le_of_ble_eq_true rfl, Nat.le_of_ble_eq_true rfl⟩) hD hS hA (fun u_2 H locs hp hP hD hS => ?_)
  obtain ⟨ad, had, rfl⟩ := hp
  have hP9 := hP
  have hD9 := hD
  subst had
  have hP := hP9
  have hD := hD9
  refine lv_astore_n (lv' := [(1, .ref (ad 0)), (0, .ref b)]) hx hb dL_law_7 rfl hl (by decide) rfl (fun ls hl => ?_)
  refine va_new (ci := 8) (fs := [.int 0, .int 0, .null, .null, .null, .null, .int 0, .int 0, .int 0, .null, .null, .null, .null, .long 0, .null, .null, .null, .null, .null, .null, .null, .int 0, .long 0, .null, .null, .int 0, .null, .null, .int 0, .null, .int 0, .long 0]) (C := RX8) (T := TX8) (N := 32) hx hb hg inGX8 tyX8 tyX8_ok hown (hg _ mw_1004) (hg _ mw_999) (hg _ mw_348) hK hP hD hS hA rfl df_X8 (Nat.le_of_ble_eq_true rfl) (Nat.le_of_ble_eq_true rfl) dL_law_8 (fun q_3 H hP hD hS => ?_)
  have hP : va_P D vwCl ((q_3, .inr (8, [.int 0, .int 0, .null, .null, .null, .null, .int 0, .int 0, .int 0, .null, .null, .null, .null, .long 0, .null, .null, .null, .null, .null, .null, .null, .int 0, .long 0, .null, .null, .int 0, .null, .null, .int 0, .null, .int 0, .long 0])) :: XW ad cI cJ 0 (fun _ => 0) (fun _ _ => 0) (fun _ _ => 0)) H := mvP hP
  have hD : va_D A ((q_3, .inr (8, [.int 0, .int 0, .null, .null, .null, .null, .int 0, .int 0, .int 0, .null, .null, .null, .null, .long 0, .null, .null, .null, .null, .null, .null, .null, .int 0, .long 0, .null, .null, .int 0, .null, .null, .int 0, .null, .int 0, .long 0])) :: XW ad cI cJ 0 (fun _ => 0) (fun _ _ => 0) (fun _ _ => 0)) := mvD hD
  refine lv_dup hx hb dL_law_11 rfl ?_
  refine kV (rI hx hb hml hown hg hN hK hP hD (i_X8 l D cI cJ cZ cO q_3 (XW ad cI cJ 0 (fun _ => 0) (fun _ _ => 0) (fun _ _ => 0))) mw_1005 mw_1006 mw_1007 mw_348 rfl pd_X8_init ⟨Nat.le_of_ble_eq_true rfl, Nat.le_of_ble_eq_true rfl⟩ rfl hl.1 rfl (Nat.le_of_ble_eq_true rfl) dL_law_12 ⟨Nat.le_of_ble_eq_true rfl, Nat.le_of_ble_eq_true rfl⟩) hD hS hA (fun u_4 H locs hp hP hD hS => ?_)
  obtain ⟨q_5, q_6, q_7, q_8, q_9, q_10, q_11, q_12, q_13, q_14, q_15, q_16, q_17, q_18, q_19, q_20, q_21, q_22, q_23, q_24, rfl⟩ := hp
  have hP : va_P D vwCl ((q_5, .inl (cO, 0, .inr (.inr (.inr (.inr (fun _ => none)))))) :: ((q_6, .inl (cI, 40, .inl (fun _ => 0))) :: ((q_7, .inl (cZ, 80, .inl (fun _ => 0))) :: ((q_8, .inl (cI, 40, .inl (fun _ => 0))) :: ((q_9, .inl (cI, 40, .inl (fun _ => 0))) :: ((q_10, .inl (cI, 160, .inl (fun _ => 0))) :: ((q_11, .inl (cI, 160, .inl (fun _ => 0))) :: ((q_12, .inl (cI, 40, .inl (fun _ => 0))) :: ((q_13, .inl (cJ, 40, .inr (.inl (fun _ => 0)))) :: ((q_14, .inl (cI, 40, .inl (fun _ => 0))) :: ((q_15, .inl (cJ, 40, .inr (.inl (fun _ => 0)))) :: ((q_16, .inl (cJ, 40, .inr (.inl (fun _ => 0)))) :: ((q_17, .inl (cI, 80, .inl (fun _ => 0))) :: ((q_18, .inl (cI, 80, .inl (fun _ => 0))) :: ((q_19, .inl (cI, 41, .inl (fun _ => 0))) :: ((q_20, .inl (cI, 40, .inl (fun _ => 0))) :: ((q_21, .inl (cI, 40, .inl (fun _ => 0))) :: ((q_22, .inl (cI, 40, .inl (fun _ => 0))) :: ((q_23, .inl (cI, 40, .inl (fun _ => 0))) :: ((q_24, .inl (cI, 40, .inl (fun _ => 0))) :: ((q_3, .inr (8, [.int 0, .int 0, .ref q_24, .ref q_23, .ref q_22, .ref q_21, .int 0, .int 0, .int 0, .ref q_20, .ref q_19, .ref q_18, .ref q_17, .long 0, .ref q_16, .ref q_15, .ref q_14, .ref q_13, .ref q_12, .ref q_11, .ref q_10, .int 0, .long 0, .ref q_9, .ref q_8, .int 0, .ref q_7, .ref q_6, .int 0, .ref q_5, .int 0, .long 0])) :: XW ad cI cJ 0 (fun _ => 0) (fun _ _ => 0) (fun _ _ => 0)))))))))))))))))))))) H := hP
  have hD : va_D A ((q_5, .inl (cO, 0, .inr (.inr (.inr (.inr (fun _ => none)))))) :: ((q_6, .inl (cI, 40, .inl (fun _ => 0))) :: ((q_7, .inl (cZ, 80, .inl (fun _ => 0))) :: ((q_8, .inl (cI, 40, .inl (fun _ => 0))) :: ((q_9, .inl (cI, 40, .inl (fun _ => 0))) :: ((q_10, .inl (cI, 160, .inl (fun _ => 0))) :: ((q_11, .inl (cI, 160, .inl (fun _ => 0))) :: ((q_12, .inl (cI, 40, .inl (fun _ => 0))) :: ((q_13, .inl (cJ, 40, .inr (.inl (fun _ => 0)))) :: ((q_14, .inl (cI, 40, .inl (fun _ => 0))) :: ((q_15, .inl (cJ, 40, .inr (.inl (fun _ => 0)))) :: ((q_16, .inl (cJ, 40, .inr (.inl (fun _ => 0)))) :: ((q_17, .inl (cI, 80, .inl (fun _ => 0))) :: ((q_18, .inl (cI, 80, .inl (fun _ => 0))) :: ((q_19, .inl (cI, 41, .inl (fun _ => 0))) :: ((q_20, .inl (cI, 40, .inl (fun _ => 0))) :: ((q_21, .inl (cI, 40, .inl (fun _ => 0))) :: ((q_22, .inl (cI, 40, .inl (fun _ => 0))) :: ((q_23, .inl (cI, 40, .inl (fun _ => 0))) :: ((q_24, .inl (cI, 40, .inl (fun _ => 0))) :: ((q_3, .inr (8, [.int 0, .int 0, .ref q_24, .ref q_23, .ref q_22, .ref q_21, .int 0, .int 0, .int 0, .ref q_20, .ref q_19, .ref q_18, .ref q_17, .long 0, .ref q_16, .ref q_15, .ref q_14, .ref q_13, .ref q_12, .ref q_11, .ref q_10, .int 0, .long 0, .ref q_9, .ref q_8, .int 0, .ref q_7, .ref q_6, .int 0, .ref q_5, .int 0, .long 0])) :: XW ad cI cJ 0 (fun _ => 0) (fun _ _ => 0) (fun _ _ => 0)))))))))))))))))))))) := hD
  refine lv_astore_n (lv' := [(2, .ref q_3), (1, .ref (ad 0)), (0, .ref b)]) hx hb dL_law_15 rfl hl (by decide) rfl (fun ls hl => ?_)
  refine lv_iconst (v := 1) hx hb dL_law_16 (by decide) ?_
  refine my_newa (atype := .long) (ty := .long) (N' := 1) (a0 := (1, .inr (.inl (fun _ => 0)))) hx hb (hg _ mw_480) rfl hK hP hD hS hA 1 rfl (fun _ h => h) (fun _ => rfl) (by decide) (by decide) (Nat.le_of_ble_eq_true rfl) (Nat.le_of_ble_eq_true rfl) (Nat.le_of_ble_eq_true rfl) dL_law_17 (fun q_25 H hP hD hS => ?_)
  have hP : va_P D vwCl ((q_25, .inl (cJ, 1, .inr (.inl (fun _ => 0)))) :: ((q_5, .inl (cO, 0, .inr (.inr (.inr (.inr (fun _ => none)))))) :: ((q_6, .inl (cI, 40, .inl (fun _ => 0))) :: ((q_7, .inl (cZ, 80, .inl (fun _ => 0))) :: ((q_8, .inl (cI, 40, .inl (fun _ => 0))) :: ((q_9, .inl (cI, 40, .inl (fun _ => 0))) :: ((q_10, .inl (cI, 160, .inl (fun _ => 0))) :: ((q_11, .inl (cI, 160, .inl (fun _ => 0))) :: ((q_12, .inl (cI, 40, .inl (fun _ => 0))) :: ((q_13, .inl (cJ, 40, .inr (.inl (fun _ => 0)))) :: ((q_14, .inl (cI, 40, .inl (fun _ => 0))) :: ((q_15, .inl (cJ, 40, .inr (.inl (fun _ => 0)))) :: ((q_16, .inl (cJ, 40, .inr (.inl (fun _ => 0)))) :: ((q_17, .inl (cI, 80, .inl (fun _ => 0))) :: ((q_18, .inl (cI, 80, .inl (fun _ => 0))) :: ((q_19, .inl (cI, 41, .inl (fun _ => 0))) :: ((q_20, .inl (cI, 40, .inl (fun _ => 0))) :: ((q_21, .inl (cI, 40, .inl (fun _ => 0))) :: ((q_22, .inl (cI, 40, .inl (fun _ => 0))) :: ((q_23, .inl (cI, 40, .inl (fun _ => 0))) :: ((q_24, .inl (cI, 40, .inl (fun _ => 0))) :: ((q_3, .inr (8, [.int 0, .int 0, .ref q_24, .ref q_23, .ref q_22, .ref q_21, .int 0, .int 0, .int 0, .ref q_20, .ref q_19, .ref q_18, .ref q_17, .long 0, .ref q_16, .ref q_15, .ref q_14, .ref q_13, .ref q_12, .ref q_11, .ref q_10, .int 0, .long 0, .ref q_9, .ref q_8, .int 0, .ref q_7, .ref q_6, .int 0, .ref q_5, .int 0, .long 0])) :: XW ad cI cJ 0 (fun _ => 0) (fun _ _ => 0) (fun _ _ => 0))))))))))))))))))))))) H := mvP hP
  have hD : va_D A ((q_25, .inl (cJ, 1, .inr (.inl (fun _ => 0)))) :: ((q_5, .inl (cO, 0, .inr (.inr (.inr (.inr (fun _ => none)))))) :: ((q_6, .inl (cI, 40, .inl (fun _ => 0))) :: ((q_7, .inl (cZ, 80, .inl (fun _ => 0))) :: ((q_8, .inl (cI, 40, .inl (fun _ => 0))) :: ((q_9, .inl (cI, 40, .inl (fun _ => 0))) :: ((q_10, .inl (cI, 160, .inl (fun _ => 0))) :: ((q_11, .inl (cI, 160, .inl (fun _ => 0))) :: ((q_12, .inl (cI, 40, .inl (fun _ => 0))) :: ((q_13, .inl (cJ, 40, .inr (.inl (fun _ => 0)))) :: ((q_14, .inl (cI, 40, .inl (fun _ => 0))) :: ((q_15, .inl (cJ, 40, .inr (.inl (fun _ => 0)))) :: ((q_16, .inl (cJ, 40, .inr (.inl (fun _ => 0)))) :: ((q_17, .inl (cI, 80, .inl (fun _ => 0))) :: ((q_18, .inl (cI, 80, .inl (fun _ => 0))) :: ((q_19, .inl (cI, 41, .inl (fun _ => 0))) :: ((q_20, .inl (cI, 40, .inl (fun _ => 0))) :: ((q_21, .inl (cI, 40, .inl (fun _ => 0))) :: ((q_22, .inl (cI, 40, .inl (fun _ => 0))) :: ((q_23, .inl (cI, 40, .inl (fun _ => 0))) :: ((q_24, .inl (cI, 40, .inl (fun _ => 0))) :: ((q_3, .inr (8, [.int 0, .int 0, .ref q_24, .ref q_23, .ref q_22, .ref q_21, .int 0, .int 0, .int 0, .ref q_20, .ref q_19, .ref q_18, .ref q_17, .long 0, .ref q_16, .ref q_15, .ref q_14, .ref q_13, .ref q_12, .ref q_11, .ref q_10, .int 0, .long 0, .ref q_9, .ref q_8, .int 0, .ref q_7, .ref q_6, .int 0, .ref q_5, .int 0, .long 0])) :: XW ad cI cJ 0 (fun _ => 0) (fun _ _ => 0) (fun _ _ => 0))))))))))))))))))))))) := mvD hD
  refine lv_astore_n (lv' := [(3, .ref q_25), (2, .ref q_3), (1, .ref (ad 0)), (0, .ref b)]) hx hb dL_law_19 rfl hl (by decide) rfl (fun ls hl => ?_)
  have hP : va_P D vwCl (XW ad cI cJ 0 (fun _ => 0) (fun _ _ => 0) (fun _ _ => 0) ++ MW (q_25, .inl (cJ, 1, .inr (.inl (fun _ => 0)))) (fun k => [0, q_3, q_24, q_23, q_22, q_21, q_20, q_19, q_18, q_17, q_16, q_15, q_14, q_13, q_12, q_11, q_10, q_9, q_8, q_7, q_6].getD k 0) cI cJ cZ cO 0 0 0 0 0 q_5 (fun _ _ => 0) (fun _ _ => 0)) H := hP.sub [22, 23, 24, 25, 26, 27, 28, 29, 30, 31, 32, 33, 34, 35, 36, 37, 38, 39, 40, 41, 42, 43, 44, 45, 46, 47, 48, 49, 50, 51, 52, 53, 54, 55, 56, 57, 58, 59, 60, 61, 62, 63, 64, 65, 66, 0, 21, 20, 19, 18, 17, 16, 15, 14, 13, 12, 11, 10, 9, 8, 7, 6, 5, 4, 3, 2, 1] rfl
  have hD : va_D A (XW ad cI cJ 0 (fun _ => 0) (fun _ _ => 0) (fun _ _ => 0) ++ MW (q_25, .inl (cJ, 1, .inr (.inl (fun _ => 0)))) (fun k => [0, q_3, q_24, q_23, q_22, q_21, q_20, q_19, q_18, q_17, q_16, q_15, q_14, q_13, q_12, q_11, q_10, q_9, q_8, q_7, q_6].getD k 0) cI cJ cZ cO 0 0 0 0 0 q_5 (fun _ _ => 0) (fun _ _ => 0)) := hD.sub [22, 23, 24, 25, 26, 27, 28, 29, 30, 31, 32, 33, 34, 35, 36, 37, 38, 39, 40, 41, 42, 43, 44, 45, 46, 47, 48, 49, 50, 51, 52, 53, 54, 55, 56, 57, 58, 59, 60, 61, 62, 63, 64, 65, 66, 0, 21, 20, 19, 18, 17, 16, 15, 14, 13, 12, 11, 10, 9, 8, 7, 6, 5, 4, 3, 2, 1] (by decide +kernel) rfl
  obtain ⟨am, ham⟩ : ∃ z : Nat → Nat, z = (fun k => [0, q_3, q_24, q_23, q_22, q_21, q_20, q_19, q_18, q_17, q_16, q_15, q_14, q_13, q_12, q_11, q_10, q_9, q_8, q_7, q_6].getD k 0) := ⟨_, rfl⟩
  have hP : va_P D vwCl (XW ad cI cJ 0 (fun _ => 0) (fun _ _ => 0) (fun _ _ => 0) ++ MW (q_25, .inl (cJ, 1, .inr (.inl (fun _ => 0)))) am cI cJ cZ cO 0 0 0 0 0 q_5 (fun _ _ => 0) (fun _ _ => 0)) H := by rw [ham]; exact hP
  have hD : va_D A (XW ad cI cJ 0 (fun _ => 0) (fun _ _ => 0) (fun _ _ => 0) ++ MW (q_25, .inl (cJ, 1, .inr (.inl (fun _ => 0)))) am cI cJ cZ cO 0 0 0 0 0 q_5 (fun _ _ => 0) (fun _ _ => 0)) := by rw [ham]; exact hD
  have hqm : am 1 = q_3 := by rw [ham]; rfl
  refine lv_iconst (v := 0) hx hb dL_law_20 (by decide) ?_
  refine lv_istore (lv' := [(4, .int 0), (3, .ref q_25), (2, .ref q_3), (1, .ref (ad 0)), (0, .ref b)]) hx hb dL_law_21 hl (by decide) rfl (fun ls hl => ?_)
  have hl := lv_sub hl (l' := [(0, .ref b), (1, .ref (ad 0)), (2, .ref q_3), (3, .ref q_25), (4, .int 0)]) [4, 3, 2, 1, 0] rfl
  rw [← hqm] at hl
  exact lc_head hL hfl D cI cJ cZ cO ad (fun _ => 0) (fun _ => rfl) (fun _ _ => 0) (fun _ _ => 0) q_25 (fun _ => 0) am q_5 (fun _ _ => 0) (fun _ _ => 0) C0 hN hST hSR hK hA hAl hbA hP hD hS hl
