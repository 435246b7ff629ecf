theorem dX7_needInstruction_0 : decode cX7_needInstruction 0 = .ok (.iload_n 1, 1) := by decide +kernel
theorem dX7_needInstruction_1 : decode cX7_needInstruction 1 = .ok (.ifCond .lt 14, 3) := by decide +kernel
theorem dX7_needInstruction_4 : decode cX7_needInstruction 4 = .ok (.iload_n 1, 1) := by decide +kernel
theorem dX7_needInstruction_5 : decode cX7_needInstruction 5 = .ok (.aload_n 0, 1) := by decide +kernel
theorem dX7_needInstruction_6 : decode cX7_needInstruction 6 = .ok (.getfield 10, 3) := by decide +kernel
theorem dX7_needInstruction_9 : decode cX7_needInstruction 9 = .ok (.getfield 51, 3) := by decide +kernel
theorem dX7_needInstruction_12 : decode cX7_needInstruction 12 = .ok (.if_icmp .lt 14, 3) := by decide +kernel
theorem dX7_needInstruction_15 : decode cX7_needInstruction 15 = .ok (.new 259, 3) := by decide +kernel
theorem dX7_needInstruction_18 : decode cX7_needInstruction 18 = .ok (.dup, 1) := by decide +kernel
theorem dX7_needInstruction_19 : decode cX7_needInstruction 19 = .ok (.ldc_w 321, 3) := by decide +kernel
theorem dX7_needInstruction_22 : decode cX7_needInstruction 22 = .ok (.invokespecial 261, 3) := by decide +kernel
theorem dX7_needInstruction_25 : decode cX7_needInstruction 25 = .ok (.athrow, 1) := by decide +kernel
theorem dX7_needBlock_0 : decode cX7_needBlock 0 = .ok (.iload_n 1, 1) := by decide +kernel
theorem dX7_needBlock_1 : decode cX7_needBlock 1 = .ok (.ifCond .lt 14, 3) := by decide +kernel
theorem dX7_needBlock_4 : decode cX7_needBlock 4 = .ok (.iload_n 1, 1) := by decide +kernel
theorem dX7_needBlock_5 : decode cX7_needBlock 5 = .ok (.aload_n 0, 1) := by decide +kernel
theorem dX7_needBlock_6 : decode cX7_needBlock 6 = .ok (.invokevirtual 123, 3) := by decide +kernel
theorem dX7_needBlock_9 : decode cX7_needBlock 9 = .ok (.getfield 127, 3) := by decide +kernel
theorem dX7_needBlock_12 : decode cX7_needBlock 12 = .ok (.if_icmp .lt 14, 3) := by decide +kernel
theorem dX7_needBlock_15 : decode cX7_needBlock 15 = .ok (.new 259, 3) := by decide +kernel
theorem dX7_needBlock_18 : decode cX7_needBlock 18 = .ok (.dup, 1) := by decide +kernel
theorem dX7_needBlock_19 : decode cX7_needBlock 19 = .ok (.ldc_w 323, 3) := by decide +kernel
theorem dX7_needBlock_22 : decode cX7_needBlock 22 = .ok (.invokespecial 261, 3) := by decide +kernel
theorem dX7_needBlock_25 : decode cX7_needBlock 25 = .ok (.athrow, 1) := by decide +kernel
theorem dX7_needEdge_0 : decode cX7_needEdge 0 = .ok (.iload_n 1, 1) := by decide +kernel
theorem dX7_needEdge_1 : decode cX7_needEdge 1 = .ok (.ifCond .lt 14, 3) := by decide +kernel
theorem dX7_needEdge_4 : decode cX7_needEdge 4 = .ok (.iload_n 1, 1) := by decide +kernel
theorem dX7_needEdge_5 : decode cX7_needEdge 5 = .ok (.aload_n 0, 1) := by decide +kernel
theorem dX7_needEdge_6 : decode cX7_needEdge 6 = .ok (.invokevirtual 123, 3) := by decide +kernel
theorem dX7_needEdge_9 : decode cX7_needEdge 9 = .ok (.getfield 147, 3) := by decide +kernel
theorem dX7_needEdge_12 : decode cX7_needEdge 12 = .ok (.if_icmp .lt 14, 3) := by decide +kernel
theorem dX7_needEdge_15 : decode cX7_needEdge 15 = .ok (.new 259, 3) := by decide +kernel
theorem dX7_needEdge_18 : decode cX7_needEdge 18 = .ok (.dup, 1) := by decide +kernel
theorem dX7_needEdge_19 : decode cX7_needEdge 19 = .ok (.ldc_w 325, 3) := by decide +kernel
theorem dX7_needEdge_22 : decode cX7_needEdge 22 = .ok (.invokespecial 261, 3) := by decide +kernel
theorem dX7_needEdge_25 : decode cX7_needEdge 25 = .ok (.athrow, 1) := by decide +kernel
theorem dX7_needStep_0 : decode cX7_needStep 0 = .ok (.iload_n 1, 1) := by decide +kernel
theorem dX7_needStep_1 : decode cX7_needStep 1 = .ok (.ifCond .lt 14, 3) := by decide +kernel
theorem dX7_needStep_4 : decode cX7_needStep 4 = .ok (.iload_n 1, 1) := by decide +kernel
theorem dX7_needStep_5 : decode cX7_needStep 5 = .ok (.aload_n 0, 1) := by decide +kernel
theorem dX7_needStep_6 : decode cX7_needStep 6 = .ok (.invokevirtual 214, 3) := by decide +kernel
theorem dX7_needStep_9 : decode cX7_needStep 9 = .ok (.getfield 218, 3) := by decide +kernel
theorem dX7_needStep_12 : decode cX7_needStep 12 = .ok (.if_icmp .lt 14, 3) := by decide +kernel
theorem dX7_needStep_15 : decode cX7_needStep 15 = .ok (.new 259, 3) := by decide +kernel
theorem dX7_needStep_18 : decode cX7_needStep 18 = .ok (.dup, 1) := by decide +kernel
theorem dX7_needStep_19 : decode cX7_needStep 19 = .ok (.ldc_w 327, 3) := by decide +kernel
theorem dX7_needStep_22 : decode cX7_needStep 22 = .ok (.invokespecial 261, 3) := by decide +kernel
theorem dX7_needStep_25 : decode cX7_needStep 25 = .ok (.athrow, 1) := by decide +kernel
theorem dX7_needLayer_0 : decode cX7_needLayer 0 = .ok (.iload_n 1, 1) := by decide +kernel
theorem dX7_needLayer_1 : decode cX7_needLayer 1 = .ok (.ifCond .lt 14, 3) := by decide +kernel
theorem dX7_needLayer_4 : decode cX7_needLayer 4 = .ok (.iload_n 1, 1) := by decide +kernel
theorem dX7_needLayer_5 : decode cX7_needLayer 5 = .ok (.aload_n 0, 1) := by decide +kernel
theorem dX7_needLayer_6 : decode cX7_needLayer 6 = .ok (.invokevirtual 234, 3) := by decide +kernel
theorem dX7_needLayer_9 : decode cX7_needLayer 9 = .ok (.getfield 238, 3) := by decide +kernel
theorem dX7_needLayer_12 : decode cX7_needLayer 12 = .ok (.if_icmp .lt 14, 3) := by decide +kernel
theorem dX7_needLayer_15 : decode cX7_needLayer 15 = .ok (.new 259, 3) := by decide +kernel
theorem dX7_needLayer_18 : decode cX7_needLayer 18 = .ok (.dup, 1) := by decide +kernel
theorem dX7_needLayer_19 : decode cX7_needLayer 19 = .ok (.ldc_w 329, 3) := by decide +kernel
theorem dX7_needLayer_22 : decode cX7_needLayer 22 = .ok (.invokespecial 261, 3) := by decide +kernel
theorem dX7_needLayer_25 : decode cX7_needLayer 25 = .ok (.athrow, 1) := by decide +kernel
theorem dX7_needSweeps_0 : decode cX7_needSweeps 0 = .ok (.iload_n 0, 1) := by decide +kernel
theorem dX7_needSweeps_1 : decode cX7_needSweeps 1 = .ok (.iconst 1, 1) := by decide +kernel
theorem dX7_needSweeps_2 : decode cX7_needSweeps 2 = .ok (.if_icmp .lt 9, 3) := by decide +kernel
theorem dX7_needSweeps_5 : decode cX7_needSweeps 5 = .ok (.iload_n 0, 1) := by decide +kernel
theorem dX7_needSweeps_6 : decode cX7_needSweeps 6 = .ok (.bipush 20, 2) := by decide +kernel
theorem dX7_needSweeps_8 : decode cX7_needSweeps 8 = .ok (.if_icmp .le 14, 3) := by decide +kernel
theorem dX7_needSweeps_11 : decode cX7_needSweeps 11 = .ok (.new 55, 3) := by decide +kernel
theorem dX7_needSweeps_14 : decode cX7_needSweeps 14 = .ok (.dup, 1) := by decide +kernel
theorem dX7_needSweeps_15 : decode cX7_needSweeps 15 = .ok (.ldc_w 331, 3) := by decide +kernel
theorem dX7_needSweeps_18 : decode cX7_needSweeps 18 = .ok (.invokespecial 59, 3) := by decide +kernel
theorem dX7_needSweeps_21 : decode cX7_needSweeps 21 = .ok (.athrow, 1) := by decide +kernel
theorem dX7_needSweeps_22 : decode cX7_needSweeps 22 = .ok (.return_, 1) := by decide +kernel
theorem mw_219 : Cond.classLink RX7 259 "java/lang/IndexOutOfBoundsException" ∈ GW := gw_mem (inT4 _ (List.mem_of_getElem? (i := 116) rfl)) rfl
theorem mw_220 : Cond.initialized "java/lang/IndexOutOfBoundsException" ∈ GW := gw_mem (inT1 _ (List.mem_of_getElem? (i := 16) rfl)) rfl
theorem mw_221 : Cond.code yX7_freshReduction cX7_freshReduction 1 (some (Jvm.ClassFile.FieldType.object "OrielChart$Reduction")) ∈ GW := gw_mem (inT3 _ (List.mem_of_getElem? (i := 6) rfl)) rfl
theorem mw_222 : Cond.methodLink RX7 214 yX7_freshReduction ∈ GW := gw_mem (inT3 _ (List.mem_of_getElem? (i := 3) rfl)) rfl
theorem mw_223 : Cond.instanceMethod yX7_freshReduction ∈ GW := gw_mem (inT3 _ (List.mem_of_getElem? (i := 5) rfl)) rfl
theorem mw_224 : Cond.selects RX7 yX7_freshReduction yX7_freshReduction ∈ GW := gw_mem (inTp (q := (yX7_freshReduction, 6)) (List.mem_of_getElem? (i := 11) rfl)) rfl
theorem mw_225 : Cond.code yX7_freshPicture cX7_freshPicture 1 (some (Jvm.ClassFile.FieldType.object "OrielChart$Picture")) ∈ GW := gw_mem (inT3 _ (List.mem_of_getElem? (i := 63) rfl)) rfl
theorem mw_226 : Cond.methodLink RX7 234 yX7_freshPicture ∈ GW := gw_mem (inT3 _ (List.mem_of_getElem? (i := 60) rfl)) rfl
theorem mw_227 : Cond.instanceMethod yX7_freshPicture ∈ GW := gw_mem (inT3 _ (List.mem_of_getElem? (i := 62) rfl)) rfl
theorem mw_228 : Cond.selects RX7 yX7_freshPicture yX7_freshPicture ∈ GW := gw_mem (inTp (q := (yX7_freshPicture, 6)) (List.mem_of_getElem? (i := 19) rfl)) rfl
theorem mw_229 : Cond.classLink RX7 55 "java/lang/IllegalArgumentException" ∈ GW := gw_mem (inT3 _ (List.mem_of_getElem? (i := 233) rfl)) rfl
theorem mw_230 : Cond.initialized "java/lang/IllegalArgumentException" ∈ GW := gw_mem (inT1 _ (List.mem_of_getElem? (i := 13) rfl)) rfl
theorem pdv_X7_freshReduction : yX7_freshReduction.cls = RX7 ∧ yX7_freshReduction.cls ≠ "java/lang/invoke/MethodHandle" ∧ yX7_freshReduction.cls ≠ "java/lang/invoke/VarHandle" ∧ (parseMethodDescriptor yX7_freshReduction.desc).map (fun d => d.parameters.length) = some 0 := by decide +kernel
theorem pdv_X7_freshPicture : yX7_freshPicture.cls = RX7 ∧ yX7_freshPicture.cls ≠ "java/lang/invoke/MethodHandle" ∧ yX7_freshPicture.cls ≠ "java/lang/invoke/VarHandle" ∧ (parseMethodDescriptor yX7_freshPicture.desc).map (fun d => d.parameters.length) = some 0 := by decide +kernel
set_option maxHeartbeats 4000000 in
set_option maxRecDepth 100000 in
theorem c_needInstruction (l : Launch) (hfl : l.stackTraces = false) (D : va_G) (cI cJ cZ : ClassId) (ad : Nat → Nat) (b : Nat → Int32) (F : Nat → Nat → Int32) (G : Nat → Nat → Int64) (R : va_W) (k : Int32) : CX l D (TY cI cJ cZ) yX7_needInstruction (.code yX7_needInstruction cX7_needInstruction 2 (none : Option FieldType)) 6 1 6 (XW ad cI cJ 0 b F G ++ R) [.ref (ad 0), .int k] (QV D (TY cI cJ cZ) (fun u => False)) EIOB (True) := by
  refine entX (by decide) (Nat.le_of_ble_eq_true rfl) ?_
  intro p e s m below meth c ls A hx hb hr hg hown hml hlocks hnm hP hK hD hS hA hN hl hE hST hSR hAw
  have hl : lv_has ls 2 [(0, .ref (ad 0)), (1, .int k)] := hl
  refine lv_iload_n hx hb dX7_needInstruction_0 rfl (lv_at hl 1 rfl) ?_
  refine lv_if_lt (tgt := 15) hx hb dX7_needInstruction_1 (by decide) (fun c_1 => ?_) (fun c_1 => ?_)
  · obtain ⟨sa9, hsa9⟩ := hSR (321, "no such instruction") (List.mem_of_getElem? (i := 4) rfl)
    exact vx_throwSW (names := ENM) (cls := EIOB) hx hb hfl hown fitE.2.1 fitE.2.2 (hg _ mw_219) (hg _ mw_220) hsa9 (hat_of at2a at2b hg hN) gd2 hST.1 hST.2 hS (by rw [hml]; exact hl.1) dX7_needInstruction_15 dX7_needInstruction_18 dX7_needInstruction_19 dX7_needInstruction_22 dX7_needInstruction_25 (fun x hx9 => (hE x hx9).elim) (Nat.le_of_ble_eq_true rfl) (Nat.le_of_ble_eq_true rfl) (Nat.le_of_ble_eq_true rfl) (Nat.le_of_ble_eq_true rfl) hlocks (xE rfl trivial hS) hS.2.2 (Nat.le_of_ble_eq_true rfl) (Nat.le_of_ble_eq_true rfl)
  · refine lv_iload_n hx hb dX7_needInstruction_4 rfl (lv_at hl 1 rfl) ?_
    refine lv_aload_n hx hb dX7_needInstruction_5 rfl (lv_at hl 0 rfl) ?_
    refine va_get (D := D) (ci := 7) (v := .ref (ad 1)) (C := RX7) (T := TX7) (N := 6) hx hb hg inGX7 hown hK hP 0 rfl rfl 0 (by decide) (hg _ mw_113) (fun _ h9 => h9) rfl dX7_needInstruction_6 ?_
    refine va_getN (D := D) (ci := 0) (v := .int 0) (C := RX0) (T := TX0) (N := 5) hx hb hg inGX0 hown hK hP 1 rfl rfl 4 (by decide) (hN.use nw_10) (fun _ h9 => h9) rfl dX7_needInstruction_9 ?_
    refine lv_icmp_lt (tgt := 26) hx hb dX7_needInstruction_12 (by decide) (fun c_12 => absurd c_12 c_1) (fun c_12 => ?_)
    obtain ⟨sa9, hsa9⟩ := hSR (321, "no such instruction") (List.mem_of_getElem? (i := 4) rfl)
    exact vx_throwSW (names := ENM) (cls := EIOB) hx hb hfl hown fitE.2.1 fitE.2.2 (hg _ mw_219) (hg _ mw_220) hsa9 (hat_of at2a at2b hg hN) gd2 hST.1 hST.2 hS (by rw [hml]; exact hl.1) dX7_needInstruction_15 dX7_needInstruction_18 dX7_needInstruction_19 dX7_needInstruction_22 dX7_needInstruction_25 (fun x hx9 => (hE x hx9).elim) (Nat.le_of_ble_eq_true rfl) (Nat.le_of_ble_eq_true rfl) (Nat.le_of_ble_eq_true rfl) (Nat.le_of_ble_eq_true rfl) hlocks (xE rfl trivial hS) hS.2.2 (Nat.le_of_ble_eq_true rfl) (Nat.le_of_ble_eq_true rfl)
set_option maxHeartbeats 4000000 in
set_option maxRecDepth 100000 in
theorem c_needBlock (l : Launch) (hfl : l.stackTraces = false) (D : va_G) (cI cJ cZ : ClassId) (ad : Nat → Nat) (b : Nat → Int32) (F : Nat → Nat → Int32) (G : Nat → Nat → Int64) (R : va_W) (k : Int32) : CX l D (TY cI cJ cZ) yX7_needBlock (.code yX7_needBlock cX7_needBlock 2 (none : Option FieldType)) 6 1 6 (XW ad cI cJ 0 b F G ++ R) [.ref (ad 0), .int k] (QV D (TY cI cJ cZ) (fun u => False)) EIOB (True) := by
  refine entX (by decide) (Nat.le_of_ble_eq_true rfl) ?_
  intro p e s m below meth c ls A hx hb hr hg hown hml hlocks hnm hP hK hD hS hA hN hl hE hST hSR hAw
  have hl : lv_has ls 2 [(0, .ref (ad 0)), (1, .int k)] := hl
  refine lv_iload_n hx hb dX7_needBlock_0 rfl (lv_at hl 1 rfl) ?_
  refine lv_if_lt (tgt := 15) hx hb dX7_needBlock_1 (by decide) (fun c_1 => ?_) (fun c_1 => ?_)
  · obtain ⟨sa9, hsa9⟩ := hSR (323, "no such block") (List.mem_of_getElem? (i := 5) rfl)
    exact vx_throwSW (names := ENM) (cls := EIOB) hx hb hfl hown fitE.2.1 fitE.2.2 (hg _ mw_219) (hg _ mw_220) hsa9 (hat_of at2a at2b hg hN) gd2 hST.1 hST.2 hS (by rw [hml]; exact hl.1) dX7_needBlock_15 dX7_needBlock_18 dX7_needBlock_19 dX7_needBlock_22 dX7_needBlock_25 (fun x hx9 => (hE x hx9).elim) (Nat.le_of_ble_eq_true rfl) (Nat.le_of_ble_eq_true rfl) (Nat.le_of_ble_eq_true rfl) (Nat.le_of_ble_eq_true rfl) hlocks (xE rfl trivial hS) hS.2.2 (Nat.le_of_ble_eq_true rfl) (Nat.le_of_ble_eq_true rfl)
  · refine lv_iload_n hx hb dX7_needBlock_4 rfl (lv_at hl 1 rfl) ?_
    refine lv_aload_n hx hb dX7_needBlock_5 rfl (lv_at hl 0 rfl) ?_
    refine kR (rV (q0 := 0) (ci := 7) hx hb hml hown hg hN hK hP hD (c_freshFlow l D cI cJ cZ ad b F G R) mw_134 mw_135 mw_136 mw_137 mw_110 pdv_X7_freshFlow ⟨Nat.le_of_ble_eq_true rfl, Nat.le_of_ble_eq_true rfl⟩ rfl rfl rfl hl.1 rfl (Nat.le_of_ble_eq_true rfl) dX7_needBlock_6 ⟨Nat.le_of_ble_eq_true rfl, Nat.le_of_ble_eq_true rfl⟩) hD hS hA (fun r_1 u_1 H locs hp hP hD hS => ?_)
    obtain ⟨rfl, b_2, F_3, G_4, rfl, hb_2⟩ := hp
    refine va_getN (D := D) (ci := 1) (v := .int 0) (C := RX1) (T := TX1) (N := 11) hx hb hg inGX1 hown hK hP 2 rfl rfl 7 (by decide) (hN.use nw_28) (fun _ h9 => h9) rfl dX7_needBlock_9 ?_
    refine lv_icmp_lt (tgt := 26) hx hb dX7_needBlock_12 (by decide) (fun c_12 => absurd c_12 c_1) (fun c_12 => ?_)
    obtain ⟨sa9, hsa9⟩ := hSR (323, "no such block") (List.mem_of_getElem? (i := 5) rfl)
    exact vx_throwSW (names := ENM) (cls := EIOB) hx hb hfl hown fitE.2.1 fitE.2.2 (hg _ mw_219) (hg _ mw_220) hsa9 (hat_of at2a at2b hg hN) gd2 hST.1 hST.2 hS (by rw [hml]; exact hl.1) dX7_needBlock_15 dX7_needBlock_18 dX7_needBlock_19 dX7_needBlock_22 dX7_needBlock_25 (fun x hx9 => (hE x hx9).elim) (Nat.le_of_ble_eq_true rfl) (Nat.le_of_ble_eq_true rfl) (Nat.le_of_ble_eq_true rfl) (Nat.le_of_ble_eq_true rfl) hlocks (xE rfl trivial hS) hS.2.2 (Nat.le_of_ble_eq_true rfl) (Nat.le_of_ble_eq_true rfl)
set_option maxHeartbeats 4000000 in
set_option maxRecDepth 100000 in
theorem c_needEdge (l : Launch) (hfl : l.stackTraces = false) (D : va_G) (cI cJ cZ : ClassId) (ad : Nat → Nat) (b : Nat → Int32) (F : Nat → Nat → Int32) (G : Nat → Nat → Int64) (R : va_W) (k : Int32) : CX l D (TY cI cJ cZ) yX7_needEdge (.code yX7_needEdge cX7_needEdge 2 (none : Option FieldType)) 6 1 6 (XW ad cI cJ 0 b F G ++ R) [.ref (ad 0), .int k] (QV D (TY cI cJ cZ) (fun u => False)) EIOB (True) := by
  refine entX (by decide) (Nat.le_of_ble_eq_true rfl) ?_
  intro p e s m below meth c ls A hx hb hr hg hown hml hlocks hnm hP hK hD hS hA hN hl hE hST hSR hAw
  have hl : lv_has ls 2 [(0, .ref (ad 0)), (1, .int k)] := hl
  refine lv_iload_n hx hb dX7_needEdge_0 rfl (lv_at hl 1 rfl) ?_
  refine lv_if_lt (tgt := 15) hx hb dX7_needEdge_1 (by decide) (fun c_1 => ?_) (fun c_1 => ?_)
  · obtain ⟨sa9, hsa9⟩ := hSR (325, "no such edge") (List.mem_of_getElem? (i := 6) rfl)
    exact vx_throwSW (names := ENM) (cls := EIOB) hx hb hfl hown fitE.2.1 fitE.2.2 (hg _ mw_219) (hg _ mw_220) hsa9 (hat_of at2a at2b hg hN) gd2 hST.1 hST.2 hS (by rw [hml]; exact hl.1) dX7_needEdge_15 dX7_needEdge_18 dX7_needEdge_19 dX7_needEdge_22 dX7_needEdge_25 (fun x hx9 => (hE x hx9).elim) (Nat.le_of_ble_eq_true rfl) (Nat.le_of_ble_eq_true rfl) (Nat.le_of_ble_eq_true rfl) (Nat.le_of_ble_eq_true rfl) hlocks (xE rfl trivial hS) hS.2.2 (Nat.le_of_ble_eq_true rfl) (Nat.le_of_ble_eq_true rfl)
  · refine lv_iload_n hx hb dX7_needEdge_4 rfl (lv_at hl 1 rfl) ?_
    refine lv_aload_n hx hb dX7_needEdge_5 rfl (lv_at hl 0 rfl) ?_
    refine kR (rV (q0 := 0) (ci := 7) hx hb hml hown hg hN hK hP hD (c_freshFlow l D cI cJ cZ ad b F G R) mw_134 mw_135 mw_136 mw_137 mw_110 pdv_X7_freshFlow ⟨Nat.le_of_ble_eq_true rfl, Nat.le_of_ble_eq_true rfl⟩ rfl rfl rfl hl.1 rfl (Nat.le_of_ble_eq_true rfl) dX7_needEdge_6 ⟨Nat.le_of_ble_eq_true rfl, Nat.le_of_ble_eq_true rfl⟩) hD hS hA (fun r_1 u_1 H locs hp hP hD hS => ?_)
    obtain ⟨rfl, b_2, F_3, G_4, rfl, hb_2⟩ := hp
    refine va_getN (D := D) (ci := 1) (v := .int 0) (C := RX1) (T := TX1) (N := 11) hx hb hg inGX1 hown hK hP 2 rfl rfl 8 (by decide) (hN.use nw_31) (fun _ h9 => h9) rfl dX7_needEdge_9 ?_
    refine lv_icmp_lt (tgt := 26) hx hb dX7_needEdge_12 (by decide) (fun c_12 => absurd c_12 c_1) (fun c_12 => ?_)
    obtain ⟨sa9, hsa9⟩ := hSR (325, "no such edge") (List.mem_of_getElem? (i := 6) rfl)
    exact vx_throwSW (names := ENM) (cls := EIOB) hx hb hfl hown fitE.2.1 fitE.2.2 (hg _ mw_219) (hg _ mw_220) hsa9 (hat_of at2a at2b hg hN) gd2 hST.1 hST.2 hS (by rw [hml]; exact hl.1) dX7_needEdge_15 dX7_needEdge_18 dX7_needEdge_19 dX7_needEdge_22 dX7_needEdge_25 (fun x hx9 => (hE x hx9).elim) (Nat.le_of_ble_eq_true rfl) (Nat.le_of_ble_eq_true rfl) (Nat.le_of_ble_eq_true rfl) (Nat.le_of_ble_eq_true rfl) hlocks (xE rfl trivial hS) hS.2.2 (Nat.le_of_ble_eq_true rfl) (Nat.le_of_ble_eq_true rfl)
set_option maxHeartbeats 4000000 in
set_option maxRecDepth 100000 in
theorem c_needStep (l : Launch) (hfl : l.stackTraces = false) (D : va_G) (cI cJ cZ : ClassId) (ad : Nat → Nat) (b : Nat → Int32) (F : Nat → Nat → Int32) (G : Nat → Nat → Int64) (R : va_W) (k : Int32) : CX l D (TY cI cJ cZ) yX7_needStep (.code yX7_needStep cX7_needStep 2 (none : Option FieldType)) 6 1 6 (XW ad cI cJ 0 b F G ++ R) [.ref (ad 0), .int k] (QV D (TY cI cJ cZ) (fun u => False)) EIOB (True) := by
  refine entX (by decide) (Nat.le_of_ble_eq_true rfl) ?_
  intro p e s m below meth c ls A hx hb hr hg hown hml hlocks hnm hP hK hD hS hA hN hl hE hST hSR hAw
  have hl : lv_has ls 2 [(0, .ref (ad 0)), (1, .int k)] := hl
  refine lv_iload_n hx hb dX7_needStep_0 rfl (lv_at hl 1 rfl) ?_
  refine lv_if_lt (tgt := 15) hx hb dX7_needStep_1 (by decide) (fun c_1 => ?_) (fun c_1 => ?_)
  · obtain ⟨sa9, hsa9⟩ := hSR (327, "no such step") (List.mem_of_getElem? (i := 7) rfl)
    exact vx_throwSW (names := ENM) (cls := EIOB) hx hb hfl hown fitE.2.1 fitE.2.2 (hg _ mw_219) (hg _ mw_220) hsa9 (hat_of at2a at2b hg hN) gd2 hST.1 hST.2 hS (by rw [hml]; exact hl.1) dX7_needStep_15 dX7_needStep_18 dX7_needStep_19 dX7_needStep_22 dX7_needStep_25 (fun x hx9 => (hE x hx9).elim) (Nat.le_of_ble_eq_true rfl) (Nat.le_of_ble_eq_true rfl) (Nat.le_of_ble_eq_true rfl) (Nat.le_of_ble_eq_true rfl) hlocks (xE rfl trivial hS) hS.2.2 (Nat.le_of_ble_eq_true rfl) (Nat.le_of_ble_eq_true rfl)
  · refine lv_iload_n hx hb dX7_needStep_4 rfl (lv_at hl 1 rfl) ?_
    refine lv_aload_n hx hb dX7_needStep_5 rfl (lv_at hl 0 rfl) ?_
    refine kR (rV (q0 := 0) (ci := 7) hx hb hml hown hg hN hK hP hD (c_freshReduction l D cI cJ cZ ad b F G R) mw_221 mw_222 mw_223 mw_224 mw_110 pdv_X7_freshReduction ⟨Nat.le_of_ble_eq_true rfl, Nat.le_of_ble_eq_true rfl⟩ rfl rfl rfl hl.1 rfl (Nat.le_of_ble_eq_true rfl) dX7_needStep_6 ⟨Nat.le_of_ble_eq_true rfl, Nat.le_of_ble_eq_true rfl⟩) hD hS hA (fun r_1 u_1 H locs hp hP hD hS => ?_)
    obtain ⟨rfl, b_2, F_3, G_4, rfl, hb_2⟩ := hp
    refine va_getN (D := D) (ci := 5) (v := .int 0) (C := RX5) (T := TX5) (N := 8) hx hb hg inGX5 hown hK hP 5 rfl rfl 6 (by decide) (hN.use nw_51) (fun _ h9 => h9) rfl dX7_needStep_9 ?_
    refine lv_icmp_lt (tgt := 26) hx hb dX7_needStep_12 (by decide) (fun c_12 => absurd c_12 c_1) (fun c_12 => ?_)
    obtain ⟨sa9, hsa9⟩ := hSR (327, "no such step") (List.mem_of_getElem? (i := 7) rfl)
    exact vx_throwSW (names := ENM) (cls := EIOB) hx hb hfl hown fitE.2.1 fitE.2.2 (hg _ mw_219) (hg _ mw_220) hsa9 (hat_of at2a at2b hg hN) gd2 hST.1 hST.2 hS (by rw [hml]; exact hl.1) dX7_needStep_15 dX7_needStep_18 dX7_needStep_19 dX7_needStep_22 dX7_needStep_25 (fun x hx9 => (hE x hx9).elim) (Nat.le_of_ble_eq_true rfl) (Nat.le_of_ble_eq_true rfl) (Nat.le_of_ble_eq_true rfl) (Nat.le_of_ble_eq_true rfl) hlocks (xE rfl trivial hS) hS.2.2 (Nat.le_of_ble_eq_true rfl) (Nat.le_of_ble_eq_true rfl)
set_option maxHeartbeats 4000000 in
set_option maxRecDepth 100000 in
theorem c_needLayer (l : Launch) (hfl : l.stackTraces = false) (D : va_G) (cI cJ cZ : ClassId) (ad : Nat → Nat) (b : Nat → Int32) (F : Nat → Nat → Int32) (G : Nat → Nat → Int64) (R : va_W) (k : Int32) : CX l D (TY cI cJ cZ) yX7_needLayer (.code yX7_needLayer cX7_needLayer 2 (none : Option FieldType)) 6 1 6 (XW ad cI cJ 0 b F G ++ R) [.ref (ad 0), .int k] (QV D (TY cI cJ cZ) (fun u => False)) EIOB (True) := by
  refine entX (by decide) (Nat.le_of_ble_eq_true rfl) ?_
  intro p e s m below meth c ls A hx hb hr hg hown hml hlocks hnm hP hK hD hS hA hN hl hE hST hSR hAw
  have hl : lv_has ls 2 [(0, .ref (ad 0)), (1, .int k)] := hl
  refine lv_iload_n hx hb dX7_needLayer_0 rfl (lv_at hl 1 rfl) ?_
  refine lv_if_lt (tgt := 15) hx hb dX7_needLayer_1 (by decide) (fun c_1 => ?_) (fun c_1 => ?_)
  · obtain ⟨sa9, hsa9⟩ := hSR (329, "no such layer") (List.mem_of_getElem? (i := 8) rfl)
    exact vx_throwSW (names := ENM) (cls := EIOB) hx hb hfl hown fitE.2.1 fitE.2.2 (hg _ mw_219) (hg _ mw_220) hsa9 (hat_of at2a at2b hg hN) gd2 hST.1 hST.2 hS (by rw [hml]; exact hl.1) dX7_needLayer_15 dX7_needLayer_18 dX7_needLayer_19 dX7_needLayer_22 dX7_needLayer_25 (fun x hx9 => (hE x hx9).elim) (Nat.le_of_ble_eq_true rfl) (Nat.le_of_ble_eq_true rfl) (Nat.le_of_ble_eq_true rfl) (Nat.le_of_ble_eq_true rfl) hlocks (xE rfl trivial hS) hS.2.2 (Nat.le_of_ble_eq_true rfl) (Nat.le_of_ble_eq_true rfl)
  · refine lv_iload_n hx hb dX7_needLayer_4 rfl (lv_at hl 1 rfl) ?_
    refine lv_aload_n hx hb dX7_needLayer_5 rfl (lv_at hl 0 rfl) ?_
    refine kR (rV (q0 := 0) (ci := 7) hx hb hml hown hg hN hK hP hD (c_freshPicture l D cI cJ cZ ad b F G R) mw_225 mw_226 mw_227 mw_228 mw_110 pdv_X7_freshPicture ⟨Nat.le_of_ble_eq_true rfl, Nat.le_of_ble_eq_true rfl⟩ rfl rfl rfl hl.1 rfl (Nat.le_of_ble_eq_true rfl) dX7_needLayer_6 ⟨Nat.le_of_ble_eq_true rfl, Nat.le_of_ble_eq_true rfl⟩) hD hS hA (fun r_1 u_1 H locs hp hP hD hS => ?_)
    obtain ⟨rfl, b_2, F_3, G_4, rfl, h5b_2, h6b_2, hb_2⟩ := hp
    refine va_getN (D := D) (ci := 3) (v := .int 0) (C := RX3) (T := TX3) (N := 16) hx hb hg inGX3 hown hK hP 6 rfl rfl 13 (by decide) (hN.use nw_62) (fun _ h9 => h9) rfl dX7_needLayer_9 ?_
    refine lv_icmp_lt (tgt := 26) hx hb dX7_needLayer_12 (by decide) (fun c_12 => absurd c_12 c_1) (fun c_12 => ?_)
    obtain ⟨sa9, hsa9⟩ := hSR (329, "no such layer") (List.mem_of_getElem? (i := 8) rfl)
    exact vx_throwSW (names := ENM) (cls := EIOB) hx hb hfl hown fitE.2.1 fitE.2.2 (hg _ mw_219) (hg _ mw_220) hsa9 (hat_of at2a at2b hg hN) gd2 hST.1 hST.2 hS (by rw [hml]; exact hl.1) dX7_needLayer_15 dX7_needLayer_18 dX7_needLayer_19 dX7_needLayer_22 dX7_needLayer_25 (fun x hx9 => (hE x hx9).elim) (Nat.le_of_ble_eq_true rfl) (Nat.le_of_ble_eq_true rfl) (Nat.le_of_ble_eq_true rfl) (Nat.le_of_ble_eq_true rfl) hlocks (xE rfl trivial hS) hS.2.2 (Nat.le_of_ble_eq_true rfl) (Nat.le_of_ble_eq_true rfl)
set_option maxHeartbeats 4000000 in
set_option maxRecDepth 100000 in
theorem c_needSweeps (l : Launch) (hfl : l.stackTraces = false) (D : va_G) (cI cJ cZ : ClassId) (ad : Nat → Nat) (b : Nat → Int32) (F : Nat → Nat → Int32) (G : Nat → Nat → Int64) (R : va_W) (k : Int32) : CX l D (TY cI cJ cZ) yX7_needSweeps (.code yX7_needSweeps cX7_needSweeps 1 (none : Option FieldType)) 6 1 6 (XW ad cI cJ 0 b F G ++ R) [.int k] (QV D (TY cI cJ cZ) (fun u => ¬ k < 1 ∧ k ≤ 20 ∧ u = XW ad cI cJ 0 b F G ++ R)) EIAE (k < 1 ∨ ¬ k ≤ 20) := by
  refine entX (by decide) (Nat.le_of_ble_eq_true rfl) ?_
  intro p e s m below meth c ls A hx hb hr hg hown hml hlocks hnm hP hK hD hS hA hN hl hE hST hSR hAw
  have hl : lv_has ls 1 [(0, .int k)] := hl
  refine lv_iload_n hx hb dX7_needSweeps_0 rfl (lv_at hl 0 rfl) ?_
  refine lv_iconst (v := 1) hx hb dX7_needSweeps_1 (by decide) ?_
  refine lv_icmp_lt (tgt := 11) hx hb dX7_needSweeps_2 (by decide) (fun c_2 => ?_) (fun c_2 => ?_)
  · obtain ⟨sa9, hsa9⟩ := hSR (331, "1 to 20 sweeps only") (List.mem_of_getElem? (i := 9) rfl)
    exact vx_throwSW (names := ENM) (cls := EIAE) hx hb hfl hown fitE.1 fitE.2.2 (hg _ mw_229) (hg _ mw_230) hsa9 (hat_of at1a at1b hg hN) gd1 hST.1 hST.2 hS (by rw [hml]; exact hl.1) dX7_needSweeps_11 dX7_needSweeps_14 dX7_needSweeps_15 dX7_needSweeps_18 dX7_needSweeps_21 (fun x hx9 => (hE x hx9).elim) (Nat.le_of_ble_eq_true rfl) (Nat.le_of_ble_eq_true rfl) (Nat.le_of_ble_eq_true rfl) (Nat.le_of_ble_eq_true rfl) hlocks (xE rfl (by first | exact Or.inl c_2 | exact Or.inr c_8) hS) hS.2.2 (Nat.le_of_ble_eq_true rfl) (Nat.le_of_ble_eq_true rfl)
  · refine lv_iload_n hx hb dX7_needSweeps_5 rfl (lv_at hl 0 rfl) ?_
    refine lv_bipush (v := 20) hx hb dX7_needSweeps_6 (by decide) ?_
    refine lv_icmp_le (tgt := 22) hx hb dX7_needSweeps_8 (by decide) (fun c_8 => ?_) (fun c_8 => ?_)
    · refine W.widen (k := 1) (n := 6) (Nat.le_of_ble_eq_true rfl) (Nat.le_of_ble_eq_true rfl) ?_
      refine vx_ret ?_
      exact W.vret hx hb hr (fun t ht hW => ⟨⟨(XW ad cI cJ 0 b F G ++ R), rfl, ⟨c_2, c_8, rfl⟩, ⟨by rw [ht]; exact hP, va_K.moved hW.alike hK, hD⟩⟩, hS.F ht⟩) hS.2.2 dX7_needSweeps_22
    · obtain ⟨sa9, hsa9⟩ := hSR (331, "1 to 20 sweeps only") (List.mem_of_getElem? (i := 9) rfl)
      exact vx_throwSW (names := ENM) (cls := EIAE) hx hb hfl hown fitE.1 fitE.2.2 (hg _ mw_229) (hg _ mw_230) hsa9 (hat_of at1a at1b hg hN) gd1 hST.1 hST.2 hS (by rw [hml]; exact hl.1) dX7_needSweeps_11 dX7_needSweeps_14 dX7_needSweeps_15 dX7_needSweeps_18 dX7_needSweeps_21 (fun x hx9 => (hE x hx9).elim) (Nat.le_of_ble_eq_true rfl) (Nat.le_of_ble_eq_true rfl) (Nat.le_of_ble_eq_true rfl) (Nat.le_of_ble_eq_true rfl) hlocks (xE rfl (by first | exact Or.inl c_2 | exact Or.inr c_8) hS) hS.2.2 (Nat.le_of_ble_eq_true rfl) (Nat.le_of_ble_eq_true rfl)
