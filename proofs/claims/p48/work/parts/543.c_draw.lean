theorem dX3_draw_0 : decode cX3_draw 0 = .ok (.aload_n 0, 1) := by decide +kernel
theorem dX3_draw_1 : decode cX3_draw 1 = .ok (.aload_n 1, 1) := by decide +kernel
theorem dX3_draw_2 : decode cX3_draw 2 = .ok (.getfield 52, 3) := by decide +kernel
theorem dX3_draw_5 : decode cX3_draw 5 = .ok (.putfield 58, 3) := by decide +kernel
theorem dX3_draw_8 : decode cX3_draw 8 = .ok (.aload_n 0, 1) := by decide +kernel
theorem dX3_draw_9 : decode cX3_draw 9 = .ok (.iconst 0, 1) := by decide +kernel
theorem dX3_draw_10 : decode cX3_draw 10 = .ok (.putfield 59, 3) := by decide +kernel
theorem dX3_draw_13 : decode cX3_draw 13 = .ok (.aload_n 0, 1) := by decide +kernel
theorem dX3_draw_14 : decode cX3_draw 14 = .ok (.getfield 12, 3) := by decide +kernel
theorem dX3_draw_17 : decode cX3_draw 17 = .ok (.aload_n 1, 1) := by decide +kernel
theorem dX3_draw_18 : decode cX3_draw 18 = .ok (.invokevirtual 62, 3) := by decide +kernel
theorem dX3_draw_21 : decode cX3_draw 21 = .ok (.aload_n 0, 1) := by decide +kernel
theorem dX3_draw_22 : decode cX3_draw 22 = .ok (.invokevirtual 66, 3) := by decide +kernel
theorem dX3_draw_25 : decode cX3_draw 25 = .ok (.aload_n 0, 1) := by decide +kernel
theorem dX3_draw_26 : decode cX3_draw 26 = .ok (.invokevirtual 69, 3) := by decide +kernel
theorem dX3_draw_29 : decode cX3_draw 29 = .ok (.iconst 0, 1) := by decide +kernel
theorem dX3_draw_30 : decode cX3_draw 30 = .ok (.istore_n 2, 1) := by decide +kernel
theorem dX3_draw_31 : decode cX3_draw 31 = .ok (.iconst 0, 1) := by decide +kernel
theorem dX3_draw_32 : decode cX3_draw 32 = .ok (.istore_n 3, 1) := by decide +kernel
theorem dX3_draw_33 : decode cX3_draw 33 = .ok (.iload_n 3, 1) := by decide +kernel
theorem dX3_draw_34 : decode cX3_draw 34 = .ok (.aload_n 0, 1) := by decide +kernel
theorem dX3_draw_35 : decode cX3_draw 35 = .ok (.getfield 72, 3) := by decide +kernel
theorem dX3_draw_38 : decode cX3_draw 38 = .ok (.if_icmp .ge 25, 3) := by decide +kernel
theorem dX3_draw_41 : decode cX3_draw 41 = .ok (.aload_n 0, 1) := by decide +kernel
theorem dX3_draw_42 : decode cX3_draw 42 = .ok (.getfield 22, 3) := by decide +kernel
theorem dX3_draw_45 : decode cX3_draw 45 = .ok (.iload_n 3, 1) := by decide +kernel
theorem dX3_draw_46 : decode cX3_draw 46 = .ok (.iload_n 2, 1) := by decide +kernel
theorem dX3_draw_47 : decode cX3_draw 47 = .ok (.invokestatic 75, 3) := by decide +kernel
theorem dX3_draw_50 : decode cX3_draw 50 = .ok (.aload_n 0, 1) := by decide +kernel
theorem dX3_draw_51 : decode cX3_draw 51 = .ok (.iload_n 3, 1) := by decide +kernel
theorem dX3_draw_52 : decode cX3_draw 52 = .ok (.iload_n 2, 1) := by decide +kernel
theorem dX3_draw_53 : decode cX3_draw 53 = .ok (.invokevirtual 79, 3) := by decide +kernel
theorem dX3_draw_56 : decode cX3_draw 56 = .ok (.istore_n 2, 1) := by decide +kernel
theorem dX3_draw_57 : decode cX3_draw 57 = .ok (.iinc 3 1, 3) := by decide +kernel
theorem dX3_draw_60 : decode cX3_draw 60 = .ok (.goto (-27), 3) := by decide +kernel
theorem dX3_draw_63 : decode cX3_draw 63 = .ok (.aload_n 0, 1) := by decide +kernel
theorem dX3_draw_64 : decode cX3_draw 64 = .ok (.getfield 22, 3) := by decide +kernel
theorem dX3_draw_67 : decode cX3_draw 67 = .ok (.aload_n 0, 1) := by decide +kernel
theorem dX3_draw_68 : decode cX3_draw 68 = .ok (.getfield 72, 3) := by decide +kernel
theorem dX3_draw_71 : decode cX3_draw 71 = .ok (.iload_n 2, 1) := by decide +kernel
theorem dX3_draw_72 : decode cX3_draw 72 = .ok (.invokestatic 75, 3) := by decide +kernel
theorem dX3_draw_75 : decode cX3_draw 75 = .ok (.return_, 1) := by decide +kernel
theorem mw_265 : Cond.fieldLink RX3 59 "OrielChart$Picture" "sweeps" "I" ∈ GW := gw_mem (inT2 _ (List.mem_of_getElem? (i := 30) rfl)) rfl
theorem mw_266 : Cond.code yX6_goThrough cX6_goThrough 3 (none : Option FieldType) ∈ GW := gw_mem (inT3 _ (List.mem_of_getElem? (i := 21) rfl)) rfl
theorem mw_267 : Cond.methodLink RX3 62 yX6_goThrough ∈ GW := gw_mem (inT3 _ (List.mem_of_getElem? (i := 18) rfl)) rfl
theorem mw_268 : Cond.instanceMethod yX6_goThrough ∈ GW := gw_mem (inT3 _ (List.mem_of_getElem? (i := 19) rfl)) rfl
theorem mw_269 : Cond.selects RX6 yX6_goThrough yX6_goThrough ∈ GW := gw_mem (inT3 _ (List.mem_of_getElem? (i := 20) rfl)) rfl
theorem mw_270 : Cond.code yX3_setLayers cX3_setLayers 3 (none : Option FieldType) ∈ GW := gw_mem (inT3 _ (List.mem_of_getElem? (i := 38) rfl)) rfl
theorem mw_271 : Cond.methodLink RX3 66 yX3_setLayers ∈ GW := gw_mem (inT3 _ (List.mem_of_getElem? (i := 35) rfl)) rfl
theorem mw_272 : Cond.instanceMethod yX3_setLayers ∈ GW := gw_mem (inT3 _ (List.mem_of_getElem? (i := 37) rfl)) rfl
theorem mw_273 : Cond.selects RX3 yX3_setLayers yX3_setLayers ∈ GW := gw_mem (inTp (q := (yX3_setLayers, 16)) (List.mem_of_getElem? (i := 22) rfl)) rfl
theorem mw_274 : Cond.code yX3_numberBends cX3_numberBends 5 (none : Option FieldType) ∈ GW := gw_mem (inT3 _ (List.mem_of_getElem? (i := 60) rfl)) rfl
theorem mw_275 : Cond.methodLink RX3 69 yX3_numberBends ∈ GW := gw_mem (inT3 _ (List.mem_of_getElem? (i := 57) rfl)) rfl
theorem mw_276 : Cond.instanceMethod yX3_numberBends ∈ GW := gw_mem (inT3 _ (List.mem_of_getElem? (i := 59) rfl)) rfl
theorem mw_277 : Cond.selects RX3 yX3_numberBends yX3_numberBends ∈ GW := gw_mem (inTp (q := (yX3_numberBends, 16)) (List.mem_of_getElem? (i := 25) rfl)) rfl
theorem mw_278 : Cond.code yX3_fill cX3_fill 6 (some Jvm.ClassFile.FieldType.int) ∈ GW := gw_mem (inT3 _ (List.mem_of_getElem? (i := 72) rfl)) rfl
theorem mw_279 : Cond.methodLink RX3 79 yX3_fill ∈ GW := gw_mem (inT3 _ (List.mem_of_getElem? (i := 69) rfl)) rfl
theorem mw_280 : Cond.instanceMethod yX3_fill ∈ GW := gw_mem (inT3 _ (List.mem_of_getElem? (i := 71) rfl)) rfl
theorem mw_281 : Cond.selects RX3 yX3_fill yX3_fill ∈ GW := gw_mem (inTp (q := (yX3_fill, 16)) (List.mem_of_getElem? (i := 27) rfl)) rfl
theorem pdv_X6_goThrough : yX6_goThrough.cls = RX6 ∧ yX6_goThrough.cls ≠ "java/lang/invoke/MethodHandle" ∧ yX6_goThrough.cls ≠ "java/lang/invoke/VarHandle" ∧ (parseMethodDescriptor yX6_goThrough.desc).map (fun d => d.parameters.length) = some 1 := by decide +kernel
theorem pdv_X3_setLayers : yX3_setLayers.cls = RX3 ∧ yX3_setLayers.cls ≠ "java/lang/invoke/MethodHandle" ∧ yX3_setLayers.cls ≠ "java/lang/invoke/VarHandle" ∧ (parseMethodDescriptor yX3_setLayers.desc).map (fun d => d.parameters.length) = some 0 := by decide +kernel
theorem pdv_X3_numberBends : yX3_numberBends.cls = RX3 ∧ yX3_numberBends.cls ≠ "java/lang/invoke/MethodHandle" ∧ yX3_numberBends.cls ≠ "java/lang/invoke/VarHandle" ∧ (parseMethodDescriptor yX3_numberBends.desc).map (fun d => d.parameters.length) = some 0 := by decide +kernel
theorem pdv_X3_fill : yX3_fill.cls = RX3 ∧ yX3_fill.cls ≠ "java/lang/invoke/MethodHandle" ∧ yX3_fill.cls ≠ "java/lang/invoke/VarHandle" ∧ (parseMethodDescriptor yX3_fill.desc).map (fun d => d.parameters.length) = some 2 := by decide +kernel
set_option maxHeartbeats 4000000 in
set_option maxRecDepth 100000 in
theorem c_draw (l : Launch) (D : va_G) (cI cJ : ClassId) (ad : Nat → Nat) (co fl ra li re wa pi : Ob) : CT l D (TY cI cJ) yX3_draw (.code yX3_draw cX3_draw 4 (none : Option FieldType)) 5 0 0 (XW ad cI cJ co fl ra li re wa pi) [.ref (ad 6), .ref (ad 2)] (QV D (TY cI cJ) (fun u => u = (XW ad cI cJ co fl ra li re (goThrough fl wa) (draw fl wa pi)))) := by
  refine ent (by decide) (Nat.le_of_ble_eq_true rfl) ?_
  intro p e s m below meth c ls A hx hb hr hg hown hml hlocks hnm hP hK hD hS hA hN hl
  have hl : lv_has ls 4 [(0, .ref (ad 6)), (1, .ref (ad 2))] := hl
  refine lv_aload_n hx hb dX3_draw_0 rfl (lv_at hl 0 rfl) ?_
  refine lv_aload_n hx hb dX3_draw_1 rfl (lv_at hl 1 rfl) ?_
  refine va_getN (D := D) (ci := 1) (v := .int (gi fl 1)) (C := RX1) (T := TX1) (N := 11) hx hb hg inGX1 hown hK hP 2 xo2 rfl 8 (by decide) (hN.use nw_29) (fun _ h9 => h9) (xvX1_8 rfl) dX3_draw_2 ?_
  refine va_put (D := D) (ci := 3) (v := .int (gi fl 1)) (C := RX3) (T := TX3) (N := 16) hx hb hg inGX3 tyX3 tyX3_ok nmX3 hown hK hP hD hS 6 xo6 rfl 12 (by decide) (hg _ mw_228) (fun _ h9 => h9) rfl (tyX3_ok 12 (by decide)) rfl rfl (Nat.le_of_ble_eq_true rfl) dX3_draw_5 (fun H locs hP hD hS => ?_)
  have hP : va_P D vwCl (XW ad cI cJ co fl ra li re wa (si pi 0 (gi fl 1))) H := cgP xpX3_12 hP
  have hD : va_D A (XW ad cI cJ co fl ra li re wa (si pi 0 (gi fl 1))) := cgD xpX3_12 hD
  refine lv_aload_n hx hb dX3_draw_8 rfl (lv_at hl 0 rfl) ?_
  refine lv_iconst (v := 0) hx hb dX3_draw_9 (by decide) ?_
  refine va_put (D := D) (ci := 3) (v := .int 0) (C := RX3) (T := TX3) (N := 16) hx hb hg inGX3 tyX3 tyX3_ok nmX3 hown hK hP hD hS 6 xo6 rfl 14 (by decide) (hg _ mw_265) (fun _ h9 => h9) rfl (tyX3_ok 14 (by decide)) rfl rfl (Nat.le_of_ble_eq_true rfl) dX3_draw_10 (fun H locs hP hD hS => ?_)
  have hP : va_P D vwCl (XW ad cI cJ co fl ra li re wa (si (si pi 0 (gi fl 1)) 2 0)) H := cgP xpX3_14 hP
  have hD : va_D A (XW ad cI cJ co fl ra li re wa (si (si pi 0 (gi fl 1)) 2 0)) := cgD xpX3_14 hD
  refine lv_aload_n hx hb dX3_draw_13 rfl (lv_at hl 0 rfl) ?_
  refine va_get (D := D) (ci := 3) (v := .ref (ad 7)) (C := RX3) (T := TX3) (N := 16) hx hb hg inGX3 hown hK hP 6 xo6 rfl 0 (by decide) (hg _ mw_227) (fun _ h9 => h9) xvX3_0 dX3_draw_14 ?_
  refine lv_aload_n hx hb dX3_draw_17 rfl (lv_at hl 1 rfl) ?_
  refine kV (rV (q0 := 7) (ci := 6) hx hb hml hown hg hN hK hP hD (c_goThrough l D cI cJ ad co fl ra li re wa (si (si pi 0 (gi fl 1)) 2 0)) mw_266 mw_267 mw_268 mw_269 mw_208 pdv_X6_goThrough ⟨Nat.le_of_ble_eq_true rfl, Nat.le_of_ble_eq_true rfl⟩ rfl xo7 rfl hl.1 rfl (Nat.le_of_ble_eq_true rfl) dX3_draw_18 ⟨Nat.le_of_ble_eq_true rfl, Nat.le_of_ble_eq_true rfl⟩) hD hS hA (fun u_1 H locs hp hP hD hS => ?_)
  obtain rfl := hp.symm
  have hP : va_P D vwCl (XW ad cI cJ co fl ra li re (goThrough fl wa) (si (si pi 0 (gi fl 1)) 2 0)) H := hP
  have hD : va_D A (XW ad cI cJ co fl ra li re (goThrough fl wa) (si (si pi 0 (gi fl 1)) 2 0)) := hD
  refine lv_aload_n hx hb dX3_draw_21 rfl (lv_at hl 0 rfl) ?_
  refine kV (rV (q0 := 6) (ci := 3) hx hb hml hown hg hN hK hP hD (c_setLayers l D cI cJ ad co fl ra li re (goThrough fl wa) (si (si pi 0 (gi fl 1)) 2 0)) mw_270 mw_271 mw_272 mw_273 mw_234 pdv_X3_setLayers ⟨Nat.le_of_ble_eq_true rfl, Nat.le_of_ble_eq_true rfl⟩ rfl xo6 rfl hl.1 rfl (Nat.le_of_ble_eq_true rfl) dX3_draw_22 ⟨Nat.le_of_ble_eq_true rfl, Nat.le_of_ble_eq_true rfl⟩) hD hS hA (fun u_2 H locs hp hP hD hS => ?_)
  obtain rfl := hp.symm
  have hP : va_P D vwCl (XW ad cI cJ co fl ra li re (goThrough fl wa) (setLayers (goThrough fl wa) (si (si pi 0 (gi fl 1)) 2 0))) H := hP
  have hD : va_D A (XW ad cI cJ co fl ra li re (goThrough fl wa) (setLayers (goThrough fl wa) (si (si pi 0 (gi fl 1)) 2 0))) := hD
  refine lv_aload_n hx hb dX3_draw_25 rfl (lv_at hl 0 rfl) ?_
  refine kV (rV (q0 := 6) (ci := 3) hx hb hml hown hg hN hK hP hD (c_numberBends l D cI cJ ad co fl ra li re (goThrough fl wa) (setLayers (goThrough fl wa) (si (si pi 0 (gi fl 1)) 2 0))) mw_274 mw_275 mw_276 mw_277 mw_234 pdv_X3_numberBends ⟨Nat.le_of_ble_eq_true rfl, Nat.le_of_ble_eq_true rfl⟩ rfl xo6 rfl hl.1 rfl (Nat.le_of_ble_eq_true rfl) dX3_draw_26 ⟨Nat.le_of_ble_eq_true rfl, Nat.le_of_ble_eq_true rfl⟩) hD hS hA (fun u_3 H locs hp hP hD hS => ?_)
  obtain rfl := hp.symm
  have hP : va_P D vwCl (XW ad cI cJ co fl ra li re (goThrough fl wa) (numberBends (goThrough fl wa) (setLayers (goThrough fl wa) (si (si pi 0 (gi fl 1)) 2 0)))) H := hP
  have hD : va_D A (XW ad cI cJ co fl ra li re (goThrough fl wa) (numberBends (goThrough fl wa) (setLayers (goThrough fl wa) (si (si pi 0 (gi fl 1)) 2 0)))) := hD
  refine lv_iconst (v := 0) hx hb dX3_draw_29 (by decide) ?_
  refine lv_istore_n (lv' := [(2, .int 0), (0, .ref (ad 6)), (1, .ref (ad 2))]) hx hb dX3_draw_30 rfl hl (by decide) rfl (fun ls hl => ?_)
  refine lv_iconst (v := 0) hx hb dX3_draw_31 (by decide) ?_
  refine lv_istore_n (lv' := [(3, .int 0), (2, .int 0), (0, .ref (ad 6)), (1, .ref (ad 2))]) hx hb dX3_draw_32 rfl hl (by decide) rfl (fun ls hl => ?_)
  refine w_loop (σ := Ob × Int32) (fun (i_4 : Nat) (p_4 : Ob × Int32) (H : Heap) (locs : List Loc) (ls : Array Slot) => p_4 = (lp (drStep (goThrough fl wa)) i_4 ((numberBends (goThrough fl wa) (setLayers (goThrough fl wa) (si (si pi 0 (gi fl 1)) 2 0))), 0)) ∧ va_P D vwCl (XW ad cI cJ co fl ra li re (goThrough fl wa) p_4.1) H ∧ va_D A (XW ad cI cJ co fl ra li re (goThrough fl wa) p_4.1) ∧ va_S A s.heap H locs ∧ lv_has ls 4 [(0, .ref (ad 6)), (1, .ref (ad 2)), (2, .int p_4.2), (3, .int (nI i_4))]) (nN (gi (numberBends (goThrough fl wa) (setLayers (goThrough fl wa) (si (si pi 0 (gi fl 1)) 2 0))) 1)) (fun p_4 H locs ls hI => ?_) (fun i_4 p_4 H locs ls hi_4 hI ih_4 => ?_) 0 ((numberBends (goThrough fl wa) (setLayers (goThrough fl wa) (si (si pi 0 (gi fl 1)) 2 0))), 0) (Nat.zero_le _) ⟨(lp_0 _ _), hP, hD, hS, (by rw [nI_0]; exact lv_sub hl [2, 3, 1, 0] rfl)⟩
  · obtain ⟨h_4, hP, hD, hS, hl⟩ := hI
    have h_4 := h_4.symm
    subst h_4
    have hP : va_P D vwCl (XW ad cI cJ co fl ra li re (goThrough fl wa) ((lp (drStep (goThrough fl wa)) (nN (gi (numberBends (goThrough fl wa) (setLayers (goThrough fl wa) (si (si pi 0 (gi fl 1)) 2 0))) 1)) ((numberBends (goThrough fl wa) (setLayers (goThrough fl wa) (si (si pi 0 (gi fl 1)) 2 0))), 0)).1)) H := hP
    have hD : va_D A (XW ad cI cJ co fl ra li re (goThrough fl wa) ((lp (drStep (goThrough fl wa)) (nN (gi (numberBends (goThrough fl wa) (setLayers (goThrough fl wa) (si (si pi 0 (gi fl 1)) 2 0))) 1)) ((numberBends (goThrough fl wa) (setLayers (goThrough fl wa) (si (si pi 0 (gi fl 1)) 2 0))), 0)).1)) := hD
    have hl : lv_has ls 4 [(0, .ref (ad 6)), (1, .ref (ad 2)), (2, .int ((lp (drStep (goThrough fl wa)) (nN (gi (numberBends (goThrough fl wa) (setLayers (goThrough fl wa) (si (si pi 0 (gi fl 1)) 2 0))) 1)) ((numberBends (goThrough fl wa) (setLayers (goThrough fl wa) (si (si pi 0 (gi fl 1)) 2 0))), 0)).2)), (3, .int (nI ((nN (gi (numberBends (goThrough fl wa) (setLayers (goThrough fl wa) (si (si pi 0 (gi fl 1)) 2 0))) 1)))))] := hl
    refine lv_iload_n hx hb dX3_draw_33 rfl (lv_at hl 3 rfl) ?_
    refine lv_aload_n hx hb dX3_draw_34 rfl (lv_at hl 0 rfl) ?_
    refine va_get (D := D) (ci := 3) (v := .int (gi ((lp (drStep (goThrough fl wa)) (nN (gi (numberBends (goThrough fl wa) (setLayers (goThrough fl wa) (si (si pi 0 (gi fl 1)) 2 0))) 1)) ((numberBends (goThrough fl wa) (setLayers (goThrough fl wa) (si (si pi 0 (gi fl 1)) 2 0))), 0)).1) 1)) (C := RX3) (T := TX3) (N := 16) hx hb hg inGX3 hown hK hP 6 xo6 rfl 13 (by decide) (hg _ mw_235) (fun _ h9 => h9) (xvX3_13 rfl) dX3_draw_35 ?_
    refine lv_icmp_ge (tgt := 63) hx hb dX3_draw_38 (by decide) (fun _ => ?_) (fun c_38 => absurd (by rw [k_drL]; exact lp_out _) c_38)
    refine lv_aload_n hx hb dX3_draw_63 rfl (lv_at hl 0 rfl) ?_
    refine va_get (D := D) (ci := 3) (v := .ref (ad 35)) (C := RX3) (T := TX3) (N := 16) hx hb hg inGX3 hown hK hP 6 xo6 rfl 2 (by decide) (hg _ mw_256) (fun _ h9 => h9) xvX3_2 dX3_draw_64 ?_
    refine lv_aload_n hx hb dX3_draw_67 rfl (lv_at hl 0 rfl) ?_
    refine va_get (D := D) (ci := 3) (v := .int (gi ((lp (drStep (goThrough fl wa)) (nN (gi (numberBends (goThrough fl wa) (setLayers (goThrough fl wa) (si (si pi 0 (gi fl 1)) 2 0))) 1)) ((numberBends (goThrough fl wa) (setLayers (goThrough fl wa) (si (si pi 0 (gi fl 1)) 2 0))), 0)).1) 1)) (C := RX3) (T := TX3) (N := 16) hx hb hg inGX3 hown hK hP 6 xo6 rfl 13 (by decide) (hg _ mw_235) (fun _ h9 => h9) (xvX3_13 rfl) dX3_draw_68 ?_
    refine lv_iload_n hx hb dX3_draw_71 rfl (lv_at hl 2 rfl) ?_
    refine kV (rSN hx hb hml hown hg hN hK hP hD (c_put l D cI cJ (XW ad cI cJ co fl ra li re (goThrough fl wa) ((lp (drStep (goThrough fl wa)) (nN (gi (numberBends (goThrough fl wa) (setLayers (goThrough fl wa) (si (si pi 0 (gi fl 1)) 2 0))) 1)) ((numberBends (goThrough fl wa) (setLayers (goThrough fl wa) (si (si pi 0 (gi fl 1)) 2 0))), 0)).1)) 35 (ad 35) 41 (gA ((lp (drStep (goThrough fl wa)) (nN (gi (numberBends (goThrough fl wa) (setLayers (goThrough fl wa) (si (si pi 0 (gi fl 1)) 2 0))) 1)) ((numberBends (goThrough fl wa) (setLayers (goThrough fl wa) (si (si pi 0 (gi fl 1)) 2 0))), 0)).1) 1) (gi ((lp (drStep (goThrough fl wa)) (nN (gi (numberBends (goThrough fl wa) (setLayers (goThrough fl wa) (si (si pi 0 (gi fl 1)) 2 0))) 1)) ((numberBends (goThrough fl wa) (setLayers (goThrough fl wa) (si (si pi 0 (gi fl 1)) 2 0))), 0)).1) 1) ((lp (drStep (goThrough fl wa)) (nN (gi (numberBends (goThrough fl wa) (setLayers (goThrough fl wa) (si (si pi 0 (gi fl 1)) 2 0))) 1)) ((numberBends (goThrough fl wa) (setLayers (goThrough fl wa) (si (si pi 0 (gi fl 1)) 2 0))), 0)).2) (xg35 rfl) (by decide)) mw_92 nw_95 mw_93 mw_77 pd_X7_put ⟨Nat.le_of_ble_eq_true rfl, Nat.le_of_ble_eq_true rfl⟩ rfl hl.1 rfl (Nat.le_of_ble_eq_true rfl) dX3_draw_72 ⟨Nat.le_of_ble_eq_true rfl, Nat.le_of_ble_eq_true rfl⟩) hD hS hA (fun u_5 H locs hp hP hD hS => ?_)
    obtain rfl := hp.symm
    have hP : va_P D vwCl (XW ad cI cJ co fl ra li re (goThrough fl wa) (sA ((lp (drStep (goThrough fl wa)) (nN (gi (numberBends (goThrough fl wa) (setLayers (goThrough fl wa) (si (si pi 0 (gi fl 1)) 2 0))) 1)) ((numberBends (goThrough fl wa) (setLayers (goThrough fl wa) (si (si pi 0 (gi fl 1)) 2 0))), 0)).1) 1 (wr (gA ((lp (drStep (goThrough fl wa)) (nN (gi (numberBends (goThrough fl wa) (setLayers (goThrough fl wa) (si (si pi 0 (gi fl 1)) 2 0))) 1)) ((numberBends (goThrough fl wa) (setLayers (goThrough fl wa) (si (si pi 0 (gi fl 1)) 2 0))), 0)).1) 1) 41 (gi ((lp (drStep (goThrough fl wa)) (nN (gi (numberBends (goThrough fl wa) (setLayers (goThrough fl wa) (si (si pi 0 (gi fl 1)) 2 0))) 1)) ((numberBends (goThrough fl wa) (setLayers (goThrough fl wa) (si (si pi 0 (gi fl 1)) 2 0))), 0)).1) 1) ((lp (drStep (goThrough fl wa)) (nN (gi (numberBends (goThrough fl wa) (setLayers (goThrough fl wa) (si (si pi 0 (gi fl 1)) 2 0))) 1)) ((numberBends (goThrough fl wa) (setLayers (goThrough fl wa) (si (si pi 0 (gi fl 1)) 2 0))), 0)).2)))) H := cgP xs35 hP
    have hD : va_D A (XW ad cI cJ co fl ra li re (goThrough fl wa) (sA ((lp (drStep (goThrough fl wa)) (nN (gi (numberBends (goThrough fl wa) (setLayers (goThrough fl wa) (si (si pi 0 (gi fl 1)) 2 0))) 1)) ((numberBends (goThrough fl wa) (setLayers (goThrough fl wa) (si (si pi 0 (gi fl 1)) 2 0))), 0)).1) 1 (wr (gA ((lp (drStep (goThrough fl wa)) (nN (gi (numberBends (goThrough fl wa) (setLayers (goThrough fl wa) (si (si pi 0 (gi fl 1)) 2 0))) 1)) ((numberBends (goThrough fl wa) (setLayers (goThrough fl wa) (si (si pi 0 (gi fl 1)) 2 0))), 0)).1) 1) 41 (gi ((lp (drStep (goThrough fl wa)) (nN (gi (numberBends (goThrough fl wa) (setLayers (goThrough fl wa) (si (si pi 0 (gi fl 1)) 2 0))) 1)) ((numberBends (goThrough fl wa) (setLayers (goThrough fl wa) (si (si pi 0 (gi fl 1)) 2 0))), 0)).1) 1) ((lp (drStep (goThrough fl wa)) (nN (gi (numberBends (goThrough fl wa) (setLayers (goThrough fl wa) (si (si pi 0 (gi fl 1)) 2 0))) 1)) ((numberBends (goThrough fl wa) (setLayers (goThrough fl wa) (si (si pi 0 (gi fl 1)) 2 0))), 0)).2)))) := cgD xs35 hD
    exact W.vret hx hb hr (fun t ht hW => ⟨⟨(XW ad cI cJ co fl ra li re (goThrough fl wa) (sA ((lp (drStep (goThrough fl wa)) (nN (gi (numberBends (goThrough fl wa) (setLayers (goThrough fl wa) (si (si pi 0 (gi fl 1)) 2 0))) 1)) ((numberBends (goThrough fl wa) (setLayers (goThrough fl wa) (si (si pi 0 (gi fl 1)) 2 0))), 0)).1) 1 (wr (gA ((lp (drStep (goThrough fl wa)) (nN (gi (numberBends (goThrough fl wa) (setLayers (goThrough fl wa) (si (si pi 0 (gi fl 1)) 2 0))) 1)) ((numberBends (goThrough fl wa) (setLayers (goThrough fl wa) (si (si pi 0 (gi fl 1)) 2 0))), 0)).1) 1) 41 (gi ((lp (drStep (goThrough fl wa)) (nN (gi (numberBends (goThrough fl wa) (setLayers (goThrough fl wa) (si (si pi 0 (gi fl 1)) 2 0))) 1)) ((numberBends (goThrough fl wa) (setLayers (goThrough fl wa) (si (si pi 0 (gi fl 1)) 2 0))), 0)).1) 1) ((lp (drStep (goThrough fl wa)) (nN (gi (numberBends (goThrough fl wa) (setLayers (goThrough fl wa) (si (si pi 0 (gi fl 1)) 2 0))) 1)) ((numberBends (goThrough fl wa) (setLayers (goThrough fl wa) (si (si pi 0 (gi fl 1)) 2 0))), 0)).2)))), rfl, xw_eq rfl rfl rfl rfl rfl (show (goThrough fl wa) = (goThrough fl wa) from (by first | with_reducible rfl | (simp only [draw, drFill, drNum, gi_sl, gi_sA, gi_sB, gi_si_s, gi_si_n, gl_si, gl_sA, gl_sB, gl_sl_s, gl_sl_n, gA_si, gA_sl, gA_sB, gA_sA_s, gA_sA_n, gB_si, gB_sl, gB_sA, gB_sB_s, gB_sB_n, Nat.reduceBEq, if_true, if_false, eq_self, Bool.false_eq_true, Bool.true_eq_false, not_true_eq_false, not_false_eq_true, decide_true, decide_false, cond_true, cond_false, Bool.true_and, Bool.false_and, Bool.and_true, Bool.and_false, Bool.true_or, Bool.false_or, Bool.or_true, Bool.or_false, b2i_tt, b2i_ff, pr_eta]; done))) (show (sA ((lp (drStep (goThrough fl wa)) (nN (gi (numberBends (goThrough fl wa) (setLayers (goThrough fl wa) (si (si pi 0 (gi fl 1)) 2 0))) 1)) ((numberBends (goThrough fl wa) (setLayers (goThrough fl wa) (si (si pi 0 (gi fl 1)) 2 0))), 0)).1) 1 (wr (gA ((lp (drStep (goThrough fl wa)) (nN (gi (numberBends (goThrough fl wa) (setLayers (goThrough fl wa) (si (si pi 0 (gi fl 1)) 2 0))) 1)) ((numberBends (goThrough fl wa) (setLayers (goThrough fl wa) (si (si pi 0 (gi fl 1)) 2 0))), 0)).1) 1) 41 (gi ((lp (drStep (goThrough fl wa)) (nN (gi (numberBends (goThrough fl wa) (setLayers (goThrough fl wa) (si (si pi 0 (gi fl 1)) 2 0))) 1)) ((numberBends (goThrough fl wa) (setLayers (goThrough fl wa) (si (si pi 0 (gi fl 1)) 2 0))), 0)).1) 1) ((lp (drStep (goThrough fl wa)) (nN (gi (numberBends (goThrough fl wa) (setLayers (goThrough fl wa) (si (si pi 0 (gi fl 1)) 2 0))) 1)) ((numberBends (goThrough fl wa) (setLayers (goThrough fl wa) (si (si pi 0 (gi fl 1)) 2 0))), 0)).2))) = (draw fl wa pi) from (by first | with_reducible rfl | (simp only [draw, drFill, drNum, gi_sl, gi_sA, gi_sB, gi_si_s, gi_si_n, gl_si, gl_sA, gl_sB, gl_sl_s, gl_sl_n, gA_si, gA_sl, gA_sB, gA_sA_s, gA_sA_n, gB_si, gB_sl, gB_sA, gB_sB_s, gB_sB_n, Nat.reduceBEq, if_true, if_false, eq_self, Bool.false_eq_true, Bool.true_eq_false, not_true_eq_false, not_false_eq_true, decide_true, decide_false, cond_true, cond_false, Bool.true_and, Bool.false_and, Bool.and_true, Bool.and_false, Bool.true_or, Bool.false_or, Bool.or_true, Bool.or_false, b2i_tt, b2i_ff, pr_eta]; done))), ⟨by rw [ht]; exact hP, va_K.moved hW.alike hK, hD⟩⟩, hS.F ht⟩) hS.2.2 dX3_draw_75
  · obtain ⟨h_4, hP, hD, hS, hl⟩ := hI
    have hP : va_P D vwCl (XW ad cI cJ co fl ra li re (goThrough fl wa) p_4.1) H := hP
    have hD : va_D A (XW ad cI cJ co fl ra li re (goThrough fl wa) p_4.1) := hD
    have hl : lv_has ls 4 [(0, .ref (ad 6)), (1, .ref (ad 2)), (2, .int p_4.2), (3, .int (nI i_4))] := hl
    refine lv_iload_n hx hb dX3_draw_33 rfl (lv_at hl 3 rfl) ?_
    refine lv_aload_n hx hb dX3_draw_34 rfl (lv_at hl 0 rfl) ?_
    refine va_get (D := D) (ci := 3) (v := .int (gi p_4.1 1)) (C := RX3) (T := TX3) (N := 16) hx hb hg inGX3 hown hK hP 6 xo6 rfl 13 (by decide) (hg _ mw_235) (fun _ h9 => h9) (xvX3_13 rfl) dX3_draw_35 ?_
    refine lv_icmp_ge (tgt := 63) hx hb dX3_draw_38 (by decide) (fun c_38 => absurd c_38 (by rw [h_4, k_drL]; exact lp_in hi_4)) (fun _ => ?_)
    refine lv_aload_n hx hb dX3_draw_41 rfl (lv_at hl 0 rfl) ?_
    refine va_get (D := D) (ci := 3) (v := .ref (ad 35)) (C := RX3) (T := TX3) (N := 16) hx hb hg inGX3 hown hK hP 6 xo6 rfl 2 (by decide) (hg _ mw_256) (fun _ h9 => h9) xvX3_2 dX3_draw_42 ?_
    refine lv_iload_n hx hb dX3_draw_45 rfl (lv_at hl 3 rfl) ?_
    refine lv_iload_n hx hb dX3_draw_46 rfl (lv_at hl 2 rfl) ?_
    refine kV (rSN hx hb hml hown hg hN hK hP hD (c_put l D cI cJ (XW ad cI cJ co fl ra li re (goThrough fl wa) p_4.1) 35 (ad 35) 41 (gA p_4.1 1) (nI i_4) p_4.2 (xg35 rfl) (by decide)) mw_92 nw_95 mw_93 mw_77 pd_X7_put ⟨Nat.le_of_ble_eq_true rfl, Nat.le_of_ble_eq_true rfl⟩ rfl hl.1 rfl (Nat.le_of_ble_eq_true rfl) dX3_draw_47 ⟨Nat.le_of_ble_eq_true rfl, Nat.le_of_ble_eq_true rfl⟩) hD hS hA (fun u_6 H locs hp hP hD hS => ?_)
    obtain rfl := hp.symm
    have hP : va_P D vwCl (XW ad cI cJ co fl ra li re (goThrough fl wa) (sA p_4.1 1 (wr (gA p_4.1 1) 41 (nI i_4) p_4.2))) H := cgP xs35 hP
    have hD : va_D A (XW ad cI cJ co fl ra li re (goThrough fl wa) (sA p_4.1 1 (wr (gA p_4.1 1) 41 (nI i_4) p_4.2))) := cgD xs35 hD
    refine lv_aload_n hx hb dX3_draw_50 rfl (lv_at hl 0 rfl) ?_
    refine lv_iload_n hx hb dX3_draw_51 rfl (lv_at hl 3 rfl) ?_
    refine lv_iload_n hx hb dX3_draw_52 rfl (lv_at hl 2 rfl) ?_
    refine kI (rV (q0 := 6) (ci := 3) hx hb hml hown hg hN hK hP hD (c_fill l D cI cJ ad co fl ra li re (goThrough fl wa) (sA p_4.1 1 (wr (gA p_4.1 1) 41 (nI i_4) p_4.2)) (nI i_4) p_4.2) mw_278 mw_279 mw_280 mw_281 mw_234 pdv_X3_fill ⟨Nat.le_of_ble_eq_true rfl, Nat.le_of_ble_eq_true rfl⟩ rfl xo6 rfl hl.1 rfl (Nat.le_of_ble_eq_true rfl) dX3_draw_53 ⟨Nat.le_of_ble_eq_true rfl, Nat.le_of_ble_eq_true rfl⟩) hD hS hA (fun r_7 u_7 H locs hp hP hD hS => ?_)
    obtain ⟨er, eu⟩ := hp
    obtain rfl := er.symm
    obtain rfl := eu.symm
    have hP : va_P D vwCl (XW ad cI cJ co fl ra li re (goThrough fl wa) (fill (goThrough fl wa) (sA p_4.1 1 (wr (gA p_4.1 1) 41 (nI i_4) p_4.2)) (nI i_4) p_4.2).1) H := hP
    have hD : va_D A (XW ad cI cJ co fl ra li re (goThrough fl wa) (fill (goThrough fl wa) (sA p_4.1 1 (wr (gA p_4.1 1) 41 (nI i_4) p_4.2)) (nI i_4) p_4.2).1) := hD
    refine lv_istore_n (lv' := [(2, .int (fill (goThrough fl wa) (sA p_4.1 1 (wr (gA p_4.1 1) 41 (nI i_4) p_4.2)) (nI i_4) p_4.2).2), (0, .ref (ad 6)), (1, .ref (ad 2)), (3, .int (nI i_4))]) hx hb dX3_draw_56 rfl hl (by decide) rfl (fun ls hl => ?_)
    refine lv_iinc (v := (nI (i_4 + 1))) (lv' := [(3, .int (nI (i_4 + 1))), (2, .int (fill (goThrough fl wa) (sA p_4.1 1 (wr (gA p_4.1 1) 41 (nI i_4) p_4.2)) (nI i_4) p_4.2).2), (0, .ref (ad 6)), (1, .ref (ad 2))]) hx hb dX3_draw_57 hl (k := 3) rfl (nI_1 i_4) (by decide) rfl (fun ls hl => ?_)
    refine lv_goto (tgt := 33) hx hb dX3_draw_60 (by decide) ?_
    have h9 := lp_go h_4
    exact ih_4 (fill (goThrough fl wa) (sA p_4.1 1 (wr (gA p_4.1 1) 41 (nI i_4) p_4.2)) (nI i_4) p_4.2) H locs ls ⟨h9, hP, hD, hS, lv_sub hl [2, 3, 1, 0] rfl⟩
