theorem dX7_needLayer_0 : decode cX7_needLayer 0 = .ok (.iload_n 1, 1) := by decide +kernel
theorem dX7_needLayer_1 : decode cX7_needLayer 1 = .ok (.ifCond .lt 14, 3) := by decide +kernel
theorem dX7_needLayer_4 : decode cX7_needLayer 4 = .ok (.iload_n 1, 1) := by decide +kernel
theorem dX7_needLayer_5 : decode cX7_needLayer 5 = .ok (.aload_n 0, 1) := by decide +kernel
theorem dX7_needLayer_6 : decode cX7_needLayer 6 = .ok (.invokevirtual 234, 3) := by decide +kernel
theorem dX7_needLayer_9 : decode cX7_needLayer 9 = .ok (.getfield 238, 3) := by decide +kernel
theorem dX7_needLayer_12 : decode cX7_needLayer 12 = .ok (.if_icmp .lt 14, 3) := by decide +kernel
theorem dX7_needLayer_26 : decode cX7_needLayer 26 = .ok (.return_, 1) := by decide +kernel
theorem mw_367 : Cond.code yX7_freshPicture cX7_freshPicture 1 (some (Jvm.ClassFile.FieldType.object "OrielChart$Picture")) ∈ GW := gw_mem (inT3 _ (List.mem_of_getElem? (i := 13) rfl)) rfl
theorem mw_368 : Cond.methodLink RX7 234 yX7_freshPicture ∈ GW := gw_mem (inT3 _ (List.mem_of_getElem? (i := 10) rfl)) rfl
theorem mw_369 : Cond.instanceMethod yX7_freshPicture ∈ GW := gw_mem (inT3 _ (List.mem_of_getElem? (i := 12) rfl)) rfl
theorem mw_370 : Cond.selects RX7 yX7_freshPicture yX7_freshPicture ∈ GW := gw_mem (inTp (q := (yX7_freshPicture, 6)) (List.mem_of_getElem? (i := 19) rfl)) rfl
theorem pdv_X7_freshPicture : yX7_freshPicture.cls = RX7 ∧ yX7_freshPicture.cls ≠ "java/lang/invoke/MethodHandle" ∧ yX7_freshPicture.cls ≠ "java/lang/invoke/VarHandle" ∧ (parseMethodDescriptor yX7_freshPicture.desc).map (fun d => d.parameters.length) = some 0 := by decide +kernel
set_option maxHeartbeats 4000000 in
set_option maxRecDepth 100000 in
theorem c_needL (l : Launch) (D : va_G) (cI cJ : ClassId) (ad : Nat → Nat) (co fl ra li re wa pi : Ob) (k1 : Int32) (zp : ¬ gi pi 3 = 0) (k0 : ¬ k1 < 0) (k1h : k1 < gi pi 1) : CT l D (TY cI cJ) yX7_needLayer (.code yX7_needLayer cX7_needLayer 2 (none : Option FieldType)) 2 0 0 (XW ad cI cJ co fl ra li re wa pi) [.ref (ad 0), .int k1] (QV D (TY cI cJ) (fun u => u = (XW ad cI cJ co fl ra li re wa pi))) := by
  refine ent (by decide) (Nat.le_of_ble_eq_true rfl) ?_
  intro p e s m below meth c ls A hx hb hr hg hown hml hlocks hnm hP hK hD hS hA hN hl
  have hl : lv_has ls 2 [(0, .ref (ad 0)), (1, .int k1)] := hl
  refine lv_iload_n hx hb dX7_needLayer_0 rfl (lv_at hl 1 rfl) ?_
  refine lv_if_lt (tgt := 15) hx hb dX7_needLayer_1 (by decide) (fun c_1 => absurd c_1 k0) (fun _ => ?_)
  refine lv_iload_n hx hb dX7_needLayer_4 rfl (lv_at hl 1 rfl) ?_
  refine lv_aload_n hx hb dX7_needLayer_5 rfl (lv_at hl 0 rfl) ?_
  refine kR (rV (q0 := 0) (ci := 7) hx hb hml hown hg hN hK hP hD (c_freshPic1 l D cI cJ ad co fl ra li re wa pi zp) mw_367 mw_368 mw_369 mw_370 mw_77 pdv_X7_freshPicture ⟨Nat.le_of_ble_eq_true rfl, Nat.le_of_ble_eq_true rfl⟩ rfl xo0 rfl hl.1 rfl (Nat.le_of_ble_eq_true rfl) dX7_needLayer_6 ⟨Nat.le_of_ble_eq_true rfl, Nat.le_of_ble_eq_true rfl⟩) hD hS hA (fun r_1 u_1 H locs hp hP hD hS => ?_)
  obtain ⟨er, eu⟩ := hp
  obtain rfl := er.symm
  obtain rfl := eu.symm
  refine va_getN (D := D) (ci := 3) (v := .int (gi pi 1)) (C := RX3) (T := TX3) (N := 16) hx hb hg inGX3 hown hK hP 6 xo6 rfl 13 (by decide) (hN.use nw_62) (fun _ h9 => h9) (xvX3_13 rfl) dX7_needLayer_9 ?_
  refine lv_icmp_lt (tgt := 26) hx hb dX7_needLayer_12 (by decide) (fun _ => ?_) (fun c_12 => absurd k1h c_12)
  exact W.vret hx hb hr (fun t ht hW => ⟨⟨(XW ad cI cJ co fl ra li re wa pi), rfl, xw_eq rfl rfl rfl rfl rfl rfl rfl, ⟨by rw [ht]; exact hP, va_K.moved hW.alike hK, hD⟩⟩, hS.F ht⟩) hS.2.2 dX7_needLayer_26
