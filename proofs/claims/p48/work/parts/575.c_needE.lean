theorem dX7_needEdge_0 : decode cX7_needEdge 0 = .ok (.iload_n 1, 1) := by decide +kernel
theorem dX7_needEdge_1 : decode cX7_needEdge 1 = .ok (.ifCond .lt 14, 3) := by decide +kernel
theorem dX7_needEdge_4 : decode cX7_needEdge 4 = .ok (.iload_n 1, 1) := by decide +kernel
theorem dX7_needEdge_5 : decode cX7_needEdge 5 = .ok (.aload_n 0, 1) := by decide +kernel
theorem dX7_needEdge_6 : decode cX7_needEdge 6 = .ok (.invokevirtual 123, 3) := by decide +kernel
theorem dX7_needEdge_9 : decode cX7_needEdge 9 = .ok (.getfield 147, 3) := by decide +kernel
theorem dX7_needEdge_12 : decode cX7_needEdge 12 = .ok (.if_icmp .lt 14, 3) := by decide +kernel
theorem dX7_needEdge_26 : decode cX7_needEdge 26 = .ok (.return_, 1) := by decide +kernel
set_option maxHeartbeats 4000000 in
set_option maxRecDepth 100000 in
theorem c_needE (l : Launch) (D : va_G) (cI cJ : ClassId) (ad : Nat → Nat) (co fl ra li re wa pi : Ob) (k1 : Int32) (zf : ¬ gi fl 2 = 0) (k0 : ¬ k1 < 0) (k1h : k1 < gi fl 1) : CT l D (TY cI cJ) yX7_needEdge (.code yX7_needEdge cX7_needEdge 2 (none : Option FieldType)) 2 0 0 (XW ad cI cJ co fl ra li re wa pi) [.ref (ad 0), .int k1] (QV D (TY cI cJ) (fun u => u = (XW ad cI cJ co fl ra li re wa pi))) := by
  refine ent (by decide) (Nat.le_of_ble_eq_true rfl) ?_
  intro p e s m below meth c ls A hx hb hr hg hown hml hlocks hnm hP hK hD hS hA hN hl
  have hl : lv_has ls 2 [(0, .ref (ad 0)), (1, .int k1)] := hl
  refine lv_iload_n hx hb dX7_needEdge_0 rfl (lv_at hl 1 rfl) ?_
  refine lv_if_lt (tgt := 15) hx hb dX7_needEdge_1 (by decide) (fun c_1 => absurd c_1 k0) (fun _ => ?_)
  refine lv_iload_n hx hb dX7_needEdge_4 rfl (lv_at hl 1 rfl) ?_
  refine lv_aload_n hx hb dX7_needEdge_5 rfl (lv_at hl 0 rfl) ?_
  refine kR (rV (q0 := 0) (ci := 7) hx hb hml hown hg hN hK hP hD (c_freshFlow1 l D cI cJ ad co fl ra li re wa pi zf) mw_329 mw_330 mw_331 mw_332 mw_77 pdv_X7_freshFlow ⟨Nat.le_of_ble_eq_true rfl, Nat.le_of_ble_eq_true rfl⟩ rfl xo0 rfl hl.1 rfl (Nat.le_of_ble_eq_true rfl) dX7_needEdge_6 ⟨Nat.le_of_ble_eq_true rfl, Nat.le_of_ble_eq_true rfl⟩) hD hS hA (fun r_1 u_1 H locs hp hP hD hS => ?_)
  obtain ⟨er, eu⟩ := hp
  obtain rfl := er.symm
  obtain rfl := eu.symm
  refine va_getN (D := D) (ci := 1) (v := .int (gi fl 1)) (C := RX1) (T := TX1) (N := 11) hx hb hg inGX1 hown hK hP 2 xo2 rfl 8 (by decide) (hN.use nw_31) (fun _ h9 => h9) (xvX1_8 rfl) dX7_needEdge_9 ?_
  refine lv_icmp_lt (tgt := 26) hx hb dX7_needEdge_12 (by decide) (fun _ => ?_) (fun c_12 => absurd k1h c_12)
  exact W.vret hx hb hr (fun t ht hW => ⟨⟨(XW ad cI cJ co fl ra li re wa pi), rfl, xw_eq rfl rfl rfl rfl rfl rfl rfl, ⟨by rw [ht]; exact hP, va_K.moved hW.alike hK, hD⟩⟩, hS.F ht⟩) hS.2.2 dX7_needEdge_26
