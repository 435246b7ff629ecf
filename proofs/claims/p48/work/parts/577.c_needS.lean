theorem dX7_needSweeps_0 : decode cX7_needSweeps 0 = .ok (.iload_n 0, 1) := by decide +kernel
theorem dX7_needSweeps_1 : decode cX7_needSweeps 1 = .ok (.iconst 1, 1) := by decide +kernel
theorem dX7_needSweeps_2 : decode cX7_needSweeps 2 = .ok (.if_icmp .lt 9, 3) := by decide +kernel
theorem dX7_needSweeps_5 : decode cX7_needSweeps 5 = .ok (.iload_n 0, 1) := by decide +kernel
theorem dX7_needSweeps_6 : decode cX7_needSweeps 6 = .ok (.bipush 20, 2) := by decide +kernel
theorem dX7_needSweeps_8 : decode cX7_needSweeps 8 = .ok (.if_icmp .le 14, 3) := by decide +kernel
theorem dX7_needSweeps_22 : decode cX7_needSweeps 22 = .ok (.return_, 1) := by decide +kernel
set_option maxHeartbeats 4000000 in
set_option maxRecDepth 100000 in
theorem c_needS (l : Launch) (D : va_G) (cI cJ : ClassId) (ad : Nat → Nat) (co fl ra li re wa pi : Ob) (k1 : Int32) (s0 : ¬ k1 < 1) (s1 : ¬ 20 < k1) : CT l D (TY cI cJ) yX7_needSweeps (.code yX7_needSweeps cX7_needSweeps 1 (none : Option FieldType)) 1 0 0 (XW ad cI cJ co fl ra li re wa pi) [.int k1] (QV D (TY cI cJ) (fun u => u = (XW ad cI cJ co fl ra li re wa pi))) := by
  refine ent (by decide) (Nat.le_of_ble_eq_true rfl) ?_
  intro p e s m below meth c ls A hx hb hr hg hown hml hlocks hnm hP hK hD hS hA hN hl
  have hl : lv_has ls 1 [(0, .int k1)] := hl
  refine lv_iload_n hx hb dX7_needSweeps_0 rfl (lv_at hl 0 rfl) ?_
  refine lv_iconst (v := 1) hx hb dX7_needSweeps_1 (by decide) ?_
  refine lv_icmp_lt (tgt := 11) hx hb dX7_needSweeps_2 (by decide) (fun c_2 => absurd c_2 s0) (fun _ => ?_)
  refine lv_iload_n hx hb dX7_needSweeps_5 rfl (lv_at hl 0 rfl) ?_
  refine lv_bipush (v := 20) hx hb dX7_needSweeps_6 (by decide) ?_
  refine lv_icmp_le (tgt := 22) hx hb dX7_needSweeps_8 (by decide) (fun _ => ?_) (fun c_8 => absurd (i_ge' s1) c_8)
  exact W.vret hx hb hr (fun t ht hW => ⟨⟨(XW ad cI cJ co fl ra li re wa pi), rfl, xw_eq rfl rfl rfl rfl rfl rfl rfl, ⟨by rw [ht]; exact hP, va_K.moved hW.alike hK, hD⟩⟩, hS.F ht⟩) hS.2.2 dX7_needSweeps_22
