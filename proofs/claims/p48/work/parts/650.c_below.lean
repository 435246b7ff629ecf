theorem dL_below_0 : decode cL_below 0 = .ok (.iload_n 0, 1) := by decide +kernel
theorem dL_below_1 : decode cL_below 1 = .ok (.ldc 7, 2) := by decide +kernel
theorem dL_below_3 : decode cL_below 3 = .ok (.iand, 1) := by decide +kernel
theorem dL_below_4 : decode cL_below 4 = .ok (.iload_n 1, 1) := by decide +kernel
theorem dL_below_5 : decode cL_below 5 = .ok (.irem, 1) := by decide +kernel
theorem dL_below_6 : decode cL_below 6 = .ok (.ireturn, 1) := by decide +kernel
theorem mw_537 : Cond.constant RL 7 (2147483647) ∈ GW := gw_mem (inT3 _ (List.mem_of_getElem? (i := 180) rfl)) rfl
def IW (ad : Nat → Nat) (cI cJ : ClassId) (u : va_W) : Prop := ∃ (n : Nat) (co fl ra li re wa pi : Ob), u = XW ad cI cJ co fl ra li re wa pi ∧ INV n co fl ra li re wa pi
set_option maxHeartbeats 4000000 in
set_option maxRecDepth 100000 in
theorem c_below (l : Launch) (D : va_G) (cI cJ : ClassId) (w : va_W) (v n : Int32) (hn : ¬ n = 0) : CT l D (TY cI cJ) yL_below (.code yL_below cL_below 2 (some Jvm.ClassFile.FieldType.int)) 0 0 0 w [.int v, .int n] (QI D (TY cI cJ) (fun r u => r = blw v n ∧ u = w)) := by
  refine ent (by decide) (Nat.le_of_ble_eq_true rfl) ?_
  intro p e s m below meth c ls A hx hb hr hg hown hml hlocks hnm hP hK hD hS hA hN hl
  have hl : lv_has ls 2 [(0, .int v), (1, .int n)] := hl
  refine lv_iload_n hx hb dL_below_0 rfl (lv_at hl 0 rfl) ?_
  refine lv_ldc (v := 2147483647) hx hb hown (hg _ mw_537) dL_below_1 ?_
  refine lv_iand hx hb dL_below_3 ?_
  refine lv_iload_n hx hb dL_below_4 rfl (lv_at hl 1 rfl) ?_
  refine lv_irem hx hb dL_below_5 hn ?_
  exact W.iret (v := ((v &&& 2147483647) - (v &&& 2147483647) / n * n)) hx hb hr (fun t ht hW => ⟨⟨((v &&& 2147483647) - (v &&& 2147483647) / n * n), w, rfl, ⟨(show ((v &&& 2147483647) - (v &&& 2147483647) / n * n) = blw v n from rfl), rfl⟩, ⟨by rw [ht]; exact hP, va_K.moved hW.alike hK, hD⟩⟩, hS.F ht⟩) hS.2.2 dL_below_6
