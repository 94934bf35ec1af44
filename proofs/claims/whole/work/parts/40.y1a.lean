set_option maxHeartbeats 4000000 in
set_option maxRecDepth 100000 in
theorem c_Y1_thrown (l : Launch) (dC : Nat → ClassId) (dI : Nat → Nat → Nat) (cI cJ : ClassId) (h0 b1 b2 : Nat) (fl : Int32) (rc rl ps : Nat) (g t : Nat → Int32)  : Met l yY1_thrown wsY1_thrown ({ frames := 0, cells := 0, slots := 0, locals := 0 }) (va_Pc [.ref h0] (rv_pre dC dI cI cJ h0 b1 b2 fl rc rl ps g t)) (vp_Si (fun r => r = fl)) 0 0 (fun _ => False) := by
  refine Met.ofW (cc := cY1_thrown) (maxL := 1) (ret := (some .int)) (by decide) rfl ?_
  intro p e s m args below meth c s₁ B hml hv
  obtain ⟨rfl, hP, hK⟩ := hv
  have hx := B.exec
  have hb := B.bytes
  have hr := B.returns
  have hts := atoms_spec (ws := wsY1_thrown) B.pre
  have hown : s.vm.findClass RX1 = some m.cls := findClass_of_methodNamed B.named
  have hlocks := B.notSynchronized
  have hP : va_P (dC, dI) rw_cl (rv_W h0 b1 b2 cI cJ fl rc rl ps g t) s.heap := hP
  have hl := lv_entry ([.ref h0]) (n := 1) (Nat.le_of_ble_eq_true rfl)
  rw [lg_entry_eq]
  generalize (lg_sl ([.ref h0]) ++ List.replicate (1 - (lg_sl ([.ref h0])).length) Slot.unset).toArray = ls at hl ⊢
  have hl : lv_has ls 1 [(0, .ref h0)] := hl
  refine lv_aload_n hx hb dY1_thrown_0 rfl (lv_at hl 0 rfl) ?_
  refine va_get (D := (dC, dI)) (ci := 1) (v := .int fl) (C := RX1) (T := TY1) (N := 6) hx hb hts (by decide +kernel) hown hK hP 0 rfl rfl 0 (by decide) (hts (.fieldLink RX1 26 "RowFiltersModel" "failed" "I") (by decide +kernel)) (fun _ h9 => h9) rfl dY1_thrown_1 ?_
  exact W.iret (v := fl) hx hb hr (fun t ht hW => ⟨fl, rfl, rfl, ht⟩) (fun q h => by cases h) dY1_thrown_4
set_option maxHeartbeats 4000000 in
set_option maxRecDepth 100000 in
theorem c_Y1_fail (l : Launch) (dC : Nat → ClassId) (dI : Nat → Nat → Nat) (cI cJ : ClassId) (h0 b1 b2 : Nat) (fl : Int32) (rc rl ps : Nat) (g t : Nat → Int32) (sz : Nat) (k : Int32) : Met l yY1_fail wsY1_fail ({ frames := 0, cells := 0, slots := 0, locals := 0 }) (va_Pc [.ref h0, .int k] (rv_preD dC dI cI cJ h0 b1 b2 fl rc rl ps g t sz)) (va_Qi (fun (r : Int32) (_ : Unit) => r = 0) (fun _ t9 => rv_B dC dI cI cJ h0 b1 b2 k rc rl ps g t (va_A (rv_W h0 b1 b2 cI cJ fl rc rl ps g t) sz) t9) (va_A (rv_W h0 b1 b2 cI cJ fl rc rl ps g t) sz)) 0 0 (va_A (rv_W h0 b1 b2 cI cJ fl rc rl ps g t) sz) := by
  refine Met.ofW (cc := cY1_fail) (maxL := 2) (ret := (some .int)) (by decide) rfl ?_
  intro p e s m args below meth c s₁ B hml hv
  obtain ⟨rfl, hsz, hP, hK, hD0⟩ := hv
  have hx := B.exec
  have hb := B.bytes
  have hr := B.returns
  have hts := atoms_spec (ws := wsY1_fail) B.pre
  have hown : s.vm.findClass RX1 = some m.cls := findClass_of_methodNamed B.named
  have hlocks := B.notSynchronized
  subst hsz
  have hD := hD0.self (sz := s.heap.size)
  generalize hAe : va_A (rv_W h0 b1 b2 cI cJ fl rc rl ps g t) s.heap.size = A at hD ⊢
  have hA : ∀ q : Nat, s.heap.size ≤ q → A q := fun q h => by rw [← hAe]; exact Or.inr h
  have hS : va_S A s.heap s.heap [] := va_S.rf
  have hP : va_P (dC, dI) rw_cl (rv_W h0 b1 b2 cI cJ fl rc rl ps g t) s.heap := hP
  have hl := lv_entry ([.ref h0, .int k]) (n := 2) (Nat.le_of_ble_eq_true rfl)
  rw [lg_entry_eq]
  generalize (lg_sl ([.ref h0, .int k]) ++ List.replicate (2 - (lg_sl ([.ref h0, .int k])).length) Slot.unset).toArray = ls at hl ⊢
  have hl : lv_has ls 2 [(0, .ref h0), (1, .int k)] := hl
  refine lv_aload_n hx hb dY1_fail_0 rfl (lv_at hl 0 rfl) ?_
  refine lv_iload_n hx hb dY1_fail_1 rfl (lv_at hl 1 rfl) ?_
  refine va_put (D := (dC, dI)) (ci := 1) (v := .int k) (ty := .int) (C := RX1) (T := TY1) (N := 6) hx hb hts (by decide +kernel) tyY1 tyY1_ok nmY1 hown hK hP hD hS 0 rfl rfl 0 (by decide) (hts (.fieldLink RX1 26 "RowFiltersModel" "failed" "I") (by decide +kernel)) (fun _ h9 => h9) rfl (by decide +kernel) rfl rfl (Nat.le_of_ble_eq_true rfl) dY1_fail_2 (fun H locs hP hD hS => ?_)
  have hP : va_P (dC, dI) rw_cl [(h0, .inr (1, [.int k, .int (nI rc), .int (nI rl), .int (nI ps), .ref b1, .ref b2])), (b1, .inl (cI, 4096, .inl g)), (b2, .inl (cJ, 4096, .inl t))] H := hP
  have hD : va_D A [(h0, .inr (1, [.int k, .int (nI rc), .int (nI rl), .int (nI ps), .ref b1, .ref b2])), (b1, .inl (cI, 4096, .inl g)), (b2, .inl (cJ, 4096, .inl t))] := hD
  refine lv_iconst (v := 0) hx hb dY1_fail_5 (by decide) ?_
  exact W.iret (v := 0) hx hb hr (fun t ht hW => ⟨⟨0, (), rfl, rfl, by rw [ht]; exact hP, va_K.moved hW.alike hK, hD⟩, hS.F ht⟩) hS.2.2 dY1_fail_6
set_option maxHeartbeats 4000000 in
set_option maxRecDepth 100000 in
theorem c_Y1_at (l : Launch) (dC : Nat → ClassId) (dI : Nat → Nat → Nat) (cI cJ : ClassId) (h0 b1 b2 : Nat) (fl : Int32) (rc rl ps : Nat) (g t : Nat → Int32) (y i : Int32) (hin : ¬ y < 0 → ¬ i < 0 → vp_in (y * nI rl + i) 4096) : Met l yY1_at wsY1_at ({ frames := 0, cells := 0, slots := 0, locals := 0 }) (va_Pc [.ref h0, .int y, .int i] (rv_pre dC dI cI cJ h0 b1 b2 fl rc rl ps g t)) (vp_Si (fun r => r = rf_z g rl y i)) 0 0 (fun _ => False) := by
  refine Met.ofW (cc := cY1_at) (maxL := 3) (ret := (some .int)) (by decide) rfl ?_
  intro p e s m args below meth c s₁ B hml hv
  obtain ⟨rfl, hP, hK⟩ := hv
  have hx := B.exec
  have hb := B.bytes
  have hr := B.returns
  have hts := atoms_spec (ws := wsY1_at) B.pre
  have hown : s.vm.findClass RX1 = some m.cls := findClass_of_methodNamed B.named
  have hlocks := B.notSynchronized
  have hP : va_P (dC, dI) rw_cl (rv_W h0 b1 b2 cI cJ fl rc rl ps g t) s.heap := hP
  have hl := lv_entry ([.ref h0, .int y, .int i]) (n := 3) (Nat.le_of_ble_eq_true rfl)
  rw [lg_entry_eq]
  generalize (lg_sl ([.ref h0, .int y, .int i]) ++ List.replicate (3 - (lg_sl ([.ref h0, .int y, .int i])).length) Slot.unset).toArray = ls at hl ⊢
  have hl : lv_has ls 3 [(0, .ref h0), (1, .int y), (2, .int i)] := hl
  refine lv_iload_n hx hb dY1_at_0 rfl (lv_at hl 1 rfl) ?_
  refine lv_if_lt (tgt := 8) hx hb dY1_at_1 (by decide) (fun hy => ?_) (fun hy => ?_)
  · refine lv_iconst (v := 0) hx hb dY1_at_8 (by decide) ?_
    refine lv_goto (tgt := 25) hx hb dY1_at_9 (by decide) ?_
    exact W.iret (v := 0) hx hb hr (fun t ht hW => ⟨0, rfl, by rw [rf_z, if_pos hy], ht⟩) (fun q h => by cases h) dY1_at_25
  · refine lv_iload_n hx hb dY1_at_4 rfl (lv_at hl 2 rfl) ?_
    refine lv_if_ge (tgt := 12) hx hb dY1_at_5 (by decide) (fun hi => ?_) (fun hi => ?_)
    · refine lv_aload_n hx hb dY1_at_12 rfl (lv_at hl 0 rfl) ?_
      refine va_get (D := (dC, dI)) (ci := 1) (v := .ref b1) (C := RX1) (T := TY1) (N := 6) hx hb hts (by decide +kernel) hown hK hP 0 rfl rfl 4 (by decide) (hts (.fieldLink RX1 19 "RowFiltersModel" "bytes" "[I") (by decide +kernel)) (fun _ h9 => h9) rfl dY1_at_13 ?_
      refine lv_iload_n hx hb dY1_at_16 rfl (lv_at hl 1 rfl) ?_
      refine lv_aload_n hx hb dY1_at_17 rfl (lv_at hl 0 rfl) ?_
      refine va_get (D := (dC, dI)) (ci := 1) (v := .int (nI rl)) (C := RX1) (T := TY1) (N := 6) hx hb hts (by decide +kernel) hown hK hP 0 rfl rfl 2 (by decide) (hts (.fieldLink RX1 13 "RowFiltersModel" "width" "I") (by decide +kernel)) (fun _ h9 => h9) rfl dY1_at_18 ?_
      refine lv_imul hx hb dY1_at_21 ?_
      refine lv_iload_n hx hb dY1_at_22 rfl (lv_at hl 2 rfl) ?_
      refine lv_iadd hx hb dY1_at_23 ?_
      refine va_iald hx hb hK hP 1 0 rfl rfl (hin hy (Int32.not_lt.mpr hi)) dY1_at_24 ?_
      exact W.iret (v := (g ((y * (nI rl)) + i).toNatClampNeg)) hx hb hr (fun t ht hW => ⟨(g ((y * (nI rl)) + i).toNatClampNeg), rfl, by rw [rf_z, if_neg hy, if_neg (Int32.not_lt.mpr hi)], ht⟩) (fun q h => by cases h) dY1_at_25
    · refine lv_iconst (v := 0) hx hb dY1_at_8 (by decide) ?_
      refine lv_goto (tgt := 25) hx hb dY1_at_9 (by decide) ?_
      exact W.iret (v := 0) hx hb hr (fun t ht hW => ⟨0, rfl, by rw [rf_z, if_neg hy, if_pos (Int32.not_le.mp hi)], ht⟩) (fun q h => by cases h) dY1_at_25
