set_option maxHeartbeats 4000000 in
set_option maxRecDepth 100000 in
theorem c_X0_byteOrZero (l : Launch) (dC : Nat → ClassId) (dI : Nat → Nat → Nat) (cI : ClassId) (h0 ab rc rl ps : Nat) (f : Nat → Int32) (y i : Int32) (hin : ¬ y < 0 → ¬ i < 0 → vp_in (y * nI rl + i) 4096) : Met l yX0_byteOrZero wsX0_byteOrZero ({ frames := 0, cells := 0, slots := 0, locals := 0 }) (va_Pc [.ref h0, .int y, .int i] (rw_pre dC dI cI h0 ab rc rl ps f)) (vp_Si (fun r => r = rf_z f rl y i)) 0 0 (fun _ => False) := by
  refine Met.ofW (cc := cX0_byteOrZero) (maxL := 3) (ret := (some .int)) (by decide) rfl ?_
  intro p e s m args below meth c s₁ B hml hv
  obtain ⟨rfl, hP, hK⟩ := hv
  have hx := B.exec
  have hb := B.bytes
  have hr := B.returns
  have hts := atoms_spec (ws := wsX0_byteOrZero) B.pre
  have hown : s.vm.findClass RX0 = some m.cls := findClass_of_methodNamed B.named
  have hlocks := B.notSynchronized
  have hP : va_P (dC, dI) rw_cl (rw_W h0 ab cI rc rl ps f) s.heap := hP
  have hl := lv_entry ([.ref h0, .int y, .int i]) (n := 3) (Nat.le_of_ble_eq_true rfl)
  rw [lg_entry_eq]
  generalize (lg_sl ([.ref h0, .int y, .int i]) ++ List.replicate (3 - (lg_sl ([.ref h0, .int y, .int i])).length) Slot.unset).toArray = ls at hl ⊢
  have hl : lv_has ls 3 [(0, .ref h0), (1, .int y), (2, .int i)] := hl
  refine lv_iload_n hx hb dX0_byteOrZero_0 rfl (lv_at hl 1 rfl) ?_
  refine lv_if_lt (tgt := 8) hx hb dX0_byteOrZero_1 (by decide) (fun hy => ?_) (fun hy => ?_)
  · refine lv_iconst (v := 0) hx hb dX0_byteOrZero_8 (by decide) ?_
    refine lv_goto (tgt := 25) hx hb dX0_byteOrZero_9 (by decide) ?_
    exact W.iret (v := 0) hx hb hr (fun t ht hW => ⟨0, rfl, by rw [rf_z, if_pos hy], ht⟩) (fun q h => by cases h) dX0_byteOrZero_25
  · refine lv_iload_n hx hb dX0_byteOrZero_4 rfl (lv_at hl 2 rfl) ?_
    refine lv_if_ge (tgt := 12) hx hb dX0_byteOrZero_5 (by decide) (fun hi => ?_) (fun hi => ?_)
    · refine lv_aload_n hx hb dX0_byteOrZero_12 rfl (lv_at hl 0 rfl) ?_
      refine va_get (D := (dC, dI)) (ci := 0) (v := .ref ab) (C := RX0) (T := TX0) (N := 4) hx hb hts (by decide +kernel) hown hK hP 0 rfl rfl 0 (by decide) (hts (.fieldLink RX0 9 "RowFilters" "bytes" "[I") (by decide +kernel)) (fun _ h9 => h9) rfl dX0_byteOrZero_13 ?_
      refine lv_iload_n hx hb dX0_byteOrZero_16 rfl (lv_at hl 1 rfl) ?_
      refine lv_aload_n hx hb dX0_byteOrZero_17 rfl (lv_at hl 0 rfl) ?_
      refine va_get (D := (dC, dI)) (ci := 0) (v := .int (nI rl)) (C := RX0) (T := TX0) (N := 4) hx hb hts (by decide +kernel) hown hK hP 0 rfl rfl 2 (by decide) (hts (.fieldLink RX0 17 "RowFilters" "rowLength" "I") (by decide +kernel)) (fun _ h9 => h9) rfl dX0_byteOrZero_18 ?_
      refine lv_imul hx hb dX0_byteOrZero_21 ?_
      refine lv_iload_n hx hb dX0_byteOrZero_22 rfl (lv_at hl 2 rfl) ?_
      refine lv_iadd hx hb dX0_byteOrZero_23 ?_
      refine va_iald hx hb hK hP 1 0 rfl rfl (hin hy (Int32.not_lt.mpr hi)) dX0_byteOrZero_24 ?_
      exact W.iret (v := (f ((y * (nI rl)) + i).toNatClampNeg)) hx hb hr (fun t ht hW => ⟨(f ((y * (nI rl)) + i).toNatClampNeg), rfl, by rw [rf_z, if_neg hy, if_neg (Int32.not_lt.mpr hi)], ht⟩) (fun q h => by cases h) dX0_byteOrZero_25
    · refine lv_iconst (v := 0) hx hb dX0_byteOrZero_8 (by decide) ?_
      refine lv_goto (tgt := 25) hx hb dX0_byteOrZero_9 (by decide) ?_
      exact W.iret (v := 0) hx hb hr (fun t ht hW => ⟨0, rfl, by rw [rf_z, if_neg hy, if_pos (Int32.not_le.mp hi)], ht⟩) (fun q h => by cases h) dX0_byteOrZero_25
set_option maxHeartbeats 4000000 in
set_option maxRecDepth 100000 in
theorem c_X0_nearest (l : Launch) (a b z : Int32) : Met l yX0_nearest wsX0_nearest ({ frames := 1, cells := 0, slots := 0, locals := 13 }) (va_Pc [.int a, .int b, .int z] (fun _ => True)) (vp_Si (fun r => r = rf_near a b z)) 0 0 (fun _ => False) := by
  refine Met.ofW (cc := cX0_nearest) (maxL := 7) (ret := (some .int)) (by decide) rfl ?_
  intro p e s m args below meth c s₁ B hml hv
  obtain ⟨rfl, -⟩ := hv
  have hx := B.exec
  have hb := B.bytes
  have hr := B.returns
  have hts := atoms_spec (ws := wsX0_nearest) B.pre
  have hown : s.vm.findClass RX0 = some m.cls := findClass_of_methodNamed B.named
  have hlocks := B.notSynchronized
  have hl := lv_entry ([.int a, .int b, .int z]) (n := 7) (Nat.le_of_ble_eq_true rfl)
  rw [lg_entry_eq]
  generalize (lg_sl ([.int a, .int b, .int z]) ++ List.replicate (7 - (lg_sl ([.int a, .int b, .int z])).length) Slot.unset).toArray = ls at hl ⊢
  have hl : lv_has ls 7 [(0, .int a), (1, .int b), (2, .int z)] := hl
  refine lv_iload_n hx hb dX0_nearest_0 rfl (lv_at hl 0 rfl) ?_
  refine lv_iload_n hx hb dX0_nearest_1 rfl (lv_at hl 1 rfl) ?_
  refine lv_iadd hx hb dX0_nearest_2 ?_
  refine lv_iload_n hx hb dX0_nearest_3 rfl (lv_at hl 2 rfl) ?_
  refine lv_isub hx hb dX0_nearest_4 ?_
  refine lv_istore_n hx hb dX0_nearest_5 rfl hl (by decide) rfl (fun ls hl => ?_)
  have hl : lv_has ls 7 [(3, .int ((a + b) - z)), (0, .int a), (1, .int b), (2, .int z)] := hl
  refine lv_iload_n hx hb dX0_nearest_6 rfl (lv_at hl 0 rfl) ?_
  refine lv_iload_n hx hb dX0_nearest_7 rfl (lv_at hl 1 rfl) ?_
  refine lv_isub hx hb dX0_nearest_8 ?_
  refine va_mabs hx hb (hml.trans hl.1.symm) hown (hts (.methodLink RX0 88 Lib.Math.abs.name) (by decide +kernel)) (hts (.static Lib.Math.abs.name) (by decide +kernel)) (hts (.initialized "java/lang/Math") (by decide +kernel)) (hts (.code Lib.Math.abs.name Lib.Math.abs.code 1 (some .int)) (by decide +kernel)) (Nat.le_of_ble_eq_true rfl) (Nat.le_of_ble_eq_true rfl) (Nat.le_of_ble_eq_true rfl) (Nat.le_of_ble_eq_true rfl) dX0_nearest_9 ?_
  refine lv_topi (fun fa efa => ?_)
  have efa : fa = rf_abs (a + b - z - a) := efa
  refine lv_istore hx hb dX0_nearest_12 hl (by decide) rfl (fun ls hl => ?_)
  have hl : lv_has ls 7 [(4, .int fa), (3, .int ((a + b) - z)), (0, .int a), (1, .int b), (2, .int z)] := hl
  refine lv_iload_n hx hb dX0_nearest_14 rfl (lv_at hl 1 rfl) ?_
  refine lv_iload_n hx hb dX0_nearest_15 rfl (lv_at hl 3 rfl) ?_
  refine lv_isub hx hb dX0_nearest_16 ?_
  refine va_mabs hx hb (hml.trans hl.1.symm) hown (hts (.methodLink RX0 88 Lib.Math.abs.name) (by decide +kernel)) (hts (.static Lib.Math.abs.name) (by decide +kernel)) (hts (.initialized "java/lang/Math") (by decide +kernel)) (hts (.code Lib.Math.abs.name Lib.Math.abs.code 1 (some .int)) (by decide +kernel)) (Nat.le_of_ble_eq_true rfl) (Nat.le_of_ble_eq_true rfl) (Nat.le_of_ble_eq_true rfl) (Nat.le_of_ble_eq_true rfl) dX0_nearest_17 ?_
  refine lv_topi (fun fb efb => ?_)
  have efb : fb = rf_abs (a + b - z - b) := efb
  refine lv_istore hx hb dX0_nearest_20 hl (by decide) rfl (fun ls hl => ?_)
  have hl : lv_has ls 7 [(5, .int fb), (4, .int fa), (3, .int ((a + b) - z)), (0, .int a), (1, .int b), (2, .int z)] := hl
  refine lv_iload_n hx hb dX0_nearest_22 rfl (lv_at hl 2 rfl) ?_
  refine lv_iload_n hx hb dX0_nearest_23 rfl (lv_at hl 5 rfl) ?_
  refine lv_isub hx hb dX0_nearest_24 ?_
  refine va_mabs hx hb (hml.trans hl.1.symm) hown (hts (.methodLink RX0 88 Lib.Math.abs.name) (by decide +kernel)) (hts (.static Lib.Math.abs.name) (by decide +kernel)) (hts (.initialized "java/lang/Math") (by decide +kernel)) (hts (.code Lib.Math.abs.name Lib.Math.abs.code 1 (some .int)) (by decide +kernel)) (Nat.le_of_ble_eq_true rfl) (Nat.le_of_ble_eq_true rfl) (Nat.le_of_ble_eq_true rfl) (Nat.le_of_ble_eq_true rfl) dX0_nearest_25 ?_
  refine lv_topi (fun fc efc => ?_)
  have efc : fc = rf_abs (a + b - z - z) := efc
  refine lv_istore hx hb dX0_nearest_28 hl (by decide) rfl (fun ls hl => ?_)
  have hl : lv_has ls 7 [(6, .int fc), (5, .int fb), (4, .int fa), (3, .int ((a + b) - z)), (0, .int a), (1, .int b), (2, .int z)] := hl
  refine lv_iload hx hb dX0_nearest_30 (lv_at hl 2 rfl) ?_
  refine lv_iload hx hb dX0_nearest_32 (lv_at hl 1 rfl) ?_
  refine lv_icmp_gt (tgt := 46) hx hb dX0_nearest_34 (by decide) (fun h1 => ?_) (fun h1 => ?_)
  · refine lv_iload hx hb dX0_nearest_46 (lv_at hl 1 rfl) ?_
    refine lv_iload hx hb dX0_nearest_48 (lv_at hl 0 rfl) ?_
    refine lv_icmp_gt (tgt := 57) hx hb dX0_nearest_50 (by decide) (fun h3 => ?_) (fun h3 => ?_)
    · refine lv_iload_n hx hb dX0_nearest_57 rfl (lv_at hl 6 rfl) ?_
      exact W.iret (v := z) hx hb hr (fun t ht hW => ⟨z, rfl, by unfold rf_near; rw [← efa, ← efb, ← efc]; rw [if_neg (fun q => absurd q.1 (Int32.not_le.mpr h1)), if_neg (Int32.not_le.mpr h3)], ht⟩) (fun q h => by cases h) dX0_nearest_58
    · refine lv_iload_n hx hb dX0_nearest_53 rfl (lv_at hl 5 rfl) ?_
      refine lv_goto (tgt := 58) hx hb dX0_nearest_54 (by decide) ?_
      exact W.iret (v := b) hx hb hr (fun t ht hW => ⟨b, rfl, by unfold rf_near; rw [← efa, ← efb, ← efc]; rw [if_neg (fun q => absurd q.1 (Int32.not_le.mpr h1)), if_pos (Int32.not_lt.mp h3)], ht⟩) (fun q h => by cases h) dX0_nearest_58
  · refine lv_iload hx hb dX0_nearest_37 (lv_at hl 2 rfl) ?_
    refine lv_iload hx hb dX0_nearest_39 (lv_at hl 0 rfl) ?_
    refine lv_icmp_gt (tgt := 46) hx hb dX0_nearest_41 (by decide) (fun h2 => ?_) (fun h2 => ?_)
    · refine lv_iload hx hb dX0_nearest_46 (lv_at hl 1 rfl) ?_
      refine lv_iload hx hb dX0_nearest_48 (lv_at hl 0 rfl) ?_
      refine lv_icmp_gt (tgt := 57) hx hb dX0_nearest_50 (by decide) (fun h3 => ?_) (fun h3 => ?_)
      · refine lv_iload_n hx hb dX0_nearest_57 rfl (lv_at hl 6 rfl) ?_
        exact W.iret (v := z) hx hb hr (fun t ht hW => ⟨z, rfl, by unfold rf_near; rw [← efa, ← efb, ← efc]; rw [if_neg (fun q => absurd q.2 (Int32.not_le.mpr h2)), if_neg (Int32.not_le.mpr h3)], ht⟩) (fun q h => by cases h) dX0_nearest_58
      · refine lv_iload_n hx hb dX0_nearest_53 rfl (lv_at hl 5 rfl) ?_
        refine lv_goto (tgt := 58) hx hb dX0_nearest_54 (by decide) ?_
        exact W.iret (v := b) hx hb hr (fun t ht hW => ⟨b, rfl, by unfold rf_near; rw [← efa, ← efb, ← efc]; rw [if_neg (fun q => absurd q.2 (Int32.not_le.mpr h2)), if_pos (Int32.not_lt.mp h3)], ht⟩) (fun q h => by cases h) dX0_nearest_58
    · refine lv_iload_n hx hb dX0_nearest_44 rfl (lv_at hl 4 rfl) ?_
      exact W.iret (v := a) hx hb hr (fun t ht hW => ⟨a, rfl, by unfold rf_near; rw [← efa, ← efb, ← efc]; rw [if_pos ⟨Int32.not_lt.mp h1, Int32.not_lt.mp h2⟩], ht⟩) (fun q h => by cases h) dX0_nearest_45
set_option maxHeartbeats 4000000 in
set_option maxRecDepth 100000 in
theorem c_X0_pointsAlong (l : Launch) (d o z : Int32) (hz : ¬ z = 0) : Met l yX0_pointsAlong wsX0_pointsAlong ({ frames := 0, cells := 0, slots := 0, locals := 0 }) (va_Pc [.int d, .int o, .int z] (fun _ => True)) (vp_Si (fun r => r = (d - o + z - 1) / z)) 0 0 (fun _ => False) := by
  refine Met.ofW (cc := cX0_pointsAlong) (maxL := 3) (ret := (some .int)) (by decide) rfl ?_
  intro p e s m args below meth c s₁ B hml hv
  obtain ⟨rfl, -⟩ := hv
  have hx := B.exec
  have hb := B.bytes
  have hr := B.returns
  have hts := atoms_spec (ws := wsX0_pointsAlong) B.pre
  have hown : s.vm.findClass RX0 = some m.cls := findClass_of_methodNamed B.named
  have hlocks := B.notSynchronized
  have hl := lv_entry ([.int d, .int o, .int z]) (n := 3) (Nat.le_of_ble_eq_true rfl)
  rw [lg_entry_eq]
  generalize (lg_sl ([.int d, .int o, .int z]) ++ List.replicate (3 - (lg_sl ([.int d, .int o, .int z])).length) Slot.unset).toArray = ls at hl ⊢
  have hl : lv_has ls 3 [(0, .int d), (1, .int o), (2, .int z)] := hl
  refine lv_iload_n hx hb dX0_pointsAlong_0 rfl (lv_at hl 0 rfl) ?_
  refine lv_iload_n hx hb dX0_pointsAlong_1 rfl (lv_at hl 1 rfl) ?_
  refine lv_isub hx hb dX0_pointsAlong_2 ?_
  refine lv_iload_n hx hb dX0_pointsAlong_3 rfl (lv_at hl 2 rfl) ?_
  refine lv_iadd hx hb dX0_pointsAlong_4 ?_
  refine lv_iconst (v := 1) hx hb dX0_pointsAlong_5 (by decide) ?_
  refine lv_isub hx hb dX0_pointsAlong_6 ?_
  refine lv_iload_n hx hb dX0_pointsAlong_7 rfl (lv_at hl 2 rfl) ?_
  refine lv_idiv hx hb dX0_pointsAlong_8 (hz) ?_
  exact W.iret (v := ((((d - o) + z) - 1) / z)) hx hb hr (fun t ht hW => ⟨((((d - o) + z) - 1) / z), rfl, rfl, ht⟩) (fun q h => by cases h) dX0_pointsAlong_9
