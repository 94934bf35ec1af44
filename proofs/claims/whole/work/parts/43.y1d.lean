set_option maxHeartbeats 4000000 in
set_option maxRecDepth 100000 in
theorem c_Y1_out (l : Launch) (dC : Nat → ClassId) (dI : Nat → Nat → Nat) (cI cJ : ClassId) (h0 b1 b2 : Nat) (fl : Int32) (rc rl ps : Nat) (g t : Nat → Int32) (y i : Int32) : Met l yY1_out wsY1_out ({ frames := 0, cells := 0, slots := 0, locals := 0 }) (va_Pc [.ref h0, .int y, .int i] (rv_pre dC dI cI cJ h0 b1 b2 fl rc rl ps g t)) (vp_Si (fun r => (rf_ot rc rl y i → r = 1) ∧ (¬ rf_ot rc rl y i → r = 0))) 0 0 (fun _ => False) := by
  refine Met.ofW (cc := cY1_out) (maxL := 3) (ret := (some .boolean)) (by decide) rfl ?_
  intro p e s m args below meth c s₁ B hml hv
  obtain ⟨rfl, hP, hK⟩ := hv
  have hx := B.exec
  have hb := B.bytes
  have hr := B.returns
  have hts := atoms_spec (ws := wsY1_out) B.pre
  have hown : s.vm.findClass RX1 = some m.cls := findClass_of_methodNamed B.named
  have hlocks := B.notSynchronized
  have hP : va_P (dC, dI) rw_cl (rv_W h0 b1 b2 cI cJ fl rc rl ps g t) s.heap := hP
  have hl := lv_entry ([.ref h0, .int y, .int i]) (n := 3) (Nat.le_of_ble_eq_true rfl)
  rw [lg_entry_eq]
  generalize (lg_sl ([.ref h0, .int y, .int i]) ++ List.replicate (3 - (lg_sl ([.ref h0, .int y, .int i])).length) Slot.unset).toArray = ls at hl ⊢
  have hl : lv_has ls 3 [(0, .ref h0), (1, .int y), (2, .int i)] := hl
  refine lv_iload_n hx hb dY1_out_0 rfl (lv_at hl 1 rfl) ?_
  refine lv_if_lt (tgt := 24) hx hb dY1_out_1 (by decide) (fun q0 => ?_) (fun q0 => ?_)
  · refine lv_iconst (v := 1) hx hb dY1_out_24 (by decide) ?_
    refine lv_goto (tgt := 29) hx hb dY1_out_25 (by decide) ?_
    exact W.zret (v := 1) hx hb hr rfl (fun t ht hW => ⟨1, rfl, ⟨fun _ => rfl, fun q => absurd (Or.inl q0) q⟩, ht⟩) (fun q h => by cases h) dY1_out_29
  · refine lv_iload_n hx hb dY1_out_4 rfl (lv_at hl 1 rfl) ?_
    refine lv_aload_n hx hb dY1_out_5 rfl (lv_at hl 0 rfl) ?_
    refine va_get (D := (dC, dI)) (ci := 1) (v := .int (nI rc)) (C := RX1) (T := TY1) (N := 6) hx hb hts (by decide +kernel) hown hK hP 0 rfl rfl 1 (by decide) (hts (.fieldLink RX1 7 "RowFiltersModel" "height" "I") (by decide +kernel)) (fun _ h9 => h9) rfl dY1_out_6 ?_
    refine lv_icmp_ge (tgt := 24) hx hb dY1_out_9 (by decide) (fun q1 => ?_) (fun q1 => ?_)
    · refine lv_iconst (v := 1) hx hb dY1_out_24 (by decide) ?_
      refine lv_goto (tgt := 29) hx hb dY1_out_25 (by decide) ?_
      exact W.zret (v := 1) hx hb hr rfl (fun t ht hW => ⟨1, rfl, ⟨fun _ => rfl, fun q => absurd (Or.inr (Or.inl q1)) q⟩, ht⟩) (fun q h => by cases h) dY1_out_29
    · refine lv_iload_n hx hb dY1_out_12 rfl (lv_at hl 2 rfl) ?_
      refine lv_if_lt (tgt := 24) hx hb dY1_out_13 (by decide) (fun q2 => ?_) (fun q2 => ?_)
      · refine lv_iconst (v := 1) hx hb dY1_out_24 (by decide) ?_
        refine lv_goto (tgt := 29) hx hb dY1_out_25 (by decide) ?_
        exact W.zret (v := 1) hx hb hr rfl (fun t ht hW => ⟨1, rfl, ⟨fun _ => rfl, fun q => absurd (Or.inr (Or.inr (Or.inl q2))) q⟩, ht⟩) (fun q h => by cases h) dY1_out_29
      · refine lv_iload_n hx hb dY1_out_16 rfl (lv_at hl 2 rfl) ?_
        refine lv_aload_n hx hb dY1_out_17 rfl (lv_at hl 0 rfl) ?_
        refine va_get (D := (dC, dI)) (ci := 1) (v := .int (nI rl)) (C := RX1) (T := TY1) (N := 6) hx hb hts (by decide +kernel) hown hK hP 0 rfl rfl 2 (by decide) (hts (.fieldLink RX1 13 "RowFiltersModel" "width" "I") (by decide +kernel)) (fun _ h9 => h9) rfl dY1_out_18 ?_
        refine lv_icmp_lt (tgt := 28) hx hb dY1_out_21 (by decide) (fun q3 => ?_) (fun q3 => ?_)
        · refine lv_iconst (v := 0) hx hb dY1_out_28 (by decide) ?_
          have hno : ¬ rf_ot rc rl y i := by
            rintro (z | z | z | z)
            · exact absurd z q0
            · exact absurd z q1
            · exact absurd z q2
            · exact absurd z (Int32.not_le.mpr q3)
          exact W.zret (v := 0) hx hb hr rfl (fun t ht hW => ⟨0, rfl, ⟨fun z => absurd z hno, fun _ => rfl⟩, ht⟩) (fun q h => by cases h) dY1_out_29
        · refine lv_iconst (v := 1) hx hb dY1_out_24 (by decide) ?_
          refine lv_goto (tgt := 29) hx hb dY1_out_25 (by decide) ?_
          exact W.zret (v := 1) hx hb hr rfl (fun t ht hW => ⟨1, rfl, ⟨fun _ => rfl, fun q => absurd (Or.inr (Or.inr (Or.inr ((Int32.not_lt.mp q3))))) q⟩, ht⟩) (fun q h => by cases h) dY1_out_29
set_option maxHeartbeats 4000000 in
set_option maxRecDepth 100000 in
theorem c_Y1_bad (l : Launch) (dC : Nat → ClassId) (dI : Nat → Nat → Nat) (cI cJ : ClassId) (h0 b1 b2 : Nat) (fl : Int32) (rc rl ps : Nat) (g t : Nat → Int32) (y i : Int32) : Met l yY1_bad wsY1_bad ({ frames := 0, cells := 0, slots := 0, locals := 0 }) (va_Pc [.ref h0, .int y, .int i] (rv_pre dC dI cI cJ h0 b1 b2 fl rc rl ps g t)) (vp_Si (fun r => (rf_bd rc y i → r = 1) ∧ (¬ rf_bd rc y i → r = 0))) 0 0 (fun _ => False) := by
  refine Met.ofW (cc := cY1_bad) (maxL := 3) (ret := (some .boolean)) (by decide) rfl ?_
  intro p e s m args below meth c s₁ B hml hv
  obtain ⟨rfl, hP, hK⟩ := hv
  have hx := B.exec
  have hb := B.bytes
  have hr := B.returns
  have hts := atoms_spec (ws := wsY1_bad) B.pre
  have hown : s.vm.findClass RX1 = some m.cls := findClass_of_methodNamed B.named
  have hlocks := B.notSynchronized
  have hP : va_P (dC, dI) rw_cl (rv_W h0 b1 b2 cI cJ fl rc rl ps g t) s.heap := hP
  have hl := lv_entry ([.ref h0, .int y, .int i]) (n := 3) (Nat.le_of_ble_eq_true rfl)
  rw [lg_entry_eq]
  generalize (lg_sl ([.ref h0, .int y, .int i]) ++ List.replicate (3 - (lg_sl ([.ref h0, .int y, .int i])).length) Slot.unset).toArray = ls at hl ⊢
  have hl : lv_has ls 3 [(0, .ref h0), (1, .int y), (2, .int i)] := hl
  refine lv_iload_n hx hb dY1_bad_0 rfl (lv_at hl 1 rfl) ?_
  refine lv_if_lt (tgt := 21) hx hb dY1_bad_1 (by decide) (fun q0 => ?_) (fun q0 => ?_)
  · refine lv_iconst (v := 1) hx hb dY1_bad_21 (by decide) ?_
    refine lv_goto (tgt := 26) hx hb dY1_bad_22 (by decide) ?_
    exact W.zret (v := 1) hx hb hr rfl (fun t ht hW => ⟨1, rfl, ⟨fun _ => rfl, fun q => absurd (Or.inl q0) q⟩, ht⟩) (fun q h => by cases h) dY1_bad_26
  · refine lv_iload_n hx hb dY1_bad_4 rfl (lv_at hl 1 rfl) ?_
    refine lv_aload_n hx hb dY1_bad_5 rfl (lv_at hl 0 rfl) ?_
    refine va_get (D := (dC, dI)) (ci := 1) (v := .int (nI rc)) (C := RX1) (T := TY1) (N := 6) hx hb hts (by decide +kernel) hown hK hP 0 rfl rfl 1 (by decide) (hts (.fieldLink RX1 7 "RowFiltersModel" "height" "I") (by decide +kernel)) (fun _ h9 => h9) rfl dY1_bad_6 ?_
    refine lv_icmp_ge (tgt := 21) hx hb dY1_bad_9 (by decide) (fun q1 => ?_) (fun q1 => ?_)
    · refine lv_iconst (v := 1) hx hb dY1_bad_21 (by decide) ?_
      refine lv_goto (tgt := 26) hx hb dY1_bad_22 (by decide) ?_
      exact W.zret (v := 1) hx hb hr rfl (fun t ht hW => ⟨1, rfl, ⟨fun _ => rfl, fun q => absurd (Or.inr (Or.inl q1)) q⟩, ht⟩) (fun q h => by cases h) dY1_bad_26
    · refine lv_iload_n hx hb dY1_bad_12 rfl (lv_at hl 2 rfl) ?_
      refine lv_if_lt (tgt := 21) hx hb dY1_bad_13 (by decide) (fun q2 => ?_) (fun q2 => ?_)
      · refine lv_iconst (v := 1) hx hb dY1_bad_21 (by decide) ?_
        refine lv_goto (tgt := 26) hx hb dY1_bad_22 (by decide) ?_
        exact W.zret (v := 1) hx hb hr rfl (fun t ht hW => ⟨1, rfl, ⟨fun _ => rfl, fun q => absurd (Or.inr (Or.inr (Or.inl q2))) q⟩, ht⟩) (fun q h => by cases h) dY1_bad_26
      · refine lv_iload_n hx hb dY1_bad_16 rfl (lv_at hl 2 rfl) ?_
        refine lv_iconst (v := 4) hx hb dY1_bad_17 (by decide) ?_
        refine lv_icmp_le (tgt := 25) hx hb dY1_bad_18 (by decide) (fun q3 => ?_) (fun q3 => ?_)
        · refine lv_iconst (v := 0) hx hb dY1_bad_25 (by decide) ?_
          have hno : ¬ rf_bd rc y i := by
            rintro (z | z | z | z)
            · exact absurd z q0
            · exact absurd z q1
            · exact absurd z q2
            · exact absurd z (Int32.not_lt.mpr q3)
          exact W.zret (v := 0) hx hb hr rfl (fun t ht hW => ⟨0, rfl, ⟨fun z => absurd z hno, fun _ => rfl⟩, ht⟩) (fun q h => by cases h) dY1_bad_26
        · refine lv_iconst (v := 1) hx hb dY1_bad_21 (by decide) ?_
          refine lv_goto (tgt := 26) hx hb dY1_bad_22 (by decide) ?_
          exact W.zret (v := 1) hx hb hr rfl (fun t ht hW => ⟨1, rfl, ⟨fun _ => rfl, fun q => absurd (Or.inr (Or.inr (Or.inr ((Int32.not_le.mp q3))))) q⟩, ht⟩) (fun q h => by cases h) dY1_bad_26
