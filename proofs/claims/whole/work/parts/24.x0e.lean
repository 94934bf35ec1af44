set_option maxHeartbeats 4000000 in
set_option maxRecDepth 100000 in
theorem c_X0_requireWithin (l : Launch) (x lo hi : Int32) (h1 : ¬ x < lo) (h2 : ¬ hi < x) : Met l yX0_requireWithin wsX0_requireWithin ({ frames := 0, cells := 0, slots := 0, locals := 0 }) (va_Pc [.int x, .int lo, .int hi] (fun _ => True)) (va_Sv (fun _ => True)) 0 0 (fun _ => False) := by
  refine Met.ofW (cc := cX0_requireWithin) (maxL := 3) (ret := none) (by decide) rfl ?_
  intro p e s m args below meth c s₁ B hml hv
  obtain ⟨rfl, -⟩ := hv
  have hx := B.exec
  have hb := B.bytes
  have hr := B.returns
  have hts := atoms_spec (ws := wsX0_requireWithin) B.pre
  have hown : s.vm.findClass RX0 = some m.cls := findClass_of_methodNamed B.named
  have hlocks := B.notSynchronized
  have hl := lv_entry ([.int x, .int lo, .int hi]) (n := 3) (Nat.le_of_ble_eq_true rfl)
  rw [lg_entry_eq]
  generalize (lg_sl ([.int x, .int lo, .int hi]) ++ List.replicate (3 - (lg_sl ([.int x, .int lo, .int hi])).length) Slot.unset).toArray = ls at hl ⊢
  have hl : lv_has ls 3 [(0, .int x), (1, .int lo), (2, .int hi)] := hl
  refine lv_iload_n hx hb dX0_requireWithin_0 rfl (lv_at hl 0 rfl) ?_
  refine lv_iload_n hx hb dX0_requireWithin_1 rfl (lv_at hl 1 rfl) ?_
  refine lv_icmp_lt (tgt := 10) hx hb dX0_requireWithin_2 (by decide) (fun q1 => ?_) (fun q1 => ?_)
  · exact absurd q1 h1
  · refine lv_iload_n hx hb dX0_requireWithin_5 rfl (lv_at hl 0 rfl) ?_
    refine lv_iload_n hx hb dX0_requireWithin_6 rfl (lv_at hl 2 rfl) ?_
    refine lv_icmp_le (tgt := 20) hx hb dX0_requireWithin_7 (by decide) (fun q2 => ?_) (fun q2 => ?_)
    · exact W.vret hx hb hr (fun t ht hW => ⟨rfl, trivial, ht⟩) (fun q h => by cases h) dX0_requireWithin_20
    · exact absurd (Int32.not_le.mp q2) h2
set_option maxHeartbeats 4000000 in
set_option maxRecDepth 100000 in
theorem c_X0_requireRow (l : Launch) (dC : Nat → ClassId) (dI : Nat → Nat → Nat) (cI : ClassId) (h0 ab rc rl ps : Nat) (f : Nat → Int32) (y : Int32) (h1 : ¬ y < 0) (h2 : ¬ nI rc - 1 < y) : Met l yX0_requireRow wsX0_requireRow ({ frames := 1, cells := 0, slots := 0, locals := 22 }) (va_Pc [.ref h0, .int y] (rw_pre dC dI cI h0 ab rc rl ps f)) (va_Sv (fun _ => True)) 0 0 (fun _ => False) := by
  refine Met.ofW (cc := cX0_requireRow) (maxL := 2) (ret := none) (by decide) rfl ?_
  intro p e s m args below meth c s₁ B hml hv
  obtain ⟨rfl, hP, hK⟩ := hv
  have hx := B.exec
  have hb := B.bytes
  have hr := B.returns
  have hts := atoms_spec (ws := wsX0_requireRow) B.pre
  have hown : s.vm.findClass RX0 = some m.cls := findClass_of_methodNamed B.named
  have hlocks := B.notSynchronized
  have hP : va_P (dC, dI) rw_cl (rw_W h0 ab cI rc rl ps f) s.heap := hP
  have hl := lv_entry ([.ref h0, .int y]) (n := 2) (Nat.le_of_ble_eq_true rfl)
  rw [lg_entry_eq]
  generalize (lg_sl ([.ref h0, .int y]) ++ List.replicate (2 - (lg_sl ([.ref h0, .int y])).length) Slot.unset).toArray = ls at hl ⊢
  have hl : lv_has ls 2 [(0, .ref h0), (1, .int y)] := hl
  refine lv_iload_n hx hb dX0_requireRow_0 rfl (lv_at hl 1 rfl) ?_
  refine lv_iconst (v := 0) hx hb dX0_requireRow_1 (by decide) ?_
  refine lv_aload_n hx hb dX0_requireRow_2 rfl (lv_at hl 0 rfl) ?_
  refine va_get (D := (dC, dI)) (ci := 0) (v := .int (nI rc)) (C := RX0) (T := TX0) (N := 4) hx hb hts (by decide +kernel) hown hK hP 0 rfl rfl 1 (by decide) (hts (.fieldLink RX0 13 "RowFilters" "rowCount" "I") (by decide +kernel)) (fun _ h9 => h9) rfl dX0_requireRow_3 ?_
  refine lv_iconst (v := 1) hx hb dX0_requireRow_6 (by decide) ?_
  refine lv_isub hx hb dX0_requireRow_7 ?_
  refine va_csv (W.runS (As := [.int y, .int 0, .int ((nI rc) - 1)]) (rest := []) ⟨hx, hb, hml, hown, hts⟩ (c_X0_requireWithin l y 0 (nI rc - 1) h1 h2) (va_cwS 3 hts gX0_requireRow_X0_requireWithin rfl rfl rfl (by decide +kernel) ⟨Nat.le_of_ble_eq_true rfl, Nat.le_of_ble_eq_true rfl⟩) ⟨fun _ _ _ _ q => q, fun U hU hW => ⟨rfl, trivial⟩⟩ rfl rfl hl.1 rfl (lv_room (Nat.le_of_ble_eq_true rfl)) dX0_requireRow_8 ⟨Nat.zero_le _, Nat.zero_le _⟩) (fun _ => ?_)
  exact W.vret hx hb hr (fun t ht hW => ⟨rfl, trivial, ht⟩) (fun q h => by cases h) dX0_requireRow_11
set_option maxHeartbeats 4000000 in
set_option maxRecDepth 100000 in
theorem c_X0_requireFilter (l : Launch) (q : Int32) (h1 : ¬ q < 0) (h2 : ¬ 4 < q) : Met l yX0_requireFilter wsX0_requireFilter ({ frames := 1, cells := 0, slots := 0, locals := 22 }) (va_Pc [.int q] (fun _ => True)) (va_Sv (fun _ => True)) 0 0 (fun _ => False) := by
  refine Met.ofW (cc := cX0_requireFilter) (maxL := 1) (ret := none) (by decide) rfl ?_
  intro p e s m args below meth c s₁ B hml hv
  obtain ⟨rfl, -⟩ := hv
  have hx := B.exec
  have hb := B.bytes
  have hr := B.returns
  have hts := atoms_spec (ws := wsX0_requireFilter) B.pre
  have hown : s.vm.findClass RX0 = some m.cls := findClass_of_methodNamed B.named
  have hlocks := B.notSynchronized
  have hl := lv_entry ([.int q]) (n := 1) (Nat.le_of_ble_eq_true rfl)
  rw [lg_entry_eq]
  generalize (lg_sl ([.int q]) ++ List.replicate (1 - (lg_sl ([.int q])).length) Slot.unset).toArray = ls at hl ⊢
  have hl : lv_has ls 1 [(0, .int q)] := hl
  refine lv_iload_n hx hb dX0_requireFilter_0 rfl (lv_at hl 0 rfl) ?_
  refine lv_iconst (v := 0) hx hb dX0_requireFilter_1 (by decide) ?_
  refine lv_iconst (v := 4) hx hb dX0_requireFilter_2 (by decide) ?_
  refine va_csv (W.runS (As := [.int q, .int 0, .int 4]) (rest := []) ⟨hx, hb, hml, hown, hts⟩ (c_X0_requireWithin l q 0 4 h1 h2) (va_cwS 3 hts gX0_requireFilter_X0_requireWithin rfl rfl rfl (by decide +kernel) ⟨Nat.le_of_ble_eq_true rfl, Nat.le_of_ble_eq_true rfl⟩) ⟨fun _ _ _ _ q => q, fun U hU hW => ⟨rfl, trivial⟩⟩ rfl rfl hl.1 rfl (lv_room (Nat.le_of_ble_eq_true rfl)) dX0_requireFilter_3 ⟨Nat.zero_le _, Nat.zero_le _⟩) (fun _ => ?_)
  exact W.vret hx hb hr (fun t ht hW => ⟨rfl, trivial, ht⟩) (fun q h => by cases h) dX0_requireFilter_6
set_option maxHeartbeats 4000000 in
set_option maxRecDepth 100000 in
theorem c_X0_requireByte (l : Launch) (dC : Nat → ClassId) (dI : Nat → Nat → Nat) (cI : ClassId) (h0 ab rc rl ps : Nat) (f : Nat → Int32) (y i : Int32) (h1 : ¬ y < 0) (h2 : ¬ nI rc - 1 < y) (h3 : ¬ i < 0) (h4 : ¬ nI rl - 1 < i) : Met l yX0_requireByte wsX0_requireByte ({ frames := 2, cells := 0, slots := 0, locals := 43 }) (va_Pc [.ref h0, .int y, .int i] (rw_pre dC dI cI h0 ab rc rl ps f)) (va_Sv (fun _ => True)) 0 0 (fun _ => False) := by
  refine Met.ofW (cc := cX0_requireByte) (maxL := 3) (ret := none) (by decide) rfl ?_
  intro p e s m args below meth c s₁ B hml hv
  obtain ⟨rfl, hP, hK⟩ := hv
  have hx := B.exec
  have hb := B.bytes
  have hr := B.returns
  have hts := atoms_spec (ws := wsX0_requireByte) B.pre
  have hown : s.vm.findClass RX0 = some m.cls := findClass_of_methodNamed B.named
  have hlocks := B.notSynchronized
  have hP : va_P (dC, dI) rw_cl (rw_W h0 ab cI rc rl ps f) s.heap := hP
  have hl := lv_entry ([.ref h0, .int y, .int i]) (n := 3) (Nat.le_of_ble_eq_true rfl)
  rw [lg_entry_eq]
  generalize (lg_sl ([.ref h0, .int y, .int i]) ++ List.replicate (3 - (lg_sl ([.ref h0, .int y, .int i])).length) Slot.unset).toArray = ls at hl ⊢
  have hl : lv_has ls 3 [(0, .ref h0), (1, .int y), (2, .int i)] := hl
  refine lv_aload_n hx hb dX0_requireByte_0 rfl (lv_at hl 0 rfl) ?_
  refine lv_iload_n hx hb dX0_requireByte_1 rfl (lv_at hl 1 rfl) ?_
  refine va_csv (W.runV (C := RX0) (As := [.int y]) (rest := []) ⟨hx, hb, hml, hown, hts⟩ (c_X0_requireRow l dC dI cI h0 ab rc rl ps f y h1 h2) (cwV 1 hts gX0_requireByte_X0_requireRow rfl rfl rfl (by decide +kernel) ⟨Nat.le_of_ble_eq_true rfl, Nat.le_of_ble_eq_true rfl⟩) ⟨fun a U g mk q => by obtain ⟨q0, qP, qK⟩ := q; exact ⟨q0, qP, va_K.moved (u := U) (U := U.calling g mk a) (Vm.Alike.refl U.vm) qK⟩, va_recv hK hP (ci := 0) (q0 := 0) rfl rfl, fun U hU hW => ⟨rfl, by rw [hU]; exact hP, va_K.moved hW.alike hK⟩⟩ rfl rfl hl.1 rfl (lv_room (Nat.le_of_ble_eq_true rfl)) dX0_requireByte_2 ⟨Nat.zero_le _, Nat.zero_le _⟩) (fun _ => ?_)
  refine lv_iload_n hx hb dX0_requireByte_5 rfl (lv_at hl 2 rfl) ?_
  refine lv_iconst (v := 0) hx hb dX0_requireByte_6 (by decide) ?_
  refine lv_aload_n hx hb dX0_requireByte_7 rfl (lv_at hl 0 rfl) ?_
  refine va_get (D := (dC, dI)) (ci := 0) (v := .int (nI rl)) (C := RX0) (T := TX0) (N := 4) hx hb hts (by decide +kernel) hown hK hP 0 rfl rfl 2 (by decide) (hts (.fieldLink RX0 17 "RowFilters" "rowLength" "I") (by decide +kernel)) (fun _ h9 => h9) rfl dX0_requireByte_8 ?_
  refine lv_iconst (v := 1) hx hb dX0_requireByte_11 (by decide) ?_
  refine lv_isub hx hb dX0_requireByte_12 ?_
  refine va_csv (W.runS (As := [.int i, .int 0, .int ((nI rl) - 1)]) (rest := []) ⟨hx, hb, hml, hown, hts⟩ (c_X0_requireWithin l i 0 (nI rl - 1) h3 h4) (va_cwS 3 hts gX0_requireByte_X0_requireWithin rfl rfl rfl (by decide +kernel) ⟨Nat.le_of_ble_eq_true rfl, Nat.le_of_ble_eq_true rfl⟩) ⟨fun _ _ _ _ q => q, fun U hU hW => ⟨rfl, trivial⟩⟩ rfl rfl hl.1 rfl (lv_room (Nat.le_of_ble_eq_true rfl)) dX0_requireByte_13 ⟨Nat.zero_le _, Nat.zero_le _⟩) (fun _ => ?_)
  exact W.vret hx hb hr (fun t ht hW => ⟨rfl, trivial, ht⟩) (fun q h => by cases h) dX0_requireByte_16
