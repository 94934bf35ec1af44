set_option maxHeartbeats 4000000 in
set_option maxRecDepth 100000 in
theorem c_X0_requireRow_x (l : Launch) (hl9 : l.stackTraces = false) (sz sa : Nat) (dC : Nat → ClassId) (dI : Nat → Nat → Nat) (cI : ClassId) (h0 ab rc rl ps : Nat) (f : Nat → Int32) (y : Int32) (hb0 : y < 0 ∨ nI rc - 1 < y) : vx_Met l yX0_requireRow wsX0_requireRow ({ frames := 7, cells := 1, slots := 6, locals := 104 }) (va_Pc [.ref h0, .int y] (fun U => U.heap.size = sz ∧ rw_XA (fun q => sz ≤ q) sa U U.heap ∧ rw_pre dC dI cI h0 ab rc rl ps f U)) (va_Qv (fun _ : Unit => False) (fun _ _ => False) (fun q => sz ≤ q)) (rw_XC sz) 1 6 (fun q => sz ≤ q) := by
  refine vx_ofW (cc := cX0_requireRow) (maxL := 2) (ret := none) (by decide) rfl ?_
  intro p e s m args below meth c s₁ B hml hno hv
  obtain ⟨rfl, hsz, hX, hP, hK⟩ := hv
  have hx := B.exec
  have hb := B.bytes
  have hr := B.returns
  have hts := atoms_spec (ws := wsX0_requireRow) B.pre
  have hown : s.vm.findClass RX0 = some m.cls := findClass_of_methodNamed B.named
  have hlocks := B.notSynchronized
  subst hsz
  have hS : va_S (fun q => s.heap.size ≤ q) s.heap s.heap [] := va_S.rf
  have hP : va_P (dC, dI) rw_cl (rw_W h0 ab cI rc rl ps f) s.heap := hP
  have hl := lv_entry ([.ref h0, .int y]) (n := 2) (Nat.le_of_ble_eq_true rfl)
  rw [lg_entry_eq]
  generalize (lg_sl ([.ref h0, .int y]) ++ List.replicate (2 - (lg_sl ([.ref h0, .int y])).length) Slot.unset).toArray = ls at hl ⊢
  have hl : lv_has ls 2 [(0, .ref h0), (1, .int y)] := hl
  refine lv_iload_n hx hb dX0_requireRow_0 rfl (lv_at hl 1 rfl) ?_
  refine lv_iconst (v := 0) hx hb dX0_requireRow_1 (by decide) ?_
  refine lv_aload_n hx hb dX0_requireRow_2 rfl (lv_at hl 0 rfl) ?_
  refine va_get (D := (dC, dI)) (ci := 0) (v := .int (nI rc)) (C := RX0) (T := TX0) (N := 4) hx hb hts (by decide +kernel) hown hK hP 0 rfl rfl 1 (by decide) (hts (.fieldLink RX0 13 "RowFilters" "rowCount" "I") (by decide +kernel)) (fun _ h9 => h9) rfl dX0_requireRow_3 ?_
  refine lv_iconst (v := 1) hx hb dX0_requireRow_6 (by decide) ?_
  refine lv_isub hx hb dX0_requireRow_7 ?_
  refine vx_callv (vx_runS (As := [.int y, .int 0, .int ((nI rc) - 1)]) (rest := []) ⟨hx, hb, hml, hown, hts⟩ (c_X0_requireWithin_x l hl9 s.heap.size sa y 0 (nI rc - 1) hb0) (va_cwS 3 hts gX0_requireRow_X0_requireWithin rfl rfl rfl (by decide +kernel) ⟨Nat.le_of_ble_eq_true rfl, Nat.le_of_ble_eq_true rfl⟩) ⟨fun a U g mk q => by obtain ⟨q0, q1, qX⟩ := q; exact ⟨q0, q1, rw_XA.call qX⟩, fun U hU hW => ⟨rfl, by rw [hU], rw_XA.go hX hU hW⟩⟩ rfl rfl hl.1 rfl (lv_room (Nat.le_of_ble_eq_true rfl)) dX0_requireRow_8 ⟨Nat.le_refl _, Nat.le_refl _⟩) hS (fun q _ h => h) (fun q h => h) (fun q _ h => h) (fun E ce q9 u t9 H1 locs ht hvm hpx hE hz1 hk1 hS hc1 hc2 hc3 => ?_) (fun u t9 H1 locs ht hvm hw hB hz1 hk1 hS => hw.elim)
  exact vx_out (fun x h => (hno x h).elim) hlocks hc1 hc2 hc3 (fun t ht2 ha => ⟨(), trivial, hE, hS.F ht2⟩) hS.2.2 (Nat.le_refl _) (Nat.le_refl _)
set_option maxHeartbeats 4000000 in
set_option maxRecDepth 100000 in
theorem c_X0_requireFilter_x (l : Launch) (hl9 : l.stackTraces = false) (sz sa : Nat) (q : Int32) (hb0 : q < 0 ∨ 4 < q) : vx_Met l yX0_requireFilter wsX0_requireFilter ({ frames := 7, cells := 1, slots := 6, locals := 104 }) (va_Pc [.int q] (fun U => U.heap.size = sz ∧ rw_XA (fun q => sz ≤ q) sa U U.heap)) (va_Qv (fun _ : Unit => False) (fun _ _ => False) (fun q => sz ≤ q)) (rw_XC sz) 1 6 (fun q => sz ≤ q) := by
  refine vx_ofW (cc := cX0_requireFilter) (maxL := 1) (ret := none) (by decide) rfl ?_
  intro p e s m args below meth c s₁ B hml hno hv
  obtain ⟨rfl, hsz, hX⟩ := hv
  have hx := B.exec
  have hb := B.bytes
  have hr := B.returns
  have hts := atoms_spec (ws := wsX0_requireFilter) B.pre
  have hown : s.vm.findClass RX0 = some m.cls := findClass_of_methodNamed B.named
  have hlocks := B.notSynchronized
  subst hsz
  have hS : va_S (fun q => s.heap.size ≤ q) s.heap s.heap [] := va_S.rf
  have hl := lv_entry ([.int q]) (n := 1) (Nat.le_of_ble_eq_true rfl)
  rw [lg_entry_eq]
  generalize (lg_sl ([.int q]) ++ List.replicate (1 - (lg_sl ([.int q])).length) Slot.unset).toArray = ls at hl ⊢
  have hl : lv_has ls 1 [(0, .int q)] := hl
  refine lv_iload_n hx hb dX0_requireFilter_0 rfl (lv_at hl 0 rfl) ?_
  refine lv_iconst (v := 0) hx hb dX0_requireFilter_1 (by decide) ?_
  refine lv_iconst (v := 4) hx hb dX0_requireFilter_2 (by decide) ?_
  refine vx_callv (vx_runS (As := [.int q, .int 0, .int 4]) (rest := []) ⟨hx, hb, hml, hown, hts⟩ (c_X0_requireWithin_x l hl9 s.heap.size sa q 0 4 hb0) (va_cwS 3 hts gX0_requireFilter_X0_requireWithin rfl rfl rfl (by decide +kernel) ⟨Nat.le_of_ble_eq_true rfl, Nat.le_of_ble_eq_true rfl⟩) ⟨fun a U g mk q => by obtain ⟨q0, q1, qX⟩ := q; exact ⟨q0, q1, rw_XA.call qX⟩, fun U hU hW => ⟨rfl, by rw [hU], rw_XA.go hX hU hW⟩⟩ rfl rfl hl.1 rfl (lv_room (Nat.le_of_ble_eq_true rfl)) dX0_requireFilter_3 ⟨Nat.le_refl _, Nat.le_refl _⟩) hS (fun q _ h => h) (fun q h => h) (fun q _ h => h) (fun E ce q9 u t9 H1 locs ht hvm hpx hE hz1 hk1 hS hc1 hc2 hc3 => ?_) (fun u t9 H1 locs ht hvm hw hB hz1 hk1 hS => hw.elim)
  exact vx_out (fun x h => (hno x h).elim) hlocks hc1 hc2 hc3 (fun t ht2 ha => ⟨(), trivial, hE, hS.F ht2⟩) hS.2.2 (Nat.le_refl _) (Nat.le_refl _)
set_option maxHeartbeats 4000000 in
set_option maxRecDepth 100000 in
theorem c_X0_requireByte_x (l : Launch) (hl9 : l.stackTraces = false) (sz sa : Nat) (dC : Nat → ClassId) (dI : Nat → Nat → Nat) (cI : ClassId) (h0 ab rc rl ps : Nat) (f : Nat → Int32) (y i : Int32) (hb0 : (y < 0 ∨ nI rc - 1 < y) ∨ (i < 0 ∨ nI rl - 1 < i)) : vx_Met l yX0_requireByte wsX0_requireByte ({ frames := 8, cells := 1, slots := 6, locals := 125 }) (va_Pc [.ref h0, .int y, .int i] (fun U => U.heap.size = sz ∧ rw_XA (fun q => sz ≤ q) sa U U.heap ∧ rw_pre dC dI cI h0 ab rc rl ps f U)) (va_Qv (fun _ : Unit => False) (fun _ _ => False) (fun q => sz ≤ q)) (rw_XC sz) 1 6 (fun q => sz ≤ q) := by
  refine vx_ofW (cc := cX0_requireByte) (maxL := 3) (ret := none) (by decide) rfl ?_
  intro p e s m args below meth c s₁ B hml hno hv
  obtain ⟨rfl, hsz, hX, hP, hK⟩ := hv
  have hx := B.exec
  have hb := B.bytes
  have hr := B.returns
  have hts := atoms_spec (ws := wsX0_requireByte) B.pre
  have hown : s.vm.findClass RX0 = some m.cls := findClass_of_methodNamed B.named
  have hlocks := B.notSynchronized
  subst hsz
  have hS : va_S (fun q => s.heap.size ≤ q) s.heap s.heap [] := va_S.rf
  have hP : va_P (dC, dI) rw_cl (rw_W h0 ab cI rc rl ps f) s.heap := hP
  have hl := lv_entry ([.ref h0, .int y, .int i]) (n := 3) (Nat.le_of_ble_eq_true rfl)
  rw [lg_entry_eq]
  generalize (lg_sl ([.ref h0, .int y, .int i]) ++ List.replicate (3 - (lg_sl ([.ref h0, .int y, .int i])).length) Slot.unset).toArray = ls at hl ⊢
  have hl : lv_has ls 3 [(0, .ref h0), (1, .int y), (2, .int i)] := hl
  refine lv_aload_n hx hb dX0_requireByte_0 rfl (lv_at hl 0 rfl) ?_
  refine lv_iload_n hx hb dX0_requireByte_1 rfl (lv_at hl 1 rfl) ?_
  by_cases a1 : y < 0 ∨ nI rc - 1 < y
  · refine vx_callv (vx_runV (C := RX0) (As := [.int y]) (rest := []) ⟨hx, hb, hml, hown, hts⟩ (c_X0_requireRow_x l hl9 s.heap.size sa dC dI cI h0 ab rc rl ps f y a1) (cwV 1 hts gX0_requireByte_X0_requireRow rfl rfl rfl (by decide +kernel) ⟨Nat.le_of_ble_eq_true rfl, Nat.le_of_ble_eq_true rfl⟩) ⟨fun a U g mk q => by obtain ⟨q0, q1, qX, qP, qK⟩ := q; exact ⟨q0, q1, rw_XA.call qX, qP, va_K.moved (u := U) (U := U.calling g mk a) (Vm.Alike.refl U.vm) qK⟩, va_recv hK hP (ci := 0) (q0 := 0) rfl rfl, fun U hU hW => ⟨rfl, by rw [hU], rw_XA.go hX hU hW, by rw [hU]; exact hP, va_K.moved hW.alike hK⟩⟩ rfl rfl hl.1 rfl (lv_room (Nat.le_of_ble_eq_true rfl)) dX0_requireByte_2 ⟨Nat.le_refl _, Nat.le_refl _⟩) hS (fun q _ h => h) (fun q h => h) (fun q _ h => h) (fun E ce q9 u t9 H1 locs ht hvm hpx hE hz1 hk1 hS hc1 hc2 hc3 => ?_) (fun u t9 H1 locs ht hvm hw hB hz1 hk1 hS => hw.elim)
    exact vx_out (fun x h => (hno x h).elim) hlocks hc1 hc2 hc3 (fun t ht2 ha => ⟨(), trivial, hE, hS.F ht2⟩) hS.2.2 (Nat.le_refl _) (Nat.le_refl _)
  · have b1 := not_or.mp a1
    refine va_csv (W.runV (C := RX0) (As := [.int y]) (rest := []) ⟨hx, hb, hml, hown, hts⟩ (c_X0_requireRow l dC dI cI h0 ab rc rl ps f y b1.1 b1.2) (cwV 1 hts gX0_requireByte_X0_requireRow rfl rfl rfl (by decide +kernel) ⟨Nat.le_of_ble_eq_true rfl, Nat.le_of_ble_eq_true rfl⟩) ⟨fun a U g mk q => by obtain ⟨q0, qP, qK⟩ := q; exact ⟨q0, qP, va_K.moved (u := U) (U := U.calling g mk a) (Vm.Alike.refl U.vm) qK⟩, va_recv hK hP (ci := 0) (q0 := 0) rfl rfl, fun U hU hW => ⟨rfl, by rw [hU]; exact hP, va_K.moved hW.alike hK⟩⟩ rfl rfl hl.1 rfl (lv_room (Nat.le_of_ble_eq_true rfl)) dX0_requireByte_2 ⟨Nat.zero_le _, Nat.zero_le _⟩) (fun _ => ?_)
    have hb1 := hb0.resolve_left a1
    refine lv_iload_n hx hb dX0_requireByte_5 rfl (lv_at hl 2 rfl) ?_
    refine lv_iconst (v := 0) hx hb dX0_requireByte_6 (by decide) ?_
    refine lv_aload_n hx hb dX0_requireByte_7 rfl (lv_at hl 0 rfl) ?_
    refine va_get (D := (dC, dI)) (ci := 0) (v := .int (nI rl)) (C := RX0) (T := TX0) (N := 4) hx hb hts (by decide +kernel) hown hK hP 0 rfl rfl 2 (by decide) (hts (.fieldLink RX0 17 "RowFilters" "rowLength" "I") (by decide +kernel)) (fun _ h9 => h9) rfl dX0_requireByte_8 ?_
    refine lv_iconst (v := 1) hx hb dX0_requireByte_11 (by decide) ?_
    refine lv_isub hx hb dX0_requireByte_12 ?_
    refine vx_callv (vx_runS (As := [.int i, .int 0, .int ((nI rl) - 1)]) (rest := []) ⟨hx, hb, hml, hown, hts⟩ (c_X0_requireWithin_x l hl9 s.heap.size sa i 0 (nI rl - 1) hb1) (va_cwS 3 hts gX0_requireByte_X0_requireWithin rfl rfl rfl (by decide +kernel) ⟨Nat.le_of_ble_eq_true rfl, Nat.le_of_ble_eq_true rfl⟩) ⟨fun a U g mk q => by obtain ⟨q0, q1, qX⟩ := q; exact ⟨q0, q1, rw_XA.call qX⟩, fun U hU hW => ⟨rfl, by rw [hU], rw_XA.go hX hU hW⟩⟩ rfl rfl hl.1 rfl (lv_room (Nat.le_of_ble_eq_true rfl)) dX0_requireByte_13 ⟨Nat.le_refl _, Nat.le_refl _⟩) hS (fun q _ h => h) (fun q h => h) (fun q _ h => h) (fun E ce q9 u t9 H1 locs ht hvm hpx hE hz1 hk1 hS hc1 hc2 hc3 => ?_) (fun u t9 H1 locs ht hvm hw hB hz1 hk1 hS => hw.elim)
    exact vx_out (fun x h => (hno x h).elim) hlocks hc1 hc2 hc3 (fun t ht2 ha => ⟨(), trivial, hE, hS.F ht2⟩) hS.2.2 (Nat.le_refl _) (Nat.le_refl _)
set_option maxHeartbeats 4000000 in
set_option maxRecDepth 100000 in
theorem c_X0_get_x (l : Launch) (hl9 : l.stackTraces = false) (sz sa : Nat) (dC : Nat → ClassId) (dI : Nat → Nat → Nat) (cI : ClassId) (h0 ab rc rl ps : Nat) (f : Nat → Int32) (y i : Int32) (hb0 : (y < 0 ∨ nI rc - 1 < y) ∨ (i < 0 ∨ nI rl - 1 < i)) : vx_Met l yX0_get wsX0_get ({ frames := 9, cells := 1, slots := 6, locals := 147 }) (va_Pc [.ref h0, .int y, .int i] (fun U => U.heap.size = sz ∧ rw_XA (fun q => sz ≤ q) sa U U.heap ∧ rw_pre dC dI cI h0 ab rc rl ps f U)) (va_Qi (fun (_ : Int32) (_ : Unit) => False) (fun _ _ => False) (fun q => sz ≤ q)) (rw_XC sz) 1 6 (fun q => sz ≤ q) := by
  refine vx_ofW (cc := cX0_get) (maxL := 3) (ret := (some .int)) (by decide) rfl ?_
  intro p e s m args below meth c s₁ B hml hno hv
  obtain ⟨rfl, hsz, hX, hP, hK⟩ := hv
  have hx := B.exec
  have hb := B.bytes
  have hr := B.returns
  have hts := atoms_spec (ws := wsX0_get) B.pre
  have hown : s.vm.findClass RX0 = some m.cls := findClass_of_methodNamed B.named
  have hlocks := B.notSynchronized
  subst hsz
  have hS : va_S (fun q => s.heap.size ≤ q) s.heap s.heap [] := va_S.rf
  have hP : va_P (dC, dI) rw_cl (rw_W h0 ab cI rc rl ps f) s.heap := hP
  have hl := lv_entry ([.ref h0, .int y, .int i]) (n := 3) (Nat.le_of_ble_eq_true rfl)
  rw [lg_entry_eq]
  generalize (lg_sl ([.ref h0, .int y, .int i]) ++ List.replicate (3 - (lg_sl ([.ref h0, .int y, .int i])).length) Slot.unset).toArray = ls at hl ⊢
  have hl : lv_has ls 3 [(0, .ref h0), (1, .int y), (2, .int i)] := hl
  refine lv_aload_n hx hb dX0_get_0 rfl (lv_at hl 0 rfl) ?_
  refine lv_iload_n hx hb dX0_get_1 rfl (lv_at hl 1 rfl) ?_
  refine lv_iload_n hx hb dX0_get_2 rfl (lv_at hl 2 rfl) ?_
  refine vx_callv (vx_runV (C := RX0) (As := [.int y, .int i]) (rest := []) ⟨hx, hb, hml, hown, hts⟩ (c_X0_requireByte_x l hl9 s.heap.size sa dC dI cI h0 ab rc rl ps f y i hb0) (cwV 2 hts gX0_get_X0_requireByte rfl rfl rfl (by decide +kernel) ⟨Nat.le_of_ble_eq_true rfl, Nat.le_of_ble_eq_true rfl⟩) ⟨fun a U g mk q => by obtain ⟨q0, q1, qX, qP, qK⟩ := q; exact ⟨q0, q1, rw_XA.call qX, qP, va_K.moved (u := U) (U := U.calling g mk a) (Vm.Alike.refl U.vm) qK⟩, va_recv hK hP (ci := 0) (q0 := 0) rfl rfl, fun U hU hW => ⟨rfl, by rw [hU], rw_XA.go hX hU hW, by rw [hU]; exact hP, va_K.moved hW.alike hK⟩⟩ rfl rfl hl.1 rfl (lv_room (Nat.le_of_ble_eq_true rfl)) dX0_get_3 ⟨Nat.le_refl _, Nat.le_refl _⟩) hS (fun q _ h => h) (fun q h => h) (fun q _ h => h) (fun E ce q9 u t9 H1 locs ht hvm hpx hE hz1 hk1 hS hc1 hc2 hc3 => ?_) (fun u t9 H1 locs ht hvm hw hB hz1 hk1 hS => hw.elim)
  exact vx_out (fun x h => (hno x h).elim) hlocks hc1 hc2 hc3 (fun t ht2 ha => ⟨(), trivial, hE, hS.F ht2⟩) hS.2.2 (Nat.le_refl _) (Nat.le_refl _)
set_option maxHeartbeats 4000000 in
set_option maxRecDepth 100000 in
theorem c_X0_set_x (l : Launch) (hl9 : l.stackTraces = false) (sz sa : Nat) (dC : Nat → ClassId) (dI : Nat → Nat → Nat) (cI : ClassId) (h0 ab rc rl ps : Nat) (f : Nat → Int32) (y i v : Int32) (hb0 : ((y < 0 ∨ nI rc - 1 < y) ∨ (i < 0 ∨ nI rl - 1 < i)) ∨ (v < 0 ∨ 255 < v)) : vx_Met l yX0_set wsX0_set ({ frames := 9, cells := 1, slots := 6, locals := 147 }) (va_Pc [.ref h0, .int y, .int i, .int v] (fun U => U.heap.size = sz ∧ rw_XA (fun q => sz ≤ q) sa U U.heap ∧ rw_pre dC dI cI h0 ab rc rl ps f U)) (va_Qi (fun (_ : Int32) (_ : Unit) => False) (fun _ _ => False) (fun q => sz ≤ q)) (rw_XC sz) 1 6 (fun q => sz ≤ q) := by
  refine vx_ofW (cc := cX0_set) (maxL := 6) (ret := (some .int)) (by decide) rfl ?_
  intro p e s m args below meth c s₁ B hml hno hv
  obtain ⟨rfl, hsz, hX, hP, hK⟩ := hv
  have hx := B.exec
  have hb := B.bytes
  have hr := B.returns
  have hts := atoms_spec (ws := wsX0_set) B.pre
  have hown : s.vm.findClass RX0 = some m.cls := findClass_of_methodNamed B.named
  have hlocks := B.notSynchronized
  subst hsz
  have hS : va_S (fun q => s.heap.size ≤ q) s.heap s.heap [] := va_S.rf
  have hP : va_P (dC, dI) rw_cl (rw_W h0 ab cI rc rl ps f) s.heap := hP
  have hl := lv_entry ([.ref h0, .int y, .int i, .int v]) (n := 6) (Nat.le_of_ble_eq_true rfl)
  rw [lg_entry_eq]
  generalize (lg_sl ([.ref h0, .int y, .int i, .int v]) ++ List.replicate (6 - (lg_sl ([.ref h0, .int y, .int i, .int v])).length) Slot.unset).toArray = ls at hl ⊢
  have hl : lv_has ls 6 [(0, .ref h0), (1, .int y), (2, .int i), (3, .int v)] := hl
  refine lv_aload_n hx hb dX0_set_0 rfl (lv_at hl 0 rfl) ?_
  refine lv_iload_n hx hb dX0_set_1 rfl (lv_at hl 1 rfl) ?_
  refine lv_iload_n hx hb dX0_set_2 rfl (lv_at hl 2 rfl) ?_
  by_cases a1 : (y < 0 ∨ nI rc - 1 < y) ∨ (i < 0 ∨ nI rl - 1 < i)
  · refine vx_callv (vx_runV (C := RX0) (As := [.int y, .int i]) (rest := []) ⟨hx, hb, hml, hown, hts⟩ (c_X0_requireByte_x l hl9 s.heap.size sa dC dI cI h0 ab rc rl ps f y i a1) (cwV 2 hts gX0_set_X0_requireByte rfl rfl rfl (by decide +kernel) ⟨Nat.le_of_ble_eq_true rfl, Nat.le_of_ble_eq_true rfl⟩) ⟨fun a U g mk q => by obtain ⟨q0, q1, qX, qP, qK⟩ := q; exact ⟨q0, q1, rw_XA.call qX, qP, va_K.moved (u := U) (U := U.calling g mk a) (Vm.Alike.refl U.vm) qK⟩, va_recv hK hP (ci := 0) (q0 := 0) rfl rfl, fun U hU hW => ⟨rfl, by rw [hU], rw_XA.go hX hU hW, by rw [hU]; exact hP, va_K.moved hW.alike hK⟩⟩ rfl rfl hl.1 rfl (lv_room (Nat.le_of_ble_eq_true rfl)) dX0_set_3 ⟨Nat.le_refl _, Nat.le_refl _⟩) hS (fun q _ h => h) (fun q h => h) (fun q _ h => h) (fun E ce q9 u t9 H1 locs ht hvm hpx hE hz1 hk1 hS hc1 hc2 hc3 => ?_) (fun u t9 H1 locs ht hvm hw hB hz1 hk1 hS => hw.elim)
    exact vx_out (fun x h => (hno x h).elim) hlocks hc1 hc2 hc3 (fun t ht2 ha => ⟨(), trivial, hE, hS.F ht2⟩) hS.2.2 (Nat.le_refl _) (Nat.le_refl _)
  · have b1 := not_or.mp a1
    refine va_csv (W.runV (C := RX0) (As := [.int y, .int i]) (rest := []) ⟨hx, hb, hml, hown, hts⟩ (c_X0_requireByte l dC dI cI h0 ab rc rl ps f y i (not_or.mp b1.1).1 (not_or.mp b1.1).2 (not_or.mp b1.2).1 (not_or.mp b1.2).2) (cwV 2 hts gX0_set_X0_requireByte rfl rfl rfl (by decide +kernel) ⟨Nat.le_of_ble_eq_true rfl, Nat.le_of_ble_eq_true rfl⟩) ⟨fun a U g mk q => by obtain ⟨q0, qP, qK⟩ := q; exact ⟨q0, qP, va_K.moved (u := U) (U := U.calling g mk a) (Vm.Alike.refl U.vm) qK⟩, va_recv hK hP (ci := 0) (q0 := 0) rfl rfl, fun U hU hW => ⟨rfl, by rw [hU]; exact hP, va_K.moved hW.alike hK⟩⟩ rfl rfl hl.1 rfl (lv_room (Nat.le_of_ble_eq_true rfl)) dX0_set_3 ⟨Nat.zero_le _, Nat.zero_le _⟩) (fun _ => ?_)
    refine lv_iload_n hx hb dX0_set_6 rfl (lv_at hl 3 rfl) ?_
    refine lv_iconst (v := 0) hx hb dX0_set_7 (by decide) ?_
    refine lv_sipush (v := 255) hx hb dX0_set_8 (by decide) ?_
    refine vx_callv (vx_runS (As := [.int v, .int 0, .int 255]) (rest := []) ⟨hx, hb, hml, hown, hts⟩ (c_X0_requireWithin_x l hl9 s.heap.size sa v 0 255 (hb0.resolve_left a1)) (va_cwS 3 hts gX0_set_X0_requireWithin rfl rfl rfl (by decide +kernel) ⟨Nat.le_of_ble_eq_true rfl, Nat.le_of_ble_eq_true rfl⟩) ⟨fun a U g mk q => by obtain ⟨q0, q1, qX⟩ := q; exact ⟨q0, q1, rw_XA.call qX⟩, fun U hU hW => ⟨rfl, by rw [hU], rw_XA.go hX hU hW⟩⟩ rfl rfl hl.1 rfl (lv_room (Nat.le_of_ble_eq_true rfl)) dX0_set_11 ⟨Nat.le_refl _, Nat.le_refl _⟩) hS (fun q _ h => h) (fun q h => h) (fun q _ h => h) (fun E ce q9 u t9 H1 locs ht hvm hpx hE hz1 hk1 hS hc1 hc2 hc3 => ?_) (fun u t9 H1 locs ht hvm hw hB hz1 hk1 hS => hw.elim)
    exact vx_out (fun x h => (hno x h).elim) hlocks hc1 hc2 hc3 (fun t ht2 ha => ⟨(), trivial, hE, hS.F ht2⟩) hS.2.2 (Nat.le_refl _) (Nat.le_refl _)
set_option maxHeartbeats 4000000 in
set_option maxRecDepth 100000 in
theorem c_X0_filter_x (l : Launch) (hl9 : l.stackTraces = false) (sz sa : Nat) (dC : Nat → ClassId) (dI : Nat → Nat → Nat) (cI : ClassId) (h0 ab rc rl ps : Nat) (f : Nat → Int32) (y q : Int32) (hb0 : (y < 0 ∨ nI rc - 1 < y) ∨ (q < 0 ∨ 4 < q)) : vx_Met l yX0_filter wsX0_filter ({ frames := 8, cells := 1, slots := 6, locals := 125 }) (va_Pc [.ref h0, .int y, .int q] (fun U => U.heap.size = sz ∧ rw_XA (fun q => sz ≤ q) sa U U.heap ∧ rw_pre dC dI cI h0 ab rc rl ps f U)) (va_Qv (fun _ : Unit => False) (fun _ _ => False) (fun q => sz ≤ q)) (rw_XC sz) 1 6 (fun q => sz ≤ q) := by
  refine vx_ofW (cc := cX0_filter) (maxL := 3) (ret := none) (by decide) rfl ?_
  intro p e s m args below meth c s₁ B hml hno hv
  obtain ⟨rfl, hsz, hX, hP, hK⟩ := hv
  have hx := B.exec
  have hb := B.bytes
  have hr := B.returns
  have hts := atoms_spec (ws := wsX0_filter) B.pre
  have hown : s.vm.findClass RX0 = some m.cls := findClass_of_methodNamed B.named
  have hlocks := B.notSynchronized
  subst hsz
  have hS : va_S (fun q => s.heap.size ≤ q) s.heap s.heap [] := va_S.rf
  have hP : va_P (dC, dI) rw_cl (rw_W h0 ab cI rc rl ps f) s.heap := hP
  have hl := lv_entry ([.ref h0, .int y, .int q]) (n := 3) (Nat.le_of_ble_eq_true rfl)
  rw [lg_entry_eq]
  generalize (lg_sl ([.ref h0, .int y, .int q]) ++ List.replicate (3 - (lg_sl ([.ref h0, .int y, .int q])).length) Slot.unset).toArray = ls at hl ⊢
  have hl : lv_has ls 3 [(0, .ref h0), (1, .int y), (2, .int q)] := hl
  refine lv_aload_n hx hb dX0_filter_0 rfl (lv_at hl 0 rfl) ?_
  refine lv_iload_n hx hb dX0_filter_1 rfl (lv_at hl 1 rfl) ?_
  by_cases a1 : y < 0 ∨ nI rc - 1 < y
  · refine vx_callv (vx_runV (C := RX0) (As := [.int y]) (rest := []) ⟨hx, hb, hml, hown, hts⟩ (c_X0_requireRow_x l hl9 s.heap.size sa dC dI cI h0 ab rc rl ps f y a1) (cwV 1 hts gX0_filter_X0_requireRow rfl rfl rfl (by decide +kernel) ⟨Nat.le_of_ble_eq_true rfl, Nat.le_of_ble_eq_true rfl⟩) ⟨fun a U g mk q => by obtain ⟨q0, q1, qX, qP, qK⟩ := q; exact ⟨q0, q1, rw_XA.call qX, qP, va_K.moved (u := U) (U := U.calling g mk a) (Vm.Alike.refl U.vm) qK⟩, va_recv hK hP (ci := 0) (q0 := 0) rfl rfl, fun U hU hW => ⟨rfl, by rw [hU], rw_XA.go hX hU hW, by rw [hU]; exact hP, va_K.moved hW.alike hK⟩⟩ rfl rfl hl.1 rfl (lv_room (Nat.le_of_ble_eq_true rfl)) dX0_filter_2 ⟨Nat.le_refl _, Nat.le_refl _⟩) hS (fun q _ h => h) (fun q h => h) (fun q _ h => h) (fun E ce q9 u t9 H1 locs ht hvm hpx hE hz1 hk1 hS hc1 hc2 hc3 => ?_) (fun u t9 H1 locs ht hvm hw hB hz1 hk1 hS => hw.elim)
    exact vx_out (fun x h => (hno x h).elim) hlocks hc1 hc2 hc3 (fun t ht2 ha => ⟨(), trivial, hE, hS.F ht2⟩) hS.2.2 (Nat.le_refl _) (Nat.le_refl _)
  · have b1 := not_or.mp a1
    refine va_csv (W.runV (C := RX0) (As := [.int y]) (rest := []) ⟨hx, hb, hml, hown, hts⟩ (c_X0_requireRow l dC dI cI h0 ab rc rl ps f y b1.1 b1.2) (cwV 1 hts gX0_filter_X0_requireRow rfl rfl rfl (by decide +kernel) ⟨Nat.le_of_ble_eq_true rfl, Nat.le_of_ble_eq_true rfl⟩) ⟨fun a U g mk q => by obtain ⟨q0, qP, qK⟩ := q; exact ⟨q0, qP, va_K.moved (u := U) (U := U.calling g mk a) (Vm.Alike.refl U.vm) qK⟩, va_recv hK hP (ci := 0) (q0 := 0) rfl rfl, fun U hU hW => ⟨rfl, by rw [hU]; exact hP, va_K.moved hW.alike hK⟩⟩ rfl rfl hl.1 rfl (lv_room (Nat.le_of_ble_eq_true rfl)) dX0_filter_2 ⟨Nat.zero_le _, Nat.zero_le _⟩) (fun _ => ?_)
    refine lv_iload_n hx hb dX0_filter_5 rfl (lv_at hl 2 rfl) ?_
    refine vx_callv (vx_runS (As := [.int q]) (rest := []) ⟨hx, hb, hml, hown, hts⟩ (c_X0_requireFilter_x l hl9 s.heap.size sa q (hb0.resolve_left a1)) (va_cwS 1 hts gX0_filter_X0_requireFilter rfl rfl rfl (by decide +kernel) ⟨Nat.le_of_ble_eq_true rfl, Nat.le_of_ble_eq_true rfl⟩) ⟨fun a U g mk q => by obtain ⟨q0, q1, qX⟩ := q; exact ⟨q0, q1, rw_XA.call qX⟩, fun U hU hW => ⟨rfl, by rw [hU], rw_XA.go hX hU hW⟩⟩ rfl rfl hl.1 rfl (lv_room (Nat.le_of_ble_eq_true rfl)) dX0_filter_6 ⟨Nat.le_refl _, Nat.le_refl _⟩) hS (fun q _ h => h) (fun q h => h) (fun q _ h => h) (fun E ce q9 u t9 H1 locs ht hvm hpx hE hz1 hk1 hS hc1 hc2 hc3 => ?_) (fun u t9 H1 locs ht hvm hw hB hz1 hk1 hS => hw.elim)
    exact vx_out (fun x h => (hno x h).elim) hlocks hc1 hc2 hc3 (fun t ht2 ha => ⟨(), trivial, hE, hS.F ht2⟩) hS.2.2 (Nat.le_refl _) (Nat.le_refl _)
set_option maxHeartbeats 4000000 in
set_option maxRecDepth 100000 in
theorem c_X0_plain_x (l : Launch) (hl9 : l.stackTraces = false) (sz sa : Nat) (dC : Nat → ClassId) (dI : Nat → Nat → Nat) (cI : ClassId) (h0 ab rc rl ps : Nat) (f : Nat → Int32) (y q : Int32) (hb0 : (y < 0 ∨ nI rc - 1 < y) ∨ (q < 0 ∨ 4 < q)) : vx_Met l yX0_plain wsX0_plain ({ frames := 8, cells := 1, slots := 6, locals := 125 }) (va_Pc [.ref h0, .int y, .int q] (fun U => U.heap.size = sz ∧ rw_XA (fun q => sz ≤ q) sa U U.heap ∧ rw_pre dC dI cI h0 ab rc rl ps f U)) (va_Qv (fun _ : Unit => False) (fun _ _ => False) (fun q => sz ≤ q)) (rw_XC sz) 1 6 (fun q => sz ≤ q) := by
  refine vx_ofW (cc := cX0_plain) (maxL := 3) (ret := none) (by decide) rfl ?_
  intro p e s m args below meth c s₁ B hml hno hv
  obtain ⟨rfl, hsz, hX, hP, hK⟩ := hv
  have hx := B.exec
  have hb := B.bytes
  have hr := B.returns
  have hts := atoms_spec (ws := wsX0_plain) B.pre
  have hown : s.vm.findClass RX0 = some m.cls := findClass_of_methodNamed B.named
  have hlocks := B.notSynchronized
  subst hsz
  have hS : va_S (fun q => s.heap.size ≤ q) s.heap s.heap [] := va_S.rf
  have hP : va_P (dC, dI) rw_cl (rw_W h0 ab cI rc rl ps f) s.heap := hP
  have hl := lv_entry ([.ref h0, .int y, .int q]) (n := 3) (Nat.le_of_ble_eq_true rfl)
  rw [lg_entry_eq]
  generalize (lg_sl ([.ref h0, .int y, .int q]) ++ List.replicate (3 - (lg_sl ([.ref h0, .int y, .int q])).length) Slot.unset).toArray = ls at hl ⊢
  have hl : lv_has ls 3 [(0, .ref h0), (1, .int y), (2, .int q)] := hl
  refine lv_aload_n hx hb dX0_plain_0 rfl (lv_at hl 0 rfl) ?_
  refine lv_iload_n hx hb dX0_plain_1 rfl (lv_at hl 1 rfl) ?_
  by_cases a1 : y < 0 ∨ nI rc - 1 < y
  · refine vx_callv (vx_runV (C := RX0) (As := [.int y]) (rest := []) ⟨hx, hb, hml, hown, hts⟩ (c_X0_requireRow_x l hl9 s.heap.size sa dC dI cI h0 ab rc rl ps f y a1) (cwV 1 hts gX0_plain_X0_requireRow rfl rfl rfl (by decide +kernel) ⟨Nat.le_of_ble_eq_true rfl, Nat.le_of_ble_eq_true rfl⟩) ⟨fun a U g mk q => by obtain ⟨q0, q1, qX, qP, qK⟩ := q; exact ⟨q0, q1, rw_XA.call qX, qP, va_K.moved (u := U) (U := U.calling g mk a) (Vm.Alike.refl U.vm) qK⟩, va_recv hK hP (ci := 0) (q0 := 0) rfl rfl, fun U hU hW => ⟨rfl, by rw [hU], rw_XA.go hX hU hW, by rw [hU]; exact hP, va_K.moved hW.alike hK⟩⟩ rfl rfl hl.1 rfl (lv_room (Nat.le_of_ble_eq_true rfl)) dX0_plain_2 ⟨Nat.le_refl _, Nat.le_refl _⟩) hS (fun q _ h => h) (fun q h => h) (fun q _ h => h) (fun E ce q9 u t9 H1 locs ht hvm hpx hE hz1 hk1 hS hc1 hc2 hc3 => ?_) (fun u t9 H1 locs ht hvm hw hB hz1 hk1 hS => hw.elim)
    exact vx_out (fun x h => (hno x h).elim) hlocks hc1 hc2 hc3 (fun t ht2 ha => ⟨(), trivial, hE, hS.F ht2⟩) hS.2.2 (Nat.le_refl _) (Nat.le_refl _)
  · have b1 := not_or.mp a1
    refine va_csv (W.runV (C := RX0) (As := [.int y]) (rest := []) ⟨hx, hb, hml, hown, hts⟩ (c_X0_requireRow l dC dI cI h0 ab rc rl ps f y b1.1 b1.2) (cwV 1 hts gX0_plain_X0_requireRow rfl rfl rfl (by decide +kernel) ⟨Nat.le_of_ble_eq_true rfl, Nat.le_of_ble_eq_true rfl⟩) ⟨fun a U g mk q => by obtain ⟨q0, qP, qK⟩ := q; exact ⟨q0, qP, va_K.moved (u := U) (U := U.calling g mk a) (Vm.Alike.refl U.vm) qK⟩, va_recv hK hP (ci := 0) (q0 := 0) rfl rfl, fun U hU hW => ⟨rfl, by rw [hU]; exact hP, va_K.moved hW.alike hK⟩⟩ rfl rfl hl.1 rfl (lv_room (Nat.le_of_ble_eq_true rfl)) dX0_plain_2 ⟨Nat.zero_le _, Nat.zero_le _⟩) (fun _ => ?_)
    refine lv_iload_n hx hb dX0_plain_5 rfl (lv_at hl 2 rfl) ?_
    refine vx_callv (vx_runS (As := [.int q]) (rest := []) ⟨hx, hb, hml, hown, hts⟩ (c_X0_requireFilter_x l hl9 s.heap.size sa q (hb0.resolve_left a1)) (va_cwS 1 hts gX0_plain_X0_requireFilter rfl rfl rfl (by decide +kernel) ⟨Nat.le_of_ble_eq_true rfl, Nat.le_of_ble_eq_true rfl⟩) ⟨fun a U g mk q => by obtain ⟨q0, q1, qX⟩ := q; exact ⟨q0, q1, rw_XA.call qX⟩, fun U hU hW => ⟨rfl, by rw [hU], rw_XA.go hX hU hW⟩⟩ rfl rfl hl.1 rfl (lv_room (Nat.le_of_ble_eq_true rfl)) dX0_plain_6 ⟨Nat.le_refl _, Nat.le_refl _⟩) hS (fun q _ h => h) (fun q h => h) (fun q _ h => h) (fun E ce q9 u t9 H1 locs ht hvm hpx hE hz1 hk1 hS hc1 hc2 hc3 => ?_) (fun u t9 H1 locs ht hvm hw hB hz1 hk1 hS => hw.elim)
    exact vx_out (fun x h => (hno x h).elim) hlocks hc1 hc2 hc3 (fun t ht2 ha => ⟨(), trivial, hE, hS.F ht2⟩) hS.2.2 (Nat.le_refl _) (Nat.le_refl _)
set_option maxHeartbeats 4000000 in
set_option maxRecDepth 100000 in
theorem c_X0_undo_x (l : Launch) (hl9 : l.stackTraces = false) (sz sa : Nat) (dC : Nat → ClassId) (dI : Nat → Nat → Nat) (cI : ClassId) (h0 ab rc rl ps : Nat) (f : Nat → Int32) (n : Int32) (hb0 : n < 0 ∨ 390624 < n) : vx_Met l yX0_undo wsX0_undo ({ frames := 7, cells := 1, slots := 6, locals := 104 }) (va_Pc [.ref h0, .int n] (fun U => U.heap.size = sz ∧ rw_XA (fun q => sz ≤ q) sa U U.heap ∧ rw_pre dC dI cI h0 ab rc rl ps f U)) (va_Qv (fun _ : Unit => False) (fun _ _ => False) (fun q => sz ≤ q)) (rw_XC sz) 1 6 (fun q => sz ≤ q) := by
  refine vx_ofW (cc := cX0_undo) (maxL := 5) (ret := none) (by decide) rfl ?_
  intro p e s m args below meth c s₁ B hml hno hv
  obtain ⟨rfl, hsz, hX, hP, hK⟩ := hv
  have hx := B.exec
  have hb := B.bytes
  have hr := B.returns
  have hts := atoms_spec (ws := wsX0_undo) B.pre
  have hown : s.vm.findClass RX0 = some m.cls := findClass_of_methodNamed B.named
  have hlocks := B.notSynchronized
  subst hsz
  have hS : va_S (fun q => s.heap.size ≤ q) s.heap s.heap [] := va_S.rf
  have hP : va_P (dC, dI) rw_cl (rw_W h0 ab cI rc rl ps f) s.heap := hP
  have hl := lv_entry ([.ref h0, .int n]) (n := 5) (Nat.le_of_ble_eq_true rfl)
  rw [lg_entry_eq]
  generalize (lg_sl ([.ref h0, .int n]) ++ List.replicate (5 - (lg_sl ([.ref h0, .int n])).length) Slot.unset).toArray = ls at hl ⊢
  have hl : lv_has ls 5 [(0, .ref h0), (1, .int n)] := hl
  refine lv_iload_n hx hb dX0_undo_0 rfl (lv_at hl 1 rfl) ?_
  refine lv_iconst (v := 0) hx hb dX0_undo_1 (by decide) ?_
  refine lv_ldc hx hb hown (hts (.constant RX0 54 (390624)) (by decide +kernel)) dX0_undo_2 ?_
  refine vx_callv (vx_runS (As := [.int n, .int 0, .int 390624]) (rest := []) ⟨hx, hb, hml, hown, hts⟩ (c_X0_requireWithin_x l hl9 s.heap.size sa n 0 390624 hb0) (va_cwS 3 hts gX0_undo_X0_requireWithin rfl rfl rfl (by decide +kernel) ⟨Nat.le_of_ble_eq_true rfl, Nat.le_of_ble_eq_true rfl⟩) ⟨fun a U g mk q => by obtain ⟨q0, q1, qX⟩ := q; exact ⟨q0, q1, rw_XA.call qX⟩, fun U hU hW => ⟨rfl, by rw [hU], rw_XA.go hX hU hW⟩⟩ rfl rfl hl.1 rfl (lv_room (Nat.le_of_ble_eq_true rfl)) dX0_undo_4 ⟨Nat.le_refl _, Nat.le_refl _⟩) hS (fun q _ h => h) (fun q h => h) (fun q _ h => h) (fun E ce q9 u t9 H1 locs ht hvm hpx hE hz1 hk1 hS hc1 hc2 hc3 => ?_) (fun u t9 H1 locs ht hvm hw hB hz1 hk1 hS => hw.elim)
  exact vx_out (fun x h => (hno x h).elim) hlocks hc1 hc2 hc3 (fun t ht2 ha => ⟨(), trivial, hE, hS.F ht2⟩) hS.2.2 (Nat.le_refl _) (Nat.le_refl _)
set_option maxHeartbeats 4000000 in
set_option maxRecDepth 100000 in
theorem c_X0_open_x (l : Launch) (hl9 : l.stackTraces = false) (sz sa : Nat) (dC : Nat → ClassId) (dI : Nat → Nat → Nat) (cI : ClassId) (h0 ab rc rl ps : Nat) (f : Nat → Int32) (h n z : Int32) (hb0 : ¬ rf_op h n z) : vx_Met l yX0_open wsX0_open ({ frames := 7, cells := 1, slots := 6, locals := 104 }) (va_Pc [.ref h0, .int h, .int n, .int z] (fun U => U.heap.size = sz ∧ rw_XA (fun q => sz ≤ q) sa U U.heap ∧ rw_pre dC dI cI h0 ab rc rl ps f U)) (va_Qv (fun _ : Unit => False) (fun _ _ => False) (fun q => sz ≤ q)) (rw_XC sz) 1 6 (fun q => sz ≤ q) := by
  refine vx_ofW (cc := cX0_open) (maxL := 4) (ret := none) (by decide) rfl ?_
  intro p e s m args below meth c s₁ B hml hno hv
  obtain ⟨rfl, hsz, hX, hP, hK⟩ := hv
  have hx := B.exec
  have hb := B.bytes
  have hr := B.returns
  have hts := atoms_spec (ws := wsX0_open) B.pre
  have hown : s.vm.findClass RX0 = some m.cls := findClass_of_methodNamed B.named
  have hlocks := B.notSynchronized
  subst hsz
  have hS : va_S (fun q => s.heap.size ≤ q) s.heap s.heap [] := va_S.rf
  have hP : va_P (dC, dI) rw_cl (rw_W h0 ab cI rc rl ps f) s.heap := hP
  have hl := lv_entry ([.ref h0, .int h, .int n, .int z]) (n := 4) (Nat.le_of_ble_eq_true rfl)
  rw [lg_entry_eq]
  generalize (lg_sl ([.ref h0, .int h, .int n, .int z]) ++ List.replicate (4 - (lg_sl ([.ref h0, .int h, .int n, .int z])).length) Slot.unset).toArray = ls at hl ⊢
  have hl : lv_has ls 4 [(0, .ref h0), (1, .int h), (2, .int n), (3, .int z)] := hl
  refine lv_iload_n hx hb dX0_open_0 rfl (lv_at hl 1 rfl) ?_
  refine lv_iconst (v := 1) hx hb dX0_open_1 (by decide) ?_
  refine lv_sipush (v := 4096) hx hb dX0_open_2 (by decide) ?_
  by_cases a1 : h < 1 ∨ 4096 < h
  · refine vx_callv (vx_runS (As := [.int h, .int 1, .int 4096]) (rest := []) ⟨hx, hb, hml, hown, hts⟩ (c_X0_requireWithin_x l hl9 s.heap.size sa h 1 4096 a1) (va_cwS 3 hts gX0_open_X0_requireWithin rfl rfl rfl (by decide +kernel) ⟨Nat.le_of_ble_eq_true rfl, Nat.le_of_ble_eq_true rfl⟩) ⟨fun a U g mk q => by obtain ⟨q0, q1, qX⟩ := q; exact ⟨q0, q1, rw_XA.call qX⟩, fun U hU hW => ⟨rfl, by rw [hU], rw_XA.go hX hU hW⟩⟩ rfl rfl hl.1 rfl (lv_room (Nat.le_of_ble_eq_true rfl)) dX0_open_5 ⟨Nat.le_refl _, Nat.le_refl _⟩) hS (fun q _ h => h) (fun q h => h) (fun q _ h => h) (fun E ce q9 u t9 H1 locs ht hvm hpx hE hz1 hk1 hS hc1 hc2 hc3 => ?_) (fun u t9 H1 locs ht hvm hw hB hz1 hk1 hS => hw.elim)
    exact vx_out (fun x h => (hno x h).elim) hlocks hc1 hc2 hc3 (fun t ht2 ha => ⟨(), trivial, hE, hS.F ht2⟩) hS.2.2 (Nat.le_refl _) (Nat.le_refl _)
  · have b1 := not_or.mp a1
    refine va_csv (W.runS (As := [.int h, .int 1, .int 4096]) (rest := []) ⟨hx, hb, hml, hown, hts⟩ (c_X0_requireWithin l h 1 4096 b1.1 b1.2) (va_cwS 3 hts gX0_open_X0_requireWithin rfl rfl rfl (by decide +kernel) ⟨Nat.le_of_ble_eq_true rfl, Nat.le_of_ble_eq_true rfl⟩) ⟨fun _ _ _ _ q => q, fun U hU hW => ⟨rfl, trivial⟩⟩ rfl rfl hl.1 rfl (lv_room (Nat.le_of_ble_eq_true rfl)) dX0_open_5 ⟨Nat.zero_le _, Nat.zero_le _⟩) (fun _ => ?_)
    refine lv_iload_n hx hb dX0_open_8 rfl (lv_at hl 2 rfl) ?_
    refine lv_iconst (v := 1) hx hb dX0_open_9 (by decide) ?_
    refine lv_sipush (v := 4096) hx hb dX0_open_10 (by decide) ?_
    by_cases a2 : n < 1 ∨ 4096 < n
    · refine vx_callv (vx_runS (As := [.int n, .int 1, .int 4096]) (rest := []) ⟨hx, hb, hml, hown, hts⟩ (c_X0_requireWithin_x l hl9 s.heap.size sa n 1 4096 a2) (va_cwS 3 hts gX0_open_X0_requireWithin rfl rfl rfl (by decide +kernel) ⟨Nat.le_of_ble_eq_true rfl, Nat.le_of_ble_eq_true rfl⟩) ⟨fun a U g mk q => by obtain ⟨q0, q1, qX⟩ := q; exact ⟨q0, q1, rw_XA.call qX⟩, fun U hU hW => ⟨rfl, by rw [hU], rw_XA.go hX hU hW⟩⟩ rfl rfl hl.1 rfl (lv_room (Nat.le_of_ble_eq_true rfl)) dX0_open_13 ⟨Nat.le_refl _, Nat.le_refl _⟩) hS (fun q _ h => h) (fun q h => h) (fun q _ h => h) (fun E ce q9 u t9 H1 locs ht hvm hpx hE hz1 hk1 hS hc1 hc2 hc3 => ?_) (fun u t9 H1 locs ht hvm hw hB hz1 hk1 hS => hw.elim)
      exact vx_out (fun x h => (hno x h).elim) hlocks hc1 hc2 hc3 (fun t ht2 ha => ⟨(), trivial, hE, hS.F ht2⟩) hS.2.2 (Nat.le_refl _) (Nat.le_refl _)
    · have b2 := not_or.mp a2
      refine va_csv (W.runS (As := [.int n, .int 1, .int 4096]) (rest := []) ⟨hx, hb, hml, hown, hts⟩ (c_X0_requireWithin l n 1 4096 b2.1 b2.2) (va_cwS 3 hts gX0_open_X0_requireWithin rfl rfl rfl (by decide +kernel) ⟨Nat.le_of_ble_eq_true rfl, Nat.le_of_ble_eq_true rfl⟩) ⟨fun _ _ _ _ q => q, fun U hU hW => ⟨rfl, trivial⟩⟩ rfl rfl hl.1 rfl (lv_room (Nat.le_of_ble_eq_true rfl)) dX0_open_13 ⟨Nat.zero_le _, Nat.zero_le _⟩) (fun _ => ?_)
      refine lv_iload_n hx hb dX0_open_16 rfl (lv_at hl 1 rfl) ?_
      refine lv_iload_n hx hb dX0_open_17 rfl (lv_at hl 2 rfl) ?_
      refine lv_imul hx hb dX0_open_18 ?_
      refine lv_iconst (v := 1) hx hb dX0_open_19 (by decide) ?_
      refine lv_sipush (v := 4096) hx hb dX0_open_20 (by decide) ?_
      by_cases a3 : (h * n) < 1 ∨ 4096 < (h * n)
      · refine vx_callv (vx_runS (As := [.int (h * n), .int 1, .int 4096]) (rest := []) ⟨hx, hb, hml, hown, hts⟩ (c_X0_requireWithin_x l hl9 s.heap.size sa (h * n) 1 4096 a3) (va_cwS 3 hts gX0_open_X0_requireWithin rfl rfl rfl (by decide +kernel) ⟨Nat.le_of_ble_eq_true rfl, Nat.le_of_ble_eq_true rfl⟩) ⟨fun a U g mk q => by obtain ⟨q0, q1, qX⟩ := q; exact ⟨q0, q1, rw_XA.call qX⟩, fun U hU hW => ⟨rfl, by rw [hU], rw_XA.go hX hU hW⟩⟩ rfl rfl hl.1 rfl (lv_room (Nat.le_of_ble_eq_true rfl)) dX0_open_23 ⟨Nat.le_refl _, Nat.le_refl _⟩) hS (fun q _ h => h) (fun q h => h) (fun q _ h => h) (fun E ce q9 u t9 H1 locs ht hvm hpx hE hz1 hk1 hS hc1 hc2 hc3 => ?_) (fun u t9 H1 locs ht hvm hw hB hz1 hk1 hS => hw.elim)
        exact vx_out (fun x h => (hno x h).elim) hlocks hc1 hc2 hc3 (fun t ht2 ha => ⟨(), trivial, hE, hS.F ht2⟩) hS.2.2 (Nat.le_refl _) (Nat.le_refl _)
      · have b3 := not_or.mp a3
        refine va_csv (W.runS (As := [.int (h * n), .int 1, .int 4096]) (rest := []) ⟨hx, hb, hml, hown, hts⟩ (c_X0_requireWithin l (h * n) 1 4096 b3.1 b3.2) (va_cwS 3 hts gX0_open_X0_requireWithin rfl rfl rfl (by decide +kernel) ⟨Nat.le_of_ble_eq_true rfl, Nat.le_of_ble_eq_true rfl⟩) ⟨fun _ _ _ _ q => q, fun U hU hW => ⟨rfl, trivial⟩⟩ rfl rfl hl.1 rfl (lv_room (Nat.le_of_ble_eq_true rfl)) dX0_open_23 ⟨Nat.zero_le _, Nat.zero_le _⟩) (fun _ => ?_)
        refine lv_iload_n hx hb dX0_open_26 rfl (lv_at hl 3 rfl) ?_
        refine lv_iconst (v := 1) hx hb dX0_open_27 (by decide) ?_
        refine lv_bipush (v := 8) hx hb dX0_open_28 (by decide) ?_
        by_cases a4 : z < 1 ∨ 8 < z
        · refine vx_callv (vx_runS (As := [.int z, .int 1, .int 8]) (rest := []) ⟨hx, hb, hml, hown, hts⟩ (c_X0_requireWithin_x l hl9 s.heap.size sa z 1 8 a4) (va_cwS 3 hts gX0_open_X0_requireWithin rfl rfl rfl (by decide +kernel) ⟨Nat.le_of_ble_eq_true rfl, Nat.le_of_ble_eq_true rfl⟩) ⟨fun a U g mk q => by obtain ⟨q0, q1, qX⟩ := q; exact ⟨q0, q1, rw_XA.call qX⟩, fun U hU hW => ⟨rfl, by rw [hU], rw_XA.go hX hU hW⟩⟩ rfl rfl hl.1 rfl (lv_room (Nat.le_of_ble_eq_true rfl)) dX0_open_30 ⟨Nat.le_refl _, Nat.le_refl _⟩) hS (fun q _ h => h) (fun q h => h) (fun q _ h => h) (fun E ce q9 u t9 H1 locs ht hvm hpx hE hz1 hk1 hS hc1 hc2 hc3 => ?_) (fun u t9 H1 locs ht hvm hw hB hz1 hk1 hS => hw.elim)
          exact vx_out (fun x h => (hno x h).elim) hlocks hc1 hc2 hc3 (fun t ht2 ha => ⟨(), trivial, hE, hS.F ht2⟩) hS.2.2 (Nat.le_refl _) (Nat.le_refl _)
        · have b4 := not_or.mp a4
          refine va_csv (W.runS (As := [.int z, .int 1, .int 8]) (rest := []) ⟨hx, hb, hml, hown, hts⟩ (c_X0_requireWithin l z 1 8 b4.1 b4.2) (va_cwS 3 hts gX0_open_X0_requireWithin rfl rfl rfl (by decide +kernel) ⟨Nat.le_of_ble_eq_true rfl, Nat.le_of_ble_eq_true rfl⟩) ⟨fun _ _ _ _ q => q, fun U hU hW => ⟨rfl, trivial⟩⟩ rfl rfl hl.1 rfl (lv_room (Nat.le_of_ble_eq_true rfl)) dX0_open_30 ⟨Nat.zero_le _, Nat.zero_le _⟩) (fun _ => ?_)
          exact absurd ⟨b1.1, b2.1, b1.2, b2.2, b3.2, b4.1, b4.2⟩ hb0
set_option maxHeartbeats 4000000 in
set_option maxRecDepth 100000 in
theorem c_X0_pass_x (l : Launch) (hl9 : l.stackTraces = false) (sz sa : Nat) (dC : Nat → ClassId) (dI : Nat → Nat → Nat) (cI : ClassId) (h0 ab rc rl ps : Nat) (f : Nat → Int32) (k w h b : Int32) (hb0 : rf_pw k w h) : vx_Met l yX0_pass wsX0_pass ({ frames := 7, cells := 1, slots := 6, locals := 104 }) (va_Pc [.ref h0, .int k, .int w, .int h, .int b] (fun U => U.heap.size = sz ∧ rw_XA (fun q => sz ≤ q) sa U U.heap ∧ rw_pre dC dI cI h0 ab rc rl ps f U)) (va_Qi (fun (_ : Int32) (_ : Unit) => False) (fun _ _ => False) (fun q => sz ≤ q)) (rw_XC sz) 1 6 (fun q => sz ≤ q) := by
  refine vx_ofW (cc := cX0_pass) (maxL := 7) (ret := (some .int)) (by decide) rfl ?_
  intro p e s m args below meth c s₁ B hml hno hv
  obtain ⟨rfl, hsz, hX, hP, hK⟩ := hv
  have hx := B.exec
  have hb := B.bytes
  have hr := B.returns
  have hts := atoms_spec (ws := wsX0_pass) B.pre
  have hown : s.vm.findClass RX0 = some m.cls := findClass_of_methodNamed B.named
  have hlocks := B.notSynchronized
  subst hsz
  have hS : va_S (fun q => s.heap.size ≤ q) s.heap s.heap [] := va_S.rf
  have hP : va_P (dC, dI) rw_cl (rw_W h0 ab cI rc rl ps f) s.heap := hP
  have hl := lv_entry ([.ref h0, .int k, .int w, .int h, .int b]) (n := 7) (Nat.le_of_ble_eq_true rfl)
  rw [lg_entry_eq]
  generalize (lg_sl ([.ref h0, .int k, .int w, .int h, .int b]) ++ List.replicate (7 - (lg_sl ([.ref h0, .int k, .int w, .int h, .int b])).length) Slot.unset).toArray = ls at hl ⊢
  have hl : lv_has ls 7 [(0, .ref h0), (1, .int k), (2, .int w), (3, .int h), (4, .int b)] := hl
  refine lv_iload_n hx hb dX0_pass_0 rfl (lv_at hl 1 rfl) ?_
  refine lv_iconst (v := 0) hx hb dX0_pass_1 (by decide) ?_
  refine lv_bipush (v := 6) hx hb dX0_pass_2 (by decide) ?_
  by_cases a1 : k < 0 ∨ 6 < k
  · refine vx_callv (vx_runS (As := [.int k, .int 0, .int 6]) (rest := []) ⟨hx, hb, hml, hown, hts⟩ (c_X0_requireWithin_x l hl9 s.heap.size sa k 0 6 a1) (va_cwS 3 hts gX0_pass_X0_requireWithin rfl rfl rfl (by decide +kernel) ⟨Nat.le_of_ble_eq_true rfl, Nat.le_of_ble_eq_true rfl⟩) ⟨fun a U g mk q => by obtain ⟨q0, q1, qX⟩ := q; exact ⟨q0, q1, rw_XA.call qX⟩, fun U hU hW => ⟨rfl, by rw [hU], rw_XA.go hX hU hW⟩⟩ rfl rfl hl.1 rfl (lv_room (Nat.le_of_ble_eq_true rfl)) dX0_pass_4 ⟨Nat.le_refl _, Nat.le_refl _⟩) hS (fun q _ h => h) (fun q h => h) (fun q _ h => h) (fun E ce q9 u t9 H1 locs ht hvm hpx hE hz1 hk1 hS hc1 hc2 hc3 => ?_) (fun u t9 H1 locs ht hvm hw hB hz1 hk1 hS => hw.elim)
    exact vx_out (fun x h => (hno x h).elim) hlocks hc1 hc2 hc3 (fun t ht2 ha => ⟨(), trivial, hE, hS.F ht2⟩) hS.2.2 (Nat.le_refl _) (Nat.le_refl _)
  · have b1 := not_or.mp a1
    refine va_csv (W.runS (As := [.int k, .int 0, .int 6]) (rest := []) ⟨hx, hb, hml, hown, hts⟩ (c_X0_requireWithin l k 0 6 b1.1 b1.2) (va_cwS 3 hts gX0_pass_X0_requireWithin rfl rfl rfl (by decide +kernel) ⟨Nat.le_of_ble_eq_true rfl, Nat.le_of_ble_eq_true rfl⟩) ⟨fun _ _ _ _ q => q, fun U hU hW => ⟨rfl, trivial⟩⟩ rfl rfl hl.1 rfl (lv_room (Nat.le_of_ble_eq_true rfl)) dX0_pass_4 ⟨Nat.zero_le _, Nat.zero_le _⟩) (fun _ => ?_)
    refine lv_iload_n hx hb dX0_pass_7 rfl (lv_at hl 2 rfl) ?_
    refine lv_iconst (v := 1) hx hb dX0_pass_8 (by decide) ?_
    refine lv_ldc hx hb hown (hts (.constant RX0 61 (100000)) (by decide +kernel)) dX0_pass_9 ?_
    by_cases a2 : w < 1 ∨ 100000 < w
    · refine vx_callv (vx_runS (As := [.int w, .int 1, .int 100000]) (rest := []) ⟨hx, hb, hml, hown, hts⟩ (c_X0_requireWithin_x l hl9 s.heap.size sa w 1 100000 a2) (va_cwS 3 hts gX0_pass_X0_requireWithin rfl rfl rfl (by decide +kernel) ⟨Nat.le_of_ble_eq_true rfl, Nat.le_of_ble_eq_true rfl⟩) ⟨fun a U g mk q => by obtain ⟨q0, q1, qX⟩ := q; exact ⟨q0, q1, rw_XA.call qX⟩, fun U hU hW => ⟨rfl, by rw [hU], rw_XA.go hX hU hW⟩⟩ rfl rfl hl.1 rfl (lv_room (Nat.le_of_ble_eq_true rfl)) dX0_pass_11 ⟨Nat.le_refl _, Nat.le_refl _⟩) hS (fun q _ h => h) (fun q h => h) (fun q _ h => h) (fun E ce q9 u t9 H1 locs ht hvm hpx hE hz1 hk1 hS hc1 hc2 hc3 => ?_) (fun u t9 H1 locs ht hvm hw hB hz1 hk1 hS => hw.elim)
      exact vx_out (fun x h => (hno x h).elim) hlocks hc1 hc2 hc3 (fun t ht2 ha => ⟨(), trivial, hE, hS.F ht2⟩) hS.2.2 (Nat.le_refl _) (Nat.le_refl _)
    · have b2 := not_or.mp a2
      refine va_csv (W.runS (As := [.int w, .int 1, .int 100000]) (rest := []) ⟨hx, hb, hml, hown, hts⟩ (c_X0_requireWithin l w 1 100000 b2.1 b2.2) (va_cwS 3 hts gX0_pass_X0_requireWithin rfl rfl rfl (by decide +kernel) ⟨Nat.le_of_ble_eq_true rfl, Nat.le_of_ble_eq_true rfl⟩) ⟨fun _ _ _ _ q => q, fun U hU hW => ⟨rfl, trivial⟩⟩ rfl rfl hl.1 rfl (lv_room (Nat.le_of_ble_eq_true rfl)) dX0_pass_11 ⟨Nat.zero_le _, Nat.zero_le _⟩) (fun _ => ?_)
      refine lv_iload_n hx hb dX0_pass_14 rfl (lv_at hl 3 rfl) ?_
      refine lv_iconst (v := 1) hx hb dX0_pass_15 (by decide) ?_
      refine lv_ldc hx hb hown (hts (.constant RX0 61 (100000)) (by decide +kernel)) dX0_pass_16 ?_
      by_cases a3 : h < 1 ∨ 100000 < h
      · refine vx_callv (vx_runS (As := [.int h, .int 1, .int 100000]) (rest := []) ⟨hx, hb, hml, hown, hts⟩ (c_X0_requireWithin_x l hl9 s.heap.size sa h 1 100000 a3) (va_cwS 3 hts gX0_pass_X0_requireWithin rfl rfl rfl (by decide +kernel) ⟨Nat.le_of_ble_eq_true rfl, Nat.le_of_ble_eq_true rfl⟩) ⟨fun a U g mk q => by obtain ⟨q0, q1, qX⟩ := q; exact ⟨q0, q1, rw_XA.call qX⟩, fun U hU hW => ⟨rfl, by rw [hU], rw_XA.go hX hU hW⟩⟩ rfl rfl hl.1 rfl (lv_room (Nat.le_of_ble_eq_true rfl)) dX0_pass_18 ⟨Nat.le_refl _, Nat.le_refl _⟩) hS (fun q _ h => h) (fun q h => h) (fun q _ h => h) (fun E ce q9 u t9 H1 locs ht hvm hpx hE hz1 hk1 hS hc1 hc2 hc3 => ?_) (fun u t9 H1 locs ht hvm hw hB hz1 hk1 hS => hw.elim)
        exact vx_out (fun x h => (hno x h).elim) hlocks hc1 hc2 hc3 (fun t ht2 ha => ⟨(), trivial, hE, hS.F ht2⟩) hS.2.2 (Nat.le_refl _) (Nat.le_refl _)
      · have b3 := not_or.mp a3
        refine va_csv (W.runS (As := [.int h, .int 1, .int 100000]) (rest := []) ⟨hx, hb, hml, hown, hts⟩ (c_X0_requireWithin l h 1 100000 b3.1 b3.2) (va_cwS 3 hts gX0_pass_X0_requireWithin rfl rfl rfl (by decide +kernel) ⟨Nat.le_of_ble_eq_true rfl, Nat.le_of_ble_eq_true rfl⟩) ⟨fun _ _ _ _ q => q, fun U hU hW => ⟨rfl, trivial⟩⟩ rfl rfl hl.1 rfl (lv_room (Nat.le_of_ble_eq_true rfl)) dX0_pass_18 ⟨Nat.zero_le _, Nat.zero_le _⟩) (fun _ => ?_)
        exact absurd hb0 (by rintro (z | z | z | z | z | z); exact b1.1 z; exact b1.2 z; exact b2.1 z; exact b2.2 z; exact b3.1 z; exact b3.2 z)
set_option maxHeartbeats 4000000 in
set_option maxRecDepth 100000 in
theorem c_X0_passOf_x (l : Launch) (hl9 : l.stackTraces = false) (sz sa : Nat) (dC : Nat → ClassId) (dI : Nat → Nat → Nat) (cI : ClassId) (h0 ab rc rl ps : Nat) (f : Nat → Int32) (x y : Int32) (hb0 : rf_xy x y) : vx_Met l yX0_passOf wsX0_passOf ({ frames := 7, cells := 1, slots := 6, locals := 104 }) (va_Pc [.ref h0, .int x, .int y] (fun U => U.heap.size = sz ∧ rw_XA (fun q => sz ≤ q) sa U U.heap ∧ rw_pre dC dI cI h0 ab rc rl ps f U)) (va_Qi (fun (_ : Int32) (_ : Unit) => False) (fun _ _ => False) (fun q => sz ≤ q)) (rw_XC sz) 1 6 (fun q => sz ≤ q) := by
  refine vx_ofW (cc := cX0_passOf) (maxL := 4) (ret := (some .int)) (by decide) rfl ?_
  intro p e s m args below meth c s₁ B hml hno hv
  obtain ⟨rfl, hsz, hX, hP, hK⟩ := hv
  have hx := B.exec
  have hb := B.bytes
  have hr := B.returns
  have hts := atoms_spec (ws := wsX0_passOf) B.pre
  have hown : s.vm.findClass RX0 = some m.cls := findClass_of_methodNamed B.named
  have hlocks := B.notSynchronized
  subst hsz
  have hS : va_S (fun q => s.heap.size ≤ q) s.heap s.heap [] := va_S.rf
  have hP : va_P (dC, dI) rw_cl (rw_W h0 ab cI rc rl ps f) s.heap := hP
  have hl := lv_entry ([.ref h0, .int x, .int y]) (n := 4) (Nat.le_of_ble_eq_true rfl)
  rw [lg_entry_eq]
  generalize (lg_sl ([.ref h0, .int x, .int y]) ++ List.replicate (4 - (lg_sl ([.ref h0, .int x, .int y])).length) Slot.unset).toArray = ls at hl ⊢
  have hl : lv_has ls 4 [(0, .ref h0), (1, .int x), (2, .int y)] := hl
  refine lv_iload_n hx hb dX0_passOf_0 rfl (lv_at hl 1 rfl) ?_
  refine lv_iconst (v := 0) hx hb dX0_passOf_1 (by decide) ?_
  refine lv_ldc hx hb hown (hts (.constant RX0 78 (99999)) (by decide +kernel)) dX0_passOf_2 ?_
  by_cases a1 : x < 0 ∨ 99999 < x
  · refine vx_callv (vx_runS (As := [.int x, .int 0, .int 99999]) (rest := []) ⟨hx, hb, hml, hown, hts⟩ (c_X0_requireWithin_x l hl9 s.heap.size sa x 0 99999 a1) (va_cwS 3 hts gX0_passOf_X0_requireWithin rfl rfl rfl (by decide +kernel) ⟨Nat.le_of_ble_eq_true rfl, Nat.le_of_ble_eq_true rfl⟩) ⟨fun a U g mk q => by obtain ⟨q0, q1, qX⟩ := q; exact ⟨q0, q1, rw_XA.call qX⟩, fun U hU hW => ⟨rfl, by rw [hU], rw_XA.go hX hU hW⟩⟩ rfl rfl hl.1 rfl (lv_room (Nat.le_of_ble_eq_true rfl)) dX0_passOf_4 ⟨Nat.le_refl _, Nat.le_refl _⟩) hS (fun q _ h => h) (fun q h => h) (fun q _ h => h) (fun E ce q9 u t9 H1 locs ht hvm hpx hE hz1 hk1 hS hc1 hc2 hc3 => ?_) (fun u t9 H1 locs ht hvm hw hB hz1 hk1 hS => hw.elim)
    exact vx_out (fun x h => (hno x h).elim) hlocks hc1 hc2 hc3 (fun t ht2 ha => ⟨(), trivial, hE, hS.F ht2⟩) hS.2.2 (Nat.le_refl _) (Nat.le_refl _)
  · have b1 := not_or.mp a1
    refine va_csv (W.runS (As := [.int x, .int 0, .int 99999]) (rest := []) ⟨hx, hb, hml, hown, hts⟩ (c_X0_requireWithin l x 0 99999 b1.1 b1.2) (va_cwS 3 hts gX0_passOf_X0_requireWithin rfl rfl rfl (by decide +kernel) ⟨Nat.le_of_ble_eq_true rfl, Nat.le_of_ble_eq_true rfl⟩) ⟨fun _ _ _ _ q => q, fun U hU hW => ⟨rfl, trivial⟩⟩ rfl rfl hl.1 rfl (lv_room (Nat.le_of_ble_eq_true rfl)) dX0_passOf_4 ⟨Nat.zero_le _, Nat.zero_le _⟩) (fun _ => ?_)
    refine lv_iload_n hx hb dX0_passOf_7 rfl (lv_at hl 2 rfl) ?_
    refine lv_iconst (v := 0) hx hb dX0_passOf_8 (by decide) ?_
    refine lv_ldc hx hb hown (hts (.constant RX0 78 (99999)) (by decide +kernel)) dX0_passOf_9 ?_
    by_cases a2 : y < 0 ∨ 99999 < y
    · refine vx_callv (vx_runS (As := [.int y, .int 0, .int 99999]) (rest := []) ⟨hx, hb, hml, hown, hts⟩ (c_X0_requireWithin_x l hl9 s.heap.size sa y 0 99999 a2) (va_cwS 3 hts gX0_passOf_X0_requireWithin rfl rfl rfl (by decide +kernel) ⟨Nat.le_of_ble_eq_true rfl, Nat.le_of_ble_eq_true rfl⟩) ⟨fun a U g mk q => by obtain ⟨q0, q1, qX⟩ := q; exact ⟨q0, q1, rw_XA.call qX⟩, fun U hU hW => ⟨rfl, by rw [hU], rw_XA.go hX hU hW⟩⟩ rfl rfl hl.1 rfl (lv_room (Nat.le_of_ble_eq_true rfl)) dX0_passOf_11 ⟨Nat.le_refl _, Nat.le_refl _⟩) hS (fun q _ h => h) (fun q h => h) (fun q _ h => h) (fun E ce q9 u t9 H1 locs ht hvm hpx hE hz1 hk1 hS hc1 hc2 hc3 => ?_) (fun u t9 H1 locs ht hvm hw hB hz1 hk1 hS => hw.elim)
      exact vx_out (fun x h => (hno x h).elim) hlocks hc1 hc2 hc3 (fun t ht2 ha => ⟨(), trivial, hE, hS.F ht2⟩) hS.2.2 (Nat.le_refl _) (Nat.le_refl _)
    · have b2 := not_or.mp a2
      refine va_csv (W.runS (As := [.int y, .int 0, .int 99999]) (rest := []) ⟨hx, hb, hml, hown, hts⟩ (c_X0_requireWithin l y 0 99999 b2.1 b2.2) (va_cwS 3 hts gX0_passOf_X0_requireWithin rfl rfl rfl (by decide +kernel) ⟨Nat.le_of_ble_eq_true rfl, Nat.le_of_ble_eq_true rfl⟩) ⟨fun _ _ _ _ q => q, fun U hU hW => ⟨rfl, trivial⟩⟩ rfl rfl hl.1 rfl (lv_room (Nat.le_of_ble_eq_true rfl)) dX0_passOf_11 ⟨Nat.zero_le _, Nat.zero_le _⟩) (fun _ => ?_)
      exact absurd hb0 (by rintro (z | z | z | z); exact b1.1 z; exact b1.2 z; exact b2.1 z; exact b2.2 z)
