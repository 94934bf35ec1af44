set_option maxHeartbeats 4000000 in
set_option maxRecDepth 100000 in
theorem c_X0_get (l : Launch) (dC : Nat → ClassId) (dI : Nat → Nat → Nat) (cI : ClassId) (h0 ab rc rl ps : Nat) (f : Nat → Int32) (y i : Nat) (ok : rf_ok rc rl ps) (hy : y < rc) (hi : i < rl) : Met l yX0_get wsX0_get ({ frames := 3, cells := 0, slots := 0, locals := 65 }) (va_Pc [.ref h0, .int (nI y), .int (nI i)] (rw_pre dC dI cI h0 ab rc rl ps f)) (vp_Si (fun r => r = f (y * rl + i))) 0 0 (fun _ => False) := by
  refine Met.ofW (cc := cX0_get) (maxL := 3) (ret := (some .int)) (by decide) rfl ?_
  intro p e s m args below meth c s₁ B hml hv
  obtain ⟨rfl, hP, hK⟩ := hv
  have hx := B.exec
  have hb := B.bytes
  have hr := B.returns
  have hts := atoms_spec (ws := wsX0_get) B.pre
  have hown : s.vm.findClass RX0 = some m.cls := findClass_of_methodNamed B.named
  have hlocks := B.notSynchronized
  have hP : va_P (dC, dI) rw_cl (rw_W h0 ab cI rc rl ps f) s.heap := hP
  have hl := lv_entry ([.ref h0, .int (nI y), .int (nI i)]) (n := 3) (Nat.le_of_ble_eq_true rfl)
  rw [lg_entry_eq]
  generalize (lg_sl ([.ref h0, .int (nI y), .int (nI i)]) ++ List.replicate (3 - (lg_sl ([.ref h0, .int (nI y), .int (nI i)])).length) Slot.unset).toArray = ls at hl ⊢
  have hl : lv_has ls 3 [(0, .ref h0), (1, .int (nI y)), (2, .int (nI i))] := hl
  have h1 := ok.rc
  have h2 := ok.rl
  have h3 := ok.k hy hi
  refine lv_aload_n hx hb dX0_get_0 rfl (lv_at hl 0 rfl) ?_
  refine lv_iload_n hx hb dX0_get_1 rfl (lv_at hl 1 rfl) ?_
  refine lv_iload_n hx hb dX0_get_2 rfl (lv_at hl 2 rfl) ?_
  refine va_csv (W.runV (C := RX0) (As := [.int (nI y), .int (nI i)]) (rest := []) ⟨hx, hb, hml, hown, hts⟩ (c_X0_requireByte l dC dI cI h0 ab rc rl ps f (nI y) (nI i) (nI_pos (by omega)) (rf_hi hy h1) (nI_pos (by omega)) (rf_hi hi h2)) (cwV 2 hts gX0_get_X0_requireByte rfl rfl rfl (by decide +kernel) ⟨Nat.le_of_ble_eq_true rfl, Nat.le_of_ble_eq_true rfl⟩) ⟨fun a U g mk q => by obtain ⟨q0, qP, qK⟩ := q; exact ⟨q0, qP, va_K.moved (u := U) (U := U.calling g mk a) (Vm.Alike.refl U.vm) qK⟩, va_recv hK hP (ci := 0) (q0 := 0) rfl rfl, fun U hU hW => ⟨rfl, by rw [hU]; exact hP, va_K.moved hW.alike hK⟩⟩ rfl rfl hl.1 rfl (lv_room (Nat.le_of_ble_eq_true rfl)) dX0_get_3 ⟨Nat.zero_le _, Nat.zero_le _⟩) (fun _ => ?_)
  refine lv_aload_n hx hb dX0_get_6 rfl (lv_at hl 0 rfl) ?_
  refine va_get (D := (dC, dI)) (ci := 0) (v := .ref ab) (C := RX0) (T := TX0) (N := 4) hx hb hts (by decide +kernel) hown hK hP 0 rfl rfl 0 (by decide) (hts (.fieldLink RX0 9 "RowFilters" "bytes" "[I") (by decide +kernel)) (fun _ h9 => h9) rfl dX0_get_7 ?_
  refine lv_iload_n hx hb dX0_get_10 rfl (lv_at hl 1 rfl) ?_
  refine lv_aload_n hx hb dX0_get_11 rfl (lv_at hl 0 rfl) ?_
  refine va_get (D := (dC, dI)) (ci := 0) (v := .int (nI rl)) (C := RX0) (T := TX0) (N := 4) hx hb hts (by decide +kernel) hown hK hP 0 rfl rfl 2 (by decide) (hts (.fieldLink RX0 17 "RowFilters" "rowLength" "I") (by decide +kernel)) (fun _ h9 => h9) rfl dX0_get_12 ?_
  refine lv_imul hx hb dX0_get_15 ?_
  refine lv_iload_n hx hb dX0_get_16 rfl (lv_at hl 2 rfl) ?_
  refine lv_iadd hx hb dX0_get_17 ?_
  refine W.eq (g2 := F0 m 18 ls [.int (nI (y * rl + i)), .ref ab]) (congrArg (fun z9 => F0 m 18 ls [.int z9, .ref ab]) (show (((nI y) * (nI rl)) + (nI i)) = nI (y * rl + i) from rf_ix y rl i)) ?_
  refine va_iald hx hb hK hP 1 0 rfl rfl (vp_in_nI h3 (by omega)) dX0_get_18 ?_
  exact W.iret (v := (f (nI (y * rl + i)).toNatClampNeg)) hx hb hr (fun t ht hW => ⟨(f (nI (y * rl + i)).toNatClampNeg), rfl, by rw [nI_clamp (by omega)], ht⟩) (fun q h => by cases h) dX0_get_19
set_option maxHeartbeats 4000000 in
set_option maxRecDepth 100000 in
theorem c_X0_set (l : Launch) (dC : Nat → ClassId) (dI : Nat → Nat → Nat) (cI : ClassId) (h0 ab rc rl ps : Nat) (f : Nat → Int32) (sz : Nat) (y i : Nat) (v : Int32) (ok : rf_ok rc rl ps) (hy : y < rc) (hi : i < rl) (hv1 : ¬ v < 0) (hv2 : ¬ 255 < v) : Met l yX0_set wsX0_set ({ frames := 3, cells := 0, slots := 0, locals := 65 }) (va_Pc [.ref h0, .int (nI y), .int (nI i), .int v] (rw_preD dC dI cI h0 ab rc rl ps f sz)) (va_Qi (fun (r : Int32) (_ : Unit) => r = f (y * rl + i)) (fun _ t9 => rw_B dC dI cI h0 ab rc rl ps (upd f (y * rl + i) v) (va_A (rw_W h0 ab cI rc rl ps f) sz) t9) (va_A (rw_W h0 ab cI rc rl ps f) sz)) 0 0 (va_A (rw_W h0 ab cI rc rl ps f) sz) := by
  refine Met.ofW (cc := cX0_set) (maxL := 6) (ret := (some .int)) (by decide) rfl ?_
  intro p e s m args below meth c s₁ B hml hv
  obtain ⟨rfl, hsz, hP, hK, hD0⟩ := hv
  have hx := B.exec
  have hb := B.bytes
  have hr := B.returns
  have hts := atoms_spec (ws := wsX0_set) B.pre
  have hown : s.vm.findClass RX0 = some m.cls := findClass_of_methodNamed B.named
  have hlocks := B.notSynchronized
  subst hsz
  have hD := hD0.self (sz := s.heap.size)
  generalize hAe : va_A (rw_W h0 ab cI rc rl ps f) s.heap.size = A at hD ⊢
  have hA : ∀ q : Nat, s.heap.size ≤ q → A q := fun q h => by rw [← hAe]; exact Or.inr h
  have hS : va_S A s.heap s.heap [] := va_S.rf
  have hP : va_P (dC, dI) rw_cl (rw_W h0 ab cI rc rl ps f) s.heap := hP
  have hl := lv_entry ([.ref h0, .int (nI y), .int (nI i), .int v]) (n := 6) (Nat.le_of_ble_eq_true rfl)
  rw [lg_entry_eq]
  generalize (lg_sl ([.ref h0, .int (nI y), .int (nI i), .int v]) ++ List.replicate (6 - (lg_sl ([.ref h0, .int (nI y), .int (nI i), .int v])).length) Slot.unset).toArray = ls at hl ⊢
  have hl : lv_has ls 6 [(0, .ref h0), (1, .int (nI y)), (2, .int (nI i)), (3, .int v)] := hl
  have h1 := ok.rc
  have h2 := ok.rl
  have h3 := ok.k hy hi
  refine lv_aload_n hx hb dX0_set_0 rfl (lv_at hl 0 rfl) ?_
  refine lv_iload_n hx hb dX0_set_1 rfl (lv_at hl 1 rfl) ?_
  refine lv_iload_n hx hb dX0_set_2 rfl (lv_at hl 2 rfl) ?_
  refine va_csv (W.runV (C := RX0) (As := [.int (nI y), .int (nI i)]) (rest := []) ⟨hx, hb, hml, hown, hts⟩ (c_X0_requireByte l dC dI cI h0 ab rc rl ps f (nI y) (nI i) (nI_pos (by omega)) (rf_hi hy h1) (nI_pos (by omega)) (rf_hi hi h2)) (cwV 2 hts gX0_set_X0_requireByte rfl rfl rfl (by decide +kernel) ⟨Nat.le_of_ble_eq_true rfl, Nat.le_of_ble_eq_true rfl⟩) ⟨fun a U g mk q => by obtain ⟨q0, qP, qK⟩ := q; exact ⟨q0, qP, va_K.moved (u := U) (U := U.calling g mk a) (Vm.Alike.refl U.vm) qK⟩, va_recv hK hP (ci := 0) (q0 := 0) rfl rfl, fun U hU hW => ⟨rfl, by rw [hU]; exact hP, va_K.moved hW.alike hK⟩⟩ rfl rfl hl.1 rfl (lv_room (Nat.le_of_ble_eq_true rfl)) dX0_set_3 ⟨Nat.zero_le _, Nat.zero_le _⟩) (fun _ => ?_)
  refine lv_iload_n hx hb dX0_set_6 rfl (lv_at hl 3 rfl) ?_
  refine lv_iconst (v := 0) hx hb dX0_set_7 (by decide) ?_
  refine lv_sipush (v := 255) hx hb dX0_set_8 (by decide) ?_
  refine va_csv (W.runS (As := [.int v, .int 0, .int 255]) (rest := []) ⟨hx, hb, hml, hown, hts⟩ (c_X0_requireWithin l v 0 255 hv1 hv2) (va_cwS 3 hts gX0_set_X0_requireWithin rfl rfl rfl (by decide +kernel) ⟨Nat.le_of_ble_eq_true rfl, Nat.le_of_ble_eq_true rfl⟩) ⟨fun _ _ _ _ q => q, fun U hU hW => ⟨rfl, trivial⟩⟩ rfl rfl hl.1 rfl (lv_room (Nat.le_of_ble_eq_true rfl)) dX0_set_11 ⟨Nat.zero_le _, Nat.zero_le _⟩) (fun _ => ?_)
  refine lv_iload_n hx hb dX0_set_14 rfl (lv_at hl 1 rfl) ?_
  refine lv_aload_n hx hb dX0_set_15 rfl (lv_at hl 0 rfl) ?_
  refine va_get (D := (dC, dI)) (ci := 0) (v := .int (nI rl)) (C := RX0) (T := TX0) (N := 4) hx hb hts (by decide +kernel) hown hK hP 0 rfl rfl 2 (by decide) (hts (.fieldLink RX0 17 "RowFilters" "rowLength" "I") (by decide +kernel)) (fun _ h9 => h9) rfl dX0_set_16 ?_
  refine lv_imul hx hb dX0_set_19 ?_
  refine lv_iload_n hx hb dX0_set_20 rfl (lv_at hl 2 rfl) ?_
  refine lv_iadd hx hb dX0_set_21 ?_
  refine W.eq (g2 := F0 m 22 ls [.int (nI (y * rl + i))]) (congrArg (fun z9 => F0 m 22 ls [.int z9]) (show (((nI y) * (nI rl)) + (nI i)) = nI (y * rl + i) from rf_ix y rl i)) ?_
  refine lv_istore hx hb dX0_set_22 hl (by decide) rfl (fun ls hl => ?_)
  have hl : lv_has ls 6 [(4, .int (nI (y * rl + i))), (0, .ref h0), (1, .int (nI y)), (2, .int (nI i)), (3, .int v)] := hl
  refine lv_aload_n hx hb dX0_set_24 rfl (lv_at hl 1 rfl) ?_
  refine va_get (D := (dC, dI)) (ci := 0) (v := .ref ab) (C := RX0) (T := TX0) (N := 4) hx hb hts (by decide +kernel) hown hK hP 0 rfl rfl 0 (by decide) (hts (.fieldLink RX0 9 "RowFilters" "bytes" "[I") (by decide +kernel)) (fun _ h9 => h9) rfl dX0_set_25 ?_
  refine lv_iload hx hb dX0_set_28 (lv_at hl 0 rfl) ?_
  refine va_iald hx hb hK hP 1 0 rfl rfl (vp_in_nI h3 (by omega)) dX0_set_30 ?_
  refine W.eq (g2 := F0 m 31 ls [.int (f (y * rl + i))]) (congrArg (fun z9 => F0 m 31 ls [.int z9]) (show (f (nI (y * rl + i)).toNatClampNeg) = f (y * rl + i) from by rw [nI_clamp (by omega)])) ?_
  refine lv_istore hx hb dX0_set_31 hl (by decide) rfl (fun ls hl => ?_)
  have hl : lv_has ls 6 [(5, .int (f (y * rl + i))), (4, .int (nI (y * rl + i))), (0, .ref h0), (1, .int (nI y)), (2, .int (nI i)), (3, .int v)] := hl
  refine lv_aload_n hx hb dX0_set_33 rfl (lv_at hl 2 rfl) ?_
  refine va_get (D := (dC, dI)) (ci := 0) (v := .ref ab) (C := RX0) (T := TX0) (N := 4) hx hb hts (by decide +kernel) hown hK hP 0 rfl rfl 0 (by decide) (hts (.fieldLink RX0 9 "RowFilters" "bytes" "[I") (by decide +kernel)) (fun _ h9 => h9) rfl dX0_set_34 ?_
  refine lv_iload hx hb dX0_set_37 (lv_at hl 1 rfl) ?_
  refine lv_iload_n hx hb dX0_set_39 rfl (lv_at hl 5 rfl) ?_
  refine va_iast hx hb hK hP hD hS 1 0 rfl rfl (vp_in_nI h3 (by omega)) dX0_set_40 (fun H locs hP hD hS => ?_)
  have hP : va_P (dC, dI) rw_cl [(h0, .inr (0, [.ref ab, .int (nI rc), .int (nI rl), .int (nI ps)])), (ab, .inl (cI, 4096, .inl (upd f (nI (y * rl + i)).toNatClampNeg v)))] H := hP
  have hD : va_D A [(h0, .inr (0, [.ref ab, .int (nI rc), .int (nI rl), .int (nI ps)])), (ab, .inl (cI, 4096, .inl (upd f (nI (y * rl + i)).toNatClampNeg v)))] := hD
  rw [nI_clamp (by omega)] at hP hD
  refine lv_iload hx hb dX0_set_41 (lv_at hl 0 rfl) ?_
  exact W.iret (v := f (y * rl + i)) hx hb hr (fun t ht hW => ⟨⟨f (y * rl + i), (), rfl, rfl, by rw [ht]; exact hP, va_K.moved hW.alike hK, hD⟩, hS.F ht⟩) hS.2.2 dX0_set_43
set_option maxHeartbeats 4000000 in
set_option maxRecDepth 100000 in
theorem c_X0_fill (l : Launch) (dC : Nat → ClassId) (dI : Nat → Nat → Nat) (cI : ClassId) (h0 ab rc rl ps : Nat) (f : Nat → Int32) (sz : Nat) (a b z : Int32) (ok : rf_ok rc rl ps) : Met l yX0_fill wsX0_fill ({ frames := 0, cells := 0, slots := 0, locals := 0 }) (va_Pc [.ref h0, .int a, .int b, .int z] (rw_preD dC dI cI h0 ab rc rl ps f sz)) (va_Qv (fun _ : Unit => True) (fun _ t9 => rw_B dC dI cI h0 ab rc rl ps (rf_p f (rf_F a b z) 0 (rc * rl)) (va_A (rw_W h0 ab cI rc rl ps f) sz) t9) (va_A (rw_W h0 ab cI rc rl ps f) sz)) 0 0 (va_A (rw_W h0 ab cI rc rl ps f) sz) := by
  refine Met.ofW (cc := cX0_fill) (maxL := 6) (ret := none) (by decide) rfl ?_
  intro p e s m args below meth c s₁ B hml hv
  obtain ⟨rfl, hsz, hP, hK, hD0⟩ := hv
  have hx := B.exec
  have hb := B.bytes
  have hr := B.returns
  have hts := atoms_spec (ws := wsX0_fill) B.pre
  have hown : s.vm.findClass RX0 = some m.cls := findClass_of_methodNamed B.named
  have hlocks := B.notSynchronized
  subst hsz
  have hD := hD0.self (sz := s.heap.size)
  generalize hAe : va_A (rw_W h0 ab cI rc rl ps f) s.heap.size = A at hD ⊢
  have hA : ∀ q : Nat, s.heap.size ≤ q → A q := fun q h => by rw [← hAe]; exact Or.inr h
  have hS : va_S A s.heap s.heap [] := va_S.rf
  have hP : va_P (dC, dI) rw_cl (rw_W h0 ab cI rc rl ps f) s.heap := hP
  have hl := lv_entry ([.ref h0, .int a, .int b, .int z]) (n := 6) (Nat.le_of_ble_eq_true rfl)
  rw [lg_entry_eq]
  generalize (lg_sl ([.ref h0, .int a, .int b, .int z]) ++ List.replicate (6 - (lg_sl ([.ref h0, .int a, .int b, .int z])).length) Slot.unset).toArray = ls at hl ⊢
  have hl : lv_has ls 6 [(0, .ref h0), (1, .int a), (2, .int b), (3, .int z)] := hl
  have h1 := ok.2.2.1
  refine lv_aload_n hx hb dX0_fill_0 rfl (lv_at hl 0 rfl) ?_
  refine va_get (D := (dC, dI)) (ci := 0) (v := .int (nI rc)) (C := RX0) (T := TX0) (N := 4) hx hb hts (by decide +kernel) hown hK hP 0 rfl rfl 1 (by decide) (hts (.fieldLink RX0 13 "RowFilters" "rowCount" "I") (by decide +kernel)) (fun _ h9 => h9) rfl dX0_fill_1 ?_
  refine lv_aload_n hx hb dX0_fill_4 rfl (lv_at hl 0 rfl) ?_
  refine va_get (D := (dC, dI)) (ci := 0) (v := .int (nI rl)) (C := RX0) (T := TX0) (N := 4) hx hb hts (by decide +kernel) hown hK hP 0 rfl rfl 2 (by decide) (hts (.fieldLink RX0 17 "RowFilters" "rowLength" "I") (by decide +kernel)) (fun _ h9 => h9) rfl dX0_fill_5 ?_
  refine lv_imul hx hb dX0_fill_8 ?_
  refine W.eq (g2 := F0 m 9 ls [.int (nI (rc * rl))]) (congrArg (fun z9 => F0 m 9 ls [.int z9]) (show ((nI rc) * (nI rl)) = nI (rc * rl) from rf_mul rc rl)) ?_
  refine lv_istore hx hb dX0_fill_9 hl (by decide) rfl (fun ls hl => ?_)
  have hl : lv_has ls 6 [(4, .int (nI (rc * rl))), (0, .ref h0), (1, .int a), (2, .int b), (3, .int z)] := hl
  refine lv_iconst (v := 0) hx hb dX0_fill_11 (by decide) ?_
  refine lv_istore hx hb dX0_fill_12 hl (by decide) rfl (fun ls hl => ?_)
  have hl : lv_has ls 6 [(5, .int 0), (4, .int (nI (rc * rl))), (0, .ref h0), (1, .int a), (2, .int b), (3, .int z)] := hl
  have e0 : f = (rf_p f (rf_F a b z) 0 (0)) := (rf_p_nil _ _ _).symm
  rw [e0] at hP hD
  refine rw_loopH (fun k : Nat => rc * rl - k) (fun k ls H locs => (k ≤ rc * rl) ∧ lv_has ls 6 [(0, .ref h0), (1, .int a), (2, .int b), (3, .int z), (4, .int (nI (rc * rl))), (5, .int (nI k))] ∧ va_P (dC, dI) rw_cl [(h0, .inr (0, [.ref ab, .int (nI rc), .int (nI rl), .int (nI ps)])), (ab, .inl (cI, 4096, .inl (rf_p f (rf_F a b z) 0 k)))] H ∧ va_D A [(h0, .inr (0, [.ref ab, .int (nI rc), .int (nI rl), .int (nI ps)])), (ab, .inl (cI, 4096, .inl (rf_p f (rf_F a b z) 0 k)))] ∧ va_S A s.heap H locs) ?_ (0) ⟨Nat.zero_le _, lv_sub hl [2, 3, 4, 5, 1, 0] rfl, hP, hD, hS⟩
  intro k ls H locs hI ih
  obtain ⟨hj, hl, hP, hD, hS⟩ := hI
  refine lv_iload hx hb dX0_fill_14 (lv_at hl 5 rfl) ?_
  refine lv_iload hx hb dX0_fill_16 (lv_at hl 4 rfl) ?_
  refine lv_icmp_ge (tgt := 51) hx hb dX0_fill_18 (by decide) (fun hc => ?_) (fun hc => ?_)
  · have hi : k = rc * rl := by have := (nI_leI (by omega) (by omega)).mp hc; omega
    rw [hi] at hP hD
    exact W.vret hx hb hr (fun t ht hW => ⟨⟨(), rfl, trivial, by rw [ht]; exact hP, va_K.moved hW.alike hK, hD⟩, hS.F ht⟩) hS.2.2 dX0_fill_51
  · have hi : k < rc * rl := Nat.lt_of_not_le (fun q => hc ((nI_leI (by omega) (by omega)).mpr q))
    refine lv_aload_n hx hb dX0_fill_21 rfl (lv_at hl 0 rfl) ?_
    refine va_get (D := (dC, dI)) (ci := 0) (v := .ref ab) (C := RX0) (T := TX0) (N := 4) hx hb hts (by decide +kernel) hown hK hP 0 rfl rfl 0 (by decide) (hts (.fieldLink RX0 9 "RowFilters" "bytes" "[I") (by decide +kernel)) (fun _ h9 => h9) rfl dX0_fill_22 ?_
    refine lv_iload hx hb dX0_fill_25 (lv_at hl 5 rfl) ?_
    refine lv_iload_n hx hb dX0_fill_27 rfl (lv_at hl 1 rfl) ?_
    refine lv_iload hx hb dX0_fill_28 (lv_at hl 5 rfl) ?_
    refine lv_imul hx hb dX0_fill_30 ?_
    refine lv_iload hx hb dX0_fill_31 (lv_at hl 5 rfl) ?_
    refine lv_imul hx hb dX0_fill_33 ?_
    refine lv_iload_n hx hb dX0_fill_34 rfl (lv_at hl 2 rfl) ?_
    refine lv_iload hx hb dX0_fill_35 (lv_at hl 5 rfl) ?_
    refine lv_imul hx hb dX0_fill_37 ?_
    refine lv_iadd hx hb dX0_fill_38 ?_
    refine lv_iload_n hx hb dX0_fill_39 rfl (lv_at hl 3 rfl) ?_
    refine lv_iadd hx hb dX0_fill_40 ?_
    refine lv_bipush (v := 24) hx hb dX0_fill_41 (by decide) ?_
    refine lv_iushr hx hb dX0_fill_43 rfl ?_
    refine lv_topi (fun v ev => ?_)
    refine va_iast hx hb hK hP hD hS 1 0 rfl rfl (vp_in_nI (by omega) (by omega)) dX0_fill_44 (fun H locs hP hD hS => ?_)
    have hP : va_P (dC, dI) rw_cl [(h0, .inr (0, [.ref ab, .int (nI rc), .int (nI rl), .int (nI ps)])), (ab, .inl (cI, 4096, .inl (upd (rf_p f (rf_F a b z) 0 k) (nI k).toNatClampNeg v)))] H := hP
    have hD : va_D A [(h0, .inr (0, [.ref ab, .int (nI rc), .int (nI rl), .int (nI ps)])), (ab, .inl (cI, 4096, .inl (upd (rf_p f (rf_F a b z) 0 k) (nI k).toNatClampNeg v)))] := hD
    refine lv_iinc (k := 5) (v := (nI (k + 1))) hx hb dX0_fill_45 hl rfl (rf_inc k) (by decide) rfl (fun ls hl => ?_)
    have hl : lv_has ls 6 [(5, .int (nI (k + 1))), (0, .ref h0), (1, .int a), (2, .int b), (3, .int z), (4, .int (nI (rc * rl)))] := hl
    refine lv_goto (tgt := 14) hx hb dX0_fill_48 (by decide) ?_
    have e9 : (upd (rf_p f (rf_F a b z) 0 k) (nI k).toNatClampNeg v) = (rf_p f (rf_F a b z) 0 (k + 1)) := by rw [nI_clamp (by omega)]; exact rf_p_up (Nat.zero_le _) (by rw [ev]; rfl)
    rw [e9] at hP hD
    exact ih (k + 1) _ _ _ (by show rc * rl - (k + 1) < rc * rl - k; omega) ⟨by omega, lv_sub hl [1, 2, 3, 4, 5, 0] rfl, hP, hD, hS⟩
