set_option maxHeartbeats 4000000 in
set_option maxRecDepth 100000 in
theorem c_Y1_get (l : Launch) (dC : Nat → ClassId) (dI : Nat → Nat → Nat) (cI cJ : ClassId) (h0 b1 b2 : Nat) (fl : Int32) (rc rl ps : Nat) (g t : Nat → Int32) (sz : Nat) (y i : Nat) (ok : rf_ok rc rl ps) (hy : y < rc) (hi : i < rl) : Met l yY1_get wsY1_get ({ frames := 1, cells := 0, slots := 0, locals := 22 }) (va_Pc [.ref h0, .int (nI y), .int (nI i)] (rv_preD dC dI cI cJ h0 b1 b2 fl rc rl ps g t sz)) (va_Qi (fun (r : Int32) (_ : Unit) => r = g (y * rl + i)) (fun _ t9 => rv_B dC dI cI cJ h0 b1 b2 0 rc rl ps g t (va_A (rv_W h0 b1 b2 cI cJ fl rc rl ps g t) sz) t9) (va_A (rv_W h0 b1 b2 cI cJ fl rc rl ps g t) sz)) 0 0 (va_A (rv_W h0 b1 b2 cI cJ fl rc rl ps g t) sz) := by
  refine Met.ofW (cc := cY1_get) (maxL := 3) (ret := (some .int)) (by decide) rfl ?_
  intro p e s m args below meth c s₁ B hml hv
  obtain ⟨rfl, hsz, hP, hK, hD0⟩ := hv
  have hx := B.exec
  have hb := B.bytes
  have hr := B.returns
  have hts := atoms_spec (ws := wsY1_get) B.pre
  have hown : s.vm.findClass RX1 = some m.cls := findClass_of_methodNamed B.named
  have hlocks := B.notSynchronized
  subst hsz
  have hD := hD0.self (sz := s.heap.size)
  generalize hAe : va_A (rv_W h0 b1 b2 cI cJ fl rc rl ps g t) s.heap.size = A at hD ⊢
  have hA : ∀ q : Nat, s.heap.size ≤ q → A q := fun q h => by rw [← hAe]; exact Or.inr h
  have hS : va_S A s.heap s.heap [] := va_S.rf
  have hP : va_P (dC, dI) rw_cl (rv_W h0 b1 b2 cI cJ fl rc rl ps g t) s.heap := hP
  have hl := lv_entry ([.ref h0, .int (nI y), .int (nI i)]) (n := 3) (Nat.le_of_ble_eq_true rfl)
  rw [lg_entry_eq]
  generalize (lg_sl ([.ref h0, .int (nI y), .int (nI i)]) ++ List.replicate (3 - (lg_sl ([.ref h0, .int (nI y), .int (nI i)])).length) Slot.unset).toArray = ls at hl ⊢
  have hl : lv_has ls 3 [(0, .ref h0), (1, .int (nI y)), (2, .int (nI i))] := hl
  have h1 := ok.rc
  have h2 := ok.rl
  have h3 := ok.k hy hi
  refine lv_aload_n hx hb dY1_get_0 rfl (lv_at hl 0 rfl) ?_
  refine lv_iconst (v := 0) hx hb dY1_get_1 (by decide) ?_
  refine va_put (D := (dC, dI)) (ci := 1) (v := .int 0) (ty := .int) (C := RX1) (T := TY1) (N := 6) hx hb hts (by decide +kernel) tyY1 tyY1_ok nmY1 hown hK hP hD hS 0 rfl rfl 0 (by decide) (hts (.fieldLink RX1 26 "RowFiltersModel" "failed" "I") (by decide +kernel)) (fun _ h9 => h9) rfl (by decide +kernel) rfl rfl (Nat.le_of_ble_eq_true rfl) dY1_get_2 (fun H locs hP hD hS => ?_)
  have hP : va_P (dC, dI) rw_cl [(h0, .inr (1, [.int 0, .int (nI rc), .int (nI rl), .int (nI ps), .ref b1, .ref b2])), (b1, .inl (cI, 4096, .inl g)), (b2, .inl (cJ, 4096, .inl t))] H := hP
  have hD : va_D A [(h0, .inr (1, [.int 0, .int (nI rc), .int (nI rl), .int (nI ps), .ref b1, .ref b2])), (b1, .inl (cI, 4096, .inl g)), (b2, .inl (cJ, 4096, .inl t))] := hD
  refine lv_aload_n hx hb dY1_get_5 rfl (lv_at hl 0 rfl) ?_
  refine lv_iload_n hx hb dY1_get_6 rfl (lv_at hl 1 rfl) ?_
  refine lv_iload_n hx hb dY1_get_7 rfl (lv_at hl 2 rfl) ?_
  refine vp_callSi (W.runV (C := RX1) (As := [.int (nI y), .int (nI i)]) (rest := []) ⟨hx, hb, hml, hown, hts⟩ (c_Y1_out l dC dI cI cJ h0 b1 b2 0 rc rl ps g t (nI y) (nI i)) (cwV 2 hts gY1_get_Y1_out rfl rfl rfl (by decide +kernel) ⟨Nat.le_of_ble_eq_true rfl, Nat.le_of_ble_eq_true rfl⟩) ⟨fun a U g mk q => by obtain ⟨q0, qP, qK⟩ := q; exact ⟨q0, qP, va_K.moved (u := U) (U := U.calling g mk a) (Vm.Alike.refl U.vm) qK⟩, va_recv hK hP (ci := 1) (q0 := 0) rfl rfl, fun U hU hW => ⟨rfl, by rw [hU]; exact hP, va_K.moved hW.alike hK⟩⟩ rfl rfl hl.1 rfl (lv_room (Nat.le_of_ble_eq_true rfl)) dY1_get_8 ⟨Nat.zero_le _, Nat.zero_le _⟩) (fun ro eo => ?_)
  obtain rfl := eo.2 (rf_ot_n h1 h2 hy hi)
  refine lv_if_eq (tgt := 22) hx hb dY1_get_11 (by decide) (fun q => ?_) (fun q => ?_)
  · refine lv_aload_n hx hb dY1_get_22 rfl (lv_at hl 0 rfl) ?_
    refine va_get (D := (dC, dI)) (ci := 1) (v := .ref b1) (C := RX1) (T := TY1) (N := 6) hx hb hts (by decide +kernel) hown hK hP 0 rfl rfl 4 (by decide) (hts (.fieldLink RX1 19 "RowFiltersModel" "bytes" "[I") (by decide +kernel)) (fun _ h9 => h9) rfl dY1_get_23 ?_
    refine lv_iload_n hx hb dY1_get_26 rfl (lv_at hl 1 rfl) ?_
    refine lv_aload_n hx hb dY1_get_27 rfl (lv_at hl 0 rfl) ?_
    refine va_get (D := (dC, dI)) (ci := 1) (v := .int (nI rl)) (C := RX1) (T := TY1) (N := 6) hx hb hts (by decide +kernel) hown hK hP 0 rfl rfl 2 (by decide) (hts (.fieldLink RX1 13 "RowFiltersModel" "width" "I") (by decide +kernel)) (fun _ h9 => h9) rfl dY1_get_28 ?_
    refine lv_imul hx hb dY1_get_31 ?_
    refine lv_iload_n hx hb dY1_get_32 rfl (lv_at hl 2 rfl) ?_
    refine lv_iadd hx hb dY1_get_33 ?_
    refine W.eq (g2 := F0 m 34 ls [.int (nI (y * rl + i)), .ref b1]) (congrArg (fun z9 => F0 m 34 ls [.int z9, .ref b1]) (show (((nI y) * (nI rl)) + (nI i)) = nI (y * rl + i) from rf_ix y rl i)) ?_
    refine va_iald hx hb hK hP 1 0 rfl rfl (vp_in_nI h3 (by omega)) dY1_get_34 ?_
    exact W.iret (v := (g (nI (y * rl + i)).toNatClampNeg)) hx hb hr (fun t ht hW => ⟨⟨(g (nI (y * rl + i)).toNatClampNeg), (), rfl, by rw [nI_clamp (by omega)], by rw [ht]; exact hP, va_K.moved hW.alike hK, hD⟩, hS.F ht⟩) hS.2.2 dY1_get_35
  · exact absurd (rfl : (0 : Int32) = 0) q
set_option maxHeartbeats 4000000 in
set_option maxRecDepth 100000 in
theorem c_Y1_get_bad (l : Launch) (dC : Nat → ClassId) (dI : Nat → Nat → Nat) (cI cJ : ClassId) (h0 b1 b2 : Nat) (fl : Int32) (rc rl ps : Nat) (g t : Nat → Int32) (sz : Nat) (y i : Int32) (hb0 : rf_ot rc rl y i) : Met l yY1_get wsY1_get ({ frames := 1, cells := 0, slots := 0, locals := 22 }) (va_Pc [.ref h0, .int y, .int i] (rv_preD dC dI cI cJ h0 b1 b2 fl rc rl ps g t sz)) (va_Qi (fun (r : Int32) (_ : Unit) => r = 0) (fun _ t9 => rv_B dC dI cI cJ h0 b1 b2 1 rc rl ps g t (va_A (rv_W h0 b1 b2 cI cJ fl rc rl ps g t) sz) t9) (va_A (rv_W h0 b1 b2 cI cJ fl rc rl ps g t) sz)) 0 0 (va_A (rv_W h0 b1 b2 cI cJ fl rc rl ps g t) sz) := by
  refine Met.ofW (cc := cY1_get) (maxL := 3) (ret := (some .int)) (by decide) rfl ?_
  intro p e s m args below meth c s₁ B hml hv
  obtain ⟨rfl, hsz, hP, hK, hD0⟩ := hv
  have hx := B.exec
  have hb := B.bytes
  have hr := B.returns
  have hts := atoms_spec (ws := wsY1_get) B.pre
  have hown : s.vm.findClass RX1 = some m.cls := findClass_of_methodNamed B.named
  have hlocks := B.notSynchronized
  subst hsz
  have hD := hD0.self (sz := s.heap.size)
  generalize hAe : va_A (rv_W h0 b1 b2 cI cJ fl rc rl ps g t) s.heap.size = A at hD ⊢
  have hA : ∀ q : Nat, s.heap.size ≤ q → A q := fun q h => by rw [← hAe]; exact Or.inr h
  have hS : va_S A s.heap s.heap [] := va_S.rf
  have hP : va_P (dC, dI) rw_cl (rv_W h0 b1 b2 cI cJ fl rc rl ps g t) s.heap := hP
  have hl := lv_entry ([.ref h0, .int y, .int i]) (n := 3) (Nat.le_of_ble_eq_true rfl)
  rw [lg_entry_eq]
  generalize (lg_sl ([.ref h0, .int y, .int i]) ++ List.replicate (3 - (lg_sl ([.ref h0, .int y, .int i])).length) Slot.unset).toArray = ls at hl ⊢
  have hl : lv_has ls 3 [(0, .ref h0), (1, .int y), (2, .int i)] := hl
  refine lv_aload_n hx hb dY1_get_0 rfl (lv_at hl 0 rfl) ?_
  refine lv_iconst (v := 0) hx hb dY1_get_1 (by decide) ?_
  refine va_put (D := (dC, dI)) (ci := 1) (v := .int 0) (ty := .int) (C := RX1) (T := TY1) (N := 6) hx hb hts (by decide +kernel) tyY1 tyY1_ok nmY1 hown hK hP hD hS 0 rfl rfl 0 (by decide) (hts (.fieldLink RX1 26 "RowFiltersModel" "failed" "I") (by decide +kernel)) (fun _ h9 => h9) rfl (by decide +kernel) rfl rfl (Nat.le_of_ble_eq_true rfl) dY1_get_2 (fun H locs hP hD hS => ?_)
  have hP : va_P (dC, dI) rw_cl [(h0, .inr (1, [.int 0, .int (nI rc), .int (nI rl), .int (nI ps), .ref b1, .ref b2])), (b1, .inl (cI, 4096, .inl g)), (b2, .inl (cJ, 4096, .inl t))] H := hP
  have hD : va_D A [(h0, .inr (1, [.int 0, .int (nI rc), .int (nI rl), .int (nI ps), .ref b1, .ref b2])), (b1, .inl (cI, 4096, .inl g)), (b2, .inl (cJ, 4096, .inl t))] := hD
  refine lv_aload_n hx hb dY1_get_5 rfl (lv_at hl 0 rfl) ?_
  refine lv_iload_n hx hb dY1_get_6 rfl (lv_at hl 1 rfl) ?_
  refine lv_iload_n hx hb dY1_get_7 rfl (lv_at hl 2 rfl) ?_
  refine vp_callSi (W.runV (C := RX1) (As := [.int y, .int i]) (rest := []) ⟨hx, hb, hml, hown, hts⟩ (c_Y1_out l dC dI cI cJ h0 b1 b2 0 rc rl ps g t y i) (cwV 2 hts gY1_get_Y1_out rfl rfl rfl (by decide +kernel) ⟨Nat.le_of_ble_eq_true rfl, Nat.le_of_ble_eq_true rfl⟩) ⟨fun a U g mk q => by obtain ⟨q0, qP, qK⟩ := q; exact ⟨q0, qP, va_K.moved (u := U) (U := U.calling g mk a) (Vm.Alike.refl U.vm) qK⟩, va_recv hK hP (ci := 1) (q0 := 0) rfl rfl, fun U hU hW => ⟨rfl, by rw [hU]; exact hP, va_K.moved hW.alike hK⟩⟩ rfl rfl hl.1 rfl (lv_room (Nat.le_of_ble_eq_true rfl)) dY1_get_8 ⟨Nat.zero_le _, Nat.zero_le _⟩) (fun ro eo => ?_)
  obtain rfl := eo.1 hb0
  refine lv_if_eq (tgt := 22) hx hb dY1_get_11 (by decide) (fun q => ?_) (fun q => ?_)
  · exact absurd q (by decide)
  · refine lv_aload_n hx hb dY1_get_14 rfl (lv_at hl 0 rfl) ?_
    refine lv_iconst (v := 1) hx hb dY1_get_15 (by decide) ?_
    have hFc := va_free (wc := [(h0, .inr (1, [.int 0, .int (nI rc), .int (nI rl), .int (nI ps), .ref b1, .ref b2])), (b1, .inl (cI, 4096, .inl g)), (b2, .inl (cJ, 4096, .inl t))]) hD hS hA [0, 1, 2] rfl
    refine va_calli (va_runV (C := RX1) (As := [.int 1]) (rest := []) ⟨hx, hb, hml, hown, hts⟩ (c_Y1_fail l dC dI cI cJ h0 b1 b2 0 rc rl ps g t H.size 1) (cwV 1 hts gY1_get_Y1_fail rfl rfl rfl (by decide +kernel) ⟨Nat.le_of_ble_eq_true rfl, Nat.le_of_ble_eq_true rfl⟩) ⟨fun a U g mk q => by obtain ⟨q0, q1, qP, qK, qD⟩ := q; exact ⟨q0, q1, qP, va_K.moved (u := U) (U := U.calling g mk a) (Vm.Alike.refl U.vm) qK, qD⟩, va_recv hK hP (ci := 1) (q0 := 0) rfl rfl, fun U hU hW => ⟨rfl, by rw [hU], by rw [hU]; exact hP, va_K.moved hW.alike hK, hD.weaken (fun _ _ _ _ => trivial)⟩⟩ rfl rfl hl.1 rfl (lv_room (Nat.le_of_ble_eq_true rfl)) dY1_get_16 ⟨Nat.zero_le _, Nat.zero_le _⟩) hS (fun q _ h => hFc q h) hFc (fun rz u t9 H1 locs ht hvm ez hB hz1 hk1 hS => ?_)
    obtain ⟨hP1, hK1, hD1⟩ := hB
    rw [ht] at hP1
    obtain ⟨hP, hD⟩ := va_join (wr := []) (w1 := [(h0, .inr (1, [.int 1, .int (nI rc), .int (nI rl), .int (nI ps), .ref b1, .ref b2])), (b1, .inl (cI, 4096, .inl g)), (b2, .inl (cJ, 4096, .inl t))]) hP hD [0, 1, 2] [] rfl rfl (by decide) (by decide) hk1 hFc hP1 hD1
    generalize H1 = H at hP hS ⊢
    have hP : va_P (dC, dI) rw_cl [(h0, .inr (1, [.int 1, .int (nI rc), .int (nI rl), .int (nI ps), .ref b1, .ref b2])), (b1, .inl (cI, 4096, .inl g)), (b2, .inl (cJ, 4096, .inl t))] H := hP
    have hD : va_D A [(h0, .inr (1, [.int 1, .int (nI rc), .int (nI rl), .int (nI ps), .ref b1, .ref b2])), (b1, .inl (cI, 4096, .inl g)), (b2, .inl (cJ, 4096, .inl t))] := hD
    refine W.widen (k := 0) (n := 0) (Nat.le_refl _) (Nat.le_refl _) ?_
    refine lv_goto (tgt := 35) hx hb dY1_get_19 (by decide) ?_
    exact W.iret (v := rz) hx hb hr (fun t ht hW => ⟨⟨rz, (), rfl, ez, by rw [ht]; exact hP, va_K.moved hW.alike hK, hD⟩, hS.F ht⟩) hS.2.2 dY1_get_35
set_option maxHeartbeats 4000000 in
set_option maxRecDepth 100000 in
theorem c_Y1_set (l : Launch) (dC : Nat → ClassId) (dI : Nat → Nat → Nat) (cI cJ : ClassId) (h0 b1 b2 : Nat) (fl : Int32) (rc rl ps : Nat) (g t : Nat → Int32) (sz : Nat) (y i : Nat) (v : Int32) (ok : rf_ok rc rl ps) (hy : y < rc) (hi : i < rl) (hv1 : ¬ v < 0) (hv2 : ¬ 255 < v) : Met l yY1_set wsY1_set ({ frames := 1, cells := 0, slots := 0, locals := 22 }) (va_Pc [.ref h0, .int (nI y), .int (nI i), .int v] (rv_preD dC dI cI cJ h0 b1 b2 fl rc rl ps g t sz)) (va_Qi (fun (r : Int32) (_ : Unit) => r = g (y * rl + i)) (fun _ t9 => rv_B dC dI cI cJ h0 b1 b2 0 rc rl ps (upd g (y * rl + i) v) t (va_A (rv_W h0 b1 b2 cI cJ fl rc rl ps g t) sz) t9) (va_A (rv_W h0 b1 b2 cI cJ fl rc rl ps g t) sz)) 0 0 (va_A (rv_W h0 b1 b2 cI cJ fl rc rl ps g t) sz) := by
  refine Met.ofW (cc := cY1_set) (maxL := 5) (ret := (some .int)) (by decide) rfl ?_
  intro p e s m args below meth c s₁ B hml hv
  obtain ⟨rfl, hsz, hP, hK, hD0⟩ := hv
  have hx := B.exec
  have hb := B.bytes
  have hr := B.returns
  have hts := atoms_spec (ws := wsY1_set) B.pre
  have hown : s.vm.findClass RX1 = some m.cls := findClass_of_methodNamed B.named
  have hlocks := B.notSynchronized
  subst hsz
  have hD := hD0.self (sz := s.heap.size)
  generalize hAe : va_A (rv_W h0 b1 b2 cI cJ fl rc rl ps g t) s.heap.size = A at hD ⊢
  have hA : ∀ q : Nat, s.heap.size ≤ q → A q := fun q h => by rw [← hAe]; exact Or.inr h
  have hS : va_S A s.heap s.heap [] := va_S.rf
  have hP : va_P (dC, dI) rw_cl (rv_W h0 b1 b2 cI cJ fl rc rl ps g t) s.heap := hP
  have hl := lv_entry ([.ref h0, .int (nI y), .int (nI i), .int v]) (n := 5) (Nat.le_of_ble_eq_true rfl)
  rw [lg_entry_eq]
  generalize (lg_sl ([.ref h0, .int (nI y), .int (nI i), .int v]) ++ List.replicate (5 - (lg_sl ([.ref h0, .int (nI y), .int (nI i), .int v])).length) Slot.unset).toArray = ls at hl ⊢
  have hl : lv_has ls 5 [(0, .ref h0), (1, .int (nI y)), (2, .int (nI i)), (3, .int v)] := hl
  have h1 := ok.rc
  have h2 := ok.rl
  have h3 := ok.k hy hi
  refine lv_aload_n hx hb dY1_set_0 rfl (lv_at hl 0 rfl) ?_
  refine lv_iconst (v := 0) hx hb dY1_set_1 (by decide) ?_
  refine va_put (D := (dC, dI)) (ci := 1) (v := .int 0) (ty := .int) (C := RX1) (T := TY1) (N := 6) hx hb hts (by decide +kernel) tyY1 tyY1_ok nmY1 hown hK hP hD hS 0 rfl rfl 0 (by decide) (hts (.fieldLink RX1 26 "RowFiltersModel" "failed" "I") (by decide +kernel)) (fun _ h9 => h9) rfl (by decide +kernel) rfl rfl (Nat.le_of_ble_eq_true rfl) dY1_set_2 (fun H locs hP hD hS => ?_)
  have hP : va_P (dC, dI) rw_cl [(h0, .inr (1, [.int 0, .int (nI rc), .int (nI rl), .int (nI ps), .ref b1, .ref b2])), (b1, .inl (cI, 4096, .inl g)), (b2, .inl (cJ, 4096, .inl t))] H := hP
  have hD : va_D A [(h0, .inr (1, [.int 0, .int (nI rc), .int (nI rl), .int (nI ps), .ref b1, .ref b2])), (b1, .inl (cI, 4096, .inl g)), (b2, .inl (cJ, 4096, .inl t))] := hD
  refine lv_aload_n hx hb dY1_set_5 rfl (lv_at hl 0 rfl) ?_
  refine lv_iload_n hx hb dY1_set_6 rfl (lv_at hl 1 rfl) ?_
  refine lv_iload_n hx hb dY1_set_7 rfl (lv_at hl 2 rfl) ?_
  refine vp_callSi (W.runV (C := RX1) (As := [.int (nI y), .int (nI i)]) (rest := []) ⟨hx, hb, hml, hown, hts⟩ (c_Y1_out l dC dI cI cJ h0 b1 b2 0 rc rl ps g t (nI y) (nI i)) (cwV 2 hts gY1_set_Y1_out rfl rfl rfl (by decide +kernel) ⟨Nat.le_of_ble_eq_true rfl, Nat.le_of_ble_eq_true rfl⟩) ⟨fun a U g mk q => by obtain ⟨q0, qP, qK⟩ := q; exact ⟨q0, qP, va_K.moved (u := U) (U := U.calling g mk a) (Vm.Alike.refl U.vm) qK⟩, va_recv hK hP (ci := 1) (q0 := 0) rfl rfl, fun U hU hW => ⟨rfl, by rw [hU]; exact hP, va_K.moved hW.alike hK⟩⟩ rfl rfl hl.1 rfl (lv_room (Nat.le_of_ble_eq_true rfl)) dY1_set_8 ⟨Nat.zero_le _, Nat.zero_le _⟩) (fun ro eo => ?_)
  refine lv_if_ne (tgt := 25) hx hb dY1_set_11 (by decide) (fun q1 => ?_) (fun q1 => ?_)
  · exact absurd (eo.2 (rf_ot_n h1 h2 hy hi)) q1
  · refine lv_iload_n hx hb dY1_set_14 rfl (lv_at hl 3 rfl) ?_
    refine lv_if_lt (tgt := 25) hx hb dY1_set_15 (by decide) (fun q2 => ?_) (fun q2 => ?_)
    · exact absurd q2 hv1
    · refine lv_iload_n hx hb dY1_set_18 rfl (lv_at hl 3 rfl) ?_
      refine lv_sipush (v := 255) hx hb dY1_set_19 (by decide) ?_
      refine lv_icmp_le (tgt := 31) hx hb dY1_set_22 (by decide) (fun q3 => ?_) (fun q3 => ?_)
      · refine lv_aload_n hx hb dY1_set_31 rfl (lv_at hl 0 rfl) ?_
        refine va_get (D := (dC, dI)) (ci := 1) (v := .ref b1) (C := RX1) (T := TY1) (N := 6) hx hb hts (by decide +kernel) hown hK hP 0 rfl rfl 4 (by decide) (hts (.fieldLink RX1 19 "RowFiltersModel" "bytes" "[I") (by decide +kernel)) (fun _ h9 => h9) rfl dY1_set_32 ?_
        refine lv_iload_n hx hb dY1_set_35 rfl (lv_at hl 1 rfl) ?_
        refine lv_aload_n hx hb dY1_set_36 rfl (lv_at hl 0 rfl) ?_
        refine va_get (D := (dC, dI)) (ci := 1) (v := .int (nI rl)) (C := RX1) (T := TY1) (N := 6) hx hb hts (by decide +kernel) hown hK hP 0 rfl rfl 2 (by decide) (hts (.fieldLink RX1 13 "RowFiltersModel" "width" "I") (by decide +kernel)) (fun _ h9 => h9) rfl dY1_set_37 ?_
        refine lv_imul hx hb dY1_set_40 ?_
        refine lv_iload_n hx hb dY1_set_41 rfl (lv_at hl 2 rfl) ?_
        refine lv_iadd hx hb dY1_set_42 ?_
        refine W.eq (g2 := F0 m 43 ls [.int (nI (y * rl + i)), .ref b1]) (congrArg (fun z9 => F0 m 43 ls [.int z9, .ref b1]) (show (((nI y) * (nI rl)) + (nI i)) = nI (y * rl + i) from rf_ix y rl i)) ?_
        refine va_iald hx hb hK hP 1 0 rfl rfl (vp_in_nI h3 (by omega)) dY1_set_43 ?_
        refine W.eq (g2 := F0 m 44 ls [.int (g (y * rl + i))]) (congrArg (fun z9 => F0 m 44 ls [.int z9]) (show (g (nI (y * rl + i)).toNatClampNeg) = g (y * rl + i) from by rw [nI_clamp (by omega)])) ?_
        refine lv_istore hx hb dY1_set_44 hl (by decide) rfl (fun ls hl => ?_)
        have hl : lv_has ls 5 [(4, .int (g (y * rl + i))), (0, .ref h0), (1, .int (nI y)), (2, .int (nI i)), (3, .int v)] := hl
        refine lv_aload_n hx hb dY1_set_46 rfl (lv_at hl 1 rfl) ?_
        refine va_get (D := (dC, dI)) (ci := 1) (v := .ref b1) (C := RX1) (T := TY1) (N := 6) hx hb hts (by decide +kernel) hown hK hP 0 rfl rfl 4 (by decide) (hts (.fieldLink RX1 19 "RowFiltersModel" "bytes" "[I") (by decide +kernel)) (fun _ h9 => h9) rfl dY1_set_47 ?_
        refine lv_iload_n hx hb dY1_set_50 rfl (lv_at hl 2 rfl) ?_
        refine lv_aload_n hx hb dY1_set_51 rfl (lv_at hl 1 rfl) ?_
        refine va_get (D := (dC, dI)) (ci := 1) (v := .int (nI rl)) (C := RX1) (T := TY1) (N := 6) hx hb hts (by decide +kernel) hown hK hP 0 rfl rfl 2 (by decide) (hts (.fieldLink RX1 13 "RowFiltersModel" "width" "I") (by decide +kernel)) (fun _ h9 => h9) rfl dY1_set_52 ?_
        refine lv_imul hx hb dY1_set_55 ?_
        refine lv_iload_n hx hb dY1_set_56 rfl (lv_at hl 3 rfl) ?_
        refine lv_iadd hx hb dY1_set_57 ?_
        refine W.eq (g2 := F0 m 58 ls [.int (nI (y * rl + i)), .ref b1]) (congrArg (fun z9 => F0 m 58 ls [.int z9, .ref b1]) (show (((nI y) * (nI rl)) + (nI i)) = nI (y * rl + i) from rf_ix y rl i)) ?_
        refine lv_iload_n hx hb dY1_set_58 rfl (lv_at hl 4 rfl) ?_
        refine va_iast hx hb hK hP hD hS 1 0 rfl rfl (vp_in_nI h3 (by omega)) dY1_set_59 (fun H locs hP hD hS => ?_)
        have hP : va_P (dC, dI) rw_cl [(h0, .inr (1, [.int 0, .int (nI rc), .int (nI rl), .int (nI ps), .ref b1, .ref b2])), (b1, .inl (cI, 4096, .inl (upd g (nI (y * rl + i)).toNatClampNeg v))), (b2, .inl (cJ, 4096, .inl t))] H := hP
        have hD : va_D A [(h0, .inr (1, [.int 0, .int (nI rc), .int (nI rl), .int (nI ps), .ref b1, .ref b2])), (b1, .inl (cI, 4096, .inl (upd g (nI (y * rl + i)).toNatClampNeg v))), (b2, .inl (cJ, 4096, .inl t))] := hD
        rw [nI_clamp (by omega)] at hP hD
        refine lv_iload hx hb dY1_set_60 (lv_at hl 0 rfl) ?_
        exact W.iret (v := g (y * rl + i)) hx hb hr (fun t ht hW => ⟨⟨g (y * rl + i), (), rfl, rfl, by rw [ht]; exact hP, va_K.moved hW.alike hK, hD⟩, hS.F ht⟩) hS.2.2 dY1_set_62
      · exact absurd (Int32.not_le.mp q3) hv2
set_option maxHeartbeats 4000000 in
set_option maxRecDepth 100000 in
theorem c_Y1_set_bad (l : Launch) (dC : Nat → ClassId) (dI : Nat → Nat → Nat) (cI cJ : ClassId) (h0 b1 b2 : Nat) (fl : Int32) (rc rl ps : Nat) (g t : Nat → Int32) (sz : Nat) (y i v : Int32) (hb0 : rf_ot rc rl y i ∨ v < 0 ∨ 255 < v) : Met l yY1_set wsY1_set ({ frames := 1, cells := 0, slots := 0, locals := 22 }) (va_Pc [.ref h0, .int y, .int i, .int v] (rv_preD dC dI cI cJ h0 b1 b2 fl rc rl ps g t sz)) (va_Qi (fun (r : Int32) (_ : Unit) => r = 0) (fun _ t9 => rv_B dC dI cI cJ h0 b1 b2 1 rc rl ps g t (va_A (rv_W h0 b1 b2 cI cJ fl rc rl ps g t) sz) t9) (va_A (rv_W h0 b1 b2 cI cJ fl rc rl ps g t) sz)) 0 0 (va_A (rv_W h0 b1 b2 cI cJ fl rc rl ps g t) sz) := by
  refine Met.ofW (cc := cY1_set) (maxL := 5) (ret := (some .int)) (by decide) rfl ?_
  intro p e s m args below meth c s₁ B hml hv
  obtain ⟨rfl, hsz, hP, hK, hD0⟩ := hv
  have hx := B.exec
  have hb := B.bytes
  have hr := B.returns
  have hts := atoms_spec (ws := wsY1_set) B.pre
  have hown : s.vm.findClass RX1 = some m.cls := findClass_of_methodNamed B.named
  have hlocks := B.notSynchronized
  subst hsz
  have hD := hD0.self (sz := s.heap.size)
  generalize hAe : va_A (rv_W h0 b1 b2 cI cJ fl rc rl ps g t) s.heap.size = A at hD ⊢
  have hA : ∀ q : Nat, s.heap.size ≤ q → A q := fun q h => by rw [← hAe]; exact Or.inr h
  have hS : va_S A s.heap s.heap [] := va_S.rf
  have hP : va_P (dC, dI) rw_cl (rv_W h0 b1 b2 cI cJ fl rc rl ps g t) s.heap := hP
  have hl := lv_entry ([.ref h0, .int y, .int i, .int v]) (n := 5) (Nat.le_of_ble_eq_true rfl)
  rw [lg_entry_eq]
  generalize (lg_sl ([.ref h0, .int y, .int i, .int v]) ++ List.replicate (5 - (lg_sl ([.ref h0, .int y, .int i, .int v])).length) Slot.unset).toArray = ls at hl ⊢
  have hl : lv_has ls 5 [(0, .ref h0), (1, .int y), (2, .int i), (3, .int v)] := hl
  refine lv_aload_n hx hb dY1_set_0 rfl (lv_at hl 0 rfl) ?_
  refine lv_iconst (v := 0) hx hb dY1_set_1 (by decide) ?_
  refine va_put (D := (dC, dI)) (ci := 1) (v := .int 0) (ty := .int) (C := RX1) (T := TY1) (N := 6) hx hb hts (by decide +kernel) tyY1 tyY1_ok nmY1 hown hK hP hD hS 0 rfl rfl 0 (by decide) (hts (.fieldLink RX1 26 "RowFiltersModel" "failed" "I") (by decide +kernel)) (fun _ h9 => h9) rfl (by decide +kernel) rfl rfl (Nat.le_of_ble_eq_true rfl) dY1_set_2 (fun H locs hP hD hS => ?_)
  have hP : va_P (dC, dI) rw_cl [(h0, .inr (1, [.int 0, .int (nI rc), .int (nI rl), .int (nI ps), .ref b1, .ref b2])), (b1, .inl (cI, 4096, .inl g)), (b2, .inl (cJ, 4096, .inl t))] H := hP
  have hD : va_D A [(h0, .inr (1, [.int 0, .int (nI rc), .int (nI rl), .int (nI ps), .ref b1, .ref b2])), (b1, .inl (cI, 4096, .inl g)), (b2, .inl (cJ, 4096, .inl t))] := hD
  refine lv_aload_n hx hb dY1_set_5 rfl (lv_at hl 0 rfl) ?_
  refine lv_iload_n hx hb dY1_set_6 rfl (lv_at hl 1 rfl) ?_
  refine lv_iload_n hx hb dY1_set_7 rfl (lv_at hl 2 rfl) ?_
  refine vp_callSi (W.runV (C := RX1) (As := [.int y, .int i]) (rest := []) ⟨hx, hb, hml, hown, hts⟩ (c_Y1_out l dC dI cI cJ h0 b1 b2 0 rc rl ps g t y i) (cwV 2 hts gY1_set_Y1_out rfl rfl rfl (by decide +kernel) ⟨Nat.le_of_ble_eq_true rfl, Nat.le_of_ble_eq_true rfl⟩) ⟨fun a U g mk q => by obtain ⟨q0, qP, qK⟩ := q; exact ⟨q0, qP, va_K.moved (u := U) (U := U.calling g mk a) (Vm.Alike.refl U.vm) qK⟩, va_recv hK hP (ci := 1) (q0 := 0) rfl rfl, fun U hU hW => ⟨rfl, by rw [hU]; exact hP, va_K.moved hW.alike hK⟩⟩ rfl rfl hl.1 rfl (lv_room (Nat.le_of_ble_eq_true rfl)) dY1_set_8 ⟨Nat.zero_le _, Nat.zero_le _⟩) (fun ro eo => ?_)
  refine lv_if_ne (tgt := 25) hx hb dY1_set_11 (by decide) (fun q1 => ?_) (fun q1 => ?_)
  · refine lv_aload_n hx hb dY1_set_25 rfl (lv_at hl 0 rfl) ?_
    refine lv_iconst (v := 1) hx hb dY1_set_26 (by decide) ?_
    have hFc := va_free (wc := [(h0, .inr (1, [.int 0, .int (nI rc), .int (nI rl), .int (nI ps), .ref b1, .ref b2])), (b1, .inl (cI, 4096, .inl g)), (b2, .inl (cJ, 4096, .inl t))]) hD hS hA [0, 1, 2] rfl
    refine va_calli (va_runV (C := RX1) (As := [.int 1]) (rest := []) ⟨hx, hb, hml, hown, hts⟩ (c_Y1_fail l dC dI cI cJ h0 b1 b2 0 rc rl ps g t H.size 1) (cwV 1 hts gY1_set_Y1_fail rfl rfl rfl (by decide +kernel) ⟨Nat.le_of_ble_eq_true rfl, Nat.le_of_ble_eq_true rfl⟩) ⟨fun a U g mk q => by obtain ⟨q0, q1, qP, qK, qD⟩ := q; exact ⟨q0, q1, qP, va_K.moved (u := U) (U := U.calling g mk a) (Vm.Alike.refl U.vm) qK, qD⟩, va_recv hK hP (ci := 1) (q0 := 0) rfl rfl, fun U hU hW => ⟨rfl, by rw [hU], by rw [hU]; exact hP, va_K.moved hW.alike hK, hD.weaken (fun _ _ _ _ => trivial)⟩⟩ rfl rfl hl.1 rfl (lv_room (Nat.le_of_ble_eq_true rfl)) dY1_set_27 ⟨Nat.zero_le _, Nat.zero_le _⟩) hS (fun q _ h => hFc q h) hFc (fun rz u t9 H1 locs ht hvm ez hB hz1 hk1 hS => ?_)
    obtain ⟨hP1, hK1, hD1⟩ := hB
    rw [ht] at hP1
    obtain ⟨hP, hD⟩ := va_join (wr := []) (w1 := [(h0, .inr (1, [.int 1, .int (nI rc), .int (nI rl), .int (nI ps), .ref b1, .ref b2])), (b1, .inl (cI, 4096, .inl g)), (b2, .inl (cJ, 4096, .inl t))]) hP hD [0, 1, 2] [] rfl rfl (by decide) (by decide) hk1 hFc hP1 hD1
    generalize H1 = H at hP hS ⊢
    have hP : va_P (dC, dI) rw_cl [(h0, .inr (1, [.int 1, .int (nI rc), .int (nI rl), .int (nI ps), .ref b1, .ref b2])), (b1, .inl (cI, 4096, .inl g)), (b2, .inl (cJ, 4096, .inl t))] H := hP
    have hD : va_D A [(h0, .inr (1, [.int 1, .int (nI rc), .int (nI rl), .int (nI ps), .ref b1, .ref b2])), (b1, .inl (cI, 4096, .inl g)), (b2, .inl (cJ, 4096, .inl t))] := hD
    refine W.widen (k := 0) (n := 0) (Nat.le_refl _) (Nat.le_refl _) ?_
    exact W.iret (v := rz) hx hb hr (fun t ht hW => ⟨⟨rz, (), rfl, ez, by rw [ht]; exact hP, va_K.moved hW.alike hK, hD⟩, hS.F ht⟩) hS.2.2 dY1_set_30
  · refine lv_iload_n hx hb dY1_set_14 rfl (lv_at hl 3 rfl) ?_
    refine lv_if_lt (tgt := 25) hx hb dY1_set_15 (by decide) (fun q2 => ?_) (fun q2 => ?_)
    · refine lv_aload_n hx hb dY1_set_25 rfl (lv_at hl 0 rfl) ?_
      refine lv_iconst (v := 1) hx hb dY1_set_26 (by decide) ?_
      have hFc := va_free (wc := [(h0, .inr (1, [.int 0, .int (nI rc), .int (nI rl), .int (nI ps), .ref b1, .ref b2])), (b1, .inl (cI, 4096, .inl g)), (b2, .inl (cJ, 4096, .inl t))]) hD hS hA [0, 1, 2] rfl
      refine va_calli (va_runV (C := RX1) (As := [.int 1]) (rest := []) ⟨hx, hb, hml, hown, hts⟩ (c_Y1_fail l dC dI cI cJ h0 b1 b2 0 rc rl ps g t H.size 1) (cwV 1 hts gY1_set_Y1_fail rfl rfl rfl (by decide +kernel) ⟨Nat.le_of_ble_eq_true rfl, Nat.le_of_ble_eq_true rfl⟩) ⟨fun a U g mk q => by obtain ⟨q0, q1, qP, qK, qD⟩ := q; exact ⟨q0, q1, qP, va_K.moved (u := U) (U := U.calling g mk a) (Vm.Alike.refl U.vm) qK, qD⟩, va_recv hK hP (ci := 1) (q0 := 0) rfl rfl, fun U hU hW => ⟨rfl, by rw [hU], by rw [hU]; exact hP, va_K.moved hW.alike hK, hD.weaken (fun _ _ _ _ => trivial)⟩⟩ rfl rfl hl.1 rfl (lv_room (Nat.le_of_ble_eq_true rfl)) dY1_set_27 ⟨Nat.zero_le _, Nat.zero_le _⟩) hS (fun q _ h => hFc q h) hFc (fun rz u t9 H1 locs ht hvm ez hB hz1 hk1 hS => ?_)
      obtain ⟨hP1, hK1, hD1⟩ := hB
      rw [ht] at hP1
      obtain ⟨hP, hD⟩ := va_join (wr := []) (w1 := [(h0, .inr (1, [.int 1, .int (nI rc), .int (nI rl), .int (nI ps), .ref b1, .ref b2])), (b1, .inl (cI, 4096, .inl g)), (b2, .inl (cJ, 4096, .inl t))]) hP hD [0, 1, 2] [] rfl rfl (by decide) (by decide) hk1 hFc hP1 hD1
      generalize H1 = H at hP hS ⊢
      have hP : va_P (dC, dI) rw_cl [(h0, .inr (1, [.int 1, .int (nI rc), .int (nI rl), .int (nI ps), .ref b1, .ref b2])), (b1, .inl (cI, 4096, .inl g)), (b2, .inl (cJ, 4096, .inl t))] H := hP
      have hD : va_D A [(h0, .inr (1, [.int 1, .int (nI rc), .int (nI rl), .int (nI ps), .ref b1, .ref b2])), (b1, .inl (cI, 4096, .inl g)), (b2, .inl (cJ, 4096, .inl t))] := hD
      refine W.widen (k := 0) (n := 0) (Nat.le_refl _) (Nat.le_refl _) ?_
      exact W.iret (v := rz) hx hb hr (fun t ht hW => ⟨⟨rz, (), rfl, ez, by rw [ht]; exact hP, va_K.moved hW.alike hK, hD⟩, hS.F ht⟩) hS.2.2 dY1_set_30
    · refine lv_iload_n hx hb dY1_set_18 rfl (lv_at hl 3 rfl) ?_
      refine lv_sipush (v := 255) hx hb dY1_set_19 (by decide) ?_
      refine lv_icmp_le (tgt := 31) hx hb dY1_set_22 (by decide) (fun q3 => ?_) (fun q3 => ?_)
      · rcases hb0 with z | z | z
        · exact absurd ((eo.1 z).symm.trans q1) (by decide)
        · exact absurd z q2
        · exact absurd z (Int32.not_lt.mpr q3)
      · refine lv_aload_n hx hb dY1_set_25 rfl (lv_at hl 0 rfl) ?_
        refine lv_iconst (v := 1) hx hb dY1_set_26 (by decide) ?_
        have hFc := va_free (wc := [(h0, .inr (1, [.int 0, .int (nI rc), .int (nI rl), .int (nI ps), .ref b1, .ref b2])), (b1, .inl (cI, 4096, .inl g)), (b2, .inl (cJ, 4096, .inl t))]) hD hS hA [0, 1, 2] rfl
        refine va_calli (va_runV (C := RX1) (As := [.int 1]) (rest := []) ⟨hx, hb, hml, hown, hts⟩ (c_Y1_fail l dC dI cI cJ h0 b1 b2 0 rc rl ps g t H.size 1) (cwV 1 hts gY1_set_Y1_fail rfl rfl rfl (by decide +kernel) ⟨Nat.le_of_ble_eq_true rfl, Nat.le_of_ble_eq_true rfl⟩) ⟨fun a U g mk q => by obtain ⟨q0, q1, qP, qK, qD⟩ := q; exact ⟨q0, q1, qP, va_K.moved (u := U) (U := U.calling g mk a) (Vm.Alike.refl U.vm) qK, qD⟩, va_recv hK hP (ci := 1) (q0 := 0) rfl rfl, fun U hU hW => ⟨rfl, by rw [hU], by rw [hU]; exact hP, va_K.moved hW.alike hK, hD.weaken (fun _ _ _ _ => trivial)⟩⟩ rfl rfl hl.1 rfl (lv_room (Nat.le_of_ble_eq_true rfl)) dY1_set_27 ⟨Nat.zero_le _, Nat.zero_le _⟩) hS (fun q _ h => hFc q h) hFc (fun rz u t9 H1 locs ht hvm ez hB hz1 hk1 hS => ?_)
        obtain ⟨hP1, hK1, hD1⟩ := hB
        rw [ht] at hP1
        obtain ⟨hP, hD⟩ := va_join (wr := []) (w1 := [(h0, .inr (1, [.int 1, .int (nI rc), .int (nI rl), .int (nI ps), .ref b1, .ref b2])), (b1, .inl (cI, 4096, .inl g)), (b2, .inl (cJ, 4096, .inl t))]) hP hD [0, 1, 2] [] rfl rfl (by decide) (by decide) hk1 hFc hP1 hD1
        generalize H1 = H at hP hS ⊢
        have hP : va_P (dC, dI) rw_cl [(h0, .inr (1, [.int 1, .int (nI rc), .int (nI rl), .int (nI ps), .ref b1, .ref b2])), (b1, .inl (cI, 4096, .inl g)), (b2, .inl (cJ, 4096, .inl t))] H := hP
        have hD : va_D A [(h0, .inr (1, [.int 1, .int (nI rc), .int (nI rl), .int (nI ps), .ref b1, .ref b2])), (b1, .inl (cI, 4096, .inl g)), (b2, .inl (cJ, 4096, .inl t))] := hD
        refine W.widen (k := 0) (n := 0) (Nat.le_refl _) (Nat.le_refl _) ?_
        exact W.iret (v := rz) hx hb hr (fun t ht hW => ⟨⟨rz, (), rfl, ez, by rw [ht]; exact hP, va_K.moved hW.alike hK, hD⟩, hS.F ht⟩) hS.2.2 dY1_set_30
