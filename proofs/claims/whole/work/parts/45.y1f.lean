set_option maxHeartbeats 4000000 in
set_option maxRecDepth 100000 in
theorem c_Y1_fill (l : Launch) (dC : Nat → ClassId) (dI : Nat → Nat → Nat) (cI cJ : ClassId) (h0 b1 b2 : Nat) (fl : Int32) (rc rl ps : Nat) (g t : Nat → Int32) (sz : Nat) (a b z : Int32) (ok : rf_ok rc rl ps) : Met l yY1_fill wsY1_fill ({ frames := 0, cells := 0, slots := 0, locals := 0 }) (va_Pc [.ref h0, .int a, .int b, .int z] (rv_preD dC dI cI cJ h0 b1 b2 fl rc rl ps g t sz)) (va_Qv (fun _ : Unit => True) (fun _ t9 => rv_B dC dI cI cJ h0 b1 b2 0 rc rl ps (rf_p g (rf_F a b z) 0 (rc * rl)) t (va_A (rv_W h0 b1 b2 cI cJ fl rc rl ps g t) sz) t9) (va_A (rv_W h0 b1 b2 cI cJ fl rc rl ps g t) sz)) 0 0 (va_A (rv_W h0 b1 b2 cI cJ fl rc rl ps g t) sz) := by
  refine Met.ofW (cc := cY1_fill) (maxL := 5) (ret := none) (by decide) rfl ?_
  intro p e s m args below meth c s₁ B hml hv
  obtain ⟨rfl, hsz, hP, hK, hD0⟩ := hv
  have hx := B.exec
  have hb := B.bytes
  have hr := B.returns
  have hts := atoms_spec (ws := wsY1_fill) B.pre
  have hown : s.vm.findClass RX1 = some m.cls := findClass_of_methodNamed B.named
  have hlocks := B.notSynchronized
  subst hsz
  have hD := hD0.self (sz := s.heap.size)
  generalize hAe : va_A (rv_W h0 b1 b2 cI cJ fl rc rl ps g t) s.heap.size = A at hD ⊢
  have hA : ∀ q : Nat, s.heap.size ≤ q → A q := fun q h => by rw [← hAe]; exact Or.inr h
  have hS : va_S A s.heap s.heap [] := va_S.rf
  have hP : va_P (dC, dI) rw_cl (rv_W h0 b1 b2 cI cJ fl rc rl ps g t) s.heap := hP
  have hl := lv_entry ([.ref h0, .int a, .int b, .int z]) (n := 5) (Nat.le_of_ble_eq_true rfl)
  rw [lg_entry_eq]
  generalize (lg_sl ([.ref h0, .int a, .int b, .int z]) ++ List.replicate (5 - (lg_sl ([.ref h0, .int a, .int b, .int z])).length) Slot.unset).toArray = ls at hl ⊢
  have hl : lv_has ls 5 [(0, .ref h0), (1, .int a), (2, .int b), (3, .int z)] := hl
  have h1 := ok.2.2.1
  refine lv_aload_n hx hb dY1_fill_0 rfl (lv_at hl 0 rfl) ?_
  refine lv_iconst (v := 0) hx hb dY1_fill_1 (by decide) ?_
  refine va_put (D := (dC, dI)) (ci := 1) (v := .int 0) (ty := .int) (C := RX1) (T := TY1) (N := 6) hx hb hts (by decide +kernel) tyY1 tyY1_ok nmY1 hown hK hP hD hS 0 rfl rfl 0 (by decide) (hts (.fieldLink RX1 26 "RowFiltersModel" "failed" "I") (by decide +kernel)) (fun _ h9 => h9) rfl (by decide +kernel) rfl rfl (Nat.le_of_ble_eq_true rfl) dY1_fill_2 (fun H locs hP hD hS => ?_)
  have hP : va_P (dC, dI) rw_cl [(h0, .inr (1, [.int 0, .int (nI rc), .int (nI rl), .int (nI ps), .ref b1, .ref b2])), (b1, .inl (cI, 4096, .inl g)), (b2, .inl (cJ, 4096, .inl t))] H := hP
  have hD : va_D A [(h0, .inr (1, [.int 0, .int (nI rc), .int (nI rl), .int (nI ps), .ref b1, .ref b2])), (b1, .inl (cI, 4096, .inl g)), (b2, .inl (cJ, 4096, .inl t))] := hD
  refine lv_iconst (v := 0) hx hb dY1_fill_5 (by decide) ?_
  refine lv_istore hx hb dY1_fill_6 hl (by decide) rfl (fun ls hl => ?_)
  have hl : lv_has ls 5 [(4, .int 0), (0, .ref h0), (1, .int a), (2, .int b), (3, .int z)] := hl
  have e0 : g = (rf_p g (rf_F a b z) 0 (0)) := (rf_p_nil _ _ _).symm
  rw [e0] at hP hD
  refine rw_loopH (fun k : Nat => rc * rl - k) (fun k ls H locs => (k ≤ rc * rl) ∧ lv_has ls 5 [(0, .ref h0), (1, .int a), (2, .int b), (3, .int z), (4, .int (nI k))] ∧ va_P (dC, dI) rw_cl [(h0, .inr (1, [.int 0, .int (nI rc), .int (nI rl), .int (nI ps), .ref b1, .ref b2])), (b1, .inl (cI, 4096, .inl (rf_p g (rf_F a b z) 0 k))), (b2, .inl (cJ, 4096, .inl t))] H ∧ va_D A [(h0, .inr (1, [.int 0, .int (nI rc), .int (nI rl), .int (nI ps), .ref b1, .ref b2])), (b1, .inl (cI, 4096, .inl (rf_p g (rf_F a b z) 0 k))), (b2, .inl (cJ, 4096, .inl t))] ∧ va_S A s.heap H locs) ?_ (0) ⟨Nat.zero_le _, lv_sub hl [1, 2, 3, 4, 0] rfl, hP, hD, hS⟩
  intro k ls H locs hI ih
  obtain ⟨hj, hl, hP, hD, hS⟩ := hI
  refine lv_iload hx hb dY1_fill_8 (lv_at hl 4 rfl) ?_
  refine lv_aload_n hx hb dY1_fill_10 rfl (lv_at hl 0 rfl) ?_
  refine va_get (D := (dC, dI)) (ci := 1) (v := .int (nI rc)) (C := RX1) (T := TY1) (N := 6) hx hb hts (by decide +kernel) hown hK hP 0 rfl rfl 1 (by decide) (hts (.fieldLink RX1 7 "RowFiltersModel" "height" "I") (by decide +kernel)) (fun _ h9 => h9) rfl dY1_fill_11 ?_
  refine lv_aload_n hx hb dY1_fill_14 rfl (lv_at hl 0 rfl) ?_
  refine va_get (D := (dC, dI)) (ci := 1) (v := .int (nI rl)) (C := RX1) (T := TY1) (N := 6) hx hb hts (by decide +kernel) hown hK hP 0 rfl rfl 2 (by decide) (hts (.fieldLink RX1 13 "RowFiltersModel" "width" "I") (by decide +kernel)) (fun _ h9 => h9) rfl dY1_fill_15 ?_
  refine lv_imul hx hb dY1_fill_18 ?_
  refine W.eq (g2 := F0 m 19 ls [.int (nI (rc * rl)), .int (nI k)]) (congrArg (fun z9 => F0 m 19 ls [.int z9, .int (nI k)]) (show ((nI rc) * (nI rl)) = nI (rc * rl) from rf_mul rc rl)) ?_
  refine lv_icmp_ge (tgt := 52) hx hb dY1_fill_19 (by decide) (fun hc => ?_) (fun hc => ?_)
  · have hi : k = rc * rl := by have := (nI_leI (by omega) (by omega)).mp hc; omega
    rw [hi] at hP hD
    exact W.vret hx hb hr (fun t ht hW => ⟨⟨(), rfl, trivial, by rw [ht]; exact hP, va_K.moved hW.alike hK, hD⟩, hS.F ht⟩) hS.2.2 dY1_fill_52
  · have hi : k < rc * rl := Nat.lt_of_not_le (fun q => hc ((nI_leI (by omega) (by omega)).mpr q))
    refine lv_aload_n hx hb dY1_fill_22 rfl (lv_at hl 0 rfl) ?_
    refine va_get (D := (dC, dI)) (ci := 1) (v := .ref b1) (C := RX1) (T := TY1) (N := 6) hx hb hts (by decide +kernel) hown hK hP 0 rfl rfl 4 (by decide) (hts (.fieldLink RX1 19 "RowFiltersModel" "bytes" "[I") (by decide +kernel)) (fun _ h9 => h9) rfl dY1_fill_23 ?_
    refine lv_iload hx hb dY1_fill_26 (lv_at hl 4 rfl) ?_
    refine lv_iload_n hx hb dY1_fill_28 rfl (lv_at hl 1 rfl) ?_
    refine lv_iload hx hb dY1_fill_29 (lv_at hl 4 rfl) ?_
    refine lv_imul hx hb dY1_fill_31 ?_
    refine lv_iload hx hb dY1_fill_32 (lv_at hl 4 rfl) ?_
    refine lv_imul hx hb dY1_fill_34 ?_
    refine lv_iload_n hx hb dY1_fill_35 rfl (lv_at hl 2 rfl) ?_
    refine lv_iload hx hb dY1_fill_36 (lv_at hl 4 rfl) ?_
    refine lv_imul hx hb dY1_fill_38 ?_
    refine lv_iadd hx hb dY1_fill_39 ?_
    refine lv_iload_n hx hb dY1_fill_40 rfl (lv_at hl 3 rfl) ?_
    refine lv_iadd hx hb dY1_fill_41 ?_
    refine lv_bipush (v := 24) hx hb dY1_fill_42 (by decide) ?_
    refine lv_iushr hx hb dY1_fill_44 rfl ?_
    refine lv_topi (fun v ev => ?_)
    refine va_iast hx hb hK hP hD hS 1 0 rfl rfl (vp_in_nI (by omega) (by omega)) dY1_fill_45 (fun H locs hP hD hS => ?_)
    have hP : va_P (dC, dI) rw_cl [(h0, .inr (1, [.int 0, .int (nI rc), .int (nI rl), .int (nI ps), .ref b1, .ref b2])), (b1, .inl (cI, 4096, .inl (upd (rf_p g (rf_F a b z) 0 k) (nI k).toNatClampNeg v))), (b2, .inl (cJ, 4096, .inl t))] H := hP
    have hD : va_D A [(h0, .inr (1, [.int 0, .int (nI rc), .int (nI rl), .int (nI ps), .ref b1, .ref b2])), (b1, .inl (cI, 4096, .inl (upd (rf_p g (rf_F a b z) 0 k) (nI k).toNatClampNeg v))), (b2, .inl (cJ, 4096, .inl t))] := hD
    refine lv_iinc (k := 4) (v := (nI (k + 1))) hx hb dY1_fill_46 hl rfl (rf_inc k) (by decide) rfl (fun ls hl => ?_)
    have hl : lv_has ls 5 [(4, .int (nI (k + 1))), (0, .ref h0), (1, .int a), (2, .int b), (3, .int z)] := hl
    refine lv_goto (tgt := 8) hx hb dY1_fill_49 (by decide) ?_
    have e9 : (upd (rf_p g (rf_F a b z) 0 k) (nI k).toNatClampNeg v) = (rf_p g (rf_F a b z) 0 (k + 1)) := by rw [nI_clamp (by omega)]; exact rf_p_up (Nat.zero_le _) (by rw [ev]; rfl)
    rw [e9] at hP hD
    exact ih (k + 1) _ _ _ (by show rc * rl - (k + 1) < rc * rl - k; omega) ⟨by omega, lv_sub hl [1, 2, 3, 4, 0] rfl, hP, hD, hS⟩
set_option maxHeartbeats 4000000 in
set_option maxRecDepth 100000 in
theorem c_Y1_hash (l : Launch) (dC : Nat → ClassId) (dI : Nat → Nat → Nat) (cI cJ : ClassId) (h0 b1 b2 : Nat) (fl : Int32) (rc rl ps : Nat) (g t : Nat → Int32) (sz : Nat) (ok : rf_ok rc rl ps) : Met l yY1_hash wsY1_hash ({ frames := 0, cells := 0, slots := 0, locals := 0 }) (va_Pc [.ref h0] (rv_preD dC dI cI cJ h0 b1 b2 fl rc rl ps g t sz)) (va_Qi (fun (r : Int32) (_ : Unit) => r = rf_h g (rc * rl)) (fun _ t9 => rv_B dC dI cI cJ h0 b1 b2 0 rc rl ps g t (va_A (rv_W h0 b1 b2 cI cJ fl rc rl ps g t) sz) t9) (va_A (rv_W h0 b1 b2 cI cJ fl rc rl ps g t) sz)) 0 0 (va_A (rv_W h0 b1 b2 cI cJ fl rc rl ps g t) sz) := by
  refine Met.ofW (cc := cY1_hash) (maxL := 3) (ret := (some .int)) (by decide) rfl ?_
  intro p e s m args below meth c s₁ B hml hv
  obtain ⟨rfl, hsz, hP, hK, hD0⟩ := hv
  have hx := B.exec
  have hb := B.bytes
  have hr := B.returns
  have hts := atoms_spec (ws := wsY1_hash) B.pre
  have hown : s.vm.findClass RX1 = some m.cls := findClass_of_methodNamed B.named
  have hlocks := B.notSynchronized
  subst hsz
  have hD := hD0.self (sz := s.heap.size)
  generalize hAe : va_A (rv_W h0 b1 b2 cI cJ fl rc rl ps g t) s.heap.size = A at hD ⊢
  have hA : ∀ q : Nat, s.heap.size ≤ q → A q := fun q h => by rw [← hAe]; exact Or.inr h
  have hS : va_S A s.heap s.heap [] := va_S.rf
  have hP : va_P (dC, dI) rw_cl (rv_W h0 b1 b2 cI cJ fl rc rl ps g t) s.heap := hP
  have hl := lv_entry ([.ref h0]) (n := 3) (Nat.le_of_ble_eq_true rfl)
  rw [lg_entry_eq]
  generalize (lg_sl ([.ref h0]) ++ List.replicate (3 - (lg_sl ([.ref h0])).length) Slot.unset).toArray = ls at hl ⊢
  have hl : lv_has ls 3 [(0, .ref h0)] := hl
  have h1 := ok.2.2.1
  refine lv_aload_n hx hb dY1_hash_0 rfl (lv_at hl 0 rfl) ?_
  refine lv_iconst (v := 0) hx hb dY1_hash_1 (by decide) ?_
  refine va_put (D := (dC, dI)) (ci := 1) (v := .int 0) (ty := .int) (C := RX1) (T := TY1) (N := 6) hx hb hts (by decide +kernel) tyY1 tyY1_ok nmY1 hown hK hP hD hS 0 rfl rfl 0 (by decide) (hts (.fieldLink RX1 26 "RowFiltersModel" "failed" "I") (by decide +kernel)) (fun _ h9 => h9) rfl (by decide +kernel) rfl rfl (Nat.le_of_ble_eq_true rfl) dY1_hash_2 (fun H locs hP hD hS => ?_)
  have hP : va_P (dC, dI) rw_cl [(h0, .inr (1, [.int 0, .int (nI rc), .int (nI rl), .int (nI ps), .ref b1, .ref b2])), (b1, .inl (cI, 4096, .inl g)), (b2, .inl (cJ, 4096, .inl t))] H := hP
  have hD : va_D A [(h0, .inr (1, [.int 0, .int (nI rc), .int (nI rl), .int (nI ps), .ref b1, .ref b2])), (b1, .inl (cI, 4096, .inl g)), (b2, .inl (cJ, 4096, .inl t))] := hD
  refine lv_iconst (v := 1) hx hb dY1_hash_5 (by decide) ?_
  refine lv_istore_n hx hb dY1_hash_6 rfl hl (by decide) rfl (fun ls hl => ?_)
  have hl : lv_has ls 3 [(1, .int 1), (0, .ref h0)] := hl
  refine lv_iconst (v := 0) hx hb dY1_hash_7 (by decide) ?_
  refine lv_istore_n hx hb dY1_hash_8 rfl hl (by decide) rfl (fun ls hl => ?_)
  have hl : lv_has ls 3 [(2, .int 0), (1, .int 1), (0, .ref h0)] := hl
  refine rw_loop (fun k : Nat => rc * rl - k) (fun k ls => (k ≤ rc * rl) ∧ lv_has ls 3 [(0, .ref h0), (1, .int (rf_h g k)), (2, .int (nI k))]) ?_ (0) ⟨Nat.zero_le _, lv_sub hl [2, 1, 0] rfl⟩
  intro k ls hI ih
  obtain ⟨hj, hl⟩ := hI
  refine lv_iload_n hx hb dY1_hash_9 rfl (lv_at hl 2 rfl) ?_
  refine lv_aload_n hx hb dY1_hash_10 rfl (lv_at hl 0 rfl) ?_
  refine va_get (D := (dC, dI)) (ci := 1) (v := .int (nI rc)) (C := RX1) (T := TY1) (N := 6) hx hb hts (by decide +kernel) hown hK hP 0 rfl rfl 1 (by decide) (hts (.fieldLink RX1 7 "RowFiltersModel" "height" "I") (by decide +kernel)) (fun _ h9 => h9) rfl dY1_hash_11 ?_
  refine lv_aload_n hx hb dY1_hash_14 rfl (lv_at hl 0 rfl) ?_
  refine va_get (D := (dC, dI)) (ci := 1) (v := .int (nI rl)) (C := RX1) (T := TY1) (N := 6) hx hb hts (by decide +kernel) hown hK hP 0 rfl rfl 2 (by decide) (hts (.fieldLink RX1 13 "RowFiltersModel" "width" "I") (by decide +kernel)) (fun _ h9 => h9) rfl dY1_hash_15 ?_
  refine lv_imul hx hb dY1_hash_18 ?_
  refine W.eq (g2 := F0 m 19 ls [.int (nI (rc * rl)), .int (nI k)]) (congrArg (fun z9 => F0 m 19 ls [.int z9, .int (nI k)]) (show ((nI rc) * (nI rl)) = nI (rc * rl) from rf_mul rc rl)) ?_
  refine lv_icmp_ge (tgt := 40) hx hb dY1_hash_19 (by decide) (fun hc => ?_) (fun hc => ?_)
  · have hi : k = rc * rl := by have := (nI_leI (by omega) (by omega)).mp hc; omega
    refine lv_iload_n hx hb dY1_hash_40 rfl (lv_at hl 1 rfl) ?_
    exact W.iret (v := (rf_h g k)) hx hb hr (fun t ht hW => ⟨⟨(rf_h g k), (), rfl, by rw [hi], by rw [ht]; exact hP, va_K.moved hW.alike hK, hD⟩, hS.F ht⟩) hS.2.2 dY1_hash_41
  · have hi : k < rc * rl := Nat.lt_of_not_le (fun q => hc ((nI_leI (by omega) (by omega)).mpr q))
    refine lv_bipush (v := 31) hx hb dY1_hash_22 (by decide) ?_
    refine lv_iload_n hx hb dY1_hash_24 rfl (lv_at hl 1 rfl) ?_
    refine lv_imul hx hb dY1_hash_25 ?_
    refine lv_aload_n hx hb dY1_hash_26 rfl (lv_at hl 0 rfl) ?_
    refine va_get (D := (dC, dI)) (ci := 1) (v := .ref b1) (C := RX1) (T := TY1) (N := 6) hx hb hts (by decide +kernel) hown hK hP 0 rfl rfl 4 (by decide) (hts (.fieldLink RX1 19 "RowFiltersModel" "bytes" "[I") (by decide +kernel)) (fun _ h9 => h9) rfl dY1_hash_27 ?_
    refine lv_iload_n hx hb dY1_hash_30 rfl (lv_at hl 2 rfl) ?_
    refine va_iald hx hb hK hP 1 0 rfl rfl (vp_in_nI (by omega) (by omega)) dY1_hash_31 ?_
    refine W.eq (g2 := F0 m 32 ls [.int (g k), .int (31 * (rf_h g k))]) (congrArg (fun z9 => F0 m 32 ls [.int z9, .int (31 * (rf_h g k))]) (show (g (nI k).toNatClampNeg) = (g k) from by rw [nI_clamp (by omega)])) ?_
    refine lv_iadd hx hb dY1_hash_32 ?_
    refine lv_istore_n hx hb dY1_hash_33 rfl hl (by decide) rfl (fun ls hl => ?_)
    have hl : lv_has ls 3 [(1, .int ((31 * (rf_h g k)) + (g k))), (0, .ref h0), (2, .int (nI k))] := hl
    refine lv_iinc (k := 2) (v := (nI (k + 1))) hx hb dY1_hash_34 hl rfl (rf_inc k) (by decide) rfl (fun ls hl => ?_)
    have hl : lv_has ls 3 [(2, .int (nI (k + 1))), (1, .int ((31 * (rf_h g k)) + (g k))), (0, .ref h0)] := hl
    refine lv_goto (tgt := 9) hx hb dY1_hash_37 (by decide) ?_
    have e9 : rf_h g (k + 1) = (31 * rf_h g k + g k) := rfl
    rw [← e9] at hl
    exact ih (k + 1) _ (by show rc * rl - (k + 1) < rc * rl - k; omega) ⟨by omega, lv_sub hl [2, 1, 0] rfl⟩
