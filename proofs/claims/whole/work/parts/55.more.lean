abbrev rj_preD (dC : Nat → ClassId) (dI : Nat → Nat → Nat) (cI : ClassId) (ab : Nat) (f : Nat → Int32) (sz : Nat) (U : State) : Prop := U.heap.size = sz ∧ va_P (dC, dI) rw_cl [(ab, .inl (cI, 4096, .inl f))] U.heap ∧ va_K (dC, dI) rw_cl [(cI, .int)] U ∧ va_D (fun _ => True) [(ab, .inl (cI, 4096, .inl f))]
abbrev rj_B (dC : Nat → ClassId) (dI : Nat → Nat → Nat) (cI : ClassId) (ab : Nat) (f : Nat → Int32) (A : Nat → Prop) (t : State) : Prop := va_P (dC, dI) rw_cl [(ab, .inl (cI, 4096, .inl f))] t.heap ∧ va_K (dC, dI) rw_cl [(cI, .int)] t ∧ va_D A [(ab, .inl (cI, 4096, .inl f))]
set_option maxHeartbeats 4000000 in
set_option maxRecDepth 100000 in
theorem c_J7_fill_53178 (l : Launch) (dC : Nat → ClassId) (dI : Nat → Nat → Nat) (cI : ClassId) (ab : Nat) (f : Nat → Int32) (sz : Nat) (v : Int32) : Met l yJ7_fill_53178 wsJ7_fill_53178 ({ frames := 0, cells := 0, slots := 0, locals := 0 }) (va_Pc [.ref ab, .int v] (rj_preD dC dI cI ab f sz)) (va_Qv (fun _ : Unit => True) (fun _ t9 => rj_B dC dI cI ab (rf_p f (fun _ => v) 0 4096) (va_A ([(ab, .inl (cI, 4096, .inl f))]) sz) t9) (va_A ([(ab, .inl (cI, 4096, .inl f))]) sz)) 0 0 (va_A ([(ab, .inl (cI, 4096, .inl f))]) sz) := by
  refine Met.ofW (cc := cJ7_fill_53178) (maxL := 4) (ret := none) (by decide) rfl ?_
  intro p e s m args below meth c s₁ B hml hv
  obtain ⟨rfl, hsz, hP, hK, hD0⟩ := hv
  have hx := B.exec
  have hb := B.bytes
  have hr := B.returns
  have hts := atoms_spec (ws := wsJ7_fill_53178) B.pre
  have hown : s.vm.findClass RJ7 = some m.cls := findClass_of_methodNamed B.named
  have hlocks := B.notSynchronized
  subst hsz
  have hD := hD0.self (sz := s.heap.size)
  generalize hAe : va_A ([(ab, .inl (cI, 4096, .inl f))]) s.heap.size = A at hD ⊢
  have hA : ∀ q : Nat, s.heap.size ≤ q → A q := fun q h => by rw [← hAe]; exact Or.inr h
  have hS : va_S A s.heap s.heap [] := va_S.rf
  have hP : va_P (dC, dI) rw_cl ([(ab, .inl (cI, 4096, .inl f))]) s.heap := hP
  have hl := lv_entry ([.ref ab, .int v]) (n := 4) (Nat.le_of_ble_eq_true rfl)
  rw [lg_entry_eq]
  generalize (lg_sl ([.ref ab, .int v]) ++ List.replicate (4 - (lg_sl ([.ref ab, .int v])).length) Slot.unset).toArray = ls at hl ⊢
  have hl : lv_has ls 4 [(0, .ref ab), (1, .int v)] := hl
  refine lv_iconst (v := 0) hx hb dJ7_fill_53178_0 (by decide) ?_
  refine lv_istore_n hx hb dJ7_fill_53178_1 rfl hl (by decide) rfl (fun ls hl => ?_)
  have hl : lv_has ls 4 [(2, .int 0), (0, .ref ab), (1, .int v)] := hl
  refine lv_aload_n hx hb dJ7_fill_53178_2 rfl (lv_at hl 1 rfl) ?_
  refine va_alen (v := 4096) hx hb hK hP 0 0 rfl rfl rfl dJ7_fill_53178_3 ?_
  refine lv_istore_n hx hb dJ7_fill_53178_4 rfl hl (by decide) rfl (fun ls hl => ?_)
  have hl : lv_has ls 4 [(3, .int 4096), (2, .int 0), (0, .ref ab), (1, .int v)] := hl
  have e0 : f = (rf_p f (fun _ => v) 0 (0)) := (rf_p_nil _ _ _).symm
  rw [e0] at hP hD
  refine rw_loopH (fun k : Nat => 4096 - k) (fun k ls H locs => (k ≤ 4096) ∧ lv_has ls 4 [(0, .ref ab), (1, .int v), (2, .int (nI k)), (3, .int 4096)] ∧ va_P (dC, dI) rw_cl [(ab, .inl (cI, 4096, .inl (rf_p f (fun _ => v) 0 k)))] H ∧ va_D A [(ab, .inl (cI, 4096, .inl (rf_p f (fun _ => v) 0 k)))] ∧ va_S A s.heap H locs) ?_ (0) ⟨Nat.zero_le _, lv_sub hl [2, 3, 1, 0] rfl, hP, hD, hS⟩
  intro k ls H locs hI ih
  obtain ⟨hj, hl, hP, hD, hS⟩ := hI
  refine lv_iload_n hx hb dJ7_fill_53178_5 rfl (lv_at hl 2 rfl) ?_
  refine lv_iload_n hx hb dJ7_fill_53178_6 rfl (lv_at hl 3 rfl) ?_
  refine lv_icmp_ge (tgt := 20) hx hb dJ7_fill_53178_7 (by decide) (fun hc => ?_) (fun hc => ?_)
  · have hi : k = 4096 := by have := (nI_leI (a := 4096) (by omega) (by omega)).mp hc; omega
    rw [hi] at hP hD
    exact W.vret hx hb hr (fun t ht hW => ⟨⟨(), rfl, trivial, by rw [ht]; exact hP, va_K.moved hW.alike hK, hD⟩, hS.F ht⟩) hS.2.2 dJ7_fill_53178_20
  · have hi : k < 4096 := Nat.lt_of_not_le (fun q => hc ((nI_leI (a := 4096) (by omega) (by omega)).mpr q))
    refine lv_aload_n hx hb dJ7_fill_53178_10 rfl (lv_at hl 0 rfl) ?_
    refine lv_iload_n hx hb dJ7_fill_53178_11 rfl (lv_at hl 2 rfl) ?_
    refine lv_iload_n hx hb dJ7_fill_53178_12 rfl (lv_at hl 1 rfl) ?_
    refine va_iast hx hb hK hP hD hS 0 0 rfl rfl (vp_in_nI (by omega) (by omega)) dJ7_fill_53178_13 (fun H locs hP hD hS => ?_)
    have hP : va_P (dC, dI) rw_cl [(ab, .inl (cI, 4096, .inl (upd (rf_p f (fun _ => v) 0 k) (nI k).toNatClampNeg v)))] H := hP
    have hD : va_D A [(ab, .inl (cI, 4096, .inl (upd (rf_p f (fun _ => v) 0 k) (nI k).toNatClampNeg v)))] := hD
    refine lv_iinc (k := 2) (v := (nI (k + 1))) hx hb dJ7_fill_53178_14 hl rfl (rf_inc k) (by decide) rfl (fun ls hl => ?_)
    have hl : lv_has ls 4 [(2, .int (nI (k + 1))), (0, .ref ab), (1, .int v), (3, .int 4096)] := hl
    refine lv_goto (tgt := 5) hx hb dJ7_fill_53178_17 (by decide) ?_
    have e9 : (upd (rf_p f (fun _ => v) 0 k) (nI k).toNatClampNeg v) = (rf_p f (fun _ => v) 0 (k + 1)) := by rw [nI_clamp (by omega)]; exact rf_p_up (Nat.zero_le _) rfl
    rw [e9] at hP hD
    exact ih (k + 1) _ _ _ (by show 4096 - (k + 1) < 4096 - k; omega) ⟨by omega, lv_sub hl [1, 2, 0, 3] rfl, hP, hD, hS⟩
set_option maxHeartbeats 4000000 in
set_option maxRecDepth 100000 in
theorem c_X0_open (l : Launch) (dC : Nat → ClassId) (dI : Nat → Nat → Nat) (cI : ClassId) (h0 ab rc rl ps : Nat) (f : Nat → Int32) (sz : Nat) (h n z : Nat) (ok : rf_ok h n z) : Met l yX0_open wsX0_open ({ frames := 1, cells := 0, slots := 0, locals := 23 }) (va_Pc [.ref h0, .int (nI h), .int (nI n), .int (nI z)] (rw_preD dC dI cI h0 ab rc rl ps f sz)) (va_Qv (fun _ : Unit => True) (fun _ t9 => rw_B dC dI cI h0 ab h n z (rf_p f (fun _ => 0) 0 4096) (va_A (rw_W h0 ab cI rc rl ps f) sz) t9) (va_A (rw_W h0 ab cI rc rl ps f) sz)) 0 0 (va_A (rw_W h0 ab cI rc rl ps f) sz) := by
  refine Met.ofW (cc := cX0_open) (maxL := 4) (ret := none) (by decide) rfl ?_
  intro p e s m args below meth c s₁ B hml hv
  obtain ⟨rfl, hsz, hP, hK, hD0⟩ := hv
  have hx := B.exec
  have hb := B.bytes
  have hr := B.returns
  have hts := atoms_spec (ws := wsX0_open) B.pre
  have hown : s.vm.findClass RX0 = some m.cls := findClass_of_methodNamed B.named
  have hlocks := B.notSynchronized
  subst hsz
  have hD := hD0.self (sz := s.heap.size)
  generalize hAe : va_A (rw_W h0 ab cI rc rl ps f) s.heap.size = A at hD ⊢
  have hA : ∀ q : Nat, s.heap.size ≤ q → A q := fun q h => by rw [← hAe]; exact Or.inr h
  have hS : va_S A s.heap s.heap [] := va_S.rf
  have hP : va_P (dC, dI) rw_cl (rw_W h0 ab cI rc rl ps f) s.heap := hP
  have hl := lv_entry ([.ref h0, .int (nI h), .int (nI n), .int (nI z)]) (n := 4) (Nat.le_of_ble_eq_true rfl)
  rw [lg_entry_eq]
  generalize (lg_sl ([.ref h0, .int (nI h), .int (nI n), .int (nI z)]) ++ List.replicate (4 - (lg_sl ([.ref h0, .int (nI h), .int (nI n), .int (nI z)])).length) Slot.unset).toArray = ls at hl ⊢
  have hl : lv_has ls 4 [(0, .ref h0), (1, .int (nI h)), (2, .int (nI n)), (3, .int (nI z))] := hl
  have h1 := ok.rc
  have h2 := ok.rl
  have h3 := ok.2.2.1
  have h4 := ok.2.2.2.2
  have h5 : 1 ≤ h * n := Nat.mul_pos ok.1 ok.2.1
  refine lv_iload_n hx hb dX0_open_0 rfl (lv_at hl 1 rfl) ?_
  refine lv_iconst (v := 1) hx hb dX0_open_1 (by decide) ?_
  refine lv_sipush (v := 4096) hx hb dX0_open_2 (by decide) ?_
  refine va_csv (W.runS (As := [.int (nI h), .int 1, .int 4096]) (rest := []) ⟨hx, hb, hml, hown, hts⟩ (c_X0_requireWithin l (nI h) 1 4096 (nI_nlt (b := 1) ok.1 (by omega)) (nI_nlt (a := 4096) h1 (by omega))) (va_cwS 3 hts gX0_open_X0_requireWithin rfl rfl rfl (by decide +kernel) ⟨Nat.le_of_ble_eq_true rfl, Nat.le_of_ble_eq_true rfl⟩) ⟨fun _ _ _ _ q => q, fun U hU hW => ⟨rfl, trivial⟩⟩ rfl rfl hl.1 rfl (lv_room (Nat.le_of_ble_eq_true rfl)) dX0_open_5 ⟨Nat.zero_le _, Nat.zero_le _⟩) (fun _ => ?_)
  refine lv_iload_n hx hb dX0_open_8 rfl (lv_at hl 2 rfl) ?_
  refine lv_iconst (v := 1) hx hb dX0_open_9 (by decide) ?_
  refine lv_sipush (v := 4096) hx hb dX0_open_10 (by decide) ?_
  refine va_csv (W.runS (As := [.int (nI n), .int 1, .int 4096]) (rest := []) ⟨hx, hb, hml, hown, hts⟩ (c_X0_requireWithin l (nI n) 1 4096 (nI_nlt (b := 1) ok.2.1 (by omega)) (nI_nlt (a := 4096) h2 (by omega))) (va_cwS 3 hts gX0_open_X0_requireWithin rfl rfl rfl (by decide +kernel) ⟨Nat.le_of_ble_eq_true rfl, Nat.le_of_ble_eq_true rfl⟩) ⟨fun _ _ _ _ q => q, fun U hU hW => ⟨rfl, trivial⟩⟩ rfl rfl hl.1 rfl (lv_room (Nat.le_of_ble_eq_true rfl)) dX0_open_13 ⟨Nat.zero_le _, Nat.zero_le _⟩) (fun _ => ?_)
  refine lv_iload_n hx hb dX0_open_16 rfl (lv_at hl 1 rfl) ?_
  refine lv_iload_n hx hb dX0_open_17 rfl (lv_at hl 2 rfl) ?_
  refine lv_imul hx hb dX0_open_18 ?_
  refine W.eq (g2 := F0 m 19 ls [.int (nI (h * n))]) (congrArg (fun z9 => F0 m 19 ls [.int z9]) (show ((nI h) * (nI n)) = nI (h * n) from rf_mul h n)) ?_
  refine lv_iconst (v := 1) hx hb dX0_open_19 (by decide) ?_
  refine lv_sipush (v := 4096) hx hb dX0_open_20 (by decide) ?_
  refine va_csv (W.runS (As := [.int (nI (h * n)), .int 1, .int 4096]) (rest := []) ⟨hx, hb, hml, hown, hts⟩ (c_X0_requireWithin l (nI (h * n)) 1 4096 (nI_nlt (b := 1) h5 (by omega)) (nI_nlt (a := 4096) h3 (by omega))) (va_cwS 3 hts gX0_open_X0_requireWithin rfl rfl rfl (by decide +kernel) ⟨Nat.le_of_ble_eq_true rfl, Nat.le_of_ble_eq_true rfl⟩) ⟨fun _ _ _ _ q => q, fun U hU hW => ⟨rfl, trivial⟩⟩ rfl rfl hl.1 rfl (lv_room (Nat.le_of_ble_eq_true rfl)) dX0_open_23 ⟨Nat.zero_le _, Nat.zero_le _⟩) (fun _ => ?_)
  refine lv_iload_n hx hb dX0_open_26 rfl (lv_at hl 3 rfl) ?_
  refine lv_iconst (v := 1) hx hb dX0_open_27 (by decide) ?_
  refine lv_bipush (v := 8) hx hb dX0_open_28 (by decide) ?_
  refine va_csv (W.runS (As := [.int (nI z), .int 1, .int 8]) (rest := []) ⟨hx, hb, hml, hown, hts⟩ (c_X0_requireWithin l (nI z) 1 8 (nI_nlt (b := 1) ok.2.2.2.1 (by omega)) (nI_nlt (a := 8) h4 (by omega))) (va_cwS 3 hts gX0_open_X0_requireWithin rfl rfl rfl (by decide +kernel) ⟨Nat.le_of_ble_eq_true rfl, Nat.le_of_ble_eq_true rfl⟩) ⟨fun _ _ _ _ q => q, fun U hU hW => ⟨rfl, trivial⟩⟩ rfl rfl hl.1 rfl (lv_room (Nat.le_of_ble_eq_true rfl)) dX0_open_30 ⟨Nat.zero_le _, Nat.zero_le _⟩) (fun _ => ?_)
  refine lv_aload_n hx hb dX0_open_33 rfl (lv_at hl 0 rfl) ?_
  refine lv_iload_n hx hb dX0_open_34 rfl (lv_at hl 1 rfl) ?_
  refine va_put (D := (dC, dI)) (ci := 0) (v := .int (nI h)) (ty := .int) (C := RX0) (T := TX0) (N := 4) hx hb hts (by decide +kernel) tyX0 tyX0_ok nmX0 hown hK hP hD hS 0 rfl rfl 1 (by decide) (hts (.fieldLink RX0 13 "RowFilters" "rowCount" "I") (by decide +kernel)) (fun _ h9 => h9) rfl (by decide +kernel) rfl rfl (Nat.le_of_ble_eq_true rfl) dX0_open_35 (fun H locs hP hD hS => ?_)
  have hP : va_P (dC, dI) rw_cl [(h0, .inr (0, [.ref ab, .int (nI h), .int (nI rl), .int (nI ps)])), (ab, .inl (cI, 4096, .inl f))] H := hP
  have hD : va_D A [(h0, .inr (0, [.ref ab, .int (nI h), .int (nI rl), .int (nI ps)])), (ab, .inl (cI, 4096, .inl f))] := hD
  refine lv_aload_n hx hb dX0_open_38 rfl (lv_at hl 0 rfl) ?_
  refine lv_iload_n hx hb dX0_open_39 rfl (lv_at hl 2 rfl) ?_
  refine va_put (D := (dC, dI)) (ci := 0) (v := .int (nI n)) (ty := .int) (C := RX0) (T := TX0) (N := 4) hx hb hts (by decide +kernel) tyX0 tyX0_ok nmX0 hown hK hP hD hS 0 rfl rfl 2 (by decide) (hts (.fieldLink RX0 17 "RowFilters" "rowLength" "I") (by decide +kernel)) (fun _ h9 => h9) rfl (by decide +kernel) rfl rfl (Nat.le_of_ble_eq_true rfl) dX0_open_40 (fun H locs hP hD hS => ?_)
  have hP : va_P (dC, dI) rw_cl [(h0, .inr (0, [.ref ab, .int (nI h), .int (nI n), .int (nI ps)])), (ab, .inl (cI, 4096, .inl f))] H := hP
  have hD : va_D A [(h0, .inr (0, [.ref ab, .int (nI h), .int (nI n), .int (nI ps)])), (ab, .inl (cI, 4096, .inl f))] := hD
  refine lv_aload_n hx hb dX0_open_43 rfl (lv_at hl 0 rfl) ?_
  refine lv_iload_n hx hb dX0_open_44 rfl (lv_at hl 3 rfl) ?_
  refine va_put (D := (dC, dI)) (ci := 0) (v := .int (nI z)) (ty := .int) (C := RX0) (T := TX0) (N := 4) hx hb hts (by decide +kernel) tyX0 tyX0_ok nmX0 hown hK hP hD hS 0 rfl rfl 3 (by decide) (hts (.fieldLink RX0 20 "RowFilters" "pointSize" "I") (by decide +kernel)) (fun _ h9 => h9) rfl (by decide +kernel) rfl rfl (Nat.le_of_ble_eq_true rfl) dX0_open_45 (fun H locs hP hD hS => ?_)
  have hP : va_P (dC, dI) rw_cl [(h0, .inr (0, [.ref ab, .int (nI h), .int (nI n), .int (nI z)])), (ab, .inl (cI, 4096, .inl f))] H := hP
  have hD : va_D A [(h0, .inr (0, [.ref ab, .int (nI h), .int (nI n), .int (nI z)])), (ab, .inl (cI, 4096, .inl f))] := hD
  refine lv_aload_n hx hb dX0_open_48 rfl (lv_at hl 0 rfl) ?_
  refine va_get (D := (dC, dI)) (ci := 0) (v := .ref ab) (C := RX0) (T := TX0) (N := 4) hx hb hts (by decide +kernel) hown hK hP 0 rfl rfl 0 (by decide) (hts (.fieldLink RX0 9 "RowFilters" "bytes" "[I") (by decide +kernel)) (fun _ h9 => h9) rfl dX0_open_49 ?_
  refine lv_iconst (v := 0) hx hb dX0_open_52 (by decide) ?_
  have hPc := hP.sub (ws' := [(ab, .inl (cI, 4096, .inl f))]) [1] rfl
  have hDc := hD.sub (ws' := [(ab, .inl (cI, 4096, .inl f))]) [1] (by decide) rfl
  have hFc := va_free (wc := [(ab, .inl (cI, 4096, .inl f))]) hD hS hA [1] rfl
  refine va_callv (va_runS (As := [.ref ab, .int 0]) (rest := []) ⟨hx, hb, hml, hown, hts⟩ (c_J7_fill_53178 l dC dI cI ab f H.size 0) (va_cwS 2 hts gX0_open_J7_fill_53178 rfl rfl rfl (by decide +kernel) ⟨Nat.le_of_ble_eq_true rfl, Nat.le_of_ble_eq_true rfl⟩) ⟨fun a U g mk q => by obtain ⟨q0, q1, qP, qK, qD⟩ := q; exact ⟨q0, q1, qP, va_K.moved (u := U) (U := U.calling g mk a) (Vm.Alike.refl U.vm) qK, qD⟩, fun U hU hW => ⟨rfl, by rw [hU], by rw [hU]; exact hPc, va_K.moved hW.alike hK, hDc.weaken (fun _ _ _ _ => trivial)⟩⟩ rfl rfl hl.1 rfl (lv_room (Nat.le_of_ble_eq_true rfl)) dX0_open_53 ⟨Nat.zero_le _, Nat.zero_le _⟩) hS (fun q _ h => hFc q h) hFc (fun u t9 H1 locs ht hvm hw hB hz1 hk1 hS => ?_)
  obtain ⟨hP1, hK1, hD1⟩ := hB
  rw [ht] at hP1
  obtain ⟨hP, hD⟩ := va_join (wr := [(h0, .inr (0, [.ref ab, .int (nI h), .int (nI n), .int (nI z)]))]) (w1 := [(ab, .inl (cI, 4096, .inl (rf_p f (fun _ => 0) 0 4096)))]) hP hD [1] [0] rfl rfl (by decide) (by decide) hk1 hFc hP1 hD1
  generalize H1 = H at hP hS ⊢
  have hP : va_P (dC, dI) rw_cl [(h0, .inr (0, [.ref ab, .int (nI h), .int (nI n), .int (nI z)])), (ab, .inl (cI, 4096, .inl (rf_p f (fun _ => 0) 0 4096)))] H := hP
  have hD : va_D A [(h0, .inr (0, [.ref ab, .int (nI h), .int (nI n), .int (nI z)])), (ab, .inl (cI, 4096, .inl (rf_p f (fun _ => 0) 0 4096)))] := hD
  refine W.widen (k := 0) (n := 0) (Nat.le_refl _) (Nat.le_refl _) ?_
  exact W.vret hx hb hr (fun t ht hW => ⟨⟨(), rfl, trivial, by rw [ht]; exact hP, va_K.moved hW.alike hK, hD⟩, hS.F ht⟩) hS.2.2 dX0_open_56
