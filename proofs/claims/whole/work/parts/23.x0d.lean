set_option maxHeartbeats 4000000 in
set_option maxRecDepth 100000 in
theorem c_X0_tellRow (l : Launch) (dC : Nat → ClassId) (dI : Nat → Nat → Nat) (cI : ClassId) (h0 ab rc rl ps : Nat) (f : Nat → Int32) (sz : Nat) (y q : Nat) (ok : rf_ok rc rl ps) (hy : y < rc) (hq : q ≤ 4) : Met l yX0_tellRow wsX0_tellRow ({ frames := 3, cells := 0, slots := 0, locals := 64 }) (va_Pc [.ref h0, .int (nI y), .int (nI q)] (rw_preD dC dI cI h0 ab rc rl ps f sz)) (va_Qv (fun _ : Unit => True) (fun _ t9 => rw_B dC dI cI h0 ab rc rl ps (rf_p f (rf_tv f rl ps y q) (y * rl) (y * rl + rl)) (va_A (rw_W h0 ab cI rc rl ps f) sz) t9) (va_A (rw_W h0 ab cI rc rl ps f) sz)) 0 0 (va_A (rw_W h0 ab cI rc rl ps f) sz) := by
  refine Met.ofW (cc := cX0_tellRow) (maxL := 5) (ret := none) (by decide) rfl ?_
  intro p e s m args below meth c s₁ B hml hv
  obtain ⟨rfl, hsz, hP, hK, hD0⟩ := hv
  have hx := B.exec
  have hb := B.bytes
  have hr := B.returns
  have hts := atoms_spec (ws := wsX0_tellRow) B.pre
  have hown : s.vm.findClass RX0 = some m.cls := findClass_of_methodNamed B.named
  have hlocks := B.notSynchronized
  subst hsz
  have hD := hD0.self (sz := s.heap.size)
  generalize hAe : va_A (rw_W h0 ab cI rc rl ps f) s.heap.size = A at hD ⊢
  have hA : ∀ q : Nat, s.heap.size ≤ q → A q := fun q h => by rw [← hAe]; exact Or.inr h
  have hS : va_S A s.heap s.heap [] := va_S.rf
  have hP : va_P (dC, dI) rw_cl (rw_W h0 ab cI rc rl ps f) s.heap := hP
  have hl := lv_entry ([.ref h0, .int (nI y), .int (nI q)]) (n := 5) (Nat.le_of_ble_eq_true rfl)
  rw [lg_entry_eq]
  generalize (lg_sl ([.ref h0, .int (nI y), .int (nI q)]) ++ List.replicate (5 - (lg_sl ([.ref h0, .int (nI y), .int (nI q)])).length) Slot.unset).toArray = ls at hl ⊢
  have hl : lv_has ls 5 [(0, .ref h0), (1, .int (nI y)), (2, .int (nI q))] := hl
  have h1 := ok.rc
  have h2 := ok.rl
  have h5 := rf_row rl hy
  have h6 := ok.2.2.1
  refine lv_aload_n hx hb dX0_tellRow_0 rfl (lv_at hl 0 rfl) ?_
  refine va_get (D := (dC, dI)) (ci := 0) (v := .int (nI rl)) (C := RX0) (T := TX0) (N := 4) hx hb hts (by decide +kernel) hown hK hP 0 rfl rfl 2 (by decide) (hts (.fieldLink RX0 17 "RowFilters" "rowLength" "I") (by decide +kernel)) (fun _ h9 => h9) rfl dX0_tellRow_1 ?_
  refine lv_iconst (v := 1) hx hb dX0_tellRow_4 (by decide) ?_
  refine lv_isub hx hb dX0_tellRow_5 ?_
  refine lv_istore_n hx hb dX0_tellRow_6 rfl hl (by decide) rfl (fun ls hl => ?_)
  have hl : lv_has ls 5 [(3, .int ((nI rl) - 1)), (0, .ref h0), (1, .int (nI y)), (2, .int (nI q))] := hl
  have e0 : f = (rf_p f (rf_tv f rl ps y q) (y * rl + (rl)) (y * rl + rl)) := (rf_p_nil _ _ _).symm
  rw [e0] at hP hD
  refine rw_loopH (fun j : Nat => j) (fun j ls H locs => (j ≤ rl) ∧ lv_has ls 5 [(0, .ref h0), (1, .int (nI y)), (2, .int (nI q)), (3, .int (nI j - 1))] ∧ va_P (dC, dI) rw_cl [(h0, .inr (0, [.ref ab, .int (nI rc), .int (nI rl), .int (nI ps)])), (ab, .inl (cI, 4096, .inl (rf_p f (rf_tv f rl ps y q) (y * rl + j) (y * rl + rl))))] H ∧ va_D A [(h0, .inr (0, [.ref ab, .int (nI rc), .int (nI rl), .int (nI ps)])), (ab, .inl (cI, 4096, .inl (rf_p f (rf_tv f rl ps y q) (y * rl + j) (y * rl + rl))))] ∧ va_S A s.heap H locs) ?_ (rl) ⟨Nat.le_refl _, lv_sub hl [1, 2, 3, 0] rfl, hP, hD, hS⟩
  intro j ls H locs hI ih
  obtain ⟨hj, hl, hP, hD, hS⟩ := hI
  refine lv_iload_n hx hb dX0_tellRow_7 rfl (lv_at hl 3 rfl) ?_
  refine lv_if_lt (tgt := 53) hx hb dX0_tellRow_8 (by decide) (fun hc => ?_) (fun hc => ?_)
  · obtain rfl : j = 0 := rf_dn0 (by omega) hc
    exact W.vret hx hb hr (fun t ht hW => ⟨⟨(), rfl, trivial, by rw [ht]; exact hP, va_K.moved hW.alike hK, hD⟩, hS.F ht⟩) hS.2.2 dX0_tellRow_53
  · obtain ⟨z, rfl⟩ := rf_dn1 hc
    rw [nI_pred] at hl
    have hl : lv_has ls 5 [(0, .ref h0), (1, .int (nI y)), (2, .int (nI q)), (3, .int (nI z))] := hl
    have h3 := ok.k hy (show z < rl by omega)
    refine lv_iload_n hx hb dX0_tellRow_11 rfl (lv_at hl 1 rfl) ?_
    refine lv_aload_n hx hb dX0_tellRow_12 rfl (lv_at hl 0 rfl) ?_
    refine va_get (D := (dC, dI)) (ci := 0) (v := .int (nI rl)) (C := RX0) (T := TX0) (N := 4) hx hb hts (by decide +kernel) hown hK hP 0 rfl rfl 2 (by decide) (hts (.fieldLink RX0 17 "RowFilters" "rowLength" "I") (by decide +kernel)) (fun _ h9 => h9) rfl dX0_tellRow_13 ?_
    refine lv_imul hx hb dX0_tellRow_16 ?_
    refine lv_iload_n hx hb dX0_tellRow_17 rfl (lv_at hl 3 rfl) ?_
    refine lv_iadd hx hb dX0_tellRow_18 ?_
    refine W.eq (g2 := F0 m 19 ls [.int (nI (y * rl + z))]) (congrArg (fun z9 => F0 m 19 ls [.int z9]) (show (((nI y) * (nI rl)) + (nI z)) = nI (y * rl + z) from rf_ix y rl z)) ?_
    refine lv_istore hx hb dX0_tellRow_19 hl (by decide) rfl (fun ls hl => ?_)
    have hl : lv_has ls 5 [(4, .int (nI (y * rl + z))), (0, .ref h0), (1, .int (nI y)), (2, .int (nI q)), (3, .int (nI z))] := hl
    refine lv_aload_n hx hb dX0_tellRow_21 rfl (lv_at hl 1 rfl) ?_
    refine va_get (D := (dC, dI)) (ci := 0) (v := .ref ab) (C := RX0) (T := TX0) (N := 4) hx hb hts (by decide +kernel) hown hK hP 0 rfl rfl 0 (by decide) (hts (.fieldLink RX0 9 "RowFilters" "bytes" "[I") (by decide +kernel)) (fun _ h9 => h9) rfl dX0_tellRow_22 ?_
    refine lv_iload hx hb dX0_tellRow_25 (lv_at hl 0 rfl) ?_
    refine lv_aload_n hx hb dX0_tellRow_27 rfl (lv_at hl 1 rfl) ?_
    refine va_get (D := (dC, dI)) (ci := 0) (v := .ref ab) (C := RX0) (T := TX0) (N := 4) hx hb hts (by decide +kernel) hown hK hP 0 rfl rfl 0 (by decide) (hts (.fieldLink RX0 9 "RowFilters" "bytes" "[I") (by decide +kernel)) (fun _ h9 => h9) rfl dX0_tellRow_28 ?_
    refine lv_iload hx hb dX0_tellRow_31 (lv_at hl 0 rfl) ?_
    refine va_iald hx hb hK hP 1 0 rfl rfl (vp_in_nI h3 (by omega)) dX0_tellRow_33 ?_
    refine lv_topi (fun v ev => ?_)
    rw [nI_clamp (by omega), rf_p_out (by omega)] at ev
    refine lv_aload_n hx hb dX0_tellRow_34 rfl (lv_at hl 1 rfl) ?_
    refine lv_iload_n hx hb dX0_tellRow_35 rfl (lv_at hl 2 rfl) ?_
    refine lv_iload_n hx hb dX0_tellRow_36 rfl (lv_at hl 4 rfl) ?_
    refine lv_iload_n hx hb dX0_tellRow_37 rfl (lv_at hl 3 rfl) ?_
    refine vp_callSi (W.runV (C := RX0) (As := [.int (nI y), .int (nI z), .int (nI q)]) (rest := [.int v, .int (nI (y * rl + z)), .ref ab]) ⟨hx, hb, hml, hown, hts⟩ (c_X0_foretold l dC dI cI h0 ab rc rl ps (rf_p f (rf_tv f rl ps y q) (y * rl + (z + 1)) (y * rl + rl)) y z q ok hy (by omega) hq) (cwV 3 hts gX0_tellRow_X0_foretold rfl rfl rfl (by decide +kernel) ⟨Nat.le_of_ble_eq_true rfl, Nat.le_of_ble_eq_true rfl⟩) ⟨fun a U g mk q => by obtain ⟨q0, qP, qK⟩ := q; exact ⟨q0, qP, va_K.moved (u := U) (U := U.calling g mk a) (Vm.Alike.refl U.vm) qK⟩, va_recv hK hP (ci := 0) (q0 := 0) rfl rfl, fun U hU hW => ⟨rfl, by rw [hU]; exact hP, va_K.moved hW.alike hK⟩⟩ rfl rfl hl.1 rfl (lv_room (Nat.le_of_ble_eq_true rfl)) dX0_tellRow_38 ⟨Nat.zero_le _, Nat.zero_le _⟩) (fun rg eg => ?_)
    rw [rf_g_c (g := f) ok.2.2.2.1 (by omega) (fun k hk => rf_p_out (by omega))] at eg
    refine lv_isub hx hb dX0_tellRow_41 ?_
    refine lv_sipush (v := 255) hx hb dX0_tellRow_42 (by decide) ?_
    refine lv_iand hx hb dX0_tellRow_45 ?_
    refine va_iast hx hb hK hP hD hS 1 0 rfl rfl (vp_in_nI h3 (by omega)) dX0_tellRow_46 (fun H locs hP hD hS => ?_)
    have hP : va_P (dC, dI) rw_cl [(h0, .inr (0, [.ref ab, .int (nI rc), .int (nI rl), .int (nI ps)])), (ab, .inl (cI, 4096, .inl (upd (rf_p f (rf_tv f rl ps y q) (y * rl + (z + 1)) (y * rl + rl)) (nI (y * rl + z)).toNatClampNeg ((v - rg) &&& 255))))] H := hP
    have hD : va_D A [(h0, .inr (0, [.ref ab, .int (nI rc), .int (nI rl), .int (nI ps)])), (ab, .inl (cI, 4096, .inl (upd (rf_p f (rf_tv f rl ps y q) (y * rl + (z + 1)) (y * rl + rl)) (nI (y * rl + z)).toNatClampNeg ((v - rg) &&& 255))))] := hD
    refine lv_iinc (k := 4) (v := (nI z - 1)) hx hb dX0_tellRow_47 hl rfl (rf_dec z) (by decide) rfl (fun ls hl => ?_)
    have hl : lv_has ls 5 [(3, .int (nI z - 1)), (4, .int (nI (y * rl + z))), (0, .ref h0), (1, .int (nI y)), (2, .int (nI q))] := hl
    refine lv_goto (tgt := 7) hx hb dX0_tellRow_50 (by decide) ?_
    have e9 : (upd (rf_p f (rf_tv f rl ps y q) (y * rl + (z + 1)) (y * rl + rl)) (nI (y * rl + z)).toNatClampNeg ((v - rg) &&& 255)) = (rf_p f (rf_tv f rl ps y q) (y * rl + z) (y * rl + rl)) := by rw [nI_clamp (by omega)]; exact rf_p_dn (lo := y * rl + z) (hi := y * rl + rl) (by omega) (by rw [ev, eg]; unfold rf_tv rf_t; rw [Nat.add_sub_cancel_left])
    rw [e9] at hP hD
    exact ih (z) _ _ _ (Nat.lt_succ_self z) ⟨by omega, lv_sub hl [2, 3, 4, 0] rfl, hP, hD, hS⟩
set_option maxHeartbeats 4000000 in
set_option maxRecDepth 100000 in
theorem c_X0_restoreRow (l : Launch) (dC : Nat → ClassId) (dI : Nat → Nat → Nat) (cI : ClassId) (h0 ab rc rl ps : Nat) (f : Nat → Int32) (sz : Nat) (y q : Nat) (ok : rf_ok rc rl ps) (hy : y < rc) (hq : q ≤ 4) : Met l yX0_restoreRow wsX0_restoreRow ({ frames := 3, cells := 0, slots := 0, locals := 64 }) (va_Pc [.ref h0, .int (nI y), .int (nI q)] (rw_preD dC dI cI h0 ab rc rl ps f sz)) (va_Qv (fun _ : Unit => True) (fun _ t9 => rw_B dC dI cI h0 ab rc rl ps (rf_U f rl ps y q rl) (va_A (rw_W h0 ab cI rc rl ps f) sz) t9) (va_A (rw_W h0 ab cI rc rl ps f) sz)) 0 0 (va_A (rw_W h0 ab cI rc rl ps f) sz) := by
  refine Met.ofW (cc := cX0_restoreRow) (maxL := 5) (ret := none) (by decide) rfl ?_
  intro p e s m args below meth c s₁ B hml hv
  obtain ⟨rfl, hsz, hP, hK, hD0⟩ := hv
  have hx := B.exec
  have hb := B.bytes
  have hr := B.returns
  have hts := atoms_spec (ws := wsX0_restoreRow) B.pre
  have hown : s.vm.findClass RX0 = some m.cls := findClass_of_methodNamed B.named
  have hlocks := B.notSynchronized
  subst hsz
  have hD := hD0.self (sz := s.heap.size)
  generalize hAe : va_A (rw_W h0 ab cI rc rl ps f) s.heap.size = A at hD ⊢
  have hA : ∀ q : Nat, s.heap.size ≤ q → A q := fun q h => by rw [← hAe]; exact Or.inr h
  have hS : va_S A s.heap s.heap [] := va_S.rf
  have hP : va_P (dC, dI) rw_cl (rw_W h0 ab cI rc rl ps f) s.heap := hP
  have hl := lv_entry ([.ref h0, .int (nI y), .int (nI q)]) (n := 5) (Nat.le_of_ble_eq_true rfl)
  rw [lg_entry_eq]
  generalize (lg_sl ([.ref h0, .int (nI y), .int (nI q)]) ++ List.replicate (5 - (lg_sl ([.ref h0, .int (nI y), .int (nI q)])).length) Slot.unset).toArray = ls at hl ⊢
  have hl : lv_has ls 5 [(0, .ref h0), (1, .int (nI y)), (2, .int (nI q))] := hl
  have h1 := ok.rc
  have h2 := ok.rl
  have h5 := rf_row rl hy
  have h6 := ok.2.2.1
  refine lv_iconst (v := 0) hx hb dX0_restoreRow_0 (by decide) ?_
  refine lv_istore_n hx hb dX0_restoreRow_1 rfl hl (by decide) rfl (fun ls hl => ?_)
  have hl : lv_has ls 5 [(3, .int 0), (0, .ref h0), (1, .int (nI y)), (2, .int (nI q))] := hl
  have e0 : f = (rf_U f rl ps y q (0)) := rfl
  rw [e0] at hP hD
  refine rw_loopH (fun z : Nat => rl - z) (fun z ls H locs => (z ≤ rl) ∧ lv_has ls 5 [(0, .ref h0), (1, .int (nI y)), (2, .int (nI q)), (3, .int (nI z))] ∧ va_P (dC, dI) rw_cl [(h0, .inr (0, [.ref ab, .int (nI rc), .int (nI rl), .int (nI ps)])), (ab, .inl (cI, 4096, .inl (rf_U f rl ps y q z)))] H ∧ va_D A [(h0, .inr (0, [.ref ab, .int (nI rc), .int (nI rl), .int (nI ps)])), (ab, .inl (cI, 4096, .inl (rf_U f rl ps y q z)))] ∧ va_S A s.heap H locs) ?_ (0) ⟨Nat.zero_le _, lv_sub hl [1, 2, 3, 0] rfl, hP, hD, hS⟩
  intro z ls H locs hI ih
  obtain ⟨hj, hl, hP, hD, hS⟩ := hI
  refine lv_iload_n hx hb dX0_restoreRow_2 rfl (lv_at hl 3 rfl) ?_
  refine lv_aload_n hx hb dX0_restoreRow_3 rfl (lv_at hl 0 rfl) ?_
  refine va_get (D := (dC, dI)) (ci := 0) (v := .int (nI rl)) (C := RX0) (T := TX0) (N := 4) hx hb hts (by decide +kernel) hown hK hP 0 rfl rfl 2 (by decide) (hts (.fieldLink RX0 17 "RowFilters" "rowLength" "I") (by decide +kernel)) (fun _ h9 => h9) rfl dX0_restoreRow_4 ?_
  refine lv_icmp_ge (tgt := 52) hx hb dX0_restoreRow_7 (by decide) (fun hc => ?_) (fun hc => ?_)
  · have hi : z = rl := by have := (nI_leI (by omega) (by omega)).mp hc; omega
    rw [hi] at hP hD
    exact W.vret hx hb hr (fun t ht hW => ⟨⟨(), rfl, trivial, by rw [ht]; exact hP, va_K.moved hW.alike hK, hD⟩, hS.F ht⟩) hS.2.2 dX0_restoreRow_52
  · have hi : z < rl := Nat.lt_of_not_le (fun q => hc ((nI_leI (by omega) (by omega)).mpr q))
    have h3 := ok.k hy hi
    refine lv_iload_n hx hb dX0_restoreRow_10 rfl (lv_at hl 1 rfl) ?_
    refine lv_aload_n hx hb dX0_restoreRow_11 rfl (lv_at hl 0 rfl) ?_
    refine va_get (D := (dC, dI)) (ci := 0) (v := .int (nI rl)) (C := RX0) (T := TX0) (N := 4) hx hb hts (by decide +kernel) hown hK hP 0 rfl rfl 2 (by decide) (hts (.fieldLink RX0 17 "RowFilters" "rowLength" "I") (by decide +kernel)) (fun _ h9 => h9) rfl dX0_restoreRow_12 ?_
    refine lv_imul hx hb dX0_restoreRow_15 ?_
    refine lv_iload_n hx hb dX0_restoreRow_16 rfl (lv_at hl 3 rfl) ?_
    refine lv_iadd hx hb dX0_restoreRow_17 ?_
    refine W.eq (g2 := F0 m 18 ls [.int (nI (y * rl + z))]) (congrArg (fun z9 => F0 m 18 ls [.int z9]) (show (((nI y) * (nI rl)) + (nI z)) = nI (y * rl + z) from rf_ix y rl z)) ?_
    refine lv_istore hx hb dX0_restoreRow_18 hl (by decide) rfl (fun ls hl => ?_)
    have hl : lv_has ls 5 [(4, .int (nI (y * rl + z))), (0, .ref h0), (1, .int (nI y)), (2, .int (nI q)), (3, .int (nI z))] := hl
    refine lv_aload_n hx hb dX0_restoreRow_20 rfl (lv_at hl 1 rfl) ?_
    refine va_get (D := (dC, dI)) (ci := 0) (v := .ref ab) (C := RX0) (T := TX0) (N := 4) hx hb hts (by decide +kernel) hown hK hP 0 rfl rfl 0 (by decide) (hts (.fieldLink RX0 9 "RowFilters" "bytes" "[I") (by decide +kernel)) (fun _ h9 => h9) rfl dX0_restoreRow_21 ?_
    refine lv_iload hx hb dX0_restoreRow_24 (lv_at hl 0 rfl) ?_
    refine lv_aload_n hx hb dX0_restoreRow_26 rfl (lv_at hl 1 rfl) ?_
    refine va_get (D := (dC, dI)) (ci := 0) (v := .ref ab) (C := RX0) (T := TX0) (N := 4) hx hb hts (by decide +kernel) hown hK hP 0 rfl rfl 0 (by decide) (hts (.fieldLink RX0 9 "RowFilters" "bytes" "[I") (by decide +kernel)) (fun _ h9 => h9) rfl dX0_restoreRow_27 ?_
    refine lv_iload hx hb dX0_restoreRow_30 (lv_at hl 0 rfl) ?_
    refine va_iald hx hb hK hP 1 0 rfl rfl (vp_in_nI h3 (by omega)) dX0_restoreRow_32 ?_
    refine lv_topi (fun v ev => ?_)
    rw [nI_clamp (by omega)] at ev
    refine lv_aload_n hx hb dX0_restoreRow_33 rfl (lv_at hl 1 rfl) ?_
    refine lv_iload_n hx hb dX0_restoreRow_34 rfl (lv_at hl 2 rfl) ?_
    refine lv_iload_n hx hb dX0_restoreRow_35 rfl (lv_at hl 4 rfl) ?_
    refine lv_iload_n hx hb dX0_restoreRow_36 rfl (lv_at hl 3 rfl) ?_
    refine vp_callSi (W.runV (C := RX0) (As := [.int (nI y), .int (nI z), .int (nI q)]) (rest := [.int v, .int (nI (y * rl + z)), .ref ab]) ⟨hx, hb, hml, hown, hts⟩ (c_X0_foretold l dC dI cI h0 ab rc rl ps (rf_U f rl ps y q z) y z q ok hy hi hq) (cwV 3 hts gX0_restoreRow_X0_foretold rfl rfl rfl (by decide +kernel) ⟨Nat.le_of_ble_eq_true rfl, Nat.le_of_ble_eq_true rfl⟩) ⟨fun a U g mk q => by obtain ⟨q0, qP, qK⟩ := q; exact ⟨q0, qP, va_K.moved (u := U) (U := U.calling g mk a) (Vm.Alike.refl U.vm) qK⟩, va_recv hK hP (ci := 0) (q0 := 0) rfl rfl, fun U hU hW => ⟨rfl, by rw [hU]; exact hP, va_K.moved hW.alike hK⟩⟩ rfl rfl hl.1 rfl (lv_room (Nat.le_of_ble_eq_true rfl)) dX0_restoreRow_37 ⟨Nat.zero_le _, Nat.zero_le _⟩) (fun rg eg => ?_)
    refine lv_iadd hx hb dX0_restoreRow_40 ?_
    refine lv_sipush (v := 255) hx hb dX0_restoreRow_41 (by decide) ?_
    refine lv_iand hx hb dX0_restoreRow_44 ?_
    refine va_iast hx hb hK hP hD hS 1 0 rfl rfl (vp_in_nI h3 (by omega)) dX0_restoreRow_45 (fun H locs hP hD hS => ?_)
    have hP : va_P (dC, dI) rw_cl [(h0, .inr (0, [.ref ab, .int (nI rc), .int (nI rl), .int (nI ps)])), (ab, .inl (cI, 4096, .inl (upd (rf_U f rl ps y q z) (nI (y * rl + z)).toNatClampNeg ((v + rg) &&& 255))))] H := hP
    have hD : va_D A [(h0, .inr (0, [.ref ab, .int (nI rc), .int (nI rl), .int (nI ps)])), (ab, .inl (cI, 4096, .inl (upd (rf_U f rl ps y q z) (nI (y * rl + z)).toNatClampNeg ((v + rg) &&& 255))))] := hD
    refine lv_iinc (k := 4) (v := (nI (z + 1))) hx hb dX0_restoreRow_46 hl rfl (rf_inc z) (by decide) rfl (fun ls hl => ?_)
    have hl : lv_has ls 5 [(3, .int (nI (z + 1))), (4, .int (nI (y * rl + z))), (0, .ref h0), (1, .int (nI y)), (2, .int (nI q))] := hl
    refine lv_goto (tgt := 2) hx hb dX0_restoreRow_49 (by decide) ?_
    have e9 : (upd (rf_U f rl ps y q z) (nI (y * rl + z)).toNatClampNeg ((v + rg) &&& 255)) = (rf_U f rl ps y q (z + 1)) := by rw [nI_clamp (by omega), ev, eg]; rfl
    rw [e9] at hP hD
    exact ih (z + 1) _ _ _ (by show rl - (z + 1) < rl - z; omega) ⟨by omega, lv_sub hl [2, 3, 4, 0] rfl, hP, hD, hS⟩
