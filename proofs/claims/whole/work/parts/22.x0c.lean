set_option maxHeartbeats 4000000 in
set_option maxRecDepth 100000 in
theorem c_X0_leastFilter (l : Launch) (dC : Nat → ClassId) (dI : Nat → Nat → Nat) (cI : ClassId) (h0 ab rc rl ps : Nat) (f : Nat → Int32) (y : Nat) (ok : rf_ok rc rl ps) (hy : y < rc) : Met l yX0_leastFilter wsX0_leastFilter ({ frames := 4, cells := 0, slots := 0, locals := 89 }) (va_Pc [.ref h0, .int (nI y)] (rw_pre dC dI cI h0 ab rc rl ps f)) (vp_Si (fun r => r = nI (rf_q f rl ps y))) 0 0 (fun _ => False) := by
  refine Met.ofW (cc := cX0_leastFilter) (maxL := 6) (ret := (some .int)) (by decide) rfl ?_
  intro p e s m args below meth c s₁ B hml hv
  obtain ⟨rfl, hP, hK⟩ := hv
  have hx := B.exec
  have hb := B.bytes
  have hr := B.returns
  have hts := atoms_spec (ws := wsX0_leastFilter) B.pre
  have hown : s.vm.findClass RX0 = some m.cls := findClass_of_methodNamed B.named
  have hlocks := B.notSynchronized
  have hP : va_P (dC, dI) rw_cl (rw_W h0 ab cI rc rl ps f) s.heap := hP
  have hl := lv_entry ([.ref h0, .int (nI y)]) (n := 6) (Nat.le_of_ble_eq_true rfl)
  rw [lg_entry_eq]
  generalize (lg_sl ([.ref h0, .int (nI y)]) ++ List.replicate (6 - (lg_sl ([.ref h0, .int (nI y)])).length) Slot.unset).toArray = ls at hl ⊢
  have hl : lv_has ls 6 [(0, .ref h0), (1, .int (nI y))] := hl
  refine lv_iconst (v := 0) hx hb dX0_leastFilter_0 (by decide) ?_
  refine lv_istore_n hx hb dX0_leastFilter_1 rfl hl (by decide) rfl (fun ls hl => ?_)
  have hl : lv_has ls 6 [(2, .int 0), (0, .ref h0), (1, .int (nI y))] := hl
  refine lv_aload_n hx hb dX0_leastFilter_2 rfl (lv_at hl 1 rfl) ?_
  refine lv_iload_n hx hb dX0_leastFilter_3 rfl (lv_at hl 2 rfl) ?_
  refine lv_iconst (v := 0) hx hb dX0_leastFilter_4 (by decide) ?_
  refine vp_callSi (W.runV (C := RX0) (As := [.int (nI y), .int 0]) (rest := []) ⟨hx, hb, hml, hown, hts⟩ (c_X0_sumTold l dC dI cI h0 ab rc rl ps f y 0 ok hy (by omega)) (cwV 2 hts gX0_leastFilter_X0_sumTold rfl rfl rfl (by decide +kernel) ⟨Nat.le_of_ble_eq_true rfl, Nat.le_of_ble_eq_true rfl⟩) ⟨fun a U g mk q => by obtain ⟨q0, qP, qK⟩ := q; exact ⟨q0, qP, va_K.moved (u := U) (U := U.calling g mk a) (Vm.Alike.refl U.vm) qK⟩, va_recv hK hP (ci := 0) (q0 := 0) rfl rfl, fun U hU hW => ⟨rfl, by rw [hU]; exact hP, va_K.moved hW.alike hK⟩⟩ rfl rfl hl.1 rfl (lv_room (Nat.le_of_ble_eq_true rfl)) dX0_leastFilter_5 ⟨Nat.zero_le _, Nat.zero_le _⟩) (fun s0 es => ?_)
  subst es
  refine lv_istore_n hx hb dX0_leastFilter_8 rfl hl (by decide) rfl (fun ls hl => ?_)
  have hl : lv_has ls 6 [(3, .int (rf_s f rl ps y 0 rl)), (2, .int 0), (0, .ref h0), (1, .int (nI y))] := hl
  refine lv_iconst (v := 1) hx hb dX0_leastFilter_9 (by decide) ?_
  refine lv_istore hx hb dX0_leastFilter_10 hl (by decide) rfl (fun ls hl => ?_)
  have hl : lv_has ls 6 [(4, .int 1), (3, .int (rf_s f rl ps y 0 rl)), (2, .int 0), (0, .ref h0), (1, .int (nI y))] := hl
  refine rw_loop (fun j : Nat => 4 - j) (fun j ls => (j ≤ 4) ∧ lv_has ls 6 [(0, .ref h0), (1, .int (nI y)), (2, .int (nI (rf_l (fun q => rf_s f rl ps y q rl) j).1)), (3, .int ((rf_l (fun q => rf_s f rl ps y q rl) j).2)), (4, .int (nI (j + 1)))]) ?_ (0) ⟨Nat.zero_le _, lv_sub hl [3, 4, 2, 1, 0] rfl⟩
  intro j ls hI ih
  obtain ⟨hj, hl⟩ := hI
  refine lv_iload hx hb dX0_leastFilter_12 (lv_at hl 4 rfl) ?_
  refine lv_iconst (v := 5) hx hb dX0_leastFilter_14 (by decide) ?_
  refine lv_icmp_ge (tgt := 45) hx hb dX0_leastFilter_15 (by decide) (fun hc => ?_) (fun hc => ?_)
  · have hi : j = 4 := by have := (nI_leI (a := 5) (by omega) (by omega)).mp hc; omega
    refine lv_iload_n hx hb dX0_leastFilter_45 rfl (lv_at hl 2 rfl) ?_
    exact W.iret (v := (nI (rf_l (fun q => rf_s f rl ps y q rl) j).1)) hx hb hr (fun t ht hW => ⟨(nI (rf_l (fun q => rf_s f rl ps y q rl) j).1), rfl, by rw [hi]; rfl, ht⟩) (fun q h => by cases h) dX0_leastFilter_46
  · have hi : j < 4 := Nat.lt_of_not_le (fun q => hc ((nI_leI (a := 5) (by omega) (by omega)).mpr (by omega)))
    refine lv_aload_n hx hb dX0_leastFilter_18 rfl (lv_at hl 0 rfl) ?_
    refine lv_iload_n hx hb dX0_leastFilter_19 rfl (lv_at hl 1 rfl) ?_
    refine lv_iload hx hb dX0_leastFilter_20 (lv_at hl 4 rfl) ?_
    refine vp_callSi (W.runV (C := RX0) (As := [.int (nI y), .int (nI (j + 1))]) (rest := []) ⟨hx, hb, hml, hown, hts⟩ (c_X0_sumTold l dC dI cI h0 ab rc rl ps f y (j + 1) ok hy (by omega)) (cwV 2 hts gX0_leastFilter_X0_sumTold rfl rfl rfl (by decide +kernel) ⟨Nat.le_of_ble_eq_true rfl, Nat.le_of_ble_eq_true rfl⟩) ⟨fun a U g mk q => by obtain ⟨q0, qP, qK⟩ := q; exact ⟨q0, qP, va_K.moved (u := U) (U := U.calling g mk a) (Vm.Alike.refl U.vm) qK⟩, va_recv hK hP (ci := 0) (q0 := 0) rfl rfl, fun U hU hW => ⟨rfl, by rw [hU]; exact hP, va_K.moved hW.alike hK⟩⟩ rfl rfl hl.1 rfl (lv_room (Nat.le_of_ble_eq_true rfl)) dX0_leastFilter_22 ⟨Nat.zero_le _, Nat.zero_le _⟩) (fun s1 es => ?_)
    refine lv_istore hx hb dX0_leastFilter_25 hl (by decide) rfl (fun ls hl => ?_)
    have hl : lv_has ls 6 [(5, .int s1), (0, .ref h0), (1, .int (nI y)), (2, .int (nI (rf_l (fun q => rf_s f rl ps y q rl) j).1)), (3, .int ((rf_l (fun q => rf_s f rl ps y q rl) j).2)), (4, .int (nI (j + 1)))] := hl
    refine lv_iload hx hb dX0_leastFilter_27 (lv_at hl 0 rfl) ?_
    refine lv_iload_n hx hb dX0_leastFilter_29 rfl (lv_at hl 4 rfl) ?_
    refine lv_icmp_ge (tgt := 39) hx hb dX0_leastFilter_30 (by decide) (fun hs => ?_) (fun hs => ?_)
    · have hl2 : rf_l (fun q => rf_s f rl ps y q rl) (j + 1) = rf_l (fun q => rf_s f rl ps y q rl) j := rf_l_ge (by show ¬ rf_s f rl ps y (j + 1) rl < _; rw [← es]; exact Int32.not_lt.mpr hs)
      refine lv_iinc (k := 5) (v := (nI (j + 1 + 1))) hx hb dX0_leastFilter_39 hl rfl (rf_inc (j + 1)) (by decide) rfl (fun ls hl => ?_)
      have hl : lv_has ls 6 [(4, .int (nI (j + 1 + 1))), (5, .int s1), (0, .ref h0), (1, .int (nI y)), (2, .int (nI (rf_l (fun q => rf_s f rl ps y q rl) j).1)), (3, .int ((rf_l (fun q => rf_s f rl ps y q rl) j).2))] := hl
      refine lv_goto (tgt := 12) hx hb dX0_leastFilter_42 (by decide) ?_
      exact ih (j + 1) _ (by show 4 - (j + 1) < 4 - j; omega) ⟨by omega, by rw [hl2]; exact lv_sub hl [2, 3, 4, 5, 0] rfl⟩
    · have hl2 : rf_l (fun q => rf_s f rl ps y q rl) (j + 1) = (j + 1, s1) := by rw [es]; exact rf_l_lt (by show rf_s f rl ps y (j + 1) rl < _; rw [← es]; exact Int32.not_le.mp hs)
      refine lv_iload hx hb dX0_leastFilter_33 (lv_at hl 5 rfl) ?_
      refine lv_istore_n hx hb dX0_leastFilter_35 rfl hl (by decide) rfl (fun ls hl => ?_)
      have hl : lv_has ls 6 [(2, .int (nI (j + 1))), (5, .int s1), (0, .ref h0), (1, .int (nI y)), (3, .int ((rf_l (fun q => rf_s f rl ps y q rl) j).2)), (4, .int (nI (j + 1)))] := hl
      refine lv_iload hx hb dX0_leastFilter_36 (lv_at hl 1 rfl) ?_
      refine lv_istore_n hx hb dX0_leastFilter_38 rfl hl (by decide) rfl (fun ls hl => ?_)
      have hl : lv_has ls 6 [(3, .int s1), (2, .int (nI (j + 1))), (5, .int s1), (0, .ref h0), (1, .int (nI y)), (4, .int (nI (j + 1)))] := hl
      refine lv_iinc (k := 5) (v := (nI (j + 1 + 1))) hx hb dX0_leastFilter_39 hl rfl (rf_inc (j + 1)) (by decide) rfl (fun ls hl => ?_)
      have hl : lv_has ls 6 [(4, .int (nI (j + 1 + 1))), (3, .int s1), (2, .int (nI (j + 1))), (5, .int s1), (0, .ref h0), (1, .int (nI y))] := hl
      refine lv_goto (tgt := 12) hx hb dX0_leastFilter_42 (by decide) ?_
      exact ih (j + 1) _ (by show 4 - (j + 1) < 4 - j; omega) ⟨by omega, by rw [hl2]; exact lv_sub hl [4, 5, 2, 1, 0] rfl⟩
set_option maxHeartbeats 4000000 in
set_option maxRecDepth 100000 in
theorem c_X0_hash (l : Launch) (dC : Nat → ClassId) (dI : Nat → Nat → Nat) (cI : ClassId) (h0 ab rc rl ps : Nat) (f : Nat → Int32) (ok : rf_ok rc rl ps) : Met l yX0_hash wsX0_hash ({ frames := 0, cells := 0, slots := 0, locals := 0 }) (va_Pc [.ref h0] (rw_pre dC dI cI h0 ab rc rl ps f)) (vp_Si (fun r => r = rf_h f (rc * rl))) 0 0 (fun _ => False) := by
  refine Met.ofW (cc := cX0_hash) (maxL := 4) (ret := (some .int)) (by decide) rfl ?_
  intro p e s m args below meth c s₁ B hml hv
  obtain ⟨rfl, hP, hK⟩ := hv
  have hx := B.exec
  have hb := B.bytes
  have hr := B.returns
  have hts := atoms_spec (ws := wsX0_hash) B.pre
  have hown : s.vm.findClass RX0 = some m.cls := findClass_of_methodNamed B.named
  have hlocks := B.notSynchronized
  have hP : va_P (dC, dI) rw_cl (rw_W h0 ab cI rc rl ps f) s.heap := hP
  have hl := lv_entry ([.ref h0]) (n := 4) (Nat.le_of_ble_eq_true rfl)
  rw [lg_entry_eq]
  generalize (lg_sl ([.ref h0]) ++ List.replicate (4 - (lg_sl ([.ref h0])).length) Slot.unset).toArray = ls at hl ⊢
  have hl : lv_has ls 4 [(0, .ref h0)] := hl
  have h1 := ok.2.2.1
  refine lv_aload_n hx hb dX0_hash_0 rfl (lv_at hl 0 rfl) ?_
  refine va_get (D := (dC, dI)) (ci := 0) (v := .int (nI rc)) (C := RX0) (T := TX0) (N := 4) hx hb hts (by decide +kernel) hown hK hP 0 rfl rfl 1 (by decide) (hts (.fieldLink RX0 13 "RowFilters" "rowCount" "I") (by decide +kernel)) (fun _ h9 => h9) rfl dX0_hash_1 ?_
  refine lv_aload_n hx hb dX0_hash_4 rfl (lv_at hl 0 rfl) ?_
  refine va_get (D := (dC, dI)) (ci := 0) (v := .int (nI rl)) (C := RX0) (T := TX0) (N := 4) hx hb hts (by decide +kernel) hown hK hP 0 rfl rfl 2 (by decide) (hts (.fieldLink RX0 17 "RowFilters" "rowLength" "I") (by decide +kernel)) (fun _ h9 => h9) rfl dX0_hash_5 ?_
  refine lv_imul hx hb dX0_hash_8 ?_
  refine W.eq (g2 := F0 m 9 ls [.int (nI (rc * rl))]) (congrArg (fun z9 => F0 m 9 ls [.int z9]) (show ((nI rc) * (nI rl)) = nI (rc * rl) from rf_mul rc rl)) ?_
  refine lv_istore_n hx hb dX0_hash_9 rfl hl (by decide) rfl (fun ls hl => ?_)
  have hl : lv_has ls 4 [(1, .int (nI (rc * rl))), (0, .ref h0)] := hl
  refine lv_iconst (v := 1) hx hb dX0_hash_10 (by decide) ?_
  refine lv_istore_n hx hb dX0_hash_11 rfl hl (by decide) rfl (fun ls hl => ?_)
  have hl : lv_has ls 4 [(2, .int 1), (1, .int (nI (rc * rl))), (0, .ref h0)] := hl
  refine lv_iconst (v := 0) hx hb dX0_hash_12 (by decide) ?_
  refine lv_istore_n hx hb dX0_hash_13 rfl hl (by decide) rfl (fun ls hl => ?_)
  have hl : lv_has ls 4 [(3, .int 0), (2, .int 1), (1, .int (nI (rc * rl))), (0, .ref h0)] := hl
  refine rw_loop (fun k : Nat => rc * rl - k) (fun k ls => (k ≤ rc * rl) ∧ lv_has ls 4 [(0, .ref h0), (1, .int (nI (rc * rl))), (2, .int (rf_h f k)), (3, .int (nI k))]) ?_ (0) ⟨Nat.zero_le _, lv_sub hl [3, 2, 1, 0] rfl⟩
  intro k ls hI ih
  obtain ⟨hj, hl⟩ := hI
  refine lv_iload_n hx hb dX0_hash_14 rfl (lv_at hl 3 rfl) ?_
  refine lv_iload_n hx hb dX0_hash_15 rfl (lv_at hl 1 rfl) ?_
  refine lv_icmp_ge (tgt := 37) hx hb dX0_hash_16 (by decide) (fun hc => ?_) (fun hc => ?_)
  · have hi : k = rc * rl := by have := (nI_leI (by omega) (by omega)).mp hc; omega
    refine lv_iload_n hx hb dX0_hash_37 rfl (lv_at hl 2 rfl) ?_
    exact W.iret (v := (rf_h f k)) hx hb hr (fun t ht hW => ⟨(rf_h f k), rfl, by rw [hi], ht⟩) (fun q h => by cases h) dX0_hash_38
  · have hi : k < rc * rl := Nat.lt_of_not_le (fun q => hc ((nI_leI (by omega) (by omega)).mpr q))
    refine lv_bipush (v := 31) hx hb dX0_hash_19 (by decide) ?_
    refine lv_iload_n hx hb dX0_hash_21 rfl (lv_at hl 2 rfl) ?_
    refine lv_imul hx hb dX0_hash_22 ?_
    refine lv_aload_n hx hb dX0_hash_23 rfl (lv_at hl 0 rfl) ?_
    refine va_get (D := (dC, dI)) (ci := 0) (v := .ref ab) (C := RX0) (T := TX0) (N := 4) hx hb hts (by decide +kernel) hown hK hP 0 rfl rfl 0 (by decide) (hts (.fieldLink RX0 9 "RowFilters" "bytes" "[I") (by decide +kernel)) (fun _ h9 => h9) rfl dX0_hash_24 ?_
    refine lv_iload_n hx hb dX0_hash_27 rfl (lv_at hl 3 rfl) ?_
    refine va_iald hx hb hK hP 1 0 rfl rfl (vp_in_nI (by omega) (by omega)) dX0_hash_28 ?_
    refine W.eq (g2 := F0 m 29 ls [.int (f k), .int (31 * (rf_h f k))]) (congrArg (fun z9 => F0 m 29 ls [.int z9, .int (31 * (rf_h f k))]) (show (f (nI k).toNatClampNeg) = (f k) from by rw [nI_clamp (by omega)])) ?_
    refine lv_iadd hx hb dX0_hash_29 ?_
    refine lv_istore_n hx hb dX0_hash_30 rfl hl (by decide) rfl (fun ls hl => ?_)
    have hl : lv_has ls 4 [(2, .int ((31 * (rf_h f k)) + (f k))), (0, .ref h0), (1, .int (nI (rc * rl))), (3, .int (nI k))] := hl
    refine lv_iinc (k := 3) (v := (nI (k + 1))) hx hb dX0_hash_31 hl rfl (rf_inc k) (by decide) rfl (fun ls hl => ?_)
    have hl : lv_has ls 4 [(3, .int (nI (k + 1))), (2, .int ((31 * (rf_h f k)) + (f k))), (0, .ref h0), (1, .int (nI (rc * rl)))] := hl
    refine lv_goto (tgt := 14) hx hb dX0_hash_34 (by decide) ?_
    have e9 : rf_h f (k + 1) = (31 * rf_h f k + f k) := rfl
    rw [← e9] at hl
    exact ih (k + 1) _ (by show rc * rl - (k + 1) < rc * rl - k; omega) ⟨by omega, lv_sub hl [2, 3, 1, 0] rfl⟩
