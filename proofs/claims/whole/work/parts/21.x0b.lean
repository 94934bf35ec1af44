set_option maxHeartbeats 4000000 in
set_option maxRecDepth 100000 in
theorem c_X0_foretold (l : Launch) (dC : Nat → ClassId) (dI : Nat → Nat → Nat) (cI : ClassId) (h0 ab rc rl ps : Nat) (f : Nat → Int32) (y i q : Nat) (ok : rf_ok rc rl ps) (hy : y < rc) (hi : i < rl) (hq : q ≤ 4) : Met l yX0_foretold wsX0_foretold ({ frames := 2, cells := 0, slots := 0, locals := 39 }) (va_Pc [.ref h0, .int (nI y), .int (nI i), .int (nI q)] (rw_pre dC dI cI h0 ab rc rl ps f)) (vp_Si (fun r => r = rf_g f rl ps y i q)) 0 0 (fun _ => False) := by
  refine Met.ofW (cc := cX0_foretold) (maxL := 6) (ret := (some .int)) (by decide) rfl ?_
  intro p e s m args below meth c s₁ B hml hv
  obtain ⟨rfl, hP, hK⟩ := hv
  have hx := B.exec
  have hb := B.bytes
  have hr := B.returns
  have hts := atoms_spec (ws := wsX0_foretold) B.pre
  have hown : s.vm.findClass RX0 = some m.cls := findClass_of_methodNamed B.named
  have hlocks := B.notSynchronized
  have hP : va_P (dC, dI) rw_cl (rw_W h0 ab cI rc rl ps f) s.heap := hP
  have hl := lv_entry ([.ref h0, .int (nI y), .int (nI i), .int (nI q)]) (n := 6) (Nat.le_of_ble_eq_true rfl)
  rw [lg_entry_eq]
  generalize (lg_sl ([.ref h0, .int (nI y), .int (nI i), .int (nI q)]) ++ List.replicate (6 - (lg_sl ([.ref h0, .int (nI y), .int (nI i), .int (nI q)])).length) Slot.unset).toArray = ls at hl ⊢
  have hl : lv_has ls 6 [(0, .ref h0), (1, .int (nI y)), (2, .int (nI i)), (3, .int (nI q))] := hl
  have h1 := ok.rc
  have h2 := ok.rl
  have h3 := ok.k hy hi
  have h4 := ok.2.2.2.2
  refine lv_aload_n hx hb dX0_foretold_0 rfl (lv_at hl 0 rfl) ?_
  refine lv_iload_n hx hb dX0_foretold_1 rfl (lv_at hl 1 rfl) ?_
  refine lv_iload_n hx hb dX0_foretold_2 rfl (lv_at hl 2 rfl) ?_
  refine lv_aload_n hx hb dX0_foretold_3 rfl (lv_at hl 0 rfl) ?_
  refine va_get (D := (dC, dI)) (ci := 0) (v := .int (nI ps)) (C := RX0) (T := TX0) (N := 4) hx hb hts (by decide +kernel) hown hK hP 0 rfl rfl 3 (by decide) (hts (.fieldLink RX0 20 "RowFilters" "pointSize" "I") (by decide +kernel)) (fun _ h9 => h9) rfl dX0_foretold_4 ?_
  refine lv_isub hx hb dX0_foretold_7 ?_
  refine vp_callSi (W.runV (C := RX0) (As := [.int (nI y), .int ((nI i) - (nI ps))]) (rest := []) ⟨hx, hb, hml, hown, hts⟩ (c_X0_byteOrZero l dC dI cI h0 ab rc rl ps f (nI y) (nI i - nI ps) (rf_in (rf_in_0 y) (rf_in_p h4) h3)) (cwV 2 hts gX0_foretold_X0_byteOrZero rfl rfl rfl (by decide +kernel) ⟨Nat.le_of_ble_eq_true rfl, Nat.le_of_ble_eq_true rfl⟩) ⟨fun a U g mk q => by obtain ⟨q0, qP, qK⟩ := q; exact ⟨q0, qP, va_K.moved (u := U) (U := U.calling g mk a) (Vm.Alike.refl U.vm) qK⟩, va_recv hK hP (ci := 0) (q0 := 0) rfl rfl, fun U hU hW => ⟨rfl, by rw [hU]; exact hP, va_K.moved hW.alike hK⟩⟩ rfl rfl hl.1 rfl (lv_room (Nat.le_of_ble_eq_true rfl)) dX0_foretold_8 ⟨Nat.zero_le _, Nat.zero_le _⟩) (fun ra ea => ?_)
  rw [rf_z_a (by omega) (by omega) h4 h3] at ea
  refine lv_istore hx hb dX0_foretold_11 hl (by decide) rfl (fun ls hl => ?_)
  have hl : lv_has ls 6 [(4, .int ra), (0, .ref h0), (1, .int (nI y)), (2, .int (nI i)), (3, .int (nI q))] := hl
  refine lv_aload_n hx hb dX0_foretold_13 rfl (lv_at hl 1 rfl) ?_
  refine lv_iload_n hx hb dX0_foretold_14 rfl (lv_at hl 2 rfl) ?_
  refine lv_iconst (v := 1) hx hb dX0_foretold_15 (by decide) ?_
  refine lv_isub hx hb dX0_foretold_16 ?_
  refine lv_iload_n hx hb dX0_foretold_17 rfl (lv_at hl 3 rfl) ?_
  refine vp_callSi (W.runV (C := RX0) (As := [.int ((nI y) - 1), .int (nI i)]) (rest := []) ⟨hx, hb, hml, hown, hts⟩ (c_X0_byteOrZero l dC dI cI h0 ab rc rl ps f (nI y - 1) (nI i) (rf_in (rf_in_1 (by omega)) (rf_in_0 i) h3)) (cwV 2 hts gX0_foretold_X0_byteOrZero rfl rfl rfl (by decide +kernel) ⟨Nat.le_of_ble_eq_true rfl, Nat.le_of_ble_eq_true rfl⟩) ⟨fun a U g mk q => by obtain ⟨q0, qP, qK⟩ := q; exact ⟨q0, qP, va_K.moved (u := U) (U := U.calling g mk a) (Vm.Alike.refl U.vm) qK⟩, va_recv hK hP (ci := 0) (q0 := 0) rfl rfl, fun U hU hW => ⟨rfl, by rw [hU]; exact hP, va_K.moved hW.alike hK⟩⟩ rfl rfl hl.1 rfl (lv_room (Nat.le_of_ble_eq_true rfl)) dX0_foretold_18 ⟨Nat.zero_le _, Nat.zero_le _⟩) (fun rb eb => ?_)
  rw [rf_z_b (by omega) (by omega) h3] at eb
  refine lv_istore hx hb dX0_foretold_21 hl (by decide) rfl (fun ls hl => ?_)
  have hl : lv_has ls 6 [(5, .int rb), (4, .int ra), (0, .ref h0), (1, .int (nI y)), (2, .int (nI i)), (3, .int (nI q))] := hl
  refine lv_iload_n hx hb dX0_foretold_23 rfl (lv_at hl 5 rfl) ?_
  obtain rfl | rfl | rfl | rfl | rfl : q = 0 ∨ q = 1 ∨ q = 2 ∨ q = 3 ∨ q = 4 := by omega
  · refine lv_tableOut (tgt := 91) hx hb dX0_foretold_24 (by decide +kernel) (by decide) ?_
    refine lv_iconst (v := 0) hx hb dX0_foretold_91 (by decide) ?_
    exact W.iret (v := 0) hx hb hr (fun t ht hW => ⟨0, rfl, by simp [rf_g], ht⟩) (fun q h => by cases h) dX0_foretold_92
  · refine lv_tableIn (tgt := 56) hx hb dX0_foretold_24 (by decide +kernel) (by decide +kernel) rfl (by decide) ?_
    refine lv_iload hx hb dX0_foretold_56 (lv_at hl 1 rfl) ?_
    exact W.iret (v := ra) hx hb hr (fun t ht hW => ⟨ra, rfl, by rw [ea]; simp [rf_g], ht⟩) (fun q h => by cases h) dX0_foretold_58
  · refine lv_tableIn (tgt := 59) hx hb dX0_foretold_24 (by decide +kernel) (by decide +kernel) rfl (by decide) ?_
    refine lv_iload hx hb dX0_foretold_59 (lv_at hl 0 rfl) ?_
    exact W.iret (v := rb) hx hb hr (fun t ht hW => ⟨rb, rfl, by rw [eb]; simp [rf_g], ht⟩) (fun q h => by cases h) dX0_foretold_61
  · refine lv_tableIn (tgt := 62) hx hb dX0_foretold_24 (by decide +kernel) (by decide +kernel) rfl (by decide) ?_
    refine lv_iload hx hb dX0_foretold_62 (lv_at hl 1 rfl) ?_
    refine lv_iload hx hb dX0_foretold_64 (lv_at hl 0 rfl) ?_
    refine lv_iadd hx hb dX0_foretold_66 ?_
    refine lv_iconst (v := 2) hx hb dX0_foretold_67 (by decide) ?_
    refine lv_idiv hx hb dX0_foretold_68 (by decide) ?_
    exact W.iret (v := ((ra + rb) / 2)) hx hb hr (fun t ht hW => ⟨((ra + rb) / 2), rfl, by rw [ea, eb]; simp [rf_g], ht⟩) (fun q h => by cases h) dX0_foretold_69
  · refine lv_tableIn (tgt := 70) hx hb dX0_foretold_24 (by decide +kernel) (by decide +kernel) rfl (by decide) ?_
    refine lv_iload hx hb dX0_foretold_70 (lv_at hl 1 rfl) ?_
    refine lv_iload hx hb dX0_foretold_72 (lv_at hl 0 rfl) ?_
    refine lv_aload_n hx hb dX0_foretold_74 rfl (lv_at hl 2 rfl) ?_
    refine lv_iload_n hx hb dX0_foretold_75 rfl (lv_at hl 3 rfl) ?_
    refine lv_iconst (v := 1) hx hb dX0_foretold_76 (by decide) ?_
    refine lv_isub hx hb dX0_foretold_77 ?_
    refine lv_iload_n hx hb dX0_foretold_78 rfl (lv_at hl 4 rfl) ?_
    refine lv_aload_n hx hb dX0_foretold_79 rfl (lv_at hl 2 rfl) ?_
    refine va_get (D := (dC, dI)) (ci := 0) (v := .int (nI ps)) (C := RX0) (T := TX0) (N := 4) hx hb hts (by decide +kernel) hown hK hP 0 rfl rfl 3 (by decide) (hts (.fieldLink RX0 20 "RowFilters" "pointSize" "I") (by decide +kernel)) (fun _ h9 => h9) rfl dX0_foretold_80 ?_
    refine lv_isub hx hb dX0_foretold_83 ?_
    refine vp_callSi (W.runV (C := RX0) (As := [.int ((nI y) - 1), .int ((nI i) - (nI ps))]) (rest := [.int rb, .int ra]) ⟨hx, hb, hml, hown, hts⟩ (c_X0_byteOrZero l dC dI cI h0 ab rc rl ps f (nI y - 1) (nI i - nI ps) (rf_in (rf_in_1 (by omega)) (rf_in_p h4) h3)) (cwV 2 hts gX0_foretold_X0_byteOrZero rfl rfl rfl (by decide +kernel) ⟨Nat.le_of_ble_eq_true rfl, Nat.le_of_ble_eq_true rfl⟩) ⟨fun a U g mk q => by obtain ⟨q0, qP, qK⟩ := q; exact ⟨q0, qP, va_K.moved (u := U) (U := U.calling g mk a) (Vm.Alike.refl U.vm) qK⟩, va_recv hK hP (ci := 0) (q0 := 0) rfl rfl, fun U hU hW => ⟨rfl, by rw [hU]; exact hP, va_K.moved hW.alike hK⟩⟩ rfl rfl hl.1 rfl (lv_room (Nat.le_of_ble_eq_true rfl)) dX0_foretold_84 ⟨Nat.zero_le _, Nat.zero_le _⟩) (fun rz ez => ?_)
    rw [rf_z_c (by omega) (by omega) h4 h3] at ez
    refine vp_callSi (W.runS (As := [.int ra, .int rb, .int rz]) (rest := []) ⟨hx, hb, hml, hown, hts⟩ (c_X0_nearest l ra rb rz) (va_cwS 3 hts gX0_foretold_X0_nearest rfl rfl rfl (by decide +kernel) ⟨Nat.le_of_ble_eq_true rfl, Nat.le_of_ble_eq_true rfl⟩) ⟨fun _ _ _ _ q => q, fun U hU hW => ⟨rfl, trivial⟩⟩ rfl rfl hl.1 rfl (lv_room (Nat.le_of_ble_eq_true rfl)) dX0_foretold_87 ⟨Nat.zero_le _, Nat.zero_le _⟩) (fun rn en => ?_)
    rw [ea, eb, ez] at en
    exact W.iret (v := rn) hx hb hr (fun t ht hW => ⟨rn, rfl, by rw [en]; simp [rf_g], ht⟩) (fun q h => by cases h) dX0_foretold_90
set_option maxHeartbeats 4000000 in
set_option maxRecDepth 100000 in
theorem c_X0_sumTold (l : Launch) (dC : Nat → ClassId) (dI : Nat → Nat → Nat) (cI : ClassId) (h0 ab rc rl ps : Nat) (f : Nat → Int32) (y q : Nat) (ok : rf_ok rc rl ps) (hy : y < rc) (hq : q ≤ 4) : Met l yX0_sumTold wsX0_sumTold ({ frames := 3, cells := 0, slots := 0, locals := 64 }) (va_Pc [.ref h0, .int (nI y), .int (nI q)] (rw_pre dC dI cI h0 ab rc rl ps f)) (vp_Si (fun r => r = rf_s f rl ps y q rl)) 0 0 (fun _ => False) := by
  refine Met.ofW (cc := cX0_sumTold) (maxL := 6) (ret := (some .int)) (by decide) rfl ?_
  intro p e s m args below meth c s₁ B hml hv
  obtain ⟨rfl, hP, hK⟩ := hv
  have hx := B.exec
  have hb := B.bytes
  have hr := B.returns
  have hts := atoms_spec (ws := wsX0_sumTold) B.pre
  have hown : s.vm.findClass RX0 = some m.cls := findClass_of_methodNamed B.named
  have hlocks := B.notSynchronized
  have hP : va_P (dC, dI) rw_cl (rw_W h0 ab cI rc rl ps f) s.heap := hP
  have hl := lv_entry ([.ref h0, .int (nI y), .int (nI q)]) (n := 6) (Nat.le_of_ble_eq_true rfl)
  rw [lg_entry_eq]
  generalize (lg_sl ([.ref h0, .int (nI y), .int (nI q)]) ++ List.replicate (6 - (lg_sl ([.ref h0, .int (nI y), .int (nI q)])).length) Slot.unset).toArray = ls at hl ⊢
  have hl : lv_has ls 6 [(0, .ref h0), (1, .int (nI y)), (2, .int (nI q))] := hl
  have h1 := ok.rc
  have h2 := ok.rl
  refine lv_iconst (v := 0) hx hb dX0_sumTold_0 (by decide) ?_
  refine lv_istore_n hx hb dX0_sumTold_1 rfl hl (by decide) rfl (fun ls hl => ?_)
  have hl : lv_has ls 6 [(3, .int 0), (0, .ref h0), (1, .int (nI y)), (2, .int (nI q))] := hl
  refine lv_iconst (v := 0) hx hb dX0_sumTold_2 (by decide) ?_
  refine lv_istore hx hb dX0_sumTold_3 hl (by decide) rfl (fun ls hl => ?_)
  have hl : lv_has ls 6 [(4, .int 0), (3, .int 0), (0, .ref h0), (1, .int (nI y)), (2, .int (nI q))] := hl
  refine rw_loop (fun i : Nat => rl - i) (fun i ls => (i ≤ rl) ∧ lv_has ls 6 [(0, .ref h0), (1, .int (nI y)), (2, .int (nI q)), (3, .int (rf_s f rl ps y q i)), (4, .int (nI i))]) ?_ (0) ⟨Nat.zero_le _, lv_sub hl [2, 3, 4, 1, 0] rfl⟩
  intro i ls hI ih
  obtain ⟨hj, hl⟩ := hI
  refine lv_iload hx hb dX0_sumTold_5 (lv_at hl 4 rfl) ?_
  refine lv_aload_n hx hb dX0_sumTold_7 rfl (lv_at hl 0 rfl) ?_
  refine va_get (D := (dC, dI)) (ci := 0) (v := .int (nI rl)) (C := RX0) (T := TX0) (N := 4) hx hb hts (by decide +kernel) hown hK hP 0 rfl rfl 2 (by decide) (hts (.fieldLink RX0 17 "RowFilters" "rowLength" "I") (by decide +kernel)) (fun _ h9 => h9) rfl dX0_sumTold_8 ?_
  refine lv_icmp_ge (tgt := 47) hx hb dX0_sumTold_11 (by decide) (fun hc => ?_) (fun hc => ?_)
  · have hi : i = rl := by have := (nI_leI (by omega) (by omega)).mp hc; omega
    refine lv_iload_n hx hb dX0_sumTold_47 rfl (lv_at hl 3 rfl) ?_
    exact W.iret (v := (rf_s f rl ps y q i)) hx hb hr (fun t ht hW => ⟨(rf_s f rl ps y q i), rfl, by rw [hi], ht⟩) (fun q h => by cases h) dX0_sumTold_48
  · have hi : i < rl := Nat.lt_of_not_le (fun q => hc ((nI_leI (by omega) (by omega)).mpr q))
    have h3 := ok.k hy hi
    refine lv_aload_n hx hb dX0_sumTold_14 rfl (lv_at hl 0 rfl) ?_
    refine lv_iload_n hx hb dX0_sumTold_15 rfl (lv_at hl 1 rfl) ?_
    refine lv_iload hx hb dX0_sumTold_16 (lv_at hl 4 rfl) ?_
    refine vp_callSi (W.runV (C := RX0) (As := [.int (nI y), .int (nI i)]) (rest := []) ⟨hx, hb, hml, hown, hts⟩ (c_X0_byteOrZero l dC dI cI h0 ab rc rl ps f (nI y) (nI i) (rf_in (rf_in_0 y) (rf_in_0 i) h3)) (cwV 2 hts gX0_sumTold_X0_byteOrZero rfl rfl rfl (by decide +kernel) ⟨Nat.le_of_ble_eq_true rfl, Nat.le_of_ble_eq_true rfl⟩) ⟨fun a U g mk q => by obtain ⟨q0, qP, qK⟩ := q; exact ⟨q0, qP, va_K.moved (u := U) (U := U.calling g mk a) (Vm.Alike.refl U.vm) qK⟩, va_recv hK hP (ci := 0) (q0 := 0) rfl rfl, fun U hU hW => ⟨rfl, by rw [hU]; exact hP, va_K.moved hW.alike hK⟩⟩ rfl rfl hl.1 rfl (lv_room (Nat.le_of_ble_eq_true rfl)) dX0_sumTold_18 ⟨Nat.zero_le _, Nat.zero_le _⟩) (fun rb eb => ?_)
    rw [rf_z_0 (by omega) (by omega) h3] at eb
    refine lv_aload_n hx hb dX0_sumTold_21 rfl (lv_at hl 0 rfl) ?_
    refine lv_iload_n hx hb dX0_sumTold_22 rfl (lv_at hl 1 rfl) ?_
    refine lv_iload hx hb dX0_sumTold_23 (lv_at hl 4 rfl) ?_
    refine lv_iload_n hx hb dX0_sumTold_25 rfl (lv_at hl 2 rfl) ?_
    refine vp_callSi (W.runV (C := RX0) (As := [.int (nI y), .int (nI i), .int (nI q)]) (rest := [.int rb]) ⟨hx, hb, hml, hown, hts⟩ (c_X0_foretold l dC dI cI h0 ab rc rl ps f y i q ok hy hi hq) (cwV 3 hts gX0_sumTold_X0_foretold rfl rfl rfl (by decide +kernel) ⟨Nat.le_of_ble_eq_true rfl, Nat.le_of_ble_eq_true rfl⟩) ⟨fun a U g mk q => by obtain ⟨q0, qP, qK⟩ := q; exact ⟨q0, qP, va_K.moved (u := U) (U := U.calling g mk a) (Vm.Alike.refl U.vm) qK⟩, va_recv hK hP (ci := 0) (q0 := 0) rfl rfl, fun U hU hW => ⟨rfl, by rw [hU]; exact hP, va_K.moved hW.alike hK⟩⟩ rfl rfl hl.1 rfl (lv_room (Nat.le_of_ble_eq_true rfl)) dX0_sumTold_26 ⟨Nat.zero_le _, Nat.zero_le _⟩) (fun rg eg => ?_)
    refine lv_isub hx hb dX0_sumTold_29 ?_
    refine lv_i2b hx hb dX0_sumTold_30 rfl ?_
    refine lv_istore hx hb dX0_sumTold_31 hl (by decide) rfl (fun ls hl => ?_)
    have hl : lv_has ls 6 [(5, .int ((rb - rg).toInt8.toInt32)), (0, .ref h0), (1, .int (nI y)), (2, .int (nI q)), (3, .int (rf_s f rl ps y q i)), (4, .int (nI i))] := hl
    refine lv_iload_n hx hb dX0_sumTold_33 rfl (lv_at hl 4 rfl) ?_
    refine lv_iload hx hb dX0_sumTold_34 (lv_at hl 0 rfl) ?_
    refine va_mabs hx hb (hml.trans hl.1.symm) hown (hts (.methodLink RX0 88 Lib.Math.abs.name) (by decide +kernel)) (hts (.static Lib.Math.abs.name) (by decide +kernel)) (hts (.initialized "java/lang/Math") (by decide +kernel)) (hts (.code Lib.Math.abs.name Lib.Math.abs.code 1 (some .int)) (by decide +kernel)) (Nat.le_of_ble_eq_true rfl) (Nat.le_of_ble_eq_true rfl) (Nat.le_of_ble_eq_true rfl) (Nat.le_of_ble_eq_true rfl) dX0_sumTold_36 ?_
    refine lv_topi (fun v ev => ?_)
    have ev : v = rf_m (rf_t f rl ps y q i) := by rw [ev, eb, eg]; exact rf_abs8 _
    refine lv_iadd hx hb dX0_sumTold_39 ?_
    refine lv_istore_n hx hb dX0_sumTold_40 rfl hl (by decide) rfl (fun ls hl => ?_)
    have hl : lv_has ls 6 [(3, .int ((rf_s f rl ps y q i) + v)), (5, .int ((rb - rg).toInt8.toInt32)), (0, .ref h0), (1, .int (nI y)), (2, .int (nI q)), (4, .int (nI i))] := hl
    refine lv_iinc (k := 5) (v := (nI (i + 1))) hx hb dX0_sumTold_41 hl rfl (rf_inc i) (by decide) rfl (fun ls hl => ?_)
    have hl : lv_has ls 6 [(4, .int (nI (i + 1))), (3, .int ((rf_s f rl ps y q i) + v)), (5, .int ((rb - rg).toInt8.toInt32)), (0, .ref h0), (1, .int (nI y)), (2, .int (nI q))] := hl
    refine lv_goto (tgt := 5) hx hb dX0_sumTold_44 (by decide) ?_
    have e9 : rf_s f rl ps y q (i + 1) = (rf_s f rl ps y q i + v) := by rw [ev]; rfl
    rw [← e9] at hl
    exact ih (i + 1) _ (by show rl - (i + 1) < rl - i; omega) ⟨by omega, lv_sub hl [3, 4, 5, 1, 0] rfl⟩
