set_option maxHeartbeats 4000000 in
set_option maxRecDepth 100000 in
theorem c_X0_pass (l : Launch) (t1 t2 t3 t4 : Nat) (h0 : Nat) (k w h : Nat) (b : Int32) (hk : k ≤ 6) (hw1 : 1 ≤ w) (hw2 : w ≤ 100000) (hh1 : 1 ≤ h) (hh2 : h ≤ 100000) : Met l yX0_pass wsX0_pass ({ frames := 1, cells := 0, slots := 0, locals := 22 }) (va_Pc [.ref h0, .int (nI k), .int (nI w), .int (nI h), .int b] (rw_st t1 t2 t3 t4)) (vp_Si (fun r => r = rf_pr k w h b)) 0 0 (fun _ => False) := by
  refine Met.ofW (cc := cX0_pass) (maxL := 7) (ret := (some .int)) (by decide) rfl ?_
  intro p e s m args below meth c s₁ B hml hv
  obtain ⟨rfl, hZ⟩ := hv
  have hx := B.exec
  have hb := B.bytes
  have hr := B.returns
  have hts := atoms_spec (ws := wsX0_pass) B.pre
  have hown : s.vm.findClass RX0 = some m.cls := findClass_of_methodNamed B.named
  have hlocks := B.notSynchronized
  have hS : va_S (fun _ => False) s.heap s.heap [] := va_S.rf
  have hl := lv_entry ([.ref h0, .int (nI k), .int (nI w), .int (nI h), .int b]) (n := 7) (Nat.le_of_ble_eq_true rfl)
  rw [lg_entry_eq]
  generalize (lg_sl ([.ref h0, .int (nI k), .int (nI w), .int (nI h), .int b]) ++ List.replicate (7 - (lg_sl ([.ref h0, .int (nI k), .int (nI w), .int (nI h), .int b])).length) Slot.unset).toArray = ls at hl ⊢
  have hl : lv_has ls 7 [(0, .ref h0), (1, .int (nI k)), (2, .int (nI w)), (3, .int (nI h)), (4, .int b)] := hl
  have h8 := rf_s8 hk
  have hx1 := rf_n_le (rf_sx k) (rf_fx k) w
  have hy1 := rf_n_le (rf_sy k) (rf_fy k) h
  refine lv_iload_n hx hb dX0_pass_0 rfl (lv_at hl 1 rfl) ?_
  refine lv_iconst (v := 0) hx hb dX0_pass_1 (by decide) ?_
  refine lv_bipush (v := 6) hx hb dX0_pass_2 (by decide) ?_
  refine va_csv (W.runS (As := [.int (nI k), .int 0, .int 6]) (rest := []) ⟨hx, hb, hml, hown, hts⟩ (c_X0_requireWithin l (nI k) 0 6 (nI_pos (by omega)) (nI_nlt (a := 6) hk (by omega))) (va_cwS 3 hts gX0_pass_X0_requireWithin rfl rfl rfl (by decide +kernel) ⟨Nat.le_of_ble_eq_true rfl, Nat.le_of_ble_eq_true rfl⟩) ⟨fun _ _ _ _ q => q, fun U hU hW => ⟨rfl, trivial⟩⟩ rfl rfl hl.1 rfl (lv_room (Nat.le_of_ble_eq_true rfl)) dX0_pass_4 ⟨Nat.zero_le _, Nat.zero_le _⟩) (fun _ => ?_)
  refine lv_iload_n hx hb dX0_pass_7 rfl (lv_at hl 2 rfl) ?_
  refine lv_iconst (v := 1) hx hb dX0_pass_8 (by decide) ?_
  refine lv_ldc hx hb hown (hts (.constant RX0 61 (100000)) (by decide +kernel)) dX0_pass_9 ?_
  refine va_csv (W.runS (As := [.int (nI w), .int 1, .int 100000]) (rest := []) ⟨hx, hb, hml, hown, hts⟩ (c_X0_requireWithin l (nI w) 1 100000 (nI_nlt (b := 1) hw1 (by omega)) (nI_nlt (a := 100000) hw2 (by omega))) (va_cwS 3 hts gX0_pass_X0_requireWithin rfl rfl rfl (by decide +kernel) ⟨Nat.le_of_ble_eq_true rfl, Nat.le_of_ble_eq_true rfl⟩) ⟨fun _ _ _ _ q => q, fun U hU hW => ⟨rfl, trivial⟩⟩ rfl rfl hl.1 rfl (lv_room (Nat.le_of_ble_eq_true rfl)) dX0_pass_11 ⟨Nat.zero_le _, Nat.zero_le _⟩) (fun _ => ?_)
  refine lv_iload_n hx hb dX0_pass_14 rfl (lv_at hl 3 rfl) ?_
  refine lv_iconst (v := 1) hx hb dX0_pass_15 (by decide) ?_
  refine lv_ldc hx hb hown (hts (.constant RX0 61 (100000)) (by decide +kernel)) dX0_pass_16 ?_
  refine va_csv (W.runS (As := [.int (nI h), .int 1, .int 100000]) (rest := []) ⟨hx, hb, hml, hown, hts⟩ (c_X0_requireWithin l (nI h) 1 100000 (nI_nlt (b := 1) hh1 (by omega)) (nI_nlt (a := 100000) hh2 (by omega))) (va_cwS 3 hts gX0_pass_X0_requireWithin rfl rfl rfl (by decide +kernel) ⟨Nat.le_of_ble_eq_true rfl, Nat.le_of_ble_eq_true rfl⟩) ⟨fun _ _ _ _ q => q, fun U hU hW => ⟨rfl, trivial⟩⟩ rfl rfl hl.1 rfl (lv_room (Nat.le_of_ble_eq_true rfl)) dX0_pass_18 ⟨Nat.zero_le _, Nat.zero_le _⟩) (fun _ => ?_)
  refine lv_iload_n hx hb dX0_pass_21 rfl (lv_at hl 2 rfl) ?_
  refine va_gets (v := .ref t1) hx hb hZ.1 hS hown (hts (.fieldLink RX0 62 "RowFilters" "PASS_FROM_X" "[I") (by decide +kernel)) (fun _ h9 => h9) dX0_pass_22 ?_
  refine lv_iload_n hx hb dX0_pass_25 rfl (lv_at hl 1 rfl) ?_
  refine va_ti (v := .int (nI (rf_fx k))) hx hb hZ.2.1 hS (vp_in_nI (by omega) (by omega)) (by show Value.int (nI (rf_fx (nI k).toNatClampNeg)) = _; rw [nI_clamp (by omega)]) dX0_pass_26 ?_
  refine va_gets (v := .ref t3) hx hb hZ.2.2.2.2.1 hS hown (hts (.fieldLink RX0 65 "RowFilters" "PASS_STEP_X" "[I") (by decide +kernel)) (fun _ h9 => h9) dX0_pass_27 ?_
  refine lv_iload_n hx hb dX0_pass_30 rfl (lv_at hl 1 rfl) ?_
  refine va_ti (v := .int (nI (rf_sx k))) hx hb hZ.2.2.2.2.2.1 hS (vp_in_nI (by omega) (by omega)) (by show Value.int (nI (rf_sx (nI k).toNatClampNeg)) = _; rw [nI_clamp (by omega)]) dX0_pass_31 ?_
  refine vp_callSi (W.runS (As := [.int (nI w), .int (nI (rf_fx k)), .int (nI (rf_sx k))]) (rest := []) ⟨hx, hb, hml, hown, hts⟩ (c_X0_pointsAlong l (nI w) (nI (rf_fx k)) (nI (rf_sx k)) (nI_ne0 (by omega) (by omega))) (va_cwS 3 hts gX0_pass_X0_pointsAlong rfl rfl rfl (by decide +kernel) ⟨Nat.le_of_ble_eq_true rfl, Nat.le_of_ble_eq_true rfl⟩) ⟨fun _ _ _ _ q => q, fun U hU hW => ⟨rfl, trivial⟩⟩ rfl rfl hl.1 rfl (lv_room (Nat.le_of_ble_eq_true rfl)) dX0_pass_32 ⟨Nat.zero_le _, Nat.zero_le _⟩) (fun r1 er1 => ?_)
  rw [rf_pax hk hw2] at er1
  subst er1
  refine lv_istore hx hb dX0_pass_35 hl (by decide) rfl (fun ls hl => ?_)
  have hl : lv_has ls 7 [(5, .int (nI (rf_n (rf_sx k) (rf_fx k) w))), (0, .ref h0), (1, .int (nI k)), (2, .int (nI w)), (3, .int (nI h)), (4, .int b)] := hl
  refine lv_iload_n hx hb dX0_pass_37 rfl (lv_at hl 4 rfl) ?_
  refine va_gets (v := .ref t2) hx hb hZ.2.2.1 hS hown (hts (.fieldLink RX0 72 "RowFilters" "PASS_FROM_Y" "[I") (by decide +kernel)) (fun _ h9 => h9) dX0_pass_38 ?_
  refine lv_iload_n hx hb dX0_pass_41 rfl (lv_at hl 2 rfl) ?_
  refine va_ti (v := .int (nI (rf_fy k))) hx hb hZ.2.2.2.1 hS (vp_in_nI (by omega) (by omega)) (by show Value.int (nI (rf_fy (nI k).toNatClampNeg)) = _; rw [nI_clamp (by omega)]) dX0_pass_42 ?_
  refine va_gets (v := .ref t4) hx hb hZ.2.2.2.2.2.2.1 hS hown (hts (.fieldLink RX0 75 "RowFilters" "PASS_STEP_Y" "[I") (by decide +kernel)) (fun _ h9 => h9) dX0_pass_43 ?_
  refine lv_iload_n hx hb dX0_pass_46 rfl (lv_at hl 2 rfl) ?_
  refine va_ti (v := .int (nI (rf_sy k))) hx hb hZ.2.2.2.2.2.2.2 hS (vp_in_nI (by omega) (by omega)) (by show Value.int (nI (rf_sy (nI k).toNatClampNeg)) = _; rw [nI_clamp (by omega)]) dX0_pass_47 ?_
  refine vp_callSi (W.runS (As := [.int (nI h), .int (nI (rf_fy k)), .int (nI (rf_sy k))]) (rest := []) ⟨hx, hb, hml, hown, hts⟩ (c_X0_pointsAlong l (nI h) (nI (rf_fy k)) (nI (rf_sy k)) (nI_ne0 (by omega) (by omega))) (va_cwS 3 hts gX0_pass_X0_pointsAlong rfl rfl rfl (by decide +kernel) ⟨Nat.le_of_ble_eq_true rfl, Nat.le_of_ble_eq_true rfl⟩) ⟨fun _ _ _ _ q => q, fun U hU hW => ⟨rfl, trivial⟩⟩ rfl rfl hl.1 rfl (lv_room (Nat.le_of_ble_eq_true rfl)) dX0_pass_48 ⟨Nat.zero_le _, Nat.zero_le _⟩) (fun r2 er2 => ?_)
  rw [rf_pay hk hh2] at er2
  subst er2
  refine lv_istore hx hb dX0_pass_51 hl (by decide) rfl (fun ls hl => ?_)
  have hl : lv_has ls 7 [(6, .int (nI (rf_n (rf_sy k) (rf_fy k) h))), (5, .int (nI (rf_n (rf_sx k) (rf_fx k) w))), (0, .ref h0), (1, .int (nI k)), (2, .int (nI w)), (3, .int (nI h)), (4, .int b)] := hl
  refine lv_iload hx hb dX0_pass_53 (lv_at hl 1 rfl) ?_
  refine lv_if_eq (tgt := 63) hx hb dX0_pass_55 (by decide) (fun z1 => ?_) (fun z1 => ?_)
  · refine lv_iconst (v := 0) hx hb dX0_pass_63 (by decide) ?_
    exact W.iret (v := 0) hx hb hr (fun t ht hW => ⟨0, rfl, by rw [rf_pr, if_pos ((rf_n0 (by omega)).mp z1)], ht⟩) (fun q h => by cases h) dX0_pass_64
  · refine lv_iload hx hb dX0_pass_58 (lv_at hl 0 rfl) ?_
    refine lv_if_ne (tgt := 65) hx hb dX0_pass_60 (by decide) (fun z2 => ?_) (fun z2 => ?_)
    · refine lv_iload hx hb dX0_pass_65 (lv_at hl 6 rfl) ?_
      refine lv_if_eq (tgt := 75) hx hb dX0_pass_67 (by decide) (fun z3 => ?_) (fun z3 => ?_)
      · refine lv_iload hx hb dX0_pass_75 (lv_at hl 1 rfl) ?_
        exact W.iret (v := (nI (rf_n (rf_sx k) (rf_fx k) w))) hx hb hr (fun t ht hW => ⟨(nI (rf_n (rf_sx k) (rf_fx k) w)), rfl, by rw [rf_pr, if_neg (fun q => z1 ((rf_n0 (by omega)).mpr q)), if_neg (fun q => z2 ((rf_n0 (by omega)).mpr q)), if_pos z3], ht⟩) (fun q h => by cases h) dX0_pass_77
      · refine lv_iload hx hb dX0_pass_70 (lv_at hl 0 rfl) ?_
        refine lv_goto (tgt := 77) hx hb dX0_pass_72 (by decide) ?_
        exact W.iret (v := (nI (rf_n (rf_sy k) (rf_fy k) h))) hx hb hr (fun t ht hW => ⟨(nI (rf_n (rf_sy k) (rf_fy k) h)), rfl, by rw [rf_pr, if_neg (fun q => z1 ((rf_n0 (by omega)).mpr q)), if_neg (fun q => z2 ((rf_n0 (by omega)).mpr q)), if_neg z3], ht⟩) (fun q h => by cases h) dX0_pass_77
    · refine lv_iconst (v := 0) hx hb dX0_pass_63 (by decide) ?_
      exact W.iret (v := 0) hx hb hr (fun t ht hW => ⟨0, rfl, by rw [rf_pr, if_neg (fun q => z1 ((rf_n0 (by omega)).mpr q)), if_pos ((rf_n0 (by omega)).mp z2)], ht⟩) (fun q h => by cases h) dX0_pass_64
set_option maxHeartbeats 4000000 in
set_option maxRecDepth 100000 in
theorem c_X0_passOf (l : Launch) (t1 t2 t3 t4 : Nat) (h0 : Nat) (x y : Nat) (hx9 : x ≤ 99999) (hy9 : y ≤ 99999) : Met l yX0_passOf wsX0_passOf ({ frames := 1, cells := 0, slots := 0, locals := 22 }) (va_Pc [.ref h0, .int (nI x), .int (nI y)] (rw_st t1 t2 t3 t4)) (vp_Si (fun r => ∃ k, r = nI k ∧ rf_po x y k)) 0 0 (fun _ => False) := by
  refine Met.ofW (cc := cX0_passOf) (maxL := 4) (ret := (some .int)) (by decide) rfl ?_
  intro p e s m args below meth c s₁ B hml hv
  obtain ⟨rfl, hZ⟩ := hv
  have hx := B.exec
  have hb := B.bytes
  have hr := B.returns
  have hts := atoms_spec (ws := wsX0_passOf) B.pre
  have hown : s.vm.findClass RX0 = some m.cls := findClass_of_methodNamed B.named
  have hlocks := B.notSynchronized
  have hS : va_S (fun _ => False) s.heap s.heap [] := va_S.rf
  have hl := lv_entry ([.ref h0, .int (nI x), .int (nI y)]) (n := 4) (Nat.le_of_ble_eq_true rfl)
  rw [lg_entry_eq]
  generalize (lg_sl ([.ref h0, .int (nI x), .int (nI y)]) ++ List.replicate (4 - (lg_sl ([.ref h0, .int (nI x), .int (nI y)])).length) Slot.unset).toArray = ls at hl ⊢
  have hl : lv_has ls 4 [(0, .ref h0), (1, .int (nI x)), (2, .int (nI y))] := hl
  refine lv_iload_n hx hb dX0_passOf_0 rfl (lv_at hl 1 rfl) ?_
  refine lv_iconst (v := 0) hx hb dX0_passOf_1 (by decide) ?_
  refine lv_ldc hx hb hown (hts (.constant RX0 78 (99999)) (by decide +kernel)) dX0_passOf_2 ?_
  refine va_csv (W.runS (As := [.int (nI x), .int 0, .int 99999]) (rest := []) ⟨hx, hb, hml, hown, hts⟩ (c_X0_requireWithin l (nI x) 0 99999 (nI_pos (by omega)) (nI_nlt (a := 99999) hx9 (by omega))) (va_cwS 3 hts gX0_passOf_X0_requireWithin rfl rfl rfl (by decide +kernel) ⟨Nat.le_of_ble_eq_true rfl, Nat.le_of_ble_eq_true rfl⟩) ⟨fun _ _ _ _ q => q, fun U hU hW => ⟨rfl, trivial⟩⟩ rfl rfl hl.1 rfl (lv_room (Nat.le_of_ble_eq_true rfl)) dX0_passOf_4 ⟨Nat.zero_le _, Nat.zero_le _⟩) (fun _ => ?_)
  refine lv_iload_n hx hb dX0_passOf_7 rfl (lv_at hl 2 rfl) ?_
  refine lv_iconst (v := 0) hx hb dX0_passOf_8 (by decide) ?_
  refine lv_ldc hx hb hown (hts (.constant RX0 78 (99999)) (by decide +kernel)) dX0_passOf_9 ?_
  refine va_csv (W.runS (As := [.int (nI y), .int 0, .int 99999]) (rest := []) ⟨hx, hb, hml, hown, hts⟩ (c_X0_requireWithin l (nI y) 0 99999 (nI_pos (by omega)) (nI_nlt (a := 99999) hy9 (by omega))) (va_cwS 3 hts gX0_passOf_X0_requireWithin rfl rfl rfl (by decide +kernel) ⟨Nat.le_of_ble_eq_true rfl, Nat.le_of_ble_eq_true rfl⟩) ⟨fun _ _ _ _ q => q, fun U hU hW => ⟨rfl, trivial⟩⟩ rfl rfl hl.1 rfl (lv_room (Nat.le_of_ble_eq_true rfl)) dX0_passOf_11 ⟨Nat.zero_le _, Nat.zero_le _⟩) (fun _ => ?_)
  refine lv_iconst (v := 0) hx hb dX0_passOf_14 (by decide) ?_
  refine lv_istore_n hx hb dX0_passOf_15 rfl hl (by decide) rfl (fun ls hl => ?_)
  have hl : lv_has ls 4 [(3, .int 0), (0, .ref h0), (1, .int (nI x)), (2, .int (nI y))] := hl
  refine rw_loop (fun k : Nat => 7 - k) (fun k ls => (k ≤ 6 ∧ ∀ j, j < k → ¬ rf_at j x y) ∧ lv_has ls 4 [(0, .ref h0), (1, .int (nI x)), (2, .int (nI y)), (3, .int (nI k))]) ?_ (0) ⟨⟨Nat.zero_le _, fun j h => absurd h (Nat.not_lt_zero j)⟩, lv_sub hl [1, 2, 3, 0] rfl⟩
  intro k ls hI ih
  obtain ⟨hj, hl⟩ := hI
  refine lv_iload_n hx hb dX0_passOf_16 rfl (lv_at hl 3 rfl) ?_
  refine lv_bipush (v := 6) hx hb dX0_passOf_17 (by decide) ?_
  refine lv_icmp_ge (tgt := 60) hx hb dX0_passOf_19 (by decide) (fun hc => ?_) (fun hc => ?_)
  · have hi : k = 6 := by have := (nI_leI (a := 6) (by omega) (by omega)).mp hc; omega
    subst hi
    refine lv_bipush (v := 6) hx hb dX0_passOf_60 (by decide) ?_
    exact W.iret (v := 6) hx hb hr (fun t ht hW => ⟨6, rfl, ⟨6, rfl, Nat.le_refl 6, rf_tot hj.2, hj.2⟩, ht⟩) (fun q h => by cases h) dX0_passOf_62
  · have hi : k < 6 := Nat.lt_of_not_le (fun q => hc ((nI_leI (a := 6) (by omega) (by omega)).mpr q))
    have h8 := rf_s8 hj.1
    refine lv_iload_n hx hb dX0_passOf_22 rfl (lv_at hl 1 rfl) ?_
    refine va_gets (v := .ref t3) hx hb hZ.2.2.2.2.1 hS hown (hts (.fieldLink RX0 65 "RowFilters" "PASS_STEP_X" "[I") (by decide +kernel)) (fun _ h9 => h9) dX0_passOf_23 ?_
    refine lv_iload_n hx hb dX0_passOf_26 rfl (lv_at hl 3 rfl) ?_
    refine va_ti (v := .int (nI (rf_sx k))) hx hb hZ.2.2.2.2.2.1 hS (vp_in_nI (by omega) (by omega)) (by show Value.int (nI (rf_sx (nI k).toNatClampNeg)) = _; rw [nI_clamp (by omega)]) dX0_passOf_27 ?_
    refine lv_irem hx hb dX0_passOf_28 (nI_ne0 (by omega) (by omega)) ?_
    refine W.eq (g2 := F0 m 29 ls [.int (nI (x % rf_sx k))]) (congrArg (fun z9 => F0 m 29 ls [.int z9]) (show ((nI x) - (nI x) / (nI (rf_sx k)) * (nI (rf_sx k))) = nI (x % rf_sx k) from rf_rem (by omega) (by omega))) ?_
    refine va_gets (v := .ref t1) hx hb hZ.1 hS hown (hts (.fieldLink RX0 62 "RowFilters" "PASS_FROM_X" "[I") (by decide +kernel)) (fun _ h9 => h9) dX0_passOf_29 ?_
    refine lv_iload_n hx hb dX0_passOf_32 rfl (lv_at hl 3 rfl) ?_
    refine va_ti (v := .int (nI (rf_fx k))) hx hb hZ.2.1 hS (vp_in_nI (by omega) (by omega)) (by show Value.int (nI (rf_fx (nI k).toNatClampNeg)) = _; rw [nI_clamp (by omega)]) dX0_passOf_33 ?_
    refine lv_icmp_ne (tgt := 54) hx hb dX0_passOf_34 (by decide) (fun z1 => ?_) (fun z1 => ?_)
    · refine lv_iinc (k := 3) (v := (nI (k + 1))) hx hb dX0_passOf_54 hl rfl (rf_inc k) (by decide) rfl (fun ls hl => ?_)
      have hl : lv_has ls 4 [(3, .int (nI (k + 1))), (0, .ref h0), (1, .int (nI x)), (2, .int (nI y))] := hl
      refine lv_goto (tgt := 16) hx hb dX0_passOf_57 (by decide) ?_
      exact ih (k + 1) _ (by show 7 - (k + 1) < 7 - k; omega) ⟨⟨by omega, lt_s hj.2 (fun q => z1 (congrArg nI q.1))⟩, lv_sub hl [1, 2, 3, 0] rfl⟩
    · have hm : x % rf_sx k < rf_sx k := Nat.mod_lt _ (by omega)
      refine lv_iload_n hx hb dX0_passOf_37 rfl (lv_at hl 2 rfl) ?_
      refine va_gets (v := .ref t4) hx hb hZ.2.2.2.2.2.2.1 hS hown (hts (.fieldLink RX0 75 "RowFilters" "PASS_STEP_Y" "[I") (by decide +kernel)) (fun _ h9 => h9) dX0_passOf_38 ?_
      refine lv_iload_n hx hb dX0_passOf_41 rfl (lv_at hl 3 rfl) ?_
      refine va_ti (v := .int (nI (rf_sy k))) hx hb hZ.2.2.2.2.2.2.2 hS (vp_in_nI (by omega) (by omega)) (by show Value.int (nI (rf_sy (nI k).toNatClampNeg)) = _; rw [nI_clamp (by omega)]) dX0_passOf_42 ?_
      refine lv_irem hx hb dX0_passOf_43 (nI_ne0 (by omega) (by omega)) ?_
      refine W.eq (g2 := F0 m 44 ls [.int (nI (y % rf_sy k))]) (congrArg (fun z9 => F0 m 44 ls [.int z9]) (show ((nI y) - (nI y) / (nI (rf_sy k)) * (nI (rf_sy k))) = nI (y % rf_sy k) from rf_rem (by omega) (by omega))) ?_
      refine va_gets (v := .ref t2) hx hb hZ.2.2.1 hS hown (hts (.fieldLink RX0 72 "RowFilters" "PASS_FROM_Y" "[I") (by decide +kernel)) (fun _ h9 => h9) dX0_passOf_44 ?_
      refine lv_iload_n hx hb dX0_passOf_47 rfl (lv_at hl 3 rfl) ?_
      refine va_ti (v := .int (nI (rf_fy k))) hx hb hZ.2.2.2.1 hS (vp_in_nI (by omega) (by omega)) (by show Value.int (nI (rf_fy (nI k).toNatClampNeg)) = _; rw [nI_clamp (by omega)]) dX0_passOf_48 ?_
      refine lv_icmp_ne (tgt := 54) hx hb dX0_passOf_49 (by decide) (fun z2 => ?_) (fun z2 => ?_)
      · refine lv_iinc (k := 3) (v := (nI (k + 1))) hx hb dX0_passOf_54 hl rfl (rf_inc k) (by decide) rfl (fun ls hl => ?_)
        have hl : lv_has ls 4 [(3, .int (nI (k + 1))), (0, .ref h0), (1, .int (nI x)), (2, .int (nI y))] := hl
        refine lv_goto (tgt := 16) hx hb dX0_passOf_57 (by decide) ?_
        exact ih (k + 1) _ (by show 7 - (k + 1) < 7 - k; omega) ⟨⟨by omega, lt_s hj.2 (fun q => z2 (congrArg nI q.2))⟩, lv_sub hl [1, 2, 3, 0] rfl⟩
      · have hm2 : y % rf_sy k < rf_sy k := Nat.mod_lt _ (by omega)
        refine lv_iload_n hx hb dX0_passOf_52 rfl (lv_at hl 3 rfl) ?_
        exact W.iret (v := (nI k)) hx hb hr (fun t ht hW => ⟨(nI k), rfl, ⟨k, rfl, hj.1, ⟨(nI_eq (by omega) (by omega)).mp z1, (nI_eq (by omega) (by omega)).mp z2⟩, hj.2⟩, ht⟩) (fun q h => by cases h) dX0_passOf_53
