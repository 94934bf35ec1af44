set_option maxHeartbeats 4000000 in
set_option maxRecDepth 100000 in
theorem c_Y1_guess (l : Launch) (dC : Nat → ClassId) (dI : Nat → Nat → Nat) (cI cJ : ClassId) (h0 b1 b2 : Nat) (fl : Int32) (rc rl ps : Nat) (g t : Nat → Int32) (y i q : Nat) (ok : rf_ok rc rl ps) (hy : y < rc) (hi : i < rl) (hq : q ≤ 4) : Met l yY1_guess wsY1_guess ({ frames := 1, cells := 0, slots := 0, locals := 22 }) (va_Pc [.ref h0, .int (nI y), .int (nI i), .int (nI q)] (rv_pre dC dI cI cJ h0 b1 b2 fl rc rl ps g t)) (vp_Si (fun r => r = rf_g g rl ps y i q)) 0 0 (fun _ => False) := by
  refine Met.ofW (cc := cY1_guess) (maxL := 11) (ret := (some .int)) (by decide) rfl ?_
  intro p e s m args below meth c s₁ B hml hv
  obtain ⟨rfl, hP, hK⟩ := hv
  have hx := B.exec
  have hb := B.bytes
  have hr := B.returns
  have hts := atoms_spec (ws := wsY1_guess) B.pre
  have hown : s.vm.findClass RX1 = some m.cls := findClass_of_methodNamed B.named
  have hlocks := B.notSynchronized
  have hP : va_P (dC, dI) rw_cl (rv_W h0 b1 b2 cI cJ fl rc rl ps g t) s.heap := hP
  have hl := lv_entry ([.ref h0, .int (nI y), .int (nI i), .int (nI q)]) (n := 11) (Nat.le_of_ble_eq_true rfl)
  rw [lg_entry_eq]
  generalize (lg_sl ([.ref h0, .int (nI y), .int (nI i), .int (nI q)]) ++ List.replicate (11 - (lg_sl ([.ref h0, .int (nI y), .int (nI i), .int (nI q)])).length) Slot.unset).toArray = ls at hl ⊢
  have hl : lv_has ls 11 [(0, .ref h0), (1, .int (nI y)), (2, .int (nI i)), (3, .int (nI q))] := hl
  have h1 := ok.rc
  have h2 := ok.rl
  have h3 := ok.k hy hi
  have h4 := ok.2.2.2.2
  refine lv_aload_n hx hb dY1_guess_0 rfl (lv_at hl 0 rfl) ?_
  refine lv_iload_n hx hb dY1_guess_1 rfl (lv_at hl 1 rfl) ?_
  refine lv_iload_n hx hb dY1_guess_2 rfl (lv_at hl 2 rfl) ?_
  refine lv_aload_n hx hb dY1_guess_3 rfl (lv_at hl 0 rfl) ?_
  refine va_get (D := (dC, dI)) (ci := 1) (v := .int (nI ps)) (C := RX1) (T := TY1) (N := 6) hx hb hts (by decide +kernel) hown hK hP 0 rfl rfl 3 (by decide) (hts (.fieldLink RX1 16 "RowFiltersModel" "step" "I") (by decide +kernel)) (fun _ h9 => h9) rfl dY1_guess_4 ?_
  refine lv_isub hx hb dY1_guess_7 ?_
  refine vp_callSi (W.runV (C := RX1) (As := [.int (nI y), .int ((nI i) - (nI ps))]) (rest := []) ⟨hx, hb, hml, hown, hts⟩ (c_Y1_at l dC dI cI cJ h0 b1 b2 fl rc rl ps g t (nI y) (nI i - nI ps) (rf_in (rf_in_0 y) (rf_in_p h4) h3)) (cwV 2 hts gY1_guess_Y1_at rfl rfl rfl (by decide +kernel) ⟨Nat.le_of_ble_eq_true rfl, Nat.le_of_ble_eq_true rfl⟩) ⟨fun a U g mk q => by obtain ⟨q0, qP, qK⟩ := q; exact ⟨q0, qP, va_K.moved (u := U) (U := U.calling g mk a) (Vm.Alike.refl U.vm) qK⟩, va_recv hK hP (ci := 1) (q0 := 0) rfl rfl, fun U hU hW => ⟨rfl, by rw [hU]; exact hP, va_K.moved hW.alike hK⟩⟩ rfl rfl hl.1 rfl (lv_room (Nat.le_of_ble_eq_true rfl)) dY1_guess_8 ⟨Nat.zero_le _, Nat.zero_le _⟩) (fun a ea => ?_)
  rw [rf_z_a (by omega) (by omega) h4 h3] at ea
  refine lv_istore hx hb dY1_guess_11 hl (by decide) rfl (fun ls hl => ?_)
  have hl : lv_has ls 11 [(4, .int a), (0, .ref h0), (1, .int (nI y)), (2, .int (nI i)), (3, .int (nI q))] := hl
  refine lv_aload_n hx hb dY1_guess_13 rfl (lv_at hl 1 rfl) ?_
  refine lv_iload_n hx hb dY1_guess_14 rfl (lv_at hl 2 rfl) ?_
  refine lv_iconst (v := 1) hx hb dY1_guess_15 (by decide) ?_
  refine lv_isub hx hb dY1_guess_16 ?_
  refine lv_iload_n hx hb dY1_guess_17 rfl (lv_at hl 3 rfl) ?_
  refine vp_callSi (W.runV (C := RX1) (As := [.int ((nI y) - 1), .int (nI i)]) (rest := []) ⟨hx, hb, hml, hown, hts⟩ (c_Y1_at l dC dI cI cJ h0 b1 b2 fl rc rl ps g t (nI y - 1) (nI i) (rf_in (rf_in_1 (by omega)) (rf_in_0 i) h3)) (cwV 2 hts gY1_guess_Y1_at rfl rfl rfl (by decide +kernel) ⟨Nat.le_of_ble_eq_true rfl, Nat.le_of_ble_eq_true rfl⟩) ⟨fun a U g mk q => by obtain ⟨q0, qP, qK⟩ := q; exact ⟨q0, qP, va_K.moved (u := U) (U := U.calling g mk a) (Vm.Alike.refl U.vm) qK⟩, va_recv hK hP (ci := 1) (q0 := 0) rfl rfl, fun U hU hW => ⟨rfl, by rw [hU]; exact hP, va_K.moved hW.alike hK⟩⟩ rfl rfl hl.1 rfl (lv_room (Nat.le_of_ble_eq_true rfl)) dY1_guess_18 ⟨Nat.zero_le _, Nat.zero_le _⟩) (fun b eb => ?_)
  rw [rf_z_b (by omega) (by omega) h3] at eb
  refine lv_istore hx hb dY1_guess_21 hl (by decide) rfl (fun ls hl => ?_)
  have hl : lv_has ls 11 [(5, .int b), (4, .int a), (0, .ref h0), (1, .int (nI y)), (2, .int (nI i)), (3, .int (nI q))] := hl
  refine lv_aload_n hx hb dY1_guess_23 rfl (lv_at hl 2 rfl) ?_
  refine lv_iload_n hx hb dY1_guess_24 rfl (lv_at hl 3 rfl) ?_
  refine lv_iconst (v := 1) hx hb dY1_guess_25 (by decide) ?_
  refine lv_isub hx hb dY1_guess_26 ?_
  refine lv_iload_n hx hb dY1_guess_27 rfl (lv_at hl 4 rfl) ?_
  refine lv_aload_n hx hb dY1_guess_28 rfl (lv_at hl 2 rfl) ?_
  refine va_get (D := (dC, dI)) (ci := 1) (v := .int (nI ps)) (C := RX1) (T := TY1) (N := 6) hx hb hts (by decide +kernel) hown hK hP 0 rfl rfl 3 (by decide) (hts (.fieldLink RX1 16 "RowFiltersModel" "step" "I") (by decide +kernel)) (fun _ h9 => h9) rfl dY1_guess_29 ?_
  refine lv_isub hx hb dY1_guess_32 ?_
  refine vp_callSi (W.runV (C := RX1) (As := [.int ((nI y) - 1), .int ((nI i) - (nI ps))]) (rest := []) ⟨hx, hb, hml, hown, hts⟩ (c_Y1_at l dC dI cI cJ h0 b1 b2 fl rc rl ps g t (nI y - 1) (nI i - nI ps) (rf_in (rf_in_1 (by omega)) (rf_in_p h4) h3)) (cwV 2 hts gY1_guess_Y1_at rfl rfl rfl (by decide +kernel) ⟨Nat.le_of_ble_eq_true rfl, Nat.le_of_ble_eq_true rfl⟩) ⟨fun a U g mk q => by obtain ⟨q0, qP, qK⟩ := q; exact ⟨q0, qP, va_K.moved (u := U) (U := U.calling g mk a) (Vm.Alike.refl U.vm) qK⟩, va_recv hK hP (ci := 1) (q0 := 0) rfl rfl, fun U hU hW => ⟨rfl, by rw [hU]; exact hP, va_K.moved hW.alike hK⟩⟩ rfl rfl hl.1 rfl (lv_room (Nat.le_of_ble_eq_true rfl)) dY1_guess_33 ⟨Nat.zero_le _, Nat.zero_le _⟩) (fun z ez => ?_)
  rw [rf_z_c (by omega) (by omega) h4 h3] at ez
  refine lv_istore hx hb dY1_guess_36 hl (by decide) rfl (fun ls hl => ?_)
  have hl : lv_has ls 11 [(6, .int z), (5, .int b), (4, .int a), (0, .ref h0), (1, .int (nI y)), (2, .int (nI i)), (3, .int (nI q))] := hl
  refine lv_iload_n hx hb dY1_guess_38 rfl (lv_at hl 6 rfl) ?_
  obtain rfl | rfl | rfl | rfl | rfl : q = 0 ∨ q = 1 ∨ q = 2 ∨ q = 3 ∨ q = 4 := by omega
  · refine lv_if_ne (tgt := 44) hx hb dY1_guess_39 (by decide) (fun h10 => ?_) (fun h10 => ?_)
    · exact absurd (by decide +kernel) h10
    · refine lv_iconst (v := 0) hx hb dY1_guess_42 (by decide) ?_
      exact W.iret (v := 0) hx hb hr (fun t ht hW => ⟨0, rfl, by simp [rf_g], ht⟩) (fun q h => by cases h) dY1_guess_43
  · refine lv_if_ne (tgt := 44) hx hb dY1_guess_39 (by decide) (fun h10 => ?_) (fun h10 => ?_)
    · refine lv_iload_n hx hb dY1_guess_44 rfl (lv_at hl 6 rfl) ?_
      refine lv_iconst (v := 1) hx hb dY1_guess_45 (by decide) ?_
      refine lv_icmp_ne (tgt := 52) hx hb dY1_guess_46 (by decide) (fun h11 => ?_) (fun h11 => ?_)
      · exact absurd rfl h11
      · refine lv_iload hx hb dY1_guess_49 (lv_at hl 2 rfl) ?_
        exact W.iret (v := a) hx hb hr (fun t ht hW => ⟨a, rfl, by rw [ea]; simp [rf_g], ht⟩) (fun q h => by cases h) dY1_guess_51
    · exact absurd h10 (by decide +kernel)
  · refine lv_if_ne (tgt := 44) hx hb dY1_guess_39 (by decide) (fun h10 => ?_) (fun h10 => ?_)
    · refine lv_iload_n hx hb dY1_guess_44 rfl (lv_at hl 6 rfl) ?_
      refine lv_iconst (v := 1) hx hb dY1_guess_45 (by decide) ?_
      refine lv_icmp_ne (tgt := 52) hx hb dY1_guess_46 (by decide) (fun h11 => ?_) (fun h11 => ?_)
      · refine lv_iload_n hx hb dY1_guess_52 rfl (lv_at hl 6 rfl) ?_
        refine lv_iconst (v := 2) hx hb dY1_guess_53 (by decide) ?_
        refine lv_icmp_ne (tgt := 60) hx hb dY1_guess_54 (by decide) (fun h12 => ?_) (fun h12 => ?_)
        · exact absurd rfl h12
        · refine lv_iload hx hb dY1_guess_57 (lv_at hl 1 rfl) ?_
          exact W.iret (v := b) hx hb hr (fun t ht hW => ⟨b, rfl, by rw [eb]; simp [rf_g], ht⟩) (fun q h => by cases h) dY1_guess_59
      · exact absurd h11 (by decide +kernel)
    · exact absurd h10 (by decide +kernel)
  · refine lv_if_ne (tgt := 44) hx hb dY1_guess_39 (by decide) (fun h10 => ?_) (fun h10 => ?_)
    · refine lv_iload_n hx hb dY1_guess_44 rfl (lv_at hl 6 rfl) ?_
      refine lv_iconst (v := 1) hx hb dY1_guess_45 (by decide) ?_
      refine lv_icmp_ne (tgt := 52) hx hb dY1_guess_46 (by decide) (fun h11 => ?_) (fun h11 => ?_)
      · refine lv_iload_n hx hb dY1_guess_52 rfl (lv_at hl 6 rfl) ?_
        refine lv_iconst (v := 2) hx hb dY1_guess_53 (by decide) ?_
        refine lv_icmp_ne (tgt := 60) hx hb dY1_guess_54 (by decide) (fun h12 => ?_) (fun h12 => ?_)
        · refine lv_iload_n hx hb dY1_guess_60 rfl (lv_at hl 6 rfl) ?_
          refine lv_iconst (v := 3) hx hb dY1_guess_61 (by decide) ?_
          refine lv_icmp_ne (tgt := 73) hx hb dY1_guess_62 (by decide) (fun h13 => ?_) (fun h13 => ?_)
          · exact absurd rfl h13
          · refine lv_iload hx hb dY1_guess_65 (lv_at hl 2 rfl) ?_
            refine lv_iload hx hb dY1_guess_67 (lv_at hl 1 rfl) ?_
            refine lv_iadd hx hb dY1_guess_69 ?_
            refine lv_iconst (v := 2) hx hb dY1_guess_70 (by decide) ?_
            refine lv_idiv hx hb dY1_guess_71 (by decide) ?_
            exact W.iret (v := ((a + b) / 2)) hx hb hr (fun t ht hW => ⟨((a + b) / 2), rfl, by rw [ea, eb]; simp [rf_g], ht⟩) (fun q h => by cases h) dY1_guess_72
        · exact absurd h12 (by decide +kernel)
      · exact absurd h11 (by decide +kernel)
    · exact absurd h10 (by decide +kernel)
  · refine lv_if_ne (tgt := 44) hx hb dY1_guess_39 (by decide) (fun h10 => ?_) (fun h10 => ?_)
    · refine lv_iload_n hx hb dY1_guess_44 rfl (lv_at hl 6 rfl) ?_
      refine lv_iconst (v := 1) hx hb dY1_guess_45 (by decide) ?_
      refine lv_icmp_ne (tgt := 52) hx hb dY1_guess_46 (by decide) (fun h11 => ?_) (fun h11 => ?_)
      · refine lv_iload_n hx hb dY1_guess_52 rfl (lv_at hl 6 rfl) ?_
        refine lv_iconst (v := 2) hx hb dY1_guess_53 (by decide) ?_
        refine lv_icmp_ne (tgt := 60) hx hb dY1_guess_54 (by decide) (fun h12 => ?_) (fun h12 => ?_)
        · refine lv_iload_n hx hb dY1_guess_60 rfl (lv_at hl 6 rfl) ?_
          refine lv_iconst (v := 3) hx hb dY1_guess_61 (by decide) ?_
          refine lv_icmp_ne (tgt := 73) hx hb dY1_guess_62 (by decide) (fun h13 => ?_) (fun h13 => ?_)
          · refine lv_iload hx hb dY1_guess_73 (lv_at hl 2 rfl) ?_
            refine lv_iload hx hb dY1_guess_75 (lv_at hl 1 rfl) ?_
            refine lv_iadd hx hb dY1_guess_77 ?_
            refine lv_iload hx hb dY1_guess_78 (lv_at hl 0 rfl) ?_
            refine lv_isub hx hb dY1_guess_80 ?_
            refine lv_istore hx hb dY1_guess_81 hl (by decide) rfl (fun ls hl => ?_)
            have hl : lv_has ls 11 [(7, .int ((a + b) - z)), (6, .int z), (5, .int b), (4, .int a), (0, .ref h0), (1, .int (nI y)), (2, .int (nI i)), (3, .int (nI 4))] := hl
            refine lv_iload hx hb dY1_guess_83 (lv_at hl 0 rfl) ?_
            refine lv_iload hx hb dY1_guess_85 (lv_at hl 3 rfl) ?_
            refine lv_isub hx hb dY1_guess_87 ?_
            refine va_mabs hx hb (hml.trans hl.1.symm) hown (hts (.methodLink RX1 41 Lib.Math.abs.name) (by decide +kernel)) (hts (.static Lib.Math.abs.name) (by decide +kernel)) (hts (.initialized "java/lang/Math") (by decide +kernel)) (hts (.code Lib.Math.abs.name Lib.Math.abs.code 1 (some .int)) (by decide +kernel)) (Nat.le_of_ble_eq_true rfl) (Nat.le_of_ble_eq_true rfl) (Nat.le_of_ble_eq_true rfl) (Nat.le_of_ble_eq_true rfl) dY1_guess_88 ?_
            refine lv_topi (fun fa efa => ?_)
            have efa : fa = rf_abs (a + b - z - a) := efa
            refine lv_istore hx hb dY1_guess_91 hl (by decide) rfl (fun ls hl => ?_)
            have hl : lv_has ls 11 [(8, .int fa), (7, .int ((a + b) - z)), (6, .int z), (5, .int b), (4, .int a), (0, .ref h0), (1, .int (nI y)), (2, .int (nI i)), (3, .int (nI 4))] := hl
            refine lv_iload hx hb dY1_guess_93 (lv_at hl 1 rfl) ?_
            refine lv_iload hx hb dY1_guess_95 (lv_at hl 3 rfl) ?_
            refine lv_isub hx hb dY1_guess_97 ?_
            refine va_mabs hx hb (hml.trans hl.1.symm) hown (hts (.methodLink RX1 41 Lib.Math.abs.name) (by decide +kernel)) (hts (.static Lib.Math.abs.name) (by decide +kernel)) (hts (.initialized "java/lang/Math") (by decide +kernel)) (hts (.code Lib.Math.abs.name Lib.Math.abs.code 1 (some .int)) (by decide +kernel)) (Nat.le_of_ble_eq_true rfl) (Nat.le_of_ble_eq_true rfl) (Nat.le_of_ble_eq_true rfl) (Nat.le_of_ble_eq_true rfl) dY1_guess_98 ?_
            refine lv_topi (fun fb efb => ?_)
            have efb : fb = rf_abs (a + b - z - b) := efb
            refine lv_istore hx hb dY1_guess_101 hl (by decide) rfl (fun ls hl => ?_)
            have hl : lv_has ls 11 [(9, .int fb), (8, .int fa), (7, .int ((a + b) - z)), (6, .int z), (5, .int b), (4, .int a), (0, .ref h0), (1, .int (nI y)), (2, .int (nI i)), (3, .int (nI 4))] := hl
            refine lv_iload hx hb dY1_guess_103 (lv_at hl 2 rfl) ?_
            refine lv_iload hx hb dY1_guess_105 (lv_at hl 3 rfl) ?_
            refine lv_isub hx hb dY1_guess_107 ?_
            refine va_mabs hx hb (hml.trans hl.1.symm) hown (hts (.methodLink RX1 41 Lib.Math.abs.name) (by decide +kernel)) (hts (.static Lib.Math.abs.name) (by decide +kernel)) (hts (.initialized "java/lang/Math") (by decide +kernel)) (hts (.code Lib.Math.abs.name Lib.Math.abs.code 1 (some .int)) (by decide +kernel)) (Nat.le_of_ble_eq_true rfl) (Nat.le_of_ble_eq_true rfl) (Nat.le_of_ble_eq_true rfl) (Nat.le_of_ble_eq_true rfl) dY1_guess_108 ?_
            refine lv_topi (fun fc efc => ?_)
            have efc : fc = rf_abs (a + b - z - z) := efc
            have e4 : rf_g g rl ps y i 4 = rf_near a b z := by rw [ea, eb, ez]; simp [rf_g]
            refine lv_istore hx hb dY1_guess_111 hl (by decide) rfl (fun ls hl => ?_)
            have hl : lv_has ls 11 [(10, .int fc), (9, .int fb), (8, .int fa), (7, .int ((a + b) - z)), (6, .int z), (5, .int b), (4, .int a), (0, .ref h0), (1, .int (nI y)), (2, .int (nI i)), (3, .int (nI 4))] := hl
            refine lv_iload hx hb dY1_guess_113 (lv_at hl 2 rfl) ?_
            refine lv_iload hx hb dY1_guess_115 (lv_at hl 1 rfl) ?_
            refine lv_icmp_gt (tgt := 132) hx hb dY1_guess_117 (by decide) (fun h1 => ?_) (fun h1 => ?_)
            · refine lv_iload hx hb dY1_guess_132 (lv_at hl 1 rfl) ?_
              refine lv_iload hx hb dY1_guess_134 (lv_at hl 0 rfl) ?_
              refine lv_icmp_gt (tgt := 144) hx hb dY1_guess_136 (by decide) (fun h3 => ?_) (fun h3 => ?_)
              · refine lv_iload hx hb dY1_guess_144 (lv_at hl 4 rfl) ?_
                exact W.iret (v := z) hx hb hr (fun t ht hW => ⟨z, rfl, by rw [e4]; unfold rf_near; rw [← efa, ← efb, ← efc]; rw [if_neg (fun q => absurd q.1 (Int32.not_le.mpr h1)), if_neg (Int32.not_le.mpr h3)], ht⟩) (fun q h => by cases h) dY1_guess_146
              · refine lv_iload hx hb dY1_guess_139 (lv_at hl 5 rfl) ?_
                refine lv_goto (tgt := 146) hx hb dY1_guess_141 (by decide) ?_
                exact W.iret (v := b) hx hb hr (fun t ht hW => ⟨b, rfl, by rw [e4]; unfold rf_near; rw [← efa, ← efb, ← efc]; rw [if_neg (fun q => absurd q.1 (Int32.not_le.mpr h1)), if_pos (Int32.not_lt.mp h3)], ht⟩) (fun q h => by cases h) dY1_guess_146
            · refine lv_iload hx hb dY1_guess_120 (lv_at hl 2 rfl) ?_
              refine lv_iload hx hb dY1_guess_122 (lv_at hl 0 rfl) ?_
              refine lv_icmp_gt (tgt := 132) hx hb dY1_guess_124 (by decide) (fun h2 => ?_) (fun h2 => ?_)
              · refine lv_iload hx hb dY1_guess_132 (lv_at hl 1 rfl) ?_
                refine lv_iload hx hb dY1_guess_134 (lv_at hl 0 rfl) ?_
                refine lv_icmp_gt (tgt := 144) hx hb dY1_guess_136 (by decide) (fun h3 => ?_) (fun h3 => ?_)
                · refine lv_iload hx hb dY1_guess_144 (lv_at hl 4 rfl) ?_
                  exact W.iret (v := z) hx hb hr (fun t ht hW => ⟨z, rfl, by rw [e4]; unfold rf_near; rw [← efa, ← efb, ← efc]; rw [if_neg (fun q => absurd q.2 (Int32.not_le.mpr h2)), if_neg (Int32.not_le.mpr h3)], ht⟩) (fun q h => by cases h) dY1_guess_146
                · refine lv_iload hx hb dY1_guess_139 (lv_at hl 5 rfl) ?_
                  refine lv_goto (tgt := 146) hx hb dY1_guess_141 (by decide) ?_
                  exact W.iret (v := b) hx hb hr (fun t ht hW => ⟨b, rfl, by rw [e4]; unfold rf_near; rw [← efa, ← efb, ← efc]; rw [if_neg (fun q => absurd q.2 (Int32.not_le.mpr h2)), if_pos (Int32.not_lt.mp h3)], ht⟩) (fun q h => by cases h) dY1_guess_146
              · refine lv_iload hx hb dY1_guess_127 (lv_at hl 6 rfl) ?_
                refine lv_goto (tgt := 146) hx hb dY1_guess_129 (by decide) ?_
                exact W.iret (v := a) hx hb hr (fun t ht hW => ⟨a, rfl, by rw [e4]; unfold rf_near; rw [← efa, ← efb, ← efc]; rw [if_pos ⟨Int32.not_lt.mp h1, Int32.not_lt.mp h2⟩], ht⟩) (fun q h => by cases h) dY1_guess_146
          · exact absurd h13 (by decide +kernel)
        · exact absurd h12 (by decide +kernel)
      · exact absurd h11 (by decide +kernel)
    · exact absurd h10 (by decide +kernel)
