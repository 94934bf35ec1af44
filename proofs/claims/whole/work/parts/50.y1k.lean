set_option maxHeartbeats 4000000 in
set_option maxRecDepth 100000 in
theorem c_Y1_pass (l : Launch) (dC : Nat → ClassId) (dI : Nat → Nat → Nat) (cI cJ : ClassId) (h0 b1 b2 : Nat) (fl : Int32) (rc rl ps : Nat) (g t : Nat → Int32) (sz : Nat) (k w h : Nat) (b : Int32) (hk : k ≤ 6) (hw1 : 1 ≤ w) (hw2 : w ≤ 100000) (hh1 : 1 ≤ h) (hh2 : h ≤ 100000) : Met l yY1_pass wsY1_pass ({ frames := 1, cells := 0, slots := 0, locals := 22 }) (va_Pc [.ref h0, .int (nI k), .int (nI w), .int (nI h), .int b] (rv_preD dC dI cI cJ h0 b1 b2 fl rc rl ps g t sz)) (va_Qi (fun (r : Int32) (_ : Unit) => r = rf_pr k w h b) (fun _ t9 => rv_B dC dI cI cJ h0 b1 b2 0 rc rl ps g t (va_A (rv_W h0 b1 b2 cI cJ fl rc rl ps g t) sz) t9) (va_A (rv_W h0 b1 b2 cI cJ fl rc rl ps g t) sz)) 0 0 (va_A (rv_W h0 b1 b2 cI cJ fl rc rl ps g t) sz) := by
  refine Met.ofW (cc := cY1_pass) (maxL := 8) (ret := (some .int)) (by decide) rfl ?_
  intro p e s m args below meth c s₁ B hml hv
  obtain ⟨rfl, hsz, hP, hK, hD0⟩ := hv
  have hx := B.exec
  have hb := B.bytes
  have hr := B.returns
  have hts := atoms_spec (ws := wsY1_pass) B.pre
  have hown : s.vm.findClass RX1 = some m.cls := findClass_of_methodNamed B.named
  have hlocks := B.notSynchronized
  subst hsz
  have hD := hD0.self (sz := s.heap.size)
  generalize hAe : va_A (rv_W h0 b1 b2 cI cJ fl rc rl ps g t) s.heap.size = A at hD ⊢
  have hA : ∀ q : Nat, s.heap.size ≤ q → A q := fun q h => by rw [← hAe]; exact Or.inr h
  have hS : va_S A s.heap s.heap [] := va_S.rf
  have hP : va_P (dC, dI) rw_cl (rv_W h0 b1 b2 cI cJ fl rc rl ps g t) s.heap := hP
  have hl := lv_entry ([.ref h0, .int (nI k), .int (nI w), .int (nI h), .int b]) (n := 8) (Nat.le_of_ble_eq_true rfl)
  rw [lg_entry_eq]
  generalize (lg_sl ([.ref h0, .int (nI k), .int (nI w), .int (nI h), .int b]) ++ List.replicate (8 - (lg_sl ([.ref h0, .int (nI k), .int (nI w), .int (nI h), .int b])).length) Slot.unset).toArray = ls at hl ⊢
  have hl : lv_has ls 8 [(0, .ref h0), (1, .int (nI k)), (2, .int (nI w)), (3, .int (nI h)), (4, .int b)] := hl
  refine lv_aload_n hx hb dY1_pass_0 rfl (lv_at hl 0 rfl) ?_
  refine lv_iconst (v := 0) hx hb dY1_pass_1 (by decide) ?_
  refine va_put (D := (dC, dI)) (ci := 1) (v := .int 0) (ty := .int) (C := RX1) (T := TY1) (N := 6) hx hb hts (by decide +kernel) tyY1 tyY1_ok nmY1 hown hK hP hD hS 0 rfl rfl 0 (by decide) (hts (.fieldLink RX1 26 "RowFiltersModel" "failed" "I") (by decide +kernel)) (fun _ h9 => h9) rfl (by decide +kernel) rfl rfl (Nat.le_of_ble_eq_true rfl) dY1_pass_2 (fun H locs hP hD hS => ?_)
  have hP : va_P (dC, dI) rw_cl [(h0, .inr (1, [.int 0, .int (nI rc), .int (nI rl), .int (nI ps), .ref b1, .ref b2])), (b1, .inl (cI, 4096, .inl g)), (b2, .inl (cJ, 4096, .inl t))] H := hP
  have hD : va_D A [(h0, .inr (1, [.int 0, .int (nI rc), .int (nI rl), .int (nI ps), .ref b1, .ref b2])), (b1, .inl (cI, 4096, .inl g)), (b2, .inl (cJ, 4096, .inl t))] := hD
  refine lv_iload_n hx hb dY1_pass_5 rfl (lv_at hl 1 rfl) ?_
  refine lv_if_lt (tgt := 37) hx hb dY1_pass_6 (by decide) (fun q0 => ?_) (fun q0 => ?_)
  · exact absurd q0 (nI_pos (by omega))
  · refine lv_iload_n hx hb dY1_pass_9 rfl (lv_at hl 1 rfl) ?_
    refine lv_bipush (v := 6) hx hb dY1_pass_10 (by decide) ?_
    refine lv_icmp_gt (tgt := 37) hx hb dY1_pass_12 (by decide) (fun q1 => ?_) (fun q1 => ?_)
    · exact absurd q1 (nI_nlt (a := 6) hk (by omega))
    · refine lv_iload_n hx hb dY1_pass_15 rfl (lv_at hl 2 rfl) ?_
      refine lv_iconst (v := 1) hx hb dY1_pass_16 (by decide) ?_
      refine lv_icmp_lt (tgt := 37) hx hb dY1_pass_17 (by decide) (fun q2 => ?_) (fun q2 => ?_)
      · exact absurd q2 (nI_nlt (b := 1) hw1 (by omega))
      · refine lv_iload_n hx hb dY1_pass_20 rfl (lv_at hl 2 rfl) ?_
        refine lv_ldc hx hb hown (hts (.constant RX1 61 (100000)) (by decide +kernel)) dY1_pass_21 ?_
        refine lv_icmp_gt (tgt := 37) hx hb dY1_pass_23 (by decide) (fun q3 => ?_) (fun q3 => ?_)
        · exact absurd q3 (nI_nlt (a := 100000) hw2 (by omega))
        · refine lv_iload_n hx hb dY1_pass_26 rfl (lv_at hl 3 rfl) ?_
          refine lv_iconst (v := 1) hx hb dY1_pass_27 (by decide) ?_
          refine lv_icmp_lt (tgt := 37) hx hb dY1_pass_28 (by decide) (fun q4 => ?_) (fun q4 => ?_)
          · exact absurd q4 (nI_nlt (b := 1) hh1 (by omega))
          · refine lv_iload_n hx hb dY1_pass_31 rfl (lv_at hl 3 rfl) ?_
            refine lv_ldc hx hb hown (hts (.constant RX1 61 (100000)) (by decide +kernel)) dY1_pass_32 ?_
            refine lv_icmp_le (tgt := 43) hx hb dY1_pass_34 (by decide) (fun q5 => ?_) (fun q5 => ?_)
            · refine lv_iconst (v := 0) hx hb dY1_pass_43 (by decide) ?_
              refine lv_istore hx hb dY1_pass_44 hl (by decide) rfl (fun ls hl => ?_)
              have hl : lv_has ls 8 [(5, .int 0), (0, .ref h0), (1, .int (nI k)), (2, .int (nI w)), (3, .int (nI h)), (4, .int b)] := hl
              refine lv_iconst (v := 0) hx hb dY1_pass_46 (by decide) ?_
              refine lv_istore hx hb dY1_pass_47 hl (by decide) rfl (fun ls hl => ?_)
              have hl : lv_has ls 8 [(6, .int 0), (5, .int 0), (0, .ref h0), (1, .int (nI k)), (2, .int (nI w)), (3, .int (nI h)), (4, .int b)] := hl
              refine lv_iconst (v := 0) hx hb dY1_pass_49 (by decide) ?_
              refine lv_istore hx hb dY1_pass_50 hl (by decide) rfl (fun ls hl => ?_)
              have hl : lv_has ls 8 [(7, .int 0), (6, .int 0), (5, .int 0), (0, .ref h0), (1, .int (nI k)), (2, .int (nI w)), (3, .int (nI h)), (4, .int b)] := hl
              refine rw_loop (fun j : Nat => w - j) (fun j ls => (j ≤ w) ∧ lv_has ls 8 [(0, .ref h0), (1, .int (nI k)), (2, .int (nI w)), (3, .int (nI h)), (4, .int b), (5, .int (nI (rf_n (rf_sx k) (rf_fx k) j))), (6, .int 0), (7, .int (nI j))]) ?_ (0) ⟨Nat.zero_le _, lv_sub hl [3, 4, 5, 6, 7, 2, 1, 0] rfl⟩
              intro j ls hI ih
              obtain ⟨hj, hl⟩ := hI
              refine lv_iload hx hb dY1_pass_52 (lv_at hl 7 rfl) ?_
              refine lv_iload_n hx hb dY1_pass_54 rfl (lv_at hl 2 rfl) ?_
              refine lv_icmp_ge (tgt := 84) hx hb dY1_pass_55 (by decide) (fun hc0 => ?_) (fun hc0 => ?_)
              · have hi : j = w := by have := (nI_leI (by omega) (by omega)).mp hc0; omega
                rw [hi] at hl
                have hl : lv_has ls 8 [(0, .ref h0), (1, .int (nI k)), (2, .int (nI w)), (3, .int (nI h)), (4, .int b), (5, .int (nI (rf_n (rf_sx k) (rf_fx k) w))), (6, .int 0), (7, .int (nI w))] := hl
                refine lv_iconst (v := 0) hx hb dY1_pass_84 (by decide) ?_
                refine lv_istore hx hb dY1_pass_85 hl (by decide) rfl (fun ls hl => ?_)
                have hl : lv_has ls 8 [(7, .int 0), (0, .ref h0), (1, .int (nI k)), (2, .int (nI w)), (3, .int (nI h)), (4, .int b), (5, .int (nI (rf_n (rf_sx k) (rf_fx k) w))), (6, .int 0)] := hl
                refine rw_loop (fun j : Nat => h - j) (fun j ls => (j ≤ h) ∧ lv_has ls 8 [(0, .ref h0), (1, .int (nI k)), (2, .int (nI w)), (3, .int (nI h)), (4, .int b), (5, .int (nI (rf_n (rf_sx k) (rf_fx k) w))), (6, .int (nI (rf_n (rf_sy k) (rf_fy k) j))), (7, .int (nI j))]) ?_ (0) ⟨Nat.zero_le _, lv_sub hl [1, 2, 3, 4, 5, 6, 7, 0] rfl⟩
                intro j ls hI ih
                obtain ⟨hj, hl⟩ := hI
                refine lv_iload hx hb dY1_pass_87 (lv_at hl 7 rfl) ?_
                refine lv_iload_n hx hb dY1_pass_89 rfl (lv_at hl 3 rfl) ?_
                refine lv_icmp_ge (tgt := 119) hx hb dY1_pass_90 (by decide) (fun hc1 => ?_) (fun hc1 => ?_)
                · have hi : j = h := by have := (nI_leI (by omega) (by omega)).mp hc1; omega
                  rw [hi] at hl
                  have hl : lv_has ls 8 [(0, .ref h0), (1, .int (nI k)), (2, .int (nI w)), (3, .int (nI h)), (4, .int b), (5, .int (nI (rf_n (rf_sx k) (rf_fx k) w))), (6, .int (nI (rf_n (rf_sy k) (rf_fy k) h))), (7, .int (nI h))] := hl
                  have hx1 := rf_n_le (rf_sx k) (rf_fx k) w
                  have hy1 := rf_n_le (rf_sy k) (rf_fy k) h
                  refine lv_iload hx hb dY1_pass_119 (lv_at hl 5 rfl) ?_
                  refine lv_if_eq (tgt := 129) hx hb dY1_pass_121 (by decide) (fun z1 => ?_) (fun z1 => ?_)
                  · refine lv_iconst (v := 0) hx hb dY1_pass_129 (by decide) ?_
                    refine lv_goto (tgt := 145) hx hb dY1_pass_130 (by decide) ?_
                    exact W.iret (v := 0) hx hb hr (fun t ht hW => ⟨⟨0, (), rfl, by rw [rf_pr, if_pos ((rf_n0 (by omega)).mp z1)], by rw [ht]; exact hP, va_K.moved hW.alike hK, hD⟩, hS.F ht⟩) hS.2.2 dY1_pass_145
                  · refine lv_iload hx hb dY1_pass_124 (lv_at hl 6 rfl) ?_
                    refine lv_if_ne (tgt := 133) hx hb dY1_pass_126 (by decide) (fun z2 => ?_) (fun z2 => ?_)
                    · refine lv_iload hx hb dY1_pass_133 (lv_at hl 4 rfl) ?_
                      refine lv_if_eq (tgt := 143) hx hb dY1_pass_135 (by decide) (fun z3 => ?_) (fun z3 => ?_)
                      · refine lv_iload hx hb dY1_pass_143 (lv_at hl 5 rfl) ?_
                        exact W.iret (v := (nI (rf_n (rf_sx k) (rf_fx k) w))) hx hb hr (fun t ht hW => ⟨⟨(nI (rf_n (rf_sx k) (rf_fx k) w)), (), rfl, by rw [rf_pr, if_neg (fun q => z1 ((rf_n0 (by omega)).mpr q)), if_neg (fun q => z2 ((rf_n0 (by omega)).mpr q)), if_pos z3], by rw [ht]; exact hP, va_K.moved hW.alike hK, hD⟩, hS.F ht⟩) hS.2.2 dY1_pass_145
                      · refine lv_iload hx hb dY1_pass_138 (lv_at hl 6 rfl) ?_
                        refine lv_goto (tgt := 145) hx hb dY1_pass_140 (by decide) ?_
                        exact W.iret (v := (nI (rf_n (rf_sy k) (rf_fy k) h))) hx hb hr (fun t ht hW => ⟨⟨(nI (rf_n (rf_sy k) (rf_fy k) h)), (), rfl, by rw [rf_pr, if_neg (fun q => z1 ((rf_n0 (by omega)).mpr q)), if_neg (fun q => z2 ((rf_n0 (by omega)).mpr q)), if_neg z3], by rw [ht]; exact hP, va_K.moved hW.alike hK, hD⟩, hS.F ht⟩) hS.2.2 dY1_pass_145
                    · refine lv_iconst (v := 0) hx hb dY1_pass_129 (by decide) ?_
                      refine lv_goto (tgt := 145) hx hb dY1_pass_130 (by decide) ?_
                      exact W.iret (v := 0) hx hb hr (fun t ht hW => ⟨⟨0, (), rfl, by rw [rf_pr, if_neg (fun q => z1 ((rf_n0 (by omega)).mpr q)), if_pos ((rf_n0 (by omega)).mp z2)], by rw [ht]; exact hP, va_K.moved hW.alike hK, hD⟩, hS.F ht⟩) hS.2.2 dY1_pass_145
                · have hi : j < h := Nat.lt_of_not_le (fun q => hc1 ((nI_leI (by omega) (by omega)).mpr q))
                  refine lv_iload hx hb dY1_pass_93 (lv_at hl 6 rfl) ?_
                  refine lv_aload_n hx hb dY1_pass_95 rfl (lv_at hl 0 rfl) ?_
                  refine lv_iload_n hx hb dY1_pass_96 rfl (lv_at hl 1 rfl) ?_
                  refine lv_iload hx hb dY1_pass_97 (lv_at hl 7 rfl) ?_
                  refine vp_callSi (W.runV (C := RX1) (As := [.int (nI k), .int (nI j)]) (rest := [.int (nI (rf_n (rf_sy k) (rf_fy k) j))]) ⟨hx, hb, hml, hown, hts⟩ (c_Y1_line l dC dI cI cJ h0 b1 b2 0 rc rl ps g t k j hk (by omega)) (cwV 2 hts gY1_pass_Y1_line rfl rfl rfl (by decide +kernel) ⟨Nat.le_of_ble_eq_true rfl, Nat.le_of_ble_eq_true rfl⟩) ⟨fun a U g mk q => by obtain ⟨q0, qP, qK⟩ := q; exact ⟨q0, qP, va_K.moved (u := U) (U := U.calling g mk a) (Vm.Alike.refl U.vm) qK⟩, va_recv hK hP (ci := 1) (q0 := 0) rfl rfl, fun U hU hW => ⟨rfl, by rw [hU]; exact hP, va_K.moved hW.alike hK⟩⟩ rfl rfl hl.1 rfl (lv_room (Nat.le_of_ble_eq_true rfl)) dY1_pass_99 ⟨Nat.zero_le _, Nat.zero_le _⟩) (fun rc9 ec => ?_)
                  refine lv_if_eq (tgt := 109) hx hb dY1_pass_102 (by decide) (fun hz => ?_) (fun hz => ?_)
                  · have e9 : rf_n (rf_sy k) (rf_fy k) (j + 1) = rf_n (rf_sy k) (rf_fy k) j := rf_n_f (fun q => absurd ((ec.1 q).symm.trans hz) (by decide))
                    refine lv_iconst (v := 0) hx hb dY1_pass_109 (by decide) ?_
                    refine lv_iadd hx hb dY1_pass_110 ?_
                    refine W.eq (g2 := F0 m 111 ls [.int (nI (rf_n (rf_sy k) (rf_fy k) (j + 1)))]) (congrArg (fun z9 => F0 m 111 ls [.int z9]) (show ((nI (rf_n (rf_sy k) (rf_fy k) j)) + 0) = nI (rf_n (rf_sy k) (rf_fy k) (j + 1)) from by rw [e9]; exact Int32.add_zero _)) ?_
                    refine lv_istore hx hb dY1_pass_111 hl (by decide) rfl (fun ls hl => ?_)
                    have hl : lv_has ls 8 [(6, .int (nI (rf_n (rf_sy k) (rf_fy k) (j + 1)))), (0, .ref h0), (1, .int (nI k)), (2, .int (nI w)), (3, .int (nI h)), (4, .int b), (5, .int (nI (rf_n (rf_sx k) (rf_fx k) w))), (7, .int (nI j))] := hl
                    refine lv_iinc (k := 7) (v := (nI (j + 1))) hx hb dY1_pass_113 hl rfl (rf_inc j) (by decide) rfl (fun ls hl => ?_)
                    have hl : lv_has ls 8 [(7, .int (nI (j + 1))), (6, .int (nI (rf_n (rf_sy k) (rf_fy k) (j + 1)))), (0, .ref h0), (1, .int (nI k)), (2, .int (nI w)), (3, .int (nI h)), (4, .int b), (5, .int (nI (rf_n (rf_sx k) (rf_fx k) w)))] := hl
                    refine lv_goto (tgt := 87) hx hb dY1_pass_116 (by decide) ?_
                    exact ih (j + 1) _ (by show h - (j + 1) < h - j; omega) ⟨by omega, lv_sub hl [2, 3, 4, 5, 6, 7, 1, 0] rfl⟩
                  · have e9 : rf_n (rf_sy k) (rf_fy k) (j + 1) = rf_n (rf_sy k) (rf_fy k) j + 1 := rf_n_s (Decidable.byContradiction (fun q => hz (ec.2 q)))
                    refine lv_iconst (v := 1) hx hb dY1_pass_105 (by decide) ?_
                    refine lv_goto (tgt := 110) hx hb dY1_pass_106 (by decide) ?_
                    refine lv_iadd hx hb dY1_pass_110 ?_
                    refine W.eq (g2 := F0 m 111 ls [.int (nI (rf_n (rf_sy k) (rf_fy k) (j + 1)))]) (congrArg (fun z9 => F0 m 111 ls [.int z9]) (show ((nI (rf_n (rf_sy k) (rf_fy k) j)) + 1) = nI (rf_n (rf_sy k) (rf_fy k) (j + 1)) from by rw [e9]; exact nI_1 _)) ?_
                    refine lv_istore hx hb dY1_pass_111 hl (by decide) rfl (fun ls hl => ?_)
                    have hl : lv_has ls 8 [(6, .int (nI (rf_n (rf_sy k) (rf_fy k) (j + 1)))), (0, .ref h0), (1, .int (nI k)), (2, .int (nI w)), (3, .int (nI h)), (4, .int b), (5, .int (nI (rf_n (rf_sx k) (rf_fx k) w))), (7, .int (nI j))] := hl
                    refine lv_iinc (k := 7) (v := (nI (j + 1))) hx hb dY1_pass_113 hl rfl (rf_inc j) (by decide) rfl (fun ls hl => ?_)
                    have hl : lv_has ls 8 [(7, .int (nI (j + 1))), (6, .int (nI (rf_n (rf_sy k) (rf_fy k) (j + 1)))), (0, .ref h0), (1, .int (nI k)), (2, .int (nI w)), (3, .int (nI h)), (4, .int b), (5, .int (nI (rf_n (rf_sx k) (rf_fx k) w)))] := hl
                    refine lv_goto (tgt := 87) hx hb dY1_pass_116 (by decide) ?_
                    exact ih (j + 1) _ (by show h - (j + 1) < h - j; omega) ⟨by omega, lv_sub hl [2, 3, 4, 5, 6, 7, 1, 0] rfl⟩
              · have hi : j < w := Nat.lt_of_not_le (fun q => hc0 ((nI_leI (by omega) (by omega)).mpr q))
                refine lv_iload hx hb dY1_pass_58 (lv_at hl 5 rfl) ?_
                refine lv_aload_n hx hb dY1_pass_60 rfl (lv_at hl 0 rfl) ?_
                refine lv_iload_n hx hb dY1_pass_61 rfl (lv_at hl 1 rfl) ?_
                refine lv_iload hx hb dY1_pass_62 (lv_at hl 7 rfl) ?_
                refine vp_callSi (W.runV (C := RX1) (As := [.int (nI k), .int (nI j)]) (rest := [.int (nI (rf_n (rf_sx k) (rf_fx k) j))]) ⟨hx, hb, hml, hown, hts⟩ (c_Y1_column l dC dI cI cJ h0 b1 b2 0 rc rl ps g t k j hk (by omega)) (cwV 2 hts gY1_pass_Y1_column rfl rfl rfl (by decide +kernel) ⟨Nat.le_of_ble_eq_true rfl, Nat.le_of_ble_eq_true rfl⟩) ⟨fun a U g mk q => by obtain ⟨q0, qP, qK⟩ := q; exact ⟨q0, qP, va_K.moved (u := U) (U := U.calling g mk a) (Vm.Alike.refl U.vm) qK⟩, va_recv hK hP (ci := 1) (q0 := 0) rfl rfl, fun U hU hW => ⟨rfl, by rw [hU]; exact hP, va_K.moved hW.alike hK⟩⟩ rfl rfl hl.1 rfl (lv_room (Nat.le_of_ble_eq_true rfl)) dY1_pass_64 ⟨Nat.zero_le _, Nat.zero_le _⟩) (fun rc9 ec => ?_)
                refine lv_if_eq (tgt := 74) hx hb dY1_pass_67 (by decide) (fun hz => ?_) (fun hz => ?_)
                · have e9 : rf_n (rf_sx k) (rf_fx k) (j + 1) = rf_n (rf_sx k) (rf_fx k) j := rf_n_f (fun q => absurd ((ec.1 q).symm.trans hz) (by decide))
                  refine lv_iconst (v := 0) hx hb dY1_pass_74 (by decide) ?_
                  refine lv_iadd hx hb dY1_pass_75 ?_
                  refine W.eq (g2 := F0 m 76 ls [.int (nI (rf_n (rf_sx k) (rf_fx k) (j + 1)))]) (congrArg (fun z9 => F0 m 76 ls [.int z9]) (show ((nI (rf_n (rf_sx k) (rf_fx k) j)) + 0) = nI (rf_n (rf_sx k) (rf_fx k) (j + 1)) from by rw [e9]; exact Int32.add_zero _)) ?_
                  refine lv_istore hx hb dY1_pass_76 hl (by decide) rfl (fun ls hl => ?_)
                  have hl : lv_has ls 8 [(5, .int (nI (rf_n (rf_sx k) (rf_fx k) (j + 1)))), (0, .ref h0), (1, .int (nI k)), (2, .int (nI w)), (3, .int (nI h)), (4, .int b), (6, .int 0), (7, .int (nI j))] := hl
                  refine lv_iinc (k := 7) (v := (nI (j + 1))) hx hb dY1_pass_78 hl rfl (rf_inc j) (by decide) rfl (fun ls hl => ?_)
                  have hl : lv_has ls 8 [(7, .int (nI (j + 1))), (5, .int (nI (rf_n (rf_sx k) (rf_fx k) (j + 1)))), (0, .ref h0), (1, .int (nI k)), (2, .int (nI w)), (3, .int (nI h)), (4, .int b), (6, .int 0)] := hl
                  refine lv_goto (tgt := 52) hx hb dY1_pass_81 (by decide) ?_
                  exact ih (j + 1) _ (by show w - (j + 1) < w - j; omega) ⟨by omega, lv_sub hl [2, 3, 4, 5, 6, 1, 7, 0] rfl⟩
                · have e9 : rf_n (rf_sx k) (rf_fx k) (j + 1) = rf_n (rf_sx k) (rf_fx k) j + 1 := rf_n_s (Decidable.byContradiction (fun q => hz (ec.2 q)))
                  refine lv_iconst (v := 1) hx hb dY1_pass_70 (by decide) ?_
                  refine lv_goto (tgt := 75) hx hb dY1_pass_71 (by decide) ?_
                  refine lv_iadd hx hb dY1_pass_75 ?_
                  refine W.eq (g2 := F0 m 76 ls [.int (nI (rf_n (rf_sx k) (rf_fx k) (j + 1)))]) (congrArg (fun z9 => F0 m 76 ls [.int z9]) (show ((nI (rf_n (rf_sx k) (rf_fx k) j)) + 1) = nI (rf_n (rf_sx k) (rf_fx k) (j + 1)) from by rw [e9]; exact nI_1 _)) ?_
                  refine lv_istore hx hb dY1_pass_76 hl (by decide) rfl (fun ls hl => ?_)
                  have hl : lv_has ls 8 [(5, .int (nI (rf_n (rf_sx k) (rf_fx k) (j + 1)))), (0, .ref h0), (1, .int (nI k)), (2, .int (nI w)), (3, .int (nI h)), (4, .int b), (6, .int 0), (7, .int (nI j))] := hl
                  refine lv_iinc (k := 7) (v := (nI (j + 1))) hx hb dY1_pass_78 hl rfl (rf_inc j) (by decide) rfl (fun ls hl => ?_)
                  have hl : lv_has ls 8 [(7, .int (nI (j + 1))), (5, .int (nI (rf_n (rf_sx k) (rf_fx k) (j + 1)))), (0, .ref h0), (1, .int (nI k)), (2, .int (nI w)), (3, .int (nI h)), (4, .int b), (6, .int 0)] := hl
                  refine lv_goto (tgt := 52) hx hb dY1_pass_81 (by decide) ?_
                  exact ih (j + 1) _ (by show w - (j + 1) < w - j; omega) ⟨by omega, lv_sub hl [2, 3, 4, 5, 6, 1, 7, 0] rfl⟩
            · exact absurd (Int32.not_le.mp q5) (nI_nlt (a := 100000) hh2 (by omega))
set_option maxHeartbeats 4000000 in
set_option maxRecDepth 100000 in
theorem c_Y1_pass_bad (l : Launch) (dC : Nat → ClassId) (dI : Nat → Nat → Nat) (cI cJ : ClassId) (h0 b1 b2 : Nat) (fl : Int32) (rc rl ps : Nat) (g t : Nat → Int32) (sz : Nat) (k w h b : Int32) (hb0 : rf_pw k w h) : Met l yY1_pass wsY1_pass ({ frames := 1, cells := 0, slots := 0, locals := 21 }) (va_Pc [.ref h0, .int k, .int w, .int h, .int b] (rv_preD dC dI cI cJ h0 b1 b2 fl rc rl ps g t sz)) (va_Qi (fun (r : Int32) (_ : Unit) => r = 0) (fun _ t9 => rv_B dC dI cI cJ h0 b1 b2 1 rc rl ps g t (va_A (rv_W h0 b1 b2 cI cJ fl rc rl ps g t) sz) t9) (va_A (rv_W h0 b1 b2 cI cJ fl rc rl ps g t) sz)) 0 0 (va_A (rv_W h0 b1 b2 cI cJ fl rc rl ps g t) sz) := by
  refine Met.ofW (cc := cY1_pass) (maxL := 8) (ret := (some .int)) (by decide) rfl ?_
  intro p e s m args below meth c s₁ B hml hv
  obtain ⟨rfl, hsz, hP, hK, hD0⟩ := hv
  have hx := B.exec
  have hb := B.bytes
  have hr := B.returns
  have hts := atoms_spec (ws := wsY1_pass) B.pre
  have hown : s.vm.findClass RX1 = some m.cls := findClass_of_methodNamed B.named
  have hlocks := B.notSynchronized
  subst hsz
  have hD := hD0.self (sz := s.heap.size)
  generalize hAe : va_A (rv_W h0 b1 b2 cI cJ fl rc rl ps g t) s.heap.size = A at hD ⊢
  have hA : ∀ q : Nat, s.heap.size ≤ q → A q := fun q h => by rw [← hAe]; exact Or.inr h
  have hS : va_S A s.heap s.heap [] := va_S.rf
  have hP : va_P (dC, dI) rw_cl (rv_W h0 b1 b2 cI cJ fl rc rl ps g t) s.heap := hP
  have hl := lv_entry ([.ref h0, .int k, .int w, .int h, .int b]) (n := 8) (Nat.le_of_ble_eq_true rfl)
  rw [lg_entry_eq]
  generalize (lg_sl ([.ref h0, .int k, .int w, .int h, .int b]) ++ List.replicate (8 - (lg_sl ([.ref h0, .int k, .int w, .int h, .int b])).length) Slot.unset).toArray = ls at hl ⊢
  have hl : lv_has ls 8 [(0, .ref h0), (1, .int k), (2, .int w), (3, .int h), (4, .int b)] := hl
  refine lv_aload_n hx hb dY1_pass_0 rfl (lv_at hl 0 rfl) ?_
  refine lv_iconst (v := 0) hx hb dY1_pass_1 (by decide) ?_
  refine va_put (D := (dC, dI)) (ci := 1) (v := .int 0) (ty := .int) (C := RX1) (T := TY1) (N := 6) hx hb hts (by decide +kernel) tyY1 tyY1_ok nmY1 hown hK hP hD hS 0 rfl rfl 0 (by decide) (hts (.fieldLink RX1 26 "RowFiltersModel" "failed" "I") (by decide +kernel)) (fun _ h9 => h9) rfl (by decide +kernel) rfl rfl (Nat.le_of_ble_eq_true rfl) dY1_pass_2 (fun H locs hP hD hS => ?_)
  have hP : va_P (dC, dI) rw_cl [(h0, .inr (1, [.int 0, .int (nI rc), .int (nI rl), .int (nI ps), .ref b1, .ref b2])), (b1, .inl (cI, 4096, .inl g)), (b2, .inl (cJ, 4096, .inl t))] H := hP
  have hD : va_D A [(h0, .inr (1, [.int 0, .int (nI rc), .int (nI rl), .int (nI ps), .ref b1, .ref b2])), (b1, .inl (cI, 4096, .inl g)), (b2, .inl (cJ, 4096, .inl t))] := hD
  refine lv_iload_n hx hb dY1_pass_5 rfl (lv_at hl 1 rfl) ?_
  refine lv_if_lt (tgt := 37) hx hb dY1_pass_6 (by decide) (fun q0 => ?_) (fun q0 => ?_)
  · refine lv_aload_n hx hb dY1_pass_37 rfl (lv_at hl 0 rfl) ?_
    refine lv_iconst (v := 1) hx hb dY1_pass_38 (by decide) ?_
    have hFc := va_free (wc := [(h0, .inr (1, [.int 0, .int (nI rc), .int (nI rl), .int (nI ps), .ref b1, .ref b2])), (b1, .inl (cI, 4096, .inl g)), (b2, .inl (cJ, 4096, .inl t))]) hD hS hA [0, 1, 2] rfl
    refine va_calli (va_runV (C := RX1) (As := [.int 1]) (rest := []) ⟨hx, hb, hml, hown, hts⟩ (c_Y1_fail l dC dI cI cJ h0 b1 b2 0 rc rl ps g t H.size 1) (cwV 1 hts gY1_pass_Y1_fail rfl rfl rfl (by decide +kernel) ⟨Nat.le_of_ble_eq_true rfl, Nat.le_of_ble_eq_true rfl⟩) ⟨fun a U g mk q => by obtain ⟨q0, q1, qP, qK, qD⟩ := q; exact ⟨q0, q1, qP, va_K.moved (u := U) (U := U.calling g mk a) (Vm.Alike.refl U.vm) qK, qD⟩, va_recv hK hP (ci := 1) (q0 := 0) rfl rfl, fun U hU hW => ⟨rfl, by rw [hU], by rw [hU]; exact hP, va_K.moved hW.alike hK, hD.weaken (fun _ _ _ _ => trivial)⟩⟩ rfl rfl hl.1 rfl (lv_room (Nat.le_of_ble_eq_true rfl)) dY1_pass_39 ⟨Nat.zero_le _, Nat.zero_le _⟩) hS (fun q _ h => hFc q h) hFc (fun rz u t9 H1 locs ht hvm ez hB hz1 hk1 hS => ?_)
    obtain ⟨hP1, hK1, hD1⟩ := hB
    rw [ht] at hP1
    obtain ⟨hP, hD⟩ := va_join (wr := []) (w1 := [(h0, .inr (1, [.int 1, .int (nI rc), .int (nI rl), .int (nI ps), .ref b1, .ref b2])), (b1, .inl (cI, 4096, .inl g)), (b2, .inl (cJ, 4096, .inl t))]) hP hD [0, 1, 2] [] rfl rfl (by decide) (by decide) hk1 hFc hP1 hD1
    generalize H1 = H at hP hS ⊢
    have hP : va_P (dC, dI) rw_cl [(h0, .inr (1, [.int 1, .int (nI rc), .int (nI rl), .int (nI ps), .ref b1, .ref b2])), (b1, .inl (cI, 4096, .inl g)), (b2, .inl (cJ, 4096, .inl t))] H := hP
    have hD : va_D A [(h0, .inr (1, [.int 1, .int (nI rc), .int (nI rl), .int (nI ps), .ref b1, .ref b2])), (b1, .inl (cI, 4096, .inl g)), (b2, .inl (cJ, 4096, .inl t))] := hD
    refine W.widen (k := 0) (n := 0) (Nat.le_refl _) (Nat.le_refl _) ?_
    exact W.iret (v := rz) hx hb hr (fun t ht hW => ⟨⟨rz, (), rfl, ez, by rw [ht]; exact hP, va_K.moved hW.alike hK, hD⟩, hS.F ht⟩) hS.2.2 dY1_pass_42
  · refine lv_iload_n hx hb dY1_pass_9 rfl (lv_at hl 1 rfl) ?_
    refine lv_bipush (v := 6) hx hb dY1_pass_10 (by decide) ?_
    refine lv_icmp_gt (tgt := 37) hx hb dY1_pass_12 (by decide) (fun q1 => ?_) (fun q1 => ?_)
    · refine lv_aload_n hx hb dY1_pass_37 rfl (lv_at hl 0 rfl) ?_
      refine lv_iconst (v := 1) hx hb dY1_pass_38 (by decide) ?_
      have hFc := va_free (wc := [(h0, .inr (1, [.int 0, .int (nI rc), .int (nI rl), .int (nI ps), .ref b1, .ref b2])), (b1, .inl (cI, 4096, .inl g)), (b2, .inl (cJ, 4096, .inl t))]) hD hS hA [0, 1, 2] rfl
      refine va_calli (va_runV (C := RX1) (As := [.int 1]) (rest := []) ⟨hx, hb, hml, hown, hts⟩ (c_Y1_fail l dC dI cI cJ h0 b1 b2 0 rc rl ps g t H.size 1) (cwV 1 hts gY1_pass_Y1_fail rfl rfl rfl (by decide +kernel) ⟨Nat.le_of_ble_eq_true rfl, Nat.le_of_ble_eq_true rfl⟩) ⟨fun a U g mk q => by obtain ⟨q0, q1, qP, qK, qD⟩ := q; exact ⟨q0, q1, qP, va_K.moved (u := U) (U := U.calling g mk a) (Vm.Alike.refl U.vm) qK, qD⟩, va_recv hK hP (ci := 1) (q0 := 0) rfl rfl, fun U hU hW => ⟨rfl, by rw [hU], by rw [hU]; exact hP, va_K.moved hW.alike hK, hD.weaken (fun _ _ _ _ => trivial)⟩⟩ rfl rfl hl.1 rfl (lv_room (Nat.le_of_ble_eq_true rfl)) dY1_pass_39 ⟨Nat.zero_le _, Nat.zero_le _⟩) hS (fun q _ h => hFc q h) hFc (fun rz u t9 H1 locs ht hvm ez hB hz1 hk1 hS => ?_)
      obtain ⟨hP1, hK1, hD1⟩ := hB
      rw [ht] at hP1
      obtain ⟨hP, hD⟩ := va_join (wr := []) (w1 := [(h0, .inr (1, [.int 1, .int (nI rc), .int (nI rl), .int (nI ps), .ref b1, .ref b2])), (b1, .inl (cI, 4096, .inl g)), (b2, .inl (cJ, 4096, .inl t))]) hP hD [0, 1, 2] [] rfl rfl (by decide) (by decide) hk1 hFc hP1 hD1
      generalize H1 = H at hP hS ⊢
      have hP : va_P (dC, dI) rw_cl [(h0, .inr (1, [.int 1, .int (nI rc), .int (nI rl), .int (nI ps), .ref b1, .ref b2])), (b1, .inl (cI, 4096, .inl g)), (b2, .inl (cJ, 4096, .inl t))] H := hP
      have hD : va_D A [(h0, .inr (1, [.int 1, .int (nI rc), .int (nI rl), .int (nI ps), .ref b1, .ref b2])), (b1, .inl (cI, 4096, .inl g)), (b2, .inl (cJ, 4096, .inl t))] := hD
      refine W.widen (k := 0) (n := 0) (Nat.le_refl _) (Nat.le_refl _) ?_
      exact W.iret (v := rz) hx hb hr (fun t ht hW => ⟨⟨rz, (), rfl, ez, by rw [ht]; exact hP, va_K.moved hW.alike hK, hD⟩, hS.F ht⟩) hS.2.2 dY1_pass_42
    · refine lv_iload_n hx hb dY1_pass_15 rfl (lv_at hl 2 rfl) ?_
      refine lv_iconst (v := 1) hx hb dY1_pass_16 (by decide) ?_
      refine lv_icmp_lt (tgt := 37) hx hb dY1_pass_17 (by decide) (fun q2 => ?_) (fun q2 => ?_)
      · refine lv_aload_n hx hb dY1_pass_37 rfl (lv_at hl 0 rfl) ?_
        refine lv_iconst (v := 1) hx hb dY1_pass_38 (by decide) ?_
        have hFc := va_free (wc := [(h0, .inr (1, [.int 0, .int (nI rc), .int (nI rl), .int (nI ps), .ref b1, .ref b2])), (b1, .inl (cI, 4096, .inl g)), (b2, .inl (cJ, 4096, .inl t))]) hD hS hA [0, 1, 2] rfl
        refine va_calli (va_runV (C := RX1) (As := [.int 1]) (rest := []) ⟨hx, hb, hml, hown, hts⟩ (c_Y1_fail l dC dI cI cJ h0 b1 b2 0 rc rl ps g t H.size 1) (cwV 1 hts gY1_pass_Y1_fail rfl rfl rfl (by decide +kernel) ⟨Nat.le_of_ble_eq_true rfl, Nat.le_of_ble_eq_true rfl⟩) ⟨fun a U g mk q => by obtain ⟨q0, q1, qP, qK, qD⟩ := q; exact ⟨q0, q1, qP, va_K.moved (u := U) (U := U.calling g mk a) (Vm.Alike.refl U.vm) qK, qD⟩, va_recv hK hP (ci := 1) (q0 := 0) rfl rfl, fun U hU hW => ⟨rfl, by rw [hU], by rw [hU]; exact hP, va_K.moved hW.alike hK, hD.weaken (fun _ _ _ _ => trivial)⟩⟩ rfl rfl hl.1 rfl (lv_room (Nat.le_of_ble_eq_true rfl)) dY1_pass_39 ⟨Nat.zero_le _, Nat.zero_le _⟩) hS (fun q _ h => hFc q h) hFc (fun rz u t9 H1 locs ht hvm ez hB hz1 hk1 hS => ?_)
        obtain ⟨hP1, hK1, hD1⟩ := hB
        rw [ht] at hP1
        obtain ⟨hP, hD⟩ := va_join (wr := []) (w1 := [(h0, .inr (1, [.int 1, .int (nI rc), .int (nI rl), .int (nI ps), .ref b1, .ref b2])), (b1, .inl (cI, 4096, .inl g)), (b2, .inl (cJ, 4096, .inl t))]) hP hD [0, 1, 2] [] rfl rfl (by decide) (by decide) hk1 hFc hP1 hD1
        generalize H1 = H at hP hS ⊢
        have hP : va_P (dC, dI) rw_cl [(h0, .inr (1, [.int 1, .int (nI rc), .int (nI rl), .int (nI ps), .ref b1, .ref b2])), (b1, .inl (cI, 4096, .inl g)), (b2, .inl (cJ, 4096, .inl t))] H := hP
        have hD : va_D A [(h0, .inr (1, [.int 1, .int (nI rc), .int (nI rl), .int (nI ps), .ref b1, .ref b2])), (b1, .inl (cI, 4096, .inl g)), (b2, .inl (cJ, 4096, .inl t))] := hD
        refine W.widen (k := 0) (n := 0) (Nat.le_refl _) (Nat.le_refl _) ?_
        exact W.iret (v := rz) hx hb hr (fun t ht hW => ⟨⟨rz, (), rfl, ez, by rw [ht]; exact hP, va_K.moved hW.alike hK, hD⟩, hS.F ht⟩) hS.2.2 dY1_pass_42
      · refine lv_iload_n hx hb dY1_pass_20 rfl (lv_at hl 2 rfl) ?_
        refine lv_ldc hx hb hown (hts (.constant RX1 61 (100000)) (by decide +kernel)) dY1_pass_21 ?_
        refine lv_icmp_gt (tgt := 37) hx hb dY1_pass_23 (by decide) (fun q3 => ?_) (fun q3 => ?_)
        · refine lv_aload_n hx hb dY1_pass_37 rfl (lv_at hl 0 rfl) ?_
          refine lv_iconst (v := 1) hx hb dY1_pass_38 (by decide) ?_
          have hFc := va_free (wc := [(h0, .inr (1, [.int 0, .int (nI rc), .int (nI rl), .int (nI ps), .ref b1, .ref b2])), (b1, .inl (cI, 4096, .inl g)), (b2, .inl (cJ, 4096, .inl t))]) hD hS hA [0, 1, 2] rfl
          refine va_calli (va_runV (C := RX1) (As := [.int 1]) (rest := []) ⟨hx, hb, hml, hown, hts⟩ (c_Y1_fail l dC dI cI cJ h0 b1 b2 0 rc rl ps g t H.size 1) (cwV 1 hts gY1_pass_Y1_fail rfl rfl rfl (by decide +kernel) ⟨Nat.le_of_ble_eq_true rfl, Nat.le_of_ble_eq_true rfl⟩) ⟨fun a U g mk q => by obtain ⟨q0, q1, qP, qK, qD⟩ := q; exact ⟨q0, q1, qP, va_K.moved (u := U) (U := U.calling g mk a) (Vm.Alike.refl U.vm) qK, qD⟩, va_recv hK hP (ci := 1) (q0 := 0) rfl rfl, fun U hU hW => ⟨rfl, by rw [hU], by rw [hU]; exact hP, va_K.moved hW.alike hK, hD.weaken (fun _ _ _ _ => trivial)⟩⟩ rfl rfl hl.1 rfl (lv_room (Nat.le_of_ble_eq_true rfl)) dY1_pass_39 ⟨Nat.zero_le _, Nat.zero_le _⟩) hS (fun q _ h => hFc q h) hFc (fun rz u t9 H1 locs ht hvm ez hB hz1 hk1 hS => ?_)
          obtain ⟨hP1, hK1, hD1⟩ := hB
          rw [ht] at hP1
          obtain ⟨hP, hD⟩ := va_join (wr := []) (w1 := [(h0, .inr (1, [.int 1, .int (nI rc), .int (nI rl), .int (nI ps), .ref b1, .ref b2])), (b1, .inl (cI, 4096, .inl g)), (b2, .inl (cJ, 4096, .inl t))]) hP hD [0, 1, 2] [] rfl rfl (by decide) (by decide) hk1 hFc hP1 hD1
          generalize H1 = H at hP hS ⊢
          have hP : va_P (dC, dI) rw_cl [(h0, .inr (1, [.int 1, .int (nI rc), .int (nI rl), .int (nI ps), .ref b1, .ref b2])), (b1, .inl (cI, 4096, .inl g)), (b2, .inl (cJ, 4096, .inl t))] H := hP
          have hD : va_D A [(h0, .inr (1, [.int 1, .int (nI rc), .int (nI rl), .int (nI ps), .ref b1, .ref b2])), (b1, .inl (cI, 4096, .inl g)), (b2, .inl (cJ, 4096, .inl t))] := hD
          refine W.widen (k := 0) (n := 0) (Nat.le_refl _) (Nat.le_refl _) ?_
          exact W.iret (v := rz) hx hb hr (fun t ht hW => ⟨⟨rz, (), rfl, ez, by rw [ht]; exact hP, va_K.moved hW.alike hK, hD⟩, hS.F ht⟩) hS.2.2 dY1_pass_42
        · refine lv_iload_n hx hb dY1_pass_26 rfl (lv_at hl 3 rfl) ?_
          refine lv_iconst (v := 1) hx hb dY1_pass_27 (by decide) ?_
          refine lv_icmp_lt (tgt := 37) hx hb dY1_pass_28 (by decide) (fun q4 => ?_) (fun q4 => ?_)
          · refine lv_aload_n hx hb dY1_pass_37 rfl (lv_at hl 0 rfl) ?_
            refine lv_iconst (v := 1) hx hb dY1_pass_38 (by decide) ?_
            have hFc := va_free (wc := [(h0, .inr (1, [.int 0, .int (nI rc), .int (nI rl), .int (nI ps), .ref b1, .ref b2])), (b1, .inl (cI, 4096, .inl g)), (b2, .inl (cJ, 4096, .inl t))]) hD hS hA [0, 1, 2] rfl
            refine va_calli (va_runV (C := RX1) (As := [.int 1]) (rest := []) ⟨hx, hb, hml, hown, hts⟩ (c_Y1_fail l dC dI cI cJ h0 b1 b2 0 rc rl ps g t H.size 1) (cwV 1 hts gY1_pass_Y1_fail rfl rfl rfl (by decide +kernel) ⟨Nat.le_of_ble_eq_true rfl, Nat.le_of_ble_eq_true rfl⟩) ⟨fun a U g mk q => by obtain ⟨q0, q1, qP, qK, qD⟩ := q; exact ⟨q0, q1, qP, va_K.moved (u := U) (U := U.calling g mk a) (Vm.Alike.refl U.vm) qK, qD⟩, va_recv hK hP (ci := 1) (q0 := 0) rfl rfl, fun U hU hW => ⟨rfl, by rw [hU], by rw [hU]; exact hP, va_K.moved hW.alike hK, hD.weaken (fun _ _ _ _ => trivial)⟩⟩ rfl rfl hl.1 rfl (lv_room (Nat.le_of_ble_eq_true rfl)) dY1_pass_39 ⟨Nat.zero_le _, Nat.zero_le _⟩) hS (fun q _ h => hFc q h) hFc (fun rz u t9 H1 locs ht hvm ez hB hz1 hk1 hS => ?_)
            obtain ⟨hP1, hK1, hD1⟩ := hB
            rw [ht] at hP1
            obtain ⟨hP, hD⟩ := va_join (wr := []) (w1 := [(h0, .inr (1, [.int 1, .int (nI rc), .int (nI rl), .int (nI ps), .ref b1, .ref b2])), (b1, .inl (cI, 4096, .inl g)), (b2, .inl (cJ, 4096, .inl t))]) hP hD [0, 1, 2] [] rfl rfl (by decide) (by decide) hk1 hFc hP1 hD1
            generalize H1 = H at hP hS ⊢
            have hP : va_P (dC, dI) rw_cl [(h0, .inr (1, [.int 1, .int (nI rc), .int (nI rl), .int (nI ps), .ref b1, .ref b2])), (b1, .inl (cI, 4096, .inl g)), (b2, .inl (cJ, 4096, .inl t))] H := hP
            have hD : va_D A [(h0, .inr (1, [.int 1, .int (nI rc), .int (nI rl), .int (nI ps), .ref b1, .ref b2])), (b1, .inl (cI, 4096, .inl g)), (b2, .inl (cJ, 4096, .inl t))] := hD
            refine W.widen (k := 0) (n := 0) (Nat.le_refl _) (Nat.le_refl _) ?_
            exact W.iret (v := rz) hx hb hr (fun t ht hW => ⟨⟨rz, (), rfl, ez, by rw [ht]; exact hP, va_K.moved hW.alike hK, hD⟩, hS.F ht⟩) hS.2.2 dY1_pass_42
          · refine lv_iload_n hx hb dY1_pass_31 rfl (lv_at hl 3 rfl) ?_
            refine lv_ldc hx hb hown (hts (.constant RX1 61 (100000)) (by decide +kernel)) dY1_pass_32 ?_
            refine lv_icmp_le (tgt := 43) hx hb dY1_pass_34 (by decide) (fun q5 => ?_) (fun q5 => ?_)
            · exact absurd hb0 (by rintro (z | z | z | z | z | z); exact q0 z; exact q1 z; exact q2 z; exact q3 z; exact q4 z; exact Int32.not_lt.mpr q5 z)
            · refine lv_aload_n hx hb dY1_pass_37 rfl (lv_at hl 0 rfl) ?_
              refine lv_iconst (v := 1) hx hb dY1_pass_38 (by decide) ?_
              have hFc := va_free (wc := [(h0, .inr (1, [.int 0, .int (nI rc), .int (nI rl), .int (nI ps), .ref b1, .ref b2])), (b1, .inl (cI, 4096, .inl g)), (b2, .inl (cJ, 4096, .inl t))]) hD hS hA [0, 1, 2] rfl
              refine va_calli (va_runV (C := RX1) (As := [.int 1]) (rest := []) ⟨hx, hb, hml, hown, hts⟩ (c_Y1_fail l dC dI cI cJ h0 b1 b2 0 rc rl ps g t H.size 1) (cwV 1 hts gY1_pass_Y1_fail rfl rfl rfl (by decide +kernel) ⟨Nat.le_of_ble_eq_true rfl, Nat.le_of_ble_eq_true rfl⟩) ⟨fun a U g mk q => by obtain ⟨q0, q1, qP, qK, qD⟩ := q; exact ⟨q0, q1, qP, va_K.moved (u := U) (U := U.calling g mk a) (Vm.Alike.refl U.vm) qK, qD⟩, va_recv hK hP (ci := 1) (q0 := 0) rfl rfl, fun U hU hW => ⟨rfl, by rw [hU], by rw [hU]; exact hP, va_K.moved hW.alike hK, hD.weaken (fun _ _ _ _ => trivial)⟩⟩ rfl rfl hl.1 rfl (lv_room (Nat.le_of_ble_eq_true rfl)) dY1_pass_39 ⟨Nat.zero_le _, Nat.zero_le _⟩) hS (fun q _ h => hFc q h) hFc (fun rz u t9 H1 locs ht hvm ez hB hz1 hk1 hS => ?_)
              obtain ⟨hP1, hK1, hD1⟩ := hB
              rw [ht] at hP1
              obtain ⟨hP, hD⟩ := va_join (wr := []) (w1 := [(h0, .inr (1, [.int 1, .int (nI rc), .int (nI rl), .int (nI ps), .ref b1, .ref b2])), (b1, .inl (cI, 4096, .inl g)), (b2, .inl (cJ, 4096, .inl t))]) hP hD [0, 1, 2] [] rfl rfl (by decide) (by decide) hk1 hFc hP1 hD1
              generalize H1 = H at hP hS ⊢
              have hP : va_P (dC, dI) rw_cl [(h0, .inr (1, [.int 1, .int (nI rc), .int (nI rl), .int (nI ps), .ref b1, .ref b2])), (b1, .inl (cI, 4096, .inl g)), (b2, .inl (cJ, 4096, .inl t))] H := hP
              have hD : va_D A [(h0, .inr (1, [.int 1, .int (nI rc), .int (nI rl), .int (nI ps), .ref b1, .ref b2])), (b1, .inl (cI, 4096, .inl g)), (b2, .inl (cJ, 4096, .inl t))] := hD
              refine W.widen (k := 0) (n := 0) (Nat.le_refl _) (Nat.le_refl _) ?_
              exact W.iret (v := rz) hx hb hr (fun t ht hW => ⟨⟨rz, (), rfl, ez, by rw [ht]; exact hP, va_K.moved hW.alike hK, hD⟩, hS.F ht⟩) hS.2.2 dY1_pass_42
set_option maxHeartbeats 4000000 in
set_option maxRecDepth 100000 in
theorem c_Y1_passOf (l : Launch) (dC : Nat → ClassId) (dI : Nat → Nat → Nat) (cI cJ : ClassId) (h0 b1 b2 : Nat) (fl : Int32) (rc rl ps : Nat) (g t : Nat → Int32) (sz : Nat) (x y : Nat) (hx9 : x ≤ 99999) (hy9 : y ≤ 99999) : Met l yY1_passOf wsY1_passOf ({ frames := 1, cells := 0, slots := 0, locals := 22 }) (va_Pc [.ref h0, .int (nI x), .int (nI y)] (rv_preD dC dI cI cJ h0 b1 b2 fl rc rl ps g t sz)) (va_Qi (fun (r : Int32) (_ : Unit) => ∃ k, r = nI k ∧ rf_po x y k) (fun _ t9 => rv_B dC dI cI cJ h0 b1 b2 0 rc rl ps g t (va_A (rv_W h0 b1 b2 cI cJ fl rc rl ps g t) sz) t9) (va_A (rv_W h0 b1 b2 cI cJ fl rc rl ps g t) sz)) 0 0 (va_A (rv_W h0 b1 b2 cI cJ fl rc rl ps g t) sz) := by
  refine Met.ofW (cc := cY1_passOf) (maxL := 4) (ret := (some .int)) (by decide) rfl ?_
  intro p e s m args below meth c s₁ B hml hv
  obtain ⟨rfl, hsz, hP, hK, hD0⟩ := hv
  have hx := B.exec
  have hb := B.bytes
  have hr := B.returns
  have hts := atoms_spec (ws := wsY1_passOf) B.pre
  have hown : s.vm.findClass RX1 = some m.cls := findClass_of_methodNamed B.named
  have hlocks := B.notSynchronized
  subst hsz
  have hD := hD0.self (sz := s.heap.size)
  generalize hAe : va_A (rv_W h0 b1 b2 cI cJ fl rc rl ps g t) s.heap.size = A at hD ⊢
  have hA : ∀ q : Nat, s.heap.size ≤ q → A q := fun q h => by rw [← hAe]; exact Or.inr h
  have hS : va_S A s.heap s.heap [] := va_S.rf
  have hP : va_P (dC, dI) rw_cl (rv_W h0 b1 b2 cI cJ fl rc rl ps g t) s.heap := hP
  have hl := lv_entry ([.ref h0, .int (nI x), .int (nI y)]) (n := 4) (Nat.le_of_ble_eq_true rfl)
  rw [lg_entry_eq]
  generalize (lg_sl ([.ref h0, .int (nI x), .int (nI y)]) ++ List.replicate (4 - (lg_sl ([.ref h0, .int (nI x), .int (nI y)])).length) Slot.unset).toArray = ls at hl ⊢
  have hl : lv_has ls 4 [(0, .ref h0), (1, .int (nI x)), (2, .int (nI y))] := hl
  refine lv_aload_n hx hb dY1_passOf_0 rfl (lv_at hl 0 rfl) ?_
  refine lv_iconst (v := 0) hx hb dY1_passOf_1 (by decide) ?_
  refine va_put (D := (dC, dI)) (ci := 1) (v := .int 0) (ty := .int) (C := RX1) (T := TY1) (N := 6) hx hb hts (by decide +kernel) tyY1 tyY1_ok nmY1 hown hK hP hD hS 0 rfl rfl 0 (by decide) (hts (.fieldLink RX1 26 "RowFiltersModel" "failed" "I") (by decide +kernel)) (fun _ h9 => h9) rfl (by decide +kernel) rfl rfl (Nat.le_of_ble_eq_true rfl) dY1_passOf_2 (fun H locs hP hD hS => ?_)
  have hP : va_P (dC, dI) rw_cl [(h0, .inr (1, [.int 0, .int (nI rc), .int (nI rl), .int (nI ps), .ref b1, .ref b2])), (b1, .inl (cI, 4096, .inl g)), (b2, .inl (cJ, 4096, .inl t))] H := hP
  have hD : va_D A [(h0, .inr (1, [.int 0, .int (nI rc), .int (nI rl), .int (nI ps), .ref b1, .ref b2])), (b1, .inl (cI, 4096, .inl g)), (b2, .inl (cJ, 4096, .inl t))] := hD
  refine lv_iload_n hx hb dY1_passOf_5 rfl (lv_at hl 1 rfl) ?_
  refine lv_if_lt (tgt := 25) hx hb dY1_passOf_6 (by decide) (fun q0 => ?_) (fun q0 => ?_)
  · exact absurd q0 (nI_pos (by omega))
  · refine lv_iload_n hx hb dY1_passOf_9 rfl (lv_at hl 1 rfl) ?_
    refine lv_ldc hx hb hown (hts (.constant RX1 68 (99999)) (by decide +kernel)) dY1_passOf_10 ?_
    refine lv_icmp_gt (tgt := 25) hx hb dY1_passOf_12 (by decide) (fun q1 => ?_) (fun q1 => ?_)
    · exact absurd q1 (nI_nlt (a := 99999) hx9 (by omega))
    · refine lv_iload_n hx hb dY1_passOf_15 rfl (lv_at hl 2 rfl) ?_
      refine lv_if_lt (tgt := 25) hx hb dY1_passOf_16 (by decide) (fun q2 => ?_) (fun q2 => ?_)
      · exact absurd q2 (nI_pos (by omega))
      · refine lv_iload_n hx hb dY1_passOf_19 rfl (lv_at hl 2 rfl) ?_
        refine lv_ldc hx hb hown (hts (.constant RX1 68 (99999)) (by decide +kernel)) dY1_passOf_20 ?_
        refine lv_icmp_le (tgt := 31) hx hb dY1_passOf_22 (by decide) (fun q3 => ?_) (fun q3 => ?_)
        · refine lv_iconst (v := 0) hx hb dY1_passOf_31 (by decide) ?_
          refine lv_istore_n hx hb dY1_passOf_32 rfl hl (by decide) rfl (fun ls hl => ?_)
          have hl : lv_has ls 4 [(3, .int 0), (0, .ref h0), (1, .int (nI x)), (2, .int (nI y))] := hl
          refine rw_loop (fun k : Nat => 7 - k) (fun k ls => (k ≤ 6 ∧ ∀ j, j < k → ¬ rf_at j x y) ∧ lv_has ls 4 [(0, .ref h0), (1, .int (nI x)), (2, .int (nI y)), (3, .int (nI k))]) ?_ (0) ⟨⟨Nat.zero_le _, fun j h => absurd h (Nat.not_lt_zero j)⟩, lv_sub hl [1, 2, 3, 0] rfl⟩
          intro k ls hI ih
          obtain ⟨hj, hl⟩ := hI
          refine lv_aload_n hx hb dY1_passOf_33 rfl (lv_at hl 0 rfl) ?_
          refine lv_iload_n hx hb dY1_passOf_34 rfl (lv_at hl 3 rfl) ?_
          refine lv_iload_n hx hb dY1_passOf_35 rfl (lv_at hl 1 rfl) ?_
          refine vp_callSi (W.runV (C := RX1) (As := [.int (nI k), .int (nI x)]) (rest := []) ⟨hx, hb, hml, hown, hts⟩ (c_Y1_column l dC dI cI cJ h0 b1 b2 0 rc rl ps g t k x hj.1 (by omega)) (cwV 2 hts gY1_passOf_Y1_column rfl rfl rfl (by decide +kernel) ⟨Nat.le_of_ble_eq_true rfl, Nat.le_of_ble_eq_true rfl⟩) ⟨fun a U g mk q => by obtain ⟨q0, qP, qK⟩ := q; exact ⟨q0, qP, va_K.moved (u := U) (U := U.calling g mk a) (Vm.Alike.refl U.vm) qK⟩, va_recv hK hP (ci := 1) (q0 := 0) rfl rfl, fun U hU hW => ⟨rfl, by rw [hU]; exact hP, va_K.moved hW.alike hK⟩⟩ rfl rfl hl.1 rfl (lv_room (Nat.le_of_ble_eq_true rfl)) dY1_passOf_36 ⟨Nat.zero_le _, Nat.zero_le _⟩) (fun r1 e1 => ?_)
          refine lv_if_eq (tgt := 51) hx hb dY1_passOf_39 (by decide) (fun z1 => ?_) (fun z1 => ?_)
          · have hn : ¬ rf_at k x y := fun q => absurd ((e1.1 q.1).symm.trans z1) (by decide)
            have h7 : k < 6 := Nat.lt_of_le_of_ne hj.1 (fun q => hn (by subst q; exact rf_tot hj.2))
            refine lv_iinc (k := 3) (v := (nI (k + 1))) hx hb dY1_passOf_51 hl rfl (rf_inc k) (by decide) rfl (fun ls hl => ?_)
            have hl : lv_has ls 4 [(3, .int (nI (k + 1))), (0, .ref h0), (1, .int (nI x)), (2, .int (nI y))] := hl
            refine lv_goto (tgt := 33) hx hb dY1_passOf_54 (by decide) ?_
            exact ih (k + 1) _ (by show 7 - (k + 1) < 7 - k; omega) ⟨⟨by omega, lt_s hj.2 hn⟩, lv_sub hl [1, 2, 3, 0] rfl⟩
          · refine lv_aload_n hx hb dY1_passOf_42 rfl (lv_at hl 0 rfl) ?_
            refine lv_iload_n hx hb dY1_passOf_43 rfl (lv_at hl 3 rfl) ?_
            refine lv_iload_n hx hb dY1_passOf_44 rfl (lv_at hl 2 rfl) ?_
            refine vp_callSi (W.runV (C := RX1) (As := [.int (nI k), .int (nI y)]) (rest := []) ⟨hx, hb, hml, hown, hts⟩ (c_Y1_line l dC dI cI cJ h0 b1 b2 0 rc rl ps g t k y hj.1 (by omega)) (cwV 2 hts gY1_passOf_Y1_line rfl rfl rfl (by decide +kernel) ⟨Nat.le_of_ble_eq_true rfl, Nat.le_of_ble_eq_true rfl⟩) ⟨fun a U g mk q => by obtain ⟨q0, qP, qK⟩ := q; exact ⟨q0, qP, va_K.moved (u := U) (U := U.calling g mk a) (Vm.Alike.refl U.vm) qK⟩, va_recv hK hP (ci := 1) (q0 := 0) rfl rfl, fun U hU hW => ⟨rfl, by rw [hU]; exact hP, va_K.moved hW.alike hK⟩⟩ rfl rfl hl.1 rfl (lv_room (Nat.le_of_ble_eq_true rfl)) dY1_passOf_45 ⟨Nat.zero_le _, Nat.zero_le _⟩) (fun r2 e2 => ?_)
            refine lv_if_ne (tgt := 57) hx hb dY1_passOf_48 (by decide) (fun z2 => ?_) (fun z2 => ?_)
            · have ha : rf_at k x y := ⟨Decidable.byContradiction (fun q => z1 (e1.2 q)), Decidable.byContradiction (fun q => z2 (e2.2 q))⟩
              refine lv_iload_n hx hb dY1_passOf_57 rfl (lv_at hl 3 rfl) ?_
              exact W.iret (v := (nI k)) hx hb hr (fun t ht hW => ⟨⟨(nI k), (), rfl, ⟨k, rfl, hj.1, ha, hj.2⟩, by rw [ht]; exact hP, va_K.moved hW.alike hK, hD⟩, hS.F ht⟩) hS.2.2 dY1_passOf_58
            · have hn : ¬ rf_at k x y := fun q => absurd ((e2.1 q.2).symm.trans z2) (by decide)
              have h7 : k < 6 := Nat.lt_of_le_of_ne hj.1 (fun q => hn (by subst q; exact rf_tot hj.2))
              refine lv_iinc (k := 3) (v := (nI (k + 1))) hx hb dY1_passOf_51 hl rfl (rf_inc k) (by decide) rfl (fun ls hl => ?_)
              have hl : lv_has ls 4 [(3, .int (nI (k + 1))), (0, .ref h0), (1, .int (nI x)), (2, .int (nI y))] := hl
              refine lv_goto (tgt := 33) hx hb dY1_passOf_54 (by decide) ?_
              exact ih (k + 1) _ (by show 7 - (k + 1) < 7 - k; omega) ⟨⟨by omega, lt_s hj.2 hn⟩, lv_sub hl [1, 2, 3, 0] rfl⟩
        · exact absurd (Int32.not_le.mp q3) (nI_nlt (a := 99999) hy9 (by omega))
set_option maxHeartbeats 4000000 in
set_option maxRecDepth 100000 in
theorem c_Y1_passOf_bad (l : Launch) (dC : Nat → ClassId) (dI : Nat → Nat → Nat) (cI cJ : ClassId) (h0 b1 b2 : Nat) (fl : Int32) (rc rl ps : Nat) (g t : Nat → Int32) (sz : Nat) (x y : Int32) (hb0 : rf_xy x y) : Met l yY1_passOf wsY1_passOf ({ frames := 1, cells := 0, slots := 0, locals := 21 }) (va_Pc [.ref h0, .int x, .int y] (rv_preD dC dI cI cJ h0 b1 b2 fl rc rl ps g t sz)) (va_Qi (fun (r : Int32) (_ : Unit) => r = 0) (fun _ t9 => rv_B dC dI cI cJ h0 b1 b2 1 rc rl ps g t (va_A (rv_W h0 b1 b2 cI cJ fl rc rl ps g t) sz) t9) (va_A (rv_W h0 b1 b2 cI cJ fl rc rl ps g t) sz)) 0 0 (va_A (rv_W h0 b1 b2 cI cJ fl rc rl ps g t) sz) := by
  refine Met.ofW (cc := cY1_passOf) (maxL := 4) (ret := (some .int)) (by decide) rfl ?_
  intro p e s m args below meth c s₁ B hml hv
  obtain ⟨rfl, hsz, hP, hK, hD0⟩ := hv
  have hx := B.exec
  have hb := B.bytes
  have hr := B.returns
  have hts := atoms_spec (ws := wsY1_passOf) B.pre
  have hown : s.vm.findClass RX1 = some m.cls := findClass_of_methodNamed B.named
  have hlocks := B.notSynchronized
  subst hsz
  have hD := hD0.self (sz := s.heap.size)
  generalize hAe : va_A (rv_W h0 b1 b2 cI cJ fl rc rl ps g t) s.heap.size = A at hD ⊢
  have hA : ∀ q : Nat, s.heap.size ≤ q → A q := fun q h => by rw [← hAe]; exact Or.inr h
  have hS : va_S A s.heap s.heap [] := va_S.rf
  have hP : va_P (dC, dI) rw_cl (rv_W h0 b1 b2 cI cJ fl rc rl ps g t) s.heap := hP
  have hl := lv_entry ([.ref h0, .int x, .int y]) (n := 4) (Nat.le_of_ble_eq_true rfl)
  rw [lg_entry_eq]
  generalize (lg_sl ([.ref h0, .int x, .int y]) ++ List.replicate (4 - (lg_sl ([.ref h0, .int x, .int y])).length) Slot.unset).toArray = ls at hl ⊢
  have hl : lv_has ls 4 [(0, .ref h0), (1, .int x), (2, .int y)] := hl
  refine lv_aload_n hx hb dY1_passOf_0 rfl (lv_at hl 0 rfl) ?_
  refine lv_iconst (v := 0) hx hb dY1_passOf_1 (by decide) ?_
  refine va_put (D := (dC, dI)) (ci := 1) (v := .int 0) (ty := .int) (C := RX1) (T := TY1) (N := 6) hx hb hts (by decide +kernel) tyY1 tyY1_ok nmY1 hown hK hP hD hS 0 rfl rfl 0 (by decide) (hts (.fieldLink RX1 26 "RowFiltersModel" "failed" "I") (by decide +kernel)) (fun _ h9 => h9) rfl (by decide +kernel) rfl rfl (Nat.le_of_ble_eq_true rfl) dY1_passOf_2 (fun H locs hP hD hS => ?_)
  have hP : va_P (dC, dI) rw_cl [(h0, .inr (1, [.int 0, .int (nI rc), .int (nI rl), .int (nI ps), .ref b1, .ref b2])), (b1, .inl (cI, 4096, .inl g)), (b2, .inl (cJ, 4096, .inl t))] H := hP
  have hD : va_D A [(h0, .inr (1, [.int 0, .int (nI rc), .int (nI rl), .int (nI ps), .ref b1, .ref b2])), (b1, .inl (cI, 4096, .inl g)), (b2, .inl (cJ, 4096, .inl t))] := hD
  refine lv_iload_n hx hb dY1_passOf_5 rfl (lv_at hl 1 rfl) ?_
  refine lv_if_lt (tgt := 25) hx hb dY1_passOf_6 (by decide) (fun q0 => ?_) (fun q0 => ?_)
  · refine lv_aload_n hx hb dY1_passOf_25 rfl (lv_at hl 0 rfl) ?_
    refine lv_iconst (v := 1) hx hb dY1_passOf_26 (by decide) ?_
    have hFc := va_free (wc := [(h0, .inr (1, [.int 0, .int (nI rc), .int (nI rl), .int (nI ps), .ref b1, .ref b2])), (b1, .inl (cI, 4096, .inl g)), (b2, .inl (cJ, 4096, .inl t))]) hD hS hA [0, 1, 2] rfl
    refine va_calli (va_runV (C := RX1) (As := [.int 1]) (rest := []) ⟨hx, hb, hml, hown, hts⟩ (c_Y1_fail l dC dI cI cJ h0 b1 b2 0 rc rl ps g t H.size 1) (cwV 1 hts gY1_passOf_Y1_fail rfl rfl rfl (by decide +kernel) ⟨Nat.le_of_ble_eq_true rfl, Nat.le_of_ble_eq_true rfl⟩) ⟨fun a U g mk q => by obtain ⟨q0, q1, qP, qK, qD⟩ := q; exact ⟨q0, q1, qP, va_K.moved (u := U) (U := U.calling g mk a) (Vm.Alike.refl U.vm) qK, qD⟩, va_recv hK hP (ci := 1) (q0 := 0) rfl rfl, fun U hU hW => ⟨rfl, by rw [hU], by rw [hU]; exact hP, va_K.moved hW.alike hK, hD.weaken (fun _ _ _ _ => trivial)⟩⟩ rfl rfl hl.1 rfl (lv_room (Nat.le_of_ble_eq_true rfl)) dY1_passOf_27 ⟨Nat.zero_le _, Nat.zero_le _⟩) hS (fun q _ h => hFc q h) hFc (fun rz u t9 H1 locs ht hvm ez hB hz1 hk1 hS => ?_)
    obtain ⟨hP1, hK1, hD1⟩ := hB
    rw [ht] at hP1
    obtain ⟨hP, hD⟩ := va_join (wr := []) (w1 := [(h0, .inr (1, [.int 1, .int (nI rc), .int (nI rl), .int (nI ps), .ref b1, .ref b2])), (b1, .inl (cI, 4096, .inl g)), (b2, .inl (cJ, 4096, .inl t))]) hP hD [0, 1, 2] [] rfl rfl (by decide) (by decide) hk1 hFc hP1 hD1
    generalize H1 = H at hP hS ⊢
    have hP : va_P (dC, dI) rw_cl [(h0, .inr (1, [.int 1, .int (nI rc), .int (nI rl), .int (nI ps), .ref b1, .ref b2])), (b1, .inl (cI, 4096, .inl g)), (b2, .inl (cJ, 4096, .inl t))] H := hP
    have hD : va_D A [(h0, .inr (1, [.int 1, .int (nI rc), .int (nI rl), .int (nI ps), .ref b1, .ref b2])), (b1, .inl (cI, 4096, .inl g)), (b2, .inl (cJ, 4096, .inl t))] := hD
    refine W.widen (k := 0) (n := 0) (Nat.le_refl _) (Nat.le_refl _) ?_
    exact W.iret (v := rz) hx hb hr (fun t ht hW => ⟨⟨rz, (), rfl, ez, by rw [ht]; exact hP, va_K.moved hW.alike hK, hD⟩, hS.F ht⟩) hS.2.2 dY1_passOf_30
  · refine lv_iload_n hx hb dY1_passOf_9 rfl (lv_at hl 1 rfl) ?_
    refine lv_ldc hx hb hown (hts (.constant RX1 68 (99999)) (by decide +kernel)) dY1_passOf_10 ?_
    refine lv_icmp_gt (tgt := 25) hx hb dY1_passOf_12 (by decide) (fun q1 => ?_) (fun q1 => ?_)
    · refine lv_aload_n hx hb dY1_passOf_25 rfl (lv_at hl 0 rfl) ?_
      refine lv_iconst (v := 1) hx hb dY1_passOf_26 (by decide) ?_
      have hFc := va_free (wc := [(h0, .inr (1, [.int 0, .int (nI rc), .int (nI rl), .int (nI ps), .ref b1, .ref b2])), (b1, .inl (cI, 4096, .inl g)), (b2, .inl (cJ, 4096, .inl t))]) hD hS hA [0, 1, 2] rfl
      refine va_calli (va_runV (C := RX1) (As := [.int 1]) (rest := []) ⟨hx, hb, hml, hown, hts⟩ (c_Y1_fail l dC dI cI cJ h0 b1 b2 0 rc rl ps g t H.size 1) (cwV 1 hts gY1_passOf_Y1_fail rfl rfl rfl (by decide +kernel) ⟨Nat.le_of_ble_eq_true rfl, Nat.le_of_ble_eq_true rfl⟩) ⟨fun a U g mk q => by obtain ⟨q0, q1, qP, qK, qD⟩ := q; exact ⟨q0, q1, qP, va_K.moved (u := U) (U := U.calling g mk a) (Vm.Alike.refl U.vm) qK, qD⟩, va_recv hK hP (ci := 1) (q0 := 0) rfl rfl, fun U hU hW => ⟨rfl, by rw [hU], by rw [hU]; exact hP, va_K.moved hW.alike hK, hD.weaken (fun _ _ _ _ => trivial)⟩⟩ rfl rfl hl.1 rfl (lv_room (Nat.le_of_ble_eq_true rfl)) dY1_passOf_27 ⟨Nat.zero_le _, Nat.zero_le _⟩) hS (fun q _ h => hFc q h) hFc (fun rz u t9 H1 locs ht hvm ez hB hz1 hk1 hS => ?_)
      obtain ⟨hP1, hK1, hD1⟩ := hB
      rw [ht] at hP1
      obtain ⟨hP, hD⟩ := va_join (wr := []) (w1 := [(h0, .inr (1, [.int 1, .int (nI rc), .int (nI rl), .int (nI ps), .ref b1, .ref b2])), (b1, .inl (cI, 4096, .inl g)), (b2, .inl (cJ, 4096, .inl t))]) hP hD [0, 1, 2] [] rfl rfl (by decide) (by decide) hk1 hFc hP1 hD1
      generalize H1 = H at hP hS ⊢
      have hP : va_P (dC, dI) rw_cl [(h0, .inr (1, [.int 1, .int (nI rc), .int (nI rl), .int (nI ps), .ref b1, .ref b2])), (b1, .inl (cI, 4096, .inl g)), (b2, .inl (cJ, 4096, .inl t))] H := hP
      have hD : va_D A [(h0, .inr (1, [.int 1, .int (nI rc), .int (nI rl), .int (nI ps), .ref b1, .ref b2])), (b1, .inl (cI, 4096, .inl g)), (b2, .inl (cJ, 4096, .inl t))] := hD
      refine W.widen (k := 0) (n := 0) (Nat.le_refl _) (Nat.le_refl _) ?_
      exact W.iret (v := rz) hx hb hr (fun t ht hW => ⟨⟨rz, (), rfl, ez, by rw [ht]; exact hP, va_K.moved hW.alike hK, hD⟩, hS.F ht⟩) hS.2.2 dY1_passOf_30
    · refine lv_iload_n hx hb dY1_passOf_15 rfl (lv_at hl 2 rfl) ?_
      refine lv_if_lt (tgt := 25) hx hb dY1_passOf_16 (by decide) (fun q2 => ?_) (fun q2 => ?_)
      · refine lv_aload_n hx hb dY1_passOf_25 rfl (lv_at hl 0 rfl) ?_
        refine lv_iconst (v := 1) hx hb dY1_passOf_26 (by decide) ?_
        have hFc := va_free (wc := [(h0, .inr (1, [.int 0, .int (nI rc), .int (nI rl), .int (nI ps), .ref b1, .ref b2])), (b1, .inl (cI, 4096, .inl g)), (b2, .inl (cJ, 4096, .inl t))]) hD hS hA [0, 1, 2] rfl
        refine va_calli (va_runV (C := RX1) (As := [.int 1]) (rest := []) ⟨hx, hb, hml, hown, hts⟩ (c_Y1_fail l dC dI cI cJ h0 b1 b2 0 rc rl ps g t H.size 1) (cwV 1 hts gY1_passOf_Y1_fail rfl rfl rfl (by decide +kernel) ⟨Nat.le_of_ble_eq_true rfl, Nat.le_of_ble_eq_true rfl⟩) ⟨fun a U g mk q => by obtain ⟨q0, q1, qP, qK, qD⟩ := q; exact ⟨q0, q1, qP, va_K.moved (u := U) (U := U.calling g mk a) (Vm.Alike.refl U.vm) qK, qD⟩, va_recv hK hP (ci := 1) (q0 := 0) rfl rfl, fun U hU hW => ⟨rfl, by rw [hU], by rw [hU]; exact hP, va_K.moved hW.alike hK, hD.weaken (fun _ _ _ _ => trivial)⟩⟩ rfl rfl hl.1 rfl (lv_room (Nat.le_of_ble_eq_true rfl)) dY1_passOf_27 ⟨Nat.zero_le _, Nat.zero_le _⟩) hS (fun q _ h => hFc q h) hFc (fun rz u t9 H1 locs ht hvm ez hB hz1 hk1 hS => ?_)
        obtain ⟨hP1, hK1, hD1⟩ := hB
        rw [ht] at hP1
        obtain ⟨hP, hD⟩ := va_join (wr := []) (w1 := [(h0, .inr (1, [.int 1, .int (nI rc), .int (nI rl), .int (nI ps), .ref b1, .ref b2])), (b1, .inl (cI, 4096, .inl g)), (b2, .inl (cJ, 4096, .inl t))]) hP hD [0, 1, 2] [] rfl rfl (by decide) (by decide) hk1 hFc hP1 hD1
        generalize H1 = H at hP hS ⊢
        have hP : va_P (dC, dI) rw_cl [(h0, .inr (1, [.int 1, .int (nI rc), .int (nI rl), .int (nI ps), .ref b1, .ref b2])), (b1, .inl (cI, 4096, .inl g)), (b2, .inl (cJ, 4096, .inl t))] H := hP
        have hD : va_D A [(h0, .inr (1, [.int 1, .int (nI rc), .int (nI rl), .int (nI ps), .ref b1, .ref b2])), (b1, .inl (cI, 4096, .inl g)), (b2, .inl (cJ, 4096, .inl t))] := hD
        refine W.widen (k := 0) (n := 0) (Nat.le_refl _) (Nat.le_refl _) ?_
        exact W.iret (v := rz) hx hb hr (fun t ht hW => ⟨⟨rz, (), rfl, ez, by rw [ht]; exact hP, va_K.moved hW.alike hK, hD⟩, hS.F ht⟩) hS.2.2 dY1_passOf_30
      · refine lv_iload_n hx hb dY1_passOf_19 rfl (lv_at hl 2 rfl) ?_
        refine lv_ldc hx hb hown (hts (.constant RX1 68 (99999)) (by decide +kernel)) dY1_passOf_20 ?_
        refine lv_icmp_le (tgt := 31) hx hb dY1_passOf_22 (by decide) (fun q3 => ?_) (fun q3 => ?_)
        · exact absurd hb0 (by rintro (z | z | z | z); exact q0 z; exact q1 z; exact q2 z; exact Int32.not_lt.mpr q3 z)
        · refine lv_aload_n hx hb dY1_passOf_25 rfl (lv_at hl 0 rfl) ?_
          refine lv_iconst (v := 1) hx hb dY1_passOf_26 (by decide) ?_
          have hFc := va_free (wc := [(h0, .inr (1, [.int 0, .int (nI rc), .int (nI rl), .int (nI ps), .ref b1, .ref b2])), (b1, .inl (cI, 4096, .inl g)), (b2, .inl (cJ, 4096, .inl t))]) hD hS hA [0, 1, 2] rfl
          refine va_calli (va_runV (C := RX1) (As := [.int 1]) (rest := []) ⟨hx, hb, hml, hown, hts⟩ (c_Y1_fail l dC dI cI cJ h0 b1 b2 0 rc rl ps g t H.size 1) (cwV 1 hts gY1_passOf_Y1_fail rfl rfl rfl (by decide +kernel) ⟨Nat.le_of_ble_eq_true rfl, Nat.le_of_ble_eq_true rfl⟩) ⟨fun a U g mk q => by obtain ⟨q0, q1, qP, qK, qD⟩ := q; exact ⟨q0, q1, qP, va_K.moved (u := U) (U := U.calling g mk a) (Vm.Alike.refl U.vm) qK, qD⟩, va_recv hK hP (ci := 1) (q0 := 0) rfl rfl, fun U hU hW => ⟨rfl, by rw [hU], by rw [hU]; exact hP, va_K.moved hW.alike hK, hD.weaken (fun _ _ _ _ => trivial)⟩⟩ rfl rfl hl.1 rfl (lv_room (Nat.le_of_ble_eq_true rfl)) dY1_passOf_27 ⟨Nat.zero_le _, Nat.zero_le _⟩) hS (fun q _ h => hFc q h) hFc (fun rz u t9 H1 locs ht hvm ez hB hz1 hk1 hS => ?_)
          obtain ⟨hP1, hK1, hD1⟩ := hB
          rw [ht] at hP1
          obtain ⟨hP, hD⟩ := va_join (wr := []) (w1 := [(h0, .inr (1, [.int 1, .int (nI rc), .int (nI rl), .int (nI ps), .ref b1, .ref b2])), (b1, .inl (cI, 4096, .inl g)), (b2, .inl (cJ, 4096, .inl t))]) hP hD [0, 1, 2] [] rfl rfl (by decide) (by decide) hk1 hFc hP1 hD1
          generalize H1 = H at hP hS ⊢
          have hP : va_P (dC, dI) rw_cl [(h0, .inr (1, [.int 1, .int (nI rc), .int (nI rl), .int (nI ps), .ref b1, .ref b2])), (b1, .inl (cI, 4096, .inl g)), (b2, .inl (cJ, 4096, .inl t))] H := hP
          have hD : va_D A [(h0, .inr (1, [.int 1, .int (nI rc), .int (nI rl), .int (nI ps), .ref b1, .ref b2])), (b1, .inl (cI, 4096, .inl g)), (b2, .inl (cJ, 4096, .inl t))] := hD
          refine W.widen (k := 0) (n := 0) (Nat.le_refl _) (Nat.le_refl _) ?_
          exact W.iret (v := rz) hx hb hr (fun t ht hW => ⟨⟨rz, (), rfl, ez, by rw [ht]; exact hP, va_K.moved hW.alike hK, hD⟩, hS.F ht⟩) hS.2.2 dY1_passOf_30
