set_option maxHeartbeats 4000000 in
set_option maxRecDepth 100000 in
theorem c_Y1_open (l : Launch) (dC : Nat → ClassId) (dI : Nat → Nat → Nat) (cI cJ : ClassId) (h0 b1 b2 : Nat) (fl : Int32) (rc rl ps : Nat) (g t : Nat → Int32) (sz : Nat) (h n z : Nat) (ok : rf_ok h n z) : Met l yY1_open wsY1_open ({ frames := 0, cells := 0, slots := 0, locals := 0 }) (va_Pc [.ref h0, .int (nI h), .int (nI n), .int (nI z)] (rv_preD dC dI cI cJ h0 b1 b2 fl rc rl ps g t sz)) (va_Qv (fun _ : Unit => True) (fun _ t9 => rv_B dC dI cI cJ h0 b1 b2 0 h n z (rf_p g (fun _ => 0) 0 (h * n)) t (va_A (rv_W h0 b1 b2 cI cJ fl rc rl ps g t) sz) t9) (va_A (rv_W h0 b1 b2 cI cJ fl rc rl ps g t) sz)) 0 0 (va_A (rv_W h0 b1 b2 cI cJ fl rc rl ps g t) sz) := by
  refine Met.ofW (cc := cY1_open) (maxL := 5) (ret := none) (by decide) rfl ?_
  intro p e s m args below meth c s₁ B hml hv
  obtain ⟨rfl, hsz, hP, hK, hD0⟩ := hv
  have hx := B.exec
  have hb := B.bytes
  have hr := B.returns
  have hts := atoms_spec (ws := wsY1_open) B.pre
  have hown : s.vm.findClass RX1 = some m.cls := findClass_of_methodNamed B.named
  have hlocks := B.notSynchronized
  subst hsz
  have hD := hD0.self (sz := s.heap.size)
  generalize hAe : va_A (rv_W h0 b1 b2 cI cJ fl rc rl ps g t) s.heap.size = A at hD ⊢
  have hA : ∀ q : Nat, s.heap.size ≤ q → A q := fun q h => by rw [← hAe]; exact Or.inr h
  have hS : va_S A s.heap s.heap [] := va_S.rf
  have hP : va_P (dC, dI) rw_cl (rv_W h0 b1 b2 cI cJ fl rc rl ps g t) s.heap := hP
  have hl := lv_entry ([.ref h0, .int (nI h), .int (nI n), .int (nI z)]) (n := 5) (Nat.le_of_ble_eq_true rfl)
  rw [lg_entry_eq]
  generalize (lg_sl ([.ref h0, .int (nI h), .int (nI n), .int (nI z)]) ++ List.replicate (5 - (lg_sl ([.ref h0, .int (nI h), .int (nI n), .int (nI z)])).length) Slot.unset).toArray = ls at hl ⊢
  have hl : lv_has ls 5 [(0, .ref h0), (1, .int (nI h)), (2, .int (nI n)), (3, .int (nI z))] := hl
  have h1 := ok.rc
  have h2 := ok.rl
  have h3 := ok.2.2.1
  have h4 := ok.2.2.2.2
  refine lv_aload_n hx hb dY1_open_0 rfl (lv_at hl 0 rfl) ?_
  refine lv_iconst (v := 0) hx hb dY1_open_1 (by decide) ?_
  refine va_put (D := (dC, dI)) (ci := 1) (v := .int 0) (ty := .int) (C := RX1) (T := TY1) (N := 6) hx hb hts (by decide +kernel) tyY1 tyY1_ok nmY1 hown hK hP hD hS 0 rfl rfl 0 (by decide) (hts (.fieldLink RX1 26 "RowFiltersModel" "failed" "I") (by decide +kernel)) (fun _ h9 => h9) rfl (by decide +kernel) rfl rfl (Nat.le_of_ble_eq_true rfl) dY1_open_2 (fun H locs hP hD hS => ?_)
  have hP : va_P (dC, dI) rw_cl [(h0, .inr (1, [.int 0, .int (nI rc), .int (nI rl), .int (nI ps), .ref b1, .ref b2])), (b1, .inl (cI, 4096, .inl g)), (b2, .inl (cJ, 4096, .inl t))] H := hP
  have hD : va_D A [(h0, .inr (1, [.int 0, .int (nI rc), .int (nI rl), .int (nI ps), .ref b1, .ref b2])), (b1, .inl (cI, 4096, .inl g)), (b2, .inl (cJ, 4096, .inl t))] := hD
  refine lv_iload_n hx hb dY1_open_5 rfl (lv_at hl 1 rfl) ?_
  refine lv_iconst (v := 1) hx hb dY1_open_6 (by decide) ?_
  refine lv_icmp_lt (tgt := 49) hx hb dY1_open_7 (by decide) (fun q0 => ?_) (fun q0 => ?_)
  · exact absurd q0 (nI_nlt (b := 1) ok.1 (by omega))
  · refine lv_iload_n hx hb dY1_open_10 rfl (lv_at hl 2 rfl) ?_
    refine lv_iconst (v := 1) hx hb dY1_open_11 (by decide) ?_
    refine lv_icmp_lt (tgt := 49) hx hb dY1_open_12 (by decide) (fun q1 => ?_) (fun q1 => ?_)
    · exact absurd q1 (nI_nlt (b := 1) ok.2.1 (by omega))
    · refine lv_iload_n hx hb dY1_open_15 rfl (lv_at hl 1 rfl) ?_
      refine lv_sipush (v := 4096) hx hb dY1_open_16 (by decide) ?_
      refine lv_icmp_gt (tgt := 49) hx hb dY1_open_19 (by decide) (fun q2 => ?_) (fun q2 => ?_)
      · exact absurd q2 (nI_nlt (a := 4096) h1 (by omega))
      · refine lv_iload_n hx hb dY1_open_22 rfl (lv_at hl 2 rfl) ?_
        refine lv_sipush (v := 4096) hx hb dY1_open_23 (by decide) ?_
        refine lv_icmp_gt (tgt := 49) hx hb dY1_open_26 (by decide) (fun q3 => ?_) (fun q3 => ?_)
        · exact absurd q3 (nI_nlt (a := 4096) h2 (by omega))
        · refine lv_iload_n hx hb dY1_open_29 rfl (lv_at hl 1 rfl) ?_
          refine lv_iload_n hx hb dY1_open_30 rfl (lv_at hl 2 rfl) ?_
          refine lv_imul hx hb dY1_open_31 ?_
          refine lv_sipush (v := 4096) hx hb dY1_open_32 (by decide) ?_
          refine lv_icmp_gt (tgt := 49) hx hb dY1_open_35 (by decide) (fun q4 => ?_) (fun q4 => ?_)
          · exact absurd q4 (by rw [rf_mul]; exact nI_nlt (a := 4096) h3 (by omega))
          · refine lv_iload_n hx hb dY1_open_38 rfl (lv_at hl 3 rfl) ?_
            refine lv_iconst (v := 1) hx hb dY1_open_39 (by decide) ?_
            refine lv_icmp_lt (tgt := 49) hx hb dY1_open_40 (by decide) (fun q5 => ?_) (fun q5 => ?_)
            · exact absurd q5 (nI_nlt (b := 1) ok.2.2.2.1 (by omega))
            · refine lv_iload_n hx hb dY1_open_43 rfl (lv_at hl 3 rfl) ?_
              refine lv_bipush (v := 8) hx hb dY1_open_44 (by decide) ?_
              refine lv_icmp_le (tgt := 57) hx hb dY1_open_46 (by decide) (fun q6 => ?_) (fun q6 => ?_)
              · refine lv_aload_n hx hb dY1_open_57 rfl (lv_at hl 0 rfl) ?_
                refine lv_iload_n hx hb dY1_open_58 rfl (lv_at hl 1 rfl) ?_
                refine va_put (D := (dC, dI)) (ci := 1) (v := .int (nI h)) (ty := .int) (C := RX1) (T := TY1) (N := 6) hx hb hts (by decide +kernel) tyY1 tyY1_ok nmY1 hown hK hP hD hS 0 rfl rfl 1 (by decide) (hts (.fieldLink RX1 7 "RowFiltersModel" "height" "I") (by decide +kernel)) (fun _ h9 => h9) rfl (by decide +kernel) rfl rfl (Nat.le_of_ble_eq_true rfl) dY1_open_59 (fun H locs hP hD hS => ?_)
                have hP : va_P (dC, dI) rw_cl [(h0, .inr (1, [.int 0, .int (nI h), .int (nI rl), .int (nI ps), .ref b1, .ref b2])), (b1, .inl (cI, 4096, .inl g)), (b2, .inl (cJ, 4096, .inl t))] H := hP
                have hD : va_D A [(h0, .inr (1, [.int 0, .int (nI h), .int (nI rl), .int (nI ps), .ref b1, .ref b2])), (b1, .inl (cI, 4096, .inl g)), (b2, .inl (cJ, 4096, .inl t))] := hD
                refine lv_aload_n hx hb dY1_open_62 rfl (lv_at hl 0 rfl) ?_
                refine lv_iload_n hx hb dY1_open_63 rfl (lv_at hl 2 rfl) ?_
                refine va_put (D := (dC, dI)) (ci := 1) (v := .int (nI n)) (ty := .int) (C := RX1) (T := TY1) (N := 6) hx hb hts (by decide +kernel) tyY1 tyY1_ok nmY1 hown hK hP hD hS 0 rfl rfl 2 (by decide) (hts (.fieldLink RX1 13 "RowFiltersModel" "width" "I") (by decide +kernel)) (fun _ h9 => h9) rfl (by decide +kernel) rfl rfl (Nat.le_of_ble_eq_true rfl) dY1_open_64 (fun H locs hP hD hS => ?_)
                have hP : va_P (dC, dI) rw_cl [(h0, .inr (1, [.int 0, .int (nI h), .int (nI n), .int (nI ps), .ref b1, .ref b2])), (b1, .inl (cI, 4096, .inl g)), (b2, .inl (cJ, 4096, .inl t))] H := hP
                have hD : va_D A [(h0, .inr (1, [.int 0, .int (nI h), .int (nI n), .int (nI ps), .ref b1, .ref b2])), (b1, .inl (cI, 4096, .inl g)), (b2, .inl (cJ, 4096, .inl t))] := hD
                refine lv_aload_n hx hb dY1_open_67 rfl (lv_at hl 0 rfl) ?_
                refine lv_iload_n hx hb dY1_open_68 rfl (lv_at hl 3 rfl) ?_
                refine va_put (D := (dC, dI)) (ci := 1) (v := .int (nI z)) (ty := .int) (C := RX1) (T := TY1) (N := 6) hx hb hts (by decide +kernel) tyY1 tyY1_ok nmY1 hown hK hP hD hS 0 rfl rfl 3 (by decide) (hts (.fieldLink RX1 16 "RowFiltersModel" "step" "I") (by decide +kernel)) (fun _ h9 => h9) rfl (by decide +kernel) rfl rfl (Nat.le_of_ble_eq_true rfl) dY1_open_69 (fun H locs hP hD hS => ?_)
                have hP : va_P (dC, dI) rw_cl [(h0, .inr (1, [.int 0, .int (nI h), .int (nI n), .int (nI z), .ref b1, .ref b2])), (b1, .inl (cI, 4096, .inl g)), (b2, .inl (cJ, 4096, .inl t))] H := hP
                have hD : va_D A [(h0, .inr (1, [.int 0, .int (nI h), .int (nI n), .int (nI z), .ref b1, .ref b2])), (b1, .inl (cI, 4096, .inl g)), (b2, .inl (cJ, 4096, .inl t))] := hD
                refine lv_iconst (v := 0) hx hb dY1_open_72 (by decide) ?_
                refine lv_istore hx hb dY1_open_73 hl (by decide) rfl (fun ls hl => ?_)
                have hl : lv_has ls 5 [(4, .int 0), (0, .ref h0), (1, .int (nI h)), (2, .int (nI n)), (3, .int (nI z))] := hl
                have e0 : g = (rf_p g (fun _ => 0) 0 (0)) := (rf_p_nil _ _ _).symm
                rw [e0] at hP hD
                refine rw_loopH (fun k : Nat => h * n - k) (fun k ls H locs => (k ≤ h * n) ∧ lv_has ls 5 [(0, .ref h0), (1, .int (nI h)), (2, .int (nI n)), (3, .int (nI z)), (4, .int (nI k))] ∧ va_P (dC, dI) rw_cl [(h0, .inr (1, [.int 0, .int (nI h), .int (nI n), .int (nI z), .ref b1, .ref b2])), (b1, .inl (cI, 4096, .inl (rf_p g (fun _ => 0) 0 k))), (b2, .inl (cJ, 4096, .inl t))] H ∧ va_D A [(h0, .inr (1, [.int 0, .int (nI h), .int (nI n), .int (nI z), .ref b1, .ref b2])), (b1, .inl (cI, 4096, .inl (rf_p g (fun _ => 0) 0 k))), (b2, .inl (cJ, 4096, .inl t))] ∧ va_S A s.heap H locs) ?_ (0) ⟨Nat.zero_le _, lv_sub hl [1, 2, 3, 4, 0] rfl, hP, hD, hS⟩
                intro k ls H locs hI ih
                obtain ⟨hj, hl, hP, hD, hS⟩ := hI
                refine lv_iload hx hb dY1_open_75 (lv_at hl 4 rfl) ?_
                refine lv_iload_n hx hb dY1_open_77 rfl (lv_at hl 1 rfl) ?_
                refine lv_iload_n hx hb dY1_open_78 rfl (lv_at hl 2 rfl) ?_
                refine lv_imul hx hb dY1_open_79 ?_
                refine W.eq (g2 := F0 m 80 ls [.int (nI (h * n)), .int (nI k)]) (congrArg (fun z9 => F0 m 80 ls [.int z9, .int (nI k)]) (show ((nI h) * (nI n)) = nI (h * n) from rf_mul h n)) ?_
                refine lv_icmp_ge (tgt := 97) hx hb dY1_open_80 (by decide) (fun hc => ?_) (fun hc => ?_)
                · have hi : k = h * n := by have := (nI_leI (by omega) (by omega)).mp hc; omega
                  rw [hi] at hP hD
                  exact W.vret hx hb hr (fun t ht hW => ⟨⟨(), rfl, trivial, by rw [ht]; exact hP, va_K.moved hW.alike hK, hD⟩, hS.F ht⟩) hS.2.2 dY1_open_97
                · have hi : k < h * n := Nat.lt_of_not_le (fun q => hc ((nI_leI (by omega) (by omega)).mpr q))
                  refine lv_aload_n hx hb dY1_open_83 rfl (lv_at hl 0 rfl) ?_
                  refine va_get (D := (dC, dI)) (ci := 1) (v := .ref b1) (C := RX1) (T := TY1) (N := 6) hx hb hts (by decide +kernel) hown hK hP 0 rfl rfl 4 (by decide) (hts (.fieldLink RX1 19 "RowFiltersModel" "bytes" "[I") (by decide +kernel)) (fun _ h9 => h9) rfl dY1_open_84 ?_
                  refine lv_iload hx hb dY1_open_87 (lv_at hl 4 rfl) ?_
                  refine lv_iconst (v := 0) hx hb dY1_open_89 (by decide) ?_
                  refine va_iast hx hb hK hP hD hS 1 0 rfl rfl (vp_in_nI (by omega) (by omega)) dY1_open_90 (fun H locs hP hD hS => ?_)
                  have hP : va_P (dC, dI) rw_cl [(h0, .inr (1, [.int 0, .int (nI h), .int (nI n), .int (nI z), .ref b1, .ref b2])), (b1, .inl (cI, 4096, .inl (upd (rf_p g (fun _ => 0) 0 k) (nI k).toNatClampNeg 0))), (b2, .inl (cJ, 4096, .inl t))] H := hP
                  have hD : va_D A [(h0, .inr (1, [.int 0, .int (nI h), .int (nI n), .int (nI z), .ref b1, .ref b2])), (b1, .inl (cI, 4096, .inl (upd (rf_p g (fun _ => 0) 0 k) (nI k).toNatClampNeg 0))), (b2, .inl (cJ, 4096, .inl t))] := hD
                  refine lv_iinc (k := 4) (v := (nI (k + 1))) hx hb dY1_open_91 hl rfl (rf_inc k) (by decide) rfl (fun ls hl => ?_)
                  have hl : lv_has ls 5 [(4, .int (nI (k + 1))), (0, .ref h0), (1, .int (nI h)), (2, .int (nI n)), (3, .int (nI z))] := hl
                  refine lv_goto (tgt := 75) hx hb dY1_open_94 (by decide) ?_
                  have e9 : (upd (rf_p g (fun _ => 0) 0 k) (nI k).toNatClampNeg 0) = (rf_p g (fun _ => 0) 0 (k + 1)) := by rw [nI_clamp (by omega)]; exact rf_p_up (Nat.zero_le _) rfl
                  rw [e9] at hP hD
                  exact ih (k + 1) _ _ _ (by show h * n - (k + 1) < h * n - k; omega) ⟨by omega, lv_sub hl [1, 2, 3, 4, 0] rfl, hP, hD, hS⟩
              · exact absurd (Int32.not_le.mp q6) (nI_nlt (a := 8) ok.2.2.2.2 (by omega))
set_option maxHeartbeats 4000000 in
set_option maxRecDepth 100000 in
theorem c_Y1_open_bad (l : Launch) (dC : Nat → ClassId) (dI : Nat → Nat → Nat) (cI cJ : ClassId) (h0 b1 b2 : Nat) (fl : Int32) (rc rl ps : Nat) (g t : Nat → Int32) (sz : Nat) (h n z : Int32) (hb0 : ¬ rf_op h n z) : Met l yY1_open wsY1_open ({ frames := 0, cells := 0, slots := 0, locals := 0 }) (va_Pc [.ref h0, .int h, .int n, .int z] (rv_preD dC dI cI cJ h0 b1 b2 fl rc rl ps g t sz)) (va_Qv (fun _ : Unit => True) (fun _ t9 => rv_B dC dI cI cJ h0 b1 b2 1 rc rl ps g t (va_A (rv_W h0 b1 b2 cI cJ fl rc rl ps g t) sz) t9) (va_A (rv_W h0 b1 b2 cI cJ fl rc rl ps g t) sz)) 0 0 (va_A (rv_W h0 b1 b2 cI cJ fl rc rl ps g t) sz) := by
  refine Met.ofW (cc := cY1_open) (maxL := 5) (ret := none) (by decide) rfl ?_
  intro p e s m args below meth c s₁ B hml hv
  obtain ⟨rfl, hsz, hP, hK, hD0⟩ := hv
  have hx := B.exec
  have hb := B.bytes
  have hr := B.returns
  have hts := atoms_spec (ws := wsY1_open) B.pre
  have hown : s.vm.findClass RX1 = some m.cls := findClass_of_methodNamed B.named
  have hlocks := B.notSynchronized
  subst hsz
  have hD := hD0.self (sz := s.heap.size)
  generalize hAe : va_A (rv_W h0 b1 b2 cI cJ fl rc rl ps g t) s.heap.size = A at hD ⊢
  have hA : ∀ q : Nat, s.heap.size ≤ q → A q := fun q h => by rw [← hAe]; exact Or.inr h
  have hS : va_S A s.heap s.heap [] := va_S.rf
  have hP : va_P (dC, dI) rw_cl (rv_W h0 b1 b2 cI cJ fl rc rl ps g t) s.heap := hP
  have hl := lv_entry ([.ref h0, .int h, .int n, .int z]) (n := 5) (Nat.le_of_ble_eq_true rfl)
  rw [lg_entry_eq]
  generalize (lg_sl ([.ref h0, .int h, .int n, .int z]) ++ List.replicate (5 - (lg_sl ([.ref h0, .int h, .int n, .int z])).length) Slot.unset).toArray = ls at hl ⊢
  have hl : lv_has ls 5 [(0, .ref h0), (1, .int h), (2, .int n), (3, .int z)] := hl
  refine lv_aload_n hx hb dY1_open_0 rfl (lv_at hl 0 rfl) ?_
  refine lv_iconst (v := 0) hx hb dY1_open_1 (by decide) ?_
  refine va_put (D := (dC, dI)) (ci := 1) (v := .int 0) (ty := .int) (C := RX1) (T := TY1) (N := 6) hx hb hts (by decide +kernel) tyY1 tyY1_ok nmY1 hown hK hP hD hS 0 rfl rfl 0 (by decide) (hts (.fieldLink RX1 26 "RowFiltersModel" "failed" "I") (by decide +kernel)) (fun _ h9 => h9) rfl (by decide +kernel) rfl rfl (Nat.le_of_ble_eq_true rfl) dY1_open_2 (fun H locs hP hD hS => ?_)
  have hP : va_P (dC, dI) rw_cl [(h0, .inr (1, [.int 0, .int (nI rc), .int (nI rl), .int (nI ps), .ref b1, .ref b2])), (b1, .inl (cI, 4096, .inl g)), (b2, .inl (cJ, 4096, .inl t))] H := hP
  have hD : va_D A [(h0, .inr (1, [.int 0, .int (nI rc), .int (nI rl), .int (nI ps), .ref b1, .ref b2])), (b1, .inl (cI, 4096, .inl g)), (b2, .inl (cJ, 4096, .inl t))] := hD
  refine lv_iload_n hx hb dY1_open_5 rfl (lv_at hl 1 rfl) ?_
  refine lv_iconst (v := 1) hx hb dY1_open_6 (by decide) ?_
  refine lv_icmp_lt (tgt := 49) hx hb dY1_open_7 (by decide) (fun q0 => ?_) (fun q0 => ?_)
  · refine lv_aload_n hx hb dY1_open_49 rfl (lv_at hl 0 rfl) ?_
    refine lv_iconst (v := 1) hx hb dY1_open_50 (by decide) ?_
    refine va_put (D := (dC, dI)) (ci := 1) (v := .int 1) (ty := .int) (C := RX1) (T := TY1) (N := 6) hx hb hts (by decide +kernel) tyY1 tyY1_ok nmY1 hown hK hP hD hS 0 rfl rfl 0 (by decide) (hts (.fieldLink RX1 26 "RowFiltersModel" "failed" "I") (by decide +kernel)) (fun _ h9 => h9) rfl (by decide +kernel) rfl rfl (Nat.le_of_ble_eq_true rfl) dY1_open_51 (fun H locs hP hD hS => ?_)
    have hP : va_P (dC, dI) rw_cl [(h0, .inr (1, [.int 1, .int (nI rc), .int (nI rl), .int (nI ps), .ref b1, .ref b2])), (b1, .inl (cI, 4096, .inl g)), (b2, .inl (cJ, 4096, .inl t))] H := hP
    have hD : va_D A [(h0, .inr (1, [.int 1, .int (nI rc), .int (nI rl), .int (nI ps), .ref b1, .ref b2])), (b1, .inl (cI, 4096, .inl g)), (b2, .inl (cJ, 4096, .inl t))] := hD
    refine lv_goto (tgt := 97) hx hb dY1_open_54 (by decide) ?_
    exact W.vret hx hb hr (fun t ht hW => ⟨⟨(), rfl, trivial, by rw [ht]; exact hP, va_K.moved hW.alike hK, hD⟩, hS.F ht⟩) hS.2.2 dY1_open_97
  · refine lv_iload_n hx hb dY1_open_10 rfl (lv_at hl 2 rfl) ?_
    refine lv_iconst (v := 1) hx hb dY1_open_11 (by decide) ?_
    refine lv_icmp_lt (tgt := 49) hx hb dY1_open_12 (by decide) (fun q1 => ?_) (fun q1 => ?_)
    · refine lv_aload_n hx hb dY1_open_49 rfl (lv_at hl 0 rfl) ?_
      refine lv_iconst (v := 1) hx hb dY1_open_50 (by decide) ?_
      refine va_put (D := (dC, dI)) (ci := 1) (v := .int 1) (ty := .int) (C := RX1) (T := TY1) (N := 6) hx hb hts (by decide +kernel) tyY1 tyY1_ok nmY1 hown hK hP hD hS 0 rfl rfl 0 (by decide) (hts (.fieldLink RX1 26 "RowFiltersModel" "failed" "I") (by decide +kernel)) (fun _ h9 => h9) rfl (by decide +kernel) rfl rfl (Nat.le_of_ble_eq_true rfl) dY1_open_51 (fun H locs hP hD hS => ?_)
      have hP : va_P (dC, dI) rw_cl [(h0, .inr (1, [.int 1, .int (nI rc), .int (nI rl), .int (nI ps), .ref b1, .ref b2])), (b1, .inl (cI, 4096, .inl g)), (b2, .inl (cJ, 4096, .inl t))] H := hP
      have hD : va_D A [(h0, .inr (1, [.int 1, .int (nI rc), .int (nI rl), .int (nI ps), .ref b1, .ref b2])), (b1, .inl (cI, 4096, .inl g)), (b2, .inl (cJ, 4096, .inl t))] := hD
      refine lv_goto (tgt := 97) hx hb dY1_open_54 (by decide) ?_
      exact W.vret hx hb hr (fun t ht hW => ⟨⟨(), rfl, trivial, by rw [ht]; exact hP, va_K.moved hW.alike hK, hD⟩, hS.F ht⟩) hS.2.2 dY1_open_97
    · refine lv_iload_n hx hb dY1_open_15 rfl (lv_at hl 1 rfl) ?_
      refine lv_sipush (v := 4096) hx hb dY1_open_16 (by decide) ?_
      refine lv_icmp_gt (tgt := 49) hx hb dY1_open_19 (by decide) (fun q2 => ?_) (fun q2 => ?_)
      · refine lv_aload_n hx hb dY1_open_49 rfl (lv_at hl 0 rfl) ?_
        refine lv_iconst (v := 1) hx hb dY1_open_50 (by decide) ?_
        refine va_put (D := (dC, dI)) (ci := 1) (v := .int 1) (ty := .int) (C := RX1) (T := TY1) (N := 6) hx hb hts (by decide +kernel) tyY1 tyY1_ok nmY1 hown hK hP hD hS 0 rfl rfl 0 (by decide) (hts (.fieldLink RX1 26 "RowFiltersModel" "failed" "I") (by decide +kernel)) (fun _ h9 => h9) rfl (by decide +kernel) rfl rfl (Nat.le_of_ble_eq_true rfl) dY1_open_51 (fun H locs hP hD hS => ?_)
        have hP : va_P (dC, dI) rw_cl [(h0, .inr (1, [.int 1, .int (nI rc), .int (nI rl), .int (nI ps), .ref b1, .ref b2])), (b1, .inl (cI, 4096, .inl g)), (b2, .inl (cJ, 4096, .inl t))] H := hP
        have hD : va_D A [(h0, .inr (1, [.int 1, .int (nI rc), .int (nI rl), .int (nI ps), .ref b1, .ref b2])), (b1, .inl (cI, 4096, .inl g)), (b2, .inl (cJ, 4096, .inl t))] := hD
        refine lv_goto (tgt := 97) hx hb dY1_open_54 (by decide) ?_
        exact W.vret hx hb hr (fun t ht hW => ⟨⟨(), rfl, trivial, by rw [ht]; exact hP, va_K.moved hW.alike hK, hD⟩, hS.F ht⟩) hS.2.2 dY1_open_97
      · refine lv_iload_n hx hb dY1_open_22 rfl (lv_at hl 2 rfl) ?_
        refine lv_sipush (v := 4096) hx hb dY1_open_23 (by decide) ?_
        refine lv_icmp_gt (tgt := 49) hx hb dY1_open_26 (by decide) (fun q3 => ?_) (fun q3 => ?_)
        · refine lv_aload_n hx hb dY1_open_49 rfl (lv_at hl 0 rfl) ?_
          refine lv_iconst (v := 1) hx hb dY1_open_50 (by decide) ?_
          refine va_put (D := (dC, dI)) (ci := 1) (v := .int 1) (ty := .int) (C := RX1) (T := TY1) (N := 6) hx hb hts (by decide +kernel) tyY1 tyY1_ok nmY1 hown hK hP hD hS 0 rfl rfl 0 (by decide) (hts (.fieldLink RX1 26 "RowFiltersModel" "failed" "I") (by decide +kernel)) (fun _ h9 => h9) rfl (by decide +kernel) rfl rfl (Nat.le_of_ble_eq_true rfl) dY1_open_51 (fun H locs hP hD hS => ?_)
          have hP : va_P (dC, dI) rw_cl [(h0, .inr (1, [.int 1, .int (nI rc), .int (nI rl), .int (nI ps), .ref b1, .ref b2])), (b1, .inl (cI, 4096, .inl g)), (b2, .inl (cJ, 4096, .inl t))] H := hP
          have hD : va_D A [(h0, .inr (1, [.int 1, .int (nI rc), .int (nI rl), .int (nI ps), .ref b1, .ref b2])), (b1, .inl (cI, 4096, .inl g)), (b2, .inl (cJ, 4096, .inl t))] := hD
          refine lv_goto (tgt := 97) hx hb dY1_open_54 (by decide) ?_
          exact W.vret hx hb hr (fun t ht hW => ⟨⟨(), rfl, trivial, by rw [ht]; exact hP, va_K.moved hW.alike hK, hD⟩, hS.F ht⟩) hS.2.2 dY1_open_97
        · refine lv_iload_n hx hb dY1_open_29 rfl (lv_at hl 1 rfl) ?_
          refine lv_iload_n hx hb dY1_open_30 rfl (lv_at hl 2 rfl) ?_
          refine lv_imul hx hb dY1_open_31 ?_
          refine lv_sipush (v := 4096) hx hb dY1_open_32 (by decide) ?_
          refine lv_icmp_gt (tgt := 49) hx hb dY1_open_35 (by decide) (fun q4 => ?_) (fun q4 => ?_)
          · refine lv_aload_n hx hb dY1_open_49 rfl (lv_at hl 0 rfl) ?_
            refine lv_iconst (v := 1) hx hb dY1_open_50 (by decide) ?_
            refine va_put (D := (dC, dI)) (ci := 1) (v := .int 1) (ty := .int) (C := RX1) (T := TY1) (N := 6) hx hb hts (by decide +kernel) tyY1 tyY1_ok nmY1 hown hK hP hD hS 0 rfl rfl 0 (by decide) (hts (.fieldLink RX1 26 "RowFiltersModel" "failed" "I") (by decide +kernel)) (fun _ h9 => h9) rfl (by decide +kernel) rfl rfl (Nat.le_of_ble_eq_true rfl) dY1_open_51 (fun H locs hP hD hS => ?_)
            have hP : va_P (dC, dI) rw_cl [(h0, .inr (1, [.int 1, .int (nI rc), .int (nI rl), .int (nI ps), .ref b1, .ref b2])), (b1, .inl (cI, 4096, .inl g)), (b2, .inl (cJ, 4096, .inl t))] H := hP
            have hD : va_D A [(h0, .inr (1, [.int 1, .int (nI rc), .int (nI rl), .int (nI ps), .ref b1, .ref b2])), (b1, .inl (cI, 4096, .inl g)), (b2, .inl (cJ, 4096, .inl t))] := hD
            refine lv_goto (tgt := 97) hx hb dY1_open_54 (by decide) ?_
            exact W.vret hx hb hr (fun t ht hW => ⟨⟨(), rfl, trivial, by rw [ht]; exact hP, va_K.moved hW.alike hK, hD⟩, hS.F ht⟩) hS.2.2 dY1_open_97
          · refine lv_iload_n hx hb dY1_open_38 rfl (lv_at hl 3 rfl) ?_
            refine lv_iconst (v := 1) hx hb dY1_open_39 (by decide) ?_
            refine lv_icmp_lt (tgt := 49) hx hb dY1_open_40 (by decide) (fun q5 => ?_) (fun q5 => ?_)
            · refine lv_aload_n hx hb dY1_open_49 rfl (lv_at hl 0 rfl) ?_
              refine lv_iconst (v := 1) hx hb dY1_open_50 (by decide) ?_
              refine va_put (D := (dC, dI)) (ci := 1) (v := .int 1) (ty := .int) (C := RX1) (T := TY1) (N := 6) hx hb hts (by decide +kernel) tyY1 tyY1_ok nmY1 hown hK hP hD hS 0 rfl rfl 0 (by decide) (hts (.fieldLink RX1 26 "RowFiltersModel" "failed" "I") (by decide +kernel)) (fun _ h9 => h9) rfl (by decide +kernel) rfl rfl (Nat.le_of_ble_eq_true rfl) dY1_open_51 (fun H locs hP hD hS => ?_)
              have hP : va_P (dC, dI) rw_cl [(h0, .inr (1, [.int 1, .int (nI rc), .int (nI rl), .int (nI ps), .ref b1, .ref b2])), (b1, .inl (cI, 4096, .inl g)), (b2, .inl (cJ, 4096, .inl t))] H := hP
              have hD : va_D A [(h0, .inr (1, [.int 1, .int (nI rc), .int (nI rl), .int (nI ps), .ref b1, .ref b2])), (b1, .inl (cI, 4096, .inl g)), (b2, .inl (cJ, 4096, .inl t))] := hD
              refine lv_goto (tgt := 97) hx hb dY1_open_54 (by decide) ?_
              exact W.vret hx hb hr (fun t ht hW => ⟨⟨(), rfl, trivial, by rw [ht]; exact hP, va_K.moved hW.alike hK, hD⟩, hS.F ht⟩) hS.2.2 dY1_open_97
            · refine lv_iload_n hx hb dY1_open_43 rfl (lv_at hl 3 rfl) ?_
              refine lv_bipush (v := 8) hx hb dY1_open_44 (by decide) ?_
              refine lv_icmp_le (tgt := 57) hx hb dY1_open_46 (by decide) (fun q6 => ?_) (fun q6 => ?_)
              · exact absurd ⟨q0, q1, q2, q3, q4, q5, Int32.not_lt.mpr q6⟩ hb0
              · refine lv_aload_n hx hb dY1_open_49 rfl (lv_at hl 0 rfl) ?_
                refine lv_iconst (v := 1) hx hb dY1_open_50 (by decide) ?_
                refine va_put (D := (dC, dI)) (ci := 1) (v := .int 1) (ty := .int) (C := RX1) (T := TY1) (N := 6) hx hb hts (by decide +kernel) tyY1 tyY1_ok nmY1 hown hK hP hD hS 0 rfl rfl 0 (by decide) (hts (.fieldLink RX1 26 "RowFiltersModel" "failed" "I") (by decide +kernel)) (fun _ h9 => h9) rfl (by decide +kernel) rfl rfl (Nat.le_of_ble_eq_true rfl) dY1_open_51 (fun H locs hP hD hS => ?_)
                have hP : va_P (dC, dI) rw_cl [(h0, .inr (1, [.int 1, .int (nI rc), .int (nI rl), .int (nI ps), .ref b1, .ref b2])), (b1, .inl (cI, 4096, .inl g)), (b2, .inl (cJ, 4096, .inl t))] H := hP
                have hD : va_D A [(h0, .inr (1, [.int 1, .int (nI rc), .int (nI rl), .int (nI ps), .ref b1, .ref b2])), (b1, .inl (cI, 4096, .inl g)), (b2, .inl (cJ, 4096, .inl t))] := hD
                refine lv_goto (tgt := 97) hx hb dY1_open_54 (by decide) ?_
                exact W.vret hx hb hr (fun t ht hW => ⟨⟨(), rfl, trivial, by rw [ht]; exact hP, va_K.moved hW.alike hK, hD⟩, hS.F ht⟩) hS.2.2 dY1_open_97
