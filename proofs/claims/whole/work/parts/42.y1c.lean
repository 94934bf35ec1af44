set_option maxHeartbeats 4000000 in
set_option maxRecDepth 100000 in
theorem c_Y1_tell (l : Launch) (dC : Nat → ClassId) (dI : Nat → Nat → Nat) (cI cJ : ClassId) (h0 b1 b2 : Nat) (fl : Int32) (rc rl ps : Nat) (g t : Nat → Int32) (sz : Nat) (y q : Nat) (ok : rf_ok rc rl ps) (hy : y < rc) (hq : q ≤ 4) : Met l yY1_tell wsY1_tell ({ frames := 2, cells := 0, slots := 0, locals := 52 }) (va_Pc [.ref h0, .int (nI y), .int (nI q)] (rv_preD dC dI cI cJ h0 b1 b2 fl rc rl ps g t sz)) (va_Qi (fun (r : Int32) (_ : Unit) => r = rf_s g rl ps y q rl) (fun _ t9 => rv_B dC dI cI cJ h0 b1 b2 fl rc rl ps g (rf_p t (rf_tv g rl ps y q) (y * rl) (y * rl + rl)) (va_A (rv_W h0 b1 b2 cI cJ fl rc rl ps g t) sz) t9) (va_A (rv_W h0 b1 b2 cI cJ fl rc rl ps g t) sz)) 0 0 (va_A (rv_W h0 b1 b2 cI cJ fl rc rl ps g t) sz) := by
  refine Met.ofW (cc := cY1_tell) (maxL := 6) (ret := (some .int)) (by decide) rfl ?_
  intro p e s m args below meth c s₁ B hml hv
  obtain ⟨rfl, hsz, hP, hK, hD0⟩ := hv
  have hx := B.exec
  have hb := B.bytes
  have hr := B.returns
  have hts := atoms_spec (ws := wsY1_tell) B.pre
  have hown : s.vm.findClass RX1 = some m.cls := findClass_of_methodNamed B.named
  have hlocks := B.notSynchronized
  subst hsz
  have hD := hD0.self (sz := s.heap.size)
  generalize hAe : va_A (rv_W h0 b1 b2 cI cJ fl rc rl ps g t) s.heap.size = A at hD ⊢
  have hA : ∀ q : Nat, s.heap.size ≤ q → A q := fun q h => by rw [← hAe]; exact Or.inr h
  have hS : va_S A s.heap s.heap [] := va_S.rf
  have hP : va_P (dC, dI) rw_cl (rv_W h0 b1 b2 cI cJ fl rc rl ps g t) s.heap := hP
  have hl := lv_entry ([.ref h0, .int (nI y), .int (nI q)]) (n := 6) (Nat.le_of_ble_eq_true rfl)
  rw [lg_entry_eq]
  generalize (lg_sl ([.ref h0, .int (nI y), .int (nI q)]) ++ List.replicate (6 - (lg_sl ([.ref h0, .int (nI y), .int (nI q)])).length) Slot.unset).toArray = ls at hl ⊢
  have hl : lv_has ls 6 [(0, .ref h0), (1, .int (nI y)), (2, .int (nI q))] := hl
  have h1 := ok.rc
  have h2 := ok.rl
  have h5 := rf_row rl hy
  have h6 := ok.2.2.1
  refine lv_iconst (v := 0) hx hb dY1_tell_0 (by decide) ?_
  refine lv_istore_n hx hb dY1_tell_1 rfl hl (by decide) rfl (fun ls hl => ?_)
  have hl : lv_has ls 6 [(3, .int 0), (0, .ref h0), (1, .int (nI y)), (2, .int (nI q))] := hl
  refine lv_iconst (v := 0) hx hb dY1_tell_2 (by decide) ?_
  refine lv_istore hx hb dY1_tell_3 hl (by decide) rfl (fun ls hl => ?_)
  have hl : lv_has ls 6 [(4, .int 0), (3, .int 0), (0, .ref h0), (1, .int (nI y)), (2, .int (nI q))] := hl
  have e0 : t = (rf_p t (rf_tv g rl ps y q) (y * rl) (y * rl + (0))) := (rf_p_nil _ _ _).symm
  rw [e0] at hP hD
  refine rw_loopH (fun i : Nat => rl - i) (fun i ls H locs => (i ≤ rl) ∧ lv_has ls 6 [(0, .ref h0), (1, .int (nI y)), (2, .int (nI q)), (3, .int (rf_s g rl ps y q i)), (4, .int (nI i))] ∧ va_P (dC, dI) rw_cl [(h0, .inr (1, [.int fl, .int (nI rc), .int (nI rl), .int (nI ps), .ref b1, .ref b2])), (b1, .inl (cI, 4096, .inl g)), (b2, .inl (cJ, 4096, .inl (rf_p t (rf_tv g rl ps y q) (y * rl) (y * rl + i))))] H ∧ va_D A [(h0, .inr (1, [.int fl, .int (nI rc), .int (nI rl), .int (nI ps), .ref b1, .ref b2])), (b1, .inl (cI, 4096, .inl g)), (b2, .inl (cJ, 4096, .inl (rf_p t (rf_tv g rl ps y q) (y * rl) (y * rl + i))))] ∧ va_S A s.heap H locs) ?_ (0) ⟨Nat.zero_le _, lv_sub hl [2, 3, 4, 1, 0] rfl, hP, hD, hS⟩
  intro i ls H locs hI ih
  obtain ⟨hj, hl, hP, hD, hS⟩ := hI
  refine lv_iload hx hb dY1_tell_5 (lv_at hl 4 rfl) ?_
  refine lv_aload_n hx hb dY1_tell_7 rfl (lv_at hl 0 rfl) ?_
  refine va_get (D := (dC, dI)) (ci := 1) (v := .int (nI rl)) (C := RX1) (T := TY1) (N := 6) hx hb hts (by decide +kernel) hown hK hP 0 rfl rfl 2 (by decide) (hts (.fieldLink RX1 13 "RowFiltersModel" "width" "I") (by decide +kernel)) (fun _ h9 => h9) rfl dY1_tell_8 ?_
  refine lv_icmp_ge (tgt := 87) hx hb dY1_tell_11 (by decide) (fun hc => ?_) (fun hc => ?_)
  · have hi : i = rl := by have := (nI_leI (by omega) (by omega)).mp hc; omega
    rw [hi] at hP hD hl
    have hl : lv_has ls 6 [(0, .ref h0), (1, .int (nI y)), (2, .int (nI q)), (3, .int (rf_s g rl ps y q rl)), (4, .int (nI rl))] := hl
    refine lv_iload_n hx hb dY1_tell_87 rfl (lv_at hl 3 rfl) ?_
    exact W.iret (v := (rf_s g rl ps y q rl)) hx hb hr (fun t ht hW => ⟨⟨(rf_s g rl ps y q rl), (), rfl, rfl, by rw [ht]; exact hP, va_K.moved hW.alike hK, hD⟩, hS.F ht⟩) hS.2.2 dY1_tell_88
  · have hi : i < rl := Nat.lt_of_not_le (fun q => hc ((nI_leI (by omega) (by omega)).mpr q))
    have h3 := ok.k hy hi
    refine lv_aload_n hx hb dY1_tell_14 rfl (lv_at hl 0 rfl) ?_
    refine va_get (D := (dC, dI)) (ci := 1) (v := .ref b1) (C := RX1) (T := TY1) (N := 6) hx hb hts (by decide +kernel) hown hK hP 0 rfl rfl 4 (by decide) (hts (.fieldLink RX1 19 "RowFiltersModel" "bytes" "[I") (by decide +kernel)) (fun _ h9 => h9) rfl dY1_tell_15 ?_
    refine lv_iload_n hx hb dY1_tell_18 rfl (lv_at hl 1 rfl) ?_
    refine lv_aload_n hx hb dY1_tell_19 rfl (lv_at hl 0 rfl) ?_
    refine va_get (D := (dC, dI)) (ci := 1) (v := .int (nI rl)) (C := RX1) (T := TY1) (N := 6) hx hb hts (by decide +kernel) hown hK hP 0 rfl rfl 2 (by decide) (hts (.fieldLink RX1 13 "RowFiltersModel" "width" "I") (by decide +kernel)) (fun _ h9 => h9) rfl dY1_tell_20 ?_
    refine lv_imul hx hb dY1_tell_23 ?_
    refine lv_iload hx hb dY1_tell_24 (lv_at hl 4 rfl) ?_
    refine lv_iadd hx hb dY1_tell_26 ?_
    refine W.eq (g2 := F0 m 27 ls [.int (nI (y * rl + i)), .ref b1]) (congrArg (fun z9 => F0 m 27 ls [.int z9, .ref b1]) (show (((nI y) * (nI rl)) + (nI i)) = nI (y * rl + i) from rf_ix y rl i)) ?_
    refine va_iald hx hb hK hP 1 0 rfl rfl (vp_in_nI h3 (by omega)) dY1_tell_27 ?_
    refine W.eq (g2 := F0 m 28 ls [.int (g (y * rl + i))]) (congrArg (fun z9 => F0 m 28 ls [.int z9]) (show (g (nI (y * rl + i)).toNatClampNeg) = g (y * rl + i) from by rw [nI_clamp (by omega)])) ?_
    refine lv_aload_n hx hb dY1_tell_28 rfl (lv_at hl 0 rfl) ?_
    refine lv_iload_n hx hb dY1_tell_29 rfl (lv_at hl 1 rfl) ?_
    refine lv_iload hx hb dY1_tell_30 (lv_at hl 4 rfl) ?_
    refine lv_iload_n hx hb dY1_tell_32 rfl (lv_at hl 2 rfl) ?_
    refine vp_callSi (W.runV (C := RX1) (As := [.int (nI y), .int (nI i), .int (nI q)]) (rest := [.int (g (y * rl + i))]) ⟨hx, hb, hml, hown, hts⟩ (c_Y1_guess l dC dI cI cJ h0 b1 b2 fl rc rl ps g (rf_p t (rf_tv g rl ps y q) (y * rl) (y * rl + i)) y i q ok hy hi hq) (cwV 3 hts gY1_tell_Y1_guess rfl rfl rfl (by decide +kernel) ⟨Nat.le_of_ble_eq_true rfl, Nat.le_of_ble_eq_true rfl⟩) ⟨fun a U g mk q => by obtain ⟨q0, qP, qK⟩ := q; exact ⟨q0, qP, va_K.moved (u := U) (U := U.calling g mk a) (Vm.Alike.refl U.vm) qK⟩, va_recv hK hP (ci := 1) (q0 := 0) rfl rfl, fun U hU hW => ⟨rfl, by rw [hU]; exact hP, va_K.moved hW.alike hK⟩⟩ rfl rfl hl.1 rfl (lv_room (Nat.le_of_ble_eq_true rfl)) dY1_tell_33 ⟨Nat.zero_le _, Nat.zero_le _⟩) (fun rg eg => ?_)
    refine lv_isub hx hb dY1_tell_36 ?_
    refine lv_sipush (v := 255) hx hb dY1_tell_37 (by decide) ?_
    refine lv_iand hx hb dY1_tell_40 ?_
    refine lv_topi (fun v ev => ?_)
    have ev : v = rf_t g rl ps y q i := by rw [ev, eg]; rfl
    refine lv_istore hx hb dY1_tell_41 hl (by decide) rfl (fun ls hl => ?_)
    have hl : lv_has ls 6 [(5, .int v), (0, .ref h0), (1, .int (nI y)), (2, .int (nI q)), (3, .int (rf_s g rl ps y q i)), (4, .int (nI i))] := hl
    refine lv_aload_n hx hb dY1_tell_43 rfl (lv_at hl 1 rfl) ?_
    refine va_get (D := (dC, dI)) (ci := 1) (v := .ref b2) (C := RX1) (T := TY1) (N := 6) hx hb hts (by decide +kernel) hown hK hP 0 rfl rfl 5 (by decide) (hts (.fieldLink RX1 23 "RowFiltersModel" "told" "[I") (by decide +kernel)) (fun _ h9 => h9) rfl dY1_tell_44 ?_
    refine lv_iload_n hx hb dY1_tell_47 rfl (lv_at hl 2 rfl) ?_
    refine lv_aload_n hx hb dY1_tell_48 rfl (lv_at hl 1 rfl) ?_
    refine va_get (D := (dC, dI)) (ci := 1) (v := .int (nI rl)) (C := RX1) (T := TY1) (N := 6) hx hb hts (by decide +kernel) hown hK hP 0 rfl rfl 2 (by decide) (hts (.fieldLink RX1 13 "RowFiltersModel" "width" "I") (by decide +kernel)) (fun _ h9 => h9) rfl dY1_tell_49 ?_
    refine lv_imul hx hb dY1_tell_52 ?_
    refine lv_iload hx hb dY1_tell_53 (lv_at hl 5 rfl) ?_
    refine lv_iadd hx hb dY1_tell_55 ?_
    refine W.eq (g2 := F0 m 56 ls [.int (nI (y * rl + i)), .ref b2]) (congrArg (fun z9 => F0 m 56 ls [.int z9, .ref b2]) (show (((nI y) * (nI rl)) + (nI i)) = nI (y * rl + i) from rf_ix y rl i)) ?_
    refine lv_iload hx hb dY1_tell_56 (lv_at hl 0 rfl) ?_
    refine va_iast hx hb hK hP hD hS 2 1 rfl rfl (vp_in_nI h3 (by omega)) dY1_tell_58 (fun H locs hP hD hS => ?_)
    have hP : va_P (dC, dI) rw_cl [(h0, .inr (1, [.int fl, .int (nI rc), .int (nI rl), .int (nI ps), .ref b1, .ref b2])), (b1, .inl (cI, 4096, .inl g)), (b2, .inl (cJ, 4096, .inl (upd (rf_p t (rf_tv g rl ps y q) (y * rl) (y * rl + i)) (nI (y * rl + i)).toNatClampNeg v)))] H := hP
    have hD : va_D A [(h0, .inr (1, [.int fl, .int (nI rc), .int (nI rl), .int (nI ps), .ref b1, .ref b2])), (b1, .inl (cI, 4096, .inl g)), (b2, .inl (cJ, 4096, .inl (upd (rf_p t (rf_tv g rl ps y q) (y * rl) (y * rl + i)) (nI (y * rl + i)).toNatClampNeg v)))] := hD
    refine lv_iload_n hx hb dY1_tell_59 rfl (lv_at hl 4 rfl) ?_
    refine lv_iload hx hb dY1_tell_60 (lv_at hl 0 rfl) ?_
    refine lv_sipush (v := 128) hx hb dY1_tell_62 (by decide) ?_
    refine lv_icmp_ge (tgt := 73) hx hb dY1_tell_65 (by decide) (fun hv => ?_) (fun hv => ?_)
    · refine lv_sipush (v := 256) hx hb dY1_tell_73 (by decide) ?_
      refine lv_iload hx hb dY1_tell_76 (lv_at hl 0 rfl) ?_
      refine lv_isub hx hb dY1_tell_78 ?_
      refine lv_iadd hx hb dY1_tell_79 ?_
      refine lv_istore_n hx hb dY1_tell_80 rfl hl (by decide) rfl (fun ls hl => ?_)
      have hl : lv_has ls 6 [(3, .int ((rf_s g rl ps y q i) + (256 - v))), (5, .int v), (0, .ref h0), (1, .int (nI y)), (2, .int (nI q)), (4, .int (nI i))] := hl
      refine lv_iinc (k := 5) (v := (nI (i + 1))) hx hb dY1_tell_81 hl rfl (rf_inc i) (by decide) rfl (fun ls hl => ?_)
      have hl : lv_has ls 6 [(4, .int (nI (i + 1))), (3, .int ((rf_s g rl ps y q i) + (256 - v))), (5, .int v), (0, .ref h0), (1, .int (nI y)), (2, .int (nI q))] := hl
      refine lv_goto (tgt := 5) hx hb dY1_tell_84 (by decide) ?_
      have e9 : rf_s g rl ps y q (i + 1) = ((rf_s g rl ps y q i) + (256 - v)) := by show rf_s g rl ps y q i + rf_m (rf_t g rl ps y q i) = _; rw [← ev, rf_m, if_neg (Int32.not_lt.mpr hv)]
      rw [← e9] at hl
      have e9 : (upd (rf_p t (rf_tv g rl ps y q) (y * rl) (y * rl + i)) (nI (y * rl + i)).toNatClampNeg v) = (rf_p t (rf_tv g rl ps y q) (y * rl) (y * rl + (i + 1))) := by rw [nI_clamp (by omega)]; exact rf_p_up (lo := y * rl) (hi := y * rl + i) (by omega) (by rw [ev]; unfold rf_tv; rw [Nat.add_sub_cancel_left])
      rw [e9] at hP hD
      exact ih (i + 1) _ _ _ (by show rl - (i + 1) < rl - i; omega) ⟨by omega, lv_sub hl [3, 4, 5, 1, 0] rfl, hP, hD, hS⟩
    · refine lv_iload hx hb dY1_tell_68 (lv_at hl 0 rfl) ?_
      refine lv_goto (tgt := 79) hx hb dY1_tell_70 (by decide) ?_
      refine lv_iadd hx hb dY1_tell_79 ?_
      refine lv_istore_n hx hb dY1_tell_80 rfl hl (by decide) rfl (fun ls hl => ?_)
      have hl : lv_has ls 6 [(3, .int ((rf_s g rl ps y q i) + v)), (5, .int v), (0, .ref h0), (1, .int (nI y)), (2, .int (nI q)), (4, .int (nI i))] := hl
      refine lv_iinc (k := 5) (v := (nI (i + 1))) hx hb dY1_tell_81 hl rfl (rf_inc i) (by decide) rfl (fun ls hl => ?_)
      have hl : lv_has ls 6 [(4, .int (nI (i + 1))), (3, .int ((rf_s g rl ps y q i) + v)), (5, .int v), (0, .ref h0), (1, .int (nI y)), (2, .int (nI q))] := hl
      refine lv_goto (tgt := 5) hx hb dY1_tell_84 (by decide) ?_
      have e9 : rf_s g rl ps y q (i + 1) = ((rf_s g rl ps y q i) + v) := by show rf_s g rl ps y q i + rf_m (rf_t g rl ps y q i) = _; rw [← ev, rf_m, if_pos (Int32.not_le.mp hv)]
      rw [← e9] at hl
      have e9 : (upd (rf_p t (rf_tv g rl ps y q) (y * rl) (y * rl + i)) (nI (y * rl + i)).toNatClampNeg v) = (rf_p t (rf_tv g rl ps y q) (y * rl) (y * rl + (i + 1))) := by rw [nI_clamp (by omega)]; exact rf_p_up (lo := y * rl) (hi := y * rl + i) (by omega) (by rw [ev]; unfold rf_tv; rw [Nat.add_sub_cancel_left])
      rw [e9] at hP hD
      exact ih (i + 1) _ _ _ (by show rl - (i + 1) < rl - i; omega) ⟨by omega, lv_sub hl [3, 4, 5, 1, 0] rfl, hP, hD, hS⟩
set_option maxHeartbeats 4000000 in
set_option maxRecDepth 100000 in
theorem c_Y1_untell (l : Launch) (dC : Nat → ClassId) (dI : Nat → Nat → Nat) (cI cJ : ClassId) (h0 b1 b2 : Nat) (fl : Int32) (rc rl ps : Nat) (g t : Nat → Int32) (sz : Nat) (y q : Nat) (ok : rf_ok rc rl ps) (hy : y < rc) (hq : q ≤ 4) : Met l yY1_untell wsY1_untell ({ frames := 2, cells := 0, slots := 0, locals := 52 }) (va_Pc [.ref h0, .int (nI y), .int (nI q)] (rv_preD dC dI cI cJ h0 b1 b2 fl rc rl ps g t sz)) (va_Qv (fun _ : Unit => True) (fun _ t9 => rv_B dC dI cI cJ h0 b1 b2 fl rc rl ps (rf_U g rl ps y q rl) t (va_A (rv_W h0 b1 b2 cI cJ fl rc rl ps g t) sz) t9) (va_A (rv_W h0 b1 b2 cI cJ fl rc rl ps g t) sz)) 0 0 (va_A (rv_W h0 b1 b2 cI cJ fl rc rl ps g t) sz) := by
  refine Met.ofW (cc := cY1_untell) (maxL := 4) (ret := none) (by decide) rfl ?_
  intro p e s m args below meth c s₁ B hml hv
  obtain ⟨rfl, hsz, hP, hK, hD0⟩ := hv
  have hx := B.exec
  have hb := B.bytes
  have hr := B.returns
  have hts := atoms_spec (ws := wsY1_untell) B.pre
  have hown : s.vm.findClass RX1 = some m.cls := findClass_of_methodNamed B.named
  have hlocks := B.notSynchronized
  subst hsz
  have hD := hD0.self (sz := s.heap.size)
  generalize hAe : va_A (rv_W h0 b1 b2 cI cJ fl rc rl ps g t) s.heap.size = A at hD ⊢
  have hA : ∀ q : Nat, s.heap.size ≤ q → A q := fun q h => by rw [← hAe]; exact Or.inr h
  have hS : va_S A s.heap s.heap [] := va_S.rf
  have hP : va_P (dC, dI) rw_cl (rv_W h0 b1 b2 cI cJ fl rc rl ps g t) s.heap := hP
  have hl := lv_entry ([.ref h0, .int (nI y), .int (nI q)]) (n := 4) (Nat.le_of_ble_eq_true rfl)
  rw [lg_entry_eq]
  generalize (lg_sl ([.ref h0, .int (nI y), .int (nI q)]) ++ List.replicate (4 - (lg_sl ([.ref h0, .int (nI y), .int (nI q)])).length) Slot.unset).toArray = ls at hl ⊢
  have hl : lv_has ls 4 [(0, .ref h0), (1, .int (nI y)), (2, .int (nI q))] := hl
  have h1 := ok.rc
  have h2 := ok.rl
  have h5 := rf_row rl hy
  have h6 := ok.2.2.1
  refine lv_iconst (v := 0) hx hb dY1_untell_0 (by decide) ?_
  refine lv_istore_n hx hb dY1_untell_1 rfl hl (by decide) rfl (fun ls hl => ?_)
  have hl : lv_has ls 4 [(3, .int 0), (0, .ref h0), (1, .int (nI y)), (2, .int (nI q))] := hl
  have e0 : g = (rf_U g rl ps y q (0)) := rfl
  rw [e0] at hP hD
  refine rw_loopH (fun z : Nat => rl - z) (fun z ls H locs => (z ≤ rl) ∧ lv_has ls 4 [(0, .ref h0), (1, .int (nI y)), (2, .int (nI q)), (3, .int (nI z))] ∧ va_P (dC, dI) rw_cl [(h0, .inr (1, [.int fl, .int (nI rc), .int (nI rl), .int (nI ps), .ref b1, .ref b2])), (b1, .inl (cI, 4096, .inl (rf_U g rl ps y q z))), (b2, .inl (cJ, 4096, .inl t))] H ∧ va_D A [(h0, .inr (1, [.int fl, .int (nI rc), .int (nI rl), .int (nI ps), .ref b1, .ref b2])), (b1, .inl (cI, 4096, .inl (rf_U g rl ps y q z))), (b2, .inl (cJ, 4096, .inl t))] ∧ va_S A s.heap H locs) ?_ (0) ⟨Nat.zero_le _, lv_sub hl [1, 2, 3, 0] rfl, hP, hD, hS⟩
  intro z ls H locs hI ih
  obtain ⟨hj, hl, hP, hD, hS⟩ := hI
  refine lv_iload_n hx hb dY1_untell_2 rfl (lv_at hl 3 rfl) ?_
  refine lv_aload_n hx hb dY1_untell_3 rfl (lv_at hl 0 rfl) ?_
  refine va_get (D := (dC, dI)) (ci := 1) (v := .int (nI rl)) (C := RX1) (T := TY1) (N := 6) hx hb hts (by decide +kernel) hown hK hP 0 rfl rfl 2 (by decide) (hts (.fieldLink RX1 13 "RowFiltersModel" "width" "I") (by decide +kernel)) (fun _ h9 => h9) rfl dY1_untell_4 ?_
  refine lv_icmp_ge (tgt := 54) hx hb dY1_untell_7 (by decide) (fun hc => ?_) (fun hc => ?_)
  · have hi : z = rl := by have := (nI_leI (by omega) (by omega)).mp hc; omega
    rw [hi] at hP hD
    exact W.vret hx hb hr (fun t ht hW => ⟨⟨(), rfl, trivial, by rw [ht]; exact hP, va_K.moved hW.alike hK, hD⟩, hS.F ht⟩) hS.2.2 dY1_untell_54
  · have hi : z < rl := Nat.lt_of_not_le (fun q => hc ((nI_leI (by omega) (by omega)).mpr q))
    have h3 := ok.k hy hi
    refine lv_aload_n hx hb dY1_untell_10 rfl (lv_at hl 0 rfl) ?_
    refine va_get (D := (dC, dI)) (ci := 1) (v := .ref b1) (C := RX1) (T := TY1) (N := 6) hx hb hts (by decide +kernel) hown hK hP 0 rfl rfl 4 (by decide) (hts (.fieldLink RX1 19 "RowFiltersModel" "bytes" "[I") (by decide +kernel)) (fun _ h9 => h9) rfl dY1_untell_11 ?_
    refine lv_iload_n hx hb dY1_untell_14 rfl (lv_at hl 1 rfl) ?_
    refine lv_aload_n hx hb dY1_untell_15 rfl (lv_at hl 0 rfl) ?_
    refine va_get (D := (dC, dI)) (ci := 1) (v := .int (nI rl)) (C := RX1) (T := TY1) (N := 6) hx hb hts (by decide +kernel) hown hK hP 0 rfl rfl 2 (by decide) (hts (.fieldLink RX1 13 "RowFiltersModel" "width" "I") (by decide +kernel)) (fun _ h9 => h9) rfl dY1_untell_16 ?_
    refine lv_imul hx hb dY1_untell_19 ?_
    refine lv_iload_n hx hb dY1_untell_20 rfl (lv_at hl 3 rfl) ?_
    refine lv_iadd hx hb dY1_untell_21 ?_
    refine W.eq (g2 := F0 m 22 ls [.int (nI (y * rl + z)), .ref b1]) (congrArg (fun z9 => F0 m 22 ls [.int z9, .ref b1]) (show (((nI y) * (nI rl)) + (nI z)) = nI (y * rl + z) from rf_ix y rl z)) ?_
    refine lv_aload_n hx hb dY1_untell_22 rfl (lv_at hl 0 rfl) ?_
    refine va_get (D := (dC, dI)) (ci := 1) (v := .ref b1) (C := RX1) (T := TY1) (N := 6) hx hb hts (by decide +kernel) hown hK hP 0 rfl rfl 4 (by decide) (hts (.fieldLink RX1 19 "RowFiltersModel" "bytes" "[I") (by decide +kernel)) (fun _ h9 => h9) rfl dY1_untell_23 ?_
    refine lv_iload_n hx hb dY1_untell_26 rfl (lv_at hl 1 rfl) ?_
    refine lv_aload_n hx hb dY1_untell_27 rfl (lv_at hl 0 rfl) ?_
    refine va_get (D := (dC, dI)) (ci := 1) (v := .int (nI rl)) (C := RX1) (T := TY1) (N := 6) hx hb hts (by decide +kernel) hown hK hP 0 rfl rfl 2 (by decide) (hts (.fieldLink RX1 13 "RowFiltersModel" "width" "I") (by decide +kernel)) (fun _ h9 => h9) rfl dY1_untell_28 ?_
    refine lv_imul hx hb dY1_untell_31 ?_
    refine lv_iload_n hx hb dY1_untell_32 rfl (lv_at hl 3 rfl) ?_
    refine lv_iadd hx hb dY1_untell_33 ?_
    refine W.eq (g2 := F0 m 34 ls [.int (nI (y * rl + z)), .ref b1, .int (nI (y * rl + z)), .ref b1]) (congrArg (fun z9 => F0 m 34 ls [.int z9, .ref b1, .int (nI (y * rl + z)), .ref b1]) (show (((nI y) * (nI rl)) + (nI z)) = nI (y * rl + z) from rf_ix y rl z)) ?_
    refine va_iald hx hb hK hP 1 0 rfl rfl (vp_in_nI h3 (by omega)) dY1_untell_34 ?_
    refine W.eq (g2 := F0 m 35 ls [.int ((rf_U g rl ps y q z) (y * rl + z)), .int (nI (y * rl + z)), .ref b1]) (congrArg (fun z9 => F0 m 35 ls [.int z9, .int (nI (y * rl + z)), .ref b1]) (show ((rf_U g rl ps y q z) (nI (y * rl + z)).toNatClampNeg) = ((rf_U g rl ps y q z) (y * rl + z)) from by rw [nI_clamp (by omega)])) ?_
    refine lv_aload_n hx hb dY1_untell_35 rfl (lv_at hl 0 rfl) ?_
    refine lv_iload_n hx hb dY1_untell_36 rfl (lv_at hl 1 rfl) ?_
    refine lv_iload_n hx hb dY1_untell_37 rfl (lv_at hl 3 rfl) ?_
    refine lv_iload_n hx hb dY1_untell_38 rfl (lv_at hl 2 rfl) ?_
    refine vp_callSi (W.runV (C := RX1) (As := [.int (nI y), .int (nI z), .int (nI q)]) (rest := [.int ((rf_U g rl ps y q z) (y * rl + z)), .int (nI (y * rl + z)), .ref b1]) ⟨hx, hb, hml, hown, hts⟩ (c_Y1_guess l dC dI cI cJ h0 b1 b2 fl rc rl ps (rf_U g rl ps y q z) t y z q ok hy hi hq) (cwV 3 hts gY1_untell_Y1_guess rfl rfl rfl (by decide +kernel) ⟨Nat.le_of_ble_eq_true rfl, Nat.le_of_ble_eq_true rfl⟩) ⟨fun a U g mk q => by obtain ⟨q0, qP, qK⟩ := q; exact ⟨q0, qP, va_K.moved (u := U) (U := U.calling g mk a) (Vm.Alike.refl U.vm) qK⟩, va_recv hK hP (ci := 1) (q0 := 0) rfl rfl, fun U hU hW => ⟨rfl, by rw [hU]; exact hP, va_K.moved hW.alike hK⟩⟩ rfl rfl hl.1 rfl (lv_room (Nat.le_of_ble_eq_true rfl)) dY1_untell_39 ⟨Nat.zero_le _, Nat.zero_le _⟩) (fun rg eg => ?_)
    refine lv_iadd hx hb dY1_untell_42 ?_
    refine lv_sipush (v := 255) hx hb dY1_untell_43 (by decide) ?_
    refine lv_iand hx hb dY1_untell_46 ?_
    refine va_iast hx hb hK hP hD hS 1 0 rfl rfl (vp_in_nI h3 (by omega)) dY1_untell_47 (fun H locs hP hD hS => ?_)
    have hP : va_P (dC, dI) rw_cl [(h0, .inr (1, [.int fl, .int (nI rc), .int (nI rl), .int (nI ps), .ref b1, .ref b2])), (b1, .inl (cI, 4096, .inl (upd (rf_U g rl ps y q z) (nI (y * rl + z)).toNatClampNeg ((((rf_U g rl ps y q z) (y * rl + z)) + rg) &&& 255)))), (b2, .inl (cJ, 4096, .inl t))] H := hP
    have hD : va_D A [(h0, .inr (1, [.int fl, .int (nI rc), .int (nI rl), .int (nI ps), .ref b1, .ref b2])), (b1, .inl (cI, 4096, .inl (upd (rf_U g rl ps y q z) (nI (y * rl + z)).toNatClampNeg ((((rf_U g rl ps y q z) (y * rl + z)) + rg) &&& 255)))), (b2, .inl (cJ, 4096, .inl t))] := hD
    refine lv_iinc (k := 3) (v := (nI (z + 1))) hx hb dY1_untell_48 hl rfl (rf_inc z) (by decide) rfl (fun ls hl => ?_)
    have hl : lv_has ls 4 [(3, .int (nI (z + 1))), (0, .ref h0), (1, .int (nI y)), (2, .int (nI q))] := hl
    refine lv_goto (tgt := 2) hx hb dY1_untell_51 (by decide) ?_
    have e9 : (upd (rf_U g rl ps y q z) (nI (y * rl + z)).toNatClampNeg ((((rf_U g rl ps y q z) (y * rl + z)) + rg) &&& 255)) = (rf_U g rl ps y q (z + 1)) := by rw [nI_clamp (by omega), eg]; rfl
    rw [e9] at hP hD
    exact ih (z + 1) _ _ _ (by show rl - (z + 1) < rl - z; omega) ⟨by omega, lv_sub hl [1, 2, 3, 0] rfl, hP, hD, hS⟩
