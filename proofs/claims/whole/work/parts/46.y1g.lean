set_option maxHeartbeats 4000000 in
set_option maxRecDepth 100000 in
theorem c_Y1_filter (l : Launch) (dC : Nat → ClassId) (dI : Nat → Nat → Nat) (cI cJ : ClassId) (h0 b1 b2 : Nat) (fl : Int32) (rc rl ps : Nat) (g t : Nat → Int32) (sz : Nat) (y q : Nat) (ok : rf_ok rc rl ps) (hy : y < rc) (hq : q ≤ 4) : Met l yY1_filter wsY1_filter ({ frames := 3, cells := 0, slots := 0, locals := 77 }) (va_Pc [.ref h0, .int (nI y), .int (nI q)] (rv_preD dC dI cI cJ h0 b1 b2 fl rc rl ps g t sz)) (va_Qv (fun _ : Unit => True) (fun _ t9 => rv_B dC dI cI cJ h0 b1 b2 0 rc rl ps (rf_p g (rf_tv g rl ps y q) (y * rl) (y * rl + rl)) (rf_p t (rf_tv g rl ps y q) (y * rl) (y * rl + rl)) (va_A (rv_W h0 b1 b2 cI cJ fl rc rl ps g t) sz) t9) (va_A (rv_W h0 b1 b2 cI cJ fl rc rl ps g t) sz)) 0 0 (va_A (rv_W h0 b1 b2 cI cJ fl rc rl ps g t) sz) := by
  refine Met.ofW (cc := cY1_filter) (maxL := 5) (ret := none) (by decide) rfl ?_
  intro p e s m args below meth c s₁ B hml hv
  obtain ⟨rfl, hsz, hP, hK, hD0⟩ := hv
  have hx := B.exec
  have hb := B.bytes
  have hr := B.returns
  have hts := atoms_spec (ws := wsY1_filter) B.pre
  have hown : s.vm.findClass RX1 = some m.cls := findClass_of_methodNamed B.named
  have hlocks := B.notSynchronized
  subst hsz
  have hD := hD0.self (sz := s.heap.size)
  generalize hAe : va_A (rv_W h0 b1 b2 cI cJ fl rc rl ps g t) s.heap.size = A at hD ⊢
  have hA : ∀ q : Nat, s.heap.size ≤ q → A q := fun q h => by rw [← hAe]; exact Or.inr h
  have hS : va_S A s.heap s.heap [] := va_S.rf
  have hP : va_P (dC, dI) rw_cl (rv_W h0 b1 b2 cI cJ fl rc rl ps g t) s.heap := hP
  have hl := lv_entry ([.ref h0, .int (nI y), .int (nI q)]) (n := 5) (Nat.le_of_ble_eq_true rfl)
  rw [lg_entry_eq]
  generalize (lg_sl ([.ref h0, .int (nI y), .int (nI q)]) ++ List.replicate (5 - (lg_sl ([.ref h0, .int (nI y), .int (nI q)])).length) Slot.unset).toArray = ls at hl ⊢
  have hl : lv_has ls 5 [(0, .ref h0), (1, .int (nI y)), (2, .int (nI q))] := hl
  have h1 := ok.rc
  have h2 := ok.rl
  have h5 := rf_row rl hy
  have h6 := ok.2.2.1
  refine lv_aload_n hx hb dY1_filter_0 rfl (lv_at hl 0 rfl) ?_
  refine lv_iconst (v := 0) hx hb dY1_filter_1 (by decide) ?_
  refine va_put (D := (dC, dI)) (ci := 1) (v := .int 0) (ty := .int) (C := RX1) (T := TY1) (N := 6) hx hb hts (by decide +kernel) tyY1 tyY1_ok nmY1 hown hK hP hD hS 0 rfl rfl 0 (by decide) (hts (.fieldLink RX1 26 "RowFiltersModel" "failed" "I") (by decide +kernel)) (fun _ h9 => h9) rfl (by decide +kernel) rfl rfl (Nat.le_of_ble_eq_true rfl) dY1_filter_2 (fun H locs hP hD hS => ?_)
  have hP : va_P (dC, dI) rw_cl [(h0, .inr (1, [.int 0, .int (nI rc), .int (nI rl), .int (nI ps), .ref b1, .ref b2])), (b1, .inl (cI, 4096, .inl g)), (b2, .inl (cJ, 4096, .inl t))] H := hP
  have hD : va_D A [(h0, .inr (1, [.int 0, .int (nI rc), .int (nI rl), .int (nI ps), .ref b1, .ref b2])), (b1, .inl (cI, 4096, .inl g)), (b2, .inl (cJ, 4096, .inl t))] := hD
  refine lv_aload_n hx hb dY1_filter_5 rfl (lv_at hl 0 rfl) ?_
  refine lv_iload_n hx hb dY1_filter_6 rfl (lv_at hl 1 rfl) ?_
  refine lv_iload_n hx hb dY1_filter_7 rfl (lv_at hl 2 rfl) ?_
  refine vp_callSi (W.runV (C := RX1) (As := [.int (nI y), .int (nI q)]) (rest := []) ⟨hx, hb, hml, hown, hts⟩ (c_Y1_bad l dC dI cI cJ h0 b1 b2 0 rc rl ps g t (nI y) (nI q)) (cwV 2 hts gY1_filter_Y1_bad rfl rfl rfl (by decide +kernel) ⟨Nat.le_of_ble_eq_true rfl, Nat.le_of_ble_eq_true rfl⟩) ⟨fun a U g mk q => by obtain ⟨q0, qP, qK⟩ := q; exact ⟨q0, qP, va_K.moved (u := U) (U := U.calling g mk a) (Vm.Alike.refl U.vm) qK⟩, va_recv hK hP (ci := 1) (q0 := 0) rfl rfl, fun U hU hW => ⟨rfl, by rw [hU]; exact hP, va_K.moved hW.alike hK⟩⟩ rfl rfl hl.1 rfl (lv_room (Nat.le_of_ble_eq_true rfl)) dY1_filter_8 ⟨Nat.zero_le _, Nat.zero_le _⟩) (fun ro eo => ?_)
  refine lv_if_eq (tgt := 22) hx hb dY1_filter_11 (by decide) (fun q1 => ?_) (fun q1 => ?_)
  · refine lv_aload_n hx hb dY1_filter_22 rfl (lv_at hl 0 rfl) ?_
    refine lv_iload_n hx hb dY1_filter_23 rfl (lv_at hl 1 rfl) ?_
    refine lv_iload_n hx hb dY1_filter_24 rfl (lv_at hl 2 rfl) ?_
    have hFc := va_free (wc := [(h0, .inr (1, [.int 0, .int (nI rc), .int (nI rl), .int (nI ps), .ref b1, .ref b2])), (b1, .inl (cI, 4096, .inl g)), (b2, .inl (cJ, 4096, .inl t))]) hD hS hA [0, 1, 2] rfl
    refine va_calli (va_runV (C := RX1) (As := [.int (nI y), .int (nI q)]) (rest := []) ⟨hx, hb, hml, hown, hts⟩ (c_Y1_tell l dC dI cI cJ h0 b1 b2 0 rc rl ps g t H.size y q ok hy hq) (cwV 2 hts gY1_filter_Y1_tell rfl rfl rfl (by decide +kernel) ⟨Nat.le_of_ble_eq_true rfl, Nat.le_of_ble_eq_true rfl⟩) ⟨fun a U g mk q => by obtain ⟨q0, q1, qP, qK, qD⟩ := q; exact ⟨q0, q1, qP, va_K.moved (u := U) (U := U.calling g mk a) (Vm.Alike.refl U.vm) qK, qD⟩, va_recv hK hP (ci := 1) (q0 := 0) rfl rfl, fun U hU hW => ⟨rfl, by rw [hU], by rw [hU]; exact hP, va_K.moved hW.alike hK, hD.weaken (fun _ _ _ _ => trivial)⟩⟩ rfl rfl hl.1 rfl (lv_room (Nat.le_of_ble_eq_true rfl)) dY1_filter_25 ⟨Nat.zero_le _, Nat.zero_le _⟩) hS (fun q _ h => hFc q h) hFc (fun rs u t9 H1 locs ht hvm es hB hz1 hk1 hS => ?_)
    obtain ⟨hP1, hK1, hD1⟩ := hB
    rw [ht] at hP1
    obtain ⟨hP, hD⟩ := va_join (wr := []) (w1 := [(h0, .inr (1, [.int 0, .int (nI rc), .int (nI rl), .int (nI ps), .ref b1, .ref b2])), (b1, .inl (cI, 4096, .inl g)), (b2, .inl (cJ, 4096, .inl (rf_p t (rf_tv g rl ps y q) (y * rl) (y * rl + rl))))]) hP hD [0, 1, 2] [] rfl rfl (by decide) (by decide) hk1 hFc hP1 hD1
    generalize H1 = H at hP hS ⊢
    have hP : va_P (dC, dI) rw_cl [(h0, .inr (1, [.int 0, .int (nI rc), .int (nI rl), .int (nI ps), .ref b1, .ref b2])), (b1, .inl (cI, 4096, .inl g)), (b2, .inl (cJ, 4096, .inl (rf_p t (rf_tv g rl ps y q) (y * rl) (y * rl + rl))))] H := hP
    have hD : va_D A [(h0, .inr (1, [.int 0, .int (nI rc), .int (nI rl), .int (nI ps), .ref b1, .ref b2])), (b1, .inl (cI, 4096, .inl g)), (b2, .inl (cJ, 4096, .inl (rf_p t (rf_tv g rl ps y q) (y * rl) (y * rl + rl))))] := hD
    refine W.widen (k := 0) (n := 0) (Nat.le_refl _) (Nat.le_refl _) ?_
    refine lv_istore_n hx hb dY1_filter_28 rfl hl (by decide) rfl (fun ls hl => ?_)
    have hl : lv_has ls 5 [(3, .int rs), (0, .ref h0), (1, .int (nI y)), (2, .int (nI q))] := hl
    refine lv_iload_n hx hb dY1_filter_29 rfl (lv_at hl 2 rfl) ?_
    refine lv_aload_n hx hb dY1_filter_30 rfl (lv_at hl 1 rfl) ?_
    refine va_get (D := (dC, dI)) (ci := 1) (v := .int (nI rl)) (C := RX1) (T := TY1) (N := 6) hx hb hts (by decide +kernel) hown hK hP 0 rfl rfl 2 (by decide) (hts (.fieldLink RX1 13 "RowFiltersModel" "width" "I") (by decide +kernel)) (fun _ h9 => h9) rfl dY1_filter_31 ?_
    refine lv_imul hx hb dY1_filter_34 ?_
    refine W.eq (g2 := F0 m 35 ls [.int (nI (y * rl + 0))]) (congrArg (fun z9 => F0 m 35 ls [.int z9]) (show ((nI y) * (nI rl)) = nI (y * rl + 0) from by rw [rf_mul, Nat.add_zero])) ?_
    refine lv_istore hx hb dY1_filter_35 hl (by decide) rfl (fun ls hl => ?_)
    have hl : lv_has ls 5 [(4, .int (nI (y * rl + 0))), (3, .int rs), (0, .ref h0), (1, .int (nI y)), (2, .int (nI q))] := hl
    have e0 : g = (rf_p g (rf_p t (rf_tv g rl ps y q) (y * rl) (y * rl + rl)) (y * rl) (y * rl + (0))) := (rf_p_nil _ _ _).symm
    have hP : va_P (dC, dI) rw_cl [(h0, .inr (1, [.int 0, .int (nI rc), .int (nI rl), .int (nI ps), .ref b1, .ref b2])), (b1, .inl (cI, 4096, .inl (rf_p g (rf_p t (rf_tv g rl ps y q) (y * rl) (y * rl + rl)) (y * rl) (y * rl + (0))))), (b2, .inl (cJ, 4096, .inl (rf_p t (rf_tv g rl ps y q) (y * rl) (y * rl + rl))))] H := by rw [← e0]; exact hP
    have hD : va_D A [(h0, .inr (1, [.int 0, .int (nI rc), .int (nI rl), .int (nI ps), .ref b1, .ref b2])), (b1, .inl (cI, 4096, .inl (rf_p g (rf_p t (rf_tv g rl ps y q) (y * rl) (y * rl + rl)) (y * rl) (y * rl + (0))))), (b2, .inl (cJ, 4096, .inl (rf_p t (rf_tv g rl ps y q) (y * rl) (y * rl + rl))))] := by rw [← e0]; exact hD
    refine rw_loopH (fun k : Nat => rl - k) (fun k ls H locs => (k ≤ rl) ∧ lv_has ls 5 [(0, .ref h0), (1, .int (nI y)), (2, .int (nI q)), (4, .int (nI (y * rl + k)))] ∧ va_P (dC, dI) rw_cl [(h0, .inr (1, [.int 0, .int (nI rc), .int (nI rl), .int (nI ps), .ref b1, .ref b2])), (b1, .inl (cI, 4096, .inl (rf_p g (rf_p t (rf_tv g rl ps y q) (y * rl) (y * rl + rl)) (y * rl) (y * rl + k)))), (b2, .inl (cJ, 4096, .inl (rf_p t (rf_tv g rl ps y q) (y * rl) (y * rl + rl))))] H ∧ va_D A [(h0, .inr (1, [.int 0, .int (nI rc), .int (nI rl), .int (nI ps), .ref b1, .ref b2])), (b1, .inl (cI, 4096, .inl (rf_p g (rf_p t (rf_tv g rl ps y q) (y * rl) (y * rl + rl)) (y * rl) (y * rl + k)))), (b2, .inl (cJ, 4096, .inl (rf_p t (rf_tv g rl ps y q) (y * rl) (y * rl + rl))))] ∧ va_S A s.heap H locs) ?_ (0) ⟨Nat.zero_le _, lv_sub hl [2, 3, 4, 0] rfl, hP, hD, hS⟩
    intro k ls H locs hI ih
    obtain ⟨hj, hl, hP, hD, hS⟩ := hI
    refine lv_iload hx hb dY1_filter_37 (lv_at hl 3 rfl) ?_
    refine lv_iload_n hx hb dY1_filter_39 rfl (lv_at hl 1 rfl) ?_
    refine lv_aload_n hx hb dY1_filter_40 rfl (lv_at hl 0 rfl) ?_
    refine va_get (D := (dC, dI)) (ci := 1) (v := .int (nI rl)) (C := RX1) (T := TY1) (N := 6) hx hb hts (by decide +kernel) hown hK hP 0 rfl rfl 2 (by decide) (hts (.fieldLink RX1 13 "RowFiltersModel" "width" "I") (by decide +kernel)) (fun _ h9 => h9) rfl dY1_filter_41 ?_
    refine lv_imul hx hb dY1_filter_44 ?_
    refine lv_aload_n hx hb dY1_filter_45 rfl (lv_at hl 0 rfl) ?_
    refine va_get (D := (dC, dI)) (ci := 1) (v := .int (nI rl)) (C := RX1) (T := TY1) (N := 6) hx hb hts (by decide +kernel) hown hK hP 0 rfl rfl 2 (by decide) (hts (.fieldLink RX1 13 "RowFiltersModel" "width" "I") (by decide +kernel)) (fun _ h9 => h9) rfl dY1_filter_46 ?_
    refine lv_iadd hx hb dY1_filter_49 ?_
    refine W.eq (g2 := F0 m 50 ls [.int (nI (y * rl + rl)), .int (nI (y * rl + k))]) (congrArg (fun z9 => F0 m 50 ls [.int z9, .int (nI (y * rl + k))]) (show (((nI y) * (nI rl)) + (nI rl)) = nI (y * rl + rl) from rf_ix y rl rl)) ?_
    refine lv_icmp_ge (tgt := 73) hx hb dY1_filter_50 (by decide) (fun hc => ?_) (fun hc => ?_)
    · have hi : k = rl := by have := (nI_leI (by omega) (by omega)).mp hc; omega
      rw [hi, rf_p_p] at hP hD
      exact W.vret hx hb hr (fun t ht hW => ⟨⟨(), rfl, trivial, by rw [ht]; exact hP, va_K.moved hW.alike hK, hD⟩, hS.F ht⟩) hS.2.2 dY1_filter_73
    · have hi : k < rl := by have := Nat.lt_of_not_le (fun q => hc ((nI_leI (by omega) (by omega)).mpr q)); omega
      refine lv_aload_n hx hb dY1_filter_53 rfl (lv_at hl 0 rfl) ?_
      refine va_get (D := (dC, dI)) (ci := 1) (v := .ref b1) (C := RX1) (T := TY1) (N := 6) hx hb hts (by decide +kernel) hown hK hP 0 rfl rfl 4 (by decide) (hts (.fieldLink RX1 19 "RowFiltersModel" "bytes" "[I") (by decide +kernel)) (fun _ h9 => h9) rfl dY1_filter_54 ?_
      refine lv_iload hx hb dY1_filter_57 (lv_at hl 3 rfl) ?_
      refine lv_aload_n hx hb dY1_filter_59 rfl (lv_at hl 0 rfl) ?_
      refine va_get (D := (dC, dI)) (ci := 1) (v := .ref b2) (C := RX1) (T := TY1) (N := 6) hx hb hts (by decide +kernel) hown hK hP 0 rfl rfl 5 (by decide) (hts (.fieldLink RX1 23 "RowFiltersModel" "told" "[I") (by decide +kernel)) (fun _ h9 => h9) rfl dY1_filter_60 ?_
      refine lv_iload hx hb dY1_filter_63 (lv_at hl 3 rfl) ?_
      refine va_iald hx hb hK hP 2 1 rfl rfl (vp_in_nI (by omega) (by omega)) dY1_filter_65 ?_
      refine lv_topi (fun v ev => ?_)
      rw [nI_clamp (by omega)] at ev
      refine va_iast hx hb hK hP hD hS 1 0 rfl rfl (vp_in_nI (by omega) (by omega)) dY1_filter_66 (fun H locs hP hD hS => ?_)
      have hP : va_P (dC, dI) rw_cl [(h0, .inr (1, [.int 0, .int (nI rc), .int (nI rl), .int (nI ps), .ref b1, .ref b2])), (b1, .inl (cI, 4096, .inl (upd (rf_p g (rf_p t (rf_tv g rl ps y q) (y * rl) (y * rl + rl)) (y * rl) (y * rl + k)) (nI (y * rl + k)).toNatClampNeg v))), (b2, .inl (cJ, 4096, .inl (rf_p t (rf_tv g rl ps y q) (y * rl) (y * rl + rl))))] H := hP
      have hD : va_D A [(h0, .inr (1, [.int 0, .int (nI rc), .int (nI rl), .int (nI ps), .ref b1, .ref b2])), (b1, .inl (cI, 4096, .inl (upd (rf_p g (rf_p t (rf_tv g rl ps y q) (y * rl) (y * rl + rl)) (y * rl) (y * rl + k)) (nI (y * rl + k)).toNatClampNeg v))), (b2, .inl (cJ, 4096, .inl (rf_p t (rf_tv g rl ps y q) (y * rl) (y * rl + rl))))] := hD
      refine lv_iinc (k := 3) (v := (nI (y * rl + (k + 1)))) hx hb dY1_filter_67 hl rfl (rf_inc (y * rl + k)) (by decide) rfl (fun ls hl => ?_)
      have hl : lv_has ls 5 [(4, .int (nI (y * rl + (k + 1)))), (0, .ref h0), (1, .int (nI y)), (2, .int (nI q))] := hl
      refine lv_goto (tgt := 37) hx hb dY1_filter_70 (by decide) ?_
      have e9 : (upd (rf_p g (rf_p t (rf_tv g rl ps y q) (y * rl) (y * rl + rl)) (y * rl) (y * rl + k)) (nI (y * rl + k)).toNatClampNeg v) = (rf_p g (rf_p t (rf_tv g rl ps y q) (y * rl) (y * rl + rl)) (y * rl) (y * rl + (k + 1))) := by rw [nI_clamp (by omega)]; exact rf_p_up (lo := y * rl) (hi := y * rl + k) (by omega) ev
      rw [e9] at hP hD
      exact ih (k + 1) _ _ _ (by show rl - (k + 1) < rl - k; omega) ⟨by omega, lv_sub hl [1, 2, 3, 0] rfl, hP, hD, hS⟩
  · exact absurd (eo.2 (rf_bd_n h1 hy hq)) q1
set_option maxHeartbeats 4000000 in
set_option maxRecDepth 100000 in
theorem c_Y1_filter_bad (l : Launch) (dC : Nat → ClassId) (dI : Nat → Nat → Nat) (cI cJ : ClassId) (h0 b1 b2 : Nat) (fl : Int32) (rc rl ps : Nat) (g t : Nat → Int32) (sz : Nat) (y q : Int32) (hb0 : rf_bd rc y q) : Met l yY1_filter wsY1_filter ({ frames := 1, cells := 0, slots := 0, locals := 22 }) (va_Pc [.ref h0, .int y, .int q] (rv_preD dC dI cI cJ h0 b1 b2 fl rc rl ps g t sz)) (va_Qv (fun _ : Unit => True) (fun _ t9 => rv_B dC dI cI cJ h0 b1 b2 1 rc rl ps g t (va_A (rv_W h0 b1 b2 cI cJ fl rc rl ps g t) sz) t9) (va_A (rv_W h0 b1 b2 cI cJ fl rc rl ps g t) sz)) 0 0 (va_A (rv_W h0 b1 b2 cI cJ fl rc rl ps g t) sz) := by
  refine Met.ofW (cc := cY1_filter) (maxL := 5) (ret := none) (by decide) rfl ?_
  intro p e s m args below meth c s₁ B hml hv
  obtain ⟨rfl, hsz, hP, hK, hD0⟩ := hv
  have hx := B.exec
  have hb := B.bytes
  have hr := B.returns
  have hts := atoms_spec (ws := wsY1_filter) B.pre
  have hown : s.vm.findClass RX1 = some m.cls := findClass_of_methodNamed B.named
  have hlocks := B.notSynchronized
  subst hsz
  have hD := hD0.self (sz := s.heap.size)
  generalize hAe : va_A (rv_W h0 b1 b2 cI cJ fl rc rl ps g t) s.heap.size = A at hD ⊢
  have hA : ∀ q : Nat, s.heap.size ≤ q → A q := fun q h => by rw [← hAe]; exact Or.inr h
  have hS : va_S A s.heap s.heap [] := va_S.rf
  have hP : va_P (dC, dI) rw_cl (rv_W h0 b1 b2 cI cJ fl rc rl ps g t) s.heap := hP
  have hl := lv_entry ([.ref h0, .int y, .int q]) (n := 5) (Nat.le_of_ble_eq_true rfl)
  rw [lg_entry_eq]
  generalize (lg_sl ([.ref h0, .int y, .int q]) ++ List.replicate (5 - (lg_sl ([.ref h0, .int y, .int q])).length) Slot.unset).toArray = ls at hl ⊢
  have hl : lv_has ls 5 [(0, .ref h0), (1, .int y), (2, .int q)] := hl
  refine lv_aload_n hx hb dY1_filter_0 rfl (lv_at hl 0 rfl) ?_
  refine lv_iconst (v := 0) hx hb dY1_filter_1 (by decide) ?_
  refine va_put (D := (dC, dI)) (ci := 1) (v := .int 0) (ty := .int) (C := RX1) (T := TY1) (N := 6) hx hb hts (by decide +kernel) tyY1 tyY1_ok nmY1 hown hK hP hD hS 0 rfl rfl 0 (by decide) (hts (.fieldLink RX1 26 "RowFiltersModel" "failed" "I") (by decide +kernel)) (fun _ h9 => h9) rfl (by decide +kernel) rfl rfl (Nat.le_of_ble_eq_true rfl) dY1_filter_2 (fun H locs hP hD hS => ?_)
  have hP : va_P (dC, dI) rw_cl [(h0, .inr (1, [.int 0, .int (nI rc), .int (nI rl), .int (nI ps), .ref b1, .ref b2])), (b1, .inl (cI, 4096, .inl g)), (b2, .inl (cJ, 4096, .inl t))] H := hP
  have hD : va_D A [(h0, .inr (1, [.int 0, .int (nI rc), .int (nI rl), .int (nI ps), .ref b1, .ref b2])), (b1, .inl (cI, 4096, .inl g)), (b2, .inl (cJ, 4096, .inl t))] := hD
  refine lv_aload_n hx hb dY1_filter_5 rfl (lv_at hl 0 rfl) ?_
  refine lv_iload_n hx hb dY1_filter_6 rfl (lv_at hl 1 rfl) ?_
  refine lv_iload_n hx hb dY1_filter_7 rfl (lv_at hl 2 rfl) ?_
  refine vp_callSi (W.runV (C := RX1) (As := [.int y, .int q]) (rest := []) ⟨hx, hb, hml, hown, hts⟩ (c_Y1_bad l dC dI cI cJ h0 b1 b2 0 rc rl ps g t y q) (cwV 2 hts gY1_filter_Y1_bad rfl rfl rfl (by decide +kernel) ⟨Nat.le_of_ble_eq_true rfl, Nat.le_of_ble_eq_true rfl⟩) ⟨fun a U g mk q => by obtain ⟨q0, qP, qK⟩ := q; exact ⟨q0, qP, va_K.moved (u := U) (U := U.calling g mk a) (Vm.Alike.refl U.vm) qK⟩, va_recv hK hP (ci := 1) (q0 := 0) rfl rfl, fun U hU hW => ⟨rfl, by rw [hU]; exact hP, va_K.moved hW.alike hK⟩⟩ rfl rfl hl.1 rfl (lv_room (Nat.le_of_ble_eq_true rfl)) dY1_filter_8 ⟨Nat.zero_le _, Nat.zero_le _⟩) (fun ro eo => ?_)
  refine lv_if_eq (tgt := 22) hx hb dY1_filter_11 (by decide) (fun q1 => ?_) (fun q1 => ?_)
  · exact absurd ((eo.1 hb0).symm.trans q1) (by decide)
  · refine lv_aload_n hx hb dY1_filter_14 rfl (lv_at hl 0 rfl) ?_
    refine lv_iconst (v := 1) hx hb dY1_filter_15 (by decide) ?_
    refine va_put (D := (dC, dI)) (ci := 1) (v := .int 1) (ty := .int) (C := RX1) (T := TY1) (N := 6) hx hb hts (by decide +kernel) tyY1 tyY1_ok nmY1 hown hK hP hD hS 0 rfl rfl 0 (by decide) (hts (.fieldLink RX1 26 "RowFiltersModel" "failed" "I") (by decide +kernel)) (fun _ h9 => h9) rfl (by decide +kernel) rfl rfl (Nat.le_of_ble_eq_true rfl) dY1_filter_16 (fun H locs hP hD hS => ?_)
    have hP : va_P (dC, dI) rw_cl [(h0, .inr (1, [.int 1, .int (nI rc), .int (nI rl), .int (nI ps), .ref b1, .ref b2])), (b1, .inl (cI, 4096, .inl g)), (b2, .inl (cJ, 4096, .inl t))] H := hP
    have hD : va_D A [(h0, .inr (1, [.int 1, .int (nI rc), .int (nI rl), .int (nI ps), .ref b1, .ref b2])), (b1, .inl (cI, 4096, .inl g)), (b2, .inl (cJ, 4096, .inl t))] := hD
    refine lv_goto (tgt := 73) hx hb dY1_filter_19 (by decide) ?_
    exact W.vret hx hb hr (fun t ht hW => ⟨⟨(), rfl, trivial, by rw [ht]; exact hP, va_K.moved hW.alike hK, hD⟩, hS.F ht⟩) hS.2.2 dY1_filter_73
set_option maxHeartbeats 4000000 in
set_option maxRecDepth 100000 in
theorem c_Y1_plain (l : Launch) (dC : Nat → ClassId) (dI : Nat → Nat → Nat) (cI cJ : ClassId) (h0 b1 b2 : Nat) (fl : Int32) (rc rl ps : Nat) (g t : Nat → Int32) (sz : Nat) (y q : Nat) (ok : rf_ok rc rl ps) (hy : y < rc) (hq : q ≤ 4) : Met l yY1_plain wsY1_plain ({ frames := 3, cells := 0, slots := 0, locals := 75 }) (va_Pc [.ref h0, .int (nI y), .int (nI q)] (rv_preD dC dI cI cJ h0 b1 b2 fl rc rl ps g t sz)) (va_Qv (fun _ : Unit => True) (fun _ t9 => rv_B dC dI cI cJ h0 b1 b2 0 rc rl ps (rf_U g rl ps y q rl) t (va_A (rv_W h0 b1 b2 cI cJ fl rc rl ps g t) sz) t9) (va_A (rv_W h0 b1 b2 cI cJ fl rc rl ps g t) sz)) 0 0 (va_A (rv_W h0 b1 b2 cI cJ fl rc rl ps g t) sz) := by
  refine Met.ofW (cc := cY1_plain) (maxL := 3) (ret := none) (by decide) rfl ?_
  intro p e s m args below meth c s₁ B hml hv
  obtain ⟨rfl, hsz, hP, hK, hD0⟩ := hv
  have hx := B.exec
  have hb := B.bytes
  have hr := B.returns
  have hts := atoms_spec (ws := wsY1_plain) B.pre
  have hown : s.vm.findClass RX1 = some m.cls := findClass_of_methodNamed B.named
  have hlocks := B.notSynchronized
  subst hsz
  have hD := hD0.self (sz := s.heap.size)
  generalize hAe : va_A (rv_W h0 b1 b2 cI cJ fl rc rl ps g t) s.heap.size = A at hD ⊢
  have hA : ∀ q : Nat, s.heap.size ≤ q → A q := fun q h => by rw [← hAe]; exact Or.inr h
  have hS : va_S A s.heap s.heap [] := va_S.rf
  have hP : va_P (dC, dI) rw_cl (rv_W h0 b1 b2 cI cJ fl rc rl ps g t) s.heap := hP
  have hl := lv_entry ([.ref h0, .int (nI y), .int (nI q)]) (n := 3) (Nat.le_of_ble_eq_true rfl)
  rw [lg_entry_eq]
  generalize (lg_sl ([.ref h0, .int (nI y), .int (nI q)]) ++ List.replicate (3 - (lg_sl ([.ref h0, .int (nI y), .int (nI q)])).length) Slot.unset).toArray = ls at hl ⊢
  have hl : lv_has ls 3 [(0, .ref h0), (1, .int (nI y)), (2, .int (nI q))] := hl
  have h1 := ok.rc
  have h2 := ok.rl
  have h5 := rf_row rl hy
  have h6 := ok.2.2.1
  refine lv_aload_n hx hb dY1_plain_0 rfl (lv_at hl 0 rfl) ?_
  refine lv_iconst (v := 0) hx hb dY1_plain_1 (by decide) ?_
  refine va_put (D := (dC, dI)) (ci := 1) (v := .int 0) (ty := .int) (C := RX1) (T := TY1) (N := 6) hx hb hts (by decide +kernel) tyY1 tyY1_ok nmY1 hown hK hP hD hS 0 rfl rfl 0 (by decide) (hts (.fieldLink RX1 26 "RowFiltersModel" "failed" "I") (by decide +kernel)) (fun _ h9 => h9) rfl (by decide +kernel) rfl rfl (Nat.le_of_ble_eq_true rfl) dY1_plain_2 (fun H locs hP hD hS => ?_)
  have hP : va_P (dC, dI) rw_cl [(h0, .inr (1, [.int 0, .int (nI rc), .int (nI rl), .int (nI ps), .ref b1, .ref b2])), (b1, .inl (cI, 4096, .inl g)), (b2, .inl (cJ, 4096, .inl t))] H := hP
  have hD : va_D A [(h0, .inr (1, [.int 0, .int (nI rc), .int (nI rl), .int (nI ps), .ref b1, .ref b2])), (b1, .inl (cI, 4096, .inl g)), (b2, .inl (cJ, 4096, .inl t))] := hD
  refine lv_aload_n hx hb dY1_plain_5 rfl (lv_at hl 0 rfl) ?_
  refine lv_iload_n hx hb dY1_plain_6 rfl (lv_at hl 1 rfl) ?_
  refine lv_iload_n hx hb dY1_plain_7 rfl (lv_at hl 2 rfl) ?_
  refine vp_callSi (W.runV (C := RX1) (As := [.int (nI y), .int (nI q)]) (rest := []) ⟨hx, hb, hml, hown, hts⟩ (c_Y1_bad l dC dI cI cJ h0 b1 b2 0 rc rl ps g t (nI y) (nI q)) (cwV 2 hts gY1_plain_Y1_bad rfl rfl rfl (by decide +kernel) ⟨Nat.le_of_ble_eq_true rfl, Nat.le_of_ble_eq_true rfl⟩) ⟨fun a U g mk q => by obtain ⟨q0, qP, qK⟩ := q; exact ⟨q0, qP, va_K.moved (u := U) (U := U.calling g mk a) (Vm.Alike.refl U.vm) qK⟩, va_recv hK hP (ci := 1) (q0 := 0) rfl rfl, fun U hU hW => ⟨rfl, by rw [hU]; exact hP, va_K.moved hW.alike hK⟩⟩ rfl rfl hl.1 rfl (lv_room (Nat.le_of_ble_eq_true rfl)) dY1_plain_8 ⟨Nat.zero_le _, Nat.zero_le _⟩) (fun ro eo => ?_)
  refine lv_if_eq (tgt := 22) hx hb dY1_plain_11 (by decide) (fun q1 => ?_) (fun q1 => ?_)
  · refine lv_aload_n hx hb dY1_plain_22 rfl (lv_at hl 0 rfl) ?_
    refine lv_iload_n hx hb dY1_plain_23 rfl (lv_at hl 1 rfl) ?_
    refine lv_iload_n hx hb dY1_plain_24 rfl (lv_at hl 2 rfl) ?_
    have hFc := va_free (wc := [(h0, .inr (1, [.int 0, .int (nI rc), .int (nI rl), .int (nI ps), .ref b1, .ref b2])), (b1, .inl (cI, 4096, .inl g)), (b2, .inl (cJ, 4096, .inl t))]) hD hS hA [0, 1, 2] rfl
    refine va_callv (va_runV (C := RX1) (As := [.int (nI y), .int (nI q)]) (rest := []) ⟨hx, hb, hml, hown, hts⟩ (c_Y1_untell l dC dI cI cJ h0 b1 b2 0 rc rl ps g t H.size y q ok hy hq) (cwV 2 hts gY1_plain_Y1_untell rfl rfl rfl (by decide +kernel) ⟨Nat.le_of_ble_eq_true rfl, Nat.le_of_ble_eq_true rfl⟩) ⟨fun a U g mk q => by obtain ⟨q0, q1, qP, qK, qD⟩ := q; exact ⟨q0, q1, qP, va_K.moved (u := U) (U := U.calling g mk a) (Vm.Alike.refl U.vm) qK, qD⟩, va_recv hK hP (ci := 1) (q0 := 0) rfl rfl, fun U hU hW => ⟨rfl, by rw [hU], by rw [hU]; exact hP, va_K.moved hW.alike hK, hD.weaken (fun _ _ _ _ => trivial)⟩⟩ rfl rfl hl.1 rfl (lv_room (Nat.le_of_ble_eq_true rfl)) dY1_plain_25 ⟨Nat.zero_le _, Nat.zero_le _⟩) hS (fun q _ h => hFc q h) hFc (fun u t9 H1 locs ht hvm hw hB hz1 hk1 hS => ?_)
    obtain ⟨hP1, hK1, hD1⟩ := hB
    rw [ht] at hP1
    obtain ⟨hP, hD⟩ := va_join (wr := []) (w1 := [(h0, .inr (1, [.int 0, .int (nI rc), .int (nI rl), .int (nI ps), .ref b1, .ref b2])), (b1, .inl (cI, 4096, .inl (rf_U g rl ps y q rl))), (b2, .inl (cJ, 4096, .inl t))]) hP hD [0, 1, 2] [] rfl rfl (by decide) (by decide) hk1 hFc hP1 hD1
    generalize H1 = H at hP hS ⊢
    have hP : va_P (dC, dI) rw_cl [(h0, .inr (1, [.int 0, .int (nI rc), .int (nI rl), .int (nI ps), .ref b1, .ref b2])), (b1, .inl (cI, 4096, .inl (rf_U g rl ps y q rl))), (b2, .inl (cJ, 4096, .inl t))] H := hP
    have hD : va_D A [(h0, .inr (1, [.int 0, .int (nI rc), .int (nI rl), .int (nI ps), .ref b1, .ref b2])), (b1, .inl (cI, 4096, .inl (rf_U g rl ps y q rl))), (b2, .inl (cJ, 4096, .inl t))] := hD
    refine W.widen (k := 0) (n := 0) (Nat.le_refl _) (Nat.le_refl _) ?_
    exact W.vret hx hb hr (fun t ht hW => ⟨⟨(), rfl, trivial, by rw [ht]; exact hP, va_K.moved hW.alike hK, hD⟩, hS.F ht⟩) hS.2.2 dY1_plain_28
  · exact absurd (eo.2 (rf_bd_n h1 hy hq)) q1
set_option maxHeartbeats 4000000 in
set_option maxRecDepth 100000 in
theorem c_Y1_plain_bad (l : Launch) (dC : Nat → ClassId) (dI : Nat → Nat → Nat) (cI cJ : ClassId) (h0 b1 b2 : Nat) (fl : Int32) (rc rl ps : Nat) (g t : Nat → Int32) (sz : Nat) (y q : Int32) (hb0 : rf_bd rc y q) : Met l yY1_plain wsY1_plain ({ frames := 1, cells := 0, slots := 0, locals := 22 }) (va_Pc [.ref h0, .int y, .int q] (rv_preD dC dI cI cJ h0 b1 b2 fl rc rl ps g t sz)) (va_Qv (fun _ : Unit => True) (fun _ t9 => rv_B dC dI cI cJ h0 b1 b2 1 rc rl ps g t (va_A (rv_W h0 b1 b2 cI cJ fl rc rl ps g t) sz) t9) (va_A (rv_W h0 b1 b2 cI cJ fl rc rl ps g t) sz)) 0 0 (va_A (rv_W h0 b1 b2 cI cJ fl rc rl ps g t) sz) := by
  refine Met.ofW (cc := cY1_plain) (maxL := 3) (ret := none) (by decide) rfl ?_
  intro p e s m args below meth c s₁ B hml hv
  obtain ⟨rfl, hsz, hP, hK, hD0⟩ := hv
  have hx := B.exec
  have hb := B.bytes
  have hr := B.returns
  have hts := atoms_spec (ws := wsY1_plain) B.pre
  have hown : s.vm.findClass RX1 = some m.cls := findClass_of_methodNamed B.named
  have hlocks := B.notSynchronized
  subst hsz
  have hD := hD0.self (sz := s.heap.size)
  generalize hAe : va_A (rv_W h0 b1 b2 cI cJ fl rc rl ps g t) s.heap.size = A at hD ⊢
  have hA : ∀ q : Nat, s.heap.size ≤ q → A q := fun q h => by rw [← hAe]; exact Or.inr h
  have hS : va_S A s.heap s.heap [] := va_S.rf
  have hP : va_P (dC, dI) rw_cl (rv_W h0 b1 b2 cI cJ fl rc rl ps g t) s.heap := hP
  have hl := lv_entry ([.ref h0, .int y, .int q]) (n := 3) (Nat.le_of_ble_eq_true rfl)
  rw [lg_entry_eq]
  generalize (lg_sl ([.ref h0, .int y, .int q]) ++ List.replicate (3 - (lg_sl ([.ref h0, .int y, .int q])).length) Slot.unset).toArray = ls at hl ⊢
  have hl : lv_has ls 3 [(0, .ref h0), (1, .int y), (2, .int q)] := hl
  refine lv_aload_n hx hb dY1_plain_0 rfl (lv_at hl 0 rfl) ?_
  refine lv_iconst (v := 0) hx hb dY1_plain_1 (by decide) ?_
  refine va_put (D := (dC, dI)) (ci := 1) (v := .int 0) (ty := .int) (C := RX1) (T := TY1) (N := 6) hx hb hts (by decide +kernel) tyY1 tyY1_ok nmY1 hown hK hP hD hS 0 rfl rfl 0 (by decide) (hts (.fieldLink RX1 26 "RowFiltersModel" "failed" "I") (by decide +kernel)) (fun _ h9 => h9) rfl (by decide +kernel) rfl rfl (Nat.le_of_ble_eq_true rfl) dY1_plain_2 (fun H locs hP hD hS => ?_)
  have hP : va_P (dC, dI) rw_cl [(h0, .inr (1, [.int 0, .int (nI rc), .int (nI rl), .int (nI ps), .ref b1, .ref b2])), (b1, .inl (cI, 4096, .inl g)), (b2, .inl (cJ, 4096, .inl t))] H := hP
  have hD : va_D A [(h0, .inr (1, [.int 0, .int (nI rc), .int (nI rl), .int (nI ps), .ref b1, .ref b2])), (b1, .inl (cI, 4096, .inl g)), (b2, .inl (cJ, 4096, .inl t))] := hD
  refine lv_aload_n hx hb dY1_plain_5 rfl (lv_at hl 0 rfl) ?_
  refine lv_iload_n hx hb dY1_plain_6 rfl (lv_at hl 1 rfl) ?_
  refine lv_iload_n hx hb dY1_plain_7 rfl (lv_at hl 2 rfl) ?_
  refine vp_callSi (W.runV (C := RX1) (As := [.int y, .int q]) (rest := []) ⟨hx, hb, hml, hown, hts⟩ (c_Y1_bad l dC dI cI cJ h0 b1 b2 0 rc rl ps g t y q) (cwV 2 hts gY1_plain_Y1_bad rfl rfl rfl (by decide +kernel) ⟨Nat.le_of_ble_eq_true rfl, Nat.le_of_ble_eq_true rfl⟩) ⟨fun a U g mk q => by obtain ⟨q0, qP, qK⟩ := q; exact ⟨q0, qP, va_K.moved (u := U) (U := U.calling g mk a) (Vm.Alike.refl U.vm) qK⟩, va_recv hK hP (ci := 1) (q0 := 0) rfl rfl, fun U hU hW => ⟨rfl, by rw [hU]; exact hP, va_K.moved hW.alike hK⟩⟩ rfl rfl hl.1 rfl (lv_room (Nat.le_of_ble_eq_true rfl)) dY1_plain_8 ⟨Nat.zero_le _, Nat.zero_le _⟩) (fun ro eo => ?_)
  refine lv_if_eq (tgt := 22) hx hb dY1_plain_11 (by decide) (fun q1 => ?_) (fun q1 => ?_)
  · exact absurd ((eo.1 hb0).symm.trans q1) (by decide)
  · refine lv_aload_n hx hb dY1_plain_14 rfl (lv_at hl 0 rfl) ?_
    refine lv_iconst (v := 1) hx hb dY1_plain_15 (by decide) ?_
    refine va_put (D := (dC, dI)) (ci := 1) (v := .int 1) (ty := .int) (C := RX1) (T := TY1) (N := 6) hx hb hts (by decide +kernel) tyY1 tyY1_ok nmY1 hown hK hP hD hS 0 rfl rfl 0 (by decide) (hts (.fieldLink RX1 26 "RowFiltersModel" "failed" "I") (by decide +kernel)) (fun _ h9 => h9) rfl (by decide +kernel) rfl rfl (Nat.le_of_ble_eq_true rfl) dY1_plain_16 (fun H locs hP hD hS => ?_)
    have hP : va_P (dC, dI) rw_cl [(h0, .inr (1, [.int 1, .int (nI rc), .int (nI rl), .int (nI ps), .ref b1, .ref b2])), (b1, .inl (cI, 4096, .inl g)), (b2, .inl (cJ, 4096, .inl t))] H := hP
    have hD : va_D A [(h0, .inr (1, [.int 1, .int (nI rc), .int (nI rl), .int (nI ps), .ref b1, .ref b2])), (b1, .inl (cI, 4096, .inl g)), (b2, .inl (cJ, 4096, .inl t))] := hD
    refine lv_goto (tgt := 28) hx hb dY1_plain_19 (by decide) ?_
    exact W.vret hx hb hr (fun t ht hW => ⟨⟨(), rfl, trivial, by rw [ht]; exact hP, va_K.moved hW.alike hK, hD⟩, hS.F ht⟩) hS.2.2 dY1_plain_28
