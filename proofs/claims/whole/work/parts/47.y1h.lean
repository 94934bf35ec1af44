set_option maxHeartbeats 4000000 in
set_option maxRecDepth 100000 in
theorem c_Y1_best (l : Launch) (dC : Nat → ClassId) (dI : Nat → Nat → Nat) (cI cJ : ClassId) (h0 b1 b2 : Nat) (fl : Int32) (rc rl ps : Nat) (g t : Nat → Int32) (sz : Nat) (ok : rf_ok rc rl ps) : Met l yY1_best wsY1_best ({ frames := 3, cells := 0, slots := 0, locals := 77 }) (va_Pc [.ref h0] (rv_preD dC dI cI cJ h0 b1 b2 fl rc rl ps g t sz)) (va_Qi (fun (r : Int32) (_ : Unit) => r = rf_v (fun y => rf_q g rl ps y) rc) (fun _ t9 => rv_B dC dI cI cJ h0 b1 b2 0 rc rl ps (rf_p g (rf_bv g rl ps) 0 (rc * rl)) (rf_p t (rf_bv g rl ps) 0 (rc * rl)) (va_A (rv_W h0 b1 b2 cI cJ fl rc rl ps g t) sz) t9) (va_A (rv_W h0 b1 b2 cI cJ fl rc rl ps g t) sz)) 0 0 (va_A (rv_W h0 b1 b2 cI cJ fl rc rl ps g t) sz) := by
  refine Met.ofW (cc := cY1_best) (maxL := 7) (ret := (some .int)) (by decide) rfl ?_
  intro p e s m args below meth c s₁ B hml hv
  obtain ⟨rfl, hsz, hP, hK, hD0⟩ := hv
  have hx := B.exec
  have hb := B.bytes
  have hr := B.returns
  have hts := atoms_spec (ws := wsY1_best) B.pre
  have hown : s.vm.findClass RX1 = some m.cls := findClass_of_methodNamed B.named
  have hlocks := B.notSynchronized
  subst hsz
  have hD := hD0.self (sz := s.heap.size)
  generalize hAe : va_A (rv_W h0 b1 b2 cI cJ fl rc rl ps g t) s.heap.size = A at hD ⊢
  have hA : ∀ q : Nat, s.heap.size ≤ q → A q := fun q h => by rw [← hAe]; exact Or.inr h
  have hS : va_S A s.heap s.heap [] := va_S.rf
  have hP : va_P (dC, dI) rw_cl (rv_W h0 b1 b2 cI cJ fl rc rl ps g t) s.heap := hP
  have hl := lv_entry ([.ref h0]) (n := 7) (Nat.le_of_ble_eq_true rfl)
  rw [lg_entry_eq]
  generalize (lg_sl ([.ref h0]) ++ List.replicate (7 - (lg_sl ([.ref h0])).length) Slot.unset).toArray = ls at hl ⊢
  have hl : lv_has ls 7 [(0, .ref h0)] := hl
  have h1 := ok.rc
  have h2 := ok.rl
  have h6 := ok.2.2.1
  refine lv_aload_n hx hb dY1_best_0 rfl (lv_at hl 0 rfl) ?_
  refine lv_iconst (v := 0) hx hb dY1_best_1 (by decide) ?_
  refine va_put (D := (dC, dI)) (ci := 1) (v := .int 0) (ty := .int) (C := RX1) (T := TY1) (N := 6) hx hb hts (by decide +kernel) tyY1 tyY1_ok nmY1 hown hK hP hD hS 0 rfl rfl 0 (by decide) (hts (.fieldLink RX1 26 "RowFiltersModel" "failed" "I") (by decide +kernel)) (fun _ h9 => h9) rfl (by decide +kernel) rfl rfl (Nat.le_of_ble_eq_true rfl) dY1_best_2 (fun H locs hP hD hS => ?_)
  have hP : va_P (dC, dI) rw_cl [(h0, .inr (1, [.int 0, .int (nI rc), .int (nI rl), .int (nI ps), .ref b1, .ref b2])), (b1, .inl (cI, 4096, .inl g)), (b2, .inl (cJ, 4096, .inl t))] H := hP
  have hD : va_D A [(h0, .inr (1, [.int 0, .int (nI rc), .int (nI rl), .int (nI ps), .ref b1, .ref b2])), (b1, .inl (cI, 4096, .inl g)), (b2, .inl (cJ, 4096, .inl t))] := hD
  refine lv_iconst (v := 1) hx hb dY1_best_5 (by decide) ?_
  refine lv_istore_n hx hb dY1_best_6 rfl hl (by decide) rfl (fun ls hl => ?_)
  have hl : lv_has ls 7 [(1, .int 1), (0, .ref h0)] := hl
  refine lv_iconst (v := 0) hx hb dY1_best_7 (by decide) ?_
  refine lv_istore_n hx hb dY1_best_8 rfl hl (by decide) rfl (fun ls hl => ?_)
  have hl : lv_has ls 7 [(2, .int 0), (1, .int 1), (0, .ref h0)] := hl
  have e0 : t = (rf_p t (rf_bv g rl ps) 0 ((0) * rl)) := by rw [Nat.zero_mul, rf_p_nil]
  rw [e0] at hP hD
  refine rw_loopH (fun y : Nat => rc - y) (fun y ls H locs => (y ≤ rc) ∧ lv_has ls 7 [(0, .ref h0), (1, .int (rf_v (fun y => rf_q g rl ps y) y)), (2, .int (nI y))] ∧ va_P (dC, dI) rw_cl [(h0, .inr (1, [.int 0, .int (nI rc), .int (nI rl), .int (nI ps), .ref b1, .ref b2])), (b1, .inl (cI, 4096, .inl g)), (b2, .inl (cJ, 4096, .inl (rf_p t (rf_bv g rl ps) 0 (y * rl))))] H ∧ va_D A [(h0, .inr (1, [.int 0, .int (nI rc), .int (nI rl), .int (nI ps), .ref b1, .ref b2])), (b1, .inl (cI, 4096, .inl g)), (b2, .inl (cJ, 4096, .inl (rf_p t (rf_bv g rl ps) 0 (y * rl))))] ∧ va_S A s.heap H locs) ?_ (0) ⟨Nat.zero_le _, lv_sub hl [2, 1, 0] rfl, hP, hD, hS⟩
  intro y ls H locs hI ih1
  obtain ⟨hj1, hl, hP, hD, hS⟩ := hI
  refine lv_iload_n hx hb dY1_best_9 rfl (lv_at hl 2 rfl) ?_
  refine lv_aload_n hx hb dY1_best_10 rfl (lv_at hl 0 rfl) ?_
  refine va_get (D := (dC, dI)) (ci := 1) (v := .int (nI rc)) (C := RX1) (T := TY1) (N := 6) hx hb hts (by decide +kernel) hown hK hP 0 rfl rfl 1 (by decide) (hts (.fieldLink RX1 7 "RowFiltersModel" "height" "I") (by decide +kernel)) (fun _ h9 => h9) rfl dY1_best_11 ?_
  refine lv_icmp_ge (tgt := 88) hx hb dY1_best_14 (by decide) (fun hc => ?_) (fun hc => ?_)
  · have hi : y = rc := by have := (nI_leI (by omega) (by omega)).mp hc; omega
    rw [hi] at hP hD hl
    have hl : lv_has ls 7 [(0, .ref h0), (1, .int (rf_v (fun y => rf_q g rl ps y) rc)), (2, .int (nI rc))] := hl
    refine lv_iconst (v := 0) hx hb dY1_best_88 (by decide) ?_
    refine lv_istore_n hx hb dY1_best_89 rfl hl (by decide) rfl (fun ls hl => ?_)
    have hl : lv_has ls 7 [(2, .int 0), (0, .ref h0), (1, .int (rf_v (fun y => rf_q g rl ps y) rc))] := hl
    have e0 : g = (rf_p g (rf_p t (rf_bv g rl ps) 0 (rc * rl)) 0 (0)) := (rf_p_nil _ _ _).symm
    have hP : va_P (dC, dI) rw_cl [(h0, .inr (1, [.int 0, .int (nI rc), .int (nI rl), .int (nI ps), .ref b1, .ref b2])), (b1, .inl (cI, 4096, .inl (rf_p g (rf_p t (rf_bv g rl ps) 0 (rc * rl)) 0 (0)))), (b2, .inl (cJ, 4096, .inl (rf_p t (rf_bv g rl ps) 0 (rc * rl))))] H := by rw [← e0]; exact hP
    have hD : va_D A [(h0, .inr (1, [.int 0, .int (nI rc), .int (nI rl), .int (nI ps), .ref b1, .ref b2])), (b1, .inl (cI, 4096, .inl (rf_p g (rf_p t (rf_bv g rl ps) 0 (rc * rl)) 0 (0)))), (b2, .inl (cJ, 4096, .inl (rf_p t (rf_bv g rl ps) 0 (rc * rl))))] := by rw [← e0]; exact hD
    refine rw_loopH (fun k : Nat => rc * rl - k) (fun k ls H locs => (k ≤ rc * rl) ∧ lv_has ls 7 [(0, .ref h0), (1, .int (rf_v (fun y => rf_q g rl ps y) rc)), (2, .int (nI k))] ∧ va_P (dC, dI) rw_cl [(h0, .inr (1, [.int 0, .int (nI rc), .int (nI rl), .int (nI ps), .ref b1, .ref b2])), (b1, .inl (cI, 4096, .inl (rf_p g (rf_p t (rf_bv g rl ps) 0 (rc * rl)) 0 k))), (b2, .inl (cJ, 4096, .inl (rf_p t (rf_bv g rl ps) 0 (rc * rl))))] H ∧ va_D A [(h0, .inr (1, [.int 0, .int (nI rc), .int (nI rl), .int (nI ps), .ref b1, .ref b2])), (b1, .inl (cI, 4096, .inl (rf_p g (rf_p t (rf_bv g rl ps) 0 (rc * rl)) 0 k))), (b2, .inl (cJ, 4096, .inl (rf_p t (rf_bv g rl ps) 0 (rc * rl))))] ∧ va_S A s.heap H locs) ?_ (0) ⟨Nat.zero_le _, lv_sub hl [1, 2, 0] rfl, hP, hD, hS⟩
    intro k ls H locs hI ih
    obtain ⟨hj, hl, hP, hD, hS⟩ := hI
    refine lv_iload_n hx hb dY1_best_90 rfl (lv_at hl 2 rfl) ?_
    refine lv_aload_n hx hb dY1_best_91 rfl (lv_at hl 0 rfl) ?_
    refine va_get (D := (dC, dI)) (ci := 1) (v := .int (nI rc)) (C := RX1) (T := TY1) (N := 6) hx hb hts (by decide +kernel) hown hK hP 0 rfl rfl 1 (by decide) (hts (.fieldLink RX1 7 "RowFiltersModel" "height" "I") (by decide +kernel)) (fun _ h9 => h9) rfl dY1_best_92 ?_
    refine lv_aload_n hx hb dY1_best_95 rfl (lv_at hl 0 rfl) ?_
    refine va_get (D := (dC, dI)) (ci := 1) (v := .int (nI rl)) (C := RX1) (T := TY1) (N := 6) hx hb hts (by decide +kernel) hown hK hP 0 rfl rfl 2 (by decide) (hts (.fieldLink RX1 13 "RowFiltersModel" "width" "I") (by decide +kernel)) (fun _ h9 => h9) rfl dY1_best_96 ?_
    refine lv_imul hx hb dY1_best_99 ?_
    refine W.eq (g2 := F0 m 100 ls [.int (nI (rc * rl)), .int (nI k)]) (congrArg (fun z9 => F0 m 100 ls [.int z9, .int (nI k)]) (show ((nI rc) * (nI rl)) = nI (rc * rl) from rf_mul rc rl)) ?_
    refine lv_icmp_ge (tgt := 121) hx hb dY1_best_100 (by decide) (fun hk => ?_) (fun hk => ?_)
    · have hi : k = rc * rl := by have := (nI_leI (by omega) (by omega)).mp hk; omega
      rw [hi, rf_p_p] at hP hD
      refine lv_iload_n hx hb dY1_best_121 rfl (lv_at hl 1 rfl) ?_
      exact W.iret (v := (rf_v (fun y => rf_q g rl ps y) rc)) hx hb hr (fun t ht hW => ⟨⟨(rf_v (fun y => rf_q g rl ps y) rc), (), rfl, rfl, by rw [ht]; exact hP, va_K.moved hW.alike hK, hD⟩, hS.F ht⟩) hS.2.2 dY1_best_122
    · have hi : k < rc * rl := Nat.lt_of_not_le (fun q => hk ((nI_leI (by omega) (by omega)).mpr q))
      refine lv_aload_n hx hb dY1_best_103 rfl (lv_at hl 0 rfl) ?_
      refine va_get (D := (dC, dI)) (ci := 1) (v := .ref b1) (C := RX1) (T := TY1) (N := 6) hx hb hts (by decide +kernel) hown hK hP 0 rfl rfl 4 (by decide) (hts (.fieldLink RX1 19 "RowFiltersModel" "bytes" "[I") (by decide +kernel)) (fun _ h9 => h9) rfl dY1_best_104 ?_
      refine lv_iload_n hx hb dY1_best_107 rfl (lv_at hl 2 rfl) ?_
      refine lv_aload_n hx hb dY1_best_108 rfl (lv_at hl 0 rfl) ?_
      refine va_get (D := (dC, dI)) (ci := 1) (v := .ref b2) (C := RX1) (T := TY1) (N := 6) hx hb hts (by decide +kernel) hown hK hP 0 rfl rfl 5 (by decide) (hts (.fieldLink RX1 23 "RowFiltersModel" "told" "[I") (by decide +kernel)) (fun _ h9 => h9) rfl dY1_best_109 ?_
      refine lv_iload_n hx hb dY1_best_112 rfl (lv_at hl 2 rfl) ?_
      refine va_iald hx hb hK hP 2 1 rfl rfl (vp_in_nI (by omega) (by omega)) dY1_best_113 ?_
      refine lv_topi (fun v ev => ?_)
      rw [nI_clamp (by omega)] at ev
      refine va_iast hx hb hK hP hD hS 1 0 rfl rfl (vp_in_nI (by omega) (by omega)) dY1_best_114 (fun H locs hP hD hS => ?_)
      have hP : va_P (dC, dI) rw_cl [(h0, .inr (1, [.int 0, .int (nI rc), .int (nI rl), .int (nI ps), .ref b1, .ref b2])), (b1, .inl (cI, 4096, .inl (upd (rf_p g (rf_p t (rf_bv g rl ps) 0 (rc * rl)) 0 k) (nI k).toNatClampNeg v))), (b2, .inl (cJ, 4096, .inl (rf_p t (rf_bv g rl ps) 0 (rc * rl))))] H := hP
      have hD : va_D A [(h0, .inr (1, [.int 0, .int (nI rc), .int (nI rl), .int (nI ps), .ref b1, .ref b2])), (b1, .inl (cI, 4096, .inl (upd (rf_p g (rf_p t (rf_bv g rl ps) 0 (rc * rl)) 0 k) (nI k).toNatClampNeg v))), (b2, .inl (cJ, 4096, .inl (rf_p t (rf_bv g rl ps) 0 (rc * rl))))] := hD
      refine lv_iinc (k := 2) (v := (nI (k + 1))) hx hb dY1_best_115 hl rfl (rf_inc k) (by decide) rfl (fun ls hl => ?_)
      have hl : lv_has ls 7 [(2, .int (nI (k + 1))), (0, .ref h0), (1, .int (rf_v (fun y => rf_q g rl ps y) rc))] := hl
      refine lv_goto (tgt := 90) hx hb dY1_best_118 (by decide) ?_
      have e9 : (upd (rf_p g (rf_p t (rf_bv g rl ps) 0 (rc * rl)) 0 k) (nI k).toNatClampNeg v) = (rf_p g (rf_p t (rf_bv g rl ps) 0 (rc * rl)) 0 (k + 1)) := by rw [nI_clamp (by omega)]; exact rf_p_up (by omega) ev
      rw [e9] at hP hD
      exact ih (k + 1) _ _ _ (by show rc * rl - (k + 1) < rc * rl - k; omega) ⟨by omega, lv_sub hl [1, 2, 0] rfl, hP, hD, hS⟩
  · have hy : y < rc := Nat.lt_of_not_le (fun q => hc ((nI_leI (by omega) (by omega)).mpr q))
    refine lv_iconst (v := 0) hx hb dY1_best_17 (by decide) ?_
    refine lv_istore_n hx hb dY1_best_18 rfl hl (by decide) rfl (fun ls hl => ?_)
    have hl : lv_has ls 7 [(3, .int 0), (0, .ref h0), (1, .int (rf_v (fun y => rf_q g rl ps y) y)), (2, .int (nI y))] := hl
    refine lv_aload_n hx hb dY1_best_19 rfl (lv_at hl 1 rfl) ?_
    refine lv_iload_n hx hb dY1_best_20 rfl (lv_at hl 3 rfl) ?_
    refine lv_iconst (v := 0) hx hb dY1_best_21 (by decide) ?_
    have hFc := va_free (wc := [(h0, .inr (1, [.int 0, .int (nI rc), .int (nI rl), .int (nI ps), .ref b1, .ref b2])), (b1, .inl (cI, 4096, .inl g)), (b2, .inl (cJ, 4096, .inl (rf_p t (rf_bv g rl ps) 0 (y * rl))))]) hD hS hA [0, 1, 2] rfl
    refine va_calli (va_runV (C := RX1) (As := [.int (nI y), .int 0]) (rest := []) ⟨hx, hb, hml, hown, hts⟩ (c_Y1_tell l dC dI cI cJ h0 b1 b2 0 rc rl ps g (rf_p t (rf_bv g rl ps) 0 (y * rl)) H.size y 0 ok hy (by omega)) (cwV 2 hts gY1_best_Y1_tell rfl rfl rfl (by decide +kernel) ⟨Nat.le_of_ble_eq_true rfl, Nat.le_of_ble_eq_true rfl⟩) ⟨fun a U g mk q => by obtain ⟨q0, q1, qP, qK, qD⟩ := q; exact ⟨q0, q1, qP, va_K.moved (u := U) (U := U.calling g mk a) (Vm.Alike.refl U.vm) qK, qD⟩, va_recv hK hP (ci := 1) (q0 := 0) rfl rfl, fun U hU hW => ⟨rfl, by rw [hU], by rw [hU]; exact hP, va_K.moved hW.alike hK, hD.weaken (fun _ _ _ _ => trivial)⟩⟩ rfl rfl hl.1 rfl (lv_room (Nat.le_of_ble_eq_true rfl)) dY1_best_22 ⟨Nat.zero_le _, Nat.zero_le _⟩) hS (fun q _ h => hFc q h) hFc (fun s0 u t9 H1 locs ht hvm es hB hz1 hk1 hS => ?_)
    obtain ⟨hP1, hK1, hD1⟩ := hB
    rw [ht] at hP1
    obtain ⟨hP, hD⟩ := va_join (wr := []) (w1 := [(h0, .inr (1, [.int 0, .int (nI rc), .int (nI rl), .int (nI ps), .ref b1, .ref b2])), (b1, .inl (cI, 4096, .inl g)), (b2, .inl (cJ, 4096, .inl (rf_p (rf_p t (rf_bv g rl ps) 0 (y * rl)) (rf_tv g rl ps y 0) (y * rl) (y * rl + rl))))]) hP hD [0, 1, 2] [] rfl rfl (by decide) (by decide) hk1 hFc hP1 hD1
    generalize H1 = H at hP hS ⊢
    have hP : va_P (dC, dI) rw_cl [(h0, .inr (1, [.int 0, .int (nI rc), .int (nI rl), .int (nI ps), .ref b1, .ref b2])), (b1, .inl (cI, 4096, .inl g)), (b2, .inl (cJ, 4096, .inl (rf_p (rf_p t (rf_bv g rl ps) 0 (y * rl)) (rf_tv g rl ps y 0) (y * rl) (y * rl + rl))))] H := hP
    have hD : va_D A [(h0, .inr (1, [.int 0, .int (nI rc), .int (nI rl), .int (nI ps), .ref b1, .ref b2])), (b1, .inl (cI, 4096, .inl g)), (b2, .inl (cJ, 4096, .inl (rf_p (rf_p t (rf_bv g rl ps) 0 (y * rl)) (rf_tv g rl ps y 0) (y * rl) (y * rl + rl))))] := hD
    refine W.widen (k := 0) (n := 0) (Nat.le_refl _) (Nat.le_refl _) ?_
    subst es
    refine lv_istore hx hb dY1_best_25 hl (by decide) rfl (fun ls hl => ?_)
    have hl : lv_has ls 7 [(4, .int (rf_s g rl ps y 0 rl)), (3, .int 0), (0, .ref h0), (1, .int (rf_v (fun y => rf_q g rl ps y) y)), (2, .int (nI y))] := hl
    refine lv_iconst (v := 1) hx hb dY1_best_27 (by decide) ?_
    refine lv_istore hx hb dY1_best_28 hl (by decide) rfl (fun ls hl => ?_)
    have hl : lv_has ls 7 [(5, .int 1), (4, .int (rf_s g rl ps y 0 rl)), (3, .int 0), (0, .ref h0), (1, .int (rf_v (fun y => rf_q g rl ps y) y)), (2, .int (nI y))] := hl
    have e0 : (rf_p (rf_p t (rf_bv g rl ps) 0 (y * rl)) (rf_tv g rl ps y 0) (y * rl) (y * rl + rl)) = (rf_p (rf_p t (rf_bv g rl ps) 0 (y * rl)) (rf_tv g rl ps y (0)) (y * rl) (y * rl + rl)) := rfl
    rw [e0] at hP hD
    refine rw_loopH (fun j : Nat => 4 - j) (fun j ls H locs => (j ≤ 4) ∧ lv_has ls 7 [(0, .ref h0), (1, .int (rf_v (fun y => rf_q g rl ps y) y)), (2, .int (nI y)), (3, .int (nI (rf_l (fun q => rf_s g rl ps y q rl) j).1)), (4, .int ((rf_l (fun q => rf_s g rl ps y q rl) j).2)), (5, .int (nI (j + 1)))] ∧ va_P (dC, dI) rw_cl [(h0, .inr (1, [.int 0, .int (nI rc), .int (nI rl), .int (nI ps), .ref b1, .ref b2])), (b1, .inl (cI, 4096, .inl g)), (b2, .inl (cJ, 4096, .inl (rf_p (rf_p t (rf_bv g rl ps) 0 (y * rl)) (rf_tv g rl ps y j) (y * rl) (y * rl + rl))))] H ∧ va_D A [(h0, .inr (1, [.int 0, .int (nI rc), .int (nI rl), .int (nI ps), .ref b1, .ref b2])), (b1, .inl (cI, 4096, .inl g)), (b2, .inl (cJ, 4096, .inl (rf_p (rf_p t (rf_bv g rl ps) 0 (y * rl)) (rf_tv g rl ps y j) (y * rl) (y * rl + rl))))] ∧ va_S A s.heap H locs) ?_ (0) ⟨Nat.zero_le _, lv_sub hl [3, 4, 5, 2, 1, 0] rfl, hP, hD, hS⟩
    intro j ls H locs hI ih
    obtain ⟨hj, hl, hP, hD, hS⟩ := hI
    refine lv_iload hx hb dY1_best_30 (lv_at hl 5 rfl) ?_
    refine lv_iconst (v := 5) hx hb dY1_best_32 (by decide) ?_
    refine lv_icmp_ge (tgt := 68) hx hb dY1_best_33 (by decide) (fun hc2 => ?_) (fun hc2 => ?_)
    · have hi : j = 4 := by have := (nI_leI (a := 5) (by omega) (by omega)).mp hc2; omega
      rw [hi] at hl hP hD
      have hl : lv_has ls 7 [(0, .ref h0), (1, .int (rf_v (fun y => rf_q g rl ps y) y)), (2, .int (nI y)), (3, .int (nI (rf_q g rl ps y))), (4, .int ((rf_l (fun q => rf_s g rl ps y q rl) 4).2)), (5, .int (nI (4 + 1)))] := hl
      refine lv_aload_n hx hb dY1_best_68 rfl (lv_at hl 0 rfl) ?_
      refine lv_iload_n hx hb dY1_best_69 rfl (lv_at hl 2 rfl) ?_
      refine lv_iload_n hx hb dY1_best_70 rfl (lv_at hl 3 rfl) ?_
      have hFc := va_free (wc := [(h0, .inr (1, [.int 0, .int (nI rc), .int (nI rl), .int (nI ps), .ref b1, .ref b2])), (b1, .inl (cI, 4096, .inl g)), (b2, .inl (cJ, 4096, .inl (rf_p (rf_p t (rf_bv g rl ps) 0 (y * rl)) (rf_tv g rl ps y 4) (y * rl) (y * rl + rl))))]) hD hS hA [0, 1, 2] rfl
      refine va_calli (va_runV (C := RX1) (As := [.int (nI y), .int (nI (rf_q g rl ps y))]) (rest := []) ⟨hx, hb, hml, hown, hts⟩ (c_Y1_tell l dC dI cI cJ h0 b1 b2 0 rc rl ps g (rf_p (rf_p t (rf_bv g rl ps) 0 (y * rl)) (rf_tv g rl ps y 4) (y * rl) (y * rl + rl)) H.size y (rf_q g rl ps y) ok hy (rf_q_le _ _ _ _)) (cwV 2 hts gY1_best_Y1_tell rfl rfl rfl (by decide +kernel) ⟨Nat.le_of_ble_eq_true rfl, Nat.le_of_ble_eq_true rfl⟩) ⟨fun a U g mk q => by obtain ⟨q0, q1, qP, qK, qD⟩ := q; exact ⟨q0, q1, qP, va_K.moved (u := U) (U := U.calling g mk a) (Vm.Alike.refl U.vm) qK, qD⟩, va_recv hK hP (ci := 1) (q0 := 0) rfl rfl, fun U hU hW => ⟨rfl, by rw [hU], by rw [hU]; exact hP, va_K.moved hW.alike hK, hD.weaken (fun _ _ _ _ => trivial)⟩⟩ rfl rfl hl.1 rfl (lv_room (Nat.le_of_ble_eq_true rfl)) dY1_best_71 ⟨Nat.zero_le _, Nat.zero_le _⟩) hS (fun q _ h => hFc q h) hFc (fun s2 u t9 H1 locs ht hvm es2 hB hz1 hk1 hS => ?_)
      obtain ⟨hP1, hK1, hD1⟩ := hB
      rw [ht] at hP1
      obtain ⟨hP, hD⟩ := va_join (wr := []) (w1 := [(h0, .inr (1, [.int 0, .int (nI rc), .int (nI rl), .int (nI ps), .ref b1, .ref b2])), (b1, .inl (cI, 4096, .inl g)), (b2, .inl (cJ, 4096, .inl (rf_p (rf_p (rf_p t (rf_bv g rl ps) 0 (y * rl)) (rf_tv g rl ps y 4) (y * rl) (y * rl + rl)) (rf_tv g rl ps y (rf_q g rl ps y)) (y * rl) (y * rl + rl))))]) hP hD [0, 1, 2] [] rfl rfl (by decide) (by decide) hk1 hFc hP1 hD1
      generalize H1 = H at hP hS ⊢
      have hP : va_P (dC, dI) rw_cl [(h0, .inr (1, [.int 0, .int (nI rc), .int (nI rl), .int (nI ps), .ref b1, .ref b2])), (b1, .inl (cI, 4096, .inl g)), (b2, .inl (cJ, 4096, .inl (rf_p (rf_p (rf_p t (rf_bv g rl ps) 0 (y * rl)) (rf_tv g rl ps y 4) (y * rl) (y * rl + rl)) (rf_tv g rl ps y (rf_q g rl ps y)) (y * rl) (y * rl + rl))))] H := hP
      have hD : va_D A [(h0, .inr (1, [.int 0, .int (nI rc), .int (nI rl), .int (nI ps), .ref b1, .ref b2])), (b1, .inl (cI, 4096, .inl g)), (b2, .inl (cJ, 4096, .inl (rf_p (rf_p (rf_p t (rf_bv g rl ps) 0 (y * rl)) (rf_tv g rl ps y 4) (y * rl) (y * rl + rl)) (rf_tv g rl ps y (rf_q g rl ps y)) (y * rl) (y * rl + rl))))] := hD
      refine W.widen (k := 0) (n := 0) (Nat.le_refl _) (Nat.le_refl _) ?_
      refine lv_istore hx hb dY1_best_74 hl (by decide) rfl (fun ls hl => ?_)
      have hl : lv_has ls 7 [(4, .int s2), (0, .ref h0), (1, .int (rf_v (fun y => rf_q g rl ps y) y)), (2, .int (nI y)), (3, .int (nI (rf_q g rl ps y))), (5, .int (nI (4 + 1)))] := hl
      refine lv_iconst (v := 5) hx hb dY1_best_76 (by decide) ?_
      refine lv_iload_n hx hb dY1_best_77 rfl (lv_at hl 2 rfl) ?_
      refine lv_imul hx hb dY1_best_78 ?_
      refine lv_iload_n hx hb dY1_best_79 rfl (lv_at hl 4 rfl) ?_
      refine lv_iadd hx hb dY1_best_80 ?_
      refine lv_istore_n hx hb dY1_best_81 rfl hl (by decide) rfl (fun ls hl => ?_)
      have hl : lv_has ls 7 [(1, .int ((5 * (rf_v (fun y => rf_q g rl ps y) y)) + (nI (rf_q g rl ps y)))), (4, .int s2), (0, .ref h0), (2, .int (nI y)), (3, .int (nI (rf_q g rl ps y))), (5, .int (nI (4 + 1)))] := hl
      refine lv_iinc (k := 3) (v := (nI (y + 1))) hx hb dY1_best_82 hl rfl (rf_inc y) (by decide) rfl (fun ls hl => ?_)
      have hl : lv_has ls 7 [(2, .int (nI (y + 1))), (1, .int ((5 * (rf_v (fun y => rf_q g rl ps y) y)) + (nI (rf_q g rl ps y)))), (4, .int s2), (0, .ref h0), (3, .int (nI (rf_q g rl ps y))), (5, .int (nI (4 + 1)))] := hl
      refine lv_goto (tgt := 9) hx hb dY1_best_85 (by decide) ?_
      have e9 : rf_v (fun y => rf_q g rl ps y) (y + 1) = (5 * rf_v (fun y => rf_q g rl ps y) y + nI (rf_q g rl ps y)) := rfl
      rw [← e9] at hl
      have e9 : (rf_p (rf_p (rf_p t (rf_bv g rl ps) 0 (y * rl)) (rf_tv g rl ps y 4) (y * rl) (y * rl + rl)) (rf_tv g rl ps y (rf_q g rl ps y)) (y * rl) (y * rl + rl)) = (rf_p t (rf_bv g rl ps) 0 ((y + 1) * rl)) := by rw [rf_p_over]; exact rf_best_up _ _ _ _ _
      rw [e9] at hP hD
      exact ih1 (y + 1) _ _ _ (by show rc - (y + 1) < rc - y; omega) ⟨by omega, lv_sub hl [3, 1, 0] rfl, hP, hD, hS⟩
    · have hi : j < 4 := Nat.lt_of_not_le (fun q => hc2 ((nI_leI (a := 5) (by omega) (by omega)).mpr (by omega)))
      refine lv_aload_n hx hb dY1_best_36 rfl (lv_at hl 0 rfl) ?_
      refine lv_iload_n hx hb dY1_best_37 rfl (lv_at hl 2 rfl) ?_
      refine lv_iload hx hb dY1_best_38 (lv_at hl 5 rfl) ?_
      have hFc := va_free (wc := [(h0, .inr (1, [.int 0, .int (nI rc), .int (nI rl), .int (nI ps), .ref b1, .ref b2])), (b1, .inl (cI, 4096, .inl g)), (b2, .inl (cJ, 4096, .inl (rf_p (rf_p t (rf_bv g rl ps) 0 (y * rl)) (rf_tv g rl ps y j) (y * rl) (y * rl + rl))))]) hD hS hA [0, 1, 2] rfl
      refine va_calli (va_runV (C := RX1) (As := [.int (nI y), .int (nI (j + 1))]) (rest := []) ⟨hx, hb, hml, hown, hts⟩ (c_Y1_tell l dC dI cI cJ h0 b1 b2 0 rc rl ps g (rf_p (rf_p t (rf_bv g rl ps) 0 (y * rl)) (rf_tv g rl ps y j) (y * rl) (y * rl + rl)) H.size y (j + 1) ok hy (by omega)) (cwV 2 hts gY1_best_Y1_tell rfl rfl rfl (by decide +kernel) ⟨Nat.le_of_ble_eq_true rfl, Nat.le_of_ble_eq_true rfl⟩) ⟨fun a U g mk q => by obtain ⟨q0, q1, qP, qK, qD⟩ := q; exact ⟨q0, q1, qP, va_K.moved (u := U) (U := U.calling g mk a) (Vm.Alike.refl U.vm) qK, qD⟩, va_recv hK hP (ci := 1) (q0 := 0) rfl rfl, fun U hU hW => ⟨rfl, by rw [hU], by rw [hU]; exact hP, va_K.moved hW.alike hK, hD.weaken (fun _ _ _ _ => trivial)⟩⟩ rfl rfl hl.1 rfl (lv_room (Nat.le_of_ble_eq_true rfl)) dY1_best_40 ⟨Nat.zero_le _, Nat.zero_le _⟩) hS (fun q _ h => hFc q h) hFc (fun s1 u t9 H1 locs ht hvm es hB hz1 hk1 hS => ?_)
      obtain ⟨hP1, hK1, hD1⟩ := hB
      rw [ht] at hP1
      obtain ⟨hP, hD⟩ := va_join (wr := []) (w1 := [(h0, .inr (1, [.int 0, .int (nI rc), .int (nI rl), .int (nI ps), .ref b1, .ref b2])), (b1, .inl (cI, 4096, .inl g)), (b2, .inl (cJ, 4096, .inl (rf_p (rf_p (rf_p t (rf_bv g rl ps) 0 (y * rl)) (rf_tv g rl ps y j) (y * rl) (y * rl + rl)) (rf_tv g rl ps y (j + 1)) (y * rl) (y * rl + rl))))]) hP hD [0, 1, 2] [] rfl rfl (by decide) (by decide) hk1 hFc hP1 hD1
      generalize H1 = H at hP hS ⊢
      have hP : va_P (dC, dI) rw_cl [(h0, .inr (1, [.int 0, .int (nI rc), .int (nI rl), .int (nI ps), .ref b1, .ref b2])), (b1, .inl (cI, 4096, .inl g)), (b2, .inl (cJ, 4096, .inl (rf_p (rf_p (rf_p t (rf_bv g rl ps) 0 (y * rl)) (rf_tv g rl ps y j) (y * rl) (y * rl + rl)) (rf_tv g rl ps y (j + 1)) (y * rl) (y * rl + rl))))] H := hP
      have hD : va_D A [(h0, .inr (1, [.int 0, .int (nI rc), .int (nI rl), .int (nI ps), .ref b1, .ref b2])), (b1, .inl (cI, 4096, .inl g)), (b2, .inl (cJ, 4096, .inl (rf_p (rf_p (rf_p t (rf_bv g rl ps) 0 (y * rl)) (rf_tv g rl ps y j) (y * rl) (y * rl + rl)) (rf_tv g rl ps y (j + 1)) (y * rl) (y * rl + rl))))] := hD
      refine W.widen (k := 0) (n := 0) (Nat.le_refl _) (Nat.le_refl _) ?_
      rw [rf_p_over] at hP hD
      refine lv_istore hx hb dY1_best_43 hl (by decide) rfl (fun ls hl => ?_)
      have hl : lv_has ls 7 [(6, .int s1), (0, .ref h0), (1, .int (rf_v (fun y => rf_q g rl ps y) y)), (2, .int (nI y)), (3, .int (nI (rf_l (fun q => rf_s g rl ps y q rl) j).1)), (4, .int ((rf_l (fun q => rf_s g rl ps y q rl) j).2)), (5, .int (nI (j + 1)))] := hl
      refine lv_iload hx hb dY1_best_45 (lv_at hl 0 rfl) ?_
      refine lv_iload hx hb dY1_best_47 (lv_at hl 5 rfl) ?_
      refine lv_icmp_lt (tgt := 55) hx hb dY1_best_49 (by decide) (fun hs => ?_) (fun hs => ?_)
      · have hl2 : rf_l (fun q => rf_s g rl ps y q rl) (j + 1) = (j + 1, s1) := by rw [es]; exact rf_l_lt (by show rf_s g rl ps y (j + 1) rl < _; rw [← es]; exact hs)
        refine lv_iload hx hb dY1_best_55 (lv_at hl 0 rfl) ?_
        refine lv_istore hx hb dY1_best_57 hl (by decide) rfl (fun ls hl => ?_)
        have hl : lv_has ls 7 [(4, .int s1), (6, .int s1), (0, .ref h0), (1, .int (rf_v (fun y => rf_q g rl ps y) y)), (2, .int (nI y)), (3, .int (nI (rf_l (fun q => rf_s g rl ps y q rl) j).1)), (5, .int (nI (j + 1)))] := hl
        refine lv_iload hx hb dY1_best_59 (lv_at hl 6 rfl) ?_
        refine lv_istore_n hx hb dY1_best_61 rfl hl (by decide) rfl (fun ls hl => ?_)
        have hl : lv_has ls 7 [(3, .int (nI (j + 1))), (4, .int s1), (6, .int s1), (0, .ref h0), (1, .int (rf_v (fun y => rf_q g rl ps y) y)), (2, .int (nI y)), (5, .int (nI (j + 1)))] := hl
        refine lv_iinc (k := 6) (v := (nI (j + 1 + 1))) hx hb dY1_best_62 hl rfl (rf_inc (j + 1)) (by decide) rfl (fun ls hl => ?_)
        have hl : lv_has ls 7 [(5, .int (nI (j + 1 + 1))), (3, .int (nI (j + 1))), (4, .int s1), (6, .int s1), (0, .ref h0), (1, .int (rf_v (fun y => rf_q g rl ps y) y)), (2, .int (nI y))] := hl
        refine lv_goto (tgt := 30) hx hb dY1_best_65 (by decide) ?_
        exact ih (j + 1) _ _ _ (by show 4 - (j + 1) < 4 - j; omega) ⟨by omega, by rw [hl2]; exact lv_sub hl [4, 5, 6, 1, 2, 0] rfl, hP, hD, hS⟩
      · have hl2 : rf_l (fun q => rf_s g rl ps y q rl) (j + 1) = rf_l (fun q => rf_s g rl ps y q rl) j := rf_l_ge (by show ¬ rf_s g rl ps y (j + 1) rl < _; rw [← es]; exact hs)
        refine lv_goto (tgt := 62) hx hb dY1_best_52 (by decide) ?_
        refine lv_iinc (k := 6) (v := (nI (j + 1 + 1))) hx hb dY1_best_62 hl rfl (rf_inc (j + 1)) (by decide) rfl (fun ls hl => ?_)
        have hl : lv_has ls 7 [(5, .int (nI (j + 1 + 1))), (6, .int s1), (0, .ref h0), (1, .int (rf_v (fun y => rf_q g rl ps y) y)), (2, .int (nI y)), (3, .int (nI (rf_l (fun q => rf_s g rl ps y q rl) j).1)), (4, .int ((rf_l (fun q => rf_s g rl ps y q rl) j).2))] := hl
        refine lv_goto (tgt := 30) hx hb dY1_best_65 (by decide) ?_
        exact ih (j + 1) _ _ _ (by show 4 - (j + 1) < 4 - j; omega) ⟨by omega, by rw [hl2]; exact lv_sub hl [2, 3, 4, 5, 6, 0] rfl, hP, hD, hS⟩
