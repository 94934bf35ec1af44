set_option maxHeartbeats 4000000 in
set_option maxRecDepth 100000 in
theorem c_X0_filter (l : Launch) (dC : Nat → ClassId) (dI : Nat → Nat → Nat) (cI : ClassId) (h0 ab rc rl ps : Nat) (f : Nat → Int32) (sz : Nat) (y q : Nat) (ok : rf_ok rc rl ps) (hy : y < rc) (hq : q ≤ 4) : Met l yX0_filter wsX0_filter ({ frames := 4, cells := 0, slots := 0, locals := 88 }) (va_Pc [.ref h0, .int (nI y), .int (nI q)] (rw_preD dC dI cI h0 ab rc rl ps f sz)) (va_Qv (fun _ : Unit => True) (fun _ t9 => rw_B dC dI cI h0 ab rc rl ps (rf_p f (rf_tv f rl ps y q) (y * rl) (y * rl + rl)) (va_A (rw_W h0 ab cI rc rl ps f) sz) t9) (va_A (rw_W h0 ab cI rc rl ps f) sz)) 0 0 (va_A (rw_W h0 ab cI rc rl ps f) sz) := by
  refine Met.ofW (cc := cX0_filter) (maxL := 3) (ret := none) (by decide) rfl ?_
  intro p e s m args below meth c s₁ B hml hv
  obtain ⟨rfl, hsz, hP, hK, hD0⟩ := hv
  have hx := B.exec
  have hb := B.bytes
  have hr := B.returns
  have hts := atoms_spec (ws := wsX0_filter) B.pre
  have hown : s.vm.findClass RX0 = some m.cls := findClass_of_methodNamed B.named
  have hlocks := B.notSynchronized
  subst hsz
  have hD := hD0.self (sz := s.heap.size)
  generalize hAe : va_A (rw_W h0 ab cI rc rl ps f) s.heap.size = A at hD ⊢
  have hA : ∀ q : Nat, s.heap.size ≤ q → A q := fun q h => by rw [← hAe]; exact Or.inr h
  have hS : va_S A s.heap s.heap [] := va_S.rf
  have hP : va_P (dC, dI) rw_cl (rw_W h0 ab cI rc rl ps f) s.heap := hP
  have hl := lv_entry ([.ref h0, .int (nI y), .int (nI q)]) (n := 3) (Nat.le_of_ble_eq_true rfl)
  rw [lg_entry_eq]
  generalize (lg_sl ([.ref h0, .int (nI y), .int (nI q)]) ++ List.replicate (3 - (lg_sl ([.ref h0, .int (nI y), .int (nI q)])).length) Slot.unset).toArray = ls at hl ⊢
  have hl : lv_has ls 3 [(0, .ref h0), (1, .int (nI y)), (2, .int (nI q))] := hl
  have h1 := ok.rc
  refine lv_aload_n hx hb dX0_filter_0 rfl (lv_at hl 0 rfl) ?_
  refine lv_iload_n hx hb dX0_filter_1 rfl (lv_at hl 1 rfl) ?_
  refine va_csv (W.runV (C := RX0) (As := [.int (nI y)]) (rest := []) ⟨hx, hb, hml, hown, hts⟩ (c_X0_requireRow l dC dI cI h0 ab rc rl ps f (nI y) (nI_pos (by omega)) (rf_hi hy h1)) (cwV 1 hts gX0_filter_X0_requireRow rfl rfl rfl (by decide +kernel) ⟨Nat.le_of_ble_eq_true rfl, Nat.le_of_ble_eq_true rfl⟩) ⟨fun a U g mk q => by obtain ⟨q0, qP, qK⟩ := q; exact ⟨q0, qP, va_K.moved (u := U) (U := U.calling g mk a) (Vm.Alike.refl U.vm) qK⟩, va_recv hK hP (ci := 0) (q0 := 0) rfl rfl, fun U hU hW => ⟨rfl, by rw [hU]; exact hP, va_K.moved hW.alike hK⟩⟩ rfl rfl hl.1 rfl (lv_room (Nat.le_of_ble_eq_true rfl)) dX0_filter_2 ⟨Nat.zero_le _, Nat.zero_le _⟩) (fun _ => ?_)
  refine lv_iload_n hx hb dX0_filter_5 rfl (lv_at hl 2 rfl) ?_
  refine va_csv (W.runS (As := [.int (nI q)]) (rest := []) ⟨hx, hb, hml, hown, hts⟩ (c_X0_requireFilter l (nI q) (nI_pos (by omega)) (nI_nlt (a := 4) hq (by omega))) (va_cwS 1 hts gX0_filter_X0_requireFilter rfl rfl rfl (by decide +kernel) ⟨Nat.le_of_ble_eq_true rfl, Nat.le_of_ble_eq_true rfl⟩) ⟨fun _ _ _ _ q => q, fun U hU hW => ⟨rfl, trivial⟩⟩ rfl rfl hl.1 rfl (lv_room (Nat.le_of_ble_eq_true rfl)) dX0_filter_6 ⟨Nat.zero_le _, Nat.zero_le _⟩) (fun _ => ?_)
  refine lv_aload_n hx hb dX0_filter_9 rfl (lv_at hl 0 rfl) ?_
  refine lv_iload_n hx hb dX0_filter_10 rfl (lv_at hl 1 rfl) ?_
  refine lv_iload_n hx hb dX0_filter_11 rfl (lv_at hl 2 rfl) ?_
  have hFc := va_free (wc := [(h0, .inr (0, [.ref ab, .int (nI rc), .int (nI rl), .int (nI ps)])), (ab, .inl (cI, 4096, .inl f))]) hD hS hA [0, 1] rfl
  refine va_callv (va_runV (C := RX0) (As := [.int (nI y), .int (nI q)]) (rest := []) ⟨hx, hb, hml, hown, hts⟩ (c_X0_tellRow l dC dI cI h0 ab rc rl ps f s.heap.size y q ok hy hq) (cwV 2 hts gX0_filter_X0_tellRow rfl rfl rfl (by decide +kernel) ⟨Nat.le_of_ble_eq_true rfl, Nat.le_of_ble_eq_true rfl⟩) ⟨fun a U g mk q => by obtain ⟨q0, q1, qP, qK, qD⟩ := q; exact ⟨q0, q1, qP, va_K.moved (u := U) (U := U.calling g mk a) (Vm.Alike.refl U.vm) qK, qD⟩, va_recv hK hP (ci := 0) (q0 := 0) rfl rfl, fun U hU hW => ⟨rfl, by rw [hU], by rw [hU]; exact hP, va_K.moved hW.alike hK, hD.weaken (fun _ _ _ _ => trivial)⟩⟩ rfl rfl hl.1 rfl (lv_room (Nat.le_of_ble_eq_true rfl)) dX0_filter_12 ⟨Nat.zero_le _, Nat.zero_le _⟩) hS (fun q _ h => hFc q h) hFc (fun u t9 H1 locs ht hvm hw hB hz1 hk1 hS => ?_)
  obtain ⟨hP1, hK1, hD1⟩ := hB
  rw [ht] at hP1
  obtain ⟨hP, hD⟩ := va_join (wr := []) (w1 := [(h0, .inr (0, [.ref ab, .int (nI rc), .int (nI rl), .int (nI ps)])), (ab, .inl (cI, 4096, .inl (rf_p f (rf_tv f rl ps y q) (y * rl) (y * rl + rl))))]) hP hD [0, 1] [] rfl rfl (by decide) (by decide) hk1 hFc hP1 hD1
  generalize H1 = H at hP hS ⊢
  have hP : va_P (dC, dI) rw_cl [(h0, .inr (0, [.ref ab, .int (nI rc), .int (nI rl), .int (nI ps)])), (ab, .inl (cI, 4096, .inl (rf_p f (rf_tv f rl ps y q) (y * rl) (y * rl + rl))))] H := hP
  have hD : va_D A [(h0, .inr (0, [.ref ab, .int (nI rc), .int (nI rl), .int (nI ps)])), (ab, .inl (cI, 4096, .inl (rf_p f (rf_tv f rl ps y q) (y * rl) (y * rl + rl))))] := hD
  refine W.widen (k := 0) (n := 0) (Nat.le_refl _) (Nat.le_refl _) ?_
  exact W.vret hx hb hr (fun t ht hW => ⟨⟨(), rfl, trivial, by rw [ht]; exact hP, va_K.moved hW.alike hK, hD⟩, hS.F ht⟩) hS.2.2 dX0_filter_15
set_option maxHeartbeats 4000000 in
set_option maxRecDepth 100000 in
theorem c_X0_plain (l : Launch) (dC : Nat → ClassId) (dI : Nat → Nat → Nat) (cI : ClassId) (h0 ab rc rl ps : Nat) (f : Nat → Int32) (sz : Nat) (y q : Nat) (ok : rf_ok rc rl ps) (hy : y < rc) (hq : q ≤ 4) : Met l yX0_plain wsX0_plain ({ frames := 4, cells := 0, slots := 0, locals := 88 }) (va_Pc [.ref h0, .int (nI y), .int (nI q)] (rw_preD dC dI cI h0 ab rc rl ps f sz)) (va_Qv (fun _ : Unit => True) (fun _ t9 => rw_B dC dI cI h0 ab rc rl ps (rf_U f rl ps y q rl) (va_A (rw_W h0 ab cI rc rl ps f) sz) t9) (va_A (rw_W h0 ab cI rc rl ps f) sz)) 0 0 (va_A (rw_W h0 ab cI rc rl ps f) sz) := by
  refine Met.ofW (cc := cX0_plain) (maxL := 3) (ret := none) (by decide) rfl ?_
  intro p e s m args below meth c s₁ B hml hv
  obtain ⟨rfl, hsz, hP, hK, hD0⟩ := hv
  have hx := B.exec
  have hb := B.bytes
  have hr := B.returns
  have hts := atoms_spec (ws := wsX0_plain) B.pre
  have hown : s.vm.findClass RX0 = some m.cls := findClass_of_methodNamed B.named
  have hlocks := B.notSynchronized
  subst hsz
  have hD := hD0.self (sz := s.heap.size)
  generalize hAe : va_A (rw_W h0 ab cI rc rl ps f) s.heap.size = A at hD ⊢
  have hA : ∀ q : Nat, s.heap.size ≤ q → A q := fun q h => by rw [← hAe]; exact Or.inr h
  have hS : va_S A s.heap s.heap [] := va_S.rf
  have hP : va_P (dC, dI) rw_cl (rw_W h0 ab cI rc rl ps f) s.heap := hP
  have hl := lv_entry ([.ref h0, .int (nI y), .int (nI q)]) (n := 3) (Nat.le_of_ble_eq_true rfl)
  rw [lg_entry_eq]
  generalize (lg_sl ([.ref h0, .int (nI y), .int (nI q)]) ++ List.replicate (3 - (lg_sl ([.ref h0, .int (nI y), .int (nI q)])).length) Slot.unset).toArray = ls at hl ⊢
  have hl : lv_has ls 3 [(0, .ref h0), (1, .int (nI y)), (2, .int (nI q))] := hl
  have h1 := ok.rc
  refine lv_aload_n hx hb dX0_plain_0 rfl (lv_at hl 0 rfl) ?_
  refine lv_iload_n hx hb dX0_plain_1 rfl (lv_at hl 1 rfl) ?_
  refine va_csv (W.runV (C := RX0) (As := [.int (nI y)]) (rest := []) ⟨hx, hb, hml, hown, hts⟩ (c_X0_requireRow l dC dI cI h0 ab rc rl ps f (nI y) (nI_pos (by omega)) (rf_hi hy h1)) (cwV 1 hts gX0_plain_X0_requireRow rfl rfl rfl (by decide +kernel) ⟨Nat.le_of_ble_eq_true rfl, Nat.le_of_ble_eq_true rfl⟩) ⟨fun a U g mk q => by obtain ⟨q0, qP, qK⟩ := q; exact ⟨q0, qP, va_K.moved (u := U) (U := U.calling g mk a) (Vm.Alike.refl U.vm) qK⟩, va_recv hK hP (ci := 0) (q0 := 0) rfl rfl, fun U hU hW => ⟨rfl, by rw [hU]; exact hP, va_K.moved hW.alike hK⟩⟩ rfl rfl hl.1 rfl (lv_room (Nat.le_of_ble_eq_true rfl)) dX0_plain_2 ⟨Nat.zero_le _, Nat.zero_le _⟩) (fun _ => ?_)
  refine lv_iload_n hx hb dX0_plain_5 rfl (lv_at hl 2 rfl) ?_
  refine va_csv (W.runS (As := [.int (nI q)]) (rest := []) ⟨hx, hb, hml, hown, hts⟩ (c_X0_requireFilter l (nI q) (nI_pos (by omega)) (nI_nlt (a := 4) hq (by omega))) (va_cwS 1 hts gX0_plain_X0_requireFilter rfl rfl rfl (by decide +kernel) ⟨Nat.le_of_ble_eq_true rfl, Nat.le_of_ble_eq_true rfl⟩) ⟨fun _ _ _ _ q => q, fun U hU hW => ⟨rfl, trivial⟩⟩ rfl rfl hl.1 rfl (lv_room (Nat.le_of_ble_eq_true rfl)) dX0_plain_6 ⟨Nat.zero_le _, Nat.zero_le _⟩) (fun _ => ?_)
  refine lv_aload_n hx hb dX0_plain_9 rfl (lv_at hl 0 rfl) ?_
  refine lv_iload_n hx hb dX0_plain_10 rfl (lv_at hl 1 rfl) ?_
  refine lv_iload_n hx hb dX0_plain_11 rfl (lv_at hl 2 rfl) ?_
  have hFc := va_free (wc := [(h0, .inr (0, [.ref ab, .int (nI rc), .int (nI rl), .int (nI ps)])), (ab, .inl (cI, 4096, .inl f))]) hD hS hA [0, 1] rfl
  refine va_callv (va_runV (C := RX0) (As := [.int (nI y), .int (nI q)]) (rest := []) ⟨hx, hb, hml, hown, hts⟩ (c_X0_restoreRow l dC dI cI h0 ab rc rl ps f s.heap.size y q ok hy hq) (cwV 2 hts gX0_plain_X0_restoreRow rfl rfl rfl (by decide +kernel) ⟨Nat.le_of_ble_eq_true rfl, Nat.le_of_ble_eq_true rfl⟩) ⟨fun a U g mk q => by obtain ⟨q0, q1, qP, qK, qD⟩ := q; exact ⟨q0, q1, qP, va_K.moved (u := U) (U := U.calling g mk a) (Vm.Alike.refl U.vm) qK, qD⟩, va_recv hK hP (ci := 0) (q0 := 0) rfl rfl, fun U hU hW => ⟨rfl, by rw [hU], by rw [hU]; exact hP, va_K.moved hW.alike hK, hD.weaken (fun _ _ _ _ => trivial)⟩⟩ rfl rfl hl.1 rfl (lv_room (Nat.le_of_ble_eq_true rfl)) dX0_plain_12 ⟨Nat.zero_le _, Nat.zero_le _⟩) hS (fun q _ h => hFc q h) hFc (fun u t9 H1 locs ht hvm hw hB hz1 hk1 hS => ?_)
  obtain ⟨hP1, hK1, hD1⟩ := hB
  rw [ht] at hP1
  obtain ⟨hP, hD⟩ := va_join (wr := []) (w1 := [(h0, .inr (0, [.ref ab, .int (nI rc), .int (nI rl), .int (nI ps)])), (ab, .inl (cI, 4096, .inl (rf_U f rl ps y q rl)))]) hP hD [0, 1] [] rfl rfl (by decide) (by decide) hk1 hFc hP1 hD1
  generalize H1 = H at hP hS ⊢
  have hP : va_P (dC, dI) rw_cl [(h0, .inr (0, [.ref ab, .int (nI rc), .int (nI rl), .int (nI ps)])), (ab, .inl (cI, 4096, .inl (rf_U f rl ps y q rl)))] H := hP
  have hD : va_D A [(h0, .inr (0, [.ref ab, .int (nI rc), .int (nI rl), .int (nI ps)])), (ab, .inl (cI, 4096, .inl (rf_U f rl ps y q rl)))] := hD
  refine W.widen (k := 0) (n := 0) (Nat.le_refl _) (Nat.le_refl _) ?_
  exact W.vret hx hb hr (fun t ht hW => ⟨⟨(), rfl, trivial, by rw [ht]; exact hP, va_K.moved hW.alike hK, hD⟩, hS.F ht⟩) hS.2.2 dX0_plain_15
set_option maxHeartbeats 4000000 in
set_option maxRecDepth 100000 in
theorem c_X0_best (l : Launch) (dC : Nat → ClassId) (dI : Nat → Nat → Nat) (cI : ClassId) (h0 ab rc rl ps : Nat) (f : Nat → Int32) (sz : Nat) (ok : rf_ok rc rl ps) : Met l yX0_best wsX0_best ({ frames := 5, cells := 0, slots := 0, locals := 114 }) (va_Pc [.ref h0] (rw_preD dC dI cI h0 ab rc rl ps f sz)) (va_Qi (fun (r : Int32) (_ : Unit) => r = rf_v (fun y => rf_q f rl ps y) rc) (fun _ t9 => rw_B dC dI cI h0 ab rc rl ps (rf_p f (rf_bv f rl ps) 0 (rc * rl)) (va_A (rw_W h0 ab cI rc rl ps f) sz) t9) (va_A (rw_W h0 ab cI rc rl ps f) sz)) 0 0 (va_A (rw_W h0 ab cI rc rl ps f) sz) := by
  refine Met.ofW (cc := cX0_best) (maxL := 5) (ret := (some .int)) (by decide) rfl ?_
  intro p e s m args below meth c s₁ B hml hv
  obtain ⟨rfl, hsz, hP, hK, hD0⟩ := hv
  have hx := B.exec
  have hb := B.bytes
  have hr := B.returns
  have hts := atoms_spec (ws := wsX0_best) B.pre
  have hown : s.vm.findClass RX0 = some m.cls := findClass_of_methodNamed B.named
  have hlocks := B.notSynchronized
  subst hsz
  have hD := hD0.self (sz := s.heap.size)
  generalize hAe : va_A (rw_W h0 ab cI rc rl ps f) s.heap.size = A at hD ⊢
  have hA : ∀ q : Nat, s.heap.size ≤ q → A q := fun q h => by rw [← hAe]; exact Or.inr h
  have hS : va_S A s.heap s.heap [] := va_S.rf
  have hP : va_P (dC, dI) rw_cl (rw_W h0 ab cI rc rl ps f) s.heap := hP
  have hl := lv_entry ([.ref h0]) (n := 5) (Nat.le_of_ble_eq_true rfl)
  rw [lg_entry_eq]
  generalize (lg_sl ([.ref h0]) ++ List.replicate (5 - (lg_sl ([.ref h0])).length) Slot.unset).toArray = ls at hl ⊢
  have hl : lv_has ls 5 [(0, .ref h0)] := hl
  have h1 := ok.rc
  have h2 := ok.rl
  have h4 := ok.2.2.2.1
  refine lv_iconst (v := 0) hx hb dX0_best_0 (by decide) ?_
  refine lv_istore_n hx hb dX0_best_1 rfl hl (by decide) rfl (fun ls hl => ?_)
  have hl : lv_has ls 5 [(1, .int 0), (0, .ref h0)] := hl
  refine lv_iconst (v := 1) hx hb dX0_best_2 (by decide) ?_
  refine lv_istore_n hx hb dX0_best_3 rfl hl (by decide) rfl (fun ls hl => ?_)
  have hl : lv_has ls 5 [(2, .int 1), (1, .int 0), (0, .ref h0)] := hl
  refine lv_aload_n hx hb dX0_best_4 rfl (lv_at hl 2 rfl) ?_
  refine va_get (D := (dC, dI)) (ci := 0) (v := .int (nI rc)) (C := RX0) (T := TX0) (N := 4) hx hb hts (by decide +kernel) hown hK hP 0 rfl rfl 1 (by decide) (hts (.fieldLink RX0 13 "RowFilters" "rowCount" "I") (by decide +kernel)) (fun _ h9 => h9) rfl dX0_best_5 ?_
  refine lv_iconst (v := 1) hx hb dX0_best_8 (by decide) ?_
  refine lv_isub hx hb dX0_best_9 ?_
  refine lv_istore_n hx hb dX0_best_10 rfl hl (by decide) rfl (fun ls hl => ?_)
  have hl : lv_has ls 5 [(3, .int ((nI rc) - 1)), (2, .int 1), (1, .int 0), (0, .ref h0)] := hl
  have e0 : f = (rf_p f (rf_bv f rl ps) (rc * rl) (rc * rl)) := (rf_p_nil _ _ _).symm
  rw [e0] at hP hD
  refine rw_loopH (fun j : Nat => j) (fun j ls H locs => (j ≤ rc) ∧ (∃ an we : Int32, rf_v (fun y => rf_q f rl ps y) rc = an + we * rf_v (fun y => rf_q f rl ps y) j ∧ lv_has ls 5 [(0, .ref h0), (1, .int an), (2, .int we), (3, .int (nI j - 1))]) ∧ va_P (dC, dI) rw_cl [(h0, .inr (0, [.ref ab, .int (nI rc), .int (nI rl), .int (nI ps)])), (ab, .inl (cI, 4096, .inl (rf_p f (rf_bv f rl ps) (j * rl) (rc * rl))))] H ∧ va_D A [(h0, .inr (0, [.ref ab, .int (nI rc), .int (nI rl), .int (nI ps)])), (ab, .inl (cI, 4096, .inl (rf_p f (rf_bv f rl ps) (j * rl) (rc * rl))))] ∧ va_S A s.heap H locs) ?_ rc ⟨Nat.le_refl _, ⟨0, 1, by rw [Int32.one_mul, Int32.zero_add], lv_sub hl [3, 2, 1, 0] rfl⟩, hP, hD, hS⟩
  intro j ls H locs hI ih
  obtain ⟨hj, ⟨an, we, hv, hl⟩, hP, hD, hS⟩ := hI
  refine lv_iload_n hx hb dX0_best_11 rfl (lv_at hl 3 rfl) ?_
  refine lv_if_lt (tgt := 46) hx hb dX0_best_12 (by decide) (fun hc => ?_) (fun hc => ?_)
  · obtain rfl : j = 0 := rf_dn0 (by omega) hc
    rw [Nat.zero_mul] at hP hD
    refine lv_iload_n hx hb dX0_best_46 rfl (lv_at hl 1 rfl) ?_
    refine lv_iload_n hx hb dX0_best_47 rfl (lv_at hl 2 rfl) ?_
    refine lv_iadd hx hb dX0_best_48 ?_
    exact W.iret (v := (an + we)) hx hb hr (fun t ht hW => ⟨⟨(an + we), (), rfl, by rw [hv]; show an + we = an + we * 1; rw [Int32.mul_one], by rw [ht]; exact hP, va_K.moved hW.alike hK, hD⟩, hS.F ht⟩) hS.2.2 dX0_best_49
  · obtain ⟨z, rfl⟩ := rf_dn1 hc
    rw [nI_pred] at hl
    have hl : lv_has ls 5 [(0, .ref h0), (1, .int an), (2, .int we), (3, .int (nI z))] := hl
    have hz : z < rc := by omega
    have hq : rf_q (rf_p f (rf_bv f rl ps) ((z + 1) * rl) (rc * rl)) rl ps z = rf_q f rl ps z := rf_q_c h4 (fun k hk => rf_p_out (Or.inl (by rw [Nat.add_mul, Nat.one_mul]; exact hk)))
    refine lv_aload_n hx hb dX0_best_15 rfl (lv_at hl 0 rfl) ?_
    refine lv_iload_n hx hb dX0_best_16 rfl (lv_at hl 3 rfl) ?_
    refine vp_callSi (W.runV (C := RX0) (As := [.int (nI z)]) (rest := []) ⟨hx, hb, hml, hown, hts⟩ (c_X0_leastFilter l dC dI cI h0 ab rc rl ps (rf_p f (rf_bv f rl ps) ((z + 1) * rl) (rc * rl)) z ok hz) (cwV 1 hts gX0_best_X0_leastFilter rfl rfl rfl (by decide +kernel) ⟨Nat.le_of_ble_eq_true rfl, Nat.le_of_ble_eq_true rfl⟩) ⟨fun a U g mk q => by obtain ⟨q0, qP, qK⟩ := q; exact ⟨q0, qP, va_K.moved (u := U) (U := U.calling g mk a) (Vm.Alike.refl U.vm) qK⟩, va_recv hK hP (ci := 0) (q0 := 0) rfl rfl, fun U hU hW => ⟨rfl, by rw [hU]; exact hP, va_K.moved hW.alike hK⟩⟩ rfl rfl hl.1 rfl (lv_room (Nat.le_of_ble_eq_true rfl)) dX0_best_17 ⟨Nat.zero_le _, Nat.zero_le _⟩) (fun rq eq => ?_)
    rw [hq] at eq
    subst eq
    refine lv_istore hx hb dX0_best_20 hl (by decide) rfl (fun ls hl => ?_)
    have hl : lv_has ls 5 [(4, .int (nI (rf_q f rl ps z))), (0, .ref h0), (1, .int an), (2, .int we), (3, .int (nI z))] := hl
    refine lv_aload_n hx hb dX0_best_22 rfl (lv_at hl 1 rfl) ?_
    refine lv_iload_n hx hb dX0_best_23 rfl (lv_at hl 4 rfl) ?_
    refine lv_iload hx hb dX0_best_24 (lv_at hl 0 rfl) ?_
    have hFc := va_free (wc := [(h0, .inr (0, [.ref ab, .int (nI rc), .int (nI rl), .int (nI ps)])), (ab, .inl (cI, 4096, .inl (rf_p f (rf_bv f rl ps) ((z + 1) * rl) (rc * rl))))]) hD hS hA [0, 1] rfl
    refine va_callv (va_runV (C := RX0) (As := [.int (nI z), .int (nI (rf_q f rl ps z))]) (rest := []) ⟨hx, hb, hml, hown, hts⟩ (c_X0_tellRow l dC dI cI h0 ab rc rl ps (rf_p f (rf_bv f rl ps) ((z + 1) * rl) (rc * rl)) H.size z (rf_q f rl ps z) ok hz (rf_q_le _ _ _ _)) (cwV 2 hts gX0_best_X0_tellRow rfl rfl rfl (by decide +kernel) ⟨Nat.le_of_ble_eq_true rfl, Nat.le_of_ble_eq_true rfl⟩) ⟨fun a U g mk q => by obtain ⟨q0, q1, qP, qK, qD⟩ := q; exact ⟨q0, q1, qP, va_K.moved (u := U) (U := U.calling g mk a) (Vm.Alike.refl U.vm) qK, qD⟩, va_recv hK hP (ci := 0) (q0 := 0) rfl rfl, fun U hU hW => ⟨rfl, by rw [hU], by rw [hU]; exact hP, va_K.moved hW.alike hK, hD.weaken (fun _ _ _ _ => trivial)⟩⟩ rfl rfl hl.1 rfl (lv_room (Nat.le_of_ble_eq_true rfl)) dX0_best_26 ⟨Nat.zero_le _, Nat.zero_le _⟩) hS (fun q _ h => hFc q h) hFc (fun u t9 H1 locs ht hvm hw hB hz1 hk1 hS => ?_)
    obtain ⟨hP1, hK1, hD1⟩ := hB
    rw [ht] at hP1
    obtain ⟨hP, hD⟩ := va_join (wr := []) (w1 := [(h0, .inr (0, [.ref ab, .int (nI rc), .int (nI rl), .int (nI ps)])), (ab, .inl (cI, 4096, .inl (rf_p (rf_p f (rf_bv f rl ps) ((z + 1) * rl) (rc * rl)) (rf_tv (rf_p f (rf_bv f rl ps) ((z + 1) * rl) (rc * rl)) rl ps z (rf_q f rl ps z)) (z * rl) (z * rl + rl))))]) hP hD [0, 1] [] rfl rfl (by decide) (by decide) hk1 hFc hP1 hD1
    generalize H1 = H at hP hS ⊢
    have hP : va_P (dC, dI) rw_cl [(h0, .inr (0, [.ref ab, .int (nI rc), .int (nI rl), .int (nI ps)])), (ab, .inl (cI, 4096, .inl (rf_p (rf_p f (rf_bv f rl ps) ((z + 1) * rl) (rc * rl)) (rf_tv (rf_p f (rf_bv f rl ps) ((z + 1) * rl) (rc * rl)) rl ps z (rf_q f rl ps z)) (z * rl) (z * rl + rl))))] H := hP
    have hD : va_D A [(h0, .inr (0, [.ref ab, .int (nI rc), .int (nI rl), .int (nI ps)])), (ab, .inl (cI, 4096, .inl (rf_p (rf_p f (rf_bv f rl ps) ((z + 1) * rl) (rc * rl)) (rf_tv (rf_p f (rf_bv f rl ps) ((z + 1) * rl) (rc * rl)) rl ps z (rf_q f rl ps z)) (z * rl) (z * rl + rl))))] := hD
    refine W.widen (k := 0) (n := 0) (Nat.le_refl _) (Nat.le_refl _) ?_
    have e9 : (rf_p (rf_p f (rf_bv f rl ps) ((z + 1) * rl) (rc * rl)) (rf_tv (rf_p f (rf_bv f rl ps) ((z + 1) * rl) (rc * rl)) rl ps z (rf_q f rl ps z)) (z * rl) (z * rl + rl)) = (rf_p f (rf_bv f rl ps) (z * rl) (rc * rl)) := by rw [← hq]; exact rf_best_dn h4 hz rfl
    rw [e9] at hP hD
    refine lv_iload_n hx hb dX0_best_29 rfl (lv_at hl 2 rfl) ?_
    refine lv_iload hx hb dX0_best_30 (lv_at hl 0 rfl) ?_
    refine lv_iload_n hx hb dX0_best_32 rfl (lv_at hl 3 rfl) ?_
    refine lv_imul hx hb dX0_best_33 ?_
    refine lv_iadd hx hb dX0_best_34 ?_
    refine lv_istore_n hx hb dX0_best_35 rfl hl (by decide) rfl (fun ls hl => ?_)
    have hl : lv_has ls 5 [(1, .int (an + ((nI (rf_q f rl ps z)) * we))), (4, .int (nI (rf_q f rl ps z))), (0, .ref h0), (2, .int we), (3, .int (nI z))] := hl
    refine lv_iload_n hx hb dX0_best_36 rfl (lv_at hl 3 rfl) ?_
    refine lv_iconst (v := 5) hx hb dX0_best_37 (by decide) ?_
    refine lv_imul hx hb dX0_best_38 ?_
    refine lv_istore_n hx hb dX0_best_39 rfl hl (by decide) rfl (fun ls hl => ?_)
    have hl : lv_has ls 5 [(2, .int (we * 5)), (1, .int (an + ((nI (rf_q f rl ps z)) * we))), (4, .int (nI (rf_q f rl ps z))), (0, .ref h0), (3, .int (nI z))] := hl
    refine lv_iinc (k := 4) (v := (nI z - 1)) hx hb dX0_best_40 hl rfl (rf_dec z) (by decide) rfl (fun ls hl => ?_)
    have hl : lv_has ls 5 [(3, .int (nI z - 1)), (2, .int (we * 5)), (1, .int (an + ((nI (rf_q f rl ps z)) * we))), (4, .int (nI (rf_q f rl ps z))), (0, .ref h0)] := hl
    refine lv_goto (tgt := 11) hx hb dX0_best_43 (by decide) ?_
    exact ih z _ _ _ (Nat.lt_succ_self z) ⟨by omega, ⟨an + nI (rf_q f rl ps z) * we, we * 5, by rw [hv]; exact rf_v_step _ _ _ _, lv_sub hl [4, 2, 1, 0] rfl⟩, hP, hD, hS⟩
set_option maxHeartbeats 4000000 in
set_option maxRecDepth 100000 in
theorem c_X0_undo (l : Launch) (dC : Nat → ClassId) (dI : Nat → Nat → Nat) (cI : ClassId) (h0 ab rc rl ps : Nat) (f : Nat → Int32) (sz : Nat) (n : Nat) (ok : rf_ok rc rl ps) (hn : n ≤ 390624) : Met l yX0_undo wsX0_undo ({ frames := 4, cells := 0, slots := 0, locals := 88 }) (va_Pc [.ref h0, .int (nI n)] (rw_preD dC dI cI h0 ab rc rl ps f sz)) (va_Qv (fun _ : Unit => True) (fun _ t9 => rw_B dC dI cI h0 ab rc rl ps (rf_D f rl ps n (min rc 8)) (va_A (rw_W h0 ab cI rc rl ps f) sz) t9) (va_A (rw_W h0 ab cI rc rl ps f) sz)) 0 0 (va_A (rw_W h0 ab cI rc rl ps f) sz) := by
  refine Met.ofW (cc := cX0_undo) (maxL := 5) (ret := none) (by decide) rfl ?_
  intro p e s m args below meth c s₁ B hml hv
  obtain ⟨rfl, hsz, hP, hK, hD0⟩ := hv
  have hx := B.exec
  have hb := B.bytes
  have hr := B.returns
  have hts := atoms_spec (ws := wsX0_undo) B.pre
  have hown : s.vm.findClass RX0 = some m.cls := findClass_of_methodNamed B.named
  have hlocks := B.notSynchronized
  subst hsz
  have hD := hD0.self (sz := s.heap.size)
  generalize hAe : va_A (rw_W h0 ab cI rc rl ps f) s.heap.size = A at hD ⊢
  have hA : ∀ q : Nat, s.heap.size ≤ q → A q := fun q h => by rw [← hAe]; exact Or.inr h
  have hS : va_S A s.heap s.heap [] := va_S.rf
  have hP : va_P (dC, dI) rw_cl (rw_W h0 ab cI rc rl ps f) s.heap := hP
  have hl := lv_entry ([.ref h0, .int (nI n)]) (n := 5) (Nat.le_of_ble_eq_true rfl)
  rw [lg_entry_eq]
  generalize (lg_sl ([.ref h0, .int (nI n)]) ++ List.replicate (5 - (lg_sl ([.ref h0, .int (nI n)])).length) Slot.unset).toArray = ls at hl ⊢
  have hl : lv_has ls 5 [(0, .ref h0), (1, .int (nI n))] := hl
  have h1 := ok.rc
  refine lv_iload_n hx hb dX0_undo_0 rfl (lv_at hl 1 rfl) ?_
  refine lv_iconst (v := 0) hx hb dX0_undo_1 (by decide) ?_
  refine lv_ldc hx hb hown (hts (.constant RX0 54 (390624)) (by decide +kernel)) dX0_undo_2 ?_
  refine va_csv (W.runS (As := [.int (nI n), .int 0, .int 390624]) (rest := []) ⟨hx, hb, hml, hown, hts⟩ (c_X0_requireWithin l (nI n) 0 390624 (nI_pos (by omega)) (nI_nlt (a := 390624) hn (by omega))) (va_cwS 3 hts gX0_undo_X0_requireWithin rfl rfl rfl (by decide +kernel) ⟨Nat.le_of_ble_eq_true rfl, Nat.le_of_ble_eq_true rfl⟩) ⟨fun _ _ _ _ q => q, fun U hU hW => ⟨rfl, trivial⟩⟩ rfl rfl hl.1 rfl (lv_room (Nat.le_of_ble_eq_true rfl)) dX0_undo_4 ⟨Nat.zero_le _, Nat.zero_le _⟩) (fun _ => ?_)
  refine lv_aload_n hx hb dX0_undo_7 rfl (lv_at hl 0 rfl) ?_
  refine va_get (D := (dC, dI)) (ci := 0) (v := .int (nI rc)) (C := RX0) (T := TX0) (N := 4) hx hb hts (by decide +kernel) hown hK hP 0 rfl rfl 1 (by decide) (hts (.fieldLink RX0 13 "RowFilters" "rowCount" "I") (by decide +kernel)) (fun _ h9 => h9) rfl dX0_undo_8 ?_
  refine lv_bipush (v := 8) hx hb dX0_undo_11 (by decide) ?_
  refine va_mmin hx hb (hml.trans hl.1.symm) hown (hts (.methodLink RX0 55 Lib.Math.min.name) (by decide +kernel)) (hts (.static Lib.Math.min.name) (by decide +kernel)) (hts (.initialized "java/lang/Math") (by decide +kernel)) (hts (.code Lib.Math.min.name Lib.Math.min.code 2 (some .int)) (by decide +kernel)) (Nat.le_of_ble_eq_true rfl) (Nat.le_of_ble_eq_true rfl) (Nat.le_of_ble_eq_true rfl) (Nat.le_of_ble_eq_true rfl) dX0_undo_13 ?_
  refine W.eq (g2 := F0 m 16 ls [.int (nI (min rc 8))]) (congrArg (fun z9 => F0 m 16 ls [.int z9]) (show (if 8 < (nI rc) then 8 else (nI rc)) = nI (min rc 8) from rf_min h1)) ?_
  refine lv_istore_n hx hb dX0_undo_16 rfl hl (by decide) rfl (fun ls hl => ?_)
  have hl : lv_has ls 5 [(2, .int (nI (min rc 8))), (0, .ref h0), (1, .int (nI n))] := hl
  refine lv_iload_n hx hb dX0_undo_17 rfl (lv_at hl 2 rfl) ?_
  refine lv_istore_n hx hb dX0_undo_18 rfl hl (by decide) rfl (fun ls hl => ?_)
  have hl : lv_has ls 5 [(3, .int (nI n)), (2, .int (nI (min rc 8))), (0, .ref h0), (1, .int (nI n))] := hl
  refine lv_iconst (v := 0) hx hb dX0_undo_19 (by decide) ?_
  refine lv_istore hx hb dX0_undo_20 hl (by decide) rfl (fun ls hl => ?_)
  have hl : lv_has ls 5 [(4, .int 0), (3, .int (nI n)), (2, .int (nI (min rc 8))), (0, .ref h0), (1, .int (nI n))] := hl
  have e0 : f = (rf_D f rl ps n (0)) := rfl
  rw [e0] at hP hD
  refine rw_loopH (fun y : Nat => min rc 8 - y) (fun y ls H locs => (y ≤ min rc 8) ∧ lv_has ls 5 [(0, .ref h0), (1, .int (nI n)), (2, .int (nI (min rc 8))), (3, .int (nI (n / 5 ^ y))), (4, .int (nI y))] ∧ va_P (dC, dI) rw_cl [(h0, .inr (0, [.ref ab, .int (nI rc), .int (nI rl), .int (nI ps)])), (ab, .inl (cI, 4096, .inl (rf_D f rl ps n y)))] H ∧ va_D A [(h0, .inr (0, [.ref ab, .int (nI rc), .int (nI rl), .int (nI ps)])), (ab, .inl (cI, 4096, .inl (rf_D f rl ps n y)))] ∧ va_S A s.heap H locs) ?_ (0) ⟨Nat.zero_le _, by rw [Nat.pow_zero, Nat.div_one]; exact lv_sub hl [3, 4, 2, 1, 0] rfl, hP, hD, hS⟩
  intro y ls H locs hI ih
  obtain ⟨hj, hl, hP, hD, hS⟩ := hI
  refine lv_iload hx hb dX0_undo_22 (lv_at hl 4 rfl) ?_
  refine lv_iload_n hx hb dX0_undo_24 rfl (lv_at hl 2 rfl) ?_
  refine lv_icmp_ge (tgt := 47) hx hb dX0_undo_25 (by decide) (fun hc => ?_) (fun hc => ?_)
  · have hi : y = min rc 8 := by have := (nI_leI (by omega) (by omega)).mp hc; omega
    rw [hi] at hP hD
    exact W.vret hx hb hr (fun t ht hW => ⟨⟨(), rfl, trivial, by rw [ht]; exact hP, va_K.moved hW.alike hK, hD⟩, hS.F ht⟩) hS.2.2 dX0_undo_47
  · have hi : y < min rc 8 := Nat.lt_of_not_le (fun q => hc ((nI_leI (by omega) (by omega)).mpr q))
    have hy : y < rc := by omega
    have hd : n / 5 ^ y ≤ 390624 := Nat.le_trans (Nat.div_le_self _ _) hn
    have hm : n / 5 ^ y % 5 ≤ 4 := by omega
    refine lv_aload_n hx hb dX0_undo_28 rfl (lv_at hl 0 rfl) ?_
    refine lv_iload hx hb dX0_undo_29 (lv_at hl 4 rfl) ?_
    refine lv_iload_n hx hb dX0_undo_31 rfl (lv_at hl 3 rfl) ?_
    refine lv_iconst (v := 5) hx hb dX0_undo_32 (by decide) ?_
    refine lv_irem hx hb dX0_undo_33 (by decide) ?_
    refine W.eq (g2 := F0 m 34 ls [.int (nI (n / 5 ^ y % 5)), .int (nI y), .ref h0]) (congrArg (fun z9 => F0 m 34 ls [.int z9, .int (nI y), .ref h0]) (show ((nI (n / 5 ^ y)) - (nI (n / 5 ^ y)) / 5 * 5) = nI (n / 5 ^ y % 5) from rf_rem (b := 5) (by omega) (by omega))) ?_
    have hFc := va_free (wc := [(h0, .inr (0, [.ref ab, .int (nI rc), .int (nI rl), .int (nI ps)])), (ab, .inl (cI, 4096, .inl (rf_D f rl ps n y)))]) hD hS hA [0, 1] rfl
    refine va_callv (va_runV (C := RX0) (As := [.int (nI y), .int (nI (n / 5 ^ y % 5))]) (rest := []) ⟨hx, hb, hml, hown, hts⟩ (c_X0_restoreRow l dC dI cI h0 ab rc rl ps (rf_D f rl ps n y) H.size y (n / 5 ^ y % 5) ok hy hm) (cwV 2 hts gX0_undo_X0_restoreRow rfl rfl rfl (by decide +kernel) ⟨Nat.le_of_ble_eq_true rfl, Nat.le_of_ble_eq_true rfl⟩) ⟨fun a U g mk q => by obtain ⟨q0, q1, qP, qK, qD⟩ := q; exact ⟨q0, q1, qP, va_K.moved (u := U) (U := U.calling g mk a) (Vm.Alike.refl U.vm) qK, qD⟩, va_recv hK hP (ci := 0) (q0 := 0) rfl rfl, fun U hU hW => ⟨rfl, by rw [hU], by rw [hU]; exact hP, va_K.moved hW.alike hK, hD.weaken (fun _ _ _ _ => trivial)⟩⟩ rfl rfl hl.1 rfl (lv_room (Nat.le_of_ble_eq_true rfl)) dX0_undo_34 ⟨Nat.zero_le _, Nat.zero_le _⟩) hS (fun q _ h => hFc q h) hFc (fun u t9 H1 locs ht hvm hw hB hz1 hk1 hS => ?_)
    obtain ⟨hP1, hK1, hD1⟩ := hB
    rw [ht] at hP1
    obtain ⟨hP, hD⟩ := va_join (wr := []) (w1 := [(h0, .inr (0, [.ref ab, .int (nI rc), .int (nI rl), .int (nI ps)])), (ab, .inl (cI, 4096, .inl (rf_U (rf_D f rl ps n y) rl ps y (n / 5 ^ y % 5) rl)))]) hP hD [0, 1] [] rfl rfl (by decide) (by decide) hk1 hFc hP1 hD1
    generalize H1 = H at hP hS ⊢
    have hP : va_P (dC, dI) rw_cl [(h0, .inr (0, [.ref ab, .int (nI rc), .int (nI rl), .int (nI ps)])), (ab, .inl (cI, 4096, .inl (rf_U (rf_D f rl ps n y) rl ps y (n / 5 ^ y % 5) rl)))] H := hP
    have hD : va_D A [(h0, .inr (0, [.ref ab, .int (nI rc), .int (nI rl), .int (nI ps)])), (ab, .inl (cI, 4096, .inl (rf_U (rf_D f rl ps n y) rl ps y (n / 5 ^ y % 5) rl)))] := hD
    refine W.widen (k := 0) (n := 0) (Nat.le_refl _) (Nat.le_refl _) ?_
    refine lv_iload_n hx hb dX0_undo_37 rfl (lv_at hl 3 rfl) ?_
    refine lv_iconst (v := 5) hx hb dX0_undo_38 (by decide) ?_
    refine lv_idiv hx hb dX0_undo_39 (by decide) ?_
    refine W.eq (g2 := F0 m 40 ls [.int (nI (n / 5 ^ (y + 1)))]) (congrArg (fun z9 => F0 m 40 ls [.int z9]) (show ((nI (n / 5 ^ y)) / 5) = nI (n / 5 ^ (y + 1)) from (rf_div (b := 5) (by omega) (by omega)).trans (by rw [Nat.div_div_eq_div_mul, ← Nat.pow_succ]))) ?_
    refine lv_istore_n hx hb dX0_undo_40 rfl hl (by decide) rfl (fun ls hl => ?_)
    have hl : lv_has ls 5 [(3, .int (nI (n / 5 ^ (y + 1)))), (0, .ref h0), (1, .int (nI n)), (2, .int (nI (min rc 8))), (4, .int (nI y))] := hl
    refine lv_iinc (k := 4) (v := (nI (y + 1))) hx hb dX0_undo_41 hl rfl (rf_inc y) (by decide) rfl (fun ls hl => ?_)
    have hl : lv_has ls 5 [(4, .int (nI (y + 1))), (3, .int (nI (n / 5 ^ (y + 1)))), (0, .ref h0), (1, .int (nI n)), (2, .int (nI (min rc 8)))] := hl
    refine lv_goto (tgt := 22) hx hb dX0_undo_44 (by decide) ?_
    have e9 : (rf_U (rf_D f rl ps n y) rl ps y (n / 5 ^ y % 5) rl) = (rf_D f rl ps n (y + 1)) := rfl
    rw [e9] at hP hD
    exact ih (y + 1) _ _ _ (by show min rc 8 - (y + 1) < min rc 8 - y; omega) ⟨by omega, lv_sub hl [2, 3, 4, 1, 0] rfl, hP, hD, hS⟩
