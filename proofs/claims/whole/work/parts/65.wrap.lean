abbrev rl_W (h0 ab : Nat) (cI : ClassId) (rc rl ps : Nat) (f : Nat → Int32) (cL : ClassId) (oa : Nat) (o : Nat → Int64) : va_W := [(h0, .inr (0, [.ref ab, .int (nI rc), .int (nI rl), .int (nI ps)])), (ab, .inl (cI, 4096, .inl f)), (oa, .inl (cL, 1, .inr (.inl o)))]
abbrev rl_preD (dC : Nat → ClassId) (dI : Nat → Nat → Nat) (cI : ClassId) (h0 ab rc rl ps : Nat) (f : Nat → Int32) (cL : ClassId) (oa : Nat) (o : Nat → Int64) (sz : Nat) (U : State) : Prop := U.heap.size = sz ∧ va_P (dC, dI) rw_cl (rl_W h0 ab cI rc rl ps f cL oa o) U.heap ∧ va_K (dC, dI) rw_cl [(cI, .int), (cL, .long)] U ∧ va_D (fun _ => True) (rl_W h0 ab cI rc rl ps f cL oa o)
abbrev rl_B (dC : Nat → ClassId) (dI : Nat → Nat → Nat) (cI : ClassId) (h0 ab rc rl ps : Nat) (f : Nat → Int32) (cL : ClassId) (oa : Nat) (o : Nat → Int64) (A : Nat → Prop) (t : State) : Prop := va_P (dC, dI) rw_cl (rl_W h0 ab cI rc rl ps f cL oa o) t.heap ∧ va_K (dC, dI) rw_cl [(cI, .int), (cL, .long)] t ∧ va_D A (rl_W h0 ab cI rc rl ps f cL oa o)
set_option maxHeartbeats 4000000 in
set_option maxRecDepth 100000 in
theorem c_L_open (l : Launch) (dC : Nat → ClassId) (dI : Nat → Nat → Nat) (cI : ClassId) (h0 ab rc rl ps : Nat) (f : Nat → Int32) (sz : Nat) (h n z : Nat) (ok : rf_ok h n z) : Met l yL_open wsL_open ({ frames := 2, cells := 0, slots := 0, locals := 46 }) (va_Pc [.ref h0, .int (nI h), .int (nI n), .int (nI z)] (fun U => rw_preD dC dI cI h0 ab rc rl ps f sz U)) (va_Qi (fun (r : Int32) (_ : Unit) => r = 0) (fun _ t9 => rw_B dC dI cI h0 ab h n z (rf_p f (fun _ => 0) 0 4096) (va_A (rw_W h0 ab cI rc rl ps f) sz) t9) (va_A (rw_W h0 ab cI rc rl ps f) sz)) 0 0 (va_A (rw_W h0 ab cI rc rl ps f) sz) := by
  refine va_MetW (cc := cL_open) (maxL := 5) (ret := some .int) (by decide) rfl ?_
  intro p e s m args below meth c s₁ B hml hv
  obtain ⟨rfl, hsz, hP, hK, hD0⟩ := hv
  have hx := B.exec
  have hb := B.bytes
  have hr := B.returns
  have hts := atoms_spec (ws := wsL_open) B.pre
  have hown : s.vm.findClass RL = some m.cls := findClass_of_methodNamed B.named
  have hlocks := B.notSynchronized
  subst hsz
  have hD := hD0.self (sz := s.heap.size)
  generalize hAe : va_A (rw_W h0 ab cI rc rl ps f) s.heap.size = A at hD ⊢
  have hA : ∀ q : Nat, s.heap.size ≤ q → A q := fun q h => by rw [← hAe]; exact Or.inr h
  have hS : va_S A s.heap s.heap [] := va_S.rf
  have hP : va_P (dC, dI) rw_cl (rw_W h0 ab cI rc rl ps f) s.heap := hP
  have hl := lv_entry ([.ref h0, .int (nI h), .int (nI n), .int (nI z)]) (n := 5) (Nat.le_of_ble_eq_true rfl)
  rw [lg_entry_eq]
  generalize (lg_sl ([.ref h0, .int (nI h), .int (nI n), .int (nI z)]) ++ List.replicate (5 - (lg_sl ([.ref h0, .int (nI h), .int (nI n), .int (nI z)])).length) Slot.unset).toArray = ls at hl ⊢
  have hl : lv_has ls 5 [(0, .ref h0), (1, .int (nI h)), (2, .int (nI n)), (3, .int (nI z))] := hl
  refine lv_aload_n hx hb dL_open_0 rfl (lv_at hl 0 rfl) ?_
  refine lv_iload_n hx hb dL_open_1 rfl (lv_at hl 1 rfl) ?_
  refine lv_iload_n hx hb dL_open_2 rfl (lv_at hl 2 rfl) ?_
  refine lv_iload_n hx hb dL_open_3 rfl (lv_at hl 3 rfl) ?_
  have hFc := va_free (wc := [(h0, .inr (0, [.ref ab, .int (nI rc), .int (nI rl), .int (nI ps)])), (ab, .inl (cI, 4096, .inl f))]) hD hS hA [0, 1] rfl
  refine va_callv (va_runV (C := RX0) (As := [.int (nI h), .int (nI n), .int (nI z)]) (rest := []) ⟨hx, hb, hml, hown, hts⟩ (c_X0_open l dC dI cI h0 ab rc rl ps f s.heap.size h n z ok) (cwV 3 hts gL_open_X0_open rfl rfl rfl (by decide +kernel) ⟨Nat.le_of_ble_eq_true rfl, Nat.le_of_ble_eq_true rfl⟩) ⟨fun a U g mk q => by obtain ⟨q0, q1, qP, qK, qD⟩ := q; exact ⟨q0, q1, qP, va_K.moved (u := U) (U := U.calling g mk a) (Vm.Alike.refl U.vm) qK, qD⟩, va_recv hK hP (ci := 0) (q0 := 0) rfl rfl, fun U hU hW => ⟨rfl, by rw [hU], by rw [hU]; exact hP, va_K.moved hW.alike hK, hD.weaken (fun _ _ _ _ => trivial)⟩⟩ rfl rfl hl.1 rfl (lv_room (Nat.le_of_ble_eq_true rfl)) dL_open_4 ⟨Nat.zero_le _, Nat.zero_le _⟩) hS (fun q _ h => hFc q h) hFc (fun u t9 H1 locs ht hvm hw hB hz1 hk1 hS => ?_)
  obtain ⟨hP1, hK1, hD1⟩ := hB
  rw [ht] at hP1
  obtain ⟨hP, hD⟩ := va_join (wr := []) (w1 := [(h0, .inr (0, [.ref ab, .int (nI h), .int (nI n), .int (nI z)])), (ab, .inl (cI, 4096, .inl (rf_p f (fun _ => 0) 0 4096)))]) hP hD [0, 1] [] rfl rfl (by decide) (by decide) hk1 hFc hP1 hD1
  generalize H1 = H at hP hS ⊢
  have hP : va_P (dC, dI) rw_cl [(h0, .inr (0, [.ref ab, .int (nI h), .int (nI n), .int (nI z)])), (ab, .inl (cI, 4096, .inl (rf_p f (fun _ => 0) 0 4096)))] H := hP
  have hD : va_D A [(h0, .inr (0, [.ref ab, .int (nI h), .int (nI n), .int (nI z)])), (ab, .inl (cI, 4096, .inl (rf_p f (fun _ => 0) 0 4096)))] := hD
  refine W.widen (k := 0) (n := 0) (Nat.le_refl _) (Nat.le_refl _) ?_
  refine lv_goto (tgt := 14) hx hb dL_open_7 (by decide) ?_
  refine lv_iconst (v := 0) hx hb dL_open_14 (by decide) ?_
  exact W.iret (v := 0) hx hb hr (fun t ht hW => ⟨⟨0, (), rfl, rfl, by rw [ht]; exact hP, va_K.moved hW.alike hK, hD⟩, hS.F ht⟩) hS.2.2 dL_open_15
set_option maxHeartbeats 4000000 in
set_option maxRecDepth 100000 in
theorem c_L_set (l : Launch) (dC : Nat → ClassId) (dI : Nat → Nat → Nat) (cI : ClassId) (h0 ab rc rl ps : Nat) (f : Nat → Int32) (cL : ClassId) (oa : Nat) (o : Nat → Int64) (sz : Nat) (y i : Nat) (v : Int32) (ok : rf_ok rc rl ps) (hy : y < rc) (hi : i < rl) (hv1 : ¬ v < 0) (hv2 : ¬ 255 < v) : Met l yL_set wsL_set ({ frames := 4, cells := 0, slots := 0, locals := 90 }) (va_Pc [.ref h0, .int (nI y), .int (nI i), .int v, .ref oa] (fun U => rl_preD dC dI cI h0 ab rc rl ps f cL oa o sz U)) (va_Qi (fun (r : Int32) (_ : Unit) => r = 0) (fun _ t9 => rl_B dC dI cI h0 ab rc rl ps (upd f (y * rl + i) v) cL oa (vp_updL o 0 (f (y * rl + i)).toInt64) (va_A (rl_W h0 ab cI rc rl ps f cL oa o) sz) t9) (va_A (rl_W h0 ab cI rc rl ps f cL oa o) sz)) 0 0 (va_A (rl_W h0 ab cI rc rl ps f cL oa o) sz) := by
  refine va_MetW (cc := cL_set) (maxL := 6) (ret := some .int) (by decide) rfl ?_
  intro p e s m args below meth c s₁ B hml hv
  obtain ⟨rfl, hsz, hP, hK, hD0⟩ := hv
  have hx := B.exec
  have hb := B.bytes
  have hr := B.returns
  have hts := atoms_spec (ws := wsL_set) B.pre
  have hown : s.vm.findClass RL = some m.cls := findClass_of_methodNamed B.named
  have hlocks := B.notSynchronized
  subst hsz
  have hD := hD0.self (sz := s.heap.size)
  generalize hAe : va_A (rl_W h0 ab cI rc rl ps f cL oa o) s.heap.size = A at hD ⊢
  have hA : ∀ q : Nat, s.heap.size ≤ q → A q := fun q h => by rw [← hAe]; exact Or.inr h
  have hS : va_S A s.heap s.heap [] := va_S.rf
  have hP : va_P (dC, dI) rw_cl (rl_W h0 ab cI rc rl ps f cL oa o) s.heap := hP
  have hl := lv_entry ([.ref h0, .int (nI y), .int (nI i), .int v, .ref oa]) (n := 6) (Nat.le_of_ble_eq_true rfl)
  rw [lg_entry_eq]
  generalize (lg_sl ([.ref h0, .int (nI y), .int (nI i), .int v, .ref oa]) ++ List.replicate (6 - (lg_sl ([.ref h0, .int (nI y), .int (nI i), .int v, .ref oa])).length) Slot.unset).toArray = ls at hl ⊢
  have hl : lv_has ls 6 [(0, .ref h0), (1, .int (nI y)), (2, .int (nI i)), (3, .int v), (4, .ref oa)] := hl
  refine lv_aload hx hb dL_set_0 (lv_at hl 4 rfl) ?_
  refine lv_iconst (v := 0) hx hb dL_set_2 (by decide) ?_
  refine lv_aload_n hx hb dL_set_3 rfl (lv_at hl 0 rfl) ?_
  refine lv_iload_n hx hb dL_set_4 rfl (lv_at hl 1 rfl) ?_
  refine lv_iload_n hx hb dL_set_5 rfl (lv_at hl 2 rfl) ?_
  refine lv_iload_n hx hb dL_set_6 rfl (lv_at hl 3 rfl) ?_
  have hPc := hP.sub (ws' := [(h0, .inr (0, [.ref ab, .int (nI rc), .int (nI rl), .int (nI ps)])), (ab, .inl (cI, 4096, .inl f))]) [0, 1] rfl
  have hDc := hD.sub (ws' := [(h0, .inr (0, [.ref ab, .int (nI rc), .int (nI rl), .int (nI ps)])), (ab, .inl (cI, 4096, .inl f))]) [0, 1] (by decide) rfl
  have hKc := hK.sub (tys' := [(cI, .int)]) [0] rfl
  have hFc := va_free (wc := [(h0, .inr (0, [.ref ab, .int (nI rc), .int (nI rl), .int (nI ps)])), (ab, .inl (cI, 4096, .inl f))]) hD hS hA [0, 1] rfl
  refine va_calli (va_runV (C := RX0) (As := [.int (nI y), .int (nI i), .int v]) (rest := [.int 0, .ref oa]) ⟨hx, hb, hml, hown, hts⟩ (c_X0_set l dC dI cI h0 ab rc rl ps f s.heap.size y i v ok hy hi hv1 hv2) (cwV 3 hts gL_set_X0_set rfl rfl rfl (by decide +kernel) ⟨Nat.le_of_ble_eq_true rfl, Nat.le_of_ble_eq_true rfl⟩) ⟨fun a U g mk q => by obtain ⟨q0, q1, qP, qK, qD⟩ := q; exact ⟨q0, q1, qP, va_K.moved (u := U) (U := U.calling g mk a) (Vm.Alike.refl U.vm) qK, qD⟩, va_recv hK hP (ci := 0) (q0 := 0) rfl rfl, fun U hU hW => ⟨rfl, by rw [hU], by rw [hU]; exact hPc, va_K.moved hW.alike hKc, hDc.weaken (fun _ _ _ _ => trivial)⟩⟩ rfl rfl hl.1 rfl (lv_room (Nat.le_of_ble_eq_true rfl)) dL_set_7 ⟨Nat.zero_le _, Nat.zero_le _⟩) hS (fun q _ h => hFc q h) hFc (fun r u t9 H1 locs ht hvm er hB hz1 hk1 hS => ?_)
  obtain ⟨hP1, hK1, hD1⟩ := hB
  rw [ht] at hP1
  obtain ⟨hP, hD⟩ := va_join (wr := [(oa, .inl (cL, 1, .inr (.inl o)))]) (w1 := [(h0, .inr (0, [.ref ab, .int (nI rc), .int (nI rl), .int (nI ps)])), (ab, .inl (cI, 4096, .inl (upd f (y * rl + i) v)))]) hP hD [0, 1] [2] rfl rfl (by decide) (by decide) hk1 hFc hP1 hD1
  generalize H1 = H at hP hS ⊢
  have hP := hP.sub (ws' := [(h0, .inr (0, [.ref ab, .int (nI rc), .int (nI rl), .int (nI ps)])), (ab, .inl (cI, 4096, .inl (upd f (y * rl + i) v))), (oa, .inl (cL, 1, .inr (.inl o)))]) [1, 2, 0] rfl
  have hD := hD.sub (ws' := [(h0, .inr (0, [.ref ab, .int (nI rc), .int (nI rl), .int (nI ps)])), (ab, .inl (cI, 4096, .inl (upd f (y * rl + i) v))), (oa, .inl (cL, 1, .inr (.inl o)))]) [1, 2, 0] (by decide) rfl
  have hP : va_P (dC, dI) rw_cl [(h0, .inr (0, [.ref ab, .int (nI rc), .int (nI rl), .int (nI ps)])), (ab, .inl (cI, 4096, .inl (upd f (y * rl + i) v))), (oa, .inl (cL, 1, .inr (.inl o)))] H := hP
  have hD : va_D A [(h0, .inr (0, [.ref ab, .int (nI rc), .int (nI rl), .int (nI ps)])), (ab, .inl (cI, 4096, .inl (upd f (y * rl + i) v))), (oa, .inl (cL, 1, .inr (.inl o)))] := hD
  refine W.widen (k := 0) (n := 0) (Nat.le_refl _) (Nat.le_refl _) ?_
  subst er
  refine lv_i2l hx hb dL_set_10 rfl ?_
  refine va_last hx hb hK hP hD hS 2 1 rfl rfl (vp_in_nI (n := 0) (by omega) (by omega)) dL_set_11 (fun H locs hP hD hS => ?_)
  rw [show (0 : Int32).toNatClampNeg = 0 from by decide] at hP hD
  have hP : va_P (dC, dI) rw_cl [(h0, .inr (0, [.ref ab, .int (nI rc), .int (nI rl), .int (nI ps)])), (ab, .inl (cI, 4096, .inl (upd f (y * rl + i) v))), (oa, .inl (cL, 1, .inr (.inl (vp_updL o 0 ((f (y * rl + i)).toInt64)))))] H := hP
  have hD : va_D A [(h0, .inr (0, [.ref ab, .int (nI rc), .int (nI rl), .int (nI ps)])), (ab, .inl (cI, 4096, .inl (upd f (y * rl + i) v))), (oa, .inl (cL, 1, .inr (.inl (vp_updL o 0 ((f (y * rl + i)).toInt64)))))] := hD
  refine lv_goto (tgt := 19) hx hb dL_set_12 (by decide) ?_
  refine lv_iconst (v := 0) hx hb dL_set_19 (by decide) ?_
  exact W.iret (v := 0) hx hb hr (fun t ht hW => ⟨⟨0, (), rfl, rfl, by rw [ht]; exact hP, va_K.moved hW.alike hK, hD⟩, hS.F ht⟩) hS.2.2 dL_set_20
set_option maxHeartbeats 4000000 in
set_option maxRecDepth 100000 in
theorem c_L_get (l : Launch) (dC : Nat → ClassId) (dI : Nat → Nat → Nat) (cI : ClassId) (h0 ab rc rl ps : Nat) (f : Nat → Int32) (cL : ClassId) (oa : Nat) (o : Nat → Int64) (sz : Nat) (y i : Nat) (ok : rf_ok rc rl ps) (hy : y < rc) (hi : i < rl) : Met l yL_get wsL_get ({ frames := 4, cells := 0, slots := 0, locals := 87 }) (va_Pc [.ref h0, .int (nI y), .int (nI i), .ref oa] (fun U => rl_preD dC dI cI h0 ab rc rl ps f cL oa o sz U)) (va_Qi (fun (r : Int32) (_ : Unit) => r = 0) (fun _ t9 => rl_B dC dI cI h0 ab rc rl ps (f) cL oa (vp_updL o 0 (f (y * rl + i)).toInt64) (va_A (rl_W h0 ab cI rc rl ps f cL oa o) sz) t9) (va_A (rl_W h0 ab cI rc rl ps f cL oa o) sz)) 0 0 (va_A (rl_W h0 ab cI rc rl ps f cL oa o) sz) := by
  refine va_MetW (cc := cL_get) (maxL := 5) (ret := some .int) (by decide) rfl ?_
  intro p e s m args below meth c s₁ B hml hv
  obtain ⟨rfl, hsz, hP, hK, hD0⟩ := hv
  have hx := B.exec
  have hb := B.bytes
  have hr := B.returns
  have hts := atoms_spec (ws := wsL_get) B.pre
  have hown : s.vm.findClass RL = some m.cls := findClass_of_methodNamed B.named
  have hlocks := B.notSynchronized
  subst hsz
  have hD := hD0.self (sz := s.heap.size)
  generalize hAe : va_A (rl_W h0 ab cI rc rl ps f cL oa o) s.heap.size = A at hD ⊢
  have hA : ∀ q : Nat, s.heap.size ≤ q → A q := fun q h => by rw [← hAe]; exact Or.inr h
  have hS : va_S A s.heap s.heap [] := va_S.rf
  have hP : va_P (dC, dI) rw_cl (rl_W h0 ab cI rc rl ps f cL oa o) s.heap := hP
  have hl := lv_entry ([.ref h0, .int (nI y), .int (nI i), .ref oa]) (n := 5) (Nat.le_of_ble_eq_true rfl)
  rw [lg_entry_eq]
  generalize (lg_sl ([.ref h0, .int (nI y), .int (nI i), .ref oa]) ++ List.replicate (5 - (lg_sl ([.ref h0, .int (nI y), .int (nI i), .ref oa])).length) Slot.unset).toArray = ls at hl ⊢
  have hl : lv_has ls 5 [(0, .ref h0), (1, .int (nI y)), (2, .int (nI i)), (3, .ref oa)] := hl
  refine lv_aload_n hx hb dL_get_0 rfl (lv_at hl 3 rfl) ?_
  refine lv_iconst (v := 0) hx hb dL_get_1 (by decide) ?_
  refine lv_aload_n hx hb dL_get_2 rfl (lv_at hl 0 rfl) ?_
  refine lv_iload_n hx hb dL_get_3 rfl (lv_at hl 1 rfl) ?_
  refine lv_iload_n hx hb dL_get_4 rfl (lv_at hl 2 rfl) ?_
  have hPc := hP.sub (ws' := [(h0, .inr (0, [.ref ab, .int (nI rc), .int (nI rl), .int (nI ps)])), (ab, .inl (cI, 4096, .inl f))]) [0, 1] rfl
  have hKc := hK.sub (tys' := [(cI, .int)]) [0] rfl
  refine vp_callSi (W.runV (C := RX0) (As := [.int (nI y), .int (nI i)]) (rest := [.int 0, .ref oa]) ⟨hx, hb, hml, hown, hts⟩ (c_X0_get l dC dI cI h0 ab rc rl ps f y i ok hy hi) (cwV 2 hts gL_get_X0_get rfl rfl rfl (by decide +kernel) ⟨Nat.le_of_ble_eq_true rfl, Nat.le_of_ble_eq_true rfl⟩) ⟨fun a U g mk q => by obtain ⟨q0, qP, qK⟩ := q; exact ⟨q0, qP, va_K.moved (u := U) (U := U.calling g mk a) (Vm.Alike.refl U.vm) qK⟩, va_recv hK hP (ci := 0) (q0 := 0) rfl rfl, fun U hU hW => ⟨rfl, by rw [hU]; exact hPc, va_K.moved hW.alike hKc⟩⟩ rfl rfl hl.1 rfl (lv_room (Nat.le_of_ble_eq_true rfl)) dL_get_5 ⟨Nat.zero_le _, Nat.zero_le _⟩) (fun r er => ?_)
  subst er
  refine lv_i2l hx hb dL_get_8 rfl ?_
  refine va_last hx hb hK hP hD hS 2 1 rfl rfl (vp_in_nI (n := 0) (by omega) (by omega)) dL_get_9 (fun H locs hP hD hS => ?_)
  rw [show (0 : Int32).toNatClampNeg = 0 from by decide] at hP hD
  have hP : va_P (dC, dI) rw_cl [(h0, .inr (0, [.ref ab, .int (nI rc), .int (nI rl), .int (nI ps)])), (ab, .inl (cI, 4096, .inl f)), (oa, .inl (cL, 1, .inr (.inl (vp_updL o 0 ((f (y * rl + i)).toInt64)))))] H := hP
  have hD : va_D A [(h0, .inr (0, [.ref ab, .int (nI rc), .int (nI rl), .int (nI ps)])), (ab, .inl (cI, 4096, .inl f)), (oa, .inl (cL, 1, .inr (.inl (vp_updL o 0 ((f (y * rl + i)).toInt64)))))] := hD
  refine lv_goto (tgt := 17) hx hb dL_get_10 (by decide) ?_
  refine lv_iconst (v := 0) hx hb dL_get_17 (by decide) ?_
  exact W.iret (v := 0) hx hb hr (fun t ht hW => ⟨⟨0, (), rfl, rfl, by rw [ht]; exact hP, va_K.moved hW.alike hK, hD⟩, hS.F ht⟩) hS.2.2 dL_get_18
set_option maxHeartbeats 4000000 in
set_option maxRecDepth 100000 in
theorem c_L_filter (l : Launch) (dC : Nat → ClassId) (dI : Nat → Nat → Nat) (cI : ClassId) (h0 ab rc rl ps : Nat) (f : Nat → Int32) (sz : Nat) (y q : Nat) (ok : rf_ok rc rl ps) (hy : y < rc) (hq : q ≤ 4) : Met l yL_filter wsL_filter ({ frames := 5, cells := 0, slots := 0, locals := 110 }) (va_Pc [.ref h0, .int (nI y), .int (nI q)] (fun U => rw_preD dC dI cI h0 ab rc rl ps f sz U)) (va_Qi (fun (r : Int32) (_ : Unit) => r = 0) (fun _ t9 => rw_B dC dI cI h0 ab rc rl ps (rf_p f (rf_tv f rl ps y q) (y * rl) (y * rl + rl)) (va_A (rw_W h0 ab cI rc rl ps f) sz) t9) (va_A (rw_W h0 ab cI rc rl ps f) sz)) 0 0 (va_A (rw_W h0 ab cI rc rl ps f) sz) := by
  refine va_MetW (cc := cL_filter) (maxL := 4) (ret := some .int) (by decide) rfl ?_
  intro p e s m args below meth c s₁ B hml hv
  obtain ⟨rfl, hsz, hP, hK, hD0⟩ := hv
  have hx := B.exec
  have hb := B.bytes
  have hr := B.returns
  have hts := atoms_spec (ws := wsL_filter) B.pre
  have hown : s.vm.findClass RL = some m.cls := findClass_of_methodNamed B.named
  have hlocks := B.notSynchronized
  subst hsz
  have hD := hD0.self (sz := s.heap.size)
  generalize hAe : va_A (rw_W h0 ab cI rc rl ps f) s.heap.size = A at hD ⊢
  have hA : ∀ q : Nat, s.heap.size ≤ q → A q := fun q h => by rw [← hAe]; exact Or.inr h
  have hS : va_S A s.heap s.heap [] := va_S.rf
  have hP : va_P (dC, dI) rw_cl (rw_W h0 ab cI rc rl ps f) s.heap := hP
  have hl := lv_entry ([.ref h0, .int (nI y), .int (nI q)]) (n := 4) (Nat.le_of_ble_eq_true rfl)
  rw [lg_entry_eq]
  generalize (lg_sl ([.ref h0, .int (nI y), .int (nI q)]) ++ List.replicate (4 - (lg_sl ([.ref h0, .int (nI y), .int (nI q)])).length) Slot.unset).toArray = ls at hl ⊢
  have hl : lv_has ls 4 [(0, .ref h0), (1, .int (nI y)), (2, .int (nI q))] := hl
  refine lv_aload_n hx hb dL_filter_0 rfl (lv_at hl 0 rfl) ?_
  refine lv_iload_n hx hb dL_filter_1 rfl (lv_at hl 1 rfl) ?_
  refine lv_iload_n hx hb dL_filter_2 rfl (lv_at hl 2 rfl) ?_
  have hFc := va_free (wc := [(h0, .inr (0, [.ref ab, .int (nI rc), .int (nI rl), .int (nI ps)])), (ab, .inl (cI, 4096, .inl f))]) hD hS hA [0, 1] rfl
  refine va_callv (va_runV (C := RX0) (As := [.int (nI y), .int (nI q)]) (rest := []) ⟨hx, hb, hml, hown, hts⟩ (c_X0_filter l dC dI cI h0 ab rc rl ps f s.heap.size y q ok hy hq) (cwV 2 hts gL_filter_X0_filter rfl rfl rfl (by decide +kernel) ⟨Nat.le_of_ble_eq_true rfl, Nat.le_of_ble_eq_true rfl⟩) ⟨fun a U g mk q => by obtain ⟨q0, q1, qP, qK, qD⟩ := q; exact ⟨q0, q1, qP, va_K.moved (u := U) (U := U.calling g mk a) (Vm.Alike.refl U.vm) qK, qD⟩, va_recv hK hP (ci := 0) (q0 := 0) rfl rfl, fun U hU hW => ⟨rfl, by rw [hU], by rw [hU]; exact hP, va_K.moved hW.alike hK, hD.weaken (fun _ _ _ _ => trivial)⟩⟩ rfl rfl hl.1 rfl (lv_room (Nat.le_of_ble_eq_true rfl)) dL_filter_3 ⟨Nat.zero_le _, Nat.zero_le _⟩) hS (fun q _ h => hFc q h) hFc (fun u t9 H1 locs ht hvm hw hB hz1 hk1 hS => ?_)
  obtain ⟨hP1, hK1, hD1⟩ := hB
  rw [ht] at hP1
  obtain ⟨hP, hD⟩ := va_join (wr := []) (w1 := [(h0, .inr (0, [.ref ab, .int (nI rc), .int (nI rl), .int (nI ps)])), (ab, .inl (cI, 4096, .inl (rf_p f (rf_tv f rl ps y q) (y * rl) (y * rl + rl))))]) hP hD [0, 1] [] rfl rfl (by decide) (by decide) hk1 hFc hP1 hD1
  generalize H1 = H at hP hS ⊢
  have hP : va_P (dC, dI) rw_cl [(h0, .inr (0, [.ref ab, .int (nI rc), .int (nI rl), .int (nI ps)])), (ab, .inl (cI, 4096, .inl (rf_p f (rf_tv f rl ps y q) (y * rl) (y * rl + rl))))] H := hP
  have hD : va_D A [(h0, .inr (0, [.ref ab, .int (nI rc), .int (nI rl), .int (nI ps)])), (ab, .inl (cI, 4096, .inl (rf_p f (rf_tv f rl ps y q) (y * rl) (y * rl + rl))))] := hD
  refine W.widen (k := 0) (n := 0) (Nat.le_refl _) (Nat.le_refl _) ?_
  refine lv_goto (tgt := 12) hx hb dL_filter_6 (by decide) ?_
  refine lv_iconst (v := 0) hx hb dL_filter_12 (by decide) ?_
  exact W.iret (v := 0) hx hb hr (fun t ht hW => ⟨⟨0, (), rfl, rfl, by rw [ht]; exact hP, va_K.moved hW.alike hK, hD⟩, hS.F ht⟩) hS.2.2 dL_filter_13
set_option maxHeartbeats 4000000 in
set_option maxRecDepth 100000 in
theorem c_L_plain (l : Launch) (dC : Nat → ClassId) (dI : Nat → Nat → Nat) (cI : ClassId) (h0 ab rc rl ps : Nat) (f : Nat → Int32) (sz : Nat) (y q : Nat) (ok : rf_ok rc rl ps) (hy : y < rc) (hq : q ≤ 4) : Met l yL_plain wsL_plain ({ frames := 5, cells := 0, slots := 0, locals := 110 }) (va_Pc [.ref h0, .int (nI y), .int (nI q)] (fun U => rw_preD dC dI cI h0 ab rc rl ps f sz U)) (va_Qi (fun (r : Int32) (_ : Unit) => r = 0) (fun _ t9 => rw_B dC dI cI h0 ab rc rl ps (rf_U f rl ps y q rl) (va_A (rw_W h0 ab cI rc rl ps f) sz) t9) (va_A (rw_W h0 ab cI rc rl ps f) sz)) 0 0 (va_A (rw_W h0 ab cI rc rl ps f) sz) := by
  refine va_MetW (cc := cL_plain) (maxL := 4) (ret := some .int) (by decide) rfl ?_
  intro p e s m args below meth c s₁ B hml hv
  obtain ⟨rfl, hsz, hP, hK, hD0⟩ := hv
  have hx := B.exec
  have hb := B.bytes
  have hr := B.returns
  have hts := atoms_spec (ws := wsL_plain) B.pre
  have hown : s.vm.findClass RL = some m.cls := findClass_of_methodNamed B.named
  have hlocks := B.notSynchronized
  subst hsz
  have hD := hD0.self (sz := s.heap.size)
  generalize hAe : va_A (rw_W h0 ab cI rc rl ps f) s.heap.size = A at hD ⊢
  have hA : ∀ q : Nat, s.heap.size ≤ q → A q := fun q h => by rw [← hAe]; exact Or.inr h
  have hS : va_S A s.heap s.heap [] := va_S.rf
  have hP : va_P (dC, dI) rw_cl (rw_W h0 ab cI rc rl ps f) s.heap := hP
  have hl := lv_entry ([.ref h0, .int (nI y), .int (nI q)]) (n := 4) (Nat.le_of_ble_eq_true rfl)
  rw [lg_entry_eq]
  generalize (lg_sl ([.ref h0, .int (nI y), .int (nI q)]) ++ List.replicate (4 - (lg_sl ([.ref h0, .int (nI y), .int (nI q)])).length) Slot.unset).toArray = ls at hl ⊢
  have hl : lv_has ls 4 [(0, .ref h0), (1, .int (nI y)), (2, .int (nI q))] := hl
  refine lv_aload_n hx hb dL_plain_0 rfl (lv_at hl 0 rfl) ?_
  refine lv_iload_n hx hb dL_plain_1 rfl (lv_at hl 1 rfl) ?_
  refine lv_iload_n hx hb dL_plain_2 rfl (lv_at hl 2 rfl) ?_
  have hFc := va_free (wc := [(h0, .inr (0, [.ref ab, .int (nI rc), .int (nI rl), .int (nI ps)])), (ab, .inl (cI, 4096, .inl f))]) hD hS hA [0, 1] rfl
  refine va_callv (va_runV (C := RX0) (As := [.int (nI y), .int (nI q)]) (rest := []) ⟨hx, hb, hml, hown, hts⟩ (c_X0_plain l dC dI cI h0 ab rc rl ps f s.heap.size y q ok hy hq) (cwV 2 hts gL_plain_X0_plain rfl rfl rfl (by decide +kernel) ⟨Nat.le_of_ble_eq_true rfl, Nat.le_of_ble_eq_true rfl⟩) ⟨fun a U g mk q => by obtain ⟨q0, q1, qP, qK, qD⟩ := q; exact ⟨q0, q1, qP, va_K.moved (u := U) (U := U.calling g mk a) (Vm.Alike.refl U.vm) qK, qD⟩, va_recv hK hP (ci := 0) (q0 := 0) rfl rfl, fun U hU hW => ⟨rfl, by rw [hU], by rw [hU]; exact hP, va_K.moved hW.alike hK, hD.weaken (fun _ _ _ _ => trivial)⟩⟩ rfl rfl hl.1 rfl (lv_room (Nat.le_of_ble_eq_true rfl)) dL_plain_3 ⟨Nat.zero_le _, Nat.zero_le _⟩) hS (fun q _ h => hFc q h) hFc (fun u t9 H1 locs ht hvm hw hB hz1 hk1 hS => ?_)
  obtain ⟨hP1, hK1, hD1⟩ := hB
  rw [ht] at hP1
  obtain ⟨hP, hD⟩ := va_join (wr := []) (w1 := [(h0, .inr (0, [.ref ab, .int (nI rc), .int (nI rl), .int (nI ps)])), (ab, .inl (cI, 4096, .inl (rf_U f rl ps y q rl)))]) hP hD [0, 1] [] rfl rfl (by decide) (by decide) hk1 hFc hP1 hD1
  generalize H1 = H at hP hS ⊢
  have hP : va_P (dC, dI) rw_cl [(h0, .inr (0, [.ref ab, .int (nI rc), .int (nI rl), .int (nI ps)])), (ab, .inl (cI, 4096, .inl (rf_U f rl ps y q rl)))] H := hP
  have hD : va_D A [(h0, .inr (0, [.ref ab, .int (nI rc), .int (nI rl), .int (nI ps)])), (ab, .inl (cI, 4096, .inl (rf_U f rl ps y q rl)))] := hD
  refine W.widen (k := 0) (n := 0) (Nat.le_refl _) (Nat.le_refl _) ?_
  refine lv_goto (tgt := 12) hx hb dL_plain_6 (by decide) ?_
  refine lv_iconst (v := 0) hx hb dL_plain_12 (by decide) ?_
  exact W.iret (v := 0) hx hb hr (fun t ht hW => ⟨⟨0, (), rfl, rfl, by rw [ht]; exact hP, va_K.moved hW.alike hK, hD⟩, hS.F ht⟩) hS.2.2 dL_plain_13
set_option maxHeartbeats 4000000 in
set_option maxRecDepth 100000 in
theorem c_L_undo (l : Launch) (dC : Nat → ClassId) (dI : Nat → Nat → Nat) (cI : ClassId) (h0 ab rc rl ps : Nat) (f : Nat → Int32) (sz : Nat) (n : Nat) (ok : rf_ok rc rl ps) (hn : n ≤ 390624) : Met l yL_undo wsL_undo ({ frames := 5, cells := 0, slots := 0, locals := 112 }) (va_Pc [.ref h0, .int (nI n)] (fun U => rw_preD dC dI cI h0 ab rc rl ps f sz U)) (va_Qi (fun (r : Int32) (_ : Unit) => r = 0) (fun _ t9 => rw_B dC dI cI h0 ab rc rl ps (rf_D f rl ps n (min rc 8)) (va_A (rw_W h0 ab cI rc rl ps f) sz) t9) (va_A (rw_W h0 ab cI rc rl ps f) sz)) 0 0 (va_A (rw_W h0 ab cI rc rl ps f) sz) := by
  refine va_MetW (cc := cL_undo) (maxL := 3) (ret := some .int) (by decide) rfl ?_
  intro p e s m args below meth c s₁ B hml hv
  obtain ⟨rfl, hsz, hP, hK, hD0⟩ := hv
  have hx := B.exec
  have hb := B.bytes
  have hr := B.returns
  have hts := atoms_spec (ws := wsL_undo) B.pre
  have hown : s.vm.findClass RL = some m.cls := findClass_of_methodNamed B.named
  have hlocks := B.notSynchronized
  subst hsz
  have hD := hD0.self (sz := s.heap.size)
  generalize hAe : va_A (rw_W h0 ab cI rc rl ps f) s.heap.size = A at hD ⊢
  have hA : ∀ q : Nat, s.heap.size ≤ q → A q := fun q h => by rw [← hAe]; exact Or.inr h
  have hS : va_S A s.heap s.heap [] := va_S.rf
  have hP : va_P (dC, dI) rw_cl (rw_W h0 ab cI rc rl ps f) s.heap := hP
  have hl := lv_entry ([.ref h0, .int (nI n)]) (n := 3) (Nat.le_of_ble_eq_true rfl)
  rw [lg_entry_eq]
  generalize (lg_sl ([.ref h0, .int (nI n)]) ++ List.replicate (3 - (lg_sl ([.ref h0, .int (nI n)])).length) Slot.unset).toArray = ls at hl ⊢
  have hl : lv_has ls 3 [(0, .ref h0), (1, .int (nI n))] := hl
  refine lv_aload_n hx hb dL_undo_0 rfl (lv_at hl 0 rfl) ?_
  refine lv_iload_n hx hb dL_undo_1 rfl (lv_at hl 1 rfl) ?_
  have hFc := va_free (wc := [(h0, .inr (0, [.ref ab, .int (nI rc), .int (nI rl), .int (nI ps)])), (ab, .inl (cI, 4096, .inl f))]) hD hS hA [0, 1] rfl
  refine va_callv (va_runV (C := RX0) (As := [.int (nI n)]) (rest := []) ⟨hx, hb, hml, hown, hts⟩ (c_X0_undo l dC dI cI h0 ab rc rl ps f s.heap.size n ok hn) (cwV 1 hts gL_undo_X0_undo rfl rfl rfl (by decide +kernel) ⟨Nat.le_of_ble_eq_true rfl, Nat.le_of_ble_eq_true rfl⟩) ⟨fun a U g mk q => by obtain ⟨q0, q1, qP, qK, qD⟩ := q; exact ⟨q0, q1, qP, va_K.moved (u := U) (U := U.calling g mk a) (Vm.Alike.refl U.vm) qK, qD⟩, va_recv hK hP (ci := 0) (q0 := 0) rfl rfl, fun U hU hW => ⟨rfl, by rw [hU], by rw [hU]; exact hP, va_K.moved hW.alike hK, hD.weaken (fun _ _ _ _ => trivial)⟩⟩ rfl rfl hl.1 rfl (lv_room (Nat.le_of_ble_eq_true rfl)) dL_undo_2 ⟨Nat.zero_le _, Nat.zero_le _⟩) hS (fun q _ h => hFc q h) hFc (fun u t9 H1 locs ht hvm hw hB hz1 hk1 hS => ?_)
  obtain ⟨hP1, hK1, hD1⟩ := hB
  rw [ht] at hP1
  obtain ⟨hP, hD⟩ := va_join (wr := []) (w1 := [(h0, .inr (0, [.ref ab, .int (nI rc), .int (nI rl), .int (nI ps)])), (ab, .inl (cI, 4096, .inl (rf_D f rl ps n (min rc 8))))]) hP hD [0, 1] [] rfl rfl (by decide) (by decide) hk1 hFc hP1 hD1
  generalize H1 = H at hP hS ⊢
  have hP : va_P (dC, dI) rw_cl [(h0, .inr (0, [.ref ab, .int (nI rc), .int (nI rl), .int (nI ps)])), (ab, .inl (cI, 4096, .inl (rf_D f rl ps n (min rc 8))))] H := hP
  have hD : va_D A [(h0, .inr (0, [.ref ab, .int (nI rc), .int (nI rl), .int (nI ps)])), (ab, .inl (cI, 4096, .inl (rf_D f rl ps n (min rc 8))))] := hD
  refine W.widen (k := 0) (n := 0) (Nat.le_refl _) (Nat.le_refl _) ?_
  refine lv_goto (tgt := 11) hx hb dL_undo_5 (by decide) ?_
  refine lv_iconst (v := 0) hx hb dL_undo_11 (by decide) ?_
  exact W.iret (v := 0) hx hb hr (fun t ht hW => ⟨⟨0, (), rfl, rfl, by rw [ht]; exact hP, va_K.moved hW.alike hK, hD⟩, hS.F ht⟩) hS.2.2 dL_undo_12
set_option maxHeartbeats 4000000 in
set_option maxRecDepth 100000 in
theorem c_L_pass (l : Launch) (dC : Nat → ClassId) (dI : Nat → Nat → Nat) (cI : ClassId) (h0 ab rc rl ps : Nat) (f : Nat → Int32) (cL : ClassId) (oa : Nat) (o : Nat → Int64) (sz : Nat) (k w h : Nat) (b : Int32) (hk : k ≤ 6) (hw1 : 1 ≤ w) (hw2 : w ≤ 100000) (hh1 : 1 ≤ h) (hh2 : h ≤ 100000) (t1 t2 t3 t4 : Nat) : Met l yL_pass wsL_pass ({ frames := 2, cells := 0, slots := 0, locals := 48 }) (va_Pc [.ref h0, .int (nI k), .int (nI w), .int (nI h), .int b, .ref oa] (fun U => rw_st t1 t2 t3 t4 U ∧ rl_preD dC dI cI h0 ab rc rl ps f cL oa o sz U)) (va_Qi (fun (r : Int32) (_ : Unit) => r = 0) (fun _ t9 => rl_B dC dI cI h0 ab rc rl ps (f) cL oa (vp_updL o 0 (rf_pr k w h b).toInt64) (va_A (rl_W h0 ab cI rc rl ps f cL oa o) sz) t9) (va_A (rl_W h0 ab cI rc rl ps f cL oa o) sz)) 0 0 (va_A (rl_W h0 ab cI rc rl ps f cL oa o) sz) := by
  refine va_MetW (cc := cL_pass) (maxL := 7) (ret := some .int) (by decide) rfl ?_
  intro p e s m args below meth c s₁ B hml hv
  obtain ⟨rfl, hZ, hsz, hP, hK, hD0⟩ := hv
  have hx := B.exec
  have hb := B.bytes
  have hr := B.returns
  have hts := atoms_spec (ws := wsL_pass) B.pre
  have hown : s.vm.findClass RL = some m.cls := findClass_of_methodNamed B.named
  have hlocks := B.notSynchronized
  subst hsz
  have hD := hD0.self (sz := s.heap.size)
  generalize hAe : va_A (rl_W h0 ab cI rc rl ps f cL oa o) s.heap.size = A at hD ⊢
  have hA : ∀ q : Nat, s.heap.size ≤ q → A q := fun q h => by rw [← hAe]; exact Or.inr h
  have hS : va_S A s.heap s.heap [] := va_S.rf
  have hP : va_P (dC, dI) rw_cl (rl_W h0 ab cI rc rl ps f cL oa o) s.heap := hP
  have hl := lv_entry ([.ref h0, .int (nI k), .int (nI w), .int (nI h), .int b, .ref oa]) (n := 7) (Nat.le_of_ble_eq_true rfl)
  rw [lg_entry_eq]
  generalize (lg_sl ([.ref h0, .int (nI k), .int (nI w), .int (nI h), .int b, .ref oa]) ++ List.replicate (7 - (lg_sl ([.ref h0, .int (nI k), .int (nI w), .int (nI h), .int b, .ref oa])).length) Slot.unset).toArray = ls at hl ⊢
  have hl : lv_has ls 7 [(0, .ref h0), (1, .int (nI k)), (2, .int (nI w)), (3, .int (nI h)), (4, .int b), (5, .ref oa)] := hl
  refine lv_aload hx hb dL_pass_0 (lv_at hl 5 rfl) ?_
  refine lv_iconst (v := 0) hx hb dL_pass_2 (by decide) ?_
  refine lv_aload_n hx hb dL_pass_3 rfl (lv_at hl 0 rfl) ?_
  refine lv_iload_n hx hb dL_pass_4 rfl (lv_at hl 1 rfl) ?_
  refine lv_iload_n hx hb dL_pass_5 rfl (lv_at hl 2 rfl) ?_
  refine lv_iload_n hx hb dL_pass_6 rfl (lv_at hl 3 rfl) ?_
  refine lv_iload hx hb dL_pass_7 (lv_at hl 4 rfl) ?_
  refine vp_callSi (W.runV (C := RX0) (As := [.int (nI k), .int (nI w), .int (nI h), .int b]) (rest := [.int 0, .ref oa]) ⟨hx, hb, hml, hown, hts⟩ (c_X0_pass l t1 t2 t3 t4 h0 k w h b hk hw1 hw2 hh1 hh2) (cwV 4 hts gL_pass_X0_pass rfl rfl rfl (by decide +kernel) ⟨Nat.le_of_ble_eq_true rfl, Nat.le_of_ble_eq_true rfl⟩) ⟨fun a U g mk q => ⟨q.1, rw_st.call q.2⟩, va_recv hK hP (ci := 0) (q0 := 0) rfl rfl, fun U hU hW => ⟨rfl, rw_st.to hZ va_S.rf hU hW⟩⟩ rfl rfl hl.1 rfl (lv_room (Nat.le_of_ble_eq_true rfl)) dL_pass_9 ⟨Nat.zero_le _, Nat.zero_le _⟩) (fun r er => ?_)
  subst er
  refine lv_i2l hx hb dL_pass_12 rfl ?_
  refine va_last hx hb hK hP hD hS 2 1 rfl rfl (vp_in_nI (n := 0) (by omega) (by omega)) dL_pass_13 (fun H locs hP hD hS => ?_)
  rw [show (0 : Int32).toNatClampNeg = 0 from by decide] at hP hD
  have hP : va_P (dC, dI) rw_cl [(h0, .inr (0, [.ref ab, .int (nI rc), .int (nI rl), .int (nI ps)])), (ab, .inl (cI, 4096, .inl f)), (oa, .inl (cL, 1, .inr (.inl (vp_updL o 0 ((rf_pr k w h b).toInt64)))))] H := hP
  have hD : va_D A [(h0, .inr (0, [.ref ab, .int (nI rc), .int (nI rl), .int (nI ps)])), (ab, .inl (cI, 4096, .inl f)), (oa, .inl (cL, 1, .inr (.inl (vp_updL o 0 ((rf_pr k w h b).toInt64)))))] := hD
  refine lv_goto (tgt := 21) hx hb dL_pass_14 (by decide) ?_
  refine lv_iconst (v := 0) hx hb dL_pass_21 (by decide) ?_
  exact W.iret (v := 0) hx hb hr (fun t ht hW => ⟨⟨0, (), rfl, rfl, by rw [ht]; exact hP, va_K.moved hW.alike hK, hD⟩, hS.F ht⟩) hS.2.2 dL_pass_22
set_option maxHeartbeats 4000000 in
set_option maxRecDepth 100000 in
theorem c_L_passOf (l : Launch) (dC : Nat → ClassId) (dI : Nat → Nat → Nat) (cI : ClassId) (h0 ab rc rl ps : Nat) (f : Nat → Int32) (cL : ClassId) (oa : Nat) (o : Nat → Int64) (sz : Nat) (x y k9 : Nat) (hx9 : x ≤ 99999) (hy9 : y ≤ 99999) (hk9 : rf_po x y k9) (t1 t2 t3 t4 : Nat) : Met l yL_passOf wsL_passOf ({ frames := 2, cells := 0, slots := 0, locals := 45 }) (va_Pc [.ref h0, .int (nI x), .int (nI y), .ref oa] (fun U => rw_st t1 t2 t3 t4 U ∧ rl_preD dC dI cI h0 ab rc rl ps f cL oa o sz U)) (va_Qi (fun (r : Int32) (_ : Unit) => r = 0) (fun _ t9 => rl_B dC dI cI h0 ab rc rl ps (f) cL oa (vp_updL o 0 (nI k9).toInt64) (va_A (rl_W h0 ab cI rc rl ps f cL oa o) sz) t9) (va_A (rl_W h0 ab cI rc rl ps f cL oa o) sz)) 0 0 (va_A (rl_W h0 ab cI rc rl ps f cL oa o) sz) := by
  refine va_MetW (cc := cL_passOf) (maxL := 5) (ret := some .int) (by decide) rfl ?_
  intro p e s m args below meth c s₁ B hml hv
  obtain ⟨rfl, hZ, hsz, hP, hK, hD0⟩ := hv
  have hx := B.exec
  have hb := B.bytes
  have hr := B.returns
  have hts := atoms_spec (ws := wsL_passOf) B.pre
  have hown : s.vm.findClass RL = some m.cls := findClass_of_methodNamed B.named
  have hlocks := B.notSynchronized
  subst hsz
  have hD := hD0.self (sz := s.heap.size)
  generalize hAe : va_A (rl_W h0 ab cI rc rl ps f cL oa o) s.heap.size = A at hD ⊢
  have hA : ∀ q : Nat, s.heap.size ≤ q → A q := fun q h => by rw [← hAe]; exact Or.inr h
  have hS : va_S A s.heap s.heap [] := va_S.rf
  have hP : va_P (dC, dI) rw_cl (rl_W h0 ab cI rc rl ps f cL oa o) s.heap := hP
  have hl := lv_entry ([.ref h0, .int (nI x), .int (nI y), .ref oa]) (n := 5) (Nat.le_of_ble_eq_true rfl)
  rw [lg_entry_eq]
  generalize (lg_sl ([.ref h0, .int (nI x), .int (nI y), .ref oa]) ++ List.replicate (5 - (lg_sl ([.ref h0, .int (nI x), .int (nI y), .ref oa])).length) Slot.unset).toArray = ls at hl ⊢
  have hl : lv_has ls 5 [(0, .ref h0), (1, .int (nI x)), (2, .int (nI y)), (3, .ref oa)] := hl
  refine lv_aload_n hx hb dL_passOf_0 rfl (lv_at hl 3 rfl) ?_
  refine lv_iconst (v := 0) hx hb dL_passOf_1 (by decide) ?_
  refine lv_aload_n hx hb dL_passOf_2 rfl (lv_at hl 0 rfl) ?_
  refine lv_iload_n hx hb dL_passOf_3 rfl (lv_at hl 1 rfl) ?_
  refine lv_iload_n hx hb dL_passOf_4 rfl (lv_at hl 2 rfl) ?_
  refine vp_callSi (W.runV (C := RX0) (As := [.int (nI x), .int (nI y)]) (rest := [.int 0, .ref oa]) ⟨hx, hb, hml, hown, hts⟩ (c_X0_passOf l t1 t2 t3 t4 h0 x y hx9 hy9) (cwV 2 hts gL_passOf_X0_passOf rfl rfl rfl (by decide +kernel) ⟨Nat.le_of_ble_eq_true rfl, Nat.le_of_ble_eq_true rfl⟩) ⟨fun a U g mk q => ⟨q.1, rw_st.call q.2⟩, va_recv hK hP (ci := 0) (q0 := 0) rfl rfl, fun U hU hW => ⟨rfl, rw_st.to hZ va_S.rf hU hW⟩⟩ rfl rfl hl.1 rfl (lv_room (Nat.le_of_ble_eq_true rfl)) dL_passOf_5 ⟨Nat.zero_le _, Nat.zero_le _⟩) (fun r er => ?_)
  obtain ⟨k8, er, hk8⟩ := er
  have er : r = nI k9 := by rw [er, rf_po_u hk8 hk9]
  subst er
  refine lv_i2l hx hb dL_passOf_8 rfl ?_
  refine va_last hx hb hK hP hD hS 2 1 rfl rfl (vp_in_nI (n := 0) (by omega) (by omega)) dL_passOf_9 (fun H locs hP hD hS => ?_)
  rw [show (0 : Int32).toNatClampNeg = 0 from by decide] at hP hD
  have hP : va_P (dC, dI) rw_cl [(h0, .inr (0, [.ref ab, .int (nI rc), .int (nI rl), .int (nI ps)])), (ab, .inl (cI, 4096, .inl f)), (oa, .inl (cL, 1, .inr (.inl (vp_updL o 0 ((nI k9).toInt64)))))] H := hP
  have hD : va_D A [(h0, .inr (0, [.ref ab, .int (nI rc), .int (nI rl), .int (nI ps)])), (ab, .inl (cI, 4096, .inl f)), (oa, .inl (cL, 1, .inr (.inl (vp_updL o 0 ((nI k9).toInt64)))))] := hD
  refine lv_goto (tgt := 17) hx hb dL_passOf_10 (by decide) ?_
  refine lv_iconst (v := 0) hx hb dL_passOf_17 (by decide) ?_
  exact W.iret (v := 0) hx hb hr (fun t ht hW => ⟨⟨0, (), rfl, rfl, by rw [ht]; exact hP, va_K.moved hW.alike hK, hD⟩, hS.F ht⟩) hS.2.2 dL_passOf_18
