set_option maxHeartbeats 4000000 in
set_option maxRecDepth 100000 in
theorem c_L_open_bad (l : Launch) (hl9 : l.stackTraces = false) (sa : Nat) (dC : Nat → ClassId) (dI : Nat → Nat → Nat) (cI : ClassId) (h0 ab rc rl ps : Nat) (f : Nat → Int32) (sz : Nat) (h n z : Int32) (hb0 : ¬ rf_op h n z) : Met l yL_open wsL_open ({ frames := 8, cells := 1, slots := 6, locals := 127 }) (va_Pc [.ref h0, .int h, .int n, .int z] (fun U => rw_XA (fun q => sz ≤ q) sa U U.heap ∧ rw_preD dC dI cI h0 ab rc rl ps f sz U)) (va_Qi (fun (r : Int32) (_ : Unit) => r = 1) (fun _ t9 => rw_B dC dI cI h0 ab rc rl ps (f) (va_A (rw_W h0 ab cI rc rl ps f) sz) t9) (va_A (rw_W h0 ab cI rc rl ps f) sz)) 1 6 (va_A (rw_W h0 ab cI rc rl ps f) sz) := by
  refine va_MetW (cc := cL_open) (maxL := 5) (ret := some .int) (by decide) rfl ?_
  intro p e s m args below meth c s₁ B hml hv
  obtain ⟨rfl, hX, hsz, hP, hK, hD0⟩ := hv
  have hx := B.exec
  have hb := B.bytes
  have hr := B.returns
  have hts := atoms_spec (ws := wsL_open) B.pre
  have hown : s.vm.findClass RL = some m.cls := findClass_of_methodNamed B.named
  have hlocks := B.notSynchronized
  subst hsz
  have hD := hD0.self (sz := s.heap.size)
  generalize hAe : va_A (rw_W h0 ab cI rc rl ps f) s.heap.size = A at hD ⊢
  have hA : ∀ q : Nat, s.heap.size ≤ q → A q := fun q h => by rw [← hAe]; exact Or.inr h
  have hS : va_S A s.heap s.heap [] := va_S.rf
  have hP : va_P (dC, dI) rw_cl (rw_W h0 ab cI rc rl ps f) s.heap := hP
  have hl := lv_entry ([.ref h0, .int h, .int n, .int z]) (n := 5) (Nat.le_of_ble_eq_true rfl)
  rw [lg_entry_eq]
  generalize (lg_sl ([.ref h0, .int h, .int n, .int z]) ++ List.replicate (5 - (lg_sl ([.ref h0, .int h, .int n, .int z])).length) Slot.unset).toArray = ls at hl ⊢
  have hl : lv_has ls 5 [(0, .ref h0), (1, .int h), (2, .int n), (3, .int z)] := hl
  refine lv_aload_n hx hb dL_open_0 rfl (lv_at hl 0 rfl) ?_
  refine lv_iload_n hx hb dL_open_1 rfl (lv_at hl 1 rfl) ?_
  refine lv_iload_n hx hb dL_open_2 rfl (lv_at hl 2 rfl) ?_
  refine lv_iload_n hx hb dL_open_3 rfl (lv_at hl 3 rfl) ?_
  refine vx_callv (vx_runV (C := RX0) (As := [.int h, .int n, .int z]) (rest := []) ⟨hx, hb, hml, hown, hts⟩ (c_X0_open_x l hl9 s.heap.size sa dC dI cI h0 ab rc rl ps f h n z hb0) (cwV 3 hts gL_open_X0_open rfl rfl rfl (by decide +kernel) ⟨Nat.le_of_ble_eq_true rfl, Nat.le_of_ble_eq_true rfl⟩) ⟨fun a U g mk q => by obtain ⟨q0, q1, qX, qP, qK⟩ := q; exact ⟨q0, q1, rw_XA.call qX, qP, va_K.moved (u := U) (U := U.calling g mk a) (Vm.Alike.refl U.vm) qK⟩, va_recv hK hP (ci := 0) (q0 := 0) rfl rfl, fun U hU hW => ⟨rfl, by rw [hU], rw_XA.go hX hU hW, by rw [hU]; exact hP, va_K.moved hW.alike hK⟩⟩ rfl rfl hl.1 rfl (lv_room (Nat.le_of_ble_eq_true rfl)) dL_open_4 ⟨Nat.le_refl _, Nat.le_refl _⟩) hS (fun q _ h => hA q h) (fun q h => hA q h) (fun q _ h => hA q h) (fun E ce q9 u t9 H1 locs ht hvm hpx hE hz1 hk1 hS hc1 hc2 hc3 => ?_) (fun u t9 H1 locs ht hvm hw hB hz1 hk1 hS => hw.elim)
  have hE : E = "java/lang/IllegalArgumentException" := hE
  subst hE
  have hP := hP.kept (H1 := H1) (fun k q hk => hk1 q.1 (vx_lt hP hk) (Nat.not_le.mpr (vx_lt hP hk)))
  generalize H1 = H at hP hS hc1 ⊢
  have hP : va_P (dC, dI) rw_cl [(h0, .inr (0, [.ref ab, .int (nI rc), .int (nI rl), .int (nI ps)])), (ab, .inl (cI, 4096, .inl f))] H := hP
  have hD : va_D A [(h0, .inr (0, [.ref ab, .int (nI rc), .int (nI rl), .int (nI ps)])), (ab, .inl (cI, 4096, .inl f))] := hD
  refine vx_catch hown [] _ [] (vx_table (x := yL_open) B (hts (.codeWith yL_open cL_open 5 (some .int) [(0, 7, 10, 13)]) List.mem_cons_self)) (fun z h => by cases h) (by decide) (by decide) (hts (.classLink RL 13 "java/lang/IllegalArgumentException") (by decide +kernel)) (va_Nw.use rfl hX.2.2.2.1) hc1 hc2 hc3 ?_
  refine W.eq (g2 := F0 m 10 ls [.ref q9]) rfl ?_
  refine lv_astore hx hb dL_open_10 hl (by decide) rfl (fun ls hl => ?_)
  have hl : lv_has ls 5 [(4, .ref q9), (0, .ref h0), (1, .int h), (2, .int n), (3, .int z)] := hl
  refine lv_iconst (v := 1) hx hb dL_open_12 (by decide) ?_
  exact W.iret (v := 1) hx hb hr (fun t ht hW => ⟨⟨1, (), rfl, rfl, by rw [ht]; exact hP, va_K.moved hW.alike hK, hD⟩, hS.F ht⟩) hS.2.2 dL_open_13
set_option maxHeartbeats 4000000 in
set_option maxRecDepth 100000 in
theorem c_L_set_bad (l : Launch) (hl9 : l.stackTraces = false) (sa : Nat) (dC : Nat → ClassId) (dI : Nat → Nat → Nat) (cI : ClassId) (h0 ab rc rl ps : Nat) (f : Nat → Int32) (cL : ClassId) (oa : Nat) (o : Nat → Int64) (sz : Nat) (y i v : Int32) (hb0 : ((y < 0 ∨ nI rc - 1 < y) ∨ (i < 0 ∨ nI rl - 1 < i)) ∨ (v < 0 ∨ 255 < v)) : Met l yL_set wsL_set ({ frames := 10, cells := 1, slots := 6, locals := 172 }) (va_Pc [.ref h0, .int y, .int i, .int v, .ref oa] (fun U => rw_XA (fun q => sz ≤ q) sa U U.heap ∧ rl_preD dC dI cI h0 ab rc rl ps f cL oa o sz U)) (va_Qi (fun (r : Int32) (_ : Unit) => r = 1) (fun _ t9 => rl_B dC dI cI h0 ab rc rl ps f cL oa o (va_A (rl_W h0 ab cI rc rl ps f cL oa o) sz) t9) (va_A (rl_W h0 ab cI rc rl ps f cL oa o) sz)) 1 6 (va_A (rl_W h0 ab cI rc rl ps f cL oa o) sz) := by
  refine va_MetW (cc := cL_set) (maxL := 6) (ret := some .int) (by decide) rfl ?_
  intro p e s m args below meth c s₁ B hml hv
  obtain ⟨rfl, hX, hsz, hP, hK, hD0⟩ := hv
  have hx := B.exec
  have hb := B.bytes
  have hr := B.returns
  have hts := atoms_spec (ws := wsL_set) B.pre
  have hown : s.vm.findClass RL = some m.cls := findClass_of_methodNamed B.named
  have hlocks := B.notSynchronized
  subst hsz
  have hD := hD0.self (sz := s.heap.size)
  generalize hAe : va_A (rl_W h0 ab cI rc rl ps f cL oa o) s.heap.size = A at hD ⊢
  have hA : ∀ q : Nat, s.heap.size ≤ q → A q := fun q h => by rw [← hAe]; exact Or.inr h
  have hS : va_S A s.heap s.heap [] := va_S.rf
  have hP : va_P (dC, dI) rw_cl (rl_W h0 ab cI rc rl ps f cL oa o) s.heap := hP
  have hl := lv_entry ([.ref h0, .int y, .int i, .int v, .ref oa]) (n := 6) (Nat.le_of_ble_eq_true rfl)
  rw [lg_entry_eq]
  generalize (lg_sl ([.ref h0, .int y, .int i, .int v, .ref oa]) ++ List.replicate (6 - (lg_sl ([.ref h0, .int y, .int i, .int v, .ref oa])).length) Slot.unset).toArray = ls at hl ⊢
  have hl : lv_has ls 6 [(0, .ref h0), (1, .int y), (2, .int i), (3, .int v), (4, .ref oa)] := hl
  refine lv_aload hx hb dL_set_0 (lv_at hl 4 rfl) ?_
  refine lv_iconst (v := 0) hx hb dL_set_2 (by decide) ?_
  refine lv_aload_n hx hb dL_set_3 rfl (lv_at hl 0 rfl) ?_
  refine lv_iload_n hx hb dL_set_4 rfl (lv_at hl 1 rfl) ?_
  refine lv_iload_n hx hb dL_set_5 rfl (lv_at hl 2 rfl) ?_
  refine lv_iload_n hx hb dL_set_6 rfl (lv_at hl 3 rfl) ?_
  have hPc := hP.sub (ws' := [(h0, .inr (0, [.ref ab, .int (nI rc), .int (nI rl), .int (nI ps)])), (ab, .inl (cI, 4096, .inl f))]) [0, 1] rfl
  have hKc := hK.sub (tys' := [(cI, .int)]) [0] rfl
  refine vx_calli (vx_runV (C := RX0) (As := [.int y, .int i, .int v]) (rest := [.int 0, .ref oa]) ⟨hx, hb, hml, hown, hts⟩ (c_X0_set_x l hl9 s.heap.size sa dC dI cI h0 ab rc rl ps f y i v hb0) (cwV 3 hts gL_set_X0_set rfl rfl rfl (by decide +kernel) ⟨Nat.le_of_ble_eq_true rfl, Nat.le_of_ble_eq_true rfl⟩) ⟨fun a U g mk q => by obtain ⟨q0, q1, qX, qP, qK⟩ := q; exact ⟨q0, q1, rw_XA.call qX, qP, va_K.moved (u := U) (U := U.calling g mk a) (Vm.Alike.refl U.vm) qK⟩, va_recv hK hP (ci := 0) (q0 := 0) rfl rfl, fun U hU hW => ⟨rfl, by rw [hU], rw_XA.go hX hU hW, by rw [hU]; exact hPc, va_K.moved hW.alike hKc⟩⟩ rfl rfl hl.1 rfl (lv_room (Nat.le_of_ble_eq_true rfl)) dL_set_7 ⟨Nat.le_refl _, Nat.le_refl _⟩) hS (fun q _ h => hA q h) (fun q h => hA q h) (fun q _ h => hA q h) (fun E ce q9 u t9 H1 locs ht hvm hpx hE hz1 hk1 hS hc1 hc2 hc3 => ?_) (fun r9 u t9 H1 locs ht hvm hw hB hz1 hk1 hS => hw.elim)
  have hE : E = "java/lang/IllegalArgumentException" := hE
  subst hE
  have hP := hP.kept (H1 := H1) (fun k q hk => hk1 q.1 (vx_lt hP hk) (Nat.not_le.mpr (vx_lt hP hk)))
  generalize H1 = H at hP hS hc1 ⊢
  have hP : va_P (dC, dI) rw_cl [(h0, .inr (0, [.ref ab, .int (nI rc), .int (nI rl), .int (nI ps)])), (ab, .inl (cI, 4096, .inl f)), (oa, .inl (cL, 1, .inr (.inl o)))] H := hP
  have hD : va_D A [(h0, .inr (0, [.ref ab, .int (nI rc), .int (nI rl), .int (nI ps)])), (ab, .inl (cI, 4096, .inl f)), (oa, .inl (cL, 1, .inr (.inl o)))] := hD
  refine vx_catch hown [] _ [] (vx_table (x := yL_set) B (hts (.codeWith yL_set cL_set 6 (some .int) [(0, 12, 15, 13)]) List.mem_cons_self)) (fun z h => by cases h) (by decide) (by decide) (hts (.classLink RL 13 "java/lang/IllegalArgumentException") (by decide +kernel)) (va_Nw.use rfl hX.2.2.2.1) hc1 hc2 hc3 ?_
  refine W.eq (g2 := F0 m 15 ls [.ref q9]) rfl ?_
  refine lv_astore hx hb dL_set_15 hl (by decide) rfl (fun ls hl => ?_)
  have hl : lv_has ls 6 [(5, .ref q9), (0, .ref h0), (1, .int y), (2, .int i), (3, .int v), (4, .ref oa)] := hl
  refine lv_iconst (v := 1) hx hb dL_set_17 (by decide) ?_
  exact W.iret (v := 1) hx hb hr (fun t ht hW => ⟨⟨1, (), rfl, rfl, by rw [ht]; exact hP, va_K.moved hW.alike hK, hD⟩, hS.F ht⟩) hS.2.2 dL_set_18
set_option maxHeartbeats 4000000 in
set_option maxRecDepth 100000 in
theorem c_L_get_bad (l : Launch) (hl9 : l.stackTraces = false) (sa : Nat) (dC : Nat → ClassId) (dI : Nat → Nat → Nat) (cI : ClassId) (h0 ab rc rl ps : Nat) (f : Nat → Int32) (cL : ClassId) (oa : Nat) (o : Nat → Int64) (sz : Nat) (y i : Int32) (hb0 : (y < 0 ∨ nI rc - 1 < y) ∨ (i < 0 ∨ nI rl - 1 < i)) : Met l yL_get wsL_get ({ frames := 10, cells := 1, slots := 6, locals := 169 }) (va_Pc [.ref h0, .int y, .int i, .ref oa] (fun U => rw_XA (fun q => sz ≤ q) sa U U.heap ∧ rl_preD dC dI cI h0 ab rc rl ps f cL oa o sz U)) (va_Qi (fun (r : Int32) (_ : Unit) => r = 1) (fun _ t9 => rl_B dC dI cI h0 ab rc rl ps f cL oa o (va_A (rl_W h0 ab cI rc rl ps f cL oa o) sz) t9) (va_A (rl_W h0 ab cI rc rl ps f cL oa o) sz)) 1 6 (va_A (rl_W h0 ab cI rc rl ps f cL oa o) sz) := by
  refine va_MetW (cc := cL_get) (maxL := 5) (ret := some .int) (by decide) rfl ?_
  intro p e s m args below meth c s₁ B hml hv
  obtain ⟨rfl, hX, hsz, hP, hK, hD0⟩ := hv
  have hx := B.exec
  have hb := B.bytes
  have hr := B.returns
  have hts := atoms_spec (ws := wsL_get) B.pre
  have hown : s.vm.findClass RL = some m.cls := findClass_of_methodNamed B.named
  have hlocks := B.notSynchronized
  subst hsz
  have hD := hD0.self (sz := s.heap.size)
  generalize hAe : va_A (rl_W h0 ab cI rc rl ps f cL oa o) s.heap.size = A at hD ⊢
  have hA : ∀ q : Nat, s.heap.size ≤ q → A q := fun q h => by rw [← hAe]; exact Or.inr h
  have hS : va_S A s.heap s.heap [] := va_S.rf
  have hP : va_P (dC, dI) rw_cl (rl_W h0 ab cI rc rl ps f cL oa o) s.heap := hP
  have hl := lv_entry ([.ref h0, .int y, .int i, .ref oa]) (n := 5) (Nat.le_of_ble_eq_true rfl)
  rw [lg_entry_eq]
  generalize (lg_sl ([.ref h0, .int y, .int i, .ref oa]) ++ List.replicate (5 - (lg_sl ([.ref h0, .int y, .int i, .ref oa])).length) Slot.unset).toArray = ls at hl ⊢
  have hl : lv_has ls 5 [(0, .ref h0), (1, .int y), (2, .int i), (3, .ref oa)] := hl
  refine lv_aload_n hx hb dL_get_0 rfl (lv_at hl 3 rfl) ?_
  refine lv_iconst (v := 0) hx hb dL_get_1 (by decide) ?_
  refine lv_aload_n hx hb dL_get_2 rfl (lv_at hl 0 rfl) ?_
  refine lv_iload_n hx hb dL_get_3 rfl (lv_at hl 1 rfl) ?_
  refine lv_iload_n hx hb dL_get_4 rfl (lv_at hl 2 rfl) ?_
  have hPc := hP.sub (ws' := [(h0, .inr (0, [.ref ab, .int (nI rc), .int (nI rl), .int (nI ps)])), (ab, .inl (cI, 4096, .inl f))]) [0, 1] rfl
  have hKc := hK.sub (tys' := [(cI, .int)]) [0] rfl
  refine vx_calli (vx_runV (C := RX0) (As := [.int y, .int i]) (rest := [.int 0, .ref oa]) ⟨hx, hb, hml, hown, hts⟩ (c_X0_get_x l hl9 s.heap.size sa dC dI cI h0 ab rc rl ps f y i hb0) (cwV 2 hts gL_get_X0_get rfl rfl rfl (by decide +kernel) ⟨Nat.le_of_ble_eq_true rfl, Nat.le_of_ble_eq_true rfl⟩) ⟨fun a U g mk q => by obtain ⟨q0, q1, qX, qP, qK⟩ := q; exact ⟨q0, q1, rw_XA.call qX, qP, va_K.moved (u := U) (U := U.calling g mk a) (Vm.Alike.refl U.vm) qK⟩, va_recv hK hP (ci := 0) (q0 := 0) rfl rfl, fun U hU hW => ⟨rfl, by rw [hU], rw_XA.go hX hU hW, by rw [hU]; exact hPc, va_K.moved hW.alike hKc⟩⟩ rfl rfl hl.1 rfl (lv_room (Nat.le_of_ble_eq_true rfl)) dL_get_5 ⟨Nat.le_refl _, Nat.le_refl _⟩) hS (fun q _ h => hA q h) (fun q h => hA q h) (fun q _ h => hA q h) (fun E ce q9 u t9 H1 locs ht hvm hpx hE hz1 hk1 hS hc1 hc2 hc3 => ?_) (fun r9 u t9 H1 locs ht hvm hw hB hz1 hk1 hS => hw.elim)
  have hE : E = "java/lang/IllegalArgumentException" := hE
  subst hE
  have hP := hP.kept (H1 := H1) (fun k q hk => hk1 q.1 (vx_lt hP hk) (Nat.not_le.mpr (vx_lt hP hk)))
  generalize H1 = H at hP hS hc1 ⊢
  have hP : va_P (dC, dI) rw_cl [(h0, .inr (0, [.ref ab, .int (nI rc), .int (nI rl), .int (nI ps)])), (ab, .inl (cI, 4096, .inl f)), (oa, .inl (cL, 1, .inr (.inl o)))] H := hP
  have hD : va_D A [(h0, .inr (0, [.ref ab, .int (nI rc), .int (nI rl), .int (nI ps)])), (ab, .inl (cI, 4096, .inl f)), (oa, .inl (cL, 1, .inr (.inl o)))] := hD
  refine vx_catch hown [] _ [] (vx_table (x := yL_get) B (hts (.codeWith yL_get cL_get 5 (some .int) [(0, 10, 13, 13)]) List.mem_cons_self)) (fun z h => by cases h) (by decide) (by decide) (hts (.classLink RL 13 "java/lang/IllegalArgumentException") (by decide +kernel)) (va_Nw.use rfl hX.2.2.2.1) hc1 hc2 hc3 ?_
  refine W.eq (g2 := F0 m 13 ls [.ref q9]) rfl ?_
  refine lv_astore hx hb dL_get_13 hl (by decide) rfl (fun ls hl => ?_)
  have hl : lv_has ls 5 [(4, .ref q9), (0, .ref h0), (1, .int y), (2, .int i), (3, .ref oa)] := hl
  refine lv_iconst (v := 1) hx hb dL_get_15 (by decide) ?_
  exact W.iret (v := 1) hx hb hr (fun t ht hW => ⟨⟨1, (), rfl, rfl, by rw [ht]; exact hP, va_K.moved hW.alike hK, hD⟩, hS.F ht⟩) hS.2.2 dL_get_16
set_option maxHeartbeats 4000000 in
set_option maxRecDepth 100000 in
theorem c_L_filter_bad (l : Launch) (hl9 : l.stackTraces = false) (sa : Nat) (dC : Nat → ClassId) (dI : Nat → Nat → Nat) (cI : ClassId) (h0 ab rc rl ps : Nat) (f : Nat → Int32) (sz : Nat) (y q : Int32) (hb0 : (y < 0 ∨ nI rc - 1 < y) ∨ (q < 0 ∨ 4 < q)) : Met l yL_filter wsL_filter ({ frames := 9, cells := 1, slots := 6, locals := 147 }) (va_Pc [.ref h0, .int y, .int q] (fun U => rw_XA (fun q => sz ≤ q) sa U U.heap ∧ rw_preD dC dI cI h0 ab rc rl ps f sz U)) (va_Qi (fun (r : Int32) (_ : Unit) => r = 1) (fun _ t9 => rw_B dC dI cI h0 ab rc rl ps (f) (va_A (rw_W h0 ab cI rc rl ps f) sz) t9) (va_A (rw_W h0 ab cI rc rl ps f) sz)) 1 6 (va_A (rw_W h0 ab cI rc rl ps f) sz) := by
  refine va_MetW (cc := cL_filter) (maxL := 4) (ret := some .int) (by decide) rfl ?_
  intro p e s m args below meth c s₁ B hml hv
  obtain ⟨rfl, hX, hsz, hP, hK, hD0⟩ := hv
  have hx := B.exec
  have hb := B.bytes
  have hr := B.returns
  have hts := atoms_spec (ws := wsL_filter) B.pre
  have hown : s.vm.findClass RL = some m.cls := findClass_of_methodNamed B.named
  have hlocks := B.notSynchronized
  subst hsz
  have hD := hD0.self (sz := s.heap.size)
  generalize hAe : va_A (rw_W h0 ab cI rc rl ps f) s.heap.size = A at hD ⊢
  have hA : ∀ q : Nat, s.heap.size ≤ q → A q := fun q h => by rw [← hAe]; exact Or.inr h
  have hS : va_S A s.heap s.heap [] := va_S.rf
  have hP : va_P (dC, dI) rw_cl (rw_W h0 ab cI rc rl ps f) s.heap := hP
  have hl := lv_entry ([.ref h0, .int y, .int q]) (n := 4) (Nat.le_of_ble_eq_true rfl)
  rw [lg_entry_eq]
  generalize (lg_sl ([.ref h0, .int y, .int q]) ++ List.replicate (4 - (lg_sl ([.ref h0, .int y, .int q])).length) Slot.unset).toArray = ls at hl ⊢
  have hl : lv_has ls 4 [(0, .ref h0), (1, .int y), (2, .int q)] := hl
  refine lv_aload_n hx hb dL_filter_0 rfl (lv_at hl 0 rfl) ?_
  refine lv_iload_n hx hb dL_filter_1 rfl (lv_at hl 1 rfl) ?_
  refine lv_iload_n hx hb dL_filter_2 rfl (lv_at hl 2 rfl) ?_
  refine vx_callv (vx_runV (C := RX0) (As := [.int y, .int q]) (rest := []) ⟨hx, hb, hml, hown, hts⟩ (c_X0_filter_x l hl9 s.heap.size sa dC dI cI h0 ab rc rl ps f y q hb0) (cwV 2 hts gL_filter_X0_filter rfl rfl rfl (by decide +kernel) ⟨Nat.le_of_ble_eq_true rfl, Nat.le_of_ble_eq_true rfl⟩) ⟨fun a U g mk q => by obtain ⟨q0, q1, qX, qP, qK⟩ := q; exact ⟨q0, q1, rw_XA.call qX, qP, va_K.moved (u := U) (U := U.calling g mk a) (Vm.Alike.refl U.vm) qK⟩, va_recv hK hP (ci := 0) (q0 := 0) rfl rfl, fun U hU hW => ⟨rfl, by rw [hU], rw_XA.go hX hU hW, by rw [hU]; exact hP, va_K.moved hW.alike hK⟩⟩ rfl rfl hl.1 rfl (lv_room (Nat.le_of_ble_eq_true rfl)) dL_filter_3 ⟨Nat.le_refl _, Nat.le_refl _⟩) hS (fun q _ h => hA q h) (fun q h => hA q h) (fun q _ h => hA q h) (fun E ce q9 u t9 H1 locs ht hvm hpx hE hz1 hk1 hS hc1 hc2 hc3 => ?_) (fun u t9 H1 locs ht hvm hw hB hz1 hk1 hS => hw.elim)
  have hE : E = "java/lang/IllegalArgumentException" := hE
  subst hE
  have hP := hP.kept (H1 := H1) (fun k q hk => hk1 q.1 (vx_lt hP hk) (Nat.not_le.mpr (vx_lt hP hk)))
  generalize H1 = H at hP hS hc1 ⊢
  have hP : va_P (dC, dI) rw_cl [(h0, .inr (0, [.ref ab, .int (nI rc), .int (nI rl), .int (nI ps)])), (ab, .inl (cI, 4096, .inl f))] H := hP
  have hD : va_D A [(h0, .inr (0, [.ref ab, .int (nI rc), .int (nI rl), .int (nI ps)])), (ab, .inl (cI, 4096, .inl f))] := hD
  refine vx_catch hown [] _ [] (vx_table (x := yL_filter) B (hts (.codeWith yL_filter cL_filter 4 (some .int) [(0, 6, 9, 13)]) List.mem_cons_self)) (fun z h => by cases h) (by decide) (by decide) (hts (.classLink RL 13 "java/lang/IllegalArgumentException") (by decide +kernel)) (va_Nw.use rfl hX.2.2.2.1) hc1 hc2 hc3 ?_
  refine W.eq (g2 := F0 m 9 ls [.ref q9]) rfl ?_
  refine lv_astore_n hx hb dL_filter_9 rfl hl (by decide) rfl (fun ls hl => ?_)
  have hl : lv_has ls 4 [(3, .ref q9), (0, .ref h0), (1, .int y), (2, .int q)] := hl
  refine lv_iconst (v := 1) hx hb dL_filter_10 (by decide) ?_
  exact W.iret (v := 1) hx hb hr (fun t ht hW => ⟨⟨1, (), rfl, rfl, by rw [ht]; exact hP, va_K.moved hW.alike hK, hD⟩, hS.F ht⟩) hS.2.2 dL_filter_11
set_option maxHeartbeats 4000000 in
set_option maxRecDepth 100000 in
theorem c_L_plain_bad (l : Launch) (hl9 : l.stackTraces = false) (sa : Nat) (dC : Nat → ClassId) (dI : Nat → Nat → Nat) (cI : ClassId) (h0 ab rc rl ps : Nat) (f : Nat → Int32) (sz : Nat) (y q : Int32) (hb0 : (y < 0 ∨ nI rc - 1 < y) ∨ (q < 0 ∨ 4 < q)) : Met l yL_plain wsL_plain ({ frames := 9, cells := 1, slots := 6, locals := 147 }) (va_Pc [.ref h0, .int y, .int q] (fun U => rw_XA (fun q => sz ≤ q) sa U U.heap ∧ rw_preD dC dI cI h0 ab rc rl ps f sz U)) (va_Qi (fun (r : Int32) (_ : Unit) => r = 1) (fun _ t9 => rw_B dC dI cI h0 ab rc rl ps (f) (va_A (rw_W h0 ab cI rc rl ps f) sz) t9) (va_A (rw_W h0 ab cI rc rl ps f) sz)) 1 6 (va_A (rw_W h0 ab cI rc rl ps f) sz) := by
  refine va_MetW (cc := cL_plain) (maxL := 4) (ret := some .int) (by decide) rfl ?_
  intro p e s m args below meth c s₁ B hml hv
  obtain ⟨rfl, hX, hsz, hP, hK, hD0⟩ := hv
  have hx := B.exec
  have hb := B.bytes
  have hr := B.returns
  have hts := atoms_spec (ws := wsL_plain) B.pre
  have hown : s.vm.findClass RL = some m.cls := findClass_of_methodNamed B.named
  have hlocks := B.notSynchronized
  subst hsz
  have hD := hD0.self (sz := s.heap.size)
  generalize hAe : va_A (rw_W h0 ab cI rc rl ps f) s.heap.size = A at hD ⊢
  have hA : ∀ q : Nat, s.heap.size ≤ q → A q := fun q h => by rw [← hAe]; exact Or.inr h
  have hS : va_S A s.heap s.heap [] := va_S.rf
  have hP : va_P (dC, dI) rw_cl (rw_W h0 ab cI rc rl ps f) s.heap := hP
  have hl := lv_entry ([.ref h0, .int y, .int q]) (n := 4) (Nat.le_of_ble_eq_true rfl)
  rw [lg_entry_eq]
  generalize (lg_sl ([.ref h0, .int y, .int q]) ++ List.replicate (4 - (lg_sl ([.ref h0, .int y, .int q])).length) Slot.unset).toArray = ls at hl ⊢
  have hl : lv_has ls 4 [(0, .ref h0), (1, .int y), (2, .int q)] := hl
  refine lv_aload_n hx hb dL_plain_0 rfl (lv_at hl 0 rfl) ?_
  refine lv_iload_n hx hb dL_plain_1 rfl (lv_at hl 1 rfl) ?_
  refine lv_iload_n hx hb dL_plain_2 rfl (lv_at hl 2 rfl) ?_
  refine vx_callv (vx_runV (C := RX0) (As := [.int y, .int q]) (rest := []) ⟨hx, hb, hml, hown, hts⟩ (c_X0_plain_x l hl9 s.heap.size sa dC dI cI h0 ab rc rl ps f y q hb0) (cwV 2 hts gL_plain_X0_plain rfl rfl rfl (by decide +kernel) ⟨Nat.le_of_ble_eq_true rfl, Nat.le_of_ble_eq_true rfl⟩) ⟨fun a U g mk q => by obtain ⟨q0, q1, qX, qP, qK⟩ := q; exact ⟨q0, q1, rw_XA.call qX, qP, va_K.moved (u := U) (U := U.calling g mk a) (Vm.Alike.refl U.vm) qK⟩, va_recv hK hP (ci := 0) (q0 := 0) rfl rfl, fun U hU hW => ⟨rfl, by rw [hU], rw_XA.go hX hU hW, by rw [hU]; exact hP, va_K.moved hW.alike hK⟩⟩ rfl rfl hl.1 rfl (lv_room (Nat.le_of_ble_eq_true rfl)) dL_plain_3 ⟨Nat.le_refl _, Nat.le_refl _⟩) hS (fun q _ h => hA q h) (fun q h => hA q h) (fun q _ h => hA q h) (fun E ce q9 u t9 H1 locs ht hvm hpx hE hz1 hk1 hS hc1 hc2 hc3 => ?_) (fun u t9 H1 locs ht hvm hw hB hz1 hk1 hS => hw.elim)
  have hE : E = "java/lang/IllegalArgumentException" := hE
  subst hE
  have hP := hP.kept (H1 := H1) (fun k q hk => hk1 q.1 (vx_lt hP hk) (Nat.not_le.mpr (vx_lt hP hk)))
  generalize H1 = H at hP hS hc1 ⊢
  have hP : va_P (dC, dI) rw_cl [(h0, .inr (0, [.ref ab, .int (nI rc), .int (nI rl), .int (nI ps)])), (ab, .inl (cI, 4096, .inl f))] H := hP
  have hD : va_D A [(h0, .inr (0, [.ref ab, .int (nI rc), .int (nI rl), .int (nI ps)])), (ab, .inl (cI, 4096, .inl f))] := hD
  refine vx_catch hown [] _ [] (vx_table (x := yL_plain) B (hts (.codeWith yL_plain cL_plain 4 (some .int) [(0, 6, 9, 13)]) List.mem_cons_self)) (fun z h => by cases h) (by decide) (by decide) (hts (.classLink RL 13 "java/lang/IllegalArgumentException") (by decide +kernel)) (va_Nw.use rfl hX.2.2.2.1) hc1 hc2 hc3 ?_
  refine W.eq (g2 := F0 m 9 ls [.ref q9]) rfl ?_
  refine lv_astore_n hx hb dL_plain_9 rfl hl (by decide) rfl (fun ls hl => ?_)
  have hl : lv_has ls 4 [(3, .ref q9), (0, .ref h0), (1, .int y), (2, .int q)] := hl
  refine lv_iconst (v := 1) hx hb dL_plain_10 (by decide) ?_
  exact W.iret (v := 1) hx hb hr (fun t ht hW => ⟨⟨1, (), rfl, rfl, by rw [ht]; exact hP, va_K.moved hW.alike hK, hD⟩, hS.F ht⟩) hS.2.2 dL_plain_11
set_option maxHeartbeats 4000000 in
set_option maxRecDepth 100000 in
theorem c_L_undo_bad (l : Launch) (hl9 : l.stackTraces = false) (sa : Nat) (dC : Nat → ClassId) (dI : Nat → Nat → Nat) (cI : ClassId) (h0 ab rc rl ps : Nat) (f : Nat → Int32) (sz : Nat) (n : Int32) (hb0 : n < 0 ∨ 390624 < n) : Met l yL_undo wsL_undo ({ frames := 8, cells := 1, slots := 6, locals := 128 }) (va_Pc [.ref h0, .int n] (fun U => rw_XA (fun q => sz ≤ q) sa U U.heap ∧ rw_preD dC dI cI h0 ab rc rl ps f sz U)) (va_Qi (fun (r : Int32) (_ : Unit) => r = 1) (fun _ t9 => rw_B dC dI cI h0 ab rc rl ps (f) (va_A (rw_W h0 ab cI rc rl ps f) sz) t9) (va_A (rw_W h0 ab cI rc rl ps f) sz)) 1 6 (va_A (rw_W h0 ab cI rc rl ps f) sz) := by
  refine va_MetW (cc := cL_undo) (maxL := 3) (ret := some .int) (by decide) rfl ?_
  intro p e s m args below meth c s₁ B hml hv
  obtain ⟨rfl, hX, hsz, hP, hK, hD0⟩ := hv
  have hx := B.exec
  have hb := B.bytes
  have hr := B.returns
  have hts := atoms_spec (ws := wsL_undo) B.pre
  have hown : s.vm.findClass RL = some m.cls := findClass_of_methodNamed B.named
  have hlocks := B.notSynchronized
  subst hsz
  have hD := hD0.self (sz := s.heap.size)
  generalize hAe : va_A (rw_W h0 ab cI rc rl ps f) s.heap.size = A at hD ⊢
  have hA : ∀ q : Nat, s.heap.size ≤ q → A q := fun q h => by rw [← hAe]; exact Or.inr h
  have hS : va_S A s.heap s.heap [] := va_S.rf
  have hP : va_P (dC, dI) rw_cl (rw_W h0 ab cI rc rl ps f) s.heap := hP
  have hl := lv_entry ([.ref h0, .int n]) (n := 3) (Nat.le_of_ble_eq_true rfl)
  rw [lg_entry_eq]
  generalize (lg_sl ([.ref h0, .int n]) ++ List.replicate (3 - (lg_sl ([.ref h0, .int n])).length) Slot.unset).toArray = ls at hl ⊢
  have hl : lv_has ls 3 [(0, .ref h0), (1, .int n)] := hl
  refine lv_aload_n hx hb dL_undo_0 rfl (lv_at hl 0 rfl) ?_
  refine lv_iload_n hx hb dL_undo_1 rfl (lv_at hl 1 rfl) ?_
  refine vx_callv (vx_runV (C := RX0) (As := [.int n]) (rest := []) ⟨hx, hb, hml, hown, hts⟩ (c_X0_undo_x l hl9 s.heap.size sa dC dI cI h0 ab rc rl ps f n hb0) (cwV 1 hts gL_undo_X0_undo rfl rfl rfl (by decide +kernel) ⟨Nat.le_of_ble_eq_true rfl, Nat.le_of_ble_eq_true rfl⟩) ⟨fun a U g mk q => by obtain ⟨q0, q1, qX, qP, qK⟩ := q; exact ⟨q0, q1, rw_XA.call qX, qP, va_K.moved (u := U) (U := U.calling g mk a) (Vm.Alike.refl U.vm) qK⟩, va_recv hK hP (ci := 0) (q0 := 0) rfl rfl, fun U hU hW => ⟨rfl, by rw [hU], rw_XA.go hX hU hW, by rw [hU]; exact hP, va_K.moved hW.alike hK⟩⟩ rfl rfl hl.1 rfl (lv_room (Nat.le_of_ble_eq_true rfl)) dL_undo_2 ⟨Nat.le_refl _, Nat.le_refl _⟩) hS (fun q _ h => hA q h) (fun q h => hA q h) (fun q _ h => hA q h) (fun E ce q9 u t9 H1 locs ht hvm hpx hE hz1 hk1 hS hc1 hc2 hc3 => ?_) (fun u t9 H1 locs ht hvm hw hB hz1 hk1 hS => hw.elim)
  have hE : E = "java/lang/IllegalArgumentException" := hE
  subst hE
  have hP := hP.kept (H1 := H1) (fun k q hk => hk1 q.1 (vx_lt hP hk) (Nat.not_le.mpr (vx_lt hP hk)))
  generalize H1 = H at hP hS hc1 ⊢
  have hP : va_P (dC, dI) rw_cl [(h0, .inr (0, [.ref ab, .int (nI rc), .int (nI rl), .int (nI ps)])), (ab, .inl (cI, 4096, .inl f))] H := hP
  have hD : va_D A [(h0, .inr (0, [.ref ab, .int (nI rc), .int (nI rl), .int (nI ps)])), (ab, .inl (cI, 4096, .inl f))] := hD
  refine vx_catch hown [] _ [] (vx_table (x := yL_undo) B (hts (.codeWith yL_undo cL_undo 3 (some .int) [(0, 5, 8, 13)]) List.mem_cons_self)) (fun z h => by cases h) (by decide) (by decide) (hts (.classLink RL 13 "java/lang/IllegalArgumentException") (by decide +kernel)) (va_Nw.use rfl hX.2.2.2.1) hc1 hc2 hc3 ?_
  refine W.eq (g2 := F0 m 8 ls [.ref q9]) rfl ?_
  refine lv_astore_n hx hb dL_undo_8 rfl hl (by decide) rfl (fun ls hl => ?_)
  have hl : lv_has ls 3 [(2, .ref q9), (0, .ref h0), (1, .int n)] := hl
  refine lv_iconst (v := 1) hx hb dL_undo_9 (by decide) ?_
  exact W.iret (v := 1) hx hb hr (fun t ht hW => ⟨⟨1, (), rfl, rfl, by rw [ht]; exact hP, va_K.moved hW.alike hK, hD⟩, hS.F ht⟩) hS.2.2 dL_undo_10
set_option maxHeartbeats 4000000 in
set_option maxRecDepth 100000 in
theorem c_L_pass_bad (l : Launch) (hl9 : l.stackTraces = false) (sa : Nat) (dC : Nat → ClassId) (dI : Nat → Nat → Nat) (cI : ClassId) (h0 ab rc rl ps : Nat) (f : Nat → Int32) (cL : ClassId) (oa : Nat) (o : Nat → Int64) (sz : Nat) (k w h b : Int32) (hb0 : rf_pw k w h) : Met l yL_pass wsL_pass ({ frames := 8, cells := 1, slots := 6, locals := 130 }) (va_Pc [.ref h0, .int k, .int w, .int h, .int b, .ref oa] (fun U => rw_XA (fun q => sz ≤ q) sa U U.heap ∧ rl_preD dC dI cI h0 ab rc rl ps f cL oa o sz U)) (va_Qi (fun (r : Int32) (_ : Unit) => r = 1) (fun _ t9 => rl_B dC dI cI h0 ab rc rl ps f cL oa o (va_A (rl_W h0 ab cI rc rl ps f cL oa o) sz) t9) (va_A (rl_W h0 ab cI rc rl ps f cL oa o) sz)) 1 6 (va_A (rl_W h0 ab cI rc rl ps f cL oa o) sz) := by
  refine va_MetW (cc := cL_pass) (maxL := 7) (ret := some .int) (by decide) rfl ?_
  intro p e s m args below meth c s₁ B hml hv
  obtain ⟨rfl, hX, hsz, hP, hK, hD0⟩ := hv
  have hx := B.exec
  have hb := B.bytes
  have hr := B.returns
  have hts := atoms_spec (ws := wsL_pass) B.pre
  have hown : s.vm.findClass RL = some m.cls := findClass_of_methodNamed B.named
  have hlocks := B.notSynchronized
  subst hsz
  have hD := hD0.self (sz := s.heap.size)
  generalize hAe : va_A (rl_W h0 ab cI rc rl ps f cL oa o) s.heap.size = A at hD ⊢
  have hA : ∀ q : Nat, s.heap.size ≤ q → A q := fun q h => by rw [← hAe]; exact Or.inr h
  have hS : va_S A s.heap s.heap [] := va_S.rf
  have hP : va_P (dC, dI) rw_cl (rl_W h0 ab cI rc rl ps f cL oa o) s.heap := hP
  have hl := lv_entry ([.ref h0, .int k, .int w, .int h, .int b, .ref oa]) (n := 7) (Nat.le_of_ble_eq_true rfl)
  rw [lg_entry_eq]
  generalize (lg_sl ([.ref h0, .int k, .int w, .int h, .int b, .ref oa]) ++ List.replicate (7 - (lg_sl ([.ref h0, .int k, .int w, .int h, .int b, .ref oa])).length) Slot.unset).toArray = ls at hl ⊢
  have hl : lv_has ls 7 [(0, .ref h0), (1, .int k), (2, .int w), (3, .int h), (4, .int b), (5, .ref oa)] := hl
  refine lv_aload hx hb dL_pass_0 (lv_at hl 5 rfl) ?_
  refine lv_iconst (v := 0) hx hb dL_pass_2 (by decide) ?_
  refine lv_aload_n hx hb dL_pass_3 rfl (lv_at hl 0 rfl) ?_
  refine lv_iload_n hx hb dL_pass_4 rfl (lv_at hl 1 rfl) ?_
  refine lv_iload_n hx hb dL_pass_5 rfl (lv_at hl 2 rfl) ?_
  refine lv_iload_n hx hb dL_pass_6 rfl (lv_at hl 3 rfl) ?_
  refine lv_iload hx hb dL_pass_7 (lv_at hl 4 rfl) ?_
  have hPc := hP.sub (ws' := [(h0, .inr (0, [.ref ab, .int (nI rc), .int (nI rl), .int (nI ps)])), (ab, .inl (cI, 4096, .inl f))]) [0, 1] rfl
  have hKc := hK.sub (tys' := [(cI, .int)]) [0] rfl
  refine vx_calli (vx_runV (C := RX0) (As := [.int k, .int w, .int h, .int b]) (rest := [.int 0, .ref oa]) ⟨hx, hb, hml, hown, hts⟩ (c_X0_pass_x l hl9 s.heap.size sa dC dI cI h0 ab rc rl ps f k w h b hb0) (cwV 4 hts gL_pass_X0_pass rfl rfl rfl (by decide +kernel) ⟨Nat.le_of_ble_eq_true rfl, Nat.le_of_ble_eq_true rfl⟩) ⟨fun a U g mk q => by obtain ⟨q0, q1, qX, qP, qK⟩ := q; exact ⟨q0, q1, rw_XA.call qX, qP, va_K.moved (u := U) (U := U.calling g mk a) (Vm.Alike.refl U.vm) qK⟩, va_recv hK hP (ci := 0) (q0 := 0) rfl rfl, fun U hU hW => ⟨rfl, by rw [hU], rw_XA.go hX hU hW, by rw [hU]; exact hPc, va_K.moved hW.alike hKc⟩⟩ rfl rfl hl.1 rfl (lv_room (Nat.le_of_ble_eq_true rfl)) dL_pass_9 ⟨Nat.le_refl _, Nat.le_refl _⟩) hS (fun q _ h => hA q h) (fun q h => hA q h) (fun q _ h => hA q h) (fun E ce q9 u t9 H1 locs ht hvm hpx hE hz1 hk1 hS hc1 hc2 hc3 => ?_) (fun r9 u t9 H1 locs ht hvm hw hB hz1 hk1 hS => hw.elim)
  have hE : E = "java/lang/IllegalArgumentException" := hE
  subst hE
  have hP := hP.kept (H1 := H1) (fun k q hk => hk1 q.1 (vx_lt hP hk) (Nat.not_le.mpr (vx_lt hP hk)))
  generalize H1 = H at hP hS hc1 ⊢
  have hP : va_P (dC, dI) rw_cl [(h0, .inr (0, [.ref ab, .int (nI rc), .int (nI rl), .int (nI ps)])), (ab, .inl (cI, 4096, .inl f)), (oa, .inl (cL, 1, .inr (.inl o)))] H := hP
  have hD : va_D A [(h0, .inr (0, [.ref ab, .int (nI rc), .int (nI rl), .int (nI ps)])), (ab, .inl (cI, 4096, .inl f)), (oa, .inl (cL, 1, .inr (.inl o)))] := hD
  refine vx_catch hown [] _ [] (vx_table (x := yL_pass) B (hts (.codeWith yL_pass cL_pass 7 (some .int) [(0, 14, 17, 13)]) List.mem_cons_self)) (fun z h => by cases h) (by decide) (by decide) (hts (.classLink RL 13 "java/lang/IllegalArgumentException") (by decide +kernel)) (va_Nw.use rfl hX.2.2.2.1) hc1 hc2 hc3 ?_
  refine W.eq (g2 := F0 m 17 ls [.ref q9]) rfl ?_
  refine lv_astore hx hb dL_pass_17 hl (by decide) rfl (fun ls hl => ?_)
  have hl : lv_has ls 7 [(6, .ref q9), (0, .ref h0), (1, .int k), (2, .int w), (3, .int h), (4, .int b), (5, .ref oa)] := hl
  refine lv_iconst (v := 1) hx hb dL_pass_19 (by decide) ?_
  exact W.iret (v := 1) hx hb hr (fun t ht hW => ⟨⟨1, (), rfl, rfl, by rw [ht]; exact hP, va_K.moved hW.alike hK, hD⟩, hS.F ht⟩) hS.2.2 dL_pass_20
set_option maxHeartbeats 4000000 in
set_option maxRecDepth 100000 in
theorem c_L_passOf_bad (l : Launch) (hl9 : l.stackTraces = false) (sa : Nat) (dC : Nat → ClassId) (dI : Nat → Nat → Nat) (cI : ClassId) (h0 ab rc rl ps : Nat) (f : Nat → Int32) (cL : ClassId) (oa : Nat) (o : Nat → Int64) (sz : Nat) (x y : Int32) (hb0 : rf_xy x y) : Met l yL_passOf wsL_passOf ({ frames := 8, cells := 1, slots := 6, locals := 127 }) (va_Pc [.ref h0, .int x, .int y, .ref oa] (fun U => rw_XA (fun q => sz ≤ q) sa U U.heap ∧ rl_preD dC dI cI h0 ab rc rl ps f cL oa o sz U)) (va_Qi (fun (r : Int32) (_ : Unit) => r = 1) (fun _ t9 => rl_B dC dI cI h0 ab rc rl ps f cL oa o (va_A (rl_W h0 ab cI rc rl ps f cL oa o) sz) t9) (va_A (rl_W h0 ab cI rc rl ps f cL oa o) sz)) 1 6 (va_A (rl_W h0 ab cI rc rl ps f cL oa o) sz) := by
  refine va_MetW (cc := cL_passOf) (maxL := 5) (ret := some .int) (by decide) rfl ?_
  intro p e s m args below meth c s₁ B hml hv
  obtain ⟨rfl, hX, hsz, hP, hK, hD0⟩ := hv
  have hx := B.exec
  have hb := B.bytes
  have hr := B.returns
  have hts := atoms_spec (ws := wsL_passOf) B.pre
  have hown : s.vm.findClass RL = some m.cls := findClass_of_methodNamed B.named
  have hlocks := B.notSynchronized
  subst hsz
  have hD := hD0.self (sz := s.heap.size)
  generalize hAe : va_A (rl_W h0 ab cI rc rl ps f cL oa o) s.heap.size = A at hD ⊢
  have hA : ∀ q : Nat, s.heap.size ≤ q → A q := fun q h => by rw [← hAe]; exact Or.inr h
  have hS : va_S A s.heap s.heap [] := va_S.rf
  have hP : va_P (dC, dI) rw_cl (rl_W h0 ab cI rc rl ps f cL oa o) s.heap := hP
  have hl := lv_entry ([.ref h0, .int x, .int y, .ref oa]) (n := 5) (Nat.le_of_ble_eq_true rfl)
  rw [lg_entry_eq]
  generalize (lg_sl ([.ref h0, .int x, .int y, .ref oa]) ++ List.replicate (5 - (lg_sl ([.ref h0, .int x, .int y, .ref oa])).length) Slot.unset).toArray = ls at hl ⊢
  have hl : lv_has ls 5 [(0, .ref h0), (1, .int x), (2, .int y), (3, .ref oa)] := hl
  refine lv_aload_n hx hb dL_passOf_0 rfl (lv_at hl 3 rfl) ?_
  refine lv_iconst (v := 0) hx hb dL_passOf_1 (by decide) ?_
  refine lv_aload_n hx hb dL_passOf_2 rfl (lv_at hl 0 rfl) ?_
  refine lv_iload_n hx hb dL_passOf_3 rfl (lv_at hl 1 rfl) ?_
  refine lv_iload_n hx hb dL_passOf_4 rfl (lv_at hl 2 rfl) ?_
  have hPc := hP.sub (ws' := [(h0, .inr (0, [.ref ab, .int (nI rc), .int (nI rl), .int (nI ps)])), (ab, .inl (cI, 4096, .inl f))]) [0, 1] rfl
  have hKc := hK.sub (tys' := [(cI, .int)]) [0] rfl
  refine vx_calli (vx_runV (C := RX0) (As := [.int x, .int y]) (rest := [.int 0, .ref oa]) ⟨hx, hb, hml, hown, hts⟩ (c_X0_passOf_x l hl9 s.heap.size sa dC dI cI h0 ab rc rl ps f x y hb0) (cwV 2 hts gL_passOf_X0_passOf rfl rfl rfl (by decide +kernel) ⟨Nat.le_of_ble_eq_true rfl, Nat.le_of_ble_eq_true rfl⟩) ⟨fun a U g mk q => by obtain ⟨q0, q1, qX, qP, qK⟩ := q; exact ⟨q0, q1, rw_XA.call qX, qP, va_K.moved (u := U) (U := U.calling g mk a) (Vm.Alike.refl U.vm) qK⟩, va_recv hK hP (ci := 0) (q0 := 0) rfl rfl, fun U hU hW => ⟨rfl, by rw [hU], rw_XA.go hX hU hW, by rw [hU]; exact hPc, va_K.moved hW.alike hKc⟩⟩ rfl rfl hl.1 rfl (lv_room (Nat.le_of_ble_eq_true rfl)) dL_passOf_5 ⟨Nat.le_refl _, Nat.le_refl _⟩) hS (fun q _ h => hA q h) (fun q h => hA q h) (fun q _ h => hA q h) (fun E ce q9 u t9 H1 locs ht hvm hpx hE hz1 hk1 hS hc1 hc2 hc3 => ?_) (fun r9 u t9 H1 locs ht hvm hw hB hz1 hk1 hS => hw.elim)
  have hE : E = "java/lang/IllegalArgumentException" := hE
  subst hE
  have hP := hP.kept (H1 := H1) (fun k q hk => hk1 q.1 (vx_lt hP hk) (Nat.not_le.mpr (vx_lt hP hk)))
  generalize H1 = H at hP hS hc1 ⊢
  have hP : va_P (dC, dI) rw_cl [(h0, .inr (0, [.ref ab, .int (nI rc), .int (nI rl), .int (nI ps)])), (ab, .inl (cI, 4096, .inl f)), (oa, .inl (cL, 1, .inr (.inl o)))] H := hP
  have hD : va_D A [(h0, .inr (0, [.ref ab, .int (nI rc), .int (nI rl), .int (nI ps)])), (ab, .inl (cI, 4096, .inl f)), (oa, .inl (cL, 1, .inr (.inl o)))] := hD
  refine vx_catch hown [] _ [] (vx_table (x := yL_passOf) B (hts (.codeWith yL_passOf cL_passOf 5 (some .int) [(0, 10, 13, 13)]) List.mem_cons_self)) (fun z h => by cases h) (by decide) (by decide) (hts (.classLink RL 13 "java/lang/IllegalArgumentException") (by decide +kernel)) (va_Nw.use rfl hX.2.2.2.1) hc1 hc2 hc3 ?_
  refine W.eq (g2 := F0 m 13 ls [.ref q9]) rfl ?_
  refine lv_astore hx hb dL_passOf_13 hl (by decide) rfl (fun ls hl => ?_)
  have hl : lv_has ls 5 [(4, .ref q9), (0, .ref h0), (1, .int x), (2, .int y), (3, .ref oa)] := hl
  refine lv_iconst (v := 1) hx hb dL_passOf_15 (by decide) ?_
  exact W.iret (v := 1) hx hb hr (fun t ht hW => ⟨⟨1, (), rfl, rfl, by rw [ht]; exact hP, va_K.moved hW.alike hK, hD⟩, hS.F ht⟩) hS.2.2 dL_passOf_16
