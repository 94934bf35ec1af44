set_option maxHeartbeats 8000000 in
set_option maxRecDepth 100000 in
theorem whole_start {p : Program} {e : Env} {s : State} {m : MethodId} {below : List Frame} {meth : Method} {c : Code} (l : Launch) (hl9 : l.stackTraces = false) {b L : Nat} {xs : Nat → Int32} (hL : L ≤ 2560) (C0 : lw_At p s m meth c b L xs) : W p l e room_1 s m #[Value.ref b] below meth c s.heap [] 0 0 (lw_Z below #[Value.ref b] s) (entryFrame m ([Value.ref b] : List Value).toArray 7) := by
  obtain ⟨hx, hb, hr, hml, hown, hts0, hXs, hbl, hlocks, hgv⟩ := C0
  have hb : c.code = cL_law := hb
  have hown : s.vm.findClass RL = some m.cls := hown
  have htsX : ∀ w ∈ wsL_law, w.before #[Value.ref b] s = true := fun w h => hts0 w (wsL_law_in w h)
  have htsY : ∀ w ∈ wsM, w.before #[Value.ref b] s = true := fun w h => hts0 w (wsM_in w h)
  obtain ⟨sa, t1, t2, t3, t4, hX, hZ⟩ := lw_consts hts0 hgv
  obtain ⟨dC, dI, hK⟩ := lw_known htsX htsY
  obtain ⟨A, hAe⟩ : ∃ A : Nat → Prop, A = fun q => s.heap.size ≤ q := ⟨_, rfl⟩
  rw [← hAe] at hX hZ
  have hA : ∀ q, s.heap.size ≤ q → A q := fun q h => by rw [hAe]; exact h
  have hA2 : ∀ q, A q → s.heap.size ≤ q := fun q h => by rw [hAe] at h; exact h
  have hbA : ¬ A b := fun h => absurd (hA2 b h) (Nat.not_le.mpr hbl)
  have hS : va_S A s.heap s.heap [] := va_S.rf
  have hP : va_P (dC, dI) rw_cl [] s.heap := fun k q hk => by cases hk
  have hD : va_D A [] := ⟨fun i j p q hp _ _ => by (cases hp), fun k q hk => by (cases hk)⟩
  have hl := lv_entry ([.ref b]) (n := 7) (Nat.le_of_ble_eq_true rfl)
  rw [lg_entry_eq]
  generalize (lg_sl ([.ref b]) ++ List.replicate (7 - (lg_sl ([.ref b])).length) Slot.unset).toArray = ls at hl ⊢
  have hl : lv_has ls 7 [(0, .ref b)] := hl
  refine va_new (D := (dC, dI)) (ci := 0) (fs := [.null, .int 0, .int 0, .int 0]) (C := RX0) (T := TX0) (N := 4) hx hb htsX (by decide +kernel) tyX0 tyX0_ok hown (htsX (.classLink RL 8 RX0) (by decide +kernel)) (htsX (.instantiable RX0 4) (by decide +kernel)) (htsX (.initialized RX0) (by decide +kernel)) hK hP hD hS hA rfl (fun j hj => by rcases (show j = 0 ∨ j = 1 ∨ j = 2 ∨ j = 3 by omega) with rfl | rfl | rfl | rfl <;> rfl) (by show 0 + 1 ≤ 1031; decide) (by show 0 + 4 ≤ 20497; decide) dL_law_0 (fun h0 H hP hD hS => ?_)
  have hP : va_P (dC, dI) rw_cl [(h0, .inr (0, [.null, .int 0, .int 0, .int 0]))] H := hP
  have hD : va_D A [(h0, .inr (0, [.null, .int 0, .int 0, .int 0]))] := hD
  refine W.widen (k := 1) (n := 4) (by decide) (by decide) ?_
  refine lv_dup hx hb dL_law_3 rfl ?_
  have hPc := hP.sub (ws' := [(h0, .inr (0, [.null, .int 0, .int 0, .int 0]))]) [0] rfl
  have hDc := hD.sub (ws' := [(h0, .inr (0, [.null, .int 0, .int 0, .int 0]))]) [0] (by decide) rfl
  have hKc := hK.sub (tys' := []) [] rfl
  have hFc := va_free (wc := [(h0, .inr (0, [.null, .int 0, .int 0, .int 0]))]) hD hS hA [0] rfl
  refine va_callv (va_runI (As := []) (rest := [.ref h0]) ⟨hx, hb, hml, hown, htsX⟩ (c_X0_init l dC dI h0 H.size) (cwI 0 htsX gL_law_X0_init rfl rfl rfl (htsX (.initialized RX0) (by decide +kernel)) (htsX (.methodLink RL 41 yX0_init) (by decide +kernel)) (htsX (.instanceMethod yX0_init) (by decide +kernel)) rfl (by decide +kernel) ⟨Nat.le_of_ble_eq_true rfl, Nat.le_of_ble_eq_true rfl⟩) ⟨fun a U g mk q => by obtain ⟨q0, q1, qP, qK, qD⟩ := q; exact ⟨q0, q1, qP, va_K.moved (u := U) (U := U.calling g mk a) (Vm.Alike.refl U.vm) qK, qD⟩, fun U hU hW => ⟨rfl, by rw [hU], by rw [hU]; exact hPc, va_K.moved hW.alike hKc, hDc.weaken (fun _ _ _ _ => trivial)⟩⟩ rfl rfl hl.1 rfl (lv_room (Nat.le_of_ble_eq_true rfl)) dL_law_4 ⟨by show 1 + 1 ≤ 1031; decide, by show 4 + 4096 ≤ 20497; decide⟩) hS (fun q _ h => hFc q h) hFc (fun u t9 H1 locs ht hvm hw hB hz1 hk1 hS => ?_)
  obtain ⟨ab, cI⟩ := u
  obtain ⟨hP1, hK1, hD1⟩ := hB
  rw [ht] at hP1
  have hK1 := va_K.moved hvm.symm hK1
  obtain ⟨hP, hD⟩ := va_join (wr := []) (w1 := [(h0, .inr (0, [.ref ab, .int (nI 1), .int (nI 1), .int (nI 1)])), (ab, .inl (cI, 4096, .inl (fun _ => 0)))]) hP hD [0] [] rfl rfl (by decide) (by decide) hk1 hFc hP1 hD1
  generalize H1 = H at hP hS ⊢
  have hP : va_P (dC, dI) rw_cl [(h0, .inr (0, [.ref ab, .int (nI 1), .int (nI 1), .int (nI 1)])), (ab, .inl (cI, 4096, .inl (fun _ => 0)))] H := hP
  have hD : va_D A [(h0, .inr (0, [.ref ab, .int (nI 1), .int (nI 1), .int (nI 1)])), (ab, .inl (cI, 4096, .inl (fun _ => 0)))] := hD
  have hK := (hK.sub (tys' := []) [] rfl).app hK1
  have hK : va_K (dC, dI) rw_cl [(cI, .int)] s := hK
  refine W.widen (k := 2) (n := 4100) (by decide) (by decide) ?_
  refine lv_astore_n hx hb dL_law_7 rfl hl (by decide) rfl (fun ls hl => ?_)
  have hl : lv_has ls 7 [(1, .ref h0), (0, .ref b)] := hl
  refine va_new (D := (dC, dI)) (ci := 1) (fs := [.int 0, .int 0, .int 0, .int 0, .null, .null]) (C := RX1) (T := TY1) (N := 6) hx hb htsY (by decide +kernel) tyY1 tyY1_ok hown (htsY (.classLink RL 42 RX1) (by decide +kernel)) (htsY (.instantiable RX1 6) (by decide +kernel)) (htsY (.initialized RX1) (by decide +kernel)) hK hP hD hS hA rfl (fun j hj => by rcases (show j = 0 ∨ j = 1 ∨ j = 2 ∨ j = 3 ∨ j = 4 ∨ j = 5 by omega) with rfl | rfl | rfl | rfl | rfl | rfl <;> rfl) (by show 2 + 1 ≤ 1031; decide) (by show 4100 + 6 ≤ 20497; decide) dL_law_8 (fun h1 H hP hD hS => ?_)
  have hP : va_P (dC, dI) rw_cl [(h0, .inr (0, [.ref ab, .int (nI 1), .int (nI 1), .int (nI 1)])), (ab, .inl (cI, 4096, .inl (fun _ => 0))), (h1, .inr (1, [.int 0, .int 0, .int 0, .int 0, .null, .null]))] H := hP
  have hD : va_D A [(h0, .inr (0, [.ref ab, .int (nI 1), .int (nI 1), .int (nI 1)])), (ab, .inl (cI, 4096, .inl (fun _ => 0))), (h1, .inr (1, [.int 0, .int 0, .int 0, .int 0, .null, .null]))] := hD
  refine W.widen (k := 3) (n := 4106) (by decide) (by decide) ?_
  refine lv_dup hx hb dL_law_11 rfl ?_
  have hPc := hP.sub (ws' := [(h1, .inr (1, [.int 0, .int 0, .int 0, .int 0, .null, .null]))]) [2] rfl
  have hDc := hD.sub (ws' := [(h1, .inr (1, [.int 0, .int 0, .int 0, .int 0, .null, .null]))]) [2] (by decide) rfl
  have hKc := hK.sub (tys' := []) [] rfl
  have hFc := va_free (wc := [(h1, .inr (1, [.int 0, .int 0, .int 0, .int 0, .null, .null]))]) hD hS hA [2] rfl
  refine va_callv (va_runI (As := []) (rest := [.ref h1]) ⟨hx, hb, hml, hown, htsY⟩ (c_Y1_init l dC dI h1 H.size) (cwI 0 htsY gL_law_Y1_init rfl rfl rfl (htsY (.initialized RX1) (by decide +kernel)) (htsY (.methodLink RL 44 yY1_init) (by decide +kernel)) (htsY (.instanceMethod yY1_init) (by decide +kernel)) rfl (by decide +kernel) ⟨Nat.le_of_ble_eq_true rfl, Nat.le_of_ble_eq_true rfl⟩) ⟨fun a U g mk q => by obtain ⟨q0, q1, qP, qK, qD⟩ := q; exact ⟨q0, q1, qP, va_K.moved (u := U) (U := U.calling g mk a) (Vm.Alike.refl U.vm) qK, qD⟩, fun U hU hW => ⟨rfl, by rw [hU], by rw [hU]; exact hPc, va_K.moved hW.alike hKc, hDc.weaken (fun _ _ _ _ => trivial)⟩⟩ rfl rfl hl.1 rfl (lv_room (Nat.le_of_ble_eq_true rfl)) dL_law_12 ⟨by show 3 + 2 ≤ 1031; decide, by show 4106 + 8192 ≤ 20497; decide⟩) hS (fun q _ h => hFc q h) hFc (fun u t9 H1 locs ht hvm hw hB hz1 hk1 hS => ?_)
  obtain ⟨⟨b1, cJ⟩, ⟨b2, cK⟩⟩ := u
  obtain ⟨hP1, hK1, hD1⟩ := hB
  rw [ht] at hP1
  have hK1 := va_K.moved hvm.symm hK1
  obtain ⟨hP, hD⟩ := va_join (wr := [(h0, .inr (0, [.ref ab, .int (nI 1), .int (nI 1), .int (nI 1)])), (ab, .inl (cI, 4096, .inl (fun _ => 0)))]) (w1 := [(h1, .inr (1, [.int 0, .int (nI 1), .int (nI 1), .int (nI 1), .ref b1, .ref b2])), (b1, .inl (cJ, 4096, .inl (fun _ => 0))), (b2, .inl (cK, 4096, .inl (fun _ => 0)))]) hP hD [2] [0, 1] rfl rfl (by decide) (by decide) hk1 hFc hP1 hD1
  generalize H1 = H at hP hS ⊢
  have hP : va_P (dC, dI) rw_cl [(h0, .inr (0, [.ref ab, .int (nI 1), .int (nI 1), .int (nI 1)])), (ab, .inl (cI, 4096, .inl (fun _ => 0))), (h1, .inr (1, [.int 0, .int (nI 1), .int (nI 1), .int (nI 1), .ref b1, .ref b2])), (b1, .inl (cJ, 4096, .inl (fun _ => 0))), (b2, .inl (cK, 4096, .inl (fun _ => 0)))] H := hP
  have hD : va_D A [(h0, .inr (0, [.ref ab, .int (nI 1), .int (nI 1), .int (nI 1)])), (ab, .inl (cI, 4096, .inl (fun _ => 0))), (h1, .inr (1, [.int 0, .int (nI 1), .int (nI 1), .int (nI 1), .ref b1, .ref b2])), (b1, .inl (cJ, 4096, .inl (fun _ => 0))), (b2, .inl (cK, 4096, .inl (fun _ => 0)))] := hD
  have hK := (hK.sub (tys' := [(cI, .int)]) [0] rfl).app hK1
  have hK : va_K (dC, dI) rw_cl [(cI, .int), (cJ, .int), (cK, .int)] s := hK
  refine W.widen (k := 5) (n := 12298) (by decide) (by decide) ?_
  refine lv_astore_n hx hb dL_law_15 rfl hl (by decide) rfl (fun ls hl => ?_)
  have hl : lv_has ls 7 [(2, .ref h1), (1, .ref h0), (0, .ref b)] := hl
  refine lv_iconst (v := 1) hx hb dL_law_16 (by decide) ?_
  refine va_newa (atype := .long) (ty := .long) (a0 := (1, .inr (.inl (fun _ => 0)))) (N' := 1) hx hb (htsY (.arrayClass .long) (by decide +kernel)) rfl hK hP hD hS hA (fun cA => vp_cell_l cA 1 (fun _ => 0)) (by decide +kernel) (by decide +kernel) (by decide +kernel) (by show 5 + 1 ≤ 1031; decide) (by show 12298 + 1 ≤ 20497; decide) dL_law_17 (fun oa cL H hK hP hD hS => ?_)
  have hP : va_P (dC, dI) rw_cl [(h0, .inr (0, [.ref ab, .int (nI 1), .int (nI 1), .int (nI 1)])), (ab, .inl (cI, 4096, .inl (fun _ => 0))), (h1, .inr (1, [.int 0, .int (nI 1), .int (nI 1), .int (nI 1), .ref b1, .ref b2])), (b1, .inl (cJ, 4096, .inl (fun _ => 0))), (b2, .inl (cK, 4096, .inl (fun _ => 0))), (oa, .inl (cL, 1, .inr (.inl (fun _ => 0))))] H := hP
  have hD : va_D A [(h0, .inr (0, [.ref ab, .int (nI 1), .int (nI 1), .int (nI 1)])), (ab, .inl (cI, 4096, .inl (fun _ => 0))), (h1, .inr (1, [.int 0, .int (nI 1), .int (nI 1), .int (nI 1), .ref b1, .ref b2])), (b1, .inl (cJ, 4096, .inl (fun _ => 0))), (b2, .inl (cK, 4096, .inl (fun _ => 0))), (oa, .inl (cL, 1, .inr (.inl (fun _ => 0))))] := hD
  have hK : va_K (dC, dI) rw_cl [(cI, .int), (cJ, .int), (cK, .int), (cL, .long)] s := hK
  refine W.widen (k := 6 + 0) (n := 12299 + 6 * 0) (by decide) (by decide) ?_
  refine lv_astore_n hx hb dL_law_19 rfl hl (by decide) rfl (fun ls hl => ?_)
  have hl : lv_has ls 7 [(3, .ref oa), (2, .ref h1), (1, .ref h0), (0, .ref b)] := hl
  refine lv_iconst (v := 0) hx hb dL_law_20 (by decide) ?_
  refine lv_istore hx hb dL_law_21 hl (by decide) rfl (fun ls hl => ?_)
  have hl : lv_has ls 7 [(4, .int 0), (3, .ref oa), (2, .ref h1), (1, .ref h0), (0, .ref b)] := hl
  have C9 : lw_F p s m c A b L xs dC dI cI cJ cK cL sa t1 t2 t3 t4 := ⟨hx, hb, hml, hown, htsX, htsY, hXs, hbl, hbA, hA, hA2, hK, hX, hZ, hL⟩
  refine rw_loopC 512 (fun n => 6 + n) (fun n => 12299 + 6 * n) (lw_I s A dC dI b h0 ab cI h1 b1 b2 cJ cK oa cL) (fun n ls H locs hn hI ih => ?_) ⟨1, 1, 1, (fun _ => 0), 0, (fun _ => 0), (fun _ => 0), (fun _ => 0), ⟨by decide, by decide, by decide, by decide, by decide⟩, (fun k _ => ⟨rfl, (show (0 : Int32) &&& 255 = 0 from by decide)⟩), lv_sub hl [4, 3, 2, 1, 0] rfl, hP, hD, hS⟩
  exact lw_step hl9 hr hlocks C9 hn hI ih
