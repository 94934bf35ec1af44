set_option maxHeartbeats 8000000 in
set_option maxRecDepth 100000 in
theorem lw_case_filter {p : Program} {l : Launch} {e : Env} {s : State} {m : MethodId} {below : List Frame} {meth : Method} {c : Code} {Q : State → Prop} {A : Nat → Prop} {b L : Nat} {xs : Nat → Int32} {dC : Nat → ClassId} {dI : Nat → Nat → Nat} {h0 ab : Nat} {cI : ClassId} {h1 b1 b2 : Nat} {cJ cK : ClassId} {oa : Nat} {cL : ClassId} {sa t1 t2 t3 t4 : Nat} (hl9 : l.stackTraces = false) (C9 : lw_F p s m c A b L xs dC dI cI cJ cK cL sa t1 t2 t3 t4) {n : Nat} (hn : n ≤ 512) (hL5 : 5 * n + 5 ≤ L) {rc rl ps : Nat} {f : Nat → Int32} {fl : Int32} {g t : Nat → Int32} {o : Nat → Int64} {ls : Array Slot} {H : Heap} {locs : List Loc} (ok : rf_ok rc rl ps) (hR : rf_R (rc * rl) f g) (hl : lv_has ls 7 [(0, .ref b), (1, .ref h0), (2, .ref h1), (3, .ref oa), (4, .int (nI (5 * n)))]) (hP : va_P (dC, dI) rw_cl (lw_W h0 ab cI h1 b1 b2 cJ cK oa cL rc rl ps f fl g t o) H) (hD : va_D A (lw_W h0 ab cI h1 b1 b2 cJ cK oa cL rc rl ps f fl g t o)) (hS : va_S A s.heap H locs) (ih : ∀ (ls : Array Slot) (H : Heap) (locs : List Loc), lw_I s A dC dI b h0 ab cI h1 b1 b2 cJ cK oa cL (n + 1) ls H locs → W p l e room_1 s m #[Value.ref b] below meth c H locs (6 + (n + 1)) (12299 + 6 * (n + 1)) Q (F0 m 23 ls [])) : W p l e room_1 s m #[Value.ref b] below meth c H locs (6 + n) (12299 + 6 * n) Q (F0 m 351 ls []) := by
  obtain ⟨hx, hb, hml, hown, hts, htsY, hXs, hbl, hbA, hA, hA2, hK, hX, hZ, hL⟩ := C9
  by_cases hc9 : rf_bd rc (xs (5 * n + 1)) (xs (5 * n + 2))
  · refine lv_aload_n hx hb dL_law_351 rfl (lv_at hl 1 rfl) ?_
    refine lv_aload_n hx hb dL_law_352 rfl (lv_at hl 0 rfl) ?_
    refine lv_iload hx hb dL_law_353 (lv_at hl 4 rfl) ?_
    refine lv_iconst (v := 1) hx hb dL_law_355 (by decide) ?_
    refine lv_iadd hx hb dL_law_356 ?_
    refine W.eq (g2 := F0 m 357 ls [.int (nI (5 * n + 1)), .ref b, .ref h0]) (congrArg (fun z9 => F0 m 357 ls [.int z9, .ref b, .ref h0]) (show ((nI (5 * n)) + 1) = nI (5 * n + 1) from nI_add (5 * n) 1)) ?_
    refine va_sld hx hb hXs hbl hbA hS (vp_in_nI (by omega) (by omega)) dL_law_357 ?_
    refine W.eq (g2 := F0 m 358 ls [.int (xs (5 * n + 1)), .ref h0]) (congrArg (fun z9 => F0 m 358 ls [.int z9, .ref h0]) (show (xs (nI (5 * n + 1)).toNatClampNeg) = (xs (5 * n + 1)) from (show xs (nI (5 * n + 1)).toNatClampNeg = (xs (5 * n + 1)) from by rw [nI_clamp (by omega)]))) ?_
    refine lv_aload_n hx hb dL_law_358 rfl (lv_at hl 0 rfl) ?_
    refine lv_iload hx hb dL_law_359 (lv_at hl 4 rfl) ?_
    refine lv_iconst (v := 2) hx hb dL_law_361 (by decide) ?_
    refine lv_iadd hx hb dL_law_362 ?_
    refine W.eq (g2 := F0 m 363 ls [.int (nI (5 * n + 2)), .ref b, .int (xs (5 * n + 1)), .ref h0]) (congrArg (fun z9 => F0 m 363 ls [.int z9, .ref b, .int (xs (5 * n + 1)), .ref h0]) (show ((nI (5 * n)) + 2) = nI (5 * n + 2) from nI_add (5 * n) 2)) ?_
    refine va_sld hx hb hXs hbl hbA hS (vp_in_nI (by omega) (by omega)) dL_law_363 ?_
    refine W.eq (g2 := F0 m 364 ls [.int (xs (5 * n + 2)), .int (xs (5 * n + 1)), .ref h0]) (congrArg (fun z9 => F0 m 364 ls [.int z9, .int (xs (5 * n + 1)), .ref h0]) (show (xs (nI (5 * n + 2)).toNatClampNeg) = (xs (5 * n + 2)) from (show xs (nI (5 * n + 2)).toNatClampNeg = (xs (5 * n + 2)) from by rw [nI_clamp (by omega)]))) ?_
    have hPc := hP.sub (ws' := [(h0, .inr (0, [.ref ab, .int (nI rc), .int (nI rl), .int (nI ps)])), (ab, .inl (cI, 4096, .inl f))]) [0, 1] rfl
    have hDc := hD.sub (ws' := [(h0, .inr (0, [.ref ab, .int (nI rc), .int (nI rl), .int (nI ps)])), (ab, .inl (cI, 4096, .inl f))]) [0, 1] (by decide) rfl
    have hKc := hK.sub (tys' := [(cI, .int)]) [0] rfl
    have hFc := va_free (wc := [(h0, .inr (0, [.ref ab, .int (nI rc), .int (nI rl), .int (nI ps)])), (ab, .inl (cI, 4096, .inl f))]) hD hS hA [0, 1] rfl
    refine va_calli (vx_runSW (As := [.ref h0, .int (xs (5 * n + 1)), .int (xs (5 * n + 2))]) (rest := []) ⟨hx, hb, hml, hown, hts⟩ (c_L_filter_bad l hl9 sa dC dI cI h0 ab rc rl ps f H.size (xs (5 * n + 1)) (xs (5 * n + 2)) (rf_bd_x ok hc9)) (vx_cwSW 3 hts gL_law_L_filter rfl rfl rfl (by decide +kernel) ⟨Nat.le_of_ble_eq_true rfl, Nat.le_of_ble_eq_true rfl⟩) ⟨fun a U g mk q => by obtain ⟨q0, qX, q1, qP, qK, qD⟩ := q; exact ⟨q0, rw_XA.call qX, q1, qP, va_K.moved (u := U) (U := U.calling g mk a) (Vm.Alike.refl U.vm) qK, qD⟩, fun U hU hW => ⟨rfl, rw_XA.to hX hS (fun q z => hA q (Nat.le_trans hS.1 z)) hU hW, by rw [hU], by rw [hU]; exact hPc, va_K.moved hW.alike hKc, hDc.weaken (fun _ _ _ _ => trivial)⟩⟩ rfl rfl hl.1 rfl (lv_room (Nat.le_of_ble_eq_true rfl)) dL_law_364 ⟨by show 6 + n + 1 ≤ 1031; omega, by show 12299 + 6 * n + 6 ≤ 20497; omega⟩) hS (fun q _ h => hFc q h) hFc (fun k u t9 H1 locs ht hvm ek hB hz1 hk1 hS => ?_)
    obtain ⟨hP1, hK1, hD1⟩ := hB
    rw [ht] at hP1
    obtain ⟨hP, hD⟩ := va_join (wr := [(h1, .inr (1, [.int fl, .int (nI rc), .int (nI rl), .int (nI ps), .ref b1, .ref b2])), (b1, .inl (cJ, 4096, .inl g)), (b2, .inl (cK, 4096, .inl t)), (oa, .inl (cL, 1, .inr (.inl o)))]) (w1 := [(h0, .inr (0, [.ref ab, .int (nI rc), .int (nI rl), .int (nI ps)])), (ab, .inl (cI, 4096, .inl f))]) hP hD [0, 1] [2, 3, 4, 5] rfl rfl (by decide) (by decide) hk1 hFc hP1 hD1
    generalize H1 = H at hP hS ⊢
    have hP := hP.sub (ws' := [(h0, .inr (0, [.ref ab, .int (nI rc), .int (nI rl), .int (nI ps)])), (ab, .inl (cI, 4096, .inl f)), (h1, .inr (1, [.int fl, .int (nI rc), .int (nI rl), .int (nI ps), .ref b1, .ref b2])), (b1, .inl (cJ, 4096, .inl g)), (b2, .inl (cK, 4096, .inl t)), (oa, .inl (cL, 1, .inr (.inl o)))]) [4, 5, 0, 1, 2, 3] rfl
    have hD := hD.sub (ws' := [(h0, .inr (0, [.ref ab, .int (nI rc), .int (nI rl), .int (nI ps)])), (ab, .inl (cI, 4096, .inl f)), (h1, .inr (1, [.int fl, .int (nI rc), .int (nI rl), .int (nI ps), .ref b1, .ref b2])), (b1, .inl (cJ, 4096, .inl g)), (b2, .inl (cK, 4096, .inl t)), (oa, .inl (cL, 1, .inr (.inl o)))]) [4, 5, 0, 1, 2, 3] (by decide) rfl
    have hP : va_P (dC, dI) rw_cl [(h0, .inr (0, [.ref ab, .int (nI rc), .int (nI rl), .int (nI ps)])), (ab, .inl (cI, 4096, .inl f)), (h1, .inr (1, [.int fl, .int (nI rc), .int (nI rl), .int (nI ps), .ref b1, .ref b2])), (b1, .inl (cJ, 4096, .inl g)), (b2, .inl (cK, 4096, .inl t)), (oa, .inl (cL, 1, .inr (.inl o)))] H := hP
    have hD : va_D A [(h0, .inr (0, [.ref ab, .int (nI rc), .int (nI rl), .int (nI ps)])), (ab, .inl (cI, 4096, .inl f)), (h1, .inr (1, [.int fl, .int (nI rc), .int (nI rl), .int (nI ps), .ref b1, .ref b2])), (b1, .inl (cJ, 4096, .inl g)), (b2, .inl (cK, 4096, .inl t)), (oa, .inl (cL, 1, .inr (.inl o)))] := hD
    subst ek
    refine lv_istore hx hb dL_law_367 hl (by decide) rfl (fun ls hl => ?_)
    have hl : lv_has ls 7 [(5, .int 1), (0, .ref b), (1, .ref h0), (2, .ref h1), (3, .ref oa), (4, .int (nI (5 * n)))] := hl
    refine lv_aload_n hx hb dL_law_369 rfl (lv_at hl 3 rfl) ?_
    refine lv_aload_n hx hb dL_law_370 rfl (lv_at hl 1 rfl) ?_
    refine lv_iload hx hb dL_law_371 (lv_at hl 5 rfl) ?_
    refine lv_iconst (v := 1) hx hb dL_law_373 (by decide) ?_
    refine lv_iadd hx hb dL_law_374 ?_
    refine W.eq (g2 := F0 m 375 ls [.int (nI (5 * n + 1)), .ref b, .ref h1]) (congrArg (fun z9 => F0 m 375 ls [.int z9, .ref b, .ref h1]) (show ((nI (5 * n)) + 1) = nI (5 * n + 1) from nI_add (5 * n) 1)) ?_
    refine va_sld hx hb hXs hbl hbA hS (vp_in_nI (by omega) (by omega)) dL_law_375 ?_
    refine W.eq (g2 := F0 m 376 ls [.int (xs (5 * n + 1)), .ref h1]) (congrArg (fun z9 => F0 m 376 ls [.int z9, .ref h1]) (show (xs (nI (5 * n + 1)).toNatClampNeg) = (xs (5 * n + 1)) from (show xs (nI (5 * n + 1)).toNatClampNeg = (xs (5 * n + 1)) from by rw [nI_clamp (by omega)]))) ?_
    refine lv_aload_n hx hb dL_law_376 rfl (lv_at hl 1 rfl) ?_
    refine lv_iload hx hb dL_law_377 (lv_at hl 5 rfl) ?_
    refine lv_iconst (v := 2) hx hb dL_law_379 (by decide) ?_
    refine lv_iadd hx hb dL_law_380 ?_
    refine W.eq (g2 := F0 m 381 ls [.int (nI (5 * n + 2)), .ref b, .int (xs (5 * n + 1)), .ref h1]) (congrArg (fun z9 => F0 m 381 ls [.int z9, .ref b, .int (xs (5 * n + 1)), .ref h1]) (show ((nI (5 * n)) + 2) = nI (5 * n + 2) from nI_add (5 * n) 2)) ?_
    refine va_sld hx hb hXs hbl hbA hS (vp_in_nI (by omega) (by omega)) dL_law_381 ?_
    refine W.eq (g2 := F0 m 382 ls [.int (xs (5 * n + 2)), .int (xs (5 * n + 1)), .ref h1]) (congrArg (fun z9 => F0 m 382 ls [.int z9, .int (xs (5 * n + 1)), .ref h1]) (show (xs (nI (5 * n + 2)).toNatClampNeg) = (xs (5 * n + 2)) from (show xs (nI (5 * n + 2)).toNatClampNeg = (xs (5 * n + 2)) from by rw [nI_clamp (by omega)]))) ?_
    have hPc := hP.sub (ws' := [(h1, .inr (1, [.int fl, .int (nI rc), .int (nI rl), .int (nI ps), .ref b1, .ref b2])), (b1, .inl (cJ, 4096, .inl g)), (b2, .inl (cK, 4096, .inl t))]) [2, 3, 4] rfl
    have hDc := hD.sub (ws' := [(h1, .inr (1, [.int fl, .int (nI rc), .int (nI rl), .int (nI ps), .ref b1, .ref b2])), (b1, .inl (cJ, 4096, .inl g)), (b2, .inl (cK, 4096, .inl t))]) [2, 3, 4] (by decide) rfl
    have hKc := hK.sub (tys' := [(cJ, .int), (cK, .int)]) [1, 2] rfl
    have hFc := va_free (wc := [(h1, .inr (1, [.int fl, .int (nI rc), .int (nI rl), .int (nI ps), .ref b1, .ref b2])), (b1, .inl (cJ, 4096, .inl g)), (b2, .inl (cK, 4096, .inl t))]) hD hS hA [2, 3, 4] rfl
    refine va_callv (va_runV (C := RX1) (As := [.int (xs (5 * n + 1)), .int (xs (5 * n + 2))]) (rest := []) ⟨hx, hb, hml, hown, htsY⟩ (c_Y1_filter_bad l dC dI cJ cK h1 b1 b2 fl rc rl ps g t H.size (xs (5 * n + 1)) (xs (5 * n + 2)) hc9) (cwV 2 htsY gL_law_Y1_filter rfl rfl rfl (by decide +kernel) ⟨Nat.le_of_ble_eq_true rfl, Nat.le_of_ble_eq_true rfl⟩) ⟨fun a U g mk q => by obtain ⟨q0, q1, qP, qK, qD⟩ := q; exact ⟨q0, q1, qP, va_K.moved (u := U) (U := U.calling g mk a) (Vm.Alike.refl U.vm) qK, qD⟩, va_recv hK hP (ci := 1) (q0 := 2) rfl rfl, fun U hU hW => ⟨rfl, by rw [hU], by rw [hU]; exact hPc, va_K.moved hW.alike hKc, hDc.weaken (fun _ _ _ _ => trivial)⟩⟩ rfl rfl hl.1 rfl (lv_room (Nat.le_of_ble_eq_true rfl)) dL_law_382 ⟨by show 6 + n + 1 + 0 ≤ 1031; omega, by show 12299 + 6 * n + 6 + 0 ≤ 20497; omega⟩) hS (fun q _ h => hFc q h) hFc (fun u t9 H1 locs ht hvm hw hB hz1 hk1 hS => ?_)
    obtain ⟨hP1, hK1, hD1⟩ := hB
    rw [ht] at hP1
    obtain ⟨hP, hD⟩ := va_join (wr := [(h0, .inr (0, [.ref ab, .int (nI rc), .int (nI rl), .int (nI ps)])), (ab, .inl (cI, 4096, .inl f)), (oa, .inl (cL, 1, .inr (.inl o)))]) (w1 := [(h1, .inr (1, [.int 1, .int (nI rc), .int (nI rl), .int (nI ps), .ref b1, .ref b2])), (b1, .inl (cJ, 4096, .inl g)), (b2, .inl (cK, 4096, .inl t))]) hP hD [2, 3, 4] [0, 1, 5] rfl rfl (by decide) (by decide) hk1 hFc hP1 hD1
    generalize H1 = H at hP hS ⊢
    have hP := hP.sub (ws' := [(h0, .inr (0, [.ref ab, .int (nI rc), .int (nI rl), .int (nI ps)])), (ab, .inl (cI, 4096, .inl f)), (h1, .inr (1, [.int 1, .int (nI rc), .int (nI rl), .int (nI ps), .ref b1, .ref b2])), (b1, .inl (cJ, 4096, .inl g)), (b2, .inl (cK, 4096, .inl t)), (oa, .inl (cL, 1, .inr (.inl o)))]) [0, 1, 3, 4, 5, 2] rfl
    have hD := hD.sub (ws' := [(h0, .inr (0, [.ref ab, .int (nI rc), .int (nI rl), .int (nI ps)])), (ab, .inl (cI, 4096, .inl f)), (h1, .inr (1, [.int 1, .int (nI rc), .int (nI rl), .int (nI ps), .ref b1, .ref b2])), (b1, .inl (cJ, 4096, .inl g)), (b2, .inl (cK, 4096, .inl t)), (oa, .inl (cL, 1, .inr (.inl o)))]) [0, 1, 3, 4, 5, 2] (by decide) rfl
    have hP : va_P (dC, dI) rw_cl [(h0, .inr (0, [.ref ab, .int (nI rc), .int (nI rl), .int (nI ps)])), (ab, .inl (cI, 4096, .inl f)), (h1, .inr (1, [.int 1, .int (nI rc), .int (nI rl), .int (nI ps), .ref b1, .ref b2])), (b1, .inl (cJ, 4096, .inl g)), (b2, .inl (cK, 4096, .inl t)), (oa, .inl (cL, 1, .inr (.inl o)))] H := hP
    have hD : va_D A [(h0, .inr (0, [.ref ab, .int (nI rc), .int (nI rl), .int (nI ps)])), (ab, .inl (cI, 4096, .inl f)), (h1, .inr (1, [.int 1, .int (nI rc), .int (nI rl), .int (nI ps), .ref b1, .ref b2])), (b1, .inl (cJ, 4096, .inl g)), (b2, .inl (cK, 4096, .inl t)), (oa, .inl (cL, 1, .inr (.inl o)))] := hD
    refine W.widen (k := 6 + n + 1) (n := 12299 + 6 * n + 6) (Nat.le_refl _) (Nat.le_refl _) ?_
    refine lv_aload_n hx hb dL_law_385 rfl (lv_at hl 3 rfl) ?_
    have hPc := hP.sub (ws' := [(h1, .inr (1, [.int 1, .int (nI rc), .int (nI rl), .int (nI ps), .ref b1, .ref b2])), (b1, .inl (cJ, 4096, .inl g)), (b2, .inl (cK, 4096, .inl t))]) [2, 3, 4] rfl
    have hKc := hK.sub (tys' := [(cJ, .int), (cK, .int)]) [1, 2] rfl
    refine vp_callSi (W.runV (C := RX1) (As := []) (rest := []) ⟨hx, hb, hml, hown, htsY⟩ (c_Y1_thrown l dC dI cJ cK h1 b1 b2 1 rc rl ps g t ) (cwV 0 htsY gL_law_Y1_thrown rfl rfl rfl (by decide +kernel) ⟨Nat.le_of_ble_eq_true rfl, Nat.le_of_ble_eq_true rfl⟩) ⟨fun a U g mk q => by obtain ⟨q0, qP, qK⟩ := q; exact ⟨q0, qP, va_K.moved (u := U) (U := U.calling g mk a) (Vm.Alike.refl U.vm) qK⟩, va_recv hK hP (ci := 1) (q0 := 2) rfl rfl, fun U hU hW => ⟨rfl, by rw [hU]; exact hPc, va_K.moved hW.alike hKc⟩⟩ rfl rfl hl.1 rfl (lv_room (Nat.le_of_ble_eq_true rfl)) dL_law_386 ⟨by show 6 + n + 1 + 0 ≤ 1031; omega, by show 12299 + 6 * n + 6 + 0 ≤ 20497; omega⟩) (fun rt et => ?_)
    subst et
    refine lv_iload hx hb dL_law_389 (lv_at hl 0 rfl) ?_
    refine lv_icmp_eq (tgt := 396) hx hb dL_law_391 (by decide) (fun hq => ?_) (fun hq => ?_)
    · refine lv_goto (tgt := 685) hx hb dL_law_396 (by decide) ?_
      refine lv_iinc (k := 5) (v := (nI (5 * (n + 1)))) hx hb dL_law_685 hl rfl (show nI (5 * n) + nI 5 = nI (5 * (n + 1)) from (nI_add _ _).trans (congrArg nI (by omega))) (by decide) rfl (fun ls hl => ?_)
      have hl : lv_has ls 7 [(4, .int (nI (5 * (n + 1)))), (5, .int 1), (0, .ref b), (1, .ref h0), (2, .ref h1), (3, .ref oa)] := hl
      refine lv_goto (tgt := 23) hx hb dL_law_688 (by decide) ?_
      refine W.widen (k := 6 + (n + 1)) (n := 12299 + 6 * (n + 1)) (by omega) (by omega) ?_
      exact ih _ _ _ ⟨rc, rl, ps, f, 1, g, t, o, ok, hR, lv_sub hl [2, 3, 4, 5, 0] rfl, hP, hD, hS⟩
    · exact absurd (rfl : (1 : Int32) = 1) hq
  · obtain ⟨y, q, e1, e2, hy, hq⟩ := rf_bd_ok ok hc9
    refine lv_aload_n hx hb dL_law_351 rfl (lv_at hl 1 rfl) ?_
    refine lv_aload_n hx hb dL_law_352 rfl (lv_at hl 0 rfl) ?_
    refine lv_iload hx hb dL_law_353 (lv_at hl 4 rfl) ?_
    refine lv_iconst (v := 1) hx hb dL_law_355 (by decide) ?_
    refine lv_iadd hx hb dL_law_356 ?_
    refine W.eq (g2 := F0 m 357 ls [.int (nI (5 * n + 1)), .ref b, .ref h0]) (congrArg (fun z9 => F0 m 357 ls [.int z9, .ref b, .ref h0]) (show ((nI (5 * n)) + 1) = nI (5 * n + 1) from nI_add (5 * n) 1)) ?_
    refine va_sld hx hb hXs hbl hbA hS (vp_in_nI (by omega) (by omega)) dL_law_357 ?_
    refine W.eq (g2 := F0 m 358 ls [.int (nI y), .ref h0]) (congrArg (fun z9 => F0 m 358 ls [.int z9, .ref h0]) (show (xs (nI (5 * n + 1)).toNatClampNeg) = (nI y) from (show xs (nI (5 * n + 1)).toNatClampNeg = (nI y) from by rw [nI_clamp (by omega)]; exact e1))) ?_
    refine lv_aload_n hx hb dL_law_358 rfl (lv_at hl 0 rfl) ?_
    refine lv_iload hx hb dL_law_359 (lv_at hl 4 rfl) ?_
    refine lv_iconst (v := 2) hx hb dL_law_361 (by decide) ?_
    refine lv_iadd hx hb dL_law_362 ?_
    refine W.eq (g2 := F0 m 363 ls [.int (nI (5 * n + 2)), .ref b, .int (nI y), .ref h0]) (congrArg (fun z9 => F0 m 363 ls [.int z9, .ref b, .int (nI y), .ref h0]) (show ((nI (5 * n)) + 2) = nI (5 * n + 2) from nI_add (5 * n) 2)) ?_
    refine va_sld hx hb hXs hbl hbA hS (vp_in_nI (by omega) (by omega)) dL_law_363 ?_
    refine W.eq (g2 := F0 m 364 ls [.int (nI q), .int (nI y), .ref h0]) (congrArg (fun z9 => F0 m 364 ls [.int z9, .int (nI y), .ref h0]) (show (xs (nI (5 * n + 2)).toNatClampNeg) = (nI q) from (show xs (nI (5 * n + 2)).toNatClampNeg = (nI q) from by rw [nI_clamp (by omega)]; exact e2))) ?_
    have hPc := hP.sub (ws' := [(h0, .inr (0, [.ref ab, .int (nI rc), .int (nI rl), .int (nI ps)])), (ab, .inl (cI, 4096, .inl f))]) [0, 1] rfl
    have hDc := hD.sub (ws' := [(h0, .inr (0, [.ref ab, .int (nI rc), .int (nI rl), .int (nI ps)])), (ab, .inl (cI, 4096, .inl f))]) [0, 1] (by decide) rfl
    have hKc := hK.sub (tys' := [(cI, .int)]) [0] rfl
    have hFc := va_free (wc := [(h0, .inr (0, [.ref ab, .int (nI rc), .int (nI rl), .int (nI ps)])), (ab, .inl (cI, 4096, .inl f))]) hD hS hA [0, 1] rfl
    refine va_calli (vx_runSW (As := [.ref h0, .int (nI y), .int (nI q)]) (rest := []) ⟨hx, hb, hml, hown, hts⟩ (c_L_filter l dC dI cI h0 ab rc rl ps f H.size y q ok hy hq) (vx_cwSW 3 hts gL_law_L_filter rfl rfl rfl (by decide +kernel) ⟨Nat.le_of_ble_eq_true rfl, Nat.le_of_ble_eq_true rfl⟩) ⟨fun a U g mk q => by obtain ⟨q0, q1, qP, qK, qD⟩ := q; exact ⟨q0, q1, qP, va_K.moved (u := U) (U := U.calling g mk a) (Vm.Alike.refl U.vm) qK, qD⟩, fun U hU hW => ⟨rfl, by rw [hU], by rw [hU]; exact hPc, va_K.moved hW.alike hKc, hDc.weaken (fun _ _ _ _ => trivial)⟩⟩ rfl rfl hl.1 rfl (lv_room (Nat.le_of_ble_eq_true rfl)) dL_law_364 ⟨by show 6 + n + 0 ≤ 1031; omega, by show 12299 + 6 * n + 0 ≤ 20497; omega⟩) hS (fun q _ h => hFc q h) hFc (fun k u t9 H1 locs ht hvm ek hB hz1 hk1 hS => ?_)
    obtain ⟨hP1, hK1, hD1⟩ := hB
    rw [ht] at hP1
    obtain ⟨hP, hD⟩ := va_join (wr := [(h1, .inr (1, [.int fl, .int (nI rc), .int (nI rl), .int (nI ps), .ref b1, .ref b2])), (b1, .inl (cJ, 4096, .inl g)), (b2, .inl (cK, 4096, .inl t)), (oa, .inl (cL, 1, .inr (.inl o)))]) (w1 := [(h0, .inr (0, [.ref ab, .int (nI rc), .int (nI rl), .int (nI ps)])), (ab, .inl (cI, 4096, .inl (rf_p f (rf_tv f rl ps y q) (y * rl) (y * rl + rl))))]) hP hD [0, 1] [2, 3, 4, 5] rfl rfl (by decide) (by decide) hk1 hFc hP1 hD1
    generalize H1 = H at hP hS ⊢
    have hP := hP.sub (ws' := [(h0, .inr (0, [.ref ab, .int (nI rc), .int (nI rl), .int (nI ps)])), (ab, .inl (cI, 4096, .inl (rf_p f (rf_tv f rl ps y q) (y * rl) (y * rl + rl)))), (h1, .inr (1, [.int fl, .int (nI rc), .int (nI rl), .int (nI ps), .ref b1, .ref b2])), (b1, .inl (cJ, 4096, .inl g)), (b2, .inl (cK, 4096, .inl t)), (oa, .inl (cL, 1, .inr (.inl o)))]) [4, 5, 0, 1, 2, 3] rfl
    have hD := hD.sub (ws' := [(h0, .inr (0, [.ref ab, .int (nI rc), .int (nI rl), .int (nI ps)])), (ab, .inl (cI, 4096, .inl (rf_p f (rf_tv f rl ps y q) (y * rl) (y * rl + rl)))), (h1, .inr (1, [.int fl, .int (nI rc), .int (nI rl), .int (nI ps), .ref b1, .ref b2])), (b1, .inl (cJ, 4096, .inl g)), (b2, .inl (cK, 4096, .inl t)), (oa, .inl (cL, 1, .inr (.inl o)))]) [4, 5, 0, 1, 2, 3] (by decide) rfl
    have hP : va_P (dC, dI) rw_cl [(h0, .inr (0, [.ref ab, .int (nI rc), .int (nI rl), .int (nI ps)])), (ab, .inl (cI, 4096, .inl (rf_p f (rf_tv f rl ps y q) (y * rl) (y * rl + rl)))), (h1, .inr (1, [.int fl, .int (nI rc), .int (nI rl), .int (nI ps), .ref b1, .ref b2])), (b1, .inl (cJ, 4096, .inl g)), (b2, .inl (cK, 4096, .inl t)), (oa, .inl (cL, 1, .inr (.inl o)))] H := hP
    have hD : va_D A [(h0, .inr (0, [.ref ab, .int (nI rc), .int (nI rl), .int (nI ps)])), (ab, .inl (cI, 4096, .inl (rf_p f (rf_tv f rl ps y q) (y * rl) (y * rl + rl)))), (h1, .inr (1, [.int fl, .int (nI rc), .int (nI rl), .int (nI ps), .ref b1, .ref b2])), (b1, .inl (cJ, 4096, .inl g)), (b2, .inl (cK, 4096, .inl t)), (oa, .inl (cL, 1, .inr (.inl o)))] := hD
    refine W.widen (k := 6 + n) (n := 12299 + 6 * n) (Nat.le_refl _) (Nat.le_refl _) ?_
    subst ek
    refine lv_istore hx hb dL_law_367 hl (by decide) rfl (fun ls hl => ?_)
    have hl : lv_has ls 7 [(5, .int 0), (0, .ref b), (1, .ref h0), (2, .ref h1), (3, .ref oa), (4, .int (nI (5 * n)))] := hl
    refine lv_aload_n hx hb dL_law_369 rfl (lv_at hl 3 rfl) ?_
    refine lv_aload_n hx hb dL_law_370 rfl (lv_at hl 1 rfl) ?_
    refine lv_iload hx hb dL_law_371 (lv_at hl 5 rfl) ?_
    refine lv_iconst (v := 1) hx hb dL_law_373 (by decide) ?_
    refine lv_iadd hx hb dL_law_374 ?_
    refine W.eq (g2 := F0 m 375 ls [.int (nI (5 * n + 1)), .ref b, .ref h1]) (congrArg (fun z9 => F0 m 375 ls [.int z9, .ref b, .ref h1]) (show ((nI (5 * n)) + 1) = nI (5 * n + 1) from nI_add (5 * n) 1)) ?_
    refine va_sld hx hb hXs hbl hbA hS (vp_in_nI (by omega) (by omega)) dL_law_375 ?_
    refine W.eq (g2 := F0 m 376 ls [.int (nI y), .ref h1]) (congrArg (fun z9 => F0 m 376 ls [.int z9, .ref h1]) (show (xs (nI (5 * n + 1)).toNatClampNeg) = (nI y) from (show xs (nI (5 * n + 1)).toNatClampNeg = (nI y) from by rw [nI_clamp (by omega)]; exact e1))) ?_
    refine lv_aload_n hx hb dL_law_376 rfl (lv_at hl 1 rfl) ?_
    refine lv_iload hx hb dL_law_377 (lv_at hl 5 rfl) ?_
    refine lv_iconst (v := 2) hx hb dL_law_379 (by decide) ?_
    refine lv_iadd hx hb dL_law_380 ?_
    refine W.eq (g2 := F0 m 381 ls [.int (nI (5 * n + 2)), .ref b, .int (nI y), .ref h1]) (congrArg (fun z9 => F0 m 381 ls [.int z9, .ref b, .int (nI y), .ref h1]) (show ((nI (5 * n)) + 2) = nI (5 * n + 2) from nI_add (5 * n) 2)) ?_
    refine va_sld hx hb hXs hbl hbA hS (vp_in_nI (by omega) (by omega)) dL_law_381 ?_
    refine W.eq (g2 := F0 m 382 ls [.int (nI q), .int (nI y), .ref h1]) (congrArg (fun z9 => F0 m 382 ls [.int z9, .int (nI y), .ref h1]) (show (xs (nI (5 * n + 2)).toNatClampNeg) = (nI q) from (show xs (nI (5 * n + 2)).toNatClampNeg = (nI q) from by rw [nI_clamp (by omega)]; exact e2))) ?_
    have hPc := hP.sub (ws' := [(h1, .inr (1, [.int fl, .int (nI rc), .int (nI rl), .int (nI ps), .ref b1, .ref b2])), (b1, .inl (cJ, 4096, .inl g)), (b2, .inl (cK, 4096, .inl t))]) [2, 3, 4] rfl
    have hDc := hD.sub (ws' := [(h1, .inr (1, [.int fl, .int (nI rc), .int (nI rl), .int (nI ps), .ref b1, .ref b2])), (b1, .inl (cJ, 4096, .inl g)), (b2, .inl (cK, 4096, .inl t))]) [2, 3, 4] (by decide) rfl
    have hKc := hK.sub (tys' := [(cJ, .int), (cK, .int)]) [1, 2] rfl
    have hFc := va_free (wc := [(h1, .inr (1, [.int fl, .int (nI rc), .int (nI rl), .int (nI ps), .ref b1, .ref b2])), (b1, .inl (cJ, 4096, .inl g)), (b2, .inl (cK, 4096, .inl t))]) hD hS hA [2, 3, 4] rfl
    refine va_callv (va_runV (C := RX1) (As := [.int (nI y), .int (nI q)]) (rest := []) ⟨hx, hb, hml, hown, htsY⟩ (c_Y1_filter l dC dI cJ cK h1 b1 b2 fl rc rl ps g t H.size y q ok hy hq) (cwV 2 htsY gL_law_Y1_filter rfl rfl rfl (by decide +kernel) ⟨Nat.le_of_ble_eq_true rfl, Nat.le_of_ble_eq_true rfl⟩) ⟨fun a U g mk q => by obtain ⟨q0, q1, qP, qK, qD⟩ := q; exact ⟨q0, q1, qP, va_K.moved (u := U) (U := U.calling g mk a) (Vm.Alike.refl U.vm) qK, qD⟩, va_recv hK hP (ci := 1) (q0 := 2) rfl rfl, fun U hU hW => ⟨rfl, by rw [hU], by rw [hU]; exact hPc, va_K.moved hW.alike hKc, hDc.weaken (fun _ _ _ _ => trivial)⟩⟩ rfl rfl hl.1 rfl (lv_room (Nat.le_of_ble_eq_true rfl)) dL_law_382 ⟨by show 6 + n + 0 ≤ 1031; omega, by show 12299 + 6 * n + 0 ≤ 20497; omega⟩) hS (fun q _ h => hFc q h) hFc (fun u t9 H1 locs ht hvm hw hB hz1 hk1 hS => ?_)
    obtain ⟨hP1, hK1, hD1⟩ := hB
    rw [ht] at hP1
    obtain ⟨hP, hD⟩ := va_join (wr := [(h0, .inr (0, [.ref ab, .int (nI rc), .int (nI rl), .int (nI ps)])), (ab, .inl (cI, 4096, .inl (rf_p f (rf_tv f rl ps y q) (y * rl) (y * rl + rl)))), (oa, .inl (cL, 1, .inr (.inl o)))]) (w1 := [(h1, .inr (1, [.int 0, .int (nI rc), .int (nI rl), .int (nI ps), .ref b1, .ref b2])), (b1, .inl (cJ, 4096, .inl (rf_p g (rf_tv g rl ps y q) (y * rl) (y * rl + rl)))), (b2, .inl (cK, 4096, .inl (rf_p t (rf_tv g rl ps y q) (y * rl) (y * rl + rl))))]) hP hD [2, 3, 4] [0, 1, 5] rfl rfl (by decide) (by decide) hk1 hFc hP1 hD1
    generalize H1 = H at hP hS ⊢
    have hP := hP.sub (ws' := [(h0, .inr (0, [.ref ab, .int (nI rc), .int (nI rl), .int (nI ps)])), (ab, .inl (cI, 4096, .inl (rf_p f (rf_tv f rl ps y q) (y * rl) (y * rl + rl)))), (h1, .inr (1, [.int 0, .int (nI rc), .int (nI rl), .int (nI ps), .ref b1, .ref b2])), (b1, .inl (cJ, 4096, .inl (rf_p g (rf_tv g rl ps y q) (y * rl) (y * rl + rl)))), (b2, .inl (cK, 4096, .inl (rf_p t (rf_tv g rl ps y q) (y * rl) (y * rl + rl)))), (oa, .inl (cL, 1, .inr (.inl o)))]) [0, 1, 3, 4, 5, 2] rfl
    have hD := hD.sub (ws' := [(h0, .inr (0, [.ref ab, .int (nI rc), .int (nI rl), .int (nI ps)])), (ab, .inl (cI, 4096, .inl (rf_p f (rf_tv f rl ps y q) (y * rl) (y * rl + rl)))), (h1, .inr (1, [.int 0, .int (nI rc), .int (nI rl), .int (nI ps), .ref b1, .ref b2])), (b1, .inl (cJ, 4096, .inl (rf_p g (rf_tv g rl ps y q) (y * rl) (y * rl + rl)))), (b2, .inl (cK, 4096, .inl (rf_p t (rf_tv g rl ps y q) (y * rl) (y * rl + rl)))), (oa, .inl (cL, 1, .inr (.inl o)))]) [0, 1, 3, 4, 5, 2] (by decide) rfl
    have hP : va_P (dC, dI) rw_cl [(h0, .inr (0, [.ref ab, .int (nI rc), .int (nI rl), .int (nI ps)])), (ab, .inl (cI, 4096, .inl (rf_p f (rf_tv f rl ps y q) (y * rl) (y * rl + rl)))), (h1, .inr (1, [.int 0, .int (nI rc), .int (nI rl), .int (nI ps), .ref b1, .ref b2])), (b1, .inl (cJ, 4096, .inl (rf_p g (rf_tv g rl ps y q) (y * rl) (y * rl + rl)))), (b2, .inl (cK, 4096, .inl (rf_p t (rf_tv g rl ps y q) (y * rl) (y * rl + rl)))), (oa, .inl (cL, 1, .inr (.inl o)))] H := hP
    have hD : va_D A [(h0, .inr (0, [.ref ab, .int (nI rc), .int (nI rl), .int (nI ps)])), (ab, .inl (cI, 4096, .inl (rf_p f (rf_tv f rl ps y q) (y * rl) (y * rl + rl)))), (h1, .inr (1, [.int 0, .int (nI rc), .int (nI rl), .int (nI ps), .ref b1, .ref b2])), (b1, .inl (cJ, 4096, .inl (rf_p g (rf_tv g rl ps y q) (y * rl) (y * rl + rl)))), (b2, .inl (cK, 4096, .inl (rf_p t (rf_tv g rl ps y q) (y * rl) (y * rl + rl)))), (oa, .inl (cL, 1, .inr (.inl o)))] := hD
    refine W.widen (k := 6 + n) (n := 12299 + 6 * n) (Nat.le_refl _) (Nat.le_refl _) ?_
    refine lv_aload_n hx hb dL_law_385 rfl (lv_at hl 3 rfl) ?_
    have hPc := hP.sub (ws' := [(h1, .inr (1, [.int 0, .int (nI rc), .int (nI rl), .int (nI ps), .ref b1, .ref b2])), (b1, .inl (cJ, 4096, .inl (rf_p g (rf_tv g rl ps y q) (y * rl) (y * rl + rl)))), (b2, .inl (cK, 4096, .inl (rf_p t (rf_tv g rl ps y q) (y * rl) (y * rl + rl))))]) [2, 3, 4] rfl
    have hKc := hK.sub (tys' := [(cJ, .int), (cK, .int)]) [1, 2] rfl
    refine vp_callSi (W.runV (C := RX1) (As := []) (rest := []) ⟨hx, hb, hml, hown, htsY⟩ (c_Y1_thrown l dC dI cJ cK h1 b1 b2 0 rc rl ps (rf_p g (rf_tv g rl ps y q) (y * rl) (y * rl + rl)) (rf_p t (rf_tv g rl ps y q) (y * rl) (y * rl + rl)) ) (cwV 0 htsY gL_law_Y1_thrown rfl rfl rfl (by decide +kernel) ⟨Nat.le_of_ble_eq_true rfl, Nat.le_of_ble_eq_true rfl⟩) ⟨fun a U g mk q => by obtain ⟨q0, qP, qK⟩ := q; exact ⟨q0, qP, va_K.moved (u := U) (U := U.calling g mk a) (Vm.Alike.refl U.vm) qK⟩, va_recv hK hP (ci := 1) (q0 := 2) rfl rfl, fun U hU hW => ⟨rfl, by rw [hU]; exact hPc, va_K.moved hW.alike hKc⟩⟩ rfl rfl hl.1 rfl (lv_room (Nat.le_of_ble_eq_true rfl)) dL_law_386 ⟨by show 6 + n + 0 ≤ 1031; omega, by show 12299 + 6 * n + 0 ≤ 20497; omega⟩) (fun rt et => ?_)
    subst et
    refine lv_iload hx hb dL_law_389 (lv_at hl 0 rfl) ?_
    refine lv_icmp_eq (tgt := 396) hx hb dL_law_391 (by decide) (fun hq => ?_) (fun hq => ?_)
    · refine lv_goto (tgt := 685) hx hb dL_law_396 (by decide) ?_
      refine lv_iinc (k := 5) (v := (nI (5 * (n + 1)))) hx hb dL_law_685 hl rfl (show nI (5 * n) + nI 5 = nI (5 * (n + 1)) from (nI_add _ _).trans (congrArg nI (by omega))) (by decide) rfl (fun ls hl => ?_)
      have hl : lv_has ls 7 [(4, .int (nI (5 * (n + 1)))), (5, .int 0), (0, .ref b), (1, .ref h0), (2, .ref h1), (3, .ref oa)] := hl
      refine lv_goto (tgt := 23) hx hb dL_law_688 (by decide) ?_
      refine W.widen (k := 6 + (n + 1)) (n := 12299 + 6 * (n + 1)) (by omega) (by omega) ?_
      exact ih _ _ _ ⟨rc, rl, ps, (rf_p f (rf_tv f rl ps y q) (y * rl) (y * rl + rl)), 0, (rf_p g (rf_tv g rl ps y q) (y * rl) (y * rl + rl)), (rf_p t (rf_tv g rl ps y q) (y * rl) (y * rl + rl)), o, ok, (rf_R_filter ok.2.2.2.1 hy hR), lv_sub hl [2, 3, 4, 5, 0] rfl, hP, hD, hS⟩
    · exact absurd (rfl : (0 : Int32) = 0) hq
set_option maxHeartbeats 8000000 in
set_option maxRecDepth 100000 in
theorem lw_case_plain {p : Program} {l : Launch} {e : Env} {s : State} {m : MethodId} {below : List Frame} {meth : Method} {c : Code} {Q : State → Prop} {A : Nat → Prop} {b L : Nat} {xs : Nat → Int32} {dC : Nat → ClassId} {dI : Nat → Nat → Nat} {h0 ab : Nat} {cI : ClassId} {h1 b1 b2 : Nat} {cJ cK : ClassId} {oa : Nat} {cL : ClassId} {sa t1 t2 t3 t4 : Nat} (hl9 : l.stackTraces = false) (C9 : lw_F p s m c A b L xs dC dI cI cJ cK cL sa t1 t2 t3 t4) {n : Nat} (hn : n ≤ 512) (hL5 : 5 * n + 5 ≤ L) {rc rl ps : Nat} {f : Nat → Int32} {fl : Int32} {g t : Nat → Int32} {o : Nat → Int64} {ls : Array Slot} {H : Heap} {locs : List Loc} (ok : rf_ok rc rl ps) (hR : rf_R (rc * rl) f g) (hl : lv_has ls 7 [(0, .ref b), (1, .ref h0), (2, .ref h1), (3, .ref oa), (4, .int (nI (5 * n)))]) (hP : va_P (dC, dI) rw_cl (lw_W h0 ab cI h1 b1 b2 cJ cK oa cL rc rl ps f fl g t o) H) (hD : va_D A (lw_W h0 ab cI h1 b1 b2 cJ cK oa cL rc rl ps f fl g t o)) (hS : va_S A s.heap H locs) (ih : ∀ (ls : Array Slot) (H : Heap) (locs : List Loc), lw_I s A dC dI b h0 ab cI h1 b1 b2 cJ cK oa cL (n + 1) ls H locs → W p l e room_1 s m #[Value.ref b] below meth c H locs (6 + (n + 1)) (12299 + 6 * (n + 1)) Q (F0 m 23 ls [])) : W p l e room_1 s m #[Value.ref b] below meth c H locs (6 + n) (12299 + 6 * n) Q (F0 m 399 ls []) := by
  obtain ⟨hx, hb, hml, hown, hts, htsY, hXs, hbl, hbA, hA, hA2, hK, hX, hZ, hL⟩ := C9
  by_cases hc9 : rf_bd rc (xs (5 * n + 1)) (xs (5 * n + 2))
  · refine lv_aload_n hx hb dL_law_399 rfl (lv_at hl 1 rfl) ?_
    refine lv_aload_n hx hb dL_law_400 rfl (lv_at hl 0 rfl) ?_
    refine lv_iload hx hb dL_law_401 (lv_at hl 4 rfl) ?_
    refine lv_iconst (v := 1) hx hb dL_law_403 (by decide) ?_
    refine lv_iadd hx hb dL_law_404 ?_
    refine W.eq (g2 := F0 m 405 ls [.int (nI (5 * n + 1)), .ref b, .ref h0]) (congrArg (fun z9 => F0 m 405 ls [.int z9, .ref b, .ref h0]) (show ((nI (5 * n)) + 1) = nI (5 * n + 1) from nI_add (5 * n) 1)) ?_
    refine va_sld hx hb hXs hbl hbA hS (vp_in_nI (by omega) (by omega)) dL_law_405 ?_
    refine W.eq (g2 := F0 m 406 ls [.int (xs (5 * n + 1)), .ref h0]) (congrArg (fun z9 => F0 m 406 ls [.int z9, .ref h0]) (show (xs (nI (5 * n + 1)).toNatClampNeg) = (xs (5 * n + 1)) from (show xs (nI (5 * n + 1)).toNatClampNeg = (xs (5 * n + 1)) from by rw [nI_clamp (by omega)]))) ?_
    refine lv_aload_n hx hb dL_law_406 rfl (lv_at hl 0 rfl) ?_
    refine lv_iload hx hb dL_law_407 (lv_at hl 4 rfl) ?_
    refine lv_iconst (v := 2) hx hb dL_law_409 (by decide) ?_
    refine lv_iadd hx hb dL_law_410 ?_
    refine W.eq (g2 := F0 m 411 ls [.int (nI (5 * n + 2)), .ref b, .int (xs (5 * n + 1)), .ref h0]) (congrArg (fun z9 => F0 m 411 ls [.int z9, .ref b, .int (xs (5 * n + 1)), .ref h0]) (show ((nI (5 * n)) + 2) = nI (5 * n + 2) from nI_add (5 * n) 2)) ?_
    refine va_sld hx hb hXs hbl hbA hS (vp_in_nI (by omega) (by omega)) dL_law_411 ?_
    refine W.eq (g2 := F0 m 412 ls [.int (xs (5 * n + 2)), .int (xs (5 * n + 1)), .ref h0]) (congrArg (fun z9 => F0 m 412 ls [.int z9, .int (xs (5 * n + 1)), .ref h0]) (show (xs (nI (5 * n + 2)).toNatClampNeg) = (xs (5 * n + 2)) from (show xs (nI (5 * n + 2)).toNatClampNeg = (xs (5 * n + 2)) from by rw [nI_clamp (by omega)]))) ?_
    have hPc := hP.sub (ws' := [(h0, .inr (0, [.ref ab, .int (nI rc), .int (nI rl), .int (nI ps)])), (ab, .inl (cI, 4096, .inl f))]) [0, 1] rfl
    have hDc := hD.sub (ws' := [(h0, .inr (0, [.ref ab, .int (nI rc), .int (nI rl), .int (nI ps)])), (ab, .inl (cI, 4096, .inl f))]) [0, 1] (by decide) rfl
    have hKc := hK.sub (tys' := [(cI, .int)]) [0] rfl
    have hFc := va_free (wc := [(h0, .inr (0, [.ref ab, .int (nI rc), .int (nI rl), .int (nI ps)])), (ab, .inl (cI, 4096, .inl f))]) hD hS hA [0, 1] rfl
    refine va_calli (vx_runSW (As := [.ref h0, .int (xs (5 * n + 1)), .int (xs (5 * n + 2))]) (rest := []) ⟨hx, hb, hml, hown, hts⟩ (c_L_plain_bad l hl9 sa dC dI cI h0 ab rc rl ps f H.size (xs (5 * n + 1)) (xs (5 * n + 2)) (rf_bd_x ok hc9)) (vx_cwSW 3 hts gL_law_L_plain rfl rfl rfl (by decide +kernel) ⟨Nat.le_of_ble_eq_true rfl, Nat.le_of_ble_eq_true rfl⟩) ⟨fun a U g mk q => by obtain ⟨q0, qX, q1, qP, qK, qD⟩ := q; exact ⟨q0, rw_XA.call qX, q1, qP, va_K.moved (u := U) (U := U.calling g mk a) (Vm.Alike.refl U.vm) qK, qD⟩, fun U hU hW => ⟨rfl, rw_XA.to hX hS (fun q z => hA q (Nat.le_trans hS.1 z)) hU hW, by rw [hU], by rw [hU]; exact hPc, va_K.moved hW.alike hKc, hDc.weaken (fun _ _ _ _ => trivial)⟩⟩ rfl rfl hl.1 rfl (lv_room (Nat.le_of_ble_eq_true rfl)) dL_law_412 ⟨by show 6 + n + 1 ≤ 1031; omega, by show 12299 + 6 * n + 6 ≤ 20497; omega⟩) hS (fun q _ h => hFc q h) hFc (fun k u t9 H1 locs ht hvm ek hB hz1 hk1 hS => ?_)
    obtain ⟨hP1, hK1, hD1⟩ := hB
    rw [ht] at hP1
    obtain ⟨hP, hD⟩ := va_join (wr := [(h1, .inr (1, [.int fl, .int (nI rc), .int (nI rl), .int (nI ps), .ref b1, .ref b2])), (b1, .inl (cJ, 4096, .inl g)), (b2, .inl (cK, 4096, .inl t)), (oa, .inl (cL, 1, .inr (.inl o)))]) (w1 := [(h0, .inr (0, [.ref ab, .int (nI rc), .int (nI rl), .int (nI ps)])), (ab, .inl (cI, 4096, .inl f))]) hP hD [0, 1] [2, 3, 4, 5] rfl rfl (by decide) (by decide) hk1 hFc hP1 hD1
    generalize H1 = H at hP hS ⊢
    have hP := hP.sub (ws' := [(h0, .inr (0, [.ref ab, .int (nI rc), .int (nI rl), .int (nI ps)])), (ab, .inl (cI, 4096, .inl f)), (h1, .inr (1, [.int fl, .int (nI rc), .int (nI rl), .int (nI ps), .ref b1, .ref b2])), (b1, .inl (cJ, 4096, .inl g)), (b2, .inl (cK, 4096, .inl t)), (oa, .inl (cL, 1, .inr (.inl o)))]) [4, 5, 0, 1, 2, 3] rfl
    have hD := hD.sub (ws' := [(h0, .inr (0, [.ref ab, .int (nI rc), .int (nI rl), .int (nI ps)])), (ab, .inl (cI, 4096, .inl f)), (h1, .inr (1, [.int fl, .int (nI rc), .int (nI rl), .int (nI ps), .ref b1, .ref b2])), (b1, .inl (cJ, 4096, .inl g)), (b2, .inl (cK, 4096, .inl t)), (oa, .inl (cL, 1, .inr (.inl o)))]) [4, 5, 0, 1, 2, 3] (by decide) rfl
    have hP : va_P (dC, dI) rw_cl [(h0, .inr (0, [.ref ab, .int (nI rc), .int (nI rl), .int (nI ps)])), (ab, .inl (cI, 4096, .inl f)), (h1, .inr (1, [.int fl, .int (nI rc), .int (nI rl), .int (nI ps), .ref b1, .ref b2])), (b1, .inl (cJ, 4096, .inl g)), (b2, .inl (cK, 4096, .inl t)), (oa, .inl (cL, 1, .inr (.inl o)))] H := hP
    have hD : va_D A [(h0, .inr (0, [.ref ab, .int (nI rc), .int (nI rl), .int (nI ps)])), (ab, .inl (cI, 4096, .inl f)), (h1, .inr (1, [.int fl, .int (nI rc), .int (nI rl), .int (nI ps), .ref b1, .ref b2])), (b1, .inl (cJ, 4096, .inl g)), (b2, .inl (cK, 4096, .inl t)), (oa, .inl (cL, 1, .inr (.inl o)))] := hD
    subst ek
    refine lv_istore hx hb dL_law_415 hl (by decide) rfl (fun ls hl => ?_)
    have hl : lv_has ls 7 [(5, .int 1), (0, .ref b), (1, .ref h0), (2, .ref h1), (3, .ref oa), (4, .int (nI (5 * n)))] := hl
    refine lv_aload_n hx hb dL_law_417 rfl (lv_at hl 3 rfl) ?_
    refine lv_aload_n hx hb dL_law_418 rfl (lv_at hl 1 rfl) ?_
    refine lv_iload hx hb dL_law_419 (lv_at hl 5 rfl) ?_
    refine lv_iconst (v := 1) hx hb dL_law_421 (by decide) ?_
    refine lv_iadd hx hb dL_law_422 ?_
    refine W.eq (g2 := F0 m 423 ls [.int (nI (5 * n + 1)), .ref b, .ref h1]) (congrArg (fun z9 => F0 m 423 ls [.int z9, .ref b, .ref h1]) (show ((nI (5 * n)) + 1) = nI (5 * n + 1) from nI_add (5 * n) 1)) ?_
    refine va_sld hx hb hXs hbl hbA hS (vp_in_nI (by omega) (by omega)) dL_law_423 ?_
    refine W.eq (g2 := F0 m 424 ls [.int (xs (5 * n + 1)), .ref h1]) (congrArg (fun z9 => F0 m 424 ls [.int z9, .ref h1]) (show (xs (nI (5 * n + 1)).toNatClampNeg) = (xs (5 * n + 1)) from (show xs (nI (5 * n + 1)).toNatClampNeg = (xs (5 * n + 1)) from by rw [nI_clamp (by omega)]))) ?_
    refine lv_aload_n hx hb dL_law_424 rfl (lv_at hl 1 rfl) ?_
    refine lv_iload hx hb dL_law_425 (lv_at hl 5 rfl) ?_
    refine lv_iconst (v := 2) hx hb dL_law_427 (by decide) ?_
    refine lv_iadd hx hb dL_law_428 ?_
    refine W.eq (g2 := F0 m 429 ls [.int (nI (5 * n + 2)), .ref b, .int (xs (5 * n + 1)), .ref h1]) (congrArg (fun z9 => F0 m 429 ls [.int z9, .ref b, .int (xs (5 * n + 1)), .ref h1]) (show ((nI (5 * n)) + 2) = nI (5 * n + 2) from nI_add (5 * n) 2)) ?_
    refine va_sld hx hb hXs hbl hbA hS (vp_in_nI (by omega) (by omega)) dL_law_429 ?_
    refine W.eq (g2 := F0 m 430 ls [.int (xs (5 * n + 2)), .int (xs (5 * n + 1)), .ref h1]) (congrArg (fun z9 => F0 m 430 ls [.int z9, .int (xs (5 * n + 1)), .ref h1]) (show (xs (nI (5 * n + 2)).toNatClampNeg) = (xs (5 * n + 2)) from (show xs (nI (5 * n + 2)).toNatClampNeg = (xs (5 * n + 2)) from by rw [nI_clamp (by omega)]))) ?_
    have hPc := hP.sub (ws' := [(h1, .inr (1, [.int fl, .int (nI rc), .int (nI rl), .int (nI ps), .ref b1, .ref b2])), (b1, .inl (cJ, 4096, .inl g)), (b2, .inl (cK, 4096, .inl t))]) [2, 3, 4] rfl
    have hDc := hD.sub (ws' := [(h1, .inr (1, [.int fl, .int (nI rc), .int (nI rl), .int (nI ps), .ref b1, .ref b2])), (b1, .inl (cJ, 4096, .inl g)), (b2, .inl (cK, 4096, .inl t))]) [2, 3, 4] (by decide) rfl
    have hKc := hK.sub (tys' := [(cJ, .int), (cK, .int)]) [1, 2] rfl
    have hFc := va_free (wc := [(h1, .inr (1, [.int fl, .int (nI rc), .int (nI rl), .int (nI ps), .ref b1, .ref b2])), (b1, .inl (cJ, 4096, .inl g)), (b2, .inl (cK, 4096, .inl t))]) hD hS hA [2, 3, 4] rfl
    refine va_callv (va_runV (C := RX1) (As := [.int (xs (5 * n + 1)), .int (xs (5 * n + 2))]) (rest := []) ⟨hx, hb, hml, hown, htsY⟩ (c_Y1_plain_bad l dC dI cJ cK h1 b1 b2 fl rc rl ps g t H.size (xs (5 * n + 1)) (xs (5 * n + 2)) hc9) (cwV 2 htsY gL_law_Y1_plain rfl rfl rfl (by decide +kernel) ⟨Nat.le_of_ble_eq_true rfl, Nat.le_of_ble_eq_true rfl⟩) ⟨fun a U g mk q => by obtain ⟨q0, q1, qP, qK, qD⟩ := q; exact ⟨q0, q1, qP, va_K.moved (u := U) (U := U.calling g mk a) (Vm.Alike.refl U.vm) qK, qD⟩, va_recv hK hP (ci := 1) (q0 := 2) rfl rfl, fun U hU hW => ⟨rfl, by rw [hU], by rw [hU]; exact hPc, va_K.moved hW.alike hKc, hDc.weaken (fun _ _ _ _ => trivial)⟩⟩ rfl rfl hl.1 rfl (lv_room (Nat.le_of_ble_eq_true rfl)) dL_law_430 ⟨by show 6 + n + 1 + 0 ≤ 1031; omega, by show 12299 + 6 * n + 6 + 0 ≤ 20497; omega⟩) hS (fun q _ h => hFc q h) hFc (fun u t9 H1 locs ht hvm hw hB hz1 hk1 hS => ?_)
    obtain ⟨hP1, hK1, hD1⟩ := hB
    rw [ht] at hP1
    obtain ⟨hP, hD⟩ := va_join (wr := [(h0, .inr (0, [.ref ab, .int (nI rc), .int (nI rl), .int (nI ps)])), (ab, .inl (cI, 4096, .inl f)), (oa, .inl (cL, 1, .inr (.inl o)))]) (w1 := [(h1, .inr (1, [.int 1, .int (nI rc), .int (nI rl), .int (nI ps), .ref b1, .ref b2])), (b1, .inl (cJ, 4096, .inl g)), (b2, .inl (cK, 4096, .inl t))]) hP hD [2, 3, 4] [0, 1, 5] rfl rfl (by decide) (by decide) hk1 hFc hP1 hD1
    generalize H1 = H at hP hS ⊢
    have hP := hP.sub (ws' := [(h0, .inr (0, [.ref ab, .int (nI rc), .int (nI rl), .int (nI ps)])), (ab, .inl (cI, 4096, .inl f)), (h1, .inr (1, [.int 1, .int (nI rc), .int (nI rl), .int (nI ps), .ref b1, .ref b2])), (b1, .inl (cJ, 4096, .inl g)), (b2, .inl (cK, 4096, .inl t)), (oa, .inl (cL, 1, .inr (.inl o)))]) [0, 1, 3, 4, 5, 2] rfl
    have hD := hD.sub (ws' := [(h0, .inr (0, [.ref ab, .int (nI rc), .int (nI rl), .int (nI ps)])), (ab, .inl (cI, 4096, .inl f)), (h1, .inr (1, [.int 1, .int (nI rc), .int (nI rl), .int (nI ps), .ref b1, .ref b2])), (b1, .inl (cJ, 4096, .inl g)), (b2, .inl (cK, 4096, .inl t)), (oa, .inl (cL, 1, .inr (.inl o)))]) [0, 1, 3, 4, 5, 2] (by decide) rfl
    have hP : va_P (dC, dI) rw_cl [(h0, .inr (0, [.ref ab, .int (nI rc), .int (nI rl), .int (nI ps)])), (ab, .inl (cI, 4096, .inl f)), (h1, .inr (1, [.int 1, .int (nI rc), .int (nI rl), .int (nI ps), .ref b1, .ref b2])), (b1, .inl (cJ, 4096, .inl g)), (b2, .inl (cK, 4096, .inl t)), (oa, .inl (cL, 1, .inr (.inl o)))] H := hP
    have hD : va_D A [(h0, .inr (0, [.ref ab, .int (nI rc), .int (nI rl), .int (nI ps)])), (ab, .inl (cI, 4096, .inl f)), (h1, .inr (1, [.int 1, .int (nI rc), .int (nI rl), .int (nI ps), .ref b1, .ref b2])), (b1, .inl (cJ, 4096, .inl g)), (b2, .inl (cK, 4096, .inl t)), (oa, .inl (cL, 1, .inr (.inl o)))] := hD
    refine W.widen (k := 6 + n + 1) (n := 12299 + 6 * n + 6) (Nat.le_refl _) (Nat.le_refl _) ?_
    refine lv_aload_n hx hb dL_law_433 rfl (lv_at hl 3 rfl) ?_
    have hPc := hP.sub (ws' := [(h1, .inr (1, [.int 1, .int (nI rc), .int (nI rl), .int (nI ps), .ref b1, .ref b2])), (b1, .inl (cJ, 4096, .inl g)), (b2, .inl (cK, 4096, .inl t))]) [2, 3, 4] rfl
    have hKc := hK.sub (tys' := [(cJ, .int), (cK, .int)]) [1, 2] rfl
    refine vp_callSi (W.runV (C := RX1) (As := []) (rest := []) ⟨hx, hb, hml, hown, htsY⟩ (c_Y1_thrown l dC dI cJ cK h1 b1 b2 1 rc rl ps g t ) (cwV 0 htsY gL_law_Y1_thrown rfl rfl rfl (by decide +kernel) ⟨Nat.le_of_ble_eq_true rfl, Nat.le_of_ble_eq_true rfl⟩) ⟨fun a U g mk q => by obtain ⟨q0, qP, qK⟩ := q; exact ⟨q0, qP, va_K.moved (u := U) (U := U.calling g mk a) (Vm.Alike.refl U.vm) qK⟩, va_recv hK hP (ci := 1) (q0 := 2) rfl rfl, fun U hU hW => ⟨rfl, by rw [hU]; exact hPc, va_K.moved hW.alike hKc⟩⟩ rfl rfl hl.1 rfl (lv_room (Nat.le_of_ble_eq_true rfl)) dL_law_434 ⟨by show 6 + n + 1 + 0 ≤ 1031; omega, by show 12299 + 6 * n + 6 + 0 ≤ 20497; omega⟩) (fun rt et => ?_)
    subst et
    refine lv_iload hx hb dL_law_437 (lv_at hl 0 rfl) ?_
    refine lv_icmp_eq (tgt := 444) hx hb dL_law_439 (by decide) (fun hq => ?_) (fun hq => ?_)
    · refine lv_goto (tgt := 685) hx hb dL_law_444 (by decide) ?_
      refine lv_iinc (k := 5) (v := (nI (5 * (n + 1)))) hx hb dL_law_685 hl rfl (show nI (5 * n) + nI 5 = nI (5 * (n + 1)) from (nI_add _ _).trans (congrArg nI (by omega))) (by decide) rfl (fun ls hl => ?_)
      have hl : lv_has ls 7 [(4, .int (nI (5 * (n + 1)))), (5, .int 1), (0, .ref b), (1, .ref h0), (2, .ref h1), (3, .ref oa)] := hl
      refine lv_goto (tgt := 23) hx hb dL_law_688 (by decide) ?_
      refine W.widen (k := 6 + (n + 1)) (n := 12299 + 6 * (n + 1)) (by omega) (by omega) ?_
      exact ih _ _ _ ⟨rc, rl, ps, f, 1, g, t, o, ok, hR, lv_sub hl [2, 3, 4, 5, 0] rfl, hP, hD, hS⟩
    · exact absurd (rfl : (1 : Int32) = 1) hq
  · obtain ⟨y, q, e1, e2, hy, hq⟩ := rf_bd_ok ok hc9
    refine lv_aload_n hx hb dL_law_399 rfl (lv_at hl 1 rfl) ?_
    refine lv_aload_n hx hb dL_law_400 rfl (lv_at hl 0 rfl) ?_
    refine lv_iload hx hb dL_law_401 (lv_at hl 4 rfl) ?_
    refine lv_iconst (v := 1) hx hb dL_law_403 (by decide) ?_
    refine lv_iadd hx hb dL_law_404 ?_
    refine W.eq (g2 := F0 m 405 ls [.int (nI (5 * n + 1)), .ref b, .ref h0]) (congrArg (fun z9 => F0 m 405 ls [.int z9, .ref b, .ref h0]) (show ((nI (5 * n)) + 1) = nI (5 * n + 1) from nI_add (5 * n) 1)) ?_
    refine va_sld hx hb hXs hbl hbA hS (vp_in_nI (by omega) (by omega)) dL_law_405 ?_
    refine W.eq (g2 := F0 m 406 ls [.int (nI y), .ref h0]) (congrArg (fun z9 => F0 m 406 ls [.int z9, .ref h0]) (show (xs (nI (5 * n + 1)).toNatClampNeg) = (nI y) from (show xs (nI (5 * n + 1)).toNatClampNeg = (nI y) from by rw [nI_clamp (by omega)]; exact e1))) ?_
    refine lv_aload_n hx hb dL_law_406 rfl (lv_at hl 0 rfl) ?_
    refine lv_iload hx hb dL_law_407 (lv_at hl 4 rfl) ?_
    refine lv_iconst (v := 2) hx hb dL_law_409 (by decide) ?_
    refine lv_iadd hx hb dL_law_410 ?_
    refine W.eq (g2 := F0 m 411 ls [.int (nI (5 * n + 2)), .ref b, .int (nI y), .ref h0]) (congrArg (fun z9 => F0 m 411 ls [.int z9, .ref b, .int (nI y), .ref h0]) (show ((nI (5 * n)) + 2) = nI (5 * n + 2) from nI_add (5 * n) 2)) ?_
    refine va_sld hx hb hXs hbl hbA hS (vp_in_nI (by omega) (by omega)) dL_law_411 ?_
    refine W.eq (g2 := F0 m 412 ls [.int (nI q), .int (nI y), .ref h0]) (congrArg (fun z9 => F0 m 412 ls [.int z9, .int (nI y), .ref h0]) (show (xs (nI (5 * n + 2)).toNatClampNeg) = (nI q) from (show xs (nI (5 * n + 2)).toNatClampNeg = (nI q) from by rw [nI_clamp (by omega)]; exact e2))) ?_
    have hPc := hP.sub (ws' := [(h0, .inr (0, [.ref ab, .int (nI rc), .int (nI rl), .int (nI ps)])), (ab, .inl (cI, 4096, .inl f))]) [0, 1] rfl
    have hDc := hD.sub (ws' := [(h0, .inr (0, [.ref ab, .int (nI rc), .int (nI rl), .int (nI ps)])), (ab, .inl (cI, 4096, .inl f))]) [0, 1] (by decide) rfl
    have hKc := hK.sub (tys' := [(cI, .int)]) [0] rfl
    have hFc := va_free (wc := [(h0, .inr (0, [.ref ab, .int (nI rc), .int (nI rl), .int (nI ps)])), (ab, .inl (cI, 4096, .inl f))]) hD hS hA [0, 1] rfl
    refine va_calli (vx_runSW (As := [.ref h0, .int (nI y), .int (nI q)]) (rest := []) ⟨hx, hb, hml, hown, hts⟩ (c_L_plain l dC dI cI h0 ab rc rl ps f H.size y q ok hy hq) (vx_cwSW 3 hts gL_law_L_plain rfl rfl rfl (by decide +kernel) ⟨Nat.le_of_ble_eq_true rfl, Nat.le_of_ble_eq_true rfl⟩) ⟨fun a U g mk q => by obtain ⟨q0, q1, qP, qK, qD⟩ := q; exact ⟨q0, q1, qP, va_K.moved (u := U) (U := U.calling g mk a) (Vm.Alike.refl U.vm) qK, qD⟩, fun U hU hW => ⟨rfl, by rw [hU], by rw [hU]; exact hPc, va_K.moved hW.alike hKc, hDc.weaken (fun _ _ _ _ => trivial)⟩⟩ rfl rfl hl.1 rfl (lv_room (Nat.le_of_ble_eq_true rfl)) dL_law_412 ⟨by show 6 + n + 0 ≤ 1031; omega, by show 12299 + 6 * n + 0 ≤ 20497; omega⟩) hS (fun q _ h => hFc q h) hFc (fun k u t9 H1 locs ht hvm ek hB hz1 hk1 hS => ?_)
    obtain ⟨hP1, hK1, hD1⟩ := hB
    rw [ht] at hP1
    obtain ⟨hP, hD⟩ := va_join (wr := [(h1, .inr (1, [.int fl, .int (nI rc), .int (nI rl), .int (nI ps), .ref b1, .ref b2])), (b1, .inl (cJ, 4096, .inl g)), (b2, .inl (cK, 4096, .inl t)), (oa, .inl (cL, 1, .inr (.inl o)))]) (w1 := [(h0, .inr (0, [.ref ab, .int (nI rc), .int (nI rl), .int (nI ps)])), (ab, .inl (cI, 4096, .inl (rf_U f rl ps y q rl)))]) hP hD [0, 1] [2, 3, 4, 5] rfl rfl (by decide) (by decide) hk1 hFc hP1 hD1
    generalize H1 = H at hP hS ⊢
    have hP := hP.sub (ws' := [(h0, .inr (0, [.ref ab, .int (nI rc), .int (nI rl), .int (nI ps)])), (ab, .inl (cI, 4096, .inl (rf_U f rl ps y q rl))), (h1, .inr (1, [.int fl, .int (nI rc), .int (nI rl), .int (nI ps), .ref b1, .ref b2])), (b1, .inl (cJ, 4096, .inl g)), (b2, .inl (cK, 4096, .inl t)), (oa, .inl (cL, 1, .inr (.inl o)))]) [4, 5, 0, 1, 2, 3] rfl
    have hD := hD.sub (ws' := [(h0, .inr (0, [.ref ab, .int (nI rc), .int (nI rl), .int (nI ps)])), (ab, .inl (cI, 4096, .inl (rf_U f rl ps y q rl))), (h1, .inr (1, [.int fl, .int (nI rc), .int (nI rl), .int (nI ps), .ref b1, .ref b2])), (b1, .inl (cJ, 4096, .inl g)), (b2, .inl (cK, 4096, .inl t)), (oa, .inl (cL, 1, .inr (.inl o)))]) [4, 5, 0, 1, 2, 3] (by decide) rfl
    have hP : va_P (dC, dI) rw_cl [(h0, .inr (0, [.ref ab, .int (nI rc), .int (nI rl), .int (nI ps)])), (ab, .inl (cI, 4096, .inl (rf_U f rl ps y q rl))), (h1, .inr (1, [.int fl, .int (nI rc), .int (nI rl), .int (nI ps), .ref b1, .ref b2])), (b1, .inl (cJ, 4096, .inl g)), (b2, .inl (cK, 4096, .inl t)), (oa, .inl (cL, 1, .inr (.inl o)))] H := hP
    have hD : va_D A [(h0, .inr (0, [.ref ab, .int (nI rc), .int (nI rl), .int (nI ps)])), (ab, .inl (cI, 4096, .inl (rf_U f rl ps y q rl))), (h1, .inr (1, [.int fl, .int (nI rc), .int (nI rl), .int (nI ps), .ref b1, .ref b2])), (b1, .inl (cJ, 4096, .inl g)), (b2, .inl (cK, 4096, .inl t)), (oa, .inl (cL, 1, .inr (.inl o)))] := hD
    refine W.widen (k := 6 + n) (n := 12299 + 6 * n) (Nat.le_refl _) (Nat.le_refl _) ?_
    subst ek
    refine lv_istore hx hb dL_law_415 hl (by decide) rfl (fun ls hl => ?_)
    have hl : lv_has ls 7 [(5, .int 0), (0, .ref b), (1, .ref h0), (2, .ref h1), (3, .ref oa), (4, .int (nI (5 * n)))] := hl
    refine lv_aload_n hx hb dL_law_417 rfl (lv_at hl 3 rfl) ?_
    refine lv_aload_n hx hb dL_law_418 rfl (lv_at hl 1 rfl) ?_
    refine lv_iload hx hb dL_law_419 (lv_at hl 5 rfl) ?_
    refine lv_iconst (v := 1) hx hb dL_law_421 (by decide) ?_
    refine lv_iadd hx hb dL_law_422 ?_
    refine W.eq (g2 := F0 m 423 ls [.int (nI (5 * n + 1)), .ref b, .ref h1]) (congrArg (fun z9 => F0 m 423 ls [.int z9, .ref b, .ref h1]) (show ((nI (5 * n)) + 1) = nI (5 * n + 1) from nI_add (5 * n) 1)) ?_
    refine va_sld hx hb hXs hbl hbA hS (vp_in_nI (by omega) (by omega)) dL_law_423 ?_
    refine W.eq (g2 := F0 m 424 ls [.int (nI y), .ref h1]) (congrArg (fun z9 => F0 m 424 ls [.int z9, .ref h1]) (show (xs (nI (5 * n + 1)).toNatClampNeg) = (nI y) from (show xs (nI (5 * n + 1)).toNatClampNeg = (nI y) from by rw [nI_clamp (by omega)]; exact e1))) ?_
    refine lv_aload_n hx hb dL_law_424 rfl (lv_at hl 1 rfl) ?_
    refine lv_iload hx hb dL_law_425 (lv_at hl 5 rfl) ?_
    refine lv_iconst (v := 2) hx hb dL_law_427 (by decide) ?_
    refine lv_iadd hx hb dL_law_428 ?_
    refine W.eq (g2 := F0 m 429 ls [.int (nI (5 * n + 2)), .ref b, .int (nI y), .ref h1]) (congrArg (fun z9 => F0 m 429 ls [.int z9, .ref b, .int (nI y), .ref h1]) (show ((nI (5 * n)) + 2) = nI (5 * n + 2) from nI_add (5 * n) 2)) ?_
    refine va_sld hx hb hXs hbl hbA hS (vp_in_nI (by omega) (by omega)) dL_law_429 ?_
    refine W.eq (g2 := F0 m 430 ls [.int (nI q), .int (nI y), .ref h1]) (congrArg (fun z9 => F0 m 430 ls [.int z9, .int (nI y), .ref h1]) (show (xs (nI (5 * n + 2)).toNatClampNeg) = (nI q) from (show xs (nI (5 * n + 2)).toNatClampNeg = (nI q) from by rw [nI_clamp (by omega)]; exact e2))) ?_
    have hPc := hP.sub (ws' := [(h1, .inr (1, [.int fl, .int (nI rc), .int (nI rl), .int (nI ps), .ref b1, .ref b2])), (b1, .inl (cJ, 4096, .inl g)), (b2, .inl (cK, 4096, .inl t))]) [2, 3, 4] rfl
    have hDc := hD.sub (ws' := [(h1, .inr (1, [.int fl, .int (nI rc), .int (nI rl), .int (nI ps), .ref b1, .ref b2])), (b1, .inl (cJ, 4096, .inl g)), (b2, .inl (cK, 4096, .inl t))]) [2, 3, 4] (by decide) rfl
    have hKc := hK.sub (tys' := [(cJ, .int), (cK, .int)]) [1, 2] rfl
    have hFc := va_free (wc := [(h1, .inr (1, [.int fl, .int (nI rc), .int (nI rl), .int (nI ps), .ref b1, .ref b2])), (b1, .inl (cJ, 4096, .inl g)), (b2, .inl (cK, 4096, .inl t))]) hD hS hA [2, 3, 4] rfl
    refine va_callv (va_runV (C := RX1) (As := [.int (nI y), .int (nI q)]) (rest := []) ⟨hx, hb, hml, hown, htsY⟩ (c_Y1_plain l dC dI cJ cK h1 b1 b2 fl rc rl ps g t H.size y q ok hy hq) (cwV 2 htsY gL_law_Y1_plain rfl rfl rfl (by decide +kernel) ⟨Nat.le_of_ble_eq_true rfl, Nat.le_of_ble_eq_true rfl⟩) ⟨fun a U g mk q => by obtain ⟨q0, q1, qP, qK, qD⟩ := q; exact ⟨q0, q1, qP, va_K.moved (u := U) (U := U.calling g mk a) (Vm.Alike.refl U.vm) qK, qD⟩, va_recv hK hP (ci := 1) (q0 := 2) rfl rfl, fun U hU hW => ⟨rfl, by rw [hU], by rw [hU]; exact hPc, va_K.moved hW.alike hKc, hDc.weaken (fun _ _ _ _ => trivial)⟩⟩ rfl rfl hl.1 rfl (lv_room (Nat.le_of_ble_eq_true rfl)) dL_law_430 ⟨by show 6 + n + 0 ≤ 1031; omega, by show 12299 + 6 * n + 0 ≤ 20497; omega⟩) hS (fun q _ h => hFc q h) hFc (fun u t9 H1 locs ht hvm hw hB hz1 hk1 hS => ?_)
    obtain ⟨hP1, hK1, hD1⟩ := hB
    rw [ht] at hP1
    obtain ⟨hP, hD⟩ := va_join (wr := [(h0, .inr (0, [.ref ab, .int (nI rc), .int (nI rl), .int (nI ps)])), (ab, .inl (cI, 4096, .inl (rf_U f rl ps y q rl))), (oa, .inl (cL, 1, .inr (.inl o)))]) (w1 := [(h1, .inr (1, [.int 0, .int (nI rc), .int (nI rl), .int (nI ps), .ref b1, .ref b2])), (b1, .inl (cJ, 4096, .inl (rf_U g rl ps y q rl))), (b2, .inl (cK, 4096, .inl t))]) hP hD [2, 3, 4] [0, 1, 5] rfl rfl (by decide) (by decide) hk1 hFc hP1 hD1
    generalize H1 = H at hP hS ⊢
    have hP := hP.sub (ws' := [(h0, .inr (0, [.ref ab, .int (nI rc), .int (nI rl), .int (nI ps)])), (ab, .inl (cI, 4096, .inl (rf_U f rl ps y q rl))), (h1, .inr (1, [.int 0, .int (nI rc), .int (nI rl), .int (nI ps), .ref b1, .ref b2])), (b1, .inl (cJ, 4096, .inl (rf_U g rl ps y q rl))), (b2, .inl (cK, 4096, .inl t)), (oa, .inl (cL, 1, .inr (.inl o)))]) [0, 1, 3, 4, 5, 2] rfl
    have hD := hD.sub (ws' := [(h0, .inr (0, [.ref ab, .int (nI rc), .int (nI rl), .int (nI ps)])), (ab, .inl (cI, 4096, .inl (rf_U f rl ps y q rl))), (h1, .inr (1, [.int 0, .int (nI rc), .int (nI rl), .int (nI ps), .ref b1, .ref b2])), (b1, .inl (cJ, 4096, .inl (rf_U g rl ps y q rl))), (b2, .inl (cK, 4096, .inl t)), (oa, .inl (cL, 1, .inr (.inl o)))]) [0, 1, 3, 4, 5, 2] (by decide) rfl
    have hP : va_P (dC, dI) rw_cl [(h0, .inr (0, [.ref ab, .int (nI rc), .int (nI rl), .int (nI ps)])), (ab, .inl (cI, 4096, .inl (rf_U f rl ps y q rl))), (h1, .inr (1, [.int 0, .int (nI rc), .int (nI rl), .int (nI ps), .ref b1, .ref b2])), (b1, .inl (cJ, 4096, .inl (rf_U g rl ps y q rl))), (b2, .inl (cK, 4096, .inl t)), (oa, .inl (cL, 1, .inr (.inl o)))] H := hP
    have hD : va_D A [(h0, .inr (0, [.ref ab, .int (nI rc), .int (nI rl), .int (nI ps)])), (ab, .inl (cI, 4096, .inl (rf_U f rl ps y q rl))), (h1, .inr (1, [.int 0, .int (nI rc), .int (nI rl), .int (nI ps), .ref b1, .ref b2])), (b1, .inl (cJ, 4096, .inl (rf_U g rl ps y q rl))), (b2, .inl (cK, 4096, .inl t)), (oa, .inl (cL, 1, .inr (.inl o)))] := hD
    refine W.widen (k := 6 + n) (n := 12299 + 6 * n) (Nat.le_refl _) (Nat.le_refl _) ?_
    refine lv_aload_n hx hb dL_law_433 rfl (lv_at hl 3 rfl) ?_
    have hPc := hP.sub (ws' := [(h1, .inr (1, [.int 0, .int (nI rc), .int (nI rl), .int (nI ps), .ref b1, .ref b2])), (b1, .inl (cJ, 4096, .inl (rf_U g rl ps y q rl))), (b2, .inl (cK, 4096, .inl t))]) [2, 3, 4] rfl
    have hKc := hK.sub (tys' := [(cJ, .int), (cK, .int)]) [1, 2] rfl
    refine vp_callSi (W.runV (C := RX1) (As := []) (rest := []) ⟨hx, hb, hml, hown, htsY⟩ (c_Y1_thrown l dC dI cJ cK h1 b1 b2 0 rc rl ps (rf_U g rl ps y q rl) t ) (cwV 0 htsY gL_law_Y1_thrown rfl rfl rfl (by decide +kernel) ⟨Nat.le_of_ble_eq_true rfl, Nat.le_of_ble_eq_true rfl⟩) ⟨fun a U g mk q => by obtain ⟨q0, qP, qK⟩ := q; exact ⟨q0, qP, va_K.moved (u := U) (U := U.calling g mk a) (Vm.Alike.refl U.vm) qK⟩, va_recv hK hP (ci := 1) (q0 := 2) rfl rfl, fun U hU hW => ⟨rfl, by rw [hU]; exact hPc, va_K.moved hW.alike hKc⟩⟩ rfl rfl hl.1 rfl (lv_room (Nat.le_of_ble_eq_true rfl)) dL_law_434 ⟨by show 6 + n + 0 ≤ 1031; omega, by show 12299 + 6 * n + 0 ≤ 20497; omega⟩) (fun rt et => ?_)
    subst et
    refine lv_iload hx hb dL_law_437 (lv_at hl 0 rfl) ?_
    refine lv_icmp_eq (tgt := 444) hx hb dL_law_439 (by decide) (fun hq => ?_) (fun hq => ?_)
    · refine lv_goto (tgt := 685) hx hb dL_law_444 (by decide) ?_
      refine lv_iinc (k := 5) (v := (nI (5 * (n + 1)))) hx hb dL_law_685 hl rfl (show nI (5 * n) + nI 5 = nI (5 * (n + 1)) from (nI_add _ _).trans (congrArg nI (by omega))) (by decide) rfl (fun ls hl => ?_)
      have hl : lv_has ls 7 [(4, .int (nI (5 * (n + 1)))), (5, .int 0), (0, .ref b), (1, .ref h0), (2, .ref h1), (3, .ref oa)] := hl
      refine lv_goto (tgt := 23) hx hb dL_law_688 (by decide) ?_
      refine W.widen (k := 6 + (n + 1)) (n := 12299 + 6 * (n + 1)) (by omega) (by omega) ?_
      exact ih _ _ _ ⟨rc, rl, ps, (rf_U f rl ps y q rl), 0, (rf_U g rl ps y q rl), t, o, ok, (rf_R_plain ok.2.2.2.1 hy hR), lv_sub hl [2, 3, 4, 5, 0] rfl, hP, hD, hS⟩
    · exact absurd (rfl : (0 : Int32) = 0) hq
set_option maxHeartbeats 8000000 in
set_option maxRecDepth 100000 in
theorem lw_case_undo {p : Program} {l : Launch} {e : Env} {s : State} {m : MethodId} {below : List Frame} {meth : Method} {c : Code} {Q : State → Prop} {A : Nat → Prop} {b L : Nat} {xs : Nat → Int32} {dC : Nat → ClassId} {dI : Nat → Nat → Nat} {h0 ab : Nat} {cI : ClassId} {h1 b1 b2 : Nat} {cJ cK : ClassId} {oa : Nat} {cL : ClassId} {sa t1 t2 t3 t4 : Nat} (hl9 : l.stackTraces = false) (C9 : lw_F p s m c A b L xs dC dI cI cJ cK cL sa t1 t2 t3 t4) {n : Nat} (hn : n ≤ 512) (hL5 : 5 * n + 5 ≤ L) {rc rl ps : Nat} {f : Nat → Int32} {fl : Int32} {g t : Nat → Int32} {o : Nat → Int64} {ls : Array Slot} {H : Heap} {locs : List Loc} (ok : rf_ok rc rl ps) (hR : rf_R (rc * rl) f g) (hl : lv_has ls 7 [(0, .ref b), (1, .ref h0), (2, .ref h1), (3, .ref oa), (4, .int (nI (5 * n)))]) (hP : va_P (dC, dI) rw_cl (lw_W h0 ab cI h1 b1 b2 cJ cK oa cL rc rl ps f fl g t o) H) (hD : va_D A (lw_W h0 ab cI h1 b1 b2 cJ cK oa cL rc rl ps f fl g t o)) (hS : va_S A s.heap H locs) (ih : ∀ (ls : Array Slot) (H : Heap) (locs : List Loc), lw_I s A dC dI b h0 ab cI h1 b1 b2 cJ cK oa cL (n + 1) ls H locs → W p l e room_1 s m #[Value.ref b] below meth c H locs (6 + (n + 1)) (12299 + 6 * (n + 1)) Q (F0 m 23 ls [])) : W p l e room_1 s m #[Value.ref b] below meth c H locs (6 + n) (12299 + 6 * n) Q (F0 m 460 ls []) := by
  obtain ⟨hx, hb, hml, hown, hts, htsY, hXs, hbl, hbA, hA, hA2, hK, hX, hZ, hL⟩ := C9
  by_cases hc9 : (xs (5 * n + 1)) < 0 ∨ 390624 < (xs (5 * n + 1))
  · refine lv_aload_n hx hb dL_law_460 rfl (lv_at hl 1 rfl) ?_
    refine lv_aload_n hx hb dL_law_461 rfl (lv_at hl 0 rfl) ?_
    refine lv_iload hx hb dL_law_462 (lv_at hl 4 rfl) ?_
    refine lv_iconst (v := 1) hx hb dL_law_464 (by decide) ?_
    refine lv_iadd hx hb dL_law_465 ?_
    refine W.eq (g2 := F0 m 466 ls [.int (nI (5 * n + 1)), .ref b, .ref h0]) (congrArg (fun z9 => F0 m 466 ls [.int z9, .ref b, .ref h0]) (show ((nI (5 * n)) + 1) = nI (5 * n + 1) from nI_add (5 * n) 1)) ?_
    refine va_sld hx hb hXs hbl hbA hS (vp_in_nI (by omega) (by omega)) dL_law_466 ?_
    refine W.eq (g2 := F0 m 467 ls [.int (xs (5 * n + 1)), .ref h0]) (congrArg (fun z9 => F0 m 467 ls [.int z9, .ref h0]) (show (xs (nI (5 * n + 1)).toNatClampNeg) = (xs (5 * n + 1)) from (show xs (nI (5 * n + 1)).toNatClampNeg = (xs (5 * n + 1)) from by rw [nI_clamp (by omega)]))) ?_
    have hPc := hP.sub (ws' := [(h0, .inr (0, [.ref ab, .int (nI rc), .int (nI rl), .int (nI ps)])), (ab, .inl (cI, 4096, .inl f))]) [0, 1] rfl
    have hDc := hD.sub (ws' := [(h0, .inr (0, [.ref ab, .int (nI rc), .int (nI rl), .int (nI ps)])), (ab, .inl (cI, 4096, .inl f))]) [0, 1] (by decide) rfl
    have hKc := hK.sub (tys' := [(cI, .int)]) [0] rfl
    have hFc := va_free (wc := [(h0, .inr (0, [.ref ab, .int (nI rc), .int (nI rl), .int (nI ps)])), (ab, .inl (cI, 4096, .inl f))]) hD hS hA [0, 1] rfl
    refine va_calli (vx_runSW (As := [.ref h0, .int (xs (5 * n + 1))]) (rest := []) ⟨hx, hb, hml, hown, hts⟩ (c_L_undo_bad l hl9 sa dC dI cI h0 ab rc rl ps f H.size (xs (5 * n + 1)) hc9) (vx_cwSW 2 hts gL_law_L_undo rfl rfl rfl (by decide +kernel) ⟨Nat.le_of_ble_eq_true rfl, Nat.le_of_ble_eq_true rfl⟩) ⟨fun a U g mk q => by obtain ⟨q0, qX, q1, qP, qK, qD⟩ := q; exact ⟨q0, rw_XA.call qX, q1, qP, va_K.moved (u := U) (U := U.calling g mk a) (Vm.Alike.refl U.vm) qK, qD⟩, fun U hU hW => ⟨rfl, rw_XA.to hX hS (fun q z => hA q (Nat.le_trans hS.1 z)) hU hW, by rw [hU], by rw [hU]; exact hPc, va_K.moved hW.alike hKc, hDc.weaken (fun _ _ _ _ => trivial)⟩⟩ rfl rfl hl.1 rfl (lv_room (Nat.le_of_ble_eq_true rfl)) dL_law_467 ⟨by show 6 + n + 1 ≤ 1031; omega, by show 12299 + 6 * n + 6 ≤ 20497; omega⟩) hS (fun q _ h => hFc q h) hFc (fun k u t9 H1 locs ht hvm ek hB hz1 hk1 hS => ?_)
    obtain ⟨hP1, hK1, hD1⟩ := hB
    rw [ht] at hP1
    obtain ⟨hP, hD⟩ := va_join (wr := [(h1, .inr (1, [.int fl, .int (nI rc), .int (nI rl), .int (nI ps), .ref b1, .ref b2])), (b1, .inl (cJ, 4096, .inl g)), (b2, .inl (cK, 4096, .inl t)), (oa, .inl (cL, 1, .inr (.inl o)))]) (w1 := [(h0, .inr (0, [.ref ab, .int (nI rc), .int (nI rl), .int (nI ps)])), (ab, .inl (cI, 4096, .inl f))]) hP hD [0, 1] [2, 3, 4, 5] rfl rfl (by decide) (by decide) hk1 hFc hP1 hD1
    generalize H1 = H at hP hS ⊢
    have hP := hP.sub (ws' := [(h0, .inr (0, [.ref ab, .int (nI rc), .int (nI rl), .int (nI ps)])), (ab, .inl (cI, 4096, .inl f)), (h1, .inr (1, [.int fl, .int (nI rc), .int (nI rl), .int (nI ps), .ref b1, .ref b2])), (b1, .inl (cJ, 4096, .inl g)), (b2, .inl (cK, 4096, .inl t)), (oa, .inl (cL, 1, .inr (.inl o)))]) [4, 5, 0, 1, 2, 3] rfl
    have hD := hD.sub (ws' := [(h0, .inr (0, [.ref ab, .int (nI rc), .int (nI rl), .int (nI ps)])), (ab, .inl (cI, 4096, .inl f)), (h1, .inr (1, [.int fl, .int (nI rc), .int (nI rl), .int (nI ps), .ref b1, .ref b2])), (b1, .inl (cJ, 4096, .inl g)), (b2, .inl (cK, 4096, .inl t)), (oa, .inl (cL, 1, .inr (.inl o)))]) [4, 5, 0, 1, 2, 3] (by decide) rfl
    have hP : va_P (dC, dI) rw_cl [(h0, .inr (0, [.ref ab, .int (nI rc), .int (nI rl), .int (nI ps)])), (ab, .inl (cI, 4096, .inl f)), (h1, .inr (1, [.int fl, .int (nI rc), .int (nI rl), .int (nI ps), .ref b1, .ref b2])), (b1, .inl (cJ, 4096, .inl g)), (b2, .inl (cK, 4096, .inl t)), (oa, .inl (cL, 1, .inr (.inl o)))] H := hP
    have hD : va_D A [(h0, .inr (0, [.ref ab, .int (nI rc), .int (nI rl), .int (nI ps)])), (ab, .inl (cI, 4096, .inl f)), (h1, .inr (1, [.int fl, .int (nI rc), .int (nI rl), .int (nI ps), .ref b1, .ref b2])), (b1, .inl (cJ, 4096, .inl g)), (b2, .inl (cK, 4096, .inl t)), (oa, .inl (cL, 1, .inr (.inl o)))] := hD
    subst ek
    refine lv_istore hx hb dL_law_470 hl (by decide) rfl (fun ls hl => ?_)
    have hl : lv_has ls 7 [(5, .int 1), (0, .ref b), (1, .ref h0), (2, .ref h1), (3, .ref oa), (4, .int (nI (5 * n)))] := hl
    refine lv_aload_n hx hb dL_law_472 rfl (lv_at hl 3 rfl) ?_
    refine lv_aload_n hx hb dL_law_473 rfl (lv_at hl 1 rfl) ?_
    refine lv_iload hx hb dL_law_474 (lv_at hl 5 rfl) ?_
    refine lv_iconst (v := 1) hx hb dL_law_476 (by decide) ?_
    refine lv_iadd hx hb dL_law_477 ?_
    refine W.eq (g2 := F0 m 478 ls [.int (nI (5 * n + 1)), .ref b, .ref h1]) (congrArg (fun z9 => F0 m 478 ls [.int z9, .ref b, .ref h1]) (show ((nI (5 * n)) + 1) = nI (5 * n + 1) from nI_add (5 * n) 1)) ?_
    refine va_sld hx hb hXs hbl hbA hS (vp_in_nI (by omega) (by omega)) dL_law_478 ?_
    refine W.eq (g2 := F0 m 479 ls [.int (xs (5 * n + 1)), .ref h1]) (congrArg (fun z9 => F0 m 479 ls [.int z9, .ref h1]) (show (xs (nI (5 * n + 1)).toNatClampNeg) = (xs (5 * n + 1)) from (show xs (nI (5 * n + 1)).toNatClampNeg = (xs (5 * n + 1)) from by rw [nI_clamp (by omega)]))) ?_
    have hPc := hP.sub (ws' := [(h1, .inr (1, [.int fl, .int (nI rc), .int (nI rl), .int (nI ps), .ref b1, .ref b2])), (b1, .inl (cJ, 4096, .inl g)), (b2, .inl (cK, 4096, .inl t))]) [2, 3, 4] rfl
    have hDc := hD.sub (ws' := [(h1, .inr (1, [.int fl, .int (nI rc), .int (nI rl), .int (nI ps), .ref b1, .ref b2])), (b1, .inl (cJ, 4096, .inl g)), (b2, .inl (cK, 4096, .inl t))]) [2, 3, 4] (by decide) rfl
    have hKc := hK.sub (tys' := [(cJ, .int), (cK, .int)]) [1, 2] rfl
    have hFc := va_free (wc := [(h1, .inr (1, [.int fl, .int (nI rc), .int (nI rl), .int (nI ps), .ref b1, .ref b2])), (b1, .inl (cJ, 4096, .inl g)), (b2, .inl (cK, 4096, .inl t))]) hD hS hA [2, 3, 4] rfl
    refine va_callv (va_runV (C := RX1) (As := [.int (xs (5 * n + 1))]) (rest := []) ⟨hx, hb, hml, hown, htsY⟩ (c_Y1_undo_bad l dC dI cJ cK h1 b1 b2 fl rc rl ps g t H.size (xs (5 * n + 1)) hc9) (cwV 1 htsY gL_law_Y1_undo rfl rfl rfl (by decide +kernel) ⟨Nat.le_of_ble_eq_true rfl, Nat.le_of_ble_eq_true rfl⟩) ⟨fun a U g mk q => by obtain ⟨q0, q1, qP, qK, qD⟩ := q; exact ⟨q0, q1, qP, va_K.moved (u := U) (U := U.calling g mk a) (Vm.Alike.refl U.vm) qK, qD⟩, va_recv hK hP (ci := 1) (q0 := 2) rfl rfl, fun U hU hW => ⟨rfl, by rw [hU], by rw [hU]; exact hPc, va_K.moved hW.alike hKc, hDc.weaken (fun _ _ _ _ => trivial)⟩⟩ rfl rfl hl.1 rfl (lv_room (Nat.le_of_ble_eq_true rfl)) dL_law_479 ⟨by show 6 + n + 1 + 0 ≤ 1031; omega, by show 12299 + 6 * n + 6 + 0 ≤ 20497; omega⟩) hS (fun q _ h => hFc q h) hFc (fun u t9 H1 locs ht hvm hw hB hz1 hk1 hS => ?_)
    obtain ⟨hP1, hK1, hD1⟩ := hB
    rw [ht] at hP1
    obtain ⟨hP, hD⟩ := va_join (wr := [(h0, .inr (0, [.ref ab, .int (nI rc), .int (nI rl), .int (nI ps)])), (ab, .inl (cI, 4096, .inl f)), (oa, .inl (cL, 1, .inr (.inl o)))]) (w1 := [(h1, .inr (1, [.int 1, .int (nI rc), .int (nI rl), .int (nI ps), .ref b1, .ref b2])), (b1, .inl (cJ, 4096, .inl g)), (b2, .inl (cK, 4096, .inl t))]) hP hD [2, 3, 4] [0, 1, 5] rfl rfl (by decide) (by decide) hk1 hFc hP1 hD1
    generalize H1 = H at hP hS ⊢
    have hP := hP.sub (ws' := [(h0, .inr (0, [.ref ab, .int (nI rc), .int (nI rl), .int (nI ps)])), (ab, .inl (cI, 4096, .inl f)), (h1, .inr (1, [.int 1, .int (nI rc), .int (nI rl), .int (nI ps), .ref b1, .ref b2])), (b1, .inl (cJ, 4096, .inl g)), (b2, .inl (cK, 4096, .inl t)), (oa, .inl (cL, 1, .inr (.inl o)))]) [0, 1, 3, 4, 5, 2] rfl
    have hD := hD.sub (ws' := [(h0, .inr (0, [.ref ab, .int (nI rc), .int (nI rl), .int (nI ps)])), (ab, .inl (cI, 4096, .inl f)), (h1, .inr (1, [.int 1, .int (nI rc), .int (nI rl), .int (nI ps), .ref b1, .ref b2])), (b1, .inl (cJ, 4096, .inl g)), (b2, .inl (cK, 4096, .inl t)), (oa, .inl (cL, 1, .inr (.inl o)))]) [0, 1, 3, 4, 5, 2] (by decide) rfl
    have hP : va_P (dC, dI) rw_cl [(h0, .inr (0, [.ref ab, .int (nI rc), .int (nI rl), .int (nI ps)])), (ab, .inl (cI, 4096, .inl f)), (h1, .inr (1, [.int 1, .int (nI rc), .int (nI rl), .int (nI ps), .ref b1, .ref b2])), (b1, .inl (cJ, 4096, .inl g)), (b2, .inl (cK, 4096, .inl t)), (oa, .inl (cL, 1, .inr (.inl o)))] H := hP
    have hD : va_D A [(h0, .inr (0, [.ref ab, .int (nI rc), .int (nI rl), .int (nI ps)])), (ab, .inl (cI, 4096, .inl f)), (h1, .inr (1, [.int 1, .int (nI rc), .int (nI rl), .int (nI ps), .ref b1, .ref b2])), (b1, .inl (cJ, 4096, .inl g)), (b2, .inl (cK, 4096, .inl t)), (oa, .inl (cL, 1, .inr (.inl o)))] := hD
    refine W.widen (k := 6 + n + 1) (n := 12299 + 6 * n + 6) (Nat.le_refl _) (Nat.le_refl _) ?_
    refine lv_aload_n hx hb dL_law_482 rfl (lv_at hl 3 rfl) ?_
    have hPc := hP.sub (ws' := [(h1, .inr (1, [.int 1, .int (nI rc), .int (nI rl), .int (nI ps), .ref b1, .ref b2])), (b1, .inl (cJ, 4096, .inl g)), (b2, .inl (cK, 4096, .inl t))]) [2, 3, 4] rfl
    have hKc := hK.sub (tys' := [(cJ, .int), (cK, .int)]) [1, 2] rfl
    refine vp_callSi (W.runV (C := RX1) (As := []) (rest := []) ⟨hx, hb, hml, hown, htsY⟩ (c_Y1_thrown l dC dI cJ cK h1 b1 b2 1 rc rl ps g t ) (cwV 0 htsY gL_law_Y1_thrown rfl rfl rfl (by decide +kernel) ⟨Nat.le_of_ble_eq_true rfl, Nat.le_of_ble_eq_true rfl⟩) ⟨fun a U g mk q => by obtain ⟨q0, qP, qK⟩ := q; exact ⟨q0, qP, va_K.moved (u := U) (U := U.calling g mk a) (Vm.Alike.refl U.vm) qK⟩, va_recv hK hP (ci := 1) (q0 := 2) rfl rfl, fun U hU hW => ⟨rfl, by rw [hU]; exact hPc, va_K.moved hW.alike hKc⟩⟩ rfl rfl hl.1 rfl (lv_room (Nat.le_of_ble_eq_true rfl)) dL_law_483 ⟨by show 6 + n + 1 + 0 ≤ 1031; omega, by show 12299 + 6 * n + 6 + 0 ≤ 20497; omega⟩) (fun rt et => ?_)
    subst et
    refine lv_iload hx hb dL_law_486 (lv_at hl 0 rfl) ?_
    refine lv_icmp_eq (tgt := 493) hx hb dL_law_488 (by decide) (fun hq => ?_) (fun hq => ?_)
    · refine lv_goto (tgt := 685) hx hb dL_law_493 (by decide) ?_
      refine lv_iinc (k := 5) (v := (nI (5 * (n + 1)))) hx hb dL_law_685 hl rfl (show nI (5 * n) + nI 5 = nI (5 * (n + 1)) from (nI_add _ _).trans (congrArg nI (by omega))) (by decide) rfl (fun ls hl => ?_)
      have hl : lv_has ls 7 [(4, .int (nI (5 * (n + 1)))), (5, .int 1), (0, .ref b), (1, .ref h0), (2, .ref h1), (3, .ref oa)] := hl
      refine lv_goto (tgt := 23) hx hb dL_law_688 (by decide) ?_
      refine W.widen (k := 6 + (n + 1)) (n := 12299 + 6 * (n + 1)) (by omega) (by omega) ?_
      exact ih _ _ _ ⟨rc, rl, ps, f, 1, g, t, o, ok, hR, lv_sub hl [2, 3, 4, 5, 0] rfl, hP, hD, hS⟩
    · exact absurd (rfl : (1 : Int32) = 1) hq
  · obtain ⟨n9, e1, hn9⟩ := rf_un_ok hc9
    refine lv_aload_n hx hb dL_law_460 rfl (lv_at hl 1 rfl) ?_
    refine lv_aload_n hx hb dL_law_461 rfl (lv_at hl 0 rfl) ?_
    refine lv_iload hx hb dL_law_462 (lv_at hl 4 rfl) ?_
    refine lv_iconst (v := 1) hx hb dL_law_464 (by decide) ?_
    refine lv_iadd hx hb dL_law_465 ?_
    refine W.eq (g2 := F0 m 466 ls [.int (nI (5 * n + 1)), .ref b, .ref h0]) (congrArg (fun z9 => F0 m 466 ls [.int z9, .ref b, .ref h0]) (show ((nI (5 * n)) + 1) = nI (5 * n + 1) from nI_add (5 * n) 1)) ?_
    refine va_sld hx hb hXs hbl hbA hS (vp_in_nI (by omega) (by omega)) dL_law_466 ?_
    refine W.eq (g2 := F0 m 467 ls [.int (nI n9), .ref h0]) (congrArg (fun z9 => F0 m 467 ls [.int z9, .ref h0]) (show (xs (nI (5 * n + 1)).toNatClampNeg) = (nI n9) from (show xs (nI (5 * n + 1)).toNatClampNeg = (nI n9) from by rw [nI_clamp (by omega)]; exact e1))) ?_
    have hPc := hP.sub (ws' := [(h0, .inr (0, [.ref ab, .int (nI rc), .int (nI rl), .int (nI ps)])), (ab, .inl (cI, 4096, .inl f))]) [0, 1] rfl
    have hDc := hD.sub (ws' := [(h0, .inr (0, [.ref ab, .int (nI rc), .int (nI rl), .int (nI ps)])), (ab, .inl (cI, 4096, .inl f))]) [0, 1] (by decide) rfl
    have hKc := hK.sub (tys' := [(cI, .int)]) [0] rfl
    have hFc := va_free (wc := [(h0, .inr (0, [.ref ab, .int (nI rc), .int (nI rl), .int (nI ps)])), (ab, .inl (cI, 4096, .inl f))]) hD hS hA [0, 1] rfl
    refine va_calli (vx_runSW (As := [.ref h0, .int (nI n9)]) (rest := []) ⟨hx, hb, hml, hown, hts⟩ (c_L_undo l dC dI cI h0 ab rc rl ps f H.size n9 ok hn9) (vx_cwSW 2 hts gL_law_L_undo rfl rfl rfl (by decide +kernel) ⟨Nat.le_of_ble_eq_true rfl, Nat.le_of_ble_eq_true rfl⟩) ⟨fun a U g mk q => by obtain ⟨q0, q1, qP, qK, qD⟩ := q; exact ⟨q0, q1, qP, va_K.moved (u := U) (U := U.calling g mk a) (Vm.Alike.refl U.vm) qK, qD⟩, fun U hU hW => ⟨rfl, by rw [hU], by rw [hU]; exact hPc, va_K.moved hW.alike hKc, hDc.weaken (fun _ _ _ _ => trivial)⟩⟩ rfl rfl hl.1 rfl (lv_room (Nat.le_of_ble_eq_true rfl)) dL_law_467 ⟨by show 6 + n + 0 ≤ 1031; omega, by show 12299 + 6 * n + 0 ≤ 20497; omega⟩) hS (fun q _ h => hFc q h) hFc (fun k u t9 H1 locs ht hvm ek hB hz1 hk1 hS => ?_)
    obtain ⟨hP1, hK1, hD1⟩ := hB
    rw [ht] at hP1
    obtain ⟨hP, hD⟩ := va_join (wr := [(h1, .inr (1, [.int fl, .int (nI rc), .int (nI rl), .int (nI ps), .ref b1, .ref b2])), (b1, .inl (cJ, 4096, .inl g)), (b2, .inl (cK, 4096, .inl t)), (oa, .inl (cL, 1, .inr (.inl o)))]) (w1 := [(h0, .inr (0, [.ref ab, .int (nI rc), .int (nI rl), .int (nI ps)])), (ab, .inl (cI, 4096, .inl (rf_D f rl ps n9 (min rc 8))))]) hP hD [0, 1] [2, 3, 4, 5] rfl rfl (by decide) (by decide) hk1 hFc hP1 hD1
    generalize H1 = H at hP hS ⊢
    have hP := hP.sub (ws' := [(h0, .inr (0, [.ref ab, .int (nI rc), .int (nI rl), .int (nI ps)])), (ab, .inl (cI, 4096, .inl (rf_D f rl ps n9 (min rc 8)))), (h1, .inr (1, [.int fl, .int (nI rc), .int (nI rl), .int (nI ps), .ref b1, .ref b2])), (b1, .inl (cJ, 4096, .inl g)), (b2, .inl (cK, 4096, .inl t)), (oa, .inl (cL, 1, .inr (.inl o)))]) [4, 5, 0, 1, 2, 3] rfl
    have hD := hD.sub (ws' := [(h0, .inr (0, [.ref ab, .int (nI rc), .int (nI rl), .int (nI ps)])), (ab, .inl (cI, 4096, .inl (rf_D f rl ps n9 (min rc 8)))), (h1, .inr (1, [.int fl, .int (nI rc), .int (nI rl), .int (nI ps), .ref b1, .ref b2])), (b1, .inl (cJ, 4096, .inl g)), (b2, .inl (cK, 4096, .inl t)), (oa, .inl (cL, 1, .inr (.inl o)))]) [4, 5, 0, 1, 2, 3] (by decide) rfl
    have hP : va_P (dC, dI) rw_cl [(h0, .inr (0, [.ref ab, .int (nI rc), .int (nI rl), .int (nI ps)])), (ab, .inl (cI, 4096, .inl (rf_D f rl ps n9 (min rc 8)))), (h1, .inr (1, [.int fl, .int (nI rc), .int (nI rl), .int (nI ps), .ref b1, .ref b2])), (b1, .inl (cJ, 4096, .inl g)), (b2, .inl (cK, 4096, .inl t)), (oa, .inl (cL, 1, .inr (.inl o)))] H := hP
    have hD : va_D A [(h0, .inr (0, [.ref ab, .int (nI rc), .int (nI rl), .int (nI ps)])), (ab, .inl (cI, 4096, .inl (rf_D f rl ps n9 (min rc 8)))), (h1, .inr (1, [.int fl, .int (nI rc), .int (nI rl), .int (nI ps), .ref b1, .ref b2])), (b1, .inl (cJ, 4096, .inl g)), (b2, .inl (cK, 4096, .inl t)), (oa, .inl (cL, 1, .inr (.inl o)))] := hD
    refine W.widen (k := 6 + n) (n := 12299 + 6 * n) (Nat.le_refl _) (Nat.le_refl _) ?_
    subst ek
    refine lv_istore hx hb dL_law_470 hl (by decide) rfl (fun ls hl => ?_)
    have hl : lv_has ls 7 [(5, .int 0), (0, .ref b), (1, .ref h0), (2, .ref h1), (3, .ref oa), (4, .int (nI (5 * n)))] := hl
    refine lv_aload_n hx hb dL_law_472 rfl (lv_at hl 3 rfl) ?_
    refine lv_aload_n hx hb dL_law_473 rfl (lv_at hl 1 rfl) ?_
    refine lv_iload hx hb dL_law_474 (lv_at hl 5 rfl) ?_
    refine lv_iconst (v := 1) hx hb dL_law_476 (by decide) ?_
    refine lv_iadd hx hb dL_law_477 ?_
    refine W.eq (g2 := F0 m 478 ls [.int (nI (5 * n + 1)), .ref b, .ref h1]) (congrArg (fun z9 => F0 m 478 ls [.int z9, .ref b, .ref h1]) (show ((nI (5 * n)) + 1) = nI (5 * n + 1) from nI_add (5 * n) 1)) ?_
    refine va_sld hx hb hXs hbl hbA hS (vp_in_nI (by omega) (by omega)) dL_law_478 ?_
    refine W.eq (g2 := F0 m 479 ls [.int (nI n9), .ref h1]) (congrArg (fun z9 => F0 m 479 ls [.int z9, .ref h1]) (show (xs (nI (5 * n + 1)).toNatClampNeg) = (nI n9) from (show xs (nI (5 * n + 1)).toNatClampNeg = (nI n9) from by rw [nI_clamp (by omega)]; exact e1))) ?_
    have hPc := hP.sub (ws' := [(h1, .inr (1, [.int fl, .int (nI rc), .int (nI rl), .int (nI ps), .ref b1, .ref b2])), (b1, .inl (cJ, 4096, .inl g)), (b2, .inl (cK, 4096, .inl t))]) [2, 3, 4] rfl
    have hDc := hD.sub (ws' := [(h1, .inr (1, [.int fl, .int (nI rc), .int (nI rl), .int (nI ps), .ref b1, .ref b2])), (b1, .inl (cJ, 4096, .inl g)), (b2, .inl (cK, 4096, .inl t))]) [2, 3, 4] (by decide) rfl
    have hKc := hK.sub (tys' := [(cJ, .int), (cK, .int)]) [1, 2] rfl
    have hFc := va_free (wc := [(h1, .inr (1, [.int fl, .int (nI rc), .int (nI rl), .int (nI ps), .ref b1, .ref b2])), (b1, .inl (cJ, 4096, .inl g)), (b2, .inl (cK, 4096, .inl t))]) hD hS hA [2, 3, 4] rfl
    refine va_callv (va_runV (C := RX1) (As := [.int (nI n9)]) (rest := []) ⟨hx, hb, hml, hown, htsY⟩ (c_Y1_undo l dC dI cJ cK h1 b1 b2 fl rc rl ps g t H.size n9 ok hn9) (cwV 1 htsY gL_law_Y1_undo rfl rfl rfl (by decide +kernel) ⟨Nat.le_of_ble_eq_true rfl, Nat.le_of_ble_eq_true rfl⟩) ⟨fun a U g mk q => by obtain ⟨q0, q1, qP, qK, qD⟩ := q; exact ⟨q0, q1, qP, va_K.moved (u := U) (U := U.calling g mk a) (Vm.Alike.refl U.vm) qK, qD⟩, va_recv hK hP (ci := 1) (q0 := 2) rfl rfl, fun U hU hW => ⟨rfl, by rw [hU], by rw [hU]; exact hPc, va_K.moved hW.alike hKc, hDc.weaken (fun _ _ _ _ => trivial)⟩⟩ rfl rfl hl.1 rfl (lv_room (Nat.le_of_ble_eq_true rfl)) dL_law_479 ⟨by show 6 + n + 0 ≤ 1031; omega, by show 12299 + 6 * n + 0 ≤ 20497; omega⟩) hS (fun q _ h => hFc q h) hFc (fun u t9 H1 locs ht hvm hw hB hz1 hk1 hS => ?_)
    obtain ⟨hP1, hK1, hD1⟩ := hB
    rw [ht] at hP1
    obtain ⟨hP, hD⟩ := va_join (wr := [(h0, .inr (0, [.ref ab, .int (nI rc), .int (nI rl), .int (nI ps)])), (ab, .inl (cI, 4096, .inl (rf_D f rl ps n9 (min rc 8)))), (oa, .inl (cL, 1, .inr (.inl o)))]) (w1 := [(h1, .inr (1, [.int 0, .int (nI rc), .int (nI rl), .int (nI ps), .ref b1, .ref b2])), (b1, .inl (cJ, 4096, .inl (rf_D g rl ps n9 rc))), (b2, .inl (cK, 4096, .inl t))]) hP hD [2, 3, 4] [0, 1, 5] rfl rfl (by decide) (by decide) hk1 hFc hP1 hD1
    generalize H1 = H at hP hS ⊢
    have hP := hP.sub (ws' := [(h0, .inr (0, [.ref ab, .int (nI rc), .int (nI rl), .int (nI ps)])), (ab, .inl (cI, 4096, .inl (rf_D f rl ps n9 (min rc 8)))), (h1, .inr (1, [.int 0, .int (nI rc), .int (nI rl), .int (nI ps), .ref b1, .ref b2])), (b1, .inl (cJ, 4096, .inl (rf_D g rl ps n9 rc))), (b2, .inl (cK, 4096, .inl t)), (oa, .inl (cL, 1, .inr (.inl o)))]) [0, 1, 3, 4, 5, 2] rfl
    have hD := hD.sub (ws' := [(h0, .inr (0, [.ref ab, .int (nI rc), .int (nI rl), .int (nI ps)])), (ab, .inl (cI, 4096, .inl (rf_D f rl ps n9 (min rc 8)))), (h1, .inr (1, [.int 0, .int (nI rc), .int (nI rl), .int (nI ps), .ref b1, .ref b2])), (b1, .inl (cJ, 4096, .inl (rf_D g rl ps n9 rc))), (b2, .inl (cK, 4096, .inl t)), (oa, .inl (cL, 1, .inr (.inl o)))]) [0, 1, 3, 4, 5, 2] (by decide) rfl
    have hP : va_P (dC, dI) rw_cl [(h0, .inr (0, [.ref ab, .int (nI rc), .int (nI rl), .int (nI ps)])), (ab, .inl (cI, 4096, .inl (rf_D f rl ps n9 (min rc 8)))), (h1, .inr (1, [.int 0, .int (nI rc), .int (nI rl), .int (nI ps), .ref b1, .ref b2])), (b1, .inl (cJ, 4096, .inl (rf_D g rl ps n9 rc))), (b2, .inl (cK, 4096, .inl t)), (oa, .inl (cL, 1, .inr (.inl o)))] H := hP
    have hD : va_D A [(h0, .inr (0, [.ref ab, .int (nI rc), .int (nI rl), .int (nI ps)])), (ab, .inl (cI, 4096, .inl (rf_D f rl ps n9 (min rc 8)))), (h1, .inr (1, [.int 0, .int (nI rc), .int (nI rl), .int (nI ps), .ref b1, .ref b2])), (b1, .inl (cJ, 4096, .inl (rf_D g rl ps n9 rc))), (b2, .inl (cK, 4096, .inl t)), (oa, .inl (cL, 1, .inr (.inl o)))] := hD
    refine W.widen (k := 6 + n) (n := 12299 + 6 * n) (Nat.le_refl _) (Nat.le_refl _) ?_
    refine lv_aload_n hx hb dL_law_482 rfl (lv_at hl 3 rfl) ?_
    have hPc := hP.sub (ws' := [(h1, .inr (1, [.int 0, .int (nI rc), .int (nI rl), .int (nI ps), .ref b1, .ref b2])), (b1, .inl (cJ, 4096, .inl (rf_D g rl ps n9 rc))), (b2, .inl (cK, 4096, .inl t))]) [2, 3, 4] rfl
    have hKc := hK.sub (tys' := [(cJ, .int), (cK, .int)]) [1, 2] rfl
    refine vp_callSi (W.runV (C := RX1) (As := []) (rest := []) ⟨hx, hb, hml, hown, htsY⟩ (c_Y1_thrown l dC dI cJ cK h1 b1 b2 0 rc rl ps (rf_D g rl ps n9 rc) t ) (cwV 0 htsY gL_law_Y1_thrown rfl rfl rfl (by decide +kernel) ⟨Nat.le_of_ble_eq_true rfl, Nat.le_of_ble_eq_true rfl⟩) ⟨fun a U g mk q => by obtain ⟨q0, qP, qK⟩ := q; exact ⟨q0, qP, va_K.moved (u := U) (U := U.calling g mk a) (Vm.Alike.refl U.vm) qK⟩, va_recv hK hP (ci := 1) (q0 := 2) rfl rfl, fun U hU hW => ⟨rfl, by rw [hU]; exact hPc, va_K.moved hW.alike hKc⟩⟩ rfl rfl hl.1 rfl (lv_room (Nat.le_of_ble_eq_true rfl)) dL_law_483 ⟨by show 6 + n + 0 ≤ 1031; omega, by show 12299 + 6 * n + 0 ≤ 20497; omega⟩) (fun rt et => ?_)
    subst et
    refine lv_iload hx hb dL_law_486 (lv_at hl 0 rfl) ?_
    refine lv_icmp_eq (tgt := 493) hx hb dL_law_488 (by decide) (fun hq => ?_) (fun hq => ?_)
    · refine lv_goto (tgt := 685) hx hb dL_law_493 (by decide) ?_
      refine lv_iinc (k := 5) (v := (nI (5 * (n + 1)))) hx hb dL_law_685 hl rfl (show nI (5 * n) + nI 5 = nI (5 * (n + 1)) from (nI_add _ _).trans (congrArg nI (by omega))) (by decide) rfl (fun ls hl => ?_)
      have hl : lv_has ls 7 [(4, .int (nI (5 * (n + 1)))), (5, .int 0), (0, .ref b), (1, .ref h0), (2, .ref h1), (3, .ref oa)] := hl
      refine lv_goto (tgt := 23) hx hb dL_law_688 (by decide) ?_
      refine W.widen (k := 6 + (n + 1)) (n := 12299 + 6 * (n + 1)) (by omega) (by omega) ?_
      exact ih _ _ _ ⟨rc, rl, ps, (rf_D f rl ps n9 (min rc 8)), 0, (rf_D g rl ps n9 rc), t, o, ok, (rf_R_undo ok.2.2.2.1 hn9 hR), lv_sub hl [2, 3, 4, 5, 0] rfl, hP, hD, hS⟩
    · exact absurd (rfl : (0 : Int32) = 0) hq
