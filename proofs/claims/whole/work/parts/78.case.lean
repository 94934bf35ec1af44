set_option maxHeartbeats 8000000 in
set_option maxRecDepth 100000 in
theorem lw_case_pass {p : Program} {l : Launch} {e : Env} {s : State} {m : MethodId} {below : List Frame} {meth : Method} {c : Code} {Q : State → Prop} {A : Nat → Prop} {b L : Nat} {xs : Nat → Int32} {dC : Nat → ClassId} {dI : Nat → Nat → Nat} {h0 ab : Nat} {cI : ClassId} {h1 b1 b2 : Nat} {cJ cK : ClassId} {oa : Nat} {cL : ClassId} {sa t1 t2 t3 t4 : Nat} (hl9 : l.stackTraces = false) (C9 : lw_F p s m c A b L xs dC dI cI cJ cK cL sa t1 t2 t3 t4) {n : Nat} (hn : n ≤ 512) (hL5 : 5 * n + 5 ≤ L) {rc rl ps : Nat} {f : Nat → Int32} {fl : Int32} {g t : Nat → Int32} {o : Nat → Int64} {ls : Array Slot} {H : Heap} {locs : List Loc} (ok : rf_ok rc rl ps) (hR : rf_R (rc * rl) f g) (hl : lv_has ls 7 [(0, .ref b), (1, .ref h0), (2, .ref h1), (3, .ref oa), (4, .int (nI (5 * n)))]) (hP : va_P (dC, dI) rw_cl (lw_W h0 ab cI h1 b1 b2 cJ cK oa cL rc rl ps f fl g t o) H) (hD : va_D A (lw_W h0 ab cI h1 b1 b2 cJ cK oa cL rc rl ps f fl g t o)) (hS : va_S A s.heap H locs) (ih : ∀ (ls : Array Slot) (H : Heap) (locs : List Loc), lw_I s A dC dI b h0 ab cI h1 b1 b2 cJ cK oa cL (n + 1) ls H locs → W p l e room_1 s m #[Value.ref b] below meth c H locs (6 + (n + 1)) (12299 + 6 * (n + 1)) Q (F0 m 23 ls [])) : W p l e room_1 s m #[Value.ref b] below meth c H locs (6 + n) (12299 + 6 * n) Q (F0 m 509 ls []) := by
  obtain ⟨hx, hb, hml, hown, hts, htsY, hXs, hbl, hbA, hA, hA2, hK, hX, hZ, hL⟩ := C9
  by_cases hz4 : (xs (5 * n + 4)) = 0
  · by_cases hc9 : rf_pw (xs (5 * n + 1)) (xs (5 * n + 2)) (xs (5 * n + 3))
    · refine lv_aload_n hx hb dL_law_509 rfl (lv_at hl 1 rfl) ?_
      refine lv_aload_n hx hb dL_law_510 rfl (lv_at hl 0 rfl) ?_
      refine lv_iload hx hb dL_law_511 (lv_at hl 4 rfl) ?_
      refine lv_iconst (v := 1) hx hb dL_law_513 (by decide) ?_
      refine lv_iadd hx hb dL_law_514 ?_
      refine W.eq (g2 := F0 m 515 ls [.int (nI (5 * n + 1)), .ref b, .ref h0]) (congrArg (fun z9 => F0 m 515 ls [.int z9, .ref b, .ref h0]) (show ((nI (5 * n)) + 1) = nI (5 * n + 1) from nI_add (5 * n) 1)) ?_
      refine va_sld hx hb hXs hbl hbA hS (vp_in_nI (by omega) (by omega)) dL_law_515 ?_
      refine W.eq (g2 := F0 m 516 ls [.int (xs (5 * n + 1)), .ref h0]) (congrArg (fun z9 => F0 m 516 ls [.int z9, .ref h0]) (show (xs (nI (5 * n + 1)).toNatClampNeg) = (xs (5 * n + 1)) from (show xs (nI (5 * n + 1)).toNatClampNeg = (xs (5 * n + 1)) from by rw [nI_clamp (by omega)]))) ?_
      refine lv_aload_n hx hb dL_law_516 rfl (lv_at hl 0 rfl) ?_
      refine lv_iload hx hb dL_law_517 (lv_at hl 4 rfl) ?_
      refine lv_iconst (v := 2) hx hb dL_law_519 (by decide) ?_
      refine lv_iadd hx hb dL_law_520 ?_
      refine W.eq (g2 := F0 m 521 ls [.int (nI (5 * n + 2)), .ref b, .int (xs (5 * n + 1)), .ref h0]) (congrArg (fun z9 => F0 m 521 ls [.int z9, .ref b, .int (xs (5 * n + 1)), .ref h0]) (show ((nI (5 * n)) + 2) = nI (5 * n + 2) from nI_add (5 * n) 2)) ?_
      refine va_sld hx hb hXs hbl hbA hS (vp_in_nI (by omega) (by omega)) dL_law_521 ?_
      refine W.eq (g2 := F0 m 522 ls [.int (xs (5 * n + 2)), .int (xs (5 * n + 1)), .ref h0]) (congrArg (fun z9 => F0 m 522 ls [.int z9, .int (xs (5 * n + 1)), .ref h0]) (show (xs (nI (5 * n + 2)).toNatClampNeg) = (xs (5 * n + 2)) from (show xs (nI (5 * n + 2)).toNatClampNeg = (xs (5 * n + 2)) from by rw [nI_clamp (by omega)]))) ?_
      refine lv_aload_n hx hb dL_law_522 rfl (lv_at hl 0 rfl) ?_
      refine lv_iload hx hb dL_law_523 (lv_at hl 4 rfl) ?_
      refine lv_iconst (v := 3) hx hb dL_law_525 (by decide) ?_
      refine lv_iadd hx hb dL_law_526 ?_
      refine W.eq (g2 := F0 m 527 ls [.int (nI (5 * n + 3)), .ref b, .int (xs (5 * n + 2)), .int (xs (5 * n + 1)), .ref h0]) (congrArg (fun z9 => F0 m 527 ls [.int z9, .ref b, .int (xs (5 * n + 2)), .int (xs (5 * n + 1)), .ref h0]) (show ((nI (5 * n)) + 3) = nI (5 * n + 3) from nI_add (5 * n) 3)) ?_
      refine va_sld hx hb hXs hbl hbA hS (vp_in_nI (by omega) (by omega)) dL_law_527 ?_
      refine W.eq (g2 := F0 m 528 ls [.int (xs (5 * n + 3)), .int (xs (5 * n + 2)), .int (xs (5 * n + 1)), .ref h0]) (congrArg (fun z9 => F0 m 528 ls [.int z9, .int (xs (5 * n + 2)), .int (xs (5 * n + 1)), .ref h0]) (show (xs (nI (5 * n + 3)).toNatClampNeg) = (xs (5 * n + 3)) from (show xs (nI (5 * n + 3)).toNatClampNeg = (xs (5 * n + 3)) from by rw [nI_clamp (by omega)]))) ?_
      refine lv_aload_n hx hb dL_law_528 rfl (lv_at hl 0 rfl) ?_
      refine lv_iload hx hb dL_law_529 (lv_at hl 4 rfl) ?_
      refine lv_iconst (v := 4) hx hb dL_law_531 (by decide) ?_
      refine lv_iadd hx hb dL_law_532 ?_
      refine W.eq (g2 := F0 m 533 ls [.int (nI (5 * n + 4)), .ref b, .int (xs (5 * n + 3)), .int (xs (5 * n + 2)), .int (xs (5 * n + 1)), .ref h0]) (congrArg (fun z9 => F0 m 533 ls [.int z9, .ref b, .int (xs (5 * n + 3)), .int (xs (5 * n + 2)), .int (xs (5 * n + 1)), .ref h0]) (show ((nI (5 * n)) + 4) = nI (5 * n + 4) from nI_add (5 * n) 4)) ?_
      refine va_sld hx hb hXs hbl hbA hS (vp_in_nI (by omega) (by omega)) dL_law_533 ?_
      refine W.eq (g2 := F0 m 534 ls [.int (xs (5 * n + 4)), .int (xs (5 * n + 3)), .int (xs (5 * n + 2)), .int (xs (5 * n + 1)), .ref h0]) (congrArg (fun z9 => F0 m 534 ls [.int z9, .int (xs (5 * n + 3)), .int (xs (5 * n + 2)), .int (xs (5 * n + 1)), .ref h0]) (show (xs (nI (5 * n + 4)).toNatClampNeg) = (xs (5 * n + 4)) from (show xs (nI (5 * n + 4)).toNatClampNeg = (xs (5 * n + 4)) from by rw [nI_clamp (by omega)]))) ?_
      refine lv_if_eq (tgt := 541) hx hb dL_law_534 (by decide) (fun hb4 => ?_) (fun hb4 => ?_)
      · refine lv_iconst (v := 0) hx hb dL_law_541 (by decide) ?_
        refine lv_aload_n hx hb dL_law_542 rfl (lv_at hl 3 rfl) ?_
        have hPc := hP.sub (ws' := [(h0, .inr (0, [.ref ab, .int (nI rc), .int (nI rl), .int (nI ps)])), (ab, .inl (cI, 4096, .inl f)), (oa, .inl (cL, 1, .inr (.inl o)))]) [0, 1, 5] rfl
        have hDc := hD.sub (ws' := [(h0, .inr (0, [.ref ab, .int (nI rc), .int (nI rl), .int (nI ps)])), (ab, .inl (cI, 4096, .inl f)), (oa, .inl (cL, 1, .inr (.inl o)))]) [0, 1, 5] (by decide) rfl
        have hKc := hK.sub (tys' := [(cI, .int), (cL, .long)]) [0, 3] rfl
        have hFc := va_free (wc := [(h0, .inr (0, [.ref ab, .int (nI rc), .int (nI rl), .int (nI ps)])), (ab, .inl (cI, 4096, .inl f)), (oa, .inl (cL, 1, .inr (.inl o)))]) hD hS hA [0, 1, 5] rfl
        refine va_calli (vx_runSW (As := [.ref h0, .int (xs (5 * n + 1)), .int (xs (5 * n + 2)), .int (xs (5 * n + 3)), .int 0, .ref oa]) (rest := []) ⟨hx, hb, hml, hown, hts⟩ (c_L_pass_bad l hl9 sa dC dI cI h0 ab rc rl ps f cL oa o H.size (xs (5 * n + 1)) (xs (5 * n + 2)) (xs (5 * n + 3)) 0 hc9) (vx_cwSW 6 hts gL_law_L_pass rfl rfl rfl (by decide +kernel) ⟨Nat.le_of_ble_eq_true rfl, Nat.le_of_ble_eq_true rfl⟩) ⟨fun a U g mk q => by obtain ⟨q0, qX, q1, qP, qK, qD⟩ := q; exact ⟨q0, rw_XA.call qX, q1, qP, va_K.moved (u := U) (U := U.calling g mk a) (Vm.Alike.refl U.vm) qK, qD⟩, fun U hU hW => ⟨rfl, rw_XA.to hX hS (fun q z => hA q (Nat.le_trans hS.1 z)) hU hW, by rw [hU], by rw [hU]; exact hPc, va_K.moved hW.alike hKc, hDc.weaken (fun _ _ _ _ => trivial)⟩⟩ rfl rfl hl.1 rfl (lv_room (Nat.le_of_ble_eq_true rfl)) dL_law_543 ⟨by show 6 + n + 1 ≤ 1031; omega, by show 12299 + 6 * n + 6 ≤ 20497; omega⟩) hS (fun q _ h => hFc q h) hFc (fun k u t9 H1 locs ht hvm ek hB hz1 hk1 hS => ?_)
        obtain ⟨hP1, hK1, hD1⟩ := hB
        rw [ht] at hP1
        obtain ⟨hP, hD⟩ := va_join (wr := [(h1, .inr (1, [.int fl, .int (nI rc), .int (nI rl), .int (nI ps), .ref b1, .ref b2])), (b1, .inl (cJ, 4096, .inl g)), (b2, .inl (cK, 4096, .inl t))]) (w1 := [(h0, .inr (0, [.ref ab, .int (nI rc), .int (nI rl), .int (nI ps)])), (ab, .inl (cI, 4096, .inl f)), (oa, .inl (cL, 1, .inr (.inl o)))]) hP hD [0, 1, 5] [2, 3, 4] rfl rfl (by decide) (by decide) hk1 hFc hP1 hD1
        generalize H1 = H at hP hS ⊢
        have hP := hP.sub (ws' := [(h0, .inr (0, [.ref ab, .int (nI rc), .int (nI rl), .int (nI ps)])), (ab, .inl (cI, 4096, .inl f)), (h1, .inr (1, [.int fl, .int (nI rc), .int (nI rl), .int (nI ps), .ref b1, .ref b2])), (b1, .inl (cJ, 4096, .inl g)), (b2, .inl (cK, 4096, .inl t)), (oa, .inl (cL, 1, .inr (.inl o)))]) [3, 4, 0, 1, 2, 5] rfl
        have hD := hD.sub (ws' := [(h0, .inr (0, [.ref ab, .int (nI rc), .int (nI rl), .int (nI ps)])), (ab, .inl (cI, 4096, .inl f)), (h1, .inr (1, [.int fl, .int (nI rc), .int (nI rl), .int (nI ps), .ref b1, .ref b2])), (b1, .inl (cJ, 4096, .inl g)), (b2, .inl (cK, 4096, .inl t)), (oa, .inl (cL, 1, .inr (.inl o)))]) [3, 4, 0, 1, 2, 5] (by decide) rfl
        have hP : va_P (dC, dI) rw_cl [(h0, .inr (0, [.ref ab, .int (nI rc), .int (nI rl), .int (nI ps)])), (ab, .inl (cI, 4096, .inl f)), (h1, .inr (1, [.int fl, .int (nI rc), .int (nI rl), .int (nI ps), .ref b1, .ref b2])), (b1, .inl (cJ, 4096, .inl g)), (b2, .inl (cK, 4096, .inl t)), (oa, .inl (cL, 1, .inr (.inl o)))] H := hP
        have hD : va_D A [(h0, .inr (0, [.ref ab, .int (nI rc), .int (nI rl), .int (nI ps)])), (ab, .inl (cI, 4096, .inl f)), (h1, .inr (1, [.int fl, .int (nI rc), .int (nI rl), .int (nI ps), .ref b1, .ref b2])), (b1, .inl (cJ, 4096, .inl g)), (b2, .inl (cK, 4096, .inl t)), (oa, .inl (cL, 1, .inr (.inl o)))] := hD
        subst ek
        refine lv_istore hx hb dL_law_546 hl (by decide) rfl (fun ls hl => ?_)
        have hl : lv_has ls 7 [(5, .int 1), (0, .ref b), (1, .ref h0), (2, .ref h1), (3, .ref oa), (4, .int (nI (5 * n)))] := hl
        refine lv_aload_n hx hb dL_law_548 rfl (lv_at hl 3 rfl) ?_
        refine lv_aload_n hx hb dL_law_549 rfl (lv_at hl 1 rfl) ?_
        refine lv_iload hx hb dL_law_550 (lv_at hl 5 rfl) ?_
        refine lv_iconst (v := 1) hx hb dL_law_552 (by decide) ?_
        refine lv_iadd hx hb dL_law_553 ?_
        refine W.eq (g2 := F0 m 554 ls [.int (nI (5 * n + 1)), .ref b, .ref h1]) (congrArg (fun z9 => F0 m 554 ls [.int z9, .ref b, .ref h1]) (show ((nI (5 * n)) + 1) = nI (5 * n + 1) from nI_add (5 * n) 1)) ?_
        refine va_sld hx hb hXs hbl hbA hS (vp_in_nI (by omega) (by omega)) dL_law_554 ?_
        refine W.eq (g2 := F0 m 555 ls [.int (xs (5 * n + 1)), .ref h1]) (congrArg (fun z9 => F0 m 555 ls [.int z9, .ref h1]) (show (xs (nI (5 * n + 1)).toNatClampNeg) = (xs (5 * n + 1)) from (show xs (nI (5 * n + 1)).toNatClampNeg = (xs (5 * n + 1)) from by rw [nI_clamp (by omega)]))) ?_
        refine lv_aload_n hx hb dL_law_555 rfl (lv_at hl 1 rfl) ?_
        refine lv_iload hx hb dL_law_556 (lv_at hl 5 rfl) ?_
        refine lv_iconst (v := 2) hx hb dL_law_558 (by decide) ?_
        refine lv_iadd hx hb dL_law_559 ?_
        refine W.eq (g2 := F0 m 560 ls [.int (nI (5 * n + 2)), .ref b, .int (xs (5 * n + 1)), .ref h1]) (congrArg (fun z9 => F0 m 560 ls [.int z9, .ref b, .int (xs (5 * n + 1)), .ref h1]) (show ((nI (5 * n)) + 2) = nI (5 * n + 2) from nI_add (5 * n) 2)) ?_
        refine va_sld hx hb hXs hbl hbA hS (vp_in_nI (by omega) (by omega)) dL_law_560 ?_
        refine W.eq (g2 := F0 m 561 ls [.int (xs (5 * n + 2)), .int (xs (5 * n + 1)), .ref h1]) (congrArg (fun z9 => F0 m 561 ls [.int z9, .int (xs (5 * n + 1)), .ref h1]) (show (xs (nI (5 * n + 2)).toNatClampNeg) = (xs (5 * n + 2)) from (show xs (nI (5 * n + 2)).toNatClampNeg = (xs (5 * n + 2)) from by rw [nI_clamp (by omega)]))) ?_
        refine lv_aload_n hx hb dL_law_561 rfl (lv_at hl 1 rfl) ?_
        refine lv_iload hx hb dL_law_562 (lv_at hl 5 rfl) ?_
        refine lv_iconst (v := 3) hx hb dL_law_564 (by decide) ?_
        refine lv_iadd hx hb dL_law_565 ?_
        refine W.eq (g2 := F0 m 566 ls [.int (nI (5 * n + 3)), .ref b, .int (xs (5 * n + 2)), .int (xs (5 * n + 1)), .ref h1]) (congrArg (fun z9 => F0 m 566 ls [.int z9, .ref b, .int (xs (5 * n + 2)), .int (xs (5 * n + 1)), .ref h1]) (show ((nI (5 * n)) + 3) = nI (5 * n + 3) from nI_add (5 * n) 3)) ?_
        refine va_sld hx hb hXs hbl hbA hS (vp_in_nI (by omega) (by omega)) dL_law_566 ?_
        refine W.eq (g2 := F0 m 567 ls [.int (xs (5 * n + 3)), .int (xs (5 * n + 2)), .int (xs (5 * n + 1)), .ref h1]) (congrArg (fun z9 => F0 m 567 ls [.int z9, .int (xs (5 * n + 2)), .int (xs (5 * n + 1)), .ref h1]) (show (xs (nI (5 * n + 3)).toNatClampNeg) = (xs (5 * n + 3)) from (show xs (nI (5 * n + 3)).toNatClampNeg = (xs (5 * n + 3)) from by rw [nI_clamp (by omega)]))) ?_
        refine lv_aload_n hx hb dL_law_567 rfl (lv_at hl 1 rfl) ?_
        refine lv_iload hx hb dL_law_568 (lv_at hl 5 rfl) ?_
        refine lv_iconst (v := 4) hx hb dL_law_570 (by decide) ?_
        refine lv_iadd hx hb dL_law_571 ?_
        refine W.eq (g2 := F0 m 572 ls [.int (nI (5 * n + 4)), .ref b, .int (xs (5 * n + 3)), .int (xs (5 * n + 2)), .int (xs (5 * n + 1)), .ref h1]) (congrArg (fun z9 => F0 m 572 ls [.int z9, .ref b, .int (xs (5 * n + 3)), .int (xs (5 * n + 2)), .int (xs (5 * n + 1)), .ref h1]) (show ((nI (5 * n)) + 4) = nI (5 * n + 4) from nI_add (5 * n) 4)) ?_
        refine va_sld hx hb hXs hbl hbA hS (vp_in_nI (by omega) (by omega)) dL_law_572 ?_
        refine W.eq (g2 := F0 m 573 ls [.int (xs (5 * n + 4)), .int (xs (5 * n + 3)), .int (xs (5 * n + 2)), .int (xs (5 * n + 1)), .ref h1]) (congrArg (fun z9 => F0 m 573 ls [.int z9, .int (xs (5 * n + 3)), .int (xs (5 * n + 2)), .int (xs (5 * n + 1)), .ref h1]) (show (xs (nI (5 * n + 4)).toNatClampNeg) = (xs (5 * n + 4)) from (show xs (nI (5 * n + 4)).toNatClampNeg = (xs (5 * n + 4)) from by rw [nI_clamp (by omega)]))) ?_
        refine lv_if_eq (tgt := 580) hx hb dL_law_573 (by decide) (fun hb4 => ?_) (fun hb4 => ?_)
        · refine lv_iconst (v := 0) hx hb dL_law_580 (by decide) ?_
          have hPc := hP.sub (ws' := [(h1, .inr (1, [.int fl, .int (nI rc), .int (nI rl), .int (nI ps), .ref b1, .ref b2])), (b1, .inl (cJ, 4096, .inl g)), (b2, .inl (cK, 4096, .inl t))]) [2, 3, 4] rfl
          have hDc := hD.sub (ws' := [(h1, .inr (1, [.int fl, .int (nI rc), .int (nI rl), .int (nI ps), .ref b1, .ref b2])), (b1, .inl (cJ, 4096, .inl g)), (b2, .inl (cK, 4096, .inl t))]) [2, 3, 4] (by decide) rfl
          have hKc := hK.sub (tys' := [(cJ, .int), (cK, .int)]) [1, 2] rfl
          have hFc := va_free (wc := [(h1, .inr (1, [.int fl, .int (nI rc), .int (nI rl), .int (nI ps), .ref b1, .ref b2])), (b1, .inl (cJ, 4096, .inl g)), (b2, .inl (cK, 4096, .inl t))]) hD hS hA [2, 3, 4] rfl
          refine va_calli (va_runV (C := RX1) (As := [.int (xs (5 * n + 1)), .int (xs (5 * n + 2)), .int (xs (5 * n + 3)), .int 0]) (rest := []) ⟨hx, hb, hml, hown, htsY⟩ (c_Y1_pass_bad l dC dI cJ cK h1 b1 b2 fl rc rl ps g t H.size (xs (5 * n + 1)) (xs (5 * n + 2)) (xs (5 * n + 3)) 0 hc9) (cwV 4 htsY gL_law_Y1_pass rfl rfl rfl (by decide +kernel) ⟨Nat.le_of_ble_eq_true rfl, Nat.le_of_ble_eq_true rfl⟩) ⟨fun a U g mk q => by obtain ⟨q0, q1, qP, qK, qD⟩ := q; exact ⟨q0, q1, qP, va_K.moved (u := U) (U := U.calling g mk a) (Vm.Alike.refl U.vm) qK, qD⟩, va_recv hK hP (ci := 1) (q0 := 2) rfl rfl, fun U hU hW => ⟨rfl, by rw [hU], by rw [hU]; exact hPc, va_K.moved hW.alike hKc, hDc.weaken (fun _ _ _ _ => trivial)⟩⟩ rfl rfl hl.1 rfl (lv_room (Nat.le_of_ble_eq_true rfl)) dL_law_581 ⟨by show 6 + n + 1 + 0 ≤ 1031; omega, by show 12299 + 6 * n + 6 + 0 ≤ 20497; omega⟩) hS (fun q _ h => hFc q h) hFc (fun rb u t9 H1 locs ht hvm eb hB hz1 hk1 hS => ?_)
          obtain ⟨hP1, hK1, hD1⟩ := hB
          rw [ht] at hP1
          obtain ⟨hP, hD⟩ := va_join (wr := [(h0, .inr (0, [.ref ab, .int (nI rc), .int (nI rl), .int (nI ps)])), (ab, .inl (cI, 4096, .inl f)), (oa, .inl (cL, 1, .inr (.inl o)))]) (w1 := [(h1, .inr (1, [.int 1, .int (nI rc), .int (nI rl), .int (nI ps), .ref b1, .ref b2])), (b1, .inl (cJ, 4096, .inl g)), (b2, .inl (cK, 4096, .inl t))]) hP hD [2, 3, 4] [0, 1, 5] rfl rfl (by decide) (by decide) hk1 hFc hP1 hD1
          generalize H1 = H at hP hS ⊢
          have hP := hP.sub (ws' := [(h0, .inr (0, [.ref ab, .int (nI rc), .int (nI rl), .int (nI ps)])), (ab, .inl (cI, 4096, .inl f)), (h1, .inr (1, [.int 1, .int (nI rc), .int (nI rl), .int (nI ps), .ref b1, .ref b2])), (b1, .inl (cJ, 4096, .inl g)), (b2, .inl (cK, 4096, .inl t)), (oa, .inl (cL, 1, .inr (.inl o)))]) [0, 1, 3, 4, 5, 2] rfl
          have hD := hD.sub (ws' := [(h0, .inr (0, [.ref ab, .int (nI rc), .int (nI rl), .int (nI ps)])), (ab, .inl (cI, 4096, .inl f)), (h1, .inr (1, [.int 1, .int (nI rc), .int (nI rl), .int (nI ps), .ref b1, .ref b2])), (b1, .inl (cJ, 4096, .inl g)), (b2, .inl (cK, 4096, .inl t)), (oa, .inl (cL, 1, .inr (.inl o)))]) [0, 1, 3, 4, 5, 2] (by decide) rfl
          have hP : va_P (dC, dI) rw_cl [(h0, .inr (0, [.ref ab, .int (nI rc), .int (nI rl), .int (nI ps)])), (ab, .inl (cI, 4096, .inl f)), (h1, .inr (1, [.int 1, .int (nI rc), .int (nI rl), .int (nI ps), .ref b1, .ref b2])), (b1, .inl (cJ, 4096, .inl g)), (b2, .inl (cK, 4096, .inl t)), (oa, .inl (cL, 1, .inr (.inl o)))] H := hP
          have hD : va_D A [(h0, .inr (0, [.ref ab, .int (nI rc), .int (nI rl), .int (nI ps)])), (ab, .inl (cI, 4096, .inl f)), (h1, .inr (1, [.int 1, .int (nI rc), .int (nI rl), .int (nI ps), .ref b1, .ref b2])), (b1, .inl (cJ, 4096, .inl g)), (b2, .inl (cK, 4096, .inl t)), (oa, .inl (cL, 1, .inr (.inl o)))] := hD
          refine W.widen (k := 6 + n + 1) (n := 12299 + 6 * n + 6) (Nat.le_refl _) (Nat.le_refl _) ?_
          refine lv_istore hx hb dL_law_584 hl (by decide) rfl (fun ls hl => ?_)
          have hl : lv_has ls 7 [(6, .int rb), (5, .int 1), (0, .ref b), (1, .ref h0), (2, .ref h1), (3, .ref oa), (4, .int (nI (5 * n)))] := hl
          refine lv_aload_n hx hb dL_law_586 rfl (lv_at hl 4 rfl) ?_
          have hPc := hP.sub (ws' := [(h1, .inr (1, [.int 1, .int (nI rc), .int (nI rl), .int (nI ps), .ref b1, .ref b2])), (b1, .inl (cJ, 4096, .inl g)), (b2, .inl (cK, 4096, .inl t))]) [2, 3, 4] rfl
          have hKc := hK.sub (tys' := [(cJ, .int), (cK, .int)]) [1, 2] rfl
          refine vp_callSi (W.runV (C := RX1) (As := []) (rest := []) ⟨hx, hb, hml, hown, htsY⟩ (c_Y1_thrown l dC dI cJ cK h1 b1 b2 1 rc rl ps g t ) (cwV 0 htsY gL_law_Y1_thrown rfl rfl rfl (by decide +kernel) ⟨Nat.le_of_ble_eq_true rfl, Nat.le_of_ble_eq_true rfl⟩) ⟨fun a U g mk q => by obtain ⟨q0, qP, qK⟩ := q; exact ⟨q0, qP, va_K.moved (u := U) (U := U.calling g mk a) (Vm.Alike.refl U.vm) qK⟩, va_recv hK hP (ci := 1) (q0 := 2) rfl rfl, fun U hU hW => ⟨rfl, by rw [hU]; exact hPc, va_K.moved hW.alike hKc⟩⟩ rfl rfl hl.1 rfl (lv_room (Nat.le_of_ble_eq_true rfl)) dL_law_587 ⟨by show 6 + n + 1 + 0 ≤ 1031; omega, by show 12299 + 6 * n + 6 + 0 ≤ 20497; omega⟩) (fun rt et => ?_)
          subst et
          refine lv_iload hx hb dL_law_590 (lv_at hl 1 rfl) ?_
          refine lv_icmp_eq (tgt := 597) hx hb dL_law_592 (by decide) (fun hq => ?_) (fun hq => ?_)
          · refine lv_iload hx hb dL_law_597 (lv_at hl 1 rfl) ?_
            refine lv_if_ne (tgt := 614) hx hb dL_law_599 (by decide) (fun hz => ?_) (fun hz => ?_)
            · refine lv_goto (tgt := 685) hx hb dL_law_614 (by decide) ?_
              refine lv_iinc (k := 6) (v := (nI (5 * (n + 1)))) hx hb dL_law_685 hl rfl (show nI (5 * n) + nI 5 = nI (5 * (n + 1)) from (nI_add _ _).trans (congrArg nI (by omega))) (by decide) rfl (fun ls hl => ?_)
              have hl : lv_has ls 7 [(4, .int (nI (5 * (n + 1)))), (6, .int rb), (5, .int 1), (0, .ref b), (1, .ref h0), (2, .ref h1), (3, .ref oa)] := hl
              refine lv_goto (tgt := 23) hx hb dL_law_688 (by decide) ?_
              refine W.widen (k := 6 + (n + 1)) (n := 12299 + 6 * (n + 1)) (by omega) (by omega) ?_
              exact ih _ _ _ ⟨rc, rl, ps, f, 1, g, t, o, ok, hR, lv_sub hl [3, 4, 5, 6, 0] rfl, hP, hD, hS⟩
            · exact absurd hz (by decide)
          · exact absurd (rfl : (1 : Int32) = 1) hq
        · exact absurd hz4 hb4
      · exact absurd hz4 hb4
    · obtain ⟨k9, w9, h9, e1, e2, e3, hk, hw1, hw2, hh1, hh2⟩ := rf_pw_ok hc9
      refine lv_aload_n hx hb dL_law_509 rfl (lv_at hl 1 rfl) ?_
      refine lv_aload_n hx hb dL_law_510 rfl (lv_at hl 0 rfl) ?_
      refine lv_iload hx hb dL_law_511 (lv_at hl 4 rfl) ?_
      refine lv_iconst (v := 1) hx hb dL_law_513 (by decide) ?_
      refine lv_iadd hx hb dL_law_514 ?_
      refine W.eq (g2 := F0 m 515 ls [.int (nI (5 * n + 1)), .ref b, .ref h0]) (congrArg (fun z9 => F0 m 515 ls [.int z9, .ref b, .ref h0]) (show ((nI (5 * n)) + 1) = nI (5 * n + 1) from nI_add (5 * n) 1)) ?_
      refine va_sld hx hb hXs hbl hbA hS (vp_in_nI (by omega) (by omega)) dL_law_515 ?_
      refine W.eq (g2 := F0 m 516 ls [.int (nI k9), .ref h0]) (congrArg (fun z9 => F0 m 516 ls [.int z9, .ref h0]) (show (xs (nI (5 * n + 1)).toNatClampNeg) = (nI k9) from (show xs (nI (5 * n + 1)).toNatClampNeg = (nI k9) from by rw [nI_clamp (by omega)]; exact e1))) ?_
      refine lv_aload_n hx hb dL_law_516 rfl (lv_at hl 0 rfl) ?_
      refine lv_iload hx hb dL_law_517 (lv_at hl 4 rfl) ?_
      refine lv_iconst (v := 2) hx hb dL_law_519 (by decide) ?_
      refine lv_iadd hx hb dL_law_520 ?_
      refine W.eq (g2 := F0 m 521 ls [.int (nI (5 * n + 2)), .ref b, .int (nI k9), .ref h0]) (congrArg (fun z9 => F0 m 521 ls [.int z9, .ref b, .int (nI k9), .ref h0]) (show ((nI (5 * n)) + 2) = nI (5 * n + 2) from nI_add (5 * n) 2)) ?_
      refine va_sld hx hb hXs hbl hbA hS (vp_in_nI (by omega) (by omega)) dL_law_521 ?_
      refine W.eq (g2 := F0 m 522 ls [.int (nI w9), .int (nI k9), .ref h0]) (congrArg (fun z9 => F0 m 522 ls [.int z9, .int (nI k9), .ref h0]) (show (xs (nI (5 * n + 2)).toNatClampNeg) = (nI w9) from (show xs (nI (5 * n + 2)).toNatClampNeg = (nI w9) from by rw [nI_clamp (by omega)]; exact e2))) ?_
      refine lv_aload_n hx hb dL_law_522 rfl (lv_at hl 0 rfl) ?_
      refine lv_iload hx hb dL_law_523 (lv_at hl 4 rfl) ?_
      refine lv_iconst (v := 3) hx hb dL_law_525 (by decide) ?_
      refine lv_iadd hx hb dL_law_526 ?_
      refine W.eq (g2 := F0 m 527 ls [.int (nI (5 * n + 3)), .ref b, .int (nI w9), .int (nI k9), .ref h0]) (congrArg (fun z9 => F0 m 527 ls [.int z9, .ref b, .int (nI w9), .int (nI k9), .ref h0]) (show ((nI (5 * n)) + 3) = nI (5 * n + 3) from nI_add (5 * n) 3)) ?_
      refine va_sld hx hb hXs hbl hbA hS (vp_in_nI (by omega) (by omega)) dL_law_527 ?_
      refine W.eq (g2 := F0 m 528 ls [.int (nI h9), .int (nI w9), .int (nI k9), .ref h0]) (congrArg (fun z9 => F0 m 528 ls [.int z9, .int (nI w9), .int (nI k9), .ref h0]) (show (xs (nI (5 * n + 3)).toNatClampNeg) = (nI h9) from (show xs (nI (5 * n + 3)).toNatClampNeg = (nI h9) from by rw [nI_clamp (by omega)]; exact e3))) ?_
      refine lv_aload_n hx hb dL_law_528 rfl (lv_at hl 0 rfl) ?_
      refine lv_iload hx hb dL_law_529 (lv_at hl 4 rfl) ?_
      refine lv_iconst (v := 4) hx hb dL_law_531 (by decide) ?_
      refine lv_iadd hx hb dL_law_532 ?_
      refine W.eq (g2 := F0 m 533 ls [.int (nI (5 * n + 4)), .ref b, .int (nI h9), .int (nI w9), .int (nI k9), .ref h0]) (congrArg (fun z9 => F0 m 533 ls [.int z9, .ref b, .int (nI h9), .int (nI w9), .int (nI k9), .ref h0]) (show ((nI (5 * n)) + 4) = nI (5 * n + 4) from nI_add (5 * n) 4)) ?_
      refine va_sld hx hb hXs hbl hbA hS (vp_in_nI (by omega) (by omega)) dL_law_533 ?_
      refine W.eq (g2 := F0 m 534 ls [.int (xs (5 * n + 4)), .int (nI h9), .int (nI w9), .int (nI k9), .ref h0]) (congrArg (fun z9 => F0 m 534 ls [.int z9, .int (nI h9), .int (nI w9), .int (nI k9), .ref h0]) (show (xs (nI (5 * n + 4)).toNatClampNeg) = (xs (5 * n + 4)) from (show xs (nI (5 * n + 4)).toNatClampNeg = (xs (5 * n + 4)) from by rw [nI_clamp (by omega)]))) ?_
      refine lv_if_eq (tgt := 541) hx hb dL_law_534 (by decide) (fun hb4 => ?_) (fun hb4 => ?_)
      · refine lv_iconst (v := 0) hx hb dL_law_541 (by decide) ?_
        refine lv_aload_n hx hb dL_law_542 rfl (lv_at hl 3 rfl) ?_
        have hPc := hP.sub (ws' := [(h0, .inr (0, [.ref ab, .int (nI rc), .int (nI rl), .int (nI ps)])), (ab, .inl (cI, 4096, .inl f)), (oa, .inl (cL, 1, .inr (.inl o)))]) [0, 1, 5] rfl
        have hDc := hD.sub (ws' := [(h0, .inr (0, [.ref ab, .int (nI rc), .int (nI rl), .int (nI ps)])), (ab, .inl (cI, 4096, .inl f)), (oa, .inl (cL, 1, .inr (.inl o)))]) [0, 1, 5] (by decide) rfl
        have hKc := hK.sub (tys' := [(cI, .int), (cL, .long)]) [0, 3] rfl
        have hFc := va_free (wc := [(h0, .inr (0, [.ref ab, .int (nI rc), .int (nI rl), .int (nI ps)])), (ab, .inl (cI, 4096, .inl f)), (oa, .inl (cL, 1, .inr (.inl o)))]) hD hS hA [0, 1, 5] rfl
        refine va_calli (vx_runSW (As := [.ref h0, .int (nI k9), .int (nI w9), .int (nI h9), .int 0, .ref oa]) (rest := []) ⟨hx, hb, hml, hown, hts⟩ (c_L_pass l dC dI cI h0 ab rc rl ps f cL oa o H.size k9 w9 h9 0 hk hw1 hw2 hh1 hh2 t1 t2 t3 t4) (vx_cwSW 6 hts gL_law_L_pass rfl rfl rfl (by decide +kernel) ⟨Nat.le_of_ble_eq_true rfl, Nat.le_of_ble_eq_true rfl⟩) ⟨fun a U g mk q => by obtain ⟨q0, qZ, q1, qP, qK, qD⟩ := q; exact ⟨q0, rw_st.call qZ, q1, qP, va_K.moved (u := U) (U := U.calling g mk a) (Vm.Alike.refl U.vm) qK, qD⟩, fun U hU hW => ⟨rfl, rw_st.to hZ hS hU hW, by rw [hU], by rw [hU]; exact hPc, va_K.moved hW.alike hKc, hDc.weaken (fun _ _ _ _ => trivial)⟩⟩ rfl rfl hl.1 rfl (lv_room (Nat.le_of_ble_eq_true rfl)) dL_law_543 ⟨by show 6 + n + 0 ≤ 1031; omega, by show 12299 + 6 * n + 0 ≤ 20497; omega⟩) hS (fun q _ h => hFc q h) hFc (fun k u t9 H1 locs ht hvm ek hB hz1 hk1 hS => ?_)
        obtain ⟨hP1, hK1, hD1⟩ := hB
        rw [ht] at hP1
        obtain ⟨hP, hD⟩ := va_join (wr := [(h1, .inr (1, [.int fl, .int (nI rc), .int (nI rl), .int (nI ps), .ref b1, .ref b2])), (b1, .inl (cJ, 4096, .inl g)), (b2, .inl (cK, 4096, .inl t))]) (w1 := [(h0, .inr (0, [.ref ab, .int (nI rc), .int (nI rl), .int (nI ps)])), (ab, .inl (cI, 4096, .inl f)), (oa, .inl (cL, 1, .inr (.inl (vp_updL o 0 (rf_pr k9 w9 h9 0).toInt64))))]) hP hD [0, 1, 5] [2, 3, 4] rfl rfl (by decide) (by decide) hk1 hFc hP1 hD1
        generalize H1 = H at hP hS ⊢
        have hP := hP.sub (ws' := [(h0, .inr (0, [.ref ab, .int (nI rc), .int (nI rl), .int (nI ps)])), (ab, .inl (cI, 4096, .inl f)), (h1, .inr (1, [.int fl, .int (nI rc), .int (nI rl), .int (nI ps), .ref b1, .ref b2])), (b1, .inl (cJ, 4096, .inl g)), (b2, .inl (cK, 4096, .inl t)), (oa, .inl (cL, 1, .inr (.inl (vp_updL o 0 (rf_pr k9 w9 h9 0).toInt64))))]) [3, 4, 0, 1, 2, 5] rfl
        have hD := hD.sub (ws' := [(h0, .inr (0, [.ref ab, .int (nI rc), .int (nI rl), .int (nI ps)])), (ab, .inl (cI, 4096, .inl f)), (h1, .inr (1, [.int fl, .int (nI rc), .int (nI rl), .int (nI ps), .ref b1, .ref b2])), (b1, .inl (cJ, 4096, .inl g)), (b2, .inl (cK, 4096, .inl t)), (oa, .inl (cL, 1, .inr (.inl (vp_updL o 0 (rf_pr k9 w9 h9 0).toInt64))))]) [3, 4, 0, 1, 2, 5] (by decide) rfl
        have hP : va_P (dC, dI) rw_cl [(h0, .inr (0, [.ref ab, .int (nI rc), .int (nI rl), .int (nI ps)])), (ab, .inl (cI, 4096, .inl f)), (h1, .inr (1, [.int fl, .int (nI rc), .int (nI rl), .int (nI ps), .ref b1, .ref b2])), (b1, .inl (cJ, 4096, .inl g)), (b2, .inl (cK, 4096, .inl t)), (oa, .inl (cL, 1, .inr (.inl (vp_updL o 0 (rf_pr k9 w9 h9 0).toInt64))))] H := hP
        have hD : va_D A [(h0, .inr (0, [.ref ab, .int (nI rc), .int (nI rl), .int (nI ps)])), (ab, .inl (cI, 4096, .inl f)), (h1, .inr (1, [.int fl, .int (nI rc), .int (nI rl), .int (nI ps), .ref b1, .ref b2])), (b1, .inl (cJ, 4096, .inl g)), (b2, .inl (cK, 4096, .inl t)), (oa, .inl (cL, 1, .inr (.inl (vp_updL o 0 (rf_pr k9 w9 h9 0).toInt64))))] := hD
        refine W.widen (k := 6 + n) (n := 12299 + 6 * n) (Nat.le_refl _) (Nat.le_refl _) ?_
        subst ek
        refine lv_istore hx hb dL_law_546 hl (by decide) rfl (fun ls hl => ?_)
        have hl : lv_has ls 7 [(5, .int 0), (0, .ref b), (1, .ref h0), (2, .ref h1), (3, .ref oa), (4, .int (nI (5 * n)))] := hl
        refine lv_aload_n hx hb dL_law_548 rfl (lv_at hl 3 rfl) ?_
        refine lv_aload_n hx hb dL_law_549 rfl (lv_at hl 1 rfl) ?_
        refine lv_iload hx hb dL_law_550 (lv_at hl 5 rfl) ?_
        refine lv_iconst (v := 1) hx hb dL_law_552 (by decide) ?_
        refine lv_iadd hx hb dL_law_553 ?_
        refine W.eq (g2 := F0 m 554 ls [.int (nI (5 * n + 1)), .ref b, .ref h1]) (congrArg (fun z9 => F0 m 554 ls [.int z9, .ref b, .ref h1]) (show ((nI (5 * n)) + 1) = nI (5 * n + 1) from nI_add (5 * n) 1)) ?_
        refine va_sld hx hb hXs hbl hbA hS (vp_in_nI (by omega) (by omega)) dL_law_554 ?_
        refine W.eq (g2 := F0 m 555 ls [.int (nI k9), .ref h1]) (congrArg (fun z9 => F0 m 555 ls [.int z9, .ref h1]) (show (xs (nI (5 * n + 1)).toNatClampNeg) = (nI k9) from (show xs (nI (5 * n + 1)).toNatClampNeg = (nI k9) from by rw [nI_clamp (by omega)]; exact e1))) ?_
        refine lv_aload_n hx hb dL_law_555 rfl (lv_at hl 1 rfl) ?_
        refine lv_iload hx hb dL_law_556 (lv_at hl 5 rfl) ?_
        refine lv_iconst (v := 2) hx hb dL_law_558 (by decide) ?_
        refine lv_iadd hx hb dL_law_559 ?_
        refine W.eq (g2 := F0 m 560 ls [.int (nI (5 * n + 2)), .ref b, .int (nI k9), .ref h1]) (congrArg (fun z9 => F0 m 560 ls [.int z9, .ref b, .int (nI k9), .ref h1]) (show ((nI (5 * n)) + 2) = nI (5 * n + 2) from nI_add (5 * n) 2)) ?_
        refine va_sld hx hb hXs hbl hbA hS (vp_in_nI (by omega) (by omega)) dL_law_560 ?_
        refine W.eq (g2 := F0 m 561 ls [.int (nI w9), .int (nI k9), .ref h1]) (congrArg (fun z9 => F0 m 561 ls [.int z9, .int (nI k9), .ref h1]) (show (xs (nI (5 * n + 2)).toNatClampNeg) = (nI w9) from (show xs (nI (5 * n + 2)).toNatClampNeg = (nI w9) from by rw [nI_clamp (by omega)]; exact e2))) ?_
        refine lv_aload_n hx hb dL_law_561 rfl (lv_at hl 1 rfl) ?_
        refine lv_iload hx hb dL_law_562 (lv_at hl 5 rfl) ?_
        refine lv_iconst (v := 3) hx hb dL_law_564 (by decide) ?_
        refine lv_iadd hx hb dL_law_565 ?_
        refine W.eq (g2 := F0 m 566 ls [.int (nI (5 * n + 3)), .ref b, .int (nI w9), .int (nI k9), .ref h1]) (congrArg (fun z9 => F0 m 566 ls [.int z9, .ref b, .int (nI w9), .int (nI k9), .ref h1]) (show ((nI (5 * n)) + 3) = nI (5 * n + 3) from nI_add (5 * n) 3)) ?_
        refine va_sld hx hb hXs hbl hbA hS (vp_in_nI (by omega) (by omega)) dL_law_566 ?_
        refine W.eq (g2 := F0 m 567 ls [.int (nI h9), .int (nI w9), .int (nI k9), .ref h1]) (congrArg (fun z9 => F0 m 567 ls [.int z9, .int (nI w9), .int (nI k9), .ref h1]) (show (xs (nI (5 * n + 3)).toNatClampNeg) = (nI h9) from (show xs (nI (5 * n + 3)).toNatClampNeg = (nI h9) from by rw [nI_clamp (by omega)]; exact e3))) ?_
        refine lv_aload_n hx hb dL_law_567 rfl (lv_at hl 1 rfl) ?_
        refine lv_iload hx hb dL_law_568 (lv_at hl 5 rfl) ?_
        refine lv_iconst (v := 4) hx hb dL_law_570 (by decide) ?_
        refine lv_iadd hx hb dL_law_571 ?_
        refine W.eq (g2 := F0 m 572 ls [.int (nI (5 * n + 4)), .ref b, .int (nI h9), .int (nI w9), .int (nI k9), .ref h1]) (congrArg (fun z9 => F0 m 572 ls [.int z9, .ref b, .int (nI h9), .int (nI w9), .int (nI k9), .ref h1]) (show ((nI (5 * n)) + 4) = nI (5 * n + 4) from nI_add (5 * n) 4)) ?_
        refine va_sld hx hb hXs hbl hbA hS (vp_in_nI (by omega) (by omega)) dL_law_572 ?_
        refine W.eq (g2 := F0 m 573 ls [.int (xs (5 * n + 4)), .int (nI h9), .int (nI w9), .int (nI k9), .ref h1]) (congrArg (fun z9 => F0 m 573 ls [.int z9, .int (nI h9), .int (nI w9), .int (nI k9), .ref h1]) (show (xs (nI (5 * n + 4)).toNatClampNeg) = (xs (5 * n + 4)) from (show xs (nI (5 * n + 4)).toNatClampNeg = (xs (5 * n + 4)) from by rw [nI_clamp (by omega)]))) ?_
        refine lv_if_eq (tgt := 580) hx hb dL_law_573 (by decide) (fun hb4 => ?_) (fun hb4 => ?_)
        · refine lv_iconst (v := 0) hx hb dL_law_580 (by decide) ?_
          have hPc := hP.sub (ws' := [(h1, .inr (1, [.int fl, .int (nI rc), .int (nI rl), .int (nI ps), .ref b1, .ref b2])), (b1, .inl (cJ, 4096, .inl g)), (b2, .inl (cK, 4096, .inl t))]) [2, 3, 4] rfl
          have hDc := hD.sub (ws' := [(h1, .inr (1, [.int fl, .int (nI rc), .int (nI rl), .int (nI ps), .ref b1, .ref b2])), (b1, .inl (cJ, 4096, .inl g)), (b2, .inl (cK, 4096, .inl t))]) [2, 3, 4] (by decide) rfl
          have hKc := hK.sub (tys' := [(cJ, .int), (cK, .int)]) [1, 2] rfl
          have hFc := va_free (wc := [(h1, .inr (1, [.int fl, .int (nI rc), .int (nI rl), .int (nI ps), .ref b1, .ref b2])), (b1, .inl (cJ, 4096, .inl g)), (b2, .inl (cK, 4096, .inl t))]) hD hS hA [2, 3, 4] rfl
          refine va_calli (va_runV (C := RX1) (As := [.int (nI k9), .int (nI w9), .int (nI h9), .int 0]) (rest := []) ⟨hx, hb, hml, hown, htsY⟩ (c_Y1_pass l dC dI cJ cK h1 b1 b2 fl rc rl ps g t H.size k9 w9 h9 0 hk hw1 hw2 hh1 hh2) (cwV 4 htsY gL_law_Y1_pass rfl rfl rfl (by decide +kernel) ⟨Nat.le_of_ble_eq_true rfl, Nat.le_of_ble_eq_true rfl⟩) ⟨fun a U g mk q => by obtain ⟨q0, q1, qP, qK, qD⟩ := q; exact ⟨q0, q1, qP, va_K.moved (u := U) (U := U.calling g mk a) (Vm.Alike.refl U.vm) qK, qD⟩, va_recv hK hP (ci := 1) (q0 := 2) rfl rfl, fun U hU hW => ⟨rfl, by rw [hU], by rw [hU]; exact hPc, va_K.moved hW.alike hKc, hDc.weaken (fun _ _ _ _ => trivial)⟩⟩ rfl rfl hl.1 rfl (lv_room (Nat.le_of_ble_eq_true rfl)) dL_law_581 ⟨by show 6 + n + 0 ≤ 1031; omega, by show 12299 + 6 * n + 0 ≤ 20497; omega⟩) hS (fun q _ h => hFc q h) hFc (fun rb u t9 H1 locs ht hvm eb hB hz1 hk1 hS => ?_)
          obtain ⟨hP1, hK1, hD1⟩ := hB
          rw [ht] at hP1
          obtain ⟨hP, hD⟩ := va_join (wr := [(h0, .inr (0, [.ref ab, .int (nI rc), .int (nI rl), .int (nI ps)])), (ab, .inl (cI, 4096, .inl f)), (oa, .inl (cL, 1, .inr (.inl (vp_updL o 0 (rf_pr k9 w9 h9 0).toInt64))))]) (w1 := [(h1, .inr (1, [.int 0, .int (nI rc), .int (nI rl), .int (nI ps), .ref b1, .ref b2])), (b1, .inl (cJ, 4096, .inl g)), (b2, .inl (cK, 4096, .inl t))]) hP hD [2, 3, 4] [0, 1, 5] rfl rfl (by decide) (by decide) hk1 hFc hP1 hD1
          generalize H1 = H at hP hS ⊢
          have hP := hP.sub (ws' := [(h0, .inr (0, [.ref ab, .int (nI rc), .int (nI rl), .int (nI ps)])), (ab, .inl (cI, 4096, .inl f)), (h1, .inr (1, [.int 0, .int (nI rc), .int (nI rl), .int (nI ps), .ref b1, .ref b2])), (b1, .inl (cJ, 4096, .inl g)), (b2, .inl (cK, 4096, .inl t)), (oa, .inl (cL, 1, .inr (.inl (vp_updL o 0 (rf_pr k9 w9 h9 0).toInt64))))]) [0, 1, 3, 4, 5, 2] rfl
          have hD := hD.sub (ws' := [(h0, .inr (0, [.ref ab, .int (nI rc), .int (nI rl), .int (nI ps)])), (ab, .inl (cI, 4096, .inl f)), (h1, .inr (1, [.int 0, .int (nI rc), .int (nI rl), .int (nI ps), .ref b1, .ref b2])), (b1, .inl (cJ, 4096, .inl g)), (b2, .inl (cK, 4096, .inl t)), (oa, .inl (cL, 1, .inr (.inl (vp_updL o 0 (rf_pr k9 w9 h9 0).toInt64))))]) [0, 1, 3, 4, 5, 2] (by decide) rfl
          have hP : va_P (dC, dI) rw_cl [(h0, .inr (0, [.ref ab, .int (nI rc), .int (nI rl), .int (nI ps)])), (ab, .inl (cI, 4096, .inl f)), (h1, .inr (1, [.int 0, .int (nI rc), .int (nI rl), .int (nI ps), .ref b1, .ref b2])), (b1, .inl (cJ, 4096, .inl g)), (b2, .inl (cK, 4096, .inl t)), (oa, .inl (cL, 1, .inr (.inl (vp_updL o 0 (rf_pr k9 w9 h9 0).toInt64))))] H := hP
          have hD : va_D A [(h0, .inr (0, [.ref ab, .int (nI rc), .int (nI rl), .int (nI ps)])), (ab, .inl (cI, 4096, .inl f)), (h1, .inr (1, [.int 0, .int (nI rc), .int (nI rl), .int (nI ps), .ref b1, .ref b2])), (b1, .inl (cJ, 4096, .inl g)), (b2, .inl (cK, 4096, .inl t)), (oa, .inl (cL, 1, .inr (.inl (vp_updL o 0 (rf_pr k9 w9 h9 0).toInt64))))] := hD
          refine W.widen (k := 6 + n) (n := 12299 + 6 * n) (Nat.le_refl _) (Nat.le_refl _) ?_
          subst eb
          refine lv_istore hx hb dL_law_584 hl (by decide) rfl (fun ls hl => ?_)
          have hl : lv_has ls 7 [(6, .int (rf_pr k9 w9 h9 0)), (5, .int 0), (0, .ref b), (1, .ref h0), (2, .ref h1), (3, .ref oa), (4, .int (nI (5 * n)))] := hl
          refine lv_aload_n hx hb dL_law_586 rfl (lv_at hl 4 rfl) ?_
          have hPc := hP.sub (ws' := [(h1, .inr (1, [.int 0, .int (nI rc), .int (nI rl), .int (nI ps), .ref b1, .ref b2])), (b1, .inl (cJ, 4096, .inl g)), (b2, .inl (cK, 4096, .inl t))]) [2, 3, 4] rfl
          have hKc := hK.sub (tys' := [(cJ, .int), (cK, .int)]) [1, 2] rfl
          refine vp_callSi (W.runV (C := RX1) (As := []) (rest := []) ⟨hx, hb, hml, hown, htsY⟩ (c_Y1_thrown l dC dI cJ cK h1 b1 b2 0 rc rl ps g t ) (cwV 0 htsY gL_law_Y1_thrown rfl rfl rfl (by decide +kernel) ⟨Nat.le_of_ble_eq_true rfl, Nat.le_of_ble_eq_true rfl⟩) ⟨fun a U g mk q => by obtain ⟨q0, qP, qK⟩ := q; exact ⟨q0, qP, va_K.moved (u := U) (U := U.calling g mk a) (Vm.Alike.refl U.vm) qK⟩, va_recv hK hP (ci := 1) (q0 := 2) rfl rfl, fun U hU hW => ⟨rfl, by rw [hU]; exact hPc, va_K.moved hW.alike hKc⟩⟩ rfl rfl hl.1 rfl (lv_room (Nat.le_of_ble_eq_true rfl)) dL_law_587 ⟨by show 6 + n + 0 ≤ 1031; omega, by show 12299 + 6 * n + 0 ≤ 20497; omega⟩) (fun rt et => ?_)
          subst et
          refine lv_iload hx hb dL_law_590 (lv_at hl 1 rfl) ?_
          refine lv_icmp_eq (tgt := 597) hx hb dL_law_592 (by decide) (fun hq => ?_) (fun hq => ?_)
          · refine lv_iload hx hb dL_law_597 (lv_at hl 1 rfl) ?_
            refine lv_if_ne (tgt := 614) hx hb dL_law_599 (by decide) (fun hz => ?_) (fun hz => ?_)
            · exact absurd (rfl : (0 : Int32) = 0) hz
            · refine lv_aload_n hx hb dL_law_602 rfl (lv_at hl 5 rfl) ?_
              refine lv_iconst (v := 0) hx hb dL_law_603 (by decide) ?_
              refine va_lald hx hb hK hP 5 3 rfl rfl (vp_in_nI (n := 0) (by omega) (by omega)) dL_law_604 ?_
              refine lv_topl (fun v9 e9 => ?_)
              have e8 : v9 = ((rf_pr k9 w9 h9 0)).toInt64 := e9.trans ((show (vp_updL o 0 (rf_pr k9 w9 h9 0).toInt64) (0 : Int32).toNatClampNeg = (rf_pr k9 w9 h9 0).toInt64 from by rw [show (0 : Int32).toNatClampNeg = 0 from by decide]; exact if_pos rfl).trans (congrArg Int32.toInt64 (rfl)))
              refine lv_iload hx hb dL_law_605 (lv_at hl 0 rfl) ?_
              refine lv_i2l hx hb dL_law_607 rfl ?_
              refine W.lcmp hx hb dL_law_608 ?_
              refine lv_if_eq (tgt := 614) hx hb dL_law_609 (by decide) (fun hw => ?_) (fun hw => ?_)
              · refine lv_goto (tgt := 685) hx hb dL_law_614 (by decide) ?_
                refine lv_iinc (k := 6) (v := (nI (5 * (n + 1)))) hx hb dL_law_685 hl rfl (show nI (5 * n) + nI 5 = nI (5 * (n + 1)) from (nI_add _ _).trans (congrArg nI (by omega))) (by decide) rfl (fun ls hl => ?_)
                have hl : lv_has ls 7 [(4, .int (nI (5 * (n + 1)))), (6, .int (rf_pr k9 w9 h9 0)), (5, .int 0), (0, .ref b), (1, .ref h0), (2, .ref h1), (3, .ref oa)] := hl
                refine lv_goto (tgt := 23) hx hb dL_law_688 (by decide) ?_
                refine W.widen (k := 6 + (n + 1)) (n := 12299 + 6 * (n + 1)) (by omega) (by omega) ?_
                exact ih _ _ _ ⟨rc, rl, ps, f, 0, g, t, (vp_updL o 0 (rf_pr k9 w9 h9 0).toInt64), ok, hR, lv_sub hl [3, 4, 5, 6, 0] rfl, hP, hD, hS⟩
              · exact absurd (by rw [e8]; exact rf_cmp _) hw
          · exact absurd (rfl : (0 : Int32) = 0) hq
        · exact absurd hz4 hb4
      · exact absurd hz4 hb4
  · by_cases hc9 : rf_pw (xs (5 * n + 1)) (xs (5 * n + 2)) (xs (5 * n + 3))
    · refine lv_aload_n hx hb dL_law_509 rfl (lv_at hl 1 rfl) ?_
      refine lv_aload_n hx hb dL_law_510 rfl (lv_at hl 0 rfl) ?_
      refine lv_iload hx hb dL_law_511 (lv_at hl 4 rfl) ?_
      refine lv_iconst (v := 1) hx hb dL_law_513 (by decide) ?_
      refine lv_iadd hx hb dL_law_514 ?_
      refine W.eq (g2 := F0 m 515 ls [.int (nI (5 * n + 1)), .ref b, .ref h0]) (congrArg (fun z9 => F0 m 515 ls [.int z9, .ref b, .ref h0]) (show ((nI (5 * n)) + 1) = nI (5 * n + 1) from nI_add (5 * n) 1)) ?_
      refine va_sld hx hb hXs hbl hbA hS (vp_in_nI (by omega) (by omega)) dL_law_515 ?_
      refine W.eq (g2 := F0 m 516 ls [.int (xs (5 * n + 1)), .ref h0]) (congrArg (fun z9 => F0 m 516 ls [.int z9, .ref h0]) (show (xs (nI (5 * n + 1)).toNatClampNeg) = (xs (5 * n + 1)) from (show xs (nI (5 * n + 1)).toNatClampNeg = (xs (5 * n + 1)) from by rw [nI_clamp (by omega)]))) ?_
      refine lv_aload_n hx hb dL_law_516 rfl (lv_at hl 0 rfl) ?_
      refine lv_iload hx hb dL_law_517 (lv_at hl 4 rfl) ?_
      refine lv_iconst (v := 2) hx hb dL_law_519 (by decide) ?_
      refine lv_iadd hx hb dL_law_520 ?_
      refine W.eq (g2 := F0 m 521 ls [.int (nI (5 * n + 2)), .ref b, .int (xs (5 * n + 1)), .ref h0]) (congrArg (fun z9 => F0 m 521 ls [.int z9, .ref b, .int (xs (5 * n + 1)), .ref h0]) (show ((nI (5 * n)) + 2) = nI (5 * n + 2) from nI_add (5 * n) 2)) ?_
      refine va_sld hx hb hXs hbl hbA hS (vp_in_nI (by omega) (by omega)) dL_law_521 ?_
      refine W.eq (g2 := F0 m 522 ls [.int (xs (5 * n + 2)), .int (xs (5 * n + 1)), .ref h0]) (congrArg (fun z9 => F0 m 522 ls [.int z9, .int (xs (5 * n + 1)), .ref h0]) (show (xs (nI (5 * n + 2)).toNatClampNeg) = (xs (5 * n + 2)) from (show xs (nI (5 * n + 2)).toNatClampNeg = (xs (5 * n + 2)) from by rw [nI_clamp (by omega)]))) ?_
      refine lv_aload_n hx hb dL_law_522 rfl (lv_at hl 0 rfl) ?_
      refine lv_iload hx hb dL_law_523 (lv_at hl 4 rfl) ?_
      refine lv_iconst (v := 3) hx hb dL_law_525 (by decide) ?_
      refine lv_iadd hx hb dL_law_526 ?_
      refine W.eq (g2 := F0 m 527 ls [.int (nI (5 * n + 3)), .ref b, .int (xs (5 * n + 2)), .int (xs (5 * n + 1)), .ref h0]) (congrArg (fun z9 => F0 m 527 ls [.int z9, .ref b, .int (xs (5 * n + 2)), .int (xs (5 * n + 1)), .ref h0]) (show ((nI (5 * n)) + 3) = nI (5 * n + 3) from nI_add (5 * n) 3)) ?_
      refine va_sld hx hb hXs hbl hbA hS (vp_in_nI (by omega) (by omega)) dL_law_527 ?_
      refine W.eq (g2 := F0 m 528 ls [.int (xs (5 * n + 3)), .int (xs (5 * n + 2)), .int (xs (5 * n + 1)), .ref h0]) (congrArg (fun z9 => F0 m 528 ls [.int z9, .int (xs (5 * n + 2)), .int (xs (5 * n + 1)), .ref h0]) (show (xs (nI (5 * n + 3)).toNatClampNeg) = (xs (5 * n + 3)) from (show xs (nI (5 * n + 3)).toNatClampNeg = (xs (5 * n + 3)) from by rw [nI_clamp (by omega)]))) ?_
      refine lv_aload_n hx hb dL_law_528 rfl (lv_at hl 0 rfl) ?_
      refine lv_iload hx hb dL_law_529 (lv_at hl 4 rfl) ?_
      refine lv_iconst (v := 4) hx hb dL_law_531 (by decide) ?_
      refine lv_iadd hx hb dL_law_532 ?_
      refine W.eq (g2 := F0 m 533 ls [.int (nI (5 * n + 4)), .ref b, .int (xs (5 * n + 3)), .int (xs (5 * n + 2)), .int (xs (5 * n + 1)), .ref h0]) (congrArg (fun z9 => F0 m 533 ls [.int z9, .ref b, .int (xs (5 * n + 3)), .int (xs (5 * n + 2)), .int (xs (5 * n + 1)), .ref h0]) (show ((nI (5 * n)) + 4) = nI (5 * n + 4) from nI_add (5 * n) 4)) ?_
      refine va_sld hx hb hXs hbl hbA hS (vp_in_nI (by omega) (by omega)) dL_law_533 ?_
      refine W.eq (g2 := F0 m 534 ls [.int (xs (5 * n + 4)), .int (xs (5 * n + 3)), .int (xs (5 * n + 2)), .int (xs (5 * n + 1)), .ref h0]) (congrArg (fun z9 => F0 m 534 ls [.int z9, .int (xs (5 * n + 3)), .int (xs (5 * n + 2)), .int (xs (5 * n + 1)), .ref h0]) (show (xs (nI (5 * n + 4)).toNatClampNeg) = (xs (5 * n + 4)) from (show xs (nI (5 * n + 4)).toNatClampNeg = (xs (5 * n + 4)) from by rw [nI_clamp (by omega)]))) ?_
      refine lv_if_eq (tgt := 541) hx hb dL_law_534 (by decide) (fun hb4 => ?_) (fun hb4 => ?_)
      · exact absurd hb4 hz4
      · refine lv_iconst (v := 1) hx hb dL_law_537 (by decide) ?_
        refine lv_goto (tgt := 542) hx hb dL_law_538 (by decide) ?_
        refine lv_aload_n hx hb dL_law_542 rfl (lv_at hl 3 rfl) ?_
        have hPc := hP.sub (ws' := [(h0, .inr (0, [.ref ab, .int (nI rc), .int (nI rl), .int (nI ps)])), (ab, .inl (cI, 4096, .inl f)), (oa, .inl (cL, 1, .inr (.inl o)))]) [0, 1, 5] rfl
        have hDc := hD.sub (ws' := [(h0, .inr (0, [.ref ab, .int (nI rc), .int (nI rl), .int (nI ps)])), (ab, .inl (cI, 4096, .inl f)), (oa, .inl (cL, 1, .inr (.inl o)))]) [0, 1, 5] (by decide) rfl
        have hKc := hK.sub (tys' := [(cI, .int), (cL, .long)]) [0, 3] rfl
        have hFc := va_free (wc := [(h0, .inr (0, [.ref ab, .int (nI rc), .int (nI rl), .int (nI ps)])), (ab, .inl (cI, 4096, .inl f)), (oa, .inl (cL, 1, .inr (.inl o)))]) hD hS hA [0, 1, 5] rfl
        refine va_calli (vx_runSW (As := [.ref h0, .int (xs (5 * n + 1)), .int (xs (5 * n + 2)), .int (xs (5 * n + 3)), .int 1, .ref oa]) (rest := []) ⟨hx, hb, hml, hown, hts⟩ (c_L_pass_bad l hl9 sa dC dI cI h0 ab rc rl ps f cL oa o H.size (xs (5 * n + 1)) (xs (5 * n + 2)) (xs (5 * n + 3)) 1 hc9) (vx_cwSW 6 hts gL_law_L_pass rfl rfl rfl (by decide +kernel) ⟨Nat.le_of_ble_eq_true rfl, Nat.le_of_ble_eq_true rfl⟩) ⟨fun a U g mk q => by obtain ⟨q0, qX, q1, qP, qK, qD⟩ := q; exact ⟨q0, rw_XA.call qX, q1, qP, va_K.moved (u := U) (U := U.calling g mk a) (Vm.Alike.refl U.vm) qK, qD⟩, fun U hU hW => ⟨rfl, rw_XA.to hX hS (fun q z => hA q (Nat.le_trans hS.1 z)) hU hW, by rw [hU], by rw [hU]; exact hPc, va_K.moved hW.alike hKc, hDc.weaken (fun _ _ _ _ => trivial)⟩⟩ rfl rfl hl.1 rfl (lv_room (Nat.le_of_ble_eq_true rfl)) dL_law_543 ⟨by show 6 + n + 1 ≤ 1031; omega, by show 12299 + 6 * n + 6 ≤ 20497; omega⟩) hS (fun q _ h => hFc q h) hFc (fun k u t9 H1 locs ht hvm ek hB hz1 hk1 hS => ?_)
        obtain ⟨hP1, hK1, hD1⟩ := hB
        rw [ht] at hP1
        obtain ⟨hP, hD⟩ := va_join (wr := [(h1, .inr (1, [.int fl, .int (nI rc), .int (nI rl), .int (nI ps), .ref b1, .ref b2])), (b1, .inl (cJ, 4096, .inl g)), (b2, .inl (cK, 4096, .inl t))]) (w1 := [(h0, .inr (0, [.ref ab, .int (nI rc), .int (nI rl), .int (nI ps)])), (ab, .inl (cI, 4096, .inl f)), (oa, .inl (cL, 1, .inr (.inl o)))]) hP hD [0, 1, 5] [2, 3, 4] rfl rfl (by decide) (by decide) hk1 hFc hP1 hD1
        generalize H1 = H at hP hS ⊢
        have hP := hP.sub (ws' := [(h0, .inr (0, [.ref ab, .int (nI rc), .int (nI rl), .int (nI ps)])), (ab, .inl (cI, 4096, .inl f)), (h1, .inr (1, [.int fl, .int (nI rc), .int (nI rl), .int (nI ps), .ref b1, .ref b2])), (b1, .inl (cJ, 4096, .inl g)), (b2, .inl (cK, 4096, .inl t)), (oa, .inl (cL, 1, .inr (.inl o)))]) [3, 4, 0, 1, 2, 5] rfl
        have hD := hD.sub (ws' := [(h0, .inr (0, [.ref ab, .int (nI rc), .int (nI rl), .int (nI ps)])), (ab, .inl (cI, 4096, .inl f)), (h1, .inr (1, [.int fl, .int (nI rc), .int (nI rl), .int (nI ps), .ref b1, .ref b2])), (b1, .inl (cJ, 4096, .inl g)), (b2, .inl (cK, 4096, .inl t)), (oa, .inl (cL, 1, .inr (.inl o)))]) [3, 4, 0, 1, 2, 5] (by decide) rfl
        have hP : va_P (dC, dI) rw_cl [(h0, .inr (0, [.ref ab, .int (nI rc), .int (nI rl), .int (nI ps)])), (ab, .inl (cI, 4096, .inl f)), (h1, .inr (1, [.int fl, .int (nI rc), .int (nI rl), .int (nI ps), .ref b1, .ref b2])), (b1, .inl (cJ, 4096, .inl g)), (b2, .inl (cK, 4096, .inl t)), (oa, .inl (cL, 1, .inr (.inl o)))] H := hP
        have hD : va_D A [(h0, .inr (0, [.ref ab, .int (nI rc), .int (nI rl), .int (nI ps)])), (ab, .inl (cI, 4096, .inl f)), (h1, .inr (1, [.int fl, .int (nI rc), .int (nI rl), .int (nI ps), .ref b1, .ref b2])), (b1, .inl (cJ, 4096, .inl g)), (b2, .inl (cK, 4096, .inl t)), (oa, .inl (cL, 1, .inr (.inl o)))] := hD
        subst ek
        refine lv_istore hx hb dL_law_546 hl (by decide) rfl (fun ls hl => ?_)
        have hl : lv_has ls 7 [(5, .int 1), (0, .ref b), (1, .ref h0), (2, .ref h1), (3, .ref oa), (4, .int (nI (5 * n)))] := hl
        refine lv_aload_n hx hb dL_law_548 rfl (lv_at hl 3 rfl) ?_
        refine lv_aload_n hx hb dL_law_549 rfl (lv_at hl 1 rfl) ?_
        refine lv_iload hx hb dL_law_550 (lv_at hl 5 rfl) ?_
        refine lv_iconst (v := 1) hx hb dL_law_552 (by decide) ?_
        refine lv_iadd hx hb dL_law_553 ?_
        refine W.eq (g2 := F0 m 554 ls [.int (nI (5 * n + 1)), .ref b, .ref h1]) (congrArg (fun z9 => F0 m 554 ls [.int z9, .ref b, .ref h1]) (show ((nI (5 * n)) + 1) = nI (5 * n + 1) from nI_add (5 * n) 1)) ?_
        refine va_sld hx hb hXs hbl hbA hS (vp_in_nI (by omega) (by omega)) dL_law_554 ?_
        refine W.eq (g2 := F0 m 555 ls [.int (xs (5 * n + 1)), .ref h1]) (congrArg (fun z9 => F0 m 555 ls [.int z9, .ref h1]) (show (xs (nI (5 * n + 1)).toNatClampNeg) = (xs (5 * n + 1)) from (show xs (nI (5 * n + 1)).toNatClampNeg = (xs (5 * n + 1)) from by rw [nI_clamp (by omega)]))) ?_
        refine lv_aload_n hx hb dL_law_555 rfl (lv_at hl 1 rfl) ?_
        refine lv_iload hx hb dL_law_556 (lv_at hl 5 rfl) ?_
        refine lv_iconst (v := 2) hx hb dL_law_558 (by decide) ?_
        refine lv_iadd hx hb dL_law_559 ?_
        refine W.eq (g2 := F0 m 560 ls [.int (nI (5 * n + 2)), .ref b, .int (xs (5 * n + 1)), .ref h1]) (congrArg (fun z9 => F0 m 560 ls [.int z9, .ref b, .int (xs (5 * n + 1)), .ref h1]) (show ((nI (5 * n)) + 2) = nI (5 * n + 2) from nI_add (5 * n) 2)) ?_
        refine va_sld hx hb hXs hbl hbA hS (vp_in_nI (by omega) (by omega)) dL_law_560 ?_
        refine W.eq (g2 := F0 m 561 ls [.int (xs (5 * n + 2)), .int (xs (5 * n + 1)), .ref h1]) (congrArg (fun z9 => F0 m 561 ls [.int z9, .int (xs (5 * n + 1)), .ref h1]) (show (xs (nI (5 * n + 2)).toNatClampNeg) = (xs (5 * n + 2)) from (show xs (nI (5 * n + 2)).toNatClampNeg = (xs (5 * n + 2)) from by rw [nI_clamp (by omega)]))) ?_
        refine lv_aload_n hx hb dL_law_561 rfl (lv_at hl 1 rfl) ?_
        refine lv_iload hx hb dL_law_562 (lv_at hl 5 rfl) ?_
        refine lv_iconst (v := 3) hx hb dL_law_564 (by decide) ?_
        refine lv_iadd hx hb dL_law_565 ?_
        refine W.eq (g2 := F0 m 566 ls [.int (nI (5 * n + 3)), .ref b, .int (xs (5 * n + 2)), .int (xs (5 * n + 1)), .ref h1]) (congrArg (fun z9 => F0 m 566 ls [.int z9, .ref b, .int (xs (5 * n + 2)), .int (xs (5 * n + 1)), .ref h1]) (show ((nI (5 * n)) + 3) = nI (5 * n + 3) from nI_add (5 * n) 3)) ?_
        refine va_sld hx hb hXs hbl hbA hS (vp_in_nI (by omega) (by omega)) dL_law_566 ?_
        refine W.eq (g2 := F0 m 567 ls [.int (xs (5 * n + 3)), .int (xs (5 * n + 2)), .int (xs (5 * n + 1)), .ref h1]) (congrArg (fun z9 => F0 m 567 ls [.int z9, .int (xs (5 * n + 2)), .int (xs (5 * n + 1)), .ref h1]) (show (xs (nI (5 * n + 3)).toNatClampNeg) = (xs (5 * n + 3)) from (show xs (nI (5 * n + 3)).toNatClampNeg = (xs (5 * n + 3)) from by rw [nI_clamp (by omega)]))) ?_
        refine lv_aload_n hx hb dL_law_567 rfl (lv_at hl 1 rfl) ?_
        refine lv_iload hx hb dL_law_568 (lv_at hl 5 rfl) ?_
        refine lv_iconst (v := 4) hx hb dL_law_570 (by decide) ?_
        refine lv_iadd hx hb dL_law_571 ?_
        refine W.eq (g2 := F0 m 572 ls [.int (nI (5 * n + 4)), .ref b, .int (xs (5 * n + 3)), .int (xs (5 * n + 2)), .int (xs (5 * n + 1)), .ref h1]) (congrArg (fun z9 => F0 m 572 ls [.int z9, .ref b, .int (xs (5 * n + 3)), .int (xs (5 * n + 2)), .int (xs (5 * n + 1)), .ref h1]) (show ((nI (5 * n)) + 4) = nI (5 * n + 4) from nI_add (5 * n) 4)) ?_
        refine va_sld hx hb hXs hbl hbA hS (vp_in_nI (by omega) (by omega)) dL_law_572 ?_
        refine W.eq (g2 := F0 m 573 ls [.int (xs (5 * n + 4)), .int (xs (5 * n + 3)), .int (xs (5 * n + 2)), .int (xs (5 * n + 1)), .ref h1]) (congrArg (fun z9 => F0 m 573 ls [.int z9, .int (xs (5 * n + 3)), .int (xs (5 * n + 2)), .int (xs (5 * n + 1)), .ref h1]) (show (xs (nI (5 * n + 4)).toNatClampNeg) = (xs (5 * n + 4)) from (show xs (nI (5 * n + 4)).toNatClampNeg = (xs (5 * n + 4)) from by rw [nI_clamp (by omega)]))) ?_
        refine lv_if_eq (tgt := 580) hx hb dL_law_573 (by decide) (fun hb4 => ?_) (fun hb4 => ?_)
        · exact absurd hb4 hz4
        · refine lv_iconst (v := 1) hx hb dL_law_576 (by decide) ?_
          refine lv_goto (tgt := 581) hx hb dL_law_577 (by decide) ?_
          have hPc := hP.sub (ws' := [(h1, .inr (1, [.int fl, .int (nI rc), .int (nI rl), .int (nI ps), .ref b1, .ref b2])), (b1, .inl (cJ, 4096, .inl g)), (b2, .inl (cK, 4096, .inl t))]) [2, 3, 4] rfl
          have hDc := hD.sub (ws' := [(h1, .inr (1, [.int fl, .int (nI rc), .int (nI rl), .int (nI ps), .ref b1, .ref b2])), (b1, .inl (cJ, 4096, .inl g)), (b2, .inl (cK, 4096, .inl t))]) [2, 3, 4] (by decide) rfl
          have hKc := hK.sub (tys' := [(cJ, .int), (cK, .int)]) [1, 2] rfl
          have hFc := va_free (wc := [(h1, .inr (1, [.int fl, .int (nI rc), .int (nI rl), .int (nI ps), .ref b1, .ref b2])), (b1, .inl (cJ, 4096, .inl g)), (b2, .inl (cK, 4096, .inl t))]) hD hS hA [2, 3, 4] rfl
          refine va_calli (va_runV (C := RX1) (As := [.int (xs (5 * n + 1)), .int (xs (5 * n + 2)), .int (xs (5 * n + 3)), .int 1]) (rest := []) ⟨hx, hb, hml, hown, htsY⟩ (c_Y1_pass_bad l dC dI cJ cK h1 b1 b2 fl rc rl ps g t H.size (xs (5 * n + 1)) (xs (5 * n + 2)) (xs (5 * n + 3)) 1 hc9) (cwV 4 htsY gL_law_Y1_pass rfl rfl rfl (by decide +kernel) ⟨Nat.le_of_ble_eq_true rfl, Nat.le_of_ble_eq_true rfl⟩) ⟨fun a U g mk q => by obtain ⟨q0, q1, qP, qK, qD⟩ := q; exact ⟨q0, q1, qP, va_K.moved (u := U) (U := U.calling g mk a) (Vm.Alike.refl U.vm) qK, qD⟩, va_recv hK hP (ci := 1) (q0 := 2) rfl rfl, fun U hU hW => ⟨rfl, by rw [hU], by rw [hU]; exact hPc, va_K.moved hW.alike hKc, hDc.weaken (fun _ _ _ _ => trivial)⟩⟩ rfl rfl hl.1 rfl (lv_room (Nat.le_of_ble_eq_true rfl)) dL_law_581 ⟨by show 6 + n + 1 + 0 ≤ 1031; omega, by show 12299 + 6 * n + 6 + 0 ≤ 20497; omega⟩) hS (fun q _ h => hFc q h) hFc (fun rb u t9 H1 locs ht hvm eb hB hz1 hk1 hS => ?_)
          obtain ⟨hP1, hK1, hD1⟩ := hB
          rw [ht] at hP1
          obtain ⟨hP, hD⟩ := va_join (wr := [(h0, .inr (0, [.ref ab, .int (nI rc), .int (nI rl), .int (nI ps)])), (ab, .inl (cI, 4096, .inl f)), (oa, .inl (cL, 1, .inr (.inl o)))]) (w1 := [(h1, .inr (1, [.int 1, .int (nI rc), .int (nI rl), .int (nI ps), .ref b1, .ref b2])), (b1, .inl (cJ, 4096, .inl g)), (b2, .inl (cK, 4096, .inl t))]) hP hD [2, 3, 4] [0, 1, 5] rfl rfl (by decide) (by decide) hk1 hFc hP1 hD1
          generalize H1 = H at hP hS ⊢
          have hP := hP.sub (ws' := [(h0, .inr (0, [.ref ab, .int (nI rc), .int (nI rl), .int (nI ps)])), (ab, .inl (cI, 4096, .inl f)), (h1, .inr (1, [.int 1, .int (nI rc), .int (nI rl), .int (nI ps), .ref b1, .ref b2])), (b1, .inl (cJ, 4096, .inl g)), (b2, .inl (cK, 4096, .inl t)), (oa, .inl (cL, 1, .inr (.inl o)))]) [0, 1, 3, 4, 5, 2] rfl
          have hD := hD.sub (ws' := [(h0, .inr (0, [.ref ab, .int (nI rc), .int (nI rl), .int (nI ps)])), (ab, .inl (cI, 4096, .inl f)), (h1, .inr (1, [.int 1, .int (nI rc), .int (nI rl), .int (nI ps), .ref b1, .ref b2])), (b1, .inl (cJ, 4096, .inl g)), (b2, .inl (cK, 4096, .inl t)), (oa, .inl (cL, 1, .inr (.inl o)))]) [0, 1, 3, 4, 5, 2] (by decide) rfl
          have hP : va_P (dC, dI) rw_cl [(h0, .inr (0, [.ref ab, .int (nI rc), .int (nI rl), .int (nI ps)])), (ab, .inl (cI, 4096, .inl f)), (h1, .inr (1, [.int 1, .int (nI rc), .int (nI rl), .int (nI ps), .ref b1, .ref b2])), (b1, .inl (cJ, 4096, .inl g)), (b2, .inl (cK, 4096, .inl t)), (oa, .inl (cL, 1, .inr (.inl o)))] H := hP
          have hD : va_D A [(h0, .inr (0, [.ref ab, .int (nI rc), .int (nI rl), .int (nI ps)])), (ab, .inl (cI, 4096, .inl f)), (h1, .inr (1, [.int 1, .int (nI rc), .int (nI rl), .int (nI ps), .ref b1, .ref b2])), (b1, .inl (cJ, 4096, .inl g)), (b2, .inl (cK, 4096, .inl t)), (oa, .inl (cL, 1, .inr (.inl o)))] := hD
          refine W.widen (k := 6 + n + 1) (n := 12299 + 6 * n + 6) (Nat.le_refl _) (Nat.le_refl _) ?_
          refine lv_istore hx hb dL_law_584 hl (by decide) rfl (fun ls hl => ?_)
          have hl : lv_has ls 7 [(6, .int rb), (5, .int 1), (0, .ref b), (1, .ref h0), (2, .ref h1), (3, .ref oa), (4, .int (nI (5 * n)))] := hl
          refine lv_aload_n hx hb dL_law_586 rfl (lv_at hl 4 rfl) ?_
          have hPc := hP.sub (ws' := [(h1, .inr (1, [.int 1, .int (nI rc), .int (nI rl), .int (nI ps), .ref b1, .ref b2])), (b1, .inl (cJ, 4096, .inl g)), (b2, .inl (cK, 4096, .inl t))]) [2, 3, 4] rfl
          have hKc := hK.sub (tys' := [(cJ, .int), (cK, .int)]) [1, 2] rfl
          refine vp_callSi (W.runV (C := RX1) (As := []) (rest := []) ⟨hx, hb, hml, hown, htsY⟩ (c_Y1_thrown l dC dI cJ cK h1 b1 b2 1 rc rl ps g t ) (cwV 0 htsY gL_law_Y1_thrown rfl rfl rfl (by decide +kernel) ⟨Nat.le_of_ble_eq_true rfl, Nat.le_of_ble_eq_true rfl⟩) ⟨fun a U g mk q => by obtain ⟨q0, qP, qK⟩ := q; exact ⟨q0, qP, va_K.moved (u := U) (U := U.calling g mk a) (Vm.Alike.refl U.vm) qK⟩, va_recv hK hP (ci := 1) (q0 := 2) rfl rfl, fun U hU hW => ⟨rfl, by rw [hU]; exact hPc, va_K.moved hW.alike hKc⟩⟩ rfl rfl hl.1 rfl (lv_room (Nat.le_of_ble_eq_true rfl)) dL_law_587 ⟨by show 6 + n + 1 + 0 ≤ 1031; omega, by show 12299 + 6 * n + 6 + 0 ≤ 20497; omega⟩) (fun rt et => ?_)
          subst et
          refine lv_iload hx hb dL_law_590 (lv_at hl 1 rfl) ?_
          refine lv_icmp_eq (tgt := 597) hx hb dL_law_592 (by decide) (fun hq => ?_) (fun hq => ?_)
          · refine lv_iload hx hb dL_law_597 (lv_at hl 1 rfl) ?_
            refine lv_if_ne (tgt := 614) hx hb dL_law_599 (by decide) (fun hz => ?_) (fun hz => ?_)
            · refine lv_goto (tgt := 685) hx hb dL_law_614 (by decide) ?_
              refine lv_iinc (k := 6) (v := (nI (5 * (n + 1)))) hx hb dL_law_685 hl rfl (show nI (5 * n) + nI 5 = nI (5 * (n + 1)) from (nI_add _ _).trans (congrArg nI (by omega))) (by decide) rfl (fun ls hl => ?_)
              have hl : lv_has ls 7 [(4, .int (nI (5 * (n + 1)))), (6, .int rb), (5, .int 1), (0, .ref b), (1, .ref h0), (2, .ref h1), (3, .ref oa)] := hl
              refine lv_goto (tgt := 23) hx hb dL_law_688 (by decide) ?_
              refine W.widen (k := 6 + (n + 1)) (n := 12299 + 6 * (n + 1)) (by omega) (by omega) ?_
              exact ih _ _ _ ⟨rc, rl, ps, f, 1, g, t, o, ok, hR, lv_sub hl [3, 4, 5, 6, 0] rfl, hP, hD, hS⟩
            · exact absurd hz (by decide)
          · exact absurd (rfl : (1 : Int32) = 1) hq
    · obtain ⟨k9, w9, h9, e1, e2, e3, hk, hw1, hw2, hh1, hh2⟩ := rf_pw_ok hc9
      refine lv_aload_n hx hb dL_law_509 rfl (lv_at hl 1 rfl) ?_
      refine lv_aload_n hx hb dL_law_510 rfl (lv_at hl 0 rfl) ?_
      refine lv_iload hx hb dL_law_511 (lv_at hl 4 rfl) ?_
      refine lv_iconst (v := 1) hx hb dL_law_513 (by decide) ?_
      refine lv_iadd hx hb dL_law_514 ?_
      refine W.eq (g2 := F0 m 515 ls [.int (nI (5 * n + 1)), .ref b, .ref h0]) (congrArg (fun z9 => F0 m 515 ls [.int z9, .ref b, .ref h0]) (show ((nI (5 * n)) + 1) = nI (5 * n + 1) from nI_add (5 * n) 1)) ?_
      refine va_sld hx hb hXs hbl hbA hS (vp_in_nI (by omega) (by omega)) dL_law_515 ?_
      refine W.eq (g2 := F0 m 516 ls [.int (nI k9), .ref h0]) (congrArg (fun z9 => F0 m 516 ls [.int z9, .ref h0]) (show (xs (nI (5 * n + 1)).toNatClampNeg) = (nI k9) from (show xs (nI (5 * n + 1)).toNatClampNeg = (nI k9) from by rw [nI_clamp (by omega)]; exact e1))) ?_
      refine lv_aload_n hx hb dL_law_516 rfl (lv_at hl 0 rfl) ?_
      refine lv_iload hx hb dL_law_517 (lv_at hl 4 rfl) ?_
      refine lv_iconst (v := 2) hx hb dL_law_519 (by decide) ?_
      refine lv_iadd hx hb dL_law_520 ?_
      refine W.eq (g2 := F0 m 521 ls [.int (nI (5 * n + 2)), .ref b, .int (nI k9), .ref h0]) (congrArg (fun z9 => F0 m 521 ls [.int z9, .ref b, .int (nI k9), .ref h0]) (show ((nI (5 * n)) + 2) = nI (5 * n + 2) from nI_add (5 * n) 2)) ?_
      refine va_sld hx hb hXs hbl hbA hS (vp_in_nI (by omega) (by omega)) dL_law_521 ?_
      refine W.eq (g2 := F0 m 522 ls [.int (nI w9), .int (nI k9), .ref h0]) (congrArg (fun z9 => F0 m 522 ls [.int z9, .int (nI k9), .ref h0]) (show (xs (nI (5 * n + 2)).toNatClampNeg) = (nI w9) from (show xs (nI (5 * n + 2)).toNatClampNeg = (nI w9) from by rw [nI_clamp (by omega)]; exact e2))) ?_
      refine lv_aload_n hx hb dL_law_522 rfl (lv_at hl 0 rfl) ?_
      refine lv_iload hx hb dL_law_523 (lv_at hl 4 rfl) ?_
      refine lv_iconst (v := 3) hx hb dL_law_525 (by decide) ?_
      refine lv_iadd hx hb dL_law_526 ?_
      refine W.eq (g2 := F0 m 527 ls [.int (nI (5 * n + 3)), .ref b, .int (nI w9), .int (nI k9), .ref h0]) (congrArg (fun z9 => F0 m 527 ls [.int z9, .ref b, .int (nI w9), .int (nI k9), .ref h0]) (show ((nI (5 * n)) + 3) = nI (5 * n + 3) from nI_add (5 * n) 3)) ?_
      refine va_sld hx hb hXs hbl hbA hS (vp_in_nI (by omega) (by omega)) dL_law_527 ?_
      refine W.eq (g2 := F0 m 528 ls [.int (nI h9), .int (nI w9), .int (nI k9), .ref h0]) (congrArg (fun z9 => F0 m 528 ls [.int z9, .int (nI w9), .int (nI k9), .ref h0]) (show (xs (nI (5 * n + 3)).toNatClampNeg) = (nI h9) from (show xs (nI (5 * n + 3)).toNatClampNeg = (nI h9) from by rw [nI_clamp (by omega)]; exact e3))) ?_
      refine lv_aload_n hx hb dL_law_528 rfl (lv_at hl 0 rfl) ?_
      refine lv_iload hx hb dL_law_529 (lv_at hl 4 rfl) ?_
      refine lv_iconst (v := 4) hx hb dL_law_531 (by decide) ?_
      refine lv_iadd hx hb dL_law_532 ?_
      refine W.eq (g2 := F0 m 533 ls [.int (nI (5 * n + 4)), .ref b, .int (nI h9), .int (nI w9), .int (nI k9), .ref h0]) (congrArg (fun z9 => F0 m 533 ls [.int z9, .ref b, .int (nI h9), .int (nI w9), .int (nI k9), .ref h0]) (show ((nI (5 * n)) + 4) = nI (5 * n + 4) from nI_add (5 * n) 4)) ?_
      refine va_sld hx hb hXs hbl hbA hS (vp_in_nI (by omega) (by omega)) dL_law_533 ?_
      refine W.eq (g2 := F0 m 534 ls [.int (xs (5 * n + 4)), .int (nI h9), .int (nI w9), .int (nI k9), .ref h0]) (congrArg (fun z9 => F0 m 534 ls [.int z9, .int (nI h9), .int (nI w9), .int (nI k9), .ref h0]) (show (xs (nI (5 * n + 4)).toNatClampNeg) = (xs (5 * n + 4)) from (show xs (nI (5 * n + 4)).toNatClampNeg = (xs (5 * n + 4)) from by rw [nI_clamp (by omega)]))) ?_
      refine lv_if_eq (tgt := 541) hx hb dL_law_534 (by decide) (fun hb4 => ?_) (fun hb4 => ?_)
      · exact absurd hb4 hz4
      · refine lv_iconst (v := 1) hx hb dL_law_537 (by decide) ?_
        refine lv_goto (tgt := 542) hx hb dL_law_538 (by decide) ?_
        refine lv_aload_n hx hb dL_law_542 rfl (lv_at hl 3 rfl) ?_
        have hPc := hP.sub (ws' := [(h0, .inr (0, [.ref ab, .int (nI rc), .int (nI rl), .int (nI ps)])), (ab, .inl (cI, 4096, .inl f)), (oa, .inl (cL, 1, .inr (.inl o)))]) [0, 1, 5] rfl
        have hDc := hD.sub (ws' := [(h0, .inr (0, [.ref ab, .int (nI rc), .int (nI rl), .int (nI ps)])), (ab, .inl (cI, 4096, .inl f)), (oa, .inl (cL, 1, .inr (.inl o)))]) [0, 1, 5] (by decide) rfl
        have hKc := hK.sub (tys' := [(cI, .int), (cL, .long)]) [0, 3] rfl
        have hFc := va_free (wc := [(h0, .inr (0, [.ref ab, .int (nI rc), .int (nI rl), .int (nI ps)])), (ab, .inl (cI, 4096, .inl f)), (oa, .inl (cL, 1, .inr (.inl o)))]) hD hS hA [0, 1, 5] rfl
        refine va_calli (vx_runSW (As := [.ref h0, .int (nI k9), .int (nI w9), .int (nI h9), .int 1, .ref oa]) (rest := []) ⟨hx, hb, hml, hown, hts⟩ (c_L_pass l dC dI cI h0 ab rc rl ps f cL oa o H.size k9 w9 h9 1 hk hw1 hw2 hh1 hh2 t1 t2 t3 t4) (vx_cwSW 6 hts gL_law_L_pass rfl rfl rfl (by decide +kernel) ⟨Nat.le_of_ble_eq_true rfl, Nat.le_of_ble_eq_true rfl⟩) ⟨fun a U g mk q => by obtain ⟨q0, qZ, q1, qP, qK, qD⟩ := q; exact ⟨q0, rw_st.call qZ, q1, qP, va_K.moved (u := U) (U := U.calling g mk a) (Vm.Alike.refl U.vm) qK, qD⟩, fun U hU hW => ⟨rfl, rw_st.to hZ hS hU hW, by rw [hU], by rw [hU]; exact hPc, va_K.moved hW.alike hKc, hDc.weaken (fun _ _ _ _ => trivial)⟩⟩ rfl rfl hl.1 rfl (lv_room (Nat.le_of_ble_eq_true rfl)) dL_law_543 ⟨by show 6 + n + 0 ≤ 1031; omega, by show 12299 + 6 * n + 0 ≤ 20497; omega⟩) hS (fun q _ h => hFc q h) hFc (fun k u t9 H1 locs ht hvm ek hB hz1 hk1 hS => ?_)
        obtain ⟨hP1, hK1, hD1⟩ := hB
        rw [ht] at hP1
        obtain ⟨hP, hD⟩ := va_join (wr := [(h1, .inr (1, [.int fl, .int (nI rc), .int (nI rl), .int (nI ps), .ref b1, .ref b2])), (b1, .inl (cJ, 4096, .inl g)), (b2, .inl (cK, 4096, .inl t))]) (w1 := [(h0, .inr (0, [.ref ab, .int (nI rc), .int (nI rl), .int (nI ps)])), (ab, .inl (cI, 4096, .inl f)), (oa, .inl (cL, 1, .inr (.inl (vp_updL o 0 (rf_pr k9 w9 h9 1).toInt64))))]) hP hD [0, 1, 5] [2, 3, 4] rfl rfl (by decide) (by decide) hk1 hFc hP1 hD1
        generalize H1 = H at hP hS ⊢
        have hP := hP.sub (ws' := [(h0, .inr (0, [.ref ab, .int (nI rc), .int (nI rl), .int (nI ps)])), (ab, .inl (cI, 4096, .inl f)), (h1, .inr (1, [.int fl, .int (nI rc), .int (nI rl), .int (nI ps), .ref b1, .ref b2])), (b1, .inl (cJ, 4096, .inl g)), (b2, .inl (cK, 4096, .inl t)), (oa, .inl (cL, 1, .inr (.inl (vp_updL o 0 (rf_pr k9 w9 h9 1).toInt64))))]) [3, 4, 0, 1, 2, 5] rfl
        have hD := hD.sub (ws' := [(h0, .inr (0, [.ref ab, .int (nI rc), .int (nI rl), .int (nI ps)])), (ab, .inl (cI, 4096, .inl f)), (h1, .inr (1, [.int fl, .int (nI rc), .int (nI rl), .int (nI ps), .ref b1, .ref b2])), (b1, .inl (cJ, 4096, .inl g)), (b2, .inl (cK, 4096, .inl t)), (oa, .inl (cL, 1, .inr (.inl (vp_updL o 0 (rf_pr k9 w9 h9 1).toInt64))))]) [3, 4, 0, 1, 2, 5] (by decide) rfl
        have hP : va_P (dC, dI) rw_cl [(h0, .inr (0, [.ref ab, .int (nI rc), .int (nI rl), .int (nI ps)])), (ab, .inl (cI, 4096, .inl f)), (h1, .inr (1, [.int fl, .int (nI rc), .int (nI rl), .int (nI ps), .ref b1, .ref b2])), (b1, .inl (cJ, 4096, .inl g)), (b2, .inl (cK, 4096, .inl t)), (oa, .inl (cL, 1, .inr (.inl (vp_updL o 0 (rf_pr k9 w9 h9 1).toInt64))))] H := hP
        have hD : va_D A [(h0, .inr (0, [.ref ab, .int (nI rc), .int (nI rl), .int (nI ps)])), (ab, .inl (cI, 4096, .inl f)), (h1, .inr (1, [.int fl, .int (nI rc), .int (nI rl), .int (nI ps), .ref b1, .ref b2])), (b1, .inl (cJ, 4096, .inl g)), (b2, .inl (cK, 4096, .inl t)), (oa, .inl (cL, 1, .inr (.inl (vp_updL o 0 (rf_pr k9 w9 h9 1).toInt64))))] := hD
        refine W.widen (k := 6 + n) (n := 12299 + 6 * n) (Nat.le_refl _) (Nat.le_refl _) ?_
        subst ek
        refine lv_istore hx hb dL_law_546 hl (by decide) rfl (fun ls hl => ?_)
        have hl : lv_has ls 7 [(5, .int 0), (0, .ref b), (1, .ref h0), (2, .ref h1), (3, .ref oa), (4, .int (nI (5 * n)))] := hl
        refine lv_aload_n hx hb dL_law_548 rfl (lv_at hl 3 rfl) ?_
        refine lv_aload_n hx hb dL_law_549 rfl (lv_at hl 1 rfl) ?_
        refine lv_iload hx hb dL_law_550 (lv_at hl 5 rfl) ?_
        refine lv_iconst (v := 1) hx hb dL_law_552 (by decide) ?_
        refine lv_iadd hx hb dL_law_553 ?_
        refine W.eq (g2 := F0 m 554 ls [.int (nI (5 * n + 1)), .ref b, .ref h1]) (congrArg (fun z9 => F0 m 554 ls [.int z9, .ref b, .ref h1]) (show ((nI (5 * n)) + 1) = nI (5 * n + 1) from nI_add (5 * n) 1)) ?_
        refine va_sld hx hb hXs hbl hbA hS (vp_in_nI (by omega) (by omega)) dL_law_554 ?_
        refine W.eq (g2 := F0 m 555 ls [.int (nI k9), .ref h1]) (congrArg (fun z9 => F0 m 555 ls [.int z9, .ref h1]) (show (xs (nI (5 * n + 1)).toNatClampNeg) = (nI k9) from (show xs (nI (5 * n + 1)).toNatClampNeg = (nI k9) from by rw [nI_clamp (by omega)]; exact e1))) ?_
        refine lv_aload_n hx hb dL_law_555 rfl (lv_at hl 1 rfl) ?_
        refine lv_iload hx hb dL_law_556 (lv_at hl 5 rfl) ?_
        refine lv_iconst (v := 2) hx hb dL_law_558 (by decide) ?_
        refine lv_iadd hx hb dL_law_559 ?_
        refine W.eq (g2 := F0 m 560 ls [.int (nI (5 * n + 2)), .ref b, .int (nI k9), .ref h1]) (congrArg (fun z9 => F0 m 560 ls [.int z9, .ref b, .int (nI k9), .ref h1]) (show ((nI (5 * n)) + 2) = nI (5 * n + 2) from nI_add (5 * n) 2)) ?_
        refine va_sld hx hb hXs hbl hbA hS (vp_in_nI (by omega) (by omega)) dL_law_560 ?_
        refine W.eq (g2 := F0 m 561 ls [.int (nI w9), .int (nI k9), .ref h1]) (congrArg (fun z9 => F0 m 561 ls [.int z9, .int (nI k9), .ref h1]) (show (xs (nI (5 * n + 2)).toNatClampNeg) = (nI w9) from (show xs (nI (5 * n + 2)).toNatClampNeg = (nI w9) from by rw [nI_clamp (by omega)]; exact e2))) ?_
        refine lv_aload_n hx hb dL_law_561 rfl (lv_at hl 1 rfl) ?_
        refine lv_iload hx hb dL_law_562 (lv_at hl 5 rfl) ?_
        refine lv_iconst (v := 3) hx hb dL_law_564 (by decide) ?_
        refine lv_iadd hx hb dL_law_565 ?_
        refine W.eq (g2 := F0 m 566 ls [.int (nI (5 * n + 3)), .ref b, .int (nI w9), .int (nI k9), .ref h1]) (congrArg (fun z9 => F0 m 566 ls [.int z9, .ref b, .int (nI w9), .int (nI k9), .ref h1]) (show ((nI (5 * n)) + 3) = nI (5 * n + 3) from nI_add (5 * n) 3)) ?_
        refine va_sld hx hb hXs hbl hbA hS (vp_in_nI (by omega) (by omega)) dL_law_566 ?_
        refine W.eq (g2 := F0 m 567 ls [.int (nI h9), .int (nI w9), .int (nI k9), .ref h1]) (congrArg (fun z9 => F0 m 567 ls [.int z9, .int (nI w9), .int (nI k9), .ref h1]) (show (xs (nI (5 * n + 3)).toNatClampNeg) = (nI h9) from (show xs (nI (5 * n + 3)).toNatClampNeg = (nI h9) from by rw [nI_clamp (by omega)]; exact e3))) ?_
        refine lv_aload_n hx hb dL_law_567 rfl (lv_at hl 1 rfl) ?_
        refine lv_iload hx hb dL_law_568 (lv_at hl 5 rfl) ?_
        refine lv_iconst (v := 4) hx hb dL_law_570 (by decide) ?_
        refine lv_iadd hx hb dL_law_571 ?_
        refine W.eq (g2 := F0 m 572 ls [.int (nI (5 * n + 4)), .ref b, .int (nI h9), .int (nI w9), .int (nI k9), .ref h1]) (congrArg (fun z9 => F0 m 572 ls [.int z9, .ref b, .int (nI h9), .int (nI w9), .int (nI k9), .ref h1]) (show ((nI (5 * n)) + 4) = nI (5 * n + 4) from nI_add (5 * n) 4)) ?_
        refine va_sld hx hb hXs hbl hbA hS (vp_in_nI (by omega) (by omega)) dL_law_572 ?_
        refine W.eq (g2 := F0 m 573 ls [.int (xs (5 * n + 4)), .int (nI h9), .int (nI w9), .int (nI k9), .ref h1]) (congrArg (fun z9 => F0 m 573 ls [.int z9, .int (nI h9), .int (nI w9), .int (nI k9), .ref h1]) (show (xs (nI (5 * n + 4)).toNatClampNeg) = (xs (5 * n + 4)) from (show xs (nI (5 * n + 4)).toNatClampNeg = (xs (5 * n + 4)) from by rw [nI_clamp (by omega)]))) ?_
        refine lv_if_eq (tgt := 580) hx hb dL_law_573 (by decide) (fun hb4 => ?_) (fun hb4 => ?_)
        · exact absurd hb4 hz4
        · refine lv_iconst (v := 1) hx hb dL_law_576 (by decide) ?_
          refine lv_goto (tgt := 581) hx hb dL_law_577 (by decide) ?_
          have hPc := hP.sub (ws' := [(h1, .inr (1, [.int fl, .int (nI rc), .int (nI rl), .int (nI ps), .ref b1, .ref b2])), (b1, .inl (cJ, 4096, .inl g)), (b2, .inl (cK, 4096, .inl t))]) [2, 3, 4] rfl
          have hDc := hD.sub (ws' := [(h1, .inr (1, [.int fl, .int (nI rc), .int (nI rl), .int (nI ps), .ref b1, .ref b2])), (b1, .inl (cJ, 4096, .inl g)), (b2, .inl (cK, 4096, .inl t))]) [2, 3, 4] (by decide) rfl
          have hKc := hK.sub (tys' := [(cJ, .int), (cK, .int)]) [1, 2] rfl
          have hFc := va_free (wc := [(h1, .inr (1, [.int fl, .int (nI rc), .int (nI rl), .int (nI ps), .ref b1, .ref b2])), (b1, .inl (cJ, 4096, .inl g)), (b2, .inl (cK, 4096, .inl t))]) hD hS hA [2, 3, 4] rfl
          refine va_calli (va_runV (C := RX1) (As := [.int (nI k9), .int (nI w9), .int (nI h9), .int 1]) (rest := []) ⟨hx, hb, hml, hown, htsY⟩ (c_Y1_pass l dC dI cJ cK h1 b1 b2 fl rc rl ps g t H.size k9 w9 h9 1 hk hw1 hw2 hh1 hh2) (cwV 4 htsY gL_law_Y1_pass rfl rfl rfl (by decide +kernel) ⟨Nat.le_of_ble_eq_true rfl, Nat.le_of_ble_eq_true rfl⟩) ⟨fun a U g mk q => by obtain ⟨q0, q1, qP, qK, qD⟩ := q; exact ⟨q0, q1, qP, va_K.moved (u := U) (U := U.calling g mk a) (Vm.Alike.refl U.vm) qK, qD⟩, va_recv hK hP (ci := 1) (q0 := 2) rfl rfl, fun U hU hW => ⟨rfl, by rw [hU], by rw [hU]; exact hPc, va_K.moved hW.alike hKc, hDc.weaken (fun _ _ _ _ => trivial)⟩⟩ rfl rfl hl.1 rfl (lv_room (Nat.le_of_ble_eq_true rfl)) dL_law_581 ⟨by show 6 + n + 0 ≤ 1031; omega, by show 12299 + 6 * n + 0 ≤ 20497; omega⟩) hS (fun q _ h => hFc q h) hFc (fun rb u t9 H1 locs ht hvm eb hB hz1 hk1 hS => ?_)
          obtain ⟨hP1, hK1, hD1⟩ := hB
          rw [ht] at hP1
          obtain ⟨hP, hD⟩ := va_join (wr := [(h0, .inr (0, [.ref ab, .int (nI rc), .int (nI rl), .int (nI ps)])), (ab, .inl (cI, 4096, .inl f)), (oa, .inl (cL, 1, .inr (.inl (vp_updL o 0 (rf_pr k9 w9 h9 1).toInt64))))]) (w1 := [(h1, .inr (1, [.int 0, .int (nI rc), .int (nI rl), .int (nI ps), .ref b1, .ref b2])), (b1, .inl (cJ, 4096, .inl g)), (b2, .inl (cK, 4096, .inl t))]) hP hD [2, 3, 4] [0, 1, 5] rfl rfl (by decide) (by decide) hk1 hFc hP1 hD1
          generalize H1 = H at hP hS ⊢
          have hP := hP.sub (ws' := [(h0, .inr (0, [.ref ab, .int (nI rc), .int (nI rl), .int (nI ps)])), (ab, .inl (cI, 4096, .inl f)), (h1, .inr (1, [.int 0, .int (nI rc), .int (nI rl), .int (nI ps), .ref b1, .ref b2])), (b1, .inl (cJ, 4096, .inl g)), (b2, .inl (cK, 4096, .inl t)), (oa, .inl (cL, 1, .inr (.inl (vp_updL o 0 (rf_pr k9 w9 h9 1).toInt64))))]) [0, 1, 3, 4, 5, 2] rfl
          have hD := hD.sub (ws' := [(h0, .inr (0, [.ref ab, .int (nI rc), .int (nI rl), .int (nI ps)])), (ab, .inl (cI, 4096, .inl f)), (h1, .inr (1, [.int 0, .int (nI rc), .int (nI rl), .int (nI ps), .ref b1, .ref b2])), (b1, .inl (cJ, 4096, .inl g)), (b2, .inl (cK, 4096, .inl t)), (oa, .inl (cL, 1, .inr (.inl (vp_updL o 0 (rf_pr k9 w9 h9 1).toInt64))))]) [0, 1, 3, 4, 5, 2] (by decide) rfl
          have hP : va_P (dC, dI) rw_cl [(h0, .inr (0, [.ref ab, .int (nI rc), .int (nI rl), .int (nI ps)])), (ab, .inl (cI, 4096, .inl f)), (h1, .inr (1, [.int 0, .int (nI rc), .int (nI rl), .int (nI ps), .ref b1, .ref b2])), (b1, .inl (cJ, 4096, .inl g)), (b2, .inl (cK, 4096, .inl t)), (oa, .inl (cL, 1, .inr (.inl (vp_updL o 0 (rf_pr k9 w9 h9 1).toInt64))))] H := hP
          have hD : va_D A [(h0, .inr (0, [.ref ab, .int (nI rc), .int (nI rl), .int (nI ps)])), (ab, .inl (cI, 4096, .inl f)), (h1, .inr (1, [.int 0, .int (nI rc), .int (nI rl), .int (nI ps), .ref b1, .ref b2])), (b1, .inl (cJ, 4096, .inl g)), (b2, .inl (cK, 4096, .inl t)), (oa, .inl (cL, 1, .inr (.inl (vp_updL o 0 (rf_pr k9 w9 h9 1).toInt64))))] := hD
          refine W.widen (k := 6 + n) (n := 12299 + 6 * n) (Nat.le_refl _) (Nat.le_refl _) ?_
          subst eb
          refine lv_istore hx hb dL_law_584 hl (by decide) rfl (fun ls hl => ?_)
          have hl : lv_has ls 7 [(6, .int (rf_pr k9 w9 h9 1)), (5, .int 0), (0, .ref b), (1, .ref h0), (2, .ref h1), (3, .ref oa), (4, .int (nI (5 * n)))] := hl
          refine lv_aload_n hx hb dL_law_586 rfl (lv_at hl 4 rfl) ?_
          have hPc := hP.sub (ws' := [(h1, .inr (1, [.int 0, .int (nI rc), .int (nI rl), .int (nI ps), .ref b1, .ref b2])), (b1, .inl (cJ, 4096, .inl g)), (b2, .inl (cK, 4096, .inl t))]) [2, 3, 4] rfl
          have hKc := hK.sub (tys' := [(cJ, .int), (cK, .int)]) [1, 2] rfl
          refine vp_callSi (W.runV (C := RX1) (As := []) (rest := []) ⟨hx, hb, hml, hown, htsY⟩ (c_Y1_thrown l dC dI cJ cK h1 b1 b2 0 rc rl ps g t ) (cwV 0 htsY gL_law_Y1_thrown rfl rfl rfl (by decide +kernel) ⟨Nat.le_of_ble_eq_true rfl, Nat.le_of_ble_eq_true rfl⟩) ⟨fun a U g mk q => by obtain ⟨q0, qP, qK⟩ := q; exact ⟨q0, qP, va_K.moved (u := U) (U := U.calling g mk a) (Vm.Alike.refl U.vm) qK⟩, va_recv hK hP (ci := 1) (q0 := 2) rfl rfl, fun U hU hW => ⟨rfl, by rw [hU]; exact hPc, va_K.moved hW.alike hKc⟩⟩ rfl rfl hl.1 rfl (lv_room (Nat.le_of_ble_eq_true rfl)) dL_law_587 ⟨by show 6 + n + 0 ≤ 1031; omega, by show 12299 + 6 * n + 0 ≤ 20497; omega⟩) (fun rt et => ?_)
          subst et
          refine lv_iload hx hb dL_law_590 (lv_at hl 1 rfl) ?_
          refine lv_icmp_eq (tgt := 597) hx hb dL_law_592 (by decide) (fun hq => ?_) (fun hq => ?_)
          · refine lv_iload hx hb dL_law_597 (lv_at hl 1 rfl) ?_
            refine lv_if_ne (tgt := 614) hx hb dL_law_599 (by decide) (fun hz => ?_) (fun hz => ?_)
            · exact absurd (rfl : (0 : Int32) = 0) hz
            · refine lv_aload_n hx hb dL_law_602 rfl (lv_at hl 5 rfl) ?_
              refine lv_iconst (v := 0) hx hb dL_law_603 (by decide) ?_
              refine va_lald hx hb hK hP 5 3 rfl rfl (vp_in_nI (n := 0) (by omega) (by omega)) dL_law_604 ?_
              refine lv_topl (fun v9 e9 => ?_)
              have e8 : v9 = ((rf_pr k9 w9 h9 1)).toInt64 := e9.trans ((show (vp_updL o 0 (rf_pr k9 w9 h9 1).toInt64) (0 : Int32).toNatClampNeg = (rf_pr k9 w9 h9 1).toInt64 from by rw [show (0 : Int32).toNatClampNeg = 0 from by decide]; exact if_pos rfl).trans (congrArg Int32.toInt64 (rfl)))
              refine lv_iload hx hb dL_law_605 (lv_at hl 0 rfl) ?_
              refine lv_i2l hx hb dL_law_607 rfl ?_
              refine W.lcmp hx hb dL_law_608 ?_
              refine lv_if_eq (tgt := 614) hx hb dL_law_609 (by decide) (fun hw => ?_) (fun hw => ?_)
              · refine lv_goto (tgt := 685) hx hb dL_law_614 (by decide) ?_
                refine lv_iinc (k := 6) (v := (nI (5 * (n + 1)))) hx hb dL_law_685 hl rfl (show nI (5 * n) + nI 5 = nI (5 * (n + 1)) from (nI_add _ _).trans (congrArg nI (by omega))) (by decide) rfl (fun ls hl => ?_)
                have hl : lv_has ls 7 [(4, .int (nI (5 * (n + 1)))), (6, .int (rf_pr k9 w9 h9 1)), (5, .int 0), (0, .ref b), (1, .ref h0), (2, .ref h1), (3, .ref oa)] := hl
                refine lv_goto (tgt := 23) hx hb dL_law_688 (by decide) ?_
                refine W.widen (k := 6 + (n + 1)) (n := 12299 + 6 * (n + 1)) (by omega) (by omega) ?_
                exact ih _ _ _ ⟨rc, rl, ps, f, 0, g, t, (vp_updL o 0 (rf_pr k9 w9 h9 1).toInt64), ok, hR, lv_sub hl [3, 4, 5, 6, 0] rfl, hP, hD, hS⟩
              · exact absurd (by rw [e8]; exact rf_cmp _) hw
          · exact absurd (rfl : (0 : Int32) = 0) hq
set_option maxHeartbeats 8000000 in
set_option maxRecDepth 100000 in
theorem lw_case_passOf {p : Program} {l : Launch} {e : Env} {s : State} {m : MethodId} {below : List Frame} {meth : Method} {c : Code} {Q : State → Prop} {A : Nat → Prop} {b L : Nat} {xs : Nat → Int32} {dC : Nat → ClassId} {dI : Nat → Nat → Nat} {h0 ab : Nat} {cI : ClassId} {h1 b1 b2 : Nat} {cJ cK : ClassId} {oa : Nat} {cL : ClassId} {sa t1 t2 t3 t4 : Nat} (hl9 : l.stackTraces = false) (C9 : lw_F p s m c A b L xs dC dI cI cJ cK cL sa t1 t2 t3 t4) {n : Nat} (hn : n ≤ 512) (hL5 : 5 * n + 5 ≤ L) {rc rl ps : Nat} {f : Nat → Int32} {fl : Int32} {g t : Nat → Int32} {o : Nat → Int64} {ls : Array Slot} {H : Heap} {locs : List Loc} (ok : rf_ok rc rl ps) (hR : rf_R (rc * rl) f g) (hl : lv_has ls 7 [(0, .ref b), (1, .ref h0), (2, .ref h1), (3, .ref oa), (4, .int (nI (5 * n)))]) (hP : va_P (dC, dI) rw_cl (lw_W h0 ab cI h1 b1 b2 cJ cK oa cL rc rl ps f fl g t o) H) (hD : va_D A (lw_W h0 ab cI h1 b1 b2 cJ cK oa cL rc rl ps f fl g t o)) (hS : va_S A s.heap H locs) (ih : ∀ (ls : Array Slot) (H : Heap) (locs : List Loc), lw_I s A dC dI b h0 ab cI h1 b1 b2 cJ cK oa cL (n + 1) ls H locs → W p l e room_1 s m #[Value.ref b] below meth c H locs (6 + (n + 1)) (12299 + 6 * (n + 1)) Q (F0 m 23 ls [])) : W p l e room_1 s m #[Value.ref b] below meth c H locs (6 + n) (12299 + 6 * n) Q (F0 m 617 ls []) := by
  obtain ⟨hx, hb, hml, hown, hts, htsY, hXs, hbl, hbA, hA, hA2, hK, hX, hZ, hL⟩ := C9
  by_cases hc9 : rf_xy (xs (5 * n + 1)) (xs (5 * n + 2))
  · refine lv_aload_n hx hb dL_law_617 rfl (lv_at hl 1 rfl) ?_
    refine lv_aload_n hx hb dL_law_618 rfl (lv_at hl 0 rfl) ?_
    refine lv_iload hx hb dL_law_619 (lv_at hl 4 rfl) ?_
    refine lv_iconst (v := 1) hx hb dL_law_621 (by decide) ?_
    refine lv_iadd hx hb dL_law_622 ?_
    refine W.eq (g2 := F0 m 623 ls [.int (nI (5 * n + 1)), .ref b, .ref h0]) (congrArg (fun z9 => F0 m 623 ls [.int z9, .ref b, .ref h0]) (show ((nI (5 * n)) + 1) = nI (5 * n + 1) from nI_add (5 * n) 1)) ?_
    refine va_sld hx hb hXs hbl hbA hS (vp_in_nI (by omega) (by omega)) dL_law_623 ?_
    refine W.eq (g2 := F0 m 624 ls [.int (xs (5 * n + 1)), .ref h0]) (congrArg (fun z9 => F0 m 624 ls [.int z9, .ref h0]) (show (xs (nI (5 * n + 1)).toNatClampNeg) = (xs (5 * n + 1)) from (show xs (nI (5 * n + 1)).toNatClampNeg = (xs (5 * n + 1)) from by rw [nI_clamp (by omega)]))) ?_
    refine lv_aload_n hx hb dL_law_624 rfl (lv_at hl 0 rfl) ?_
    refine lv_iload hx hb dL_law_625 (lv_at hl 4 rfl) ?_
    refine lv_iconst (v := 2) hx hb dL_law_627 (by decide) ?_
    refine lv_iadd hx hb dL_law_628 ?_
    refine W.eq (g2 := F0 m 629 ls [.int (nI (5 * n + 2)), .ref b, .int (xs (5 * n + 1)), .ref h0]) (congrArg (fun z9 => F0 m 629 ls [.int z9, .ref b, .int (xs (5 * n + 1)), .ref h0]) (show ((nI (5 * n)) + 2) = nI (5 * n + 2) from nI_add (5 * n) 2)) ?_
    refine va_sld hx hb hXs hbl hbA hS (vp_in_nI (by omega) (by omega)) dL_law_629 ?_
    refine W.eq (g2 := F0 m 630 ls [.int (xs (5 * n + 2)), .int (xs (5 * n + 1)), .ref h0]) (congrArg (fun z9 => F0 m 630 ls [.int z9, .int (xs (5 * n + 1)), .ref h0]) (show (xs (nI (5 * n + 2)).toNatClampNeg) = (xs (5 * n + 2)) from (show xs (nI (5 * n + 2)).toNatClampNeg = (xs (5 * n + 2)) from by rw [nI_clamp (by omega)]))) ?_
    refine lv_aload_n hx hb dL_law_630 rfl (lv_at hl 3 rfl) ?_
    have hPc := hP.sub (ws' := [(h0, .inr (0, [.ref ab, .int (nI rc), .int (nI rl), .int (nI ps)])), (ab, .inl (cI, 4096, .inl f)), (oa, .inl (cL, 1, .inr (.inl o)))]) [0, 1, 5] rfl
    have hDc := hD.sub (ws' := [(h0, .inr (0, [.ref ab, .int (nI rc), .int (nI rl), .int (nI ps)])), (ab, .inl (cI, 4096, .inl f)), (oa, .inl (cL, 1, .inr (.inl o)))]) [0, 1, 5] (by decide) rfl
    have hKc := hK.sub (tys' := [(cI, .int), (cL, .long)]) [0, 3] rfl
    have hFc := va_free (wc := [(h0, .inr (0, [.ref ab, .int (nI rc), .int (nI rl), .int (nI ps)])), (ab, .inl (cI, 4096, .inl f)), (oa, .inl (cL, 1, .inr (.inl o)))]) hD hS hA [0, 1, 5] rfl
    refine va_calli (vx_runSW (As := [.ref h0, .int (xs (5 * n + 1)), .int (xs (5 * n + 2)), .ref oa]) (rest := []) ⟨hx, hb, hml, hown, hts⟩ (c_L_passOf_bad l hl9 sa dC dI cI h0 ab rc rl ps f cL oa o H.size (xs (5 * n + 1)) (xs (5 * n + 2)) hc9) (vx_cwSW 4 hts gL_law_L_passOf rfl rfl rfl (by decide +kernel) ⟨Nat.le_of_ble_eq_true rfl, Nat.le_of_ble_eq_true rfl⟩) ⟨fun a U g mk q => by obtain ⟨q0, qX, q1, qP, qK, qD⟩ := q; exact ⟨q0, rw_XA.call qX, q1, qP, va_K.moved (u := U) (U := U.calling g mk a) (Vm.Alike.refl U.vm) qK, qD⟩, fun U hU hW => ⟨rfl, rw_XA.to hX hS (fun q z => hA q (Nat.le_trans hS.1 z)) hU hW, by rw [hU], by rw [hU]; exact hPc, va_K.moved hW.alike hKc, hDc.weaken (fun _ _ _ _ => trivial)⟩⟩ rfl rfl hl.1 rfl (lv_room (Nat.le_of_ble_eq_true rfl)) dL_law_631 ⟨by show 6 + n + 1 ≤ 1031; omega, by show 12299 + 6 * n + 6 ≤ 20497; omega⟩) hS (fun q _ h => hFc q h) hFc (fun k u t9 H1 locs ht hvm ek hB hz1 hk1 hS => ?_)
    obtain ⟨hP1, hK1, hD1⟩ := hB
    rw [ht] at hP1
    obtain ⟨hP, hD⟩ := va_join (wr := [(h1, .inr (1, [.int fl, .int (nI rc), .int (nI rl), .int (nI ps), .ref b1, .ref b2])), (b1, .inl (cJ, 4096, .inl g)), (b2, .inl (cK, 4096, .inl t))]) (w1 := [(h0, .inr (0, [.ref ab, .int (nI rc), .int (nI rl), .int (nI ps)])), (ab, .inl (cI, 4096, .inl f)), (oa, .inl (cL, 1, .inr (.inl o)))]) hP hD [0, 1, 5] [2, 3, 4] rfl rfl (by decide) (by decide) hk1 hFc hP1 hD1
    generalize H1 = H at hP hS ⊢
    have hP := hP.sub (ws' := [(h0, .inr (0, [.ref ab, .int (nI rc), .int (nI rl), .int (nI ps)])), (ab, .inl (cI, 4096, .inl f)), (h1, .inr (1, [.int fl, .int (nI rc), .int (nI rl), .int (nI ps), .ref b1, .ref b2])), (b1, .inl (cJ, 4096, .inl g)), (b2, .inl (cK, 4096, .inl t)), (oa, .inl (cL, 1, .inr (.inl o)))]) [3, 4, 0, 1, 2, 5] rfl
    have hD := hD.sub (ws' := [(h0, .inr (0, [.ref ab, .int (nI rc), .int (nI rl), .int (nI ps)])), (ab, .inl (cI, 4096, .inl f)), (h1, .inr (1, [.int fl, .int (nI rc), .int (nI rl), .int (nI ps), .ref b1, .ref b2])), (b1, .inl (cJ, 4096, .inl g)), (b2, .inl (cK, 4096, .inl t)), (oa, .inl (cL, 1, .inr (.inl o)))]) [3, 4, 0, 1, 2, 5] (by decide) rfl
    have hP : va_P (dC, dI) rw_cl [(h0, .inr (0, [.ref ab, .int (nI rc), .int (nI rl), .int (nI ps)])), (ab, .inl (cI, 4096, .inl f)), (h1, .inr (1, [.int fl, .int (nI rc), .int (nI rl), .int (nI ps), .ref b1, .ref b2])), (b1, .inl (cJ, 4096, .inl g)), (b2, .inl (cK, 4096, .inl t)), (oa, .inl (cL, 1, .inr (.inl o)))] H := hP
    have hD : va_D A [(h0, .inr (0, [.ref ab, .int (nI rc), .int (nI rl), .int (nI ps)])), (ab, .inl (cI, 4096, .inl f)), (h1, .inr (1, [.int fl, .int (nI rc), .int (nI rl), .int (nI ps), .ref b1, .ref b2])), (b1, .inl (cJ, 4096, .inl g)), (b2, .inl (cK, 4096, .inl t)), (oa, .inl (cL, 1, .inr (.inl o)))] := hD
    subst ek
    refine lv_istore hx hb dL_law_634 hl (by decide) rfl (fun ls hl => ?_)
    have hl : lv_has ls 7 [(5, .int 1), (0, .ref b), (1, .ref h0), (2, .ref h1), (3, .ref oa), (4, .int (nI (5 * n)))] := hl
    refine lv_aload_n hx hb dL_law_636 rfl (lv_at hl 3 rfl) ?_
    refine lv_aload_n hx hb dL_law_637 rfl (lv_at hl 1 rfl) ?_
    refine lv_iload hx hb dL_law_638 (lv_at hl 5 rfl) ?_
    refine lv_iconst (v := 1) hx hb dL_law_640 (by decide) ?_
    refine lv_iadd hx hb dL_law_641 ?_
    refine W.eq (g2 := F0 m 642 ls [.int (nI (5 * n + 1)), .ref b, .ref h1]) (congrArg (fun z9 => F0 m 642 ls [.int z9, .ref b, .ref h1]) (show ((nI (5 * n)) + 1) = nI (5 * n + 1) from nI_add (5 * n) 1)) ?_
    refine va_sld hx hb hXs hbl hbA hS (vp_in_nI (by omega) (by omega)) dL_law_642 ?_
    refine W.eq (g2 := F0 m 643 ls [.int (xs (5 * n + 1)), .ref h1]) (congrArg (fun z9 => F0 m 643 ls [.int z9, .ref h1]) (show (xs (nI (5 * n + 1)).toNatClampNeg) = (xs (5 * n + 1)) from (show xs (nI (5 * n + 1)).toNatClampNeg = (xs (5 * n + 1)) from by rw [nI_clamp (by omega)]))) ?_
    refine lv_aload_n hx hb dL_law_643 rfl (lv_at hl 1 rfl) ?_
    refine lv_iload hx hb dL_law_644 (lv_at hl 5 rfl) ?_
    refine lv_iconst (v := 2) hx hb dL_law_646 (by decide) ?_
    refine lv_iadd hx hb dL_law_647 ?_
    refine W.eq (g2 := F0 m 648 ls [.int (nI (5 * n + 2)), .ref b, .int (xs (5 * n + 1)), .ref h1]) (congrArg (fun z9 => F0 m 648 ls [.int z9, .ref b, .int (xs (5 * n + 1)), .ref h1]) (show ((nI (5 * n)) + 2) = nI (5 * n + 2) from nI_add (5 * n) 2)) ?_
    refine va_sld hx hb hXs hbl hbA hS (vp_in_nI (by omega) (by omega)) dL_law_648 ?_
    refine W.eq (g2 := F0 m 649 ls [.int (xs (5 * n + 2)), .int (xs (5 * n + 1)), .ref h1]) (congrArg (fun z9 => F0 m 649 ls [.int z9, .int (xs (5 * n + 1)), .ref h1]) (show (xs (nI (5 * n + 2)).toNatClampNeg) = (xs (5 * n + 2)) from (show xs (nI (5 * n + 2)).toNatClampNeg = (xs (5 * n + 2)) from by rw [nI_clamp (by omega)]))) ?_
    have hPc := hP.sub (ws' := [(h1, .inr (1, [.int fl, .int (nI rc), .int (nI rl), .int (nI ps), .ref b1, .ref b2])), (b1, .inl (cJ, 4096, .inl g)), (b2, .inl (cK, 4096, .inl t))]) [2, 3, 4] rfl
    have hDc := hD.sub (ws' := [(h1, .inr (1, [.int fl, .int (nI rc), .int (nI rl), .int (nI ps), .ref b1, .ref b2])), (b1, .inl (cJ, 4096, .inl g)), (b2, .inl (cK, 4096, .inl t))]) [2, 3, 4] (by decide) rfl
    have hKc := hK.sub (tys' := [(cJ, .int), (cK, .int)]) [1, 2] rfl
    have hFc := va_free (wc := [(h1, .inr (1, [.int fl, .int (nI rc), .int (nI rl), .int (nI ps), .ref b1, .ref b2])), (b1, .inl (cJ, 4096, .inl g)), (b2, .inl (cK, 4096, .inl t))]) hD hS hA [2, 3, 4] rfl
    refine va_calli (va_runV (C := RX1) (As := [.int (xs (5 * n + 1)), .int (xs (5 * n + 2))]) (rest := []) ⟨hx, hb, hml, hown, htsY⟩ (c_Y1_passOf_bad l dC dI cJ cK h1 b1 b2 fl rc rl ps g t H.size (xs (5 * n + 1)) (xs (5 * n + 2)) hc9) (cwV 2 htsY gL_law_Y1_passOf rfl rfl rfl (by decide +kernel) ⟨Nat.le_of_ble_eq_true rfl, Nat.le_of_ble_eq_true rfl⟩) ⟨fun a U g mk q => by obtain ⟨q0, q1, qP, qK, qD⟩ := q; exact ⟨q0, q1, qP, va_K.moved (u := U) (U := U.calling g mk a) (Vm.Alike.refl U.vm) qK, qD⟩, va_recv hK hP (ci := 1) (q0 := 2) rfl rfl, fun U hU hW => ⟨rfl, by rw [hU], by rw [hU]; exact hPc, va_K.moved hW.alike hKc, hDc.weaken (fun _ _ _ _ => trivial)⟩⟩ rfl rfl hl.1 rfl (lv_room (Nat.le_of_ble_eq_true rfl)) dL_law_649 ⟨by show 6 + n + 1 + 0 ≤ 1031; omega, by show 12299 + 6 * n + 6 + 0 ≤ 20497; omega⟩) hS (fun q _ h => hFc q h) hFc (fun rb u t9 H1 locs ht hvm eb hB hz1 hk1 hS => ?_)
    obtain ⟨hP1, hK1, hD1⟩ := hB
    rw [ht] at hP1
    obtain ⟨hP, hD⟩ := va_join (wr := [(h0, .inr (0, [.ref ab, .int (nI rc), .int (nI rl), .int (nI ps)])), (ab, .inl (cI, 4096, .inl f)), (oa, .inl (cL, 1, .inr (.inl o)))]) (w1 := [(h1, .inr (1, [.int 1, .int (nI rc), .int (nI rl), .int (nI ps), .ref b1, .ref b2])), (b1, .inl (cJ, 4096, .inl g)), (b2, .inl (cK, 4096, .inl t))]) hP hD [2, 3, 4] [0, 1, 5] rfl rfl (by decide) (by decide) hk1 hFc hP1 hD1
    generalize H1 = H at hP hS ⊢
    have hP := hP.sub (ws' := [(h0, .inr (0, [.ref ab, .int (nI rc), .int (nI rl), .int (nI ps)])), (ab, .inl (cI, 4096, .inl f)), (h1, .inr (1, [.int 1, .int (nI rc), .int (nI rl), .int (nI ps), .ref b1, .ref b2])), (b1, .inl (cJ, 4096, .inl g)), (b2, .inl (cK, 4096, .inl t)), (oa, .inl (cL, 1, .inr (.inl o)))]) [0, 1, 3, 4, 5, 2] rfl
    have hD := hD.sub (ws' := [(h0, .inr (0, [.ref ab, .int (nI rc), .int (nI rl), .int (nI ps)])), (ab, .inl (cI, 4096, .inl f)), (h1, .inr (1, [.int 1, .int (nI rc), .int (nI rl), .int (nI ps), .ref b1, .ref b2])), (b1, .inl (cJ, 4096, .inl g)), (b2, .inl (cK, 4096, .inl t)), (oa, .inl (cL, 1, .inr (.inl o)))]) [0, 1, 3, 4, 5, 2] (by decide) rfl
    have hP : va_P (dC, dI) rw_cl [(h0, .inr (0, [.ref ab, .int (nI rc), .int (nI rl), .int (nI ps)])), (ab, .inl (cI, 4096, .inl f)), (h1, .inr (1, [.int 1, .int (nI rc), .int (nI rl), .int (nI ps), .ref b1, .ref b2])), (b1, .inl (cJ, 4096, .inl g)), (b2, .inl (cK, 4096, .inl t)), (oa, .inl (cL, 1, .inr (.inl o)))] H := hP
    have hD : va_D A [(h0, .inr (0, [.ref ab, .int (nI rc), .int (nI rl), .int (nI ps)])), (ab, .inl (cI, 4096, .inl f)), (h1, .inr (1, [.int 1, .int (nI rc), .int (nI rl), .int (nI ps), .ref b1, .ref b2])), (b1, .inl (cJ, 4096, .inl g)), (b2, .inl (cK, 4096, .inl t)), (oa, .inl (cL, 1, .inr (.inl o)))] := hD
    refine W.widen (k := 6 + n + 1) (n := 12299 + 6 * n + 6) (Nat.le_refl _) (Nat.le_refl _) ?_
    refine lv_istore hx hb dL_law_652 hl (by decide) rfl (fun ls hl => ?_)
    have hl : lv_has ls 7 [(6, .int rb), (5, .int 1), (0, .ref b), (1, .ref h0), (2, .ref h1), (3, .ref oa), (4, .int (nI (5 * n)))] := hl
    refine lv_aload_n hx hb dL_law_654 rfl (lv_at hl 4 rfl) ?_
    have hPc := hP.sub (ws' := [(h1, .inr (1, [.int 1, .int (nI rc), .int (nI rl), .int (nI ps), .ref b1, .ref b2])), (b1, .inl (cJ, 4096, .inl g)), (b2, .inl (cK, 4096, .inl t))]) [2, 3, 4] rfl
    have hKc := hK.sub (tys' := [(cJ, .int), (cK, .int)]) [1, 2] rfl
    refine vp_callSi (W.runV (C := RX1) (As := []) (rest := []) ⟨hx, hb, hml, hown, htsY⟩ (c_Y1_thrown l dC dI cJ cK h1 b1 b2 1 rc rl ps g t ) (cwV 0 htsY gL_law_Y1_thrown rfl rfl rfl (by decide +kernel) ⟨Nat.le_of_ble_eq_true rfl, Nat.le_of_ble_eq_true rfl⟩) ⟨fun a U g mk q => by obtain ⟨q0, qP, qK⟩ := q; exact ⟨q0, qP, va_K.moved (u := U) (U := U.calling g mk a) (Vm.Alike.refl U.vm) qK⟩, va_recv hK hP (ci := 1) (q0 := 2) rfl rfl, fun U hU hW => ⟨rfl, by rw [hU]; exact hPc, va_K.moved hW.alike hKc⟩⟩ rfl rfl hl.1 rfl (lv_room (Nat.le_of_ble_eq_true rfl)) dL_law_655 ⟨by show 6 + n + 1 + 0 ≤ 1031; omega, by show 12299 + 6 * n + 6 + 0 ≤ 20497; omega⟩) (fun rt et => ?_)
    subst et
    refine lv_iload hx hb dL_law_658 (lv_at hl 1 rfl) ?_
    refine lv_icmp_eq (tgt := 665) hx hb dL_law_660 (by decide) (fun hq => ?_) (fun hq => ?_)
    · refine lv_iload hx hb dL_law_665 (lv_at hl 1 rfl) ?_
      refine lv_if_ne (tgt := 682) hx hb dL_law_667 (by decide) (fun hz => ?_) (fun hz => ?_)
      · refine lv_goto (tgt := 685) hx hb dL_law_682 (by decide) ?_
        refine lv_iinc (k := 6) (v := (nI (5 * (n + 1)))) hx hb dL_law_685 hl rfl (show nI (5 * n) + nI 5 = nI (5 * (n + 1)) from (nI_add _ _).trans (congrArg nI (by omega))) (by decide) rfl (fun ls hl => ?_)
        have hl : lv_has ls 7 [(4, .int (nI (5 * (n + 1)))), (6, .int rb), (5, .int 1), (0, .ref b), (1, .ref h0), (2, .ref h1), (3, .ref oa)] := hl
        refine lv_goto (tgt := 23) hx hb dL_law_688 (by decide) ?_
        refine W.widen (k := 6 + (n + 1)) (n := 12299 + 6 * (n + 1)) (by omega) (by omega) ?_
        exact ih _ _ _ ⟨rc, rl, ps, f, 1, g, t, o, ok, hR, lv_sub hl [3, 4, 5, 6, 0] rfl, hP, hD, hS⟩
      · exact absurd hz (by decide)
    · exact absurd (rfl : (1 : Int32) = 1) hq
  · obtain ⟨x, y, e1, e2, hx9, hy9⟩ := rf_xy_ok hc9
    obtain ⟨k9, hk9⟩ := rf_po_ex x y
    refine lv_aload_n hx hb dL_law_617 rfl (lv_at hl 1 rfl) ?_
    refine lv_aload_n hx hb dL_law_618 rfl (lv_at hl 0 rfl) ?_
    refine lv_iload hx hb dL_law_619 (lv_at hl 4 rfl) ?_
    refine lv_iconst (v := 1) hx hb dL_law_621 (by decide) ?_
    refine lv_iadd hx hb dL_law_622 ?_
    refine W.eq (g2 := F0 m 623 ls [.int (nI (5 * n + 1)), .ref b, .ref h0]) (congrArg (fun z9 => F0 m 623 ls [.int z9, .ref b, .ref h0]) (show ((nI (5 * n)) + 1) = nI (5 * n + 1) from nI_add (5 * n) 1)) ?_
    refine va_sld hx hb hXs hbl hbA hS (vp_in_nI (by omega) (by omega)) dL_law_623 ?_
    refine W.eq (g2 := F0 m 624 ls [.int (nI x), .ref h0]) (congrArg (fun z9 => F0 m 624 ls [.int z9, .ref h0]) (show (xs (nI (5 * n + 1)).toNatClampNeg) = (nI x) from (show xs (nI (5 * n + 1)).toNatClampNeg = (nI x) from by rw [nI_clamp (by omega)]; exact e1))) ?_
    refine lv_aload_n hx hb dL_law_624 rfl (lv_at hl 0 rfl) ?_
    refine lv_iload hx hb dL_law_625 (lv_at hl 4 rfl) ?_
    refine lv_iconst (v := 2) hx hb dL_law_627 (by decide) ?_
    refine lv_iadd hx hb dL_law_628 ?_
    refine W.eq (g2 := F0 m 629 ls [.int (nI (5 * n + 2)), .ref b, .int (nI x), .ref h0]) (congrArg (fun z9 => F0 m 629 ls [.int z9, .ref b, .int (nI x), .ref h0]) (show ((nI (5 * n)) + 2) = nI (5 * n + 2) from nI_add (5 * n) 2)) ?_
    refine va_sld hx hb hXs hbl hbA hS (vp_in_nI (by omega) (by omega)) dL_law_629 ?_
    refine W.eq (g2 := F0 m 630 ls [.int (nI y), .int (nI x), .ref h0]) (congrArg (fun z9 => F0 m 630 ls [.int z9, .int (nI x), .ref h0]) (show (xs (nI (5 * n + 2)).toNatClampNeg) = (nI y) from (show xs (nI (5 * n + 2)).toNatClampNeg = (nI y) from by rw [nI_clamp (by omega)]; exact e2))) ?_
    refine lv_aload_n hx hb dL_law_630 rfl (lv_at hl 3 rfl) ?_
    have hPc := hP.sub (ws' := [(h0, .inr (0, [.ref ab, .int (nI rc), .int (nI rl), .int (nI ps)])), (ab, .inl (cI, 4096, .inl f)), (oa, .inl (cL, 1, .inr (.inl o)))]) [0, 1, 5] rfl
    have hDc := hD.sub (ws' := [(h0, .inr (0, [.ref ab, .int (nI rc), .int (nI rl), .int (nI ps)])), (ab, .inl (cI, 4096, .inl f)), (oa, .inl (cL, 1, .inr (.inl o)))]) [0, 1, 5] (by decide) rfl
    have hKc := hK.sub (tys' := [(cI, .int), (cL, .long)]) [0, 3] rfl
    have hFc := va_free (wc := [(h0, .inr (0, [.ref ab, .int (nI rc), .int (nI rl), .int (nI ps)])), (ab, .inl (cI, 4096, .inl f)), (oa, .inl (cL, 1, .inr (.inl o)))]) hD hS hA [0, 1, 5] rfl
    refine va_calli (vx_runSW (As := [.ref h0, .int (nI x), .int (nI y), .ref oa]) (rest := []) ⟨hx, hb, hml, hown, hts⟩ (c_L_passOf l dC dI cI h0 ab rc rl ps f cL oa o H.size x y k9 hx9 hy9 hk9 t1 t2 t3 t4) (vx_cwSW 4 hts gL_law_L_passOf rfl rfl rfl (by decide +kernel) ⟨Nat.le_of_ble_eq_true rfl, Nat.le_of_ble_eq_true rfl⟩) ⟨fun a U g mk q => by obtain ⟨q0, qZ, q1, qP, qK, qD⟩ := q; exact ⟨q0, rw_st.call qZ, q1, qP, va_K.moved (u := U) (U := U.calling g mk a) (Vm.Alike.refl U.vm) qK, qD⟩, fun U hU hW => ⟨rfl, rw_st.to hZ hS hU hW, by rw [hU], by rw [hU]; exact hPc, va_K.moved hW.alike hKc, hDc.weaken (fun _ _ _ _ => trivial)⟩⟩ rfl rfl hl.1 rfl (lv_room (Nat.le_of_ble_eq_true rfl)) dL_law_631 ⟨by show 6 + n + 0 ≤ 1031; omega, by show 12299 + 6 * n + 0 ≤ 20497; omega⟩) hS (fun q _ h => hFc q h) hFc (fun k u t9 H1 locs ht hvm ek hB hz1 hk1 hS => ?_)
    obtain ⟨hP1, hK1, hD1⟩ := hB
    rw [ht] at hP1
    obtain ⟨hP, hD⟩ := va_join (wr := [(h1, .inr (1, [.int fl, .int (nI rc), .int (nI rl), .int (nI ps), .ref b1, .ref b2])), (b1, .inl (cJ, 4096, .inl g)), (b2, .inl (cK, 4096, .inl t))]) (w1 := [(h0, .inr (0, [.ref ab, .int (nI rc), .int (nI rl), .int (nI ps)])), (ab, .inl (cI, 4096, .inl f)), (oa, .inl (cL, 1, .inr (.inl (vp_updL o 0 (nI k9).toInt64))))]) hP hD [0, 1, 5] [2, 3, 4] rfl rfl (by decide) (by decide) hk1 hFc hP1 hD1
    generalize H1 = H at hP hS ⊢
    have hP := hP.sub (ws' := [(h0, .inr (0, [.ref ab, .int (nI rc), .int (nI rl), .int (nI ps)])), (ab, .inl (cI, 4096, .inl f)), (h1, .inr (1, [.int fl, .int (nI rc), .int (nI rl), .int (nI ps), .ref b1, .ref b2])), (b1, .inl (cJ, 4096, .inl g)), (b2, .inl (cK, 4096, .inl t)), (oa, .inl (cL, 1, .inr (.inl (vp_updL o 0 (nI k9).toInt64))))]) [3, 4, 0, 1, 2, 5] rfl
    have hD := hD.sub (ws' := [(h0, .inr (0, [.ref ab, .int (nI rc), .int (nI rl), .int (nI ps)])), (ab, .inl (cI, 4096, .inl f)), (h1, .inr (1, [.int fl, .int (nI rc), .int (nI rl), .int (nI ps), .ref b1, .ref b2])), (b1, .inl (cJ, 4096, .inl g)), (b2, .inl (cK, 4096, .inl t)), (oa, .inl (cL, 1, .inr (.inl (vp_updL o 0 (nI k9).toInt64))))]) [3, 4, 0, 1, 2, 5] (by decide) rfl
    have hP : va_P (dC, dI) rw_cl [(h0, .inr (0, [.ref ab, .int (nI rc), .int (nI rl), .int (nI ps)])), (ab, .inl (cI, 4096, .inl f)), (h1, .inr (1, [.int fl, .int (nI rc), .int (nI rl), .int (nI ps), .ref b1, .ref b2])), (b1, .inl (cJ, 4096, .inl g)), (b2, .inl (cK, 4096, .inl t)), (oa, .inl (cL, 1, .inr (.inl (vp_updL o 0 (nI k9).toInt64))))] H := hP
    have hD : va_D A [(h0, .inr (0, [.ref ab, .int (nI rc), .int (nI rl), .int (nI ps)])), (ab, .inl (cI, 4096, .inl f)), (h1, .inr (1, [.int fl, .int (nI rc), .int (nI rl), .int (nI ps), .ref b1, .ref b2])), (b1, .inl (cJ, 4096, .inl g)), (b2, .inl (cK, 4096, .inl t)), (oa, .inl (cL, 1, .inr (.inl (vp_updL o 0 (nI k9).toInt64))))] := hD
    refine W.widen (k := 6 + n) (n := 12299 + 6 * n) (Nat.le_refl _) (Nat.le_refl _) ?_
    subst ek
    refine lv_istore hx hb dL_law_634 hl (by decide) rfl (fun ls hl => ?_)
    have hl : lv_has ls 7 [(5, .int 0), (0, .ref b), (1, .ref h0), (2, .ref h1), (3, .ref oa), (4, .int (nI (5 * n)))] := hl
    refine lv_aload_n hx hb dL_law_636 rfl (lv_at hl 3 rfl) ?_
    refine lv_aload_n hx hb dL_law_637 rfl (lv_at hl 1 rfl) ?_
    refine lv_iload hx hb dL_law_638 (lv_at hl 5 rfl) ?_
    refine lv_iconst (v := 1) hx hb dL_law_640 (by decide) ?_
    refine lv_iadd hx hb dL_law_641 ?_
    refine W.eq (g2 := F0 m 642 ls [.int (nI (5 * n + 1)), .ref b, .ref h1]) (congrArg (fun z9 => F0 m 642 ls [.int z9, .ref b, .ref h1]) (show ((nI (5 * n)) + 1) = nI (5 * n + 1) from nI_add (5 * n) 1)) ?_
    refine va_sld hx hb hXs hbl hbA hS (vp_in_nI (by omega) (by omega)) dL_law_642 ?_
    refine W.eq (g2 := F0 m 643 ls [.int (nI x), .ref h1]) (congrArg (fun z9 => F0 m 643 ls [.int z9, .ref h1]) (show (xs (nI (5 * n + 1)).toNatClampNeg) = (nI x) from (show xs (nI (5 * n + 1)).toNatClampNeg = (nI x) from by rw [nI_clamp (by omega)]; exact e1))) ?_
    refine lv_aload_n hx hb dL_law_643 rfl (lv_at hl 1 rfl) ?_
    refine lv_iload hx hb dL_law_644 (lv_at hl 5 rfl) ?_
    refine lv_iconst (v := 2) hx hb dL_law_646 (by decide) ?_
    refine lv_iadd hx hb dL_law_647 ?_
    refine W.eq (g2 := F0 m 648 ls [.int (nI (5 * n + 2)), .ref b, .int (nI x), .ref h1]) (congrArg (fun z9 => F0 m 648 ls [.int z9, .ref b, .int (nI x), .ref h1]) (show ((nI (5 * n)) + 2) = nI (5 * n + 2) from nI_add (5 * n) 2)) ?_
    refine va_sld hx hb hXs hbl hbA hS (vp_in_nI (by omega) (by omega)) dL_law_648 ?_
    refine W.eq (g2 := F0 m 649 ls [.int (nI y), .int (nI x), .ref h1]) (congrArg (fun z9 => F0 m 649 ls [.int z9, .int (nI x), .ref h1]) (show (xs (nI (5 * n + 2)).toNatClampNeg) = (nI y) from (show xs (nI (5 * n + 2)).toNatClampNeg = (nI y) from by rw [nI_clamp (by omega)]; exact e2))) ?_
    have hPc := hP.sub (ws' := [(h1, .inr (1, [.int fl, .int (nI rc), .int (nI rl), .int (nI ps), .ref b1, .ref b2])), (b1, .inl (cJ, 4096, .inl g)), (b2, .inl (cK, 4096, .inl t))]) [2, 3, 4] rfl
    have hDc := hD.sub (ws' := [(h1, .inr (1, [.int fl, .int (nI rc), .int (nI rl), .int (nI ps), .ref b1, .ref b2])), (b1, .inl (cJ, 4096, .inl g)), (b2, .inl (cK, 4096, .inl t))]) [2, 3, 4] (by decide) rfl
    have hKc := hK.sub (tys' := [(cJ, .int), (cK, .int)]) [1, 2] rfl
    have hFc := va_free (wc := [(h1, .inr (1, [.int fl, .int (nI rc), .int (nI rl), .int (nI ps), .ref b1, .ref b2])), (b1, .inl (cJ, 4096, .inl g)), (b2, .inl (cK, 4096, .inl t))]) hD hS hA [2, 3, 4] rfl
    refine va_calli (va_runV (C := RX1) (As := [.int (nI x), .int (nI y)]) (rest := []) ⟨hx, hb, hml, hown, htsY⟩ (c_Y1_passOf l dC dI cJ cK h1 b1 b2 fl rc rl ps g t H.size x y hx9 hy9) (cwV 2 htsY gL_law_Y1_passOf rfl rfl rfl (by decide +kernel) ⟨Nat.le_of_ble_eq_true rfl, Nat.le_of_ble_eq_true rfl⟩) ⟨fun a U g mk q => by obtain ⟨q0, q1, qP, qK, qD⟩ := q; exact ⟨q0, q1, qP, va_K.moved (u := U) (U := U.calling g mk a) (Vm.Alike.refl U.vm) qK, qD⟩, va_recv hK hP (ci := 1) (q0 := 2) rfl rfl, fun U hU hW => ⟨rfl, by rw [hU], by rw [hU]; exact hPc, va_K.moved hW.alike hKc, hDc.weaken (fun _ _ _ _ => trivial)⟩⟩ rfl rfl hl.1 rfl (lv_room (Nat.le_of_ble_eq_true rfl)) dL_law_649 ⟨by show 6 + n + 0 ≤ 1031; omega, by show 12299 + 6 * n + 0 ≤ 20497; omega⟩) hS (fun q _ h => hFc q h) hFc (fun rb u t9 H1 locs ht hvm eb hB hz1 hk1 hS => ?_)
    obtain ⟨hP1, hK1, hD1⟩ := hB
    rw [ht] at hP1
    obtain ⟨hP, hD⟩ := va_join (wr := [(h0, .inr (0, [.ref ab, .int (nI rc), .int (nI rl), .int (nI ps)])), (ab, .inl (cI, 4096, .inl f)), (oa, .inl (cL, 1, .inr (.inl (vp_updL o 0 (nI k9).toInt64))))]) (w1 := [(h1, .inr (1, [.int 0, .int (nI rc), .int (nI rl), .int (nI ps), .ref b1, .ref b2])), (b1, .inl (cJ, 4096, .inl g)), (b2, .inl (cK, 4096, .inl t))]) hP hD [2, 3, 4] [0, 1, 5] rfl rfl (by decide) (by decide) hk1 hFc hP1 hD1
    generalize H1 = H at hP hS ⊢
    have hP := hP.sub (ws' := [(h0, .inr (0, [.ref ab, .int (nI rc), .int (nI rl), .int (nI ps)])), (ab, .inl (cI, 4096, .inl f)), (h1, .inr (1, [.int 0, .int (nI rc), .int (nI rl), .int (nI ps), .ref b1, .ref b2])), (b1, .inl (cJ, 4096, .inl g)), (b2, .inl (cK, 4096, .inl t)), (oa, .inl (cL, 1, .inr (.inl (vp_updL o 0 (nI k9).toInt64))))]) [0, 1, 3, 4, 5, 2] rfl
    have hD := hD.sub (ws' := [(h0, .inr (0, [.ref ab, .int (nI rc), .int (nI rl), .int (nI ps)])), (ab, .inl (cI, 4096, .inl f)), (h1, .inr (1, [.int 0, .int (nI rc), .int (nI rl), .int (nI ps), .ref b1, .ref b2])), (b1, .inl (cJ, 4096, .inl g)), (b2, .inl (cK, 4096, .inl t)), (oa, .inl (cL, 1, .inr (.inl (vp_updL o 0 (nI k9).toInt64))))]) [0, 1, 3, 4, 5, 2] (by decide) rfl
    have hP : va_P (dC, dI) rw_cl [(h0, .inr (0, [.ref ab, .int (nI rc), .int (nI rl), .int (nI ps)])), (ab, .inl (cI, 4096, .inl f)), (h1, .inr (1, [.int 0, .int (nI rc), .int (nI rl), .int (nI ps), .ref b1, .ref b2])), (b1, .inl (cJ, 4096, .inl g)), (b2, .inl (cK, 4096, .inl t)), (oa, .inl (cL, 1, .inr (.inl (vp_updL o 0 (nI k9).toInt64))))] H := hP
    have hD : va_D A [(h0, .inr (0, [.ref ab, .int (nI rc), .int (nI rl), .int (nI ps)])), (ab, .inl (cI, 4096, .inl f)), (h1, .inr (1, [.int 0, .int (nI rc), .int (nI rl), .int (nI ps), .ref b1, .ref b2])), (b1, .inl (cJ, 4096, .inl g)), (b2, .inl (cK, 4096, .inl t)), (oa, .inl (cL, 1, .inr (.inl (vp_updL o 0 (nI k9).toInt64))))] := hD
    refine W.widen (k := 6 + n) (n := 12299 + 6 * n) (Nat.le_refl _) (Nat.le_refl _) ?_
    obtain ⟨k8, eb, hk8⟩ := eb
    have eb : rb = nI k9 := by rw [eb, rf_po_u hk8 hk9]
    subst eb
    refine lv_istore hx hb dL_law_652 hl (by decide) rfl (fun ls hl => ?_)
    have hl : lv_has ls 7 [(6, .int (nI k9)), (5, .int 0), (0, .ref b), (1, .ref h0), (2, .ref h1), (3, .ref oa), (4, .int (nI (5 * n)))] := hl
    refine lv_aload_n hx hb dL_law_654 rfl (lv_at hl 4 rfl) ?_
    have hPc := hP.sub (ws' := [(h1, .inr (1, [.int 0, .int (nI rc), .int (nI rl), .int (nI ps), .ref b1, .ref b2])), (b1, .inl (cJ, 4096, .inl g)), (b2, .inl (cK, 4096, .inl t))]) [2, 3, 4] rfl
    have hKc := hK.sub (tys' := [(cJ, .int), (cK, .int)]) [1, 2] rfl
    refine vp_callSi (W.runV (C := RX1) (As := []) (rest := []) ⟨hx, hb, hml, hown, htsY⟩ (c_Y1_thrown l dC dI cJ cK h1 b1 b2 0 rc rl ps g t ) (cwV 0 htsY gL_law_Y1_thrown rfl rfl rfl (by decide +kernel) ⟨Nat.le_of_ble_eq_true rfl, Nat.le_of_ble_eq_true rfl⟩) ⟨fun a U g mk q => by obtain ⟨q0, qP, qK⟩ := q; exact ⟨q0, qP, va_K.moved (u := U) (U := U.calling g mk a) (Vm.Alike.refl U.vm) qK⟩, va_recv hK hP (ci := 1) (q0 := 2) rfl rfl, fun U hU hW => ⟨rfl, by rw [hU]; exact hPc, va_K.moved hW.alike hKc⟩⟩ rfl rfl hl.1 rfl (lv_room (Nat.le_of_ble_eq_true rfl)) dL_law_655 ⟨by show 6 + n + 0 ≤ 1031; omega, by show 12299 + 6 * n + 0 ≤ 20497; omega⟩) (fun rt et => ?_)
    subst et
    refine lv_iload hx hb dL_law_658 (lv_at hl 1 rfl) ?_
    refine lv_icmp_eq (tgt := 665) hx hb dL_law_660 (by decide) (fun hq => ?_) (fun hq => ?_)
    · refine lv_iload hx hb dL_law_665 (lv_at hl 1 rfl) ?_
      refine lv_if_ne (tgt := 682) hx hb dL_law_667 (by decide) (fun hz => ?_) (fun hz => ?_)
      · exact absurd (rfl : (0 : Int32) = 0) hz
      · refine lv_aload_n hx hb dL_law_670 rfl (lv_at hl 5 rfl) ?_
        refine lv_iconst (v := 0) hx hb dL_law_671 (by decide) ?_
        refine va_lald hx hb hK hP 5 3 rfl rfl (vp_in_nI (n := 0) (by omega) (by omega)) dL_law_672 ?_
        refine lv_topl (fun v9 e9 => ?_)
        have e8 : v9 = ((nI k9)).toInt64 := e9.trans ((show (vp_updL o 0 (nI k9).toInt64) (0 : Int32).toNatClampNeg = (nI k9).toInt64 from by rw [show (0 : Int32).toNatClampNeg = 0 from by decide]; exact if_pos rfl).trans (congrArg Int32.toInt64 (rfl)))
        refine lv_iload hx hb dL_law_673 (lv_at hl 0 rfl) ?_
        refine lv_i2l hx hb dL_law_675 rfl ?_
        refine W.lcmp hx hb dL_law_676 ?_
        refine lv_if_eq (tgt := 682) hx hb dL_law_677 (by decide) (fun hw => ?_) (fun hw => ?_)
        · refine lv_goto (tgt := 685) hx hb dL_law_682 (by decide) ?_
          refine lv_iinc (k := 6) (v := (nI (5 * (n + 1)))) hx hb dL_law_685 hl rfl (show nI (5 * n) + nI 5 = nI (5 * (n + 1)) from (nI_add _ _).trans (congrArg nI (by omega))) (by decide) rfl (fun ls hl => ?_)
          have hl : lv_has ls 7 [(4, .int (nI (5 * (n + 1)))), (6, .int (nI k9)), (5, .int 0), (0, .ref b), (1, .ref h0), (2, .ref h1), (3, .ref oa)] := hl
          refine lv_goto (tgt := 23) hx hb dL_law_688 (by decide) ?_
          refine W.widen (k := 6 + (n + 1)) (n := 12299 + 6 * (n + 1)) (by omega) (by omega) ?_
          exact ih _ _ _ ⟨rc, rl, ps, f, 0, g, t, (vp_updL o 0 (nI k9).toInt64), ok, hR, lv_sub hl [3, 4, 5, 6, 0] rfl, hP, hD, hS⟩
        · exact absurd (by rw [e8]; exact rf_cmp _) hw
    · exact absurd (rfl : (0 : Int32) = 0) hq
