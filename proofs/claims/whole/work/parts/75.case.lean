set_option maxHeartbeats 8000000 in
set_option maxRecDepth 100000 in
theorem lw_case_open {p : Program} {l : Launch} {e : Env} {s : State} {m : MethodId} {below : List Frame} {meth : Method} {c : Code} {Q : State → Prop} {A : Nat → Prop} {b L : Nat} {xs : Nat → Int32} {dC : Nat → ClassId} {dI : Nat → Nat → Nat} {h0 ab : Nat} {cI : ClassId} {h1 b1 b2 : Nat} {cJ cK : ClassId} {oa : Nat} {cL : ClassId} {sa t1 t2 t3 t4 : Nat} (hl9 : l.stackTraces = false) (C9 : lw_F p s m c A b L xs dC dI cI cJ cK cL sa t1 t2 t3 t4) {n : Nat} (hn : n ≤ 512) (hL5 : 5 * n + 5 ≤ L) {rc rl ps : Nat} {f : Nat → Int32} {fl : Int32} {g t : Nat → Int32} {o : Nat → Int64} {ls : Array Slot} {H : Heap} {locs : List Loc} (ok : rf_ok rc rl ps) (hR : rf_R (rc * rl) f g) (hl : lv_has ls 7 [(0, .ref b), (1, .ref h0), (2, .ref h1), (3, .ref oa), (4, .int (nI (5 * n)))]) (hP : va_P (dC, dI) rw_cl (lw_W h0 ab cI h1 b1 b2 cJ cK oa cL rc rl ps f fl g t o) H) (hD : va_D A (lw_W h0 ab cI h1 b1 b2 cJ cK oa cL rc rl ps f fl g t o)) (hS : va_S A s.heap H locs) (ih : ∀ (ls : Array Slot) (H : Heap) (locs : List Loc), lw_I s A dC dI b h0 ab cI h1 b1 b2 cJ cK oa cL (n + 1) ls H locs → W p l e room_1 s m #[Value.ref b] below meth c H locs (6 + (n + 1)) (12299 + 6 * (n + 1)) Q (F0 m 23 ls [])) : W p l e room_1 s m #[Value.ref b] below meth c H locs (6 + n) (12299 + 6 * n) Q (F0 m 96 ls []) := by
  obtain ⟨hx, hb, hml, hown, hts, htsY, hXs, hbl, hbA, hA, hA2, hK, hX, hZ, hL⟩ := C9
  by_cases hc9 : ¬ rf_op (xs (5 * n + 1)) (xs (5 * n + 2)) (xs (5 * n + 3))
  · refine lv_aload_n hx hb dL_law_96 rfl (lv_at hl 1 rfl) ?_
    refine lv_aload_n hx hb dL_law_97 rfl (lv_at hl 0 rfl) ?_
    refine lv_iload hx hb dL_law_98 (lv_at hl 4 rfl) ?_
    refine lv_iconst (v := 1) hx hb dL_law_100 (by decide) ?_
    refine lv_iadd hx hb dL_law_101 ?_
    refine W.eq (g2 := F0 m 102 ls [.int (nI (5 * n + 1)), .ref b, .ref h0]) (congrArg (fun z9 => F0 m 102 ls [.int z9, .ref b, .ref h0]) (show ((nI (5 * n)) + 1) = nI (5 * n + 1) from nI_add (5 * n) 1)) ?_
    refine va_sld hx hb hXs hbl hbA hS (vp_in_nI (by omega) (by omega)) dL_law_102 ?_
    refine W.eq (g2 := F0 m 103 ls [.int (xs (5 * n + 1)), .ref h0]) (congrArg (fun z9 => F0 m 103 ls [.int z9, .ref h0]) (show (xs (nI (5 * n + 1)).toNatClampNeg) = (xs (5 * n + 1)) from (show xs (nI (5 * n + 1)).toNatClampNeg = (xs (5 * n + 1)) from by rw [nI_clamp (by omega)]))) ?_
    refine lv_aload_n hx hb dL_law_103 rfl (lv_at hl 0 rfl) ?_
    refine lv_iload hx hb dL_law_104 (lv_at hl 4 rfl) ?_
    refine lv_iconst (v := 2) hx hb dL_law_106 (by decide) ?_
    refine lv_iadd hx hb dL_law_107 ?_
    refine W.eq (g2 := F0 m 108 ls [.int (nI (5 * n + 2)), .ref b, .int (xs (5 * n + 1)), .ref h0]) (congrArg (fun z9 => F0 m 108 ls [.int z9, .ref b, .int (xs (5 * n + 1)), .ref h0]) (show ((nI (5 * n)) + 2) = nI (5 * n + 2) from nI_add (5 * n) 2)) ?_
    refine va_sld hx hb hXs hbl hbA hS (vp_in_nI (by omega) (by omega)) dL_law_108 ?_
    refine W.eq (g2 := F0 m 109 ls [.int (xs (5 * n + 2)), .int (xs (5 * n + 1)), .ref h0]) (congrArg (fun z9 => F0 m 109 ls [.int z9, .int (xs (5 * n + 1)), .ref h0]) (show (xs (nI (5 * n + 2)).toNatClampNeg) = (xs (5 * n + 2)) from (show xs (nI (5 * n + 2)).toNatClampNeg = (xs (5 * n + 2)) from by rw [nI_clamp (by omega)]))) ?_
    refine lv_aload_n hx hb dL_law_109 rfl (lv_at hl 0 rfl) ?_
    refine lv_iload hx hb dL_law_110 (lv_at hl 4 rfl) ?_
    refine lv_iconst (v := 3) hx hb dL_law_112 (by decide) ?_
    refine lv_iadd hx hb dL_law_113 ?_
    refine W.eq (g2 := F0 m 114 ls [.int (nI (5 * n + 3)), .ref b, .int (xs (5 * n + 2)), .int (xs (5 * n + 1)), .ref h0]) (congrArg (fun z9 => F0 m 114 ls [.int z9, .ref b, .int (xs (5 * n + 2)), .int (xs (5 * n + 1)), .ref h0]) (show ((nI (5 * n)) + 3) = nI (5 * n + 3) from nI_add (5 * n) 3)) ?_
    refine va_sld hx hb hXs hbl hbA hS (vp_in_nI (by omega) (by omega)) dL_law_114 ?_
    refine W.eq (g2 := F0 m 115 ls [.int (xs (5 * n + 3)), .int (xs (5 * n + 2)), .int (xs (5 * n + 1)), .ref h0]) (congrArg (fun z9 => F0 m 115 ls [.int z9, .int (xs (5 * n + 2)), .int (xs (5 * n + 1)), .ref h0]) (show (xs (nI (5 * n + 3)).toNatClampNeg) = (xs (5 * n + 3)) from (show xs (nI (5 * n + 3)).toNatClampNeg = (xs (5 * n + 3)) from by rw [nI_clamp (by omega)]))) ?_
    have hPc := hP.sub (ws' := [(h0, .inr (0, [.ref ab, .int (nI rc), .int (nI rl), .int (nI ps)])), (ab, .inl (cI, 4096, .inl f))]) [0, 1] rfl
    have hDc := hD.sub (ws' := [(h0, .inr (0, [.ref ab, .int (nI rc), .int (nI rl), .int (nI ps)])), (ab, .inl (cI, 4096, .inl f))]) [0, 1] (by decide) rfl
    have hKc := hK.sub (tys' := [(cI, .int)]) [0] rfl
    have hFc := va_free (wc := [(h0, .inr (0, [.ref ab, .int (nI rc), .int (nI rl), .int (nI ps)])), (ab, .inl (cI, 4096, .inl f))]) hD hS hA [0, 1] rfl
    refine va_calli (vx_runSW (As := [.ref h0, .int (xs (5 * n + 1)), .int (xs (5 * n + 2)), .int (xs (5 * n + 3))]) (rest := []) ⟨hx, hb, hml, hown, hts⟩ (c_L_open_bad l hl9 sa dC dI cI h0 ab rc rl ps f H.size (xs (5 * n + 1)) (xs (5 * n + 2)) (xs (5 * n + 3)) hc9) (vx_cwSW 4 hts gL_law_L_open rfl rfl rfl (by decide +kernel) ⟨Nat.le_of_ble_eq_true rfl, Nat.le_of_ble_eq_true rfl⟩) ⟨fun a U g mk q => by obtain ⟨q0, qX, q1, qP, qK, qD⟩ := q; exact ⟨q0, rw_XA.call qX, q1, qP, va_K.moved (u := U) (U := U.calling g mk a) (Vm.Alike.refl U.vm) qK, qD⟩, fun U hU hW => ⟨rfl, rw_XA.to hX hS (fun q z => hA q (Nat.le_trans hS.1 z)) hU hW, by rw [hU], by rw [hU]; exact hPc, va_K.moved hW.alike hKc, hDc.weaken (fun _ _ _ _ => trivial)⟩⟩ rfl rfl hl.1 rfl (lv_room (Nat.le_of_ble_eq_true rfl)) dL_law_115 ⟨by show 6 + n + 1 ≤ 1031; omega, by show 12299 + 6 * n + 6 ≤ 20497; omega⟩) hS (fun q _ h => hFc q h) hFc (fun k u t9 H1 locs ht hvm ek hB hz1 hk1 hS => ?_)
    obtain ⟨hP1, hK1, hD1⟩ := hB
    rw [ht] at hP1
    obtain ⟨hP, hD⟩ := va_join (wr := [(h1, .inr (1, [.int fl, .int (nI rc), .int (nI rl), .int (nI ps), .ref b1, .ref b2])), (b1, .inl (cJ, 4096, .inl g)), (b2, .inl (cK, 4096, .inl t)), (oa, .inl (cL, 1, .inr (.inl o)))]) (w1 := [(h0, .inr (0, [.ref ab, .int (nI rc), .int (nI rl), .int (nI ps)])), (ab, .inl (cI, 4096, .inl f))]) hP hD [0, 1] [2, 3, 4, 5] rfl rfl (by decide) (by decide) hk1 hFc hP1 hD1
    generalize H1 = H at hP hS ⊢
    have hP := hP.sub (ws' := [(h0, .inr (0, [.ref ab, .int (nI rc), .int (nI rl), .int (nI ps)])), (ab, .inl (cI, 4096, .inl f)), (h1, .inr (1, [.int fl, .int (nI rc), .int (nI rl), .int (nI ps), .ref b1, .ref b2])), (b1, .inl (cJ, 4096, .inl g)), (b2, .inl (cK, 4096, .inl t)), (oa, .inl (cL, 1, .inr (.inl o)))]) [4, 5, 0, 1, 2, 3] rfl
    have hD := hD.sub (ws' := [(h0, .inr (0, [.ref ab, .int (nI rc), .int (nI rl), .int (nI ps)])), (ab, .inl (cI, 4096, .inl f)), (h1, .inr (1, [.int fl, .int (nI rc), .int (nI rl), .int (nI ps), .ref b1, .ref b2])), (b1, .inl (cJ, 4096, .inl g)), (b2, .inl (cK, 4096, .inl t)), (oa, .inl (cL, 1, .inr (.inl o)))]) [4, 5, 0, 1, 2, 3] (by decide) rfl
    have hP : va_P (dC, dI) rw_cl [(h0, .inr (0, [.ref ab, .int (nI rc), .int (nI rl), .int (nI ps)])), (ab, .inl (cI, 4096, .inl f)), (h1, .inr (1, [.int fl, .int (nI rc), .int (nI rl), .int (nI ps), .ref b1, .ref b2])), (b1, .inl (cJ, 4096, .inl g)), (b2, .inl (cK, 4096, .inl t)), (oa, .inl (cL, 1, .inr (.inl o)))] H := hP
    have hD : va_D A [(h0, .inr (0, [.ref ab, .int (nI rc), .int (nI rl), .int (nI ps)])), (ab, .inl (cI, 4096, .inl f)), (h1, .inr (1, [.int fl, .int (nI rc), .int (nI rl), .int (nI ps), .ref b1, .ref b2])), (b1, .inl (cJ, 4096, .inl g)), (b2, .inl (cK, 4096, .inl t)), (oa, .inl (cL, 1, .inr (.inl o)))] := hD
    subst ek
    refine lv_istore hx hb dL_law_118 hl (by decide) rfl (fun ls hl => ?_)
    have hl : lv_has ls 7 [(5, .int 1), (0, .ref b), (1, .ref h0), (2, .ref h1), (3, .ref oa), (4, .int (nI (5 * n)))] := hl
    refine lv_aload_n hx hb dL_law_120 rfl (lv_at hl 3 rfl) ?_
    refine lv_aload_n hx hb dL_law_121 rfl (lv_at hl 1 rfl) ?_
    refine lv_iload hx hb dL_law_122 (lv_at hl 5 rfl) ?_
    refine lv_iconst (v := 1) hx hb dL_law_124 (by decide) ?_
    refine lv_iadd hx hb dL_law_125 ?_
    refine W.eq (g2 := F0 m 126 ls [.int (nI (5 * n + 1)), .ref b, .ref h1]) (congrArg (fun z9 => F0 m 126 ls [.int z9, .ref b, .ref h1]) (show ((nI (5 * n)) + 1) = nI (5 * n + 1) from nI_add (5 * n) 1)) ?_
    refine va_sld hx hb hXs hbl hbA hS (vp_in_nI (by omega) (by omega)) dL_law_126 ?_
    refine W.eq (g2 := F0 m 127 ls [.int (xs (5 * n + 1)), .ref h1]) (congrArg (fun z9 => F0 m 127 ls [.int z9, .ref h1]) (show (xs (nI (5 * n + 1)).toNatClampNeg) = (xs (5 * n + 1)) from (show xs (nI (5 * n + 1)).toNatClampNeg = (xs (5 * n + 1)) from by rw [nI_clamp (by omega)]))) ?_
    refine lv_aload_n hx hb dL_law_127 rfl (lv_at hl 1 rfl) ?_
    refine lv_iload hx hb dL_law_128 (lv_at hl 5 rfl) ?_
    refine lv_iconst (v := 2) hx hb dL_law_130 (by decide) ?_
    refine lv_iadd hx hb dL_law_131 ?_
    refine W.eq (g2 := F0 m 132 ls [.int (nI (5 * n + 2)), .ref b, .int (xs (5 * n + 1)), .ref h1]) (congrArg (fun z9 => F0 m 132 ls [.int z9, .ref b, .int (xs (5 * n + 1)), .ref h1]) (show ((nI (5 * n)) + 2) = nI (5 * n + 2) from nI_add (5 * n) 2)) ?_
    refine va_sld hx hb hXs hbl hbA hS (vp_in_nI (by omega) (by omega)) dL_law_132 ?_
    refine W.eq (g2 := F0 m 133 ls [.int (xs (5 * n + 2)), .int (xs (5 * n + 1)), .ref h1]) (congrArg (fun z9 => F0 m 133 ls [.int z9, .int (xs (5 * n + 1)), .ref h1]) (show (xs (nI (5 * n + 2)).toNatClampNeg) = (xs (5 * n + 2)) from (show xs (nI (5 * n + 2)).toNatClampNeg = (xs (5 * n + 2)) from by rw [nI_clamp (by omega)]))) ?_
    refine lv_aload_n hx hb dL_law_133 rfl (lv_at hl 1 rfl) ?_
    refine lv_iload hx hb dL_law_134 (lv_at hl 5 rfl) ?_
    refine lv_iconst (v := 3) hx hb dL_law_136 (by decide) ?_
    refine lv_iadd hx hb dL_law_137 ?_
    refine W.eq (g2 := F0 m 138 ls [.int (nI (5 * n + 3)), .ref b, .int (xs (5 * n + 2)), .int (xs (5 * n + 1)), .ref h1]) (congrArg (fun z9 => F0 m 138 ls [.int z9, .ref b, .int (xs (5 * n + 2)), .int (xs (5 * n + 1)), .ref h1]) (show ((nI (5 * n)) + 3) = nI (5 * n + 3) from nI_add (5 * n) 3)) ?_
    refine va_sld hx hb hXs hbl hbA hS (vp_in_nI (by omega) (by omega)) dL_law_138 ?_
    refine W.eq (g2 := F0 m 139 ls [.int (xs (5 * n + 3)), .int (xs (5 * n + 2)), .int (xs (5 * n + 1)), .ref h1]) (congrArg (fun z9 => F0 m 139 ls [.int z9, .int (xs (5 * n + 2)), .int (xs (5 * n + 1)), .ref h1]) (show (xs (nI (5 * n + 3)).toNatClampNeg) = (xs (5 * n + 3)) from (show xs (nI (5 * n + 3)).toNatClampNeg = (xs (5 * n + 3)) from by rw [nI_clamp (by omega)]))) ?_
    have hPc := hP.sub (ws' := [(h1, .inr (1, [.int fl, .int (nI rc), .int (nI rl), .int (nI ps), .ref b1, .ref b2])), (b1, .inl (cJ, 4096, .inl g)), (b2, .inl (cK, 4096, .inl t))]) [2, 3, 4] rfl
    have hDc := hD.sub (ws' := [(h1, .inr (1, [.int fl, .int (nI rc), .int (nI rl), .int (nI ps), .ref b1, .ref b2])), (b1, .inl (cJ, 4096, .inl g)), (b2, .inl (cK, 4096, .inl t))]) [2, 3, 4] (by decide) rfl
    have hKc := hK.sub (tys' := [(cJ, .int), (cK, .int)]) [1, 2] rfl
    have hFc := va_free (wc := [(h1, .inr (1, [.int fl, .int (nI rc), .int (nI rl), .int (nI ps), .ref b1, .ref b2])), (b1, .inl (cJ, 4096, .inl g)), (b2, .inl (cK, 4096, .inl t))]) hD hS hA [2, 3, 4] rfl
    refine va_callv (va_runV (C := RX1) (As := [.int (xs (5 * n + 1)), .int (xs (5 * n + 2)), .int (xs (5 * n + 3))]) (rest := []) ⟨hx, hb, hml, hown, htsY⟩ (c_Y1_open_bad l dC dI cJ cK h1 b1 b2 fl rc rl ps g t H.size (xs (5 * n + 1)) (xs (5 * n + 2)) (xs (5 * n + 3)) hc9) (cwV 3 htsY gL_law_Y1_open rfl rfl rfl (by decide +kernel) ⟨Nat.le_of_ble_eq_true rfl, Nat.le_of_ble_eq_true rfl⟩) ⟨fun a U g mk q => by obtain ⟨q0, q1, qP, qK, qD⟩ := q; exact ⟨q0, q1, qP, va_K.moved (u := U) (U := U.calling g mk a) (Vm.Alike.refl U.vm) qK, qD⟩, va_recv hK hP (ci := 1) (q0 := 2) rfl rfl, fun U hU hW => ⟨rfl, by rw [hU], by rw [hU]; exact hPc, va_K.moved hW.alike hKc, hDc.weaken (fun _ _ _ _ => trivial)⟩⟩ rfl rfl hl.1 rfl (lv_room (Nat.le_of_ble_eq_true rfl)) dL_law_139 ⟨by show 6 + n + 1 + 0 ≤ 1031; omega, by show 12299 + 6 * n + 6 + 0 ≤ 20497; omega⟩) hS (fun q _ h => hFc q h) hFc (fun u t9 H1 locs ht hvm hw hB hz1 hk1 hS => ?_)
    obtain ⟨hP1, hK1, hD1⟩ := hB
    rw [ht] at hP1
    obtain ⟨hP, hD⟩ := va_join (wr := [(h0, .inr (0, [.ref ab, .int (nI rc), .int (nI rl), .int (nI ps)])), (ab, .inl (cI, 4096, .inl f)), (oa, .inl (cL, 1, .inr (.inl o)))]) (w1 := [(h1, .inr (1, [.int 1, .int (nI rc), .int (nI rl), .int (nI ps), .ref b1, .ref b2])), (b1, .inl (cJ, 4096, .inl g)), (b2, .inl (cK, 4096, .inl t))]) hP hD [2, 3, 4] [0, 1, 5] rfl rfl (by decide) (by decide) hk1 hFc hP1 hD1
    generalize H1 = H at hP hS ⊢
    have hP := hP.sub (ws' := [(h0, .inr (0, [.ref ab, .int (nI rc), .int (nI rl), .int (nI ps)])), (ab, .inl (cI, 4096, .inl f)), (h1, .inr (1, [.int 1, .int (nI rc), .int (nI rl), .int (nI ps), .ref b1, .ref b2])), (b1, .inl (cJ, 4096, .inl g)), (b2, .inl (cK, 4096, .inl t)), (oa, .inl (cL, 1, .inr (.inl o)))]) [0, 1, 3, 4, 5, 2] rfl
    have hD := hD.sub (ws' := [(h0, .inr (0, [.ref ab, .int (nI rc), .int (nI rl), .int (nI ps)])), (ab, .inl (cI, 4096, .inl f)), (h1, .inr (1, [.int 1, .int (nI rc), .int (nI rl), .int (nI ps), .ref b1, .ref b2])), (b1, .inl (cJ, 4096, .inl g)), (b2, .inl (cK, 4096, .inl t)), (oa, .inl (cL, 1, .inr (.inl o)))]) [0, 1, 3, 4, 5, 2] (by decide) rfl
    have hP : va_P (dC, dI) rw_cl [(h0, .inr (0, [.ref ab, .int (nI rc), .int (nI rl), .int (nI ps)])), (ab, .inl (cI, 4096, .inl f)), (h1, .inr (1, [.int 1, .int (nI rc), .int (nI rl), .int (nI ps), .ref b1, .ref b2])), (b1, .inl (cJ, 4096, .inl g)), (b2, .inl (cK, 4096, .inl t)), (oa, .inl (cL, 1, .inr (.inl o)))] H := hP
    have hD : va_D A [(h0, .inr (0, [.ref ab, .int (nI rc), .int (nI rl), .int (nI ps)])), (ab, .inl (cI, 4096, .inl f)), (h1, .inr (1, [.int 1, .int (nI rc), .int (nI rl), .int (nI ps), .ref b1, .ref b2])), (b1, .inl (cJ, 4096, .inl g)), (b2, .inl (cK, 4096, .inl t)), (oa, .inl (cL, 1, .inr (.inl o)))] := hD
    refine W.widen (k := 6 + n + 1) (n := 12299 + 6 * n + 6) (Nat.le_refl _) (Nat.le_refl _) ?_
    refine lv_aload_n hx hb dL_law_142 rfl (lv_at hl 3 rfl) ?_
    have hPc := hP.sub (ws' := [(h1, .inr (1, [.int 1, .int (nI rc), .int (nI rl), .int (nI ps), .ref b1, .ref b2])), (b1, .inl (cJ, 4096, .inl g)), (b2, .inl (cK, 4096, .inl t))]) [2, 3, 4] rfl
    have hKc := hK.sub (tys' := [(cJ, .int), (cK, .int)]) [1, 2] rfl
    refine vp_callSi (W.runV (C := RX1) (As := []) (rest := []) ⟨hx, hb, hml, hown, htsY⟩ (c_Y1_thrown l dC dI cJ cK h1 b1 b2 1 rc rl ps g t ) (cwV 0 htsY gL_law_Y1_thrown rfl rfl rfl (by decide +kernel) ⟨Nat.le_of_ble_eq_true rfl, Nat.le_of_ble_eq_true rfl⟩) ⟨fun a U g mk q => by obtain ⟨q0, qP, qK⟩ := q; exact ⟨q0, qP, va_K.moved (u := U) (U := U.calling g mk a) (Vm.Alike.refl U.vm) qK⟩, va_recv hK hP (ci := 1) (q0 := 2) rfl rfl, fun U hU hW => ⟨rfl, by rw [hU]; exact hPc, va_K.moved hW.alike hKc⟩⟩ rfl rfl hl.1 rfl (lv_room (Nat.le_of_ble_eq_true rfl)) dL_law_143 ⟨by show 6 + n + 1 + 0 ≤ 1031; omega, by show 12299 + 6 * n + 6 + 0 ≤ 20497; omega⟩) (fun rt et => ?_)
    subst et
    refine lv_iload hx hb dL_law_146 (lv_at hl 0 rfl) ?_
    refine lv_icmp_eq (tgt := 153) hx hb dL_law_148 (by decide) (fun hq => ?_) (fun hq => ?_)
    · refine lv_goto (tgt := 685) hx hb dL_law_153 (by decide) ?_
      refine lv_iinc (k := 5) (v := (nI (5 * (n + 1)))) hx hb dL_law_685 hl rfl (show nI (5 * n) + nI 5 = nI (5 * (n + 1)) from (nI_add _ _).trans (congrArg nI (by omega))) (by decide) rfl (fun ls hl => ?_)
      have hl : lv_has ls 7 [(4, .int (nI (5 * (n + 1)))), (5, .int 1), (0, .ref b), (1, .ref h0), (2, .ref h1), (3, .ref oa)] := hl
      refine lv_goto (tgt := 23) hx hb dL_law_688 (by decide) ?_
      refine W.widen (k := 6 + (n + 1)) (n := 12299 + 6 * (n + 1)) (by omega) (by omega) ?_
      exact ih _ _ _ ⟨rc, rl, ps, f, 1, g, t, o, ok, hR, lv_sub hl [2, 3, 4, 5, 0] rfl, hP, hD, hS⟩
    · exact absurd (rfl : (1 : Int32) = 1) hq
  · obtain ⟨h, n9, z, e1, e2, e3, ok9⟩ := rf_op_ok (Classical.not_not.mp hc9)
    refine lv_aload_n hx hb dL_law_96 rfl (lv_at hl 1 rfl) ?_
    refine lv_aload_n hx hb dL_law_97 rfl (lv_at hl 0 rfl) ?_
    refine lv_iload hx hb dL_law_98 (lv_at hl 4 rfl) ?_
    refine lv_iconst (v := 1) hx hb dL_law_100 (by decide) ?_
    refine lv_iadd hx hb dL_law_101 ?_
    refine W.eq (g2 := F0 m 102 ls [.int (nI (5 * n + 1)), .ref b, .ref h0]) (congrArg (fun z9 => F0 m 102 ls [.int z9, .ref b, .ref h0]) (show ((nI (5 * n)) + 1) = nI (5 * n + 1) from nI_add (5 * n) 1)) ?_
    refine va_sld hx hb hXs hbl hbA hS (vp_in_nI (by omega) (by omega)) dL_law_102 ?_
    refine W.eq (g2 := F0 m 103 ls [.int (nI h), .ref h0]) (congrArg (fun z9 => F0 m 103 ls [.int z9, .ref h0]) (show (xs (nI (5 * n + 1)).toNatClampNeg) = (nI h) from (show xs (nI (5 * n + 1)).toNatClampNeg = (nI h) from by rw [nI_clamp (by omega)]; exact e1))) ?_
    refine lv_aload_n hx hb dL_law_103 rfl (lv_at hl 0 rfl) ?_
    refine lv_iload hx hb dL_law_104 (lv_at hl 4 rfl) ?_
    refine lv_iconst (v := 2) hx hb dL_law_106 (by decide) ?_
    refine lv_iadd hx hb dL_law_107 ?_
    refine W.eq (g2 := F0 m 108 ls [.int (nI (5 * n + 2)), .ref b, .int (nI h), .ref h0]) (congrArg (fun z9 => F0 m 108 ls [.int z9, .ref b, .int (nI h), .ref h0]) (show ((nI (5 * n)) + 2) = nI (5 * n + 2) from nI_add (5 * n) 2)) ?_
    refine va_sld hx hb hXs hbl hbA hS (vp_in_nI (by omega) (by omega)) dL_law_108 ?_
    refine W.eq (g2 := F0 m 109 ls [.int (nI n9), .int (nI h), .ref h0]) (congrArg (fun z9 => F0 m 109 ls [.int z9, .int (nI h), .ref h0]) (show (xs (nI (5 * n + 2)).toNatClampNeg) = (nI n9) from (show xs (nI (5 * n + 2)).toNatClampNeg = (nI n9) from by rw [nI_clamp (by omega)]; exact e2))) ?_
    refine lv_aload_n hx hb dL_law_109 rfl (lv_at hl 0 rfl) ?_
    refine lv_iload hx hb dL_law_110 (lv_at hl 4 rfl) ?_
    refine lv_iconst (v := 3) hx hb dL_law_112 (by decide) ?_
    refine lv_iadd hx hb dL_law_113 ?_
    refine W.eq (g2 := F0 m 114 ls [.int (nI (5 * n + 3)), .ref b, .int (nI n9), .int (nI h), .ref h0]) (congrArg (fun z9 => F0 m 114 ls [.int z9, .ref b, .int (nI n9), .int (nI h), .ref h0]) (show ((nI (5 * n)) + 3) = nI (5 * n + 3) from nI_add (5 * n) 3)) ?_
    refine va_sld hx hb hXs hbl hbA hS (vp_in_nI (by omega) (by omega)) dL_law_114 ?_
    refine W.eq (g2 := F0 m 115 ls [.int (nI z), .int (nI n9), .int (nI h), .ref h0]) (congrArg (fun z9 => F0 m 115 ls [.int z9, .int (nI n9), .int (nI h), .ref h0]) (show (xs (nI (5 * n + 3)).toNatClampNeg) = (nI z) from (show xs (nI (5 * n + 3)).toNatClampNeg = (nI z) from by rw [nI_clamp (by omega)]; exact e3))) ?_
    have hPc := hP.sub (ws' := [(h0, .inr (0, [.ref ab, .int (nI rc), .int (nI rl), .int (nI ps)])), (ab, .inl (cI, 4096, .inl f))]) [0, 1] rfl
    have hDc := hD.sub (ws' := [(h0, .inr (0, [.ref ab, .int (nI rc), .int (nI rl), .int (nI ps)])), (ab, .inl (cI, 4096, .inl f))]) [0, 1] (by decide) rfl
    have hKc := hK.sub (tys' := [(cI, .int)]) [0] rfl
    have hFc := va_free (wc := [(h0, .inr (0, [.ref ab, .int (nI rc), .int (nI rl), .int (nI ps)])), (ab, .inl (cI, 4096, .inl f))]) hD hS hA [0, 1] rfl
    refine va_calli (vx_runSW (As := [.ref h0, .int (nI h), .int (nI n9), .int (nI z)]) (rest := []) ⟨hx, hb, hml, hown, hts⟩ (c_L_open l dC dI cI h0 ab rc rl ps f H.size h n9 z ok9) (vx_cwSW 4 hts gL_law_L_open rfl rfl rfl (by decide +kernel) ⟨Nat.le_of_ble_eq_true rfl, Nat.le_of_ble_eq_true rfl⟩) ⟨fun a U g mk q => by obtain ⟨q0, q1, qP, qK, qD⟩ := q; exact ⟨q0, q1, qP, va_K.moved (u := U) (U := U.calling g mk a) (Vm.Alike.refl U.vm) qK, qD⟩, fun U hU hW => ⟨rfl, by rw [hU], by rw [hU]; exact hPc, va_K.moved hW.alike hKc, hDc.weaken (fun _ _ _ _ => trivial)⟩⟩ rfl rfl hl.1 rfl (lv_room (Nat.le_of_ble_eq_true rfl)) dL_law_115 ⟨by show 6 + n + 0 ≤ 1031; omega, by show 12299 + 6 * n + 0 ≤ 20497; omega⟩) hS (fun q _ h => hFc q h) hFc (fun k u t9 H1 locs ht hvm ek hB hz1 hk1 hS => ?_)
    obtain ⟨hP1, hK1, hD1⟩ := hB
    rw [ht] at hP1
    obtain ⟨hP, hD⟩ := va_join (wr := [(h1, .inr (1, [.int fl, .int (nI rc), .int (nI rl), .int (nI ps), .ref b1, .ref b2])), (b1, .inl (cJ, 4096, .inl g)), (b2, .inl (cK, 4096, .inl t)), (oa, .inl (cL, 1, .inr (.inl o)))]) (w1 := [(h0, .inr (0, [.ref ab, .int (nI h), .int (nI n9), .int (nI z)])), (ab, .inl (cI, 4096, .inl (rf_p f (fun _ => 0) 0 4096)))]) hP hD [0, 1] [2, 3, 4, 5] rfl rfl (by decide) (by decide) hk1 hFc hP1 hD1
    generalize H1 = H at hP hS ⊢
    have hP := hP.sub (ws' := [(h0, .inr (0, [.ref ab, .int (nI h), .int (nI n9), .int (nI z)])), (ab, .inl (cI, 4096, .inl (rf_p f (fun _ => 0) 0 4096))), (h1, .inr (1, [.int fl, .int (nI rc), .int (nI rl), .int (nI ps), .ref b1, .ref b2])), (b1, .inl (cJ, 4096, .inl g)), (b2, .inl (cK, 4096, .inl t)), (oa, .inl (cL, 1, .inr (.inl o)))]) [4, 5, 0, 1, 2, 3] rfl
    have hD := hD.sub (ws' := [(h0, .inr (0, [.ref ab, .int (nI h), .int (nI n9), .int (nI z)])), (ab, .inl (cI, 4096, .inl (rf_p f (fun _ => 0) 0 4096))), (h1, .inr (1, [.int fl, .int (nI rc), .int (nI rl), .int (nI ps), .ref b1, .ref b2])), (b1, .inl (cJ, 4096, .inl g)), (b2, .inl (cK, 4096, .inl t)), (oa, .inl (cL, 1, .inr (.inl o)))]) [4, 5, 0, 1, 2, 3] (by decide) rfl
    have hP : va_P (dC, dI) rw_cl [(h0, .inr (0, [.ref ab, .int (nI h), .int (nI n9), .int (nI z)])), (ab, .inl (cI, 4096, .inl (rf_p f (fun _ => 0) 0 4096))), (h1, .inr (1, [.int fl, .int (nI rc), .int (nI rl), .int (nI ps), .ref b1, .ref b2])), (b1, .inl (cJ, 4096, .inl g)), (b2, .inl (cK, 4096, .inl t)), (oa, .inl (cL, 1, .inr (.inl o)))] H := hP
    have hD : va_D A [(h0, .inr (0, [.ref ab, .int (nI h), .int (nI n9), .int (nI z)])), (ab, .inl (cI, 4096, .inl (rf_p f (fun _ => 0) 0 4096))), (h1, .inr (1, [.int fl, .int (nI rc), .int (nI rl), .int (nI ps), .ref b1, .ref b2])), (b1, .inl (cJ, 4096, .inl g)), (b2, .inl (cK, 4096, .inl t)), (oa, .inl (cL, 1, .inr (.inl o)))] := hD
    refine W.widen (k := 6 + n) (n := 12299 + 6 * n) (Nat.le_refl _) (Nat.le_refl _) ?_
    subst ek
    refine lv_istore hx hb dL_law_118 hl (by decide) rfl (fun ls hl => ?_)
    have hl : lv_has ls 7 [(5, .int 0), (0, .ref b), (1, .ref h0), (2, .ref h1), (3, .ref oa), (4, .int (nI (5 * n)))] := hl
    refine lv_aload_n hx hb dL_law_120 rfl (lv_at hl 3 rfl) ?_
    refine lv_aload_n hx hb dL_law_121 rfl (lv_at hl 1 rfl) ?_
    refine lv_iload hx hb dL_law_122 (lv_at hl 5 rfl) ?_
    refine lv_iconst (v := 1) hx hb dL_law_124 (by decide) ?_
    refine lv_iadd hx hb dL_law_125 ?_
    refine W.eq (g2 := F0 m 126 ls [.int (nI (5 * n + 1)), .ref b, .ref h1]) (congrArg (fun z9 => F0 m 126 ls [.int z9, .ref b, .ref h1]) (show ((nI (5 * n)) + 1) = nI (5 * n + 1) from nI_add (5 * n) 1)) ?_
    refine va_sld hx hb hXs hbl hbA hS (vp_in_nI (by omega) (by omega)) dL_law_126 ?_
    refine W.eq (g2 := F0 m 127 ls [.int (nI h), .ref h1]) (congrArg (fun z9 => F0 m 127 ls [.int z9, .ref h1]) (show (xs (nI (5 * n + 1)).toNatClampNeg) = (nI h) from (show xs (nI (5 * n + 1)).toNatClampNeg = (nI h) from by rw [nI_clamp (by omega)]; exact e1))) ?_
    refine lv_aload_n hx hb dL_law_127 rfl (lv_at hl 1 rfl) ?_
    refine lv_iload hx hb dL_law_128 (lv_at hl 5 rfl) ?_
    refine lv_iconst (v := 2) hx hb dL_law_130 (by decide) ?_
    refine lv_iadd hx hb dL_law_131 ?_
    refine W.eq (g2 := F0 m 132 ls [.int (nI (5 * n + 2)), .ref b, .int (nI h), .ref h1]) (congrArg (fun z9 => F0 m 132 ls [.int z9, .ref b, .int (nI h), .ref h1]) (show ((nI (5 * n)) + 2) = nI (5 * n + 2) from nI_add (5 * n) 2)) ?_
    refine va_sld hx hb hXs hbl hbA hS (vp_in_nI (by omega) (by omega)) dL_law_132 ?_
    refine W.eq (g2 := F0 m 133 ls [.int (nI n9), .int (nI h), .ref h1]) (congrArg (fun z9 => F0 m 133 ls [.int z9, .int (nI h), .ref h1]) (show (xs (nI (5 * n + 2)).toNatClampNeg) = (nI n9) from (show xs (nI (5 * n + 2)).toNatClampNeg = (nI n9) from by rw [nI_clamp (by omega)]; exact e2))) ?_
    refine lv_aload_n hx hb dL_law_133 rfl (lv_at hl 1 rfl) ?_
    refine lv_iload hx hb dL_law_134 (lv_at hl 5 rfl) ?_
    refine lv_iconst (v := 3) hx hb dL_law_136 (by decide) ?_
    refine lv_iadd hx hb dL_law_137 ?_
    refine W.eq (g2 := F0 m 138 ls [.int (nI (5 * n + 3)), .ref b, .int (nI n9), .int (nI h), .ref h1]) (congrArg (fun z9 => F0 m 138 ls [.int z9, .ref b, .int (nI n9), .int (nI h), .ref h1]) (show ((nI (5 * n)) + 3) = nI (5 * n + 3) from nI_add (5 * n) 3)) ?_
    refine va_sld hx hb hXs hbl hbA hS (vp_in_nI (by omega) (by omega)) dL_law_138 ?_
    refine W.eq (g2 := F0 m 139 ls [.int (nI z), .int (nI n9), .int (nI h), .ref h1]) (congrArg (fun z9 => F0 m 139 ls [.int z9, .int (nI n9), .int (nI h), .ref h1]) (show (xs (nI (5 * n + 3)).toNatClampNeg) = (nI z) from (show xs (nI (5 * n + 3)).toNatClampNeg = (nI z) from by rw [nI_clamp (by omega)]; exact e3))) ?_
    have hPc := hP.sub (ws' := [(h1, .inr (1, [.int fl, .int (nI rc), .int (nI rl), .int (nI ps), .ref b1, .ref b2])), (b1, .inl (cJ, 4096, .inl g)), (b2, .inl (cK, 4096, .inl t))]) [2, 3, 4] rfl
    have hDc := hD.sub (ws' := [(h1, .inr (1, [.int fl, .int (nI rc), .int (nI rl), .int (nI ps), .ref b1, .ref b2])), (b1, .inl (cJ, 4096, .inl g)), (b2, .inl (cK, 4096, .inl t))]) [2, 3, 4] (by decide) rfl
    have hKc := hK.sub (tys' := [(cJ, .int), (cK, .int)]) [1, 2] rfl
    have hFc := va_free (wc := [(h1, .inr (1, [.int fl, .int (nI rc), .int (nI rl), .int (nI ps), .ref b1, .ref b2])), (b1, .inl (cJ, 4096, .inl g)), (b2, .inl (cK, 4096, .inl t))]) hD hS hA [2, 3, 4] rfl
    refine va_callv (va_runV (C := RX1) (As := [.int (nI h), .int (nI n9), .int (nI z)]) (rest := []) ⟨hx, hb, hml, hown, htsY⟩ (c_Y1_open l dC dI cJ cK h1 b1 b2 fl rc rl ps g t H.size h n9 z ok9) (cwV 3 htsY gL_law_Y1_open rfl rfl rfl (by decide +kernel) ⟨Nat.le_of_ble_eq_true rfl, Nat.le_of_ble_eq_true rfl⟩) ⟨fun a U g mk q => by obtain ⟨q0, q1, qP, qK, qD⟩ := q; exact ⟨q0, q1, qP, va_K.moved (u := U) (U := U.calling g mk a) (Vm.Alike.refl U.vm) qK, qD⟩, va_recv hK hP (ci := 1) (q0 := 2) rfl rfl, fun U hU hW => ⟨rfl, by rw [hU], by rw [hU]; exact hPc, va_K.moved hW.alike hKc, hDc.weaken (fun _ _ _ _ => trivial)⟩⟩ rfl rfl hl.1 rfl (lv_room (Nat.le_of_ble_eq_true rfl)) dL_law_139 ⟨by show 6 + n + 0 ≤ 1031; omega, by show 12299 + 6 * n + 0 ≤ 20497; omega⟩) hS (fun q _ h => hFc q h) hFc (fun u t9 H1 locs ht hvm hw hB hz1 hk1 hS => ?_)
    obtain ⟨hP1, hK1, hD1⟩ := hB
    rw [ht] at hP1
    obtain ⟨hP, hD⟩ := va_join (wr := [(h0, .inr (0, [.ref ab, .int (nI h), .int (nI n9), .int (nI z)])), (ab, .inl (cI, 4096, .inl (rf_p f (fun _ => 0) 0 4096))), (oa, .inl (cL, 1, .inr (.inl o)))]) (w1 := [(h1, .inr (1, [.int 0, .int (nI h), .int (nI n9), .int (nI z), .ref b1, .ref b2])), (b1, .inl (cJ, 4096, .inl (rf_p g (fun _ => 0) 0 (h * n9)))), (b2, .inl (cK, 4096, .inl t))]) hP hD [2, 3, 4] [0, 1, 5] rfl rfl (by decide) (by decide) hk1 hFc hP1 hD1
    generalize H1 = H at hP hS ⊢
    have hP := hP.sub (ws' := [(h0, .inr (0, [.ref ab, .int (nI h), .int (nI n9), .int (nI z)])), (ab, .inl (cI, 4096, .inl (rf_p f (fun _ => 0) 0 4096))), (h1, .inr (1, [.int 0, .int (nI h), .int (nI n9), .int (nI z), .ref b1, .ref b2])), (b1, .inl (cJ, 4096, .inl (rf_p g (fun _ => 0) 0 (h * n9)))), (b2, .inl (cK, 4096, .inl t)), (oa, .inl (cL, 1, .inr (.inl o)))]) [0, 1, 3, 4, 5, 2] rfl
    have hD := hD.sub (ws' := [(h0, .inr (0, [.ref ab, .int (nI h), .int (nI n9), .int (nI z)])), (ab, .inl (cI, 4096, .inl (rf_p f (fun _ => 0) 0 4096))), (h1, .inr (1, [.int 0, .int (nI h), .int (nI n9), .int (nI z), .ref b1, .ref b2])), (b1, .inl (cJ, 4096, .inl (rf_p g (fun _ => 0) 0 (h * n9)))), (b2, .inl (cK, 4096, .inl t)), (oa, .inl (cL, 1, .inr (.inl o)))]) [0, 1, 3, 4, 5, 2] (by decide) rfl
    have hP : va_P (dC, dI) rw_cl [(h0, .inr (0, [.ref ab, .int (nI h), .int (nI n9), .int (nI z)])), (ab, .inl (cI, 4096, .inl (rf_p f (fun _ => 0) 0 4096))), (h1, .inr (1, [.int 0, .int (nI h), .int (nI n9), .int (nI z), .ref b1, .ref b2])), (b1, .inl (cJ, 4096, .inl (rf_p g (fun _ => 0) 0 (h * n9)))), (b2, .inl (cK, 4096, .inl t)), (oa, .inl (cL, 1, .inr (.inl o)))] H := hP
    have hD : va_D A [(h0, .inr (0, [.ref ab, .int (nI h), .int (nI n9), .int (nI z)])), (ab, .inl (cI, 4096, .inl (rf_p f (fun _ => 0) 0 4096))), (h1, .inr (1, [.int 0, .int (nI h), .int (nI n9), .int (nI z), .ref b1, .ref b2])), (b1, .inl (cJ, 4096, .inl (rf_p g (fun _ => 0) 0 (h * n9)))), (b2, .inl (cK, 4096, .inl t)), (oa, .inl (cL, 1, .inr (.inl o)))] := hD
    refine W.widen (k := 6 + n) (n := 12299 + 6 * n) (Nat.le_refl _) (Nat.le_refl _) ?_
    refine lv_aload_n hx hb dL_law_142 rfl (lv_at hl 3 rfl) ?_
    have hPc := hP.sub (ws' := [(h1, .inr (1, [.int 0, .int (nI h), .int (nI n9), .int (nI z), .ref b1, .ref b2])), (b1, .inl (cJ, 4096, .inl (rf_p g (fun _ => 0) 0 (h * n9)))), (b2, .inl (cK, 4096, .inl t))]) [2, 3, 4] rfl
    have hKc := hK.sub (tys' := [(cJ, .int), (cK, .int)]) [1, 2] rfl
    refine vp_callSi (W.runV (C := RX1) (As := []) (rest := []) ⟨hx, hb, hml, hown, htsY⟩ (c_Y1_thrown l dC dI cJ cK h1 b1 b2 0 h n9 z (rf_p g (fun _ => 0) 0 (h * n9)) t ) (cwV 0 htsY gL_law_Y1_thrown rfl rfl rfl (by decide +kernel) ⟨Nat.le_of_ble_eq_true rfl, Nat.le_of_ble_eq_true rfl⟩) ⟨fun a U g mk q => by obtain ⟨q0, qP, qK⟩ := q; exact ⟨q0, qP, va_K.moved (u := U) (U := U.calling g mk a) (Vm.Alike.refl U.vm) qK⟩, va_recv hK hP (ci := 1) (q0 := 2) rfl rfl, fun U hU hW => ⟨rfl, by rw [hU]; exact hPc, va_K.moved hW.alike hKc⟩⟩ rfl rfl hl.1 rfl (lv_room (Nat.le_of_ble_eq_true rfl)) dL_law_143 ⟨by show 6 + n + 0 ≤ 1031; omega, by show 12299 + 6 * n + 0 ≤ 20497; omega⟩) (fun rt et => ?_)
    subst et
    refine lv_iload hx hb dL_law_146 (lv_at hl 0 rfl) ?_
    refine lv_icmp_eq (tgt := 153) hx hb dL_law_148 (by decide) (fun hq => ?_) (fun hq => ?_)
    · refine lv_goto (tgt := 685) hx hb dL_law_153 (by decide) ?_
      refine lv_iinc (k := 5) (v := (nI (5 * (n + 1)))) hx hb dL_law_685 hl rfl (show nI (5 * n) + nI 5 = nI (5 * (n + 1)) from (nI_add _ _).trans (congrArg nI (by omega))) (by decide) rfl (fun ls hl => ?_)
      have hl : lv_has ls 7 [(4, .int (nI (5 * (n + 1)))), (5, .int 0), (0, .ref b), (1, .ref h0), (2, .ref h1), (3, .ref oa)] := hl
      refine lv_goto (tgt := 23) hx hb dL_law_688 (by decide) ?_
      refine W.widen (k := 6 + (n + 1)) (n := 12299 + 6 * (n + 1)) (by omega) (by omega) ?_
      exact ih _ _ _ ⟨h, n9, z, (rf_p f (fun _ => 0) 0 4096), 0, (rf_p g (fun _ => 0) 0 (h * n9)), t, o, ok9, (rf_R_open ok9.2.2.1), lv_sub hl [2, 3, 4, 5, 0] rfl, hP, hD, hS⟩
    · exact absurd (rfl : (0 : Int32) = 0) hq
