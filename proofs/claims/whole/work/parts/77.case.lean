set_option maxHeartbeats 8000000 in
set_option maxRecDepth 100000 in
theorem lw_case_set {p : Program} {l : Launch} {e : Env} {s : State} {m : MethodId} {below : List Frame} {meth : Method} {c : Code} {Q : State → Prop} {A : Nat → Prop} {b L : Nat} {xs : Nat → Int32} {dC : Nat → ClassId} {dI : Nat → Nat → Nat} {h0 ab : Nat} {cI : ClassId} {h1 b1 b2 : Nat} {cJ cK : ClassId} {oa : Nat} {cL : ClassId} {sa t1 t2 t3 t4 : Nat} (hl9 : l.stackTraces = false) (C9 : lw_F p s m c A b L xs dC dI cI cJ cK cL sa t1 t2 t3 t4) {n : Nat} (hn : n ≤ 512) (hL5 : 5 * n + 5 ≤ L) {rc rl ps : Nat} {f : Nat → Int32} {fl : Int32} {g t : Nat → Int32} {o : Nat → Int64} {ls : Array Slot} {H : Heap} {locs : List Loc} (ok : rf_ok rc rl ps) (hR : rf_R (rc * rl) f g) (hl : lv_has ls 7 [(0, .ref b), (1, .ref h0), (2, .ref h1), (3, .ref oa), (4, .int (nI (5 * n)))]) (hP : va_P (dC, dI) rw_cl (lw_W h0 ab cI h1 b1 b2 cJ cK oa cL rc rl ps f fl g t o) H) (hD : va_D A (lw_W h0 ab cI h1 b1 b2 cJ cK oa cL rc rl ps f fl g t o)) (hS : va_S A s.heap H locs) (ih : ∀ (ls : Array Slot) (H : Heap) (locs : List Loc), lw_I s A dC dI b h0 ab cI h1 b1 b2 cJ cK oa cL (n + 1) ls H locs → W p l e room_1 s m #[Value.ref b] below meth c H locs (6 + (n + 1)) (12299 + 6 * (n + 1)) Q (F0 m 23 ls [])) : W p l e room_1 s m #[Value.ref b] below meth c H locs (6 + n) (12299 + 6 * n) Q (F0 m 156 ls []) := by
  obtain ⟨hx, hb, hml, hown, hts, htsY, hXs, hbl, hbA, hA, hA2, hK, hX, hZ, hL⟩ := C9
  by_cases hc9 : rf_ot rc rl (xs (5 * n + 1)) (xs (5 * n + 2)) ∨ (xs (5 * n + 3)) < 0 ∨ 255 < (xs (5 * n + 3))
  · refine lv_aload_n hx hb dL_law_156 rfl (lv_at hl 1 rfl) ?_
    refine lv_aload_n hx hb dL_law_157 rfl (lv_at hl 0 rfl) ?_
    refine lv_iload hx hb dL_law_158 (lv_at hl 4 rfl) ?_
    refine lv_iconst (v := 1) hx hb dL_law_160 (by decide) ?_
    refine lv_iadd hx hb dL_law_161 ?_
    refine W.eq (g2 := F0 m 162 ls [.int (nI (5 * n + 1)), .ref b, .ref h0]) (congrArg (fun z9 => F0 m 162 ls [.int z9, .ref b, .ref h0]) (show ((nI (5 * n)) + 1) = nI (5 * n + 1) from nI_add (5 * n) 1)) ?_
    refine va_sld hx hb hXs hbl hbA hS (vp_in_nI (by omega) (by omega)) dL_law_162 ?_
    refine W.eq (g2 := F0 m 163 ls [.int (xs (5 * n + 1)), .ref h0]) (congrArg (fun z9 => F0 m 163 ls [.int z9, .ref h0]) (show (xs (nI (5 * n + 1)).toNatClampNeg) = (xs (5 * n + 1)) from (show xs (nI (5 * n + 1)).toNatClampNeg = (xs (5 * n + 1)) from by rw [nI_clamp (by omega)]))) ?_
    refine lv_aload_n hx hb dL_law_163 rfl (lv_at hl 0 rfl) ?_
    refine lv_iload hx hb dL_law_164 (lv_at hl 4 rfl) ?_
    refine lv_iconst (v := 2) hx hb dL_law_166 (by decide) ?_
    refine lv_iadd hx hb dL_law_167 ?_
    refine W.eq (g2 := F0 m 168 ls [.int (nI (5 * n + 2)), .ref b, .int (xs (5 * n + 1)), .ref h0]) (congrArg (fun z9 => F0 m 168 ls [.int z9, .ref b, .int (xs (5 * n + 1)), .ref h0]) (show ((nI (5 * n)) + 2) = nI (5 * n + 2) from nI_add (5 * n) 2)) ?_
    refine va_sld hx hb hXs hbl hbA hS (vp_in_nI (by omega) (by omega)) dL_law_168 ?_
    refine W.eq (g2 := F0 m 169 ls [.int (xs (5 * n + 2)), .int (xs (5 * n + 1)), .ref h0]) (congrArg (fun z9 => F0 m 169 ls [.int z9, .int (xs (5 * n + 1)), .ref h0]) (show (xs (nI (5 * n + 2)).toNatClampNeg) = (xs (5 * n + 2)) from (show xs (nI (5 * n + 2)).toNatClampNeg = (xs (5 * n + 2)) from by rw [nI_clamp (by omega)]))) ?_
    refine lv_aload_n hx hb dL_law_169 rfl (lv_at hl 0 rfl) ?_
    refine lv_iload hx hb dL_law_170 (lv_at hl 4 rfl) ?_
    refine lv_iconst (v := 3) hx hb dL_law_172 (by decide) ?_
    refine lv_iadd hx hb dL_law_173 ?_
    refine W.eq (g2 := F0 m 174 ls [.int (nI (5 * n + 3)), .ref b, .int (xs (5 * n + 2)), .int (xs (5 * n + 1)), .ref h0]) (congrArg (fun z9 => F0 m 174 ls [.int z9, .ref b, .int (xs (5 * n + 2)), .int (xs (5 * n + 1)), .ref h0]) (show ((nI (5 * n)) + 3) = nI (5 * n + 3) from nI_add (5 * n) 3)) ?_
    refine va_sld hx hb hXs hbl hbA hS (vp_in_nI (by omega) (by omega)) dL_law_174 ?_
    refine W.eq (g2 := F0 m 175 ls [.int (xs (5 * n + 3)), .int (xs (5 * n + 2)), .int (xs (5 * n + 1)), .ref h0]) (congrArg (fun z9 => F0 m 175 ls [.int z9, .int (xs (5 * n + 2)), .int (xs (5 * n + 1)), .ref h0]) (show (xs (nI (5 * n + 3)).toNatClampNeg) = (xs (5 * n + 3)) from (show xs (nI (5 * n + 3)).toNatClampNeg = (xs (5 * n + 3)) from by rw [nI_clamp (by omega)]))) ?_
    refine lv_aload_n hx hb dL_law_175 rfl (lv_at hl 3 rfl) ?_
    have hPc := hP.sub (ws' := [(h0, .inr (0, [.ref ab, .int (nI rc), .int (nI rl), .int (nI ps)])), (ab, .inl (cI, 4096, .inl f)), (oa, .inl (cL, 1, .inr (.inl o)))]) [0, 1, 5] rfl
    have hDc := hD.sub (ws' := [(h0, .inr (0, [.ref ab, .int (nI rc), .int (nI rl), .int (nI ps)])), (ab, .inl (cI, 4096, .inl f)), (oa, .inl (cL, 1, .inr (.inl o)))]) [0, 1, 5] (by decide) rfl
    have hKc := hK.sub (tys' := [(cI, .int), (cL, .long)]) [0, 3] rfl
    have hFc := va_free (wc := [(h0, .inr (0, [.ref ab, .int (nI rc), .int (nI rl), .int (nI ps)])), (ab, .inl (cI, 4096, .inl f)), (oa, .inl (cL, 1, .inr (.inl o)))]) hD hS hA [0, 1, 5] rfl
    refine va_calli (vx_runSW (As := [.ref h0, .int (xs (5 * n + 1)), .int (xs (5 * n + 2)), .int (xs (5 * n + 3)), .ref oa]) (rest := []) ⟨hx, hb, hml, hown, hts⟩ (c_L_set_bad l hl9 sa dC dI cI h0 ab rc rl ps f cL oa o H.size (xs (5 * n + 1)) (xs (5 * n + 2)) (xs (5 * n + 3)) (hc9.elim (fun z => Or.inl (rf_ot_x ok z)) Or.inr)) (vx_cwSW 5 hts gL_law_L_set rfl rfl rfl (by decide +kernel) ⟨Nat.le_of_ble_eq_true rfl, Nat.le_of_ble_eq_true rfl⟩) ⟨fun a U g mk q => by obtain ⟨q0, qX, q1, qP, qK, qD⟩ := q; exact ⟨q0, rw_XA.call qX, q1, qP, va_K.moved (u := U) (U := U.calling g mk a) (Vm.Alike.refl U.vm) qK, qD⟩, fun U hU hW => ⟨rfl, rw_XA.to hX hS (fun q z => hA q (Nat.le_trans hS.1 z)) hU hW, by rw [hU], by rw [hU]; exact hPc, va_K.moved hW.alike hKc, hDc.weaken (fun _ _ _ _ => trivial)⟩⟩ rfl rfl hl.1 rfl (lv_room (Nat.le_of_ble_eq_true rfl)) dL_law_176 ⟨by show 6 + n + 1 ≤ 1031; omega, by show 12299 + 6 * n + 6 ≤ 20497; omega⟩) hS (fun q _ h => hFc q h) hFc (fun k u t9 H1 locs ht hvm ek hB hz1 hk1 hS => ?_)
    obtain ⟨hP1, hK1, hD1⟩ := hB
    rw [ht] at hP1
    obtain ⟨hP, hD⟩ := va_join (wr := [(h1, .inr (1, [.int fl, .int (nI rc), .int (nI rl), .int (nI ps), .ref b1, .ref b2])), (b1, .inl (cJ, 4096, .inl g)), (b2, .inl (cK, 4096, .inl t))]) (w1 := [(h0, .inr (0, [.ref ab, .int (nI rc), .int (nI rl), .int (nI ps)])), (ab, .inl (cI, 4096, .inl f)), (oa, .inl (cL, 1, .inr (.inl o)))]) hP hD [0, 1, 5] [2, 3, 4] rfl rfl (by decide) (by decide) hk1 hFc hP1 hD1
    generalize H1 = H at hP hS ⊢
    have hP := hP.sub (ws' := [(h0, .inr (0, [.ref ab, .int (nI rc), .int (nI rl), .int (nI ps)])), (ab, .inl (cI, 4096, .inl f)), (h1, .inr (1, [.int fl, .int (nI rc), .int (nI rl), .int (nI ps), .ref b1, .ref b2])), (b1, .inl (cJ, 4096, .inl g)), (b2, .inl (cK, 4096, .inl t)), (oa, .inl (cL, 1, .inr (.inl o)))]) [3, 4, 0, 1, 2, 5] rfl
    have hD := hD.sub (ws' := [(h0, .inr (0, [.ref ab, .int (nI rc), .int (nI rl), .int (nI ps)])), (ab, .inl (cI, 4096, .inl f)), (h1, .inr (1, [.int fl, .int (nI rc), .int (nI rl), .int (nI ps), .ref b1, .ref b2])), (b1, .inl (cJ, 4096, .inl g)), (b2, .inl (cK, 4096, .inl t)), (oa, .inl (cL, 1, .inr (.inl o)))]) [3, 4, 0, 1, 2, 5] (by decide) rfl
    have hP : va_P (dC, dI) rw_cl [(h0, .inr (0, [.ref ab, .int (nI rc), .int (nI rl), .int (nI ps)])), (ab, .inl (cI, 4096, .inl f)), (h1, .inr (1, [.int fl, .int (nI rc), .int (nI rl), .int (nI ps), .ref b1, .ref b2])), (b1, .inl (cJ, 4096, .inl g)), (b2, .inl (cK, 4096, .inl t)), (oa, .inl (cL, 1, .inr (.inl o)))] H := hP
    have hD : va_D A [(h0, .inr (0, [.ref ab, .int (nI rc), .int (nI rl), .int (nI ps)])), (ab, .inl (cI, 4096, .inl f)), (h1, .inr (1, [.int fl, .int (nI rc), .int (nI rl), .int (nI ps), .ref b1, .ref b2])), (b1, .inl (cJ, 4096, .inl g)), (b2, .inl (cK, 4096, .inl t)), (oa, .inl (cL, 1, .inr (.inl o)))] := hD
    subst ek
    refine lv_istore hx hb dL_law_179 hl (by decide) rfl (fun ls hl => ?_)
    have hl : lv_has ls 7 [(5, .int 1), (0, .ref b), (1, .ref h0), (2, .ref h1), (3, .ref oa), (4, .int (nI (5 * n)))] := hl
    refine lv_aload_n hx hb dL_law_181 rfl (lv_at hl 3 rfl) ?_
    refine lv_aload_n hx hb dL_law_182 rfl (lv_at hl 1 rfl) ?_
    refine lv_iload hx hb dL_law_183 (lv_at hl 5 rfl) ?_
    refine lv_iconst (v := 1) hx hb dL_law_185 (by decide) ?_
    refine lv_iadd hx hb dL_law_186 ?_
    refine W.eq (g2 := F0 m 187 ls [.int (nI (5 * n + 1)), .ref b, .ref h1]) (congrArg (fun z9 => F0 m 187 ls [.int z9, .ref b, .ref h1]) (show ((nI (5 * n)) + 1) = nI (5 * n + 1) from nI_add (5 * n) 1)) ?_
    refine va_sld hx hb hXs hbl hbA hS (vp_in_nI (by omega) (by omega)) dL_law_187 ?_
    refine W.eq (g2 := F0 m 188 ls [.int (xs (5 * n + 1)), .ref h1]) (congrArg (fun z9 => F0 m 188 ls [.int z9, .ref h1]) (show (xs (nI (5 * n + 1)).toNatClampNeg) = (xs (5 * n + 1)) from (show xs (nI (5 * n + 1)).toNatClampNeg = (xs (5 * n + 1)) from by rw [nI_clamp (by omega)]))) ?_
    refine lv_aload_n hx hb dL_law_188 rfl (lv_at hl 1 rfl) ?_
    refine lv_iload hx hb dL_law_189 (lv_at hl 5 rfl) ?_
    refine lv_iconst (v := 2) hx hb dL_law_191 (by decide) ?_
    refine lv_iadd hx hb dL_law_192 ?_
    refine W.eq (g2 := F0 m 193 ls [.int (nI (5 * n + 2)), .ref b, .int (xs (5 * n + 1)), .ref h1]) (congrArg (fun z9 => F0 m 193 ls [.int z9, .ref b, .int (xs (5 * n + 1)), .ref h1]) (show ((nI (5 * n)) + 2) = nI (5 * n + 2) from nI_add (5 * n) 2)) ?_
    refine va_sld hx hb hXs hbl hbA hS (vp_in_nI (by omega) (by omega)) dL_law_193 ?_
    refine W.eq (g2 := F0 m 194 ls [.int (xs (5 * n + 2)), .int (xs (5 * n + 1)), .ref h1]) (congrArg (fun z9 => F0 m 194 ls [.int z9, .int (xs (5 * n + 1)), .ref h1]) (show (xs (nI (5 * n + 2)).toNatClampNeg) = (xs (5 * n + 2)) from (show xs (nI (5 * n + 2)).toNatClampNeg = (xs (5 * n + 2)) from by rw [nI_clamp (by omega)]))) ?_
    refine lv_aload_n hx hb dL_law_194 rfl (lv_at hl 1 rfl) ?_
    refine lv_iload hx hb dL_law_195 (lv_at hl 5 rfl) ?_
    refine lv_iconst (v := 3) hx hb dL_law_197 (by decide) ?_
    refine lv_iadd hx hb dL_law_198 ?_
    refine W.eq (g2 := F0 m 199 ls [.int (nI (5 * n + 3)), .ref b, .int (xs (5 * n + 2)), .int (xs (5 * n + 1)), .ref h1]) (congrArg (fun z9 => F0 m 199 ls [.int z9, .ref b, .int (xs (5 * n + 2)), .int (xs (5 * n + 1)), .ref h1]) (show ((nI (5 * n)) + 3) = nI (5 * n + 3) from nI_add (5 * n) 3)) ?_
    refine va_sld hx hb hXs hbl hbA hS (vp_in_nI (by omega) (by omega)) dL_law_199 ?_
    refine W.eq (g2 := F0 m 200 ls [.int (xs (5 * n + 3)), .int (xs (5 * n + 2)), .int (xs (5 * n + 1)), .ref h1]) (congrArg (fun z9 => F0 m 200 ls [.int z9, .int (xs (5 * n + 2)), .int (xs (5 * n + 1)), .ref h1]) (show (xs (nI (5 * n + 3)).toNatClampNeg) = (xs (5 * n + 3)) from (show xs (nI (5 * n + 3)).toNatClampNeg = (xs (5 * n + 3)) from by rw [nI_clamp (by omega)]))) ?_
    have hPc := hP.sub (ws' := [(h1, .inr (1, [.int fl, .int (nI rc), .int (nI rl), .int (nI ps), .ref b1, .ref b2])), (b1, .inl (cJ, 4096, .inl g)), (b2, .inl (cK, 4096, .inl t))]) [2, 3, 4] rfl
    have hDc := hD.sub (ws' := [(h1, .inr (1, [.int fl, .int (nI rc), .int (nI rl), .int (nI ps), .ref b1, .ref b2])), (b1, .inl (cJ, 4096, .inl g)), (b2, .inl (cK, 4096, .inl t))]) [2, 3, 4] (by decide) rfl
    have hKc := hK.sub (tys' := [(cJ, .int), (cK, .int)]) [1, 2] rfl
    have hFc := va_free (wc := [(h1, .inr (1, [.int fl, .int (nI rc), .int (nI rl), .int (nI ps), .ref b1, .ref b2])), (b1, .inl (cJ, 4096, .inl g)), (b2, .inl (cK, 4096, .inl t))]) hD hS hA [2, 3, 4] rfl
    refine va_calli (va_runV (C := RX1) (As := [.int (xs (5 * n + 1)), .int (xs (5 * n + 2)), .int (xs (5 * n + 3))]) (rest := []) ⟨hx, hb, hml, hown, htsY⟩ (c_Y1_set_bad l dC dI cJ cK h1 b1 b2 fl rc rl ps g t H.size (xs (5 * n + 1)) (xs (5 * n + 2)) (xs (5 * n + 3)) hc9) (cwV 3 htsY gL_law_Y1_set rfl rfl rfl (by decide +kernel) ⟨Nat.le_of_ble_eq_true rfl, Nat.le_of_ble_eq_true rfl⟩) ⟨fun a U g mk q => by obtain ⟨q0, q1, qP, qK, qD⟩ := q; exact ⟨q0, q1, qP, va_K.moved (u := U) (U := U.calling g mk a) (Vm.Alike.refl U.vm) qK, qD⟩, va_recv hK hP (ci := 1) (q0 := 2) rfl rfl, fun U hU hW => ⟨rfl, by rw [hU], by rw [hU]; exact hPc, va_K.moved hW.alike hKc, hDc.weaken (fun _ _ _ _ => trivial)⟩⟩ rfl rfl hl.1 rfl (lv_room (Nat.le_of_ble_eq_true rfl)) dL_law_200 ⟨by show 6 + n + 1 + 0 ≤ 1031; omega, by show 12299 + 6 * n + 6 + 0 ≤ 20497; omega⟩) hS (fun q _ h => hFc q h) hFc (fun rb u t9 H1 locs ht hvm eb hB hz1 hk1 hS => ?_)
    obtain ⟨hP1, hK1, hD1⟩ := hB
    rw [ht] at hP1
    obtain ⟨hP, hD⟩ := va_join (wr := [(h0, .inr (0, [.ref ab, .int (nI rc), .int (nI rl), .int (nI ps)])), (ab, .inl (cI, 4096, .inl f)), (oa, .inl (cL, 1, .inr (.inl o)))]) (w1 := [(h1, .inr (1, [.int 1, .int (nI rc), .int (nI rl), .int (nI ps), .ref b1, .ref b2])), (b1, .inl (cJ, 4096, .inl g)), (b2, .inl (cK, 4096, .inl t))]) hP hD [2, 3, 4] [0, 1, 5] rfl rfl (by decide) (by decide) hk1 hFc hP1 hD1
    generalize H1 = H at hP hS ⊢
    have hP := hP.sub (ws' := [(h0, .inr (0, [.ref ab, .int (nI rc), .int (nI rl), .int (nI ps)])), (ab, .inl (cI, 4096, .inl f)), (h1, .inr (1, [.int 1, .int (nI rc), .int (nI rl), .int (nI ps), .ref b1, .ref b2])), (b1, .inl (cJ, 4096, .inl g)), (b2, .inl (cK, 4096, .inl t)), (oa, .inl (cL, 1, .inr (.inl o)))]) [0, 1, 3, 4, 5, 2] rfl
    have hD := hD.sub (ws' := [(h0, .inr (0, [.ref ab, .int (nI rc), .int (nI rl), .int (nI ps)])), (ab, .inl (cI, 4096, .inl f)), (h1, .inr (1, [.int 1, .int (nI rc), .int (nI rl), .int (nI ps), .ref b1, .ref b2])), (b1, .inl (cJ, 4096, .inl g)), (b2, .inl (cK, 4096, .inl t)), (oa, .inl (cL, 1, .inr (.inl o)))]) [0, 1, 3, 4, 5, 2] (by decide) rfl
    have hP : va_P (dC, dI) rw_cl [(h0, .inr (0, [.ref ab, .int (nI rc), .int (nI rl), .int (nI ps)])), (ab, .inl (cI, 4096, .inl f)), (h1, .inr (1, [.int 1, .int (nI rc), .int (nI rl), .int (nI ps), .ref b1, .ref b2])), (b1, .inl (cJ, 4096, .inl g)), (b2, .inl (cK, 4096, .inl t)), (oa, .inl (cL, 1, .inr (.inl o)))] H := hP
    have hD : va_D A [(h0, .inr (0, [.ref ab, .int (nI rc), .int (nI rl), .int (nI ps)])), (ab, .inl (cI, 4096, .inl f)), (h1, .inr (1, [.int 1, .int (nI rc), .int (nI rl), .int (nI ps), .ref b1, .ref b2])), (b1, .inl (cJ, 4096, .inl g)), (b2, .inl (cK, 4096, .inl t)), (oa, .inl (cL, 1, .inr (.inl o)))] := hD
    refine W.widen (k := 6 + n + 1) (n := 12299 + 6 * n + 6) (Nat.le_refl _) (Nat.le_refl _) ?_
    refine lv_istore hx hb dL_law_203 hl (by decide) rfl (fun ls hl => ?_)
    have hl : lv_has ls 7 [(6, .int rb), (5, .int 1), (0, .ref b), (1, .ref h0), (2, .ref h1), (3, .ref oa), (4, .int (nI (5 * n)))] := hl
    refine lv_aload_n hx hb dL_law_205 rfl (lv_at hl 4 rfl) ?_
    have hPc := hP.sub (ws' := [(h1, .inr (1, [.int 1, .int (nI rc), .int (nI rl), .int (nI ps), .ref b1, .ref b2])), (b1, .inl (cJ, 4096, .inl g)), (b2, .inl (cK, 4096, .inl t))]) [2, 3, 4] rfl
    have hKc := hK.sub (tys' := [(cJ, .int), (cK, .int)]) [1, 2] rfl
    refine vp_callSi (W.runV (C := RX1) (As := []) (rest := []) ⟨hx, hb, hml, hown, htsY⟩ (c_Y1_thrown l dC dI cJ cK h1 b1 b2 1 rc rl ps g t ) (cwV 0 htsY gL_law_Y1_thrown rfl rfl rfl (by decide +kernel) ⟨Nat.le_of_ble_eq_true rfl, Nat.le_of_ble_eq_true rfl⟩) ⟨fun a U g mk q => by obtain ⟨q0, qP, qK⟩ := q; exact ⟨q0, qP, va_K.moved (u := U) (U := U.calling g mk a) (Vm.Alike.refl U.vm) qK⟩, va_recv hK hP (ci := 1) (q0 := 2) rfl rfl, fun U hU hW => ⟨rfl, by rw [hU]; exact hPc, va_K.moved hW.alike hKc⟩⟩ rfl rfl hl.1 rfl (lv_room (Nat.le_of_ble_eq_true rfl)) dL_law_206 ⟨by show 6 + n + 1 + 0 ≤ 1031; omega, by show 12299 + 6 * n + 6 + 0 ≤ 20497; omega⟩) (fun rt et => ?_)
    subst et
    refine lv_iload hx hb dL_law_209 (lv_at hl 1 rfl) ?_
    refine lv_icmp_eq (tgt := 216) hx hb dL_law_211 (by decide) (fun hq => ?_) (fun hq => ?_)
    · refine lv_iload hx hb dL_law_216 (lv_at hl 1 rfl) ?_
      refine lv_if_ne (tgt := 233) hx hb dL_law_218 (by decide) (fun hz => ?_) (fun hz => ?_)
      · refine lv_goto (tgt := 685) hx hb dL_law_233 (by decide) ?_
        refine lv_iinc (k := 6) (v := (nI (5 * (n + 1)))) hx hb dL_law_685 hl rfl (show nI (5 * n) + nI 5 = nI (5 * (n + 1)) from (nI_add _ _).trans (congrArg nI (by omega))) (by decide) rfl (fun ls hl => ?_)
        have hl : lv_has ls 7 [(4, .int (nI (5 * (n + 1)))), (6, .int rb), (5, .int 1), (0, .ref b), (1, .ref h0), (2, .ref h1), (3, .ref oa)] := hl
        refine lv_goto (tgt := 23) hx hb dL_law_688 (by decide) ?_
        refine W.widen (k := 6 + (n + 1)) (n := 12299 + 6 * (n + 1)) (by omega) (by omega) ?_
        exact ih _ _ _ ⟨rc, rl, ps, f, 1, g, t, o, ok, hR, lv_sub hl [3, 4, 5, 6, 0] rfl, hP, hD, hS⟩
      · exact absurd hz (by decide)
    · exact absurd (rfl : (1 : Int32) = 1) hq
  · obtain ⟨hc1, hc2⟩ := not_or.mp hc9
    obtain ⟨hv1, hv2⟩ := not_or.mp hc2
    obtain ⟨y, i, e1, e2, hy, hi⟩ := rf_ot_ok ok hc1
    refine lv_aload_n hx hb dL_law_156 rfl (lv_at hl 1 rfl) ?_
    refine lv_aload_n hx hb dL_law_157 rfl (lv_at hl 0 rfl) ?_
    refine lv_iload hx hb dL_law_158 (lv_at hl 4 rfl) ?_
    refine lv_iconst (v := 1) hx hb dL_law_160 (by decide) ?_
    refine lv_iadd hx hb dL_law_161 ?_
    refine W.eq (g2 := F0 m 162 ls [.int (nI (5 * n + 1)), .ref b, .ref h0]) (congrArg (fun z9 => F0 m 162 ls [.int z9, .ref b, .ref h0]) (show ((nI (5 * n)) + 1) = nI (5 * n + 1) from nI_add (5 * n) 1)) ?_
    refine va_sld hx hb hXs hbl hbA hS (vp_in_nI (by omega) (by omega)) dL_law_162 ?_
    refine W.eq (g2 := F0 m 163 ls [.int (nI y), .ref h0]) (congrArg (fun z9 => F0 m 163 ls [.int z9, .ref h0]) (show (xs (nI (5 * n + 1)).toNatClampNeg) = (nI y) from (show xs (nI (5 * n + 1)).toNatClampNeg = (nI y) from by rw [nI_clamp (by omega)]; exact e1))) ?_
    refine lv_aload_n hx hb dL_law_163 rfl (lv_at hl 0 rfl) ?_
    refine lv_iload hx hb dL_law_164 (lv_at hl 4 rfl) ?_
    refine lv_iconst (v := 2) hx hb dL_law_166 (by decide) ?_
    refine lv_iadd hx hb dL_law_167 ?_
    refine W.eq (g2 := F0 m 168 ls [.int (nI (5 * n + 2)), .ref b, .int (nI y), .ref h0]) (congrArg (fun z9 => F0 m 168 ls [.int z9, .ref b, .int (nI y), .ref h0]) (show ((nI (5 * n)) + 2) = nI (5 * n + 2) from nI_add (5 * n) 2)) ?_
    refine va_sld hx hb hXs hbl hbA hS (vp_in_nI (by omega) (by omega)) dL_law_168 ?_
    refine W.eq (g2 := F0 m 169 ls [.int (nI i), .int (nI y), .ref h0]) (congrArg (fun z9 => F0 m 169 ls [.int z9, .int (nI y), .ref h0]) (show (xs (nI (5 * n + 2)).toNatClampNeg) = (nI i) from (show xs (nI (5 * n + 2)).toNatClampNeg = (nI i) from by rw [nI_clamp (by omega)]; exact e2))) ?_
    refine lv_aload_n hx hb dL_law_169 rfl (lv_at hl 0 rfl) ?_
    refine lv_iload hx hb dL_law_170 (lv_at hl 4 rfl) ?_
    refine lv_iconst (v := 3) hx hb dL_law_172 (by decide) ?_
    refine lv_iadd hx hb dL_law_173 ?_
    refine W.eq (g2 := F0 m 174 ls [.int (nI (5 * n + 3)), .ref b, .int (nI i), .int (nI y), .ref h0]) (congrArg (fun z9 => F0 m 174 ls [.int z9, .ref b, .int (nI i), .int (nI y), .ref h0]) (show ((nI (5 * n)) + 3) = nI (5 * n + 3) from nI_add (5 * n) 3)) ?_
    refine va_sld hx hb hXs hbl hbA hS (vp_in_nI (by omega) (by omega)) dL_law_174 ?_
    refine W.eq (g2 := F0 m 175 ls [.int (xs (5 * n + 3)), .int (nI i), .int (nI y), .ref h0]) (congrArg (fun z9 => F0 m 175 ls [.int z9, .int (nI i), .int (nI y), .ref h0]) (show (xs (nI (5 * n + 3)).toNatClampNeg) = (xs (5 * n + 3)) from (show xs (nI (5 * n + 3)).toNatClampNeg = (xs (5 * n + 3)) from by rw [nI_clamp (by omega)]))) ?_
    refine lv_aload_n hx hb dL_law_175 rfl (lv_at hl 3 rfl) ?_
    have hPc := hP.sub (ws' := [(h0, .inr (0, [.ref ab, .int (nI rc), .int (nI rl), .int (nI ps)])), (ab, .inl (cI, 4096, .inl f)), (oa, .inl (cL, 1, .inr (.inl o)))]) [0, 1, 5] rfl
    have hDc := hD.sub (ws' := [(h0, .inr (0, [.ref ab, .int (nI rc), .int (nI rl), .int (nI ps)])), (ab, .inl (cI, 4096, .inl f)), (oa, .inl (cL, 1, .inr (.inl o)))]) [0, 1, 5] (by decide) rfl
    have hKc := hK.sub (tys' := [(cI, .int), (cL, .long)]) [0, 3] rfl
    have hFc := va_free (wc := [(h0, .inr (0, [.ref ab, .int (nI rc), .int (nI rl), .int (nI ps)])), (ab, .inl (cI, 4096, .inl f)), (oa, .inl (cL, 1, .inr (.inl o)))]) hD hS hA [0, 1, 5] rfl
    refine va_calli (vx_runSW (As := [.ref h0, .int (nI y), .int (nI i), .int (xs (5 * n + 3)), .ref oa]) (rest := []) ⟨hx, hb, hml, hown, hts⟩ (c_L_set l dC dI cI h0 ab rc rl ps f cL oa o H.size y i (xs (5 * n + 3)) ok hy hi hv1 hv2) (vx_cwSW 5 hts gL_law_L_set rfl rfl rfl (by decide +kernel) ⟨Nat.le_of_ble_eq_true rfl, Nat.le_of_ble_eq_true rfl⟩) ⟨fun a U g mk q => by obtain ⟨q0, q1, qP, qK, qD⟩ := q; exact ⟨q0, q1, qP, va_K.moved (u := U) (U := U.calling g mk a) (Vm.Alike.refl U.vm) qK, qD⟩, fun U hU hW => ⟨rfl, by rw [hU], by rw [hU]; exact hPc, va_K.moved hW.alike hKc, hDc.weaken (fun _ _ _ _ => trivial)⟩⟩ rfl rfl hl.1 rfl (lv_room (Nat.le_of_ble_eq_true rfl)) dL_law_176 ⟨by show 6 + n + 0 ≤ 1031; omega, by show 12299 + 6 * n + 0 ≤ 20497; omega⟩) hS (fun q _ h => hFc q h) hFc (fun k u t9 H1 locs ht hvm ek hB hz1 hk1 hS => ?_)
    obtain ⟨hP1, hK1, hD1⟩ := hB
    rw [ht] at hP1
    obtain ⟨hP, hD⟩ := va_join (wr := [(h1, .inr (1, [.int fl, .int (nI rc), .int (nI rl), .int (nI ps), .ref b1, .ref b2])), (b1, .inl (cJ, 4096, .inl g)), (b2, .inl (cK, 4096, .inl t))]) (w1 := [(h0, .inr (0, [.ref ab, .int (nI rc), .int (nI rl), .int (nI ps)])), (ab, .inl (cI, 4096, .inl (upd f (y * rl + i) (xs (5 * n + 3))))), (oa, .inl (cL, 1, .inr (.inl (vp_updL o 0 (f (y * rl + i)).toInt64))))]) hP hD [0, 1, 5] [2, 3, 4] rfl rfl (by decide) (by decide) hk1 hFc hP1 hD1
    generalize H1 = H at hP hS ⊢
    have hP := hP.sub (ws' := [(h0, .inr (0, [.ref ab, .int (nI rc), .int (nI rl), .int (nI ps)])), (ab, .inl (cI, 4096, .inl (upd f (y * rl + i) (xs (5 * n + 3))))), (h1, .inr (1, [.int fl, .int (nI rc), .int (nI rl), .int (nI ps), .ref b1, .ref b2])), (b1, .inl (cJ, 4096, .inl g)), (b2, .inl (cK, 4096, .inl t)), (oa, .inl (cL, 1, .inr (.inl (vp_updL o 0 (f (y * rl + i)).toInt64))))]) [3, 4, 0, 1, 2, 5] rfl
    have hD := hD.sub (ws' := [(h0, .inr (0, [.ref ab, .int (nI rc), .int (nI rl), .int (nI ps)])), (ab, .inl (cI, 4096, .inl (upd f (y * rl + i) (xs (5 * n + 3))))), (h1, .inr (1, [.int fl, .int (nI rc), .int (nI rl), .int (nI ps), .ref b1, .ref b2])), (b1, .inl (cJ, 4096, .inl g)), (b2, .inl (cK, 4096, .inl t)), (oa, .inl (cL, 1, .inr (.inl (vp_updL o 0 (f (y * rl + i)).toInt64))))]) [3, 4, 0, 1, 2, 5] (by decide) rfl
    have hP : va_P (dC, dI) rw_cl [(h0, .inr (0, [.ref ab, .int (nI rc), .int (nI rl), .int (nI ps)])), (ab, .inl (cI, 4096, .inl (upd f (y * rl + i) (xs (5 * n + 3))))), (h1, .inr (1, [.int fl, .int (nI rc), .int (nI rl), .int (nI ps), .ref b1, .ref b2])), (b1, .inl (cJ, 4096, .inl g)), (b2, .inl (cK, 4096, .inl t)), (oa, .inl (cL, 1, .inr (.inl (vp_updL o 0 (f (y * rl + i)).toInt64))))] H := hP
    have hD : va_D A [(h0, .inr (0, [.ref ab, .int (nI rc), .int (nI rl), .int (nI ps)])), (ab, .inl (cI, 4096, .inl (upd f (y * rl + i) (xs (5 * n + 3))))), (h1, .inr (1, [.int fl, .int (nI rc), .int (nI rl), .int (nI ps), .ref b1, .ref b2])), (b1, .inl (cJ, 4096, .inl g)), (b2, .inl (cK, 4096, .inl t)), (oa, .inl (cL, 1, .inr (.inl (vp_updL o 0 (f (y * rl + i)).toInt64))))] := hD
    refine W.widen (k := 6 + n) (n := 12299 + 6 * n) (Nat.le_refl _) (Nat.le_refl _) ?_
    subst ek
    refine lv_istore hx hb dL_law_179 hl (by decide) rfl (fun ls hl => ?_)
    have hl : lv_has ls 7 [(5, .int 0), (0, .ref b), (1, .ref h0), (2, .ref h1), (3, .ref oa), (4, .int (nI (5 * n)))] := hl
    refine lv_aload_n hx hb dL_law_181 rfl (lv_at hl 3 rfl) ?_
    refine lv_aload_n hx hb dL_law_182 rfl (lv_at hl 1 rfl) ?_
    refine lv_iload hx hb dL_law_183 (lv_at hl 5 rfl) ?_
    refine lv_iconst (v := 1) hx hb dL_law_185 (by decide) ?_
    refine lv_iadd hx hb dL_law_186 ?_
    refine W.eq (g2 := F0 m 187 ls [.int (nI (5 * n + 1)), .ref b, .ref h1]) (congrArg (fun z9 => F0 m 187 ls [.int z9, .ref b, .ref h1]) (show ((nI (5 * n)) + 1) = nI (5 * n + 1) from nI_add (5 * n) 1)) ?_
    refine va_sld hx hb hXs hbl hbA hS (vp_in_nI (by omega) (by omega)) dL_law_187 ?_
    refine W.eq (g2 := F0 m 188 ls [.int (nI y), .ref h1]) (congrArg (fun z9 => F0 m 188 ls [.int z9, .ref h1]) (show (xs (nI (5 * n + 1)).toNatClampNeg) = (nI y) from (show xs (nI (5 * n + 1)).toNatClampNeg = (nI y) from by rw [nI_clamp (by omega)]; exact e1))) ?_
    refine lv_aload_n hx hb dL_law_188 rfl (lv_at hl 1 rfl) ?_
    refine lv_iload hx hb dL_law_189 (lv_at hl 5 rfl) ?_
    refine lv_iconst (v := 2) hx hb dL_law_191 (by decide) ?_
    refine lv_iadd hx hb dL_law_192 ?_
    refine W.eq (g2 := F0 m 193 ls [.int (nI (5 * n + 2)), .ref b, .int (nI y), .ref h1]) (congrArg (fun z9 => F0 m 193 ls [.int z9, .ref b, .int (nI y), .ref h1]) (show ((nI (5 * n)) + 2) = nI (5 * n + 2) from nI_add (5 * n) 2)) ?_
    refine va_sld hx hb hXs hbl hbA hS (vp_in_nI (by omega) (by omega)) dL_law_193 ?_
    refine W.eq (g2 := F0 m 194 ls [.int (nI i), .int (nI y), .ref h1]) (congrArg (fun z9 => F0 m 194 ls [.int z9, .int (nI y), .ref h1]) (show (xs (nI (5 * n + 2)).toNatClampNeg) = (nI i) from (show xs (nI (5 * n + 2)).toNatClampNeg = (nI i) from by rw [nI_clamp (by omega)]; exact e2))) ?_
    refine lv_aload_n hx hb dL_law_194 rfl (lv_at hl 1 rfl) ?_
    refine lv_iload hx hb dL_law_195 (lv_at hl 5 rfl) ?_
    refine lv_iconst (v := 3) hx hb dL_law_197 (by decide) ?_
    refine lv_iadd hx hb dL_law_198 ?_
    refine W.eq (g2 := F0 m 199 ls [.int (nI (5 * n + 3)), .ref b, .int (nI i), .int (nI y), .ref h1]) (congrArg (fun z9 => F0 m 199 ls [.int z9, .ref b, .int (nI i), .int (nI y), .ref h1]) (show ((nI (5 * n)) + 3) = nI (5 * n + 3) from nI_add (5 * n) 3)) ?_
    refine va_sld hx hb hXs hbl hbA hS (vp_in_nI (by omega) (by omega)) dL_law_199 ?_
    refine W.eq (g2 := F0 m 200 ls [.int (xs (5 * n + 3)), .int (nI i), .int (nI y), .ref h1]) (congrArg (fun z9 => F0 m 200 ls [.int z9, .int (nI i), .int (nI y), .ref h1]) (show (xs (nI (5 * n + 3)).toNatClampNeg) = (xs (5 * n + 3)) from (show xs (nI (5 * n + 3)).toNatClampNeg = (xs (5 * n + 3)) from by rw [nI_clamp (by omega)]))) ?_
    have hPc := hP.sub (ws' := [(h1, .inr (1, [.int fl, .int (nI rc), .int (nI rl), .int (nI ps), .ref b1, .ref b2])), (b1, .inl (cJ, 4096, .inl g)), (b2, .inl (cK, 4096, .inl t))]) [2, 3, 4] rfl
    have hDc := hD.sub (ws' := [(h1, .inr (1, [.int fl, .int (nI rc), .int (nI rl), .int (nI ps), .ref b1, .ref b2])), (b1, .inl (cJ, 4096, .inl g)), (b2, .inl (cK, 4096, .inl t))]) [2, 3, 4] (by decide) rfl
    have hKc := hK.sub (tys' := [(cJ, .int), (cK, .int)]) [1, 2] rfl
    have hFc := va_free (wc := [(h1, .inr (1, [.int fl, .int (nI rc), .int (nI rl), .int (nI ps), .ref b1, .ref b2])), (b1, .inl (cJ, 4096, .inl g)), (b2, .inl (cK, 4096, .inl t))]) hD hS hA [2, 3, 4] rfl
    refine va_calli (va_runV (C := RX1) (As := [.int (nI y), .int (nI i), .int (xs (5 * n + 3))]) (rest := []) ⟨hx, hb, hml, hown, htsY⟩ (c_Y1_set l dC dI cJ cK h1 b1 b2 fl rc rl ps g t H.size y i (xs (5 * n + 3)) ok hy hi hv1 hv2) (cwV 3 htsY gL_law_Y1_set rfl rfl rfl (by decide +kernel) ⟨Nat.le_of_ble_eq_true rfl, Nat.le_of_ble_eq_true rfl⟩) ⟨fun a U g mk q => by obtain ⟨q0, q1, qP, qK, qD⟩ := q; exact ⟨q0, q1, qP, va_K.moved (u := U) (U := U.calling g mk a) (Vm.Alike.refl U.vm) qK, qD⟩, va_recv hK hP (ci := 1) (q0 := 2) rfl rfl, fun U hU hW => ⟨rfl, by rw [hU], by rw [hU]; exact hPc, va_K.moved hW.alike hKc, hDc.weaken (fun _ _ _ _ => trivial)⟩⟩ rfl rfl hl.1 rfl (lv_room (Nat.le_of_ble_eq_true rfl)) dL_law_200 ⟨by show 6 + n + 0 ≤ 1031; omega, by show 12299 + 6 * n + 0 ≤ 20497; omega⟩) hS (fun q _ h => hFc q h) hFc (fun rb u t9 H1 locs ht hvm eb hB hz1 hk1 hS => ?_)
    obtain ⟨hP1, hK1, hD1⟩ := hB
    rw [ht] at hP1
    obtain ⟨hP, hD⟩ := va_join (wr := [(h0, .inr (0, [.ref ab, .int (nI rc), .int (nI rl), .int (nI ps)])), (ab, .inl (cI, 4096, .inl (upd f (y * rl + i) (xs (5 * n + 3))))), (oa, .inl (cL, 1, .inr (.inl (vp_updL o 0 (f (y * rl + i)).toInt64))))]) (w1 := [(h1, .inr (1, [.int 0, .int (nI rc), .int (nI rl), .int (nI ps), .ref b1, .ref b2])), (b1, .inl (cJ, 4096, .inl (upd g (y * rl + i) (xs (5 * n + 3))))), (b2, .inl (cK, 4096, .inl t))]) hP hD [2, 3, 4] [0, 1, 5] rfl rfl (by decide) (by decide) hk1 hFc hP1 hD1
    generalize H1 = H at hP hS ⊢
    have hP := hP.sub (ws' := [(h0, .inr (0, [.ref ab, .int (nI rc), .int (nI rl), .int (nI ps)])), (ab, .inl (cI, 4096, .inl (upd f (y * rl + i) (xs (5 * n + 3))))), (h1, .inr (1, [.int 0, .int (nI rc), .int (nI rl), .int (nI ps), .ref b1, .ref b2])), (b1, .inl (cJ, 4096, .inl (upd g (y * rl + i) (xs (5 * n + 3))))), (b2, .inl (cK, 4096, .inl t)), (oa, .inl (cL, 1, .inr (.inl (vp_updL o 0 (f (y * rl + i)).toInt64))))]) [0, 1, 3, 4, 5, 2] rfl
    have hD := hD.sub (ws' := [(h0, .inr (0, [.ref ab, .int (nI rc), .int (nI rl), .int (nI ps)])), (ab, .inl (cI, 4096, .inl (upd f (y * rl + i) (xs (5 * n + 3))))), (h1, .inr (1, [.int 0, .int (nI rc), .int (nI rl), .int (nI ps), .ref b1, .ref b2])), (b1, .inl (cJ, 4096, .inl (upd g (y * rl + i) (xs (5 * n + 3))))), (b2, .inl (cK, 4096, .inl t)), (oa, .inl (cL, 1, .inr (.inl (vp_updL o 0 (f (y * rl + i)).toInt64))))]) [0, 1, 3, 4, 5, 2] (by decide) rfl
    have hP : va_P (dC, dI) rw_cl [(h0, .inr (0, [.ref ab, .int (nI rc), .int (nI rl), .int (nI ps)])), (ab, .inl (cI, 4096, .inl (upd f (y * rl + i) (xs (5 * n + 3))))), (h1, .inr (1, [.int 0, .int (nI rc), .int (nI rl), .int (nI ps), .ref b1, .ref b2])), (b1, .inl (cJ, 4096, .inl (upd g (y * rl + i) (xs (5 * n + 3))))), (b2, .inl (cK, 4096, .inl t)), (oa, .inl (cL, 1, .inr (.inl (vp_updL o 0 (f (y * rl + i)).toInt64))))] H := hP
    have hD : va_D A [(h0, .inr (0, [.ref ab, .int (nI rc), .int (nI rl), .int (nI ps)])), (ab, .inl (cI, 4096, .inl (upd f (y * rl + i) (xs (5 * n + 3))))), (h1, .inr (1, [.int 0, .int (nI rc), .int (nI rl), .int (nI ps), .ref b1, .ref b2])), (b1, .inl (cJ, 4096, .inl (upd g (y * rl + i) (xs (5 * n + 3))))), (b2, .inl (cK, 4096, .inl t)), (oa, .inl (cL, 1, .inr (.inl (vp_updL o 0 (f (y * rl + i)).toInt64))))] := hD
    refine W.widen (k := 6 + n) (n := 12299 + 6 * n) (Nat.le_refl _) (Nat.le_refl _) ?_
    subst eb
    refine lv_istore hx hb dL_law_203 hl (by decide) rfl (fun ls hl => ?_)
    have hl : lv_has ls 7 [(6, .int (g (y * rl + i))), (5, .int 0), (0, .ref b), (1, .ref h0), (2, .ref h1), (3, .ref oa), (4, .int (nI (5 * n)))] := hl
    refine lv_aload_n hx hb dL_law_205 rfl (lv_at hl 4 rfl) ?_
    have hPc := hP.sub (ws' := [(h1, .inr (1, [.int 0, .int (nI rc), .int (nI rl), .int (nI ps), .ref b1, .ref b2])), (b1, .inl (cJ, 4096, .inl (upd g (y * rl + i) (xs (5 * n + 3))))), (b2, .inl (cK, 4096, .inl t))]) [2, 3, 4] rfl
    have hKc := hK.sub (tys' := [(cJ, .int), (cK, .int)]) [1, 2] rfl
    refine vp_callSi (W.runV (C := RX1) (As := []) (rest := []) ⟨hx, hb, hml, hown, htsY⟩ (c_Y1_thrown l dC dI cJ cK h1 b1 b2 0 rc rl ps (upd g (y * rl + i) (xs (5 * n + 3))) t ) (cwV 0 htsY gL_law_Y1_thrown rfl rfl rfl (by decide +kernel) ⟨Nat.le_of_ble_eq_true rfl, Nat.le_of_ble_eq_true rfl⟩) ⟨fun a U g mk q => by obtain ⟨q0, qP, qK⟩ := q; exact ⟨q0, qP, va_K.moved (u := U) (U := U.calling g mk a) (Vm.Alike.refl U.vm) qK⟩, va_recv hK hP (ci := 1) (q0 := 2) rfl rfl, fun U hU hW => ⟨rfl, by rw [hU]; exact hPc, va_K.moved hW.alike hKc⟩⟩ rfl rfl hl.1 rfl (lv_room (Nat.le_of_ble_eq_true rfl)) dL_law_206 ⟨by show 6 + n + 0 ≤ 1031; omega, by show 12299 + 6 * n + 0 ≤ 20497; omega⟩) (fun rt et => ?_)
    subst et
    refine lv_iload hx hb dL_law_209 (lv_at hl 1 rfl) ?_
    refine lv_icmp_eq (tgt := 216) hx hb dL_law_211 (by decide) (fun hq => ?_) (fun hq => ?_)
    · refine lv_iload hx hb dL_law_216 (lv_at hl 1 rfl) ?_
      refine lv_if_ne (tgt := 233) hx hb dL_law_218 (by decide) (fun hz => ?_) (fun hz => ?_)
      · exact absurd (rfl : (0 : Int32) = 0) hz
      · refine lv_aload_n hx hb dL_law_221 rfl (lv_at hl 5 rfl) ?_
        refine lv_iconst (v := 0) hx hb dL_law_222 (by decide) ?_
        refine va_lald hx hb hK hP 5 3 rfl rfl (vp_in_nI (n := 0) (by omega) (by omega)) dL_law_223 ?_
        refine lv_topl (fun v9 e9 => ?_)
        have e8 : v9 = ((g (y * rl + i))).toInt64 := e9.trans ((show (vp_updL o 0 (f (y * rl + i)).toInt64) (0 : Int32).toNatClampNeg = (f (y * rl + i)).toInt64 from by rw [show (0 : Int32).toNatClampNeg = 0 from by decide]; exact if_pos rfl).trans (congrArg Int32.toInt64 (hR.e _ (ok.lt hy hi))))
        refine lv_iload hx hb dL_law_224 (lv_at hl 0 rfl) ?_
        refine lv_i2l hx hb dL_law_226 rfl ?_
        refine W.lcmp hx hb dL_law_227 ?_
        refine lv_if_eq (tgt := 233) hx hb dL_law_228 (by decide) (fun hw => ?_) (fun hw => ?_)
        · refine lv_goto (tgt := 685) hx hb dL_law_233 (by decide) ?_
          refine lv_iinc (k := 6) (v := (nI (5 * (n + 1)))) hx hb dL_law_685 hl rfl (show nI (5 * n) + nI 5 = nI (5 * (n + 1)) from (nI_add _ _).trans (congrArg nI (by omega))) (by decide) rfl (fun ls hl => ?_)
          have hl : lv_has ls 7 [(4, .int (nI (5 * (n + 1)))), (6, .int (g (y * rl + i))), (5, .int 0), (0, .ref b), (1, .ref h0), (2, .ref h1), (3, .ref oa)] := hl
          refine lv_goto (tgt := 23) hx hb dL_law_688 (by decide) ?_
          refine W.widen (k := 6 + (n + 1)) (n := 12299 + 6 * (n + 1)) (by omega) (by omega) ?_
          exact ih _ _ _ ⟨rc, rl, ps, (upd f (y * rl + i) (xs (5 * n + 3))), 0, (upd g (y * rl + i) (xs (5 * n + 3))), t, (vp_updL o 0 (f (y * rl + i)).toInt64), ok, (rf_R_set hR hv1 hv2), lv_sub hl [3, 4, 5, 6, 0] rfl, hP, hD, hS⟩
        · exact absurd (by rw [e8]; exact rf_cmp _) hw
    · exact absurd (rfl : (0 : Int32) = 0) hq
set_option maxHeartbeats 8000000 in
set_option maxRecDepth 100000 in
theorem lw_case_get {p : Program} {l : Launch} {e : Env} {s : State} {m : MethodId} {below : List Frame} {meth : Method} {c : Code} {Q : State → Prop} {A : Nat → Prop} {b L : Nat} {xs : Nat → Int32} {dC : Nat → ClassId} {dI : Nat → Nat → Nat} {h0 ab : Nat} {cI : ClassId} {h1 b1 b2 : Nat} {cJ cK : ClassId} {oa : Nat} {cL : ClassId} {sa t1 t2 t3 t4 : Nat} (hl9 : l.stackTraces = false) (C9 : lw_F p s m c A b L xs dC dI cI cJ cK cL sa t1 t2 t3 t4) {n : Nat} (hn : n ≤ 512) (hL5 : 5 * n + 5 ≤ L) {rc rl ps : Nat} {f : Nat → Int32} {fl : Int32} {g t : Nat → Int32} {o : Nat → Int64} {ls : Array Slot} {H : Heap} {locs : List Loc} (ok : rf_ok rc rl ps) (hR : rf_R (rc * rl) f g) (hl : lv_has ls 7 [(0, .ref b), (1, .ref h0), (2, .ref h1), (3, .ref oa), (4, .int (nI (5 * n)))]) (hP : va_P (dC, dI) rw_cl (lw_W h0 ab cI h1 b1 b2 cJ cK oa cL rc rl ps f fl g t o) H) (hD : va_D A (lw_W h0 ab cI h1 b1 b2 cJ cK oa cL rc rl ps f fl g t o)) (hS : va_S A s.heap H locs) (ih : ∀ (ls : Array Slot) (H : Heap) (locs : List Loc), lw_I s A dC dI b h0 ab cI h1 b1 b2 cJ cK oa cL (n + 1) ls H locs → W p l e room_1 s m #[Value.ref b] below meth c H locs (6 + (n + 1)) (12299 + 6 * (n + 1)) Q (F0 m 23 ls [])) : W p l e room_1 s m #[Value.ref b] below meth c H locs (6 + n) (12299 + 6 * n) Q (F0 m 236 ls []) := by
  obtain ⟨hx, hb, hml, hown, hts, htsY, hXs, hbl, hbA, hA, hA2, hK, hX, hZ, hL⟩ := C9
  by_cases hc9 : rf_ot rc rl (xs (5 * n + 1)) (xs (5 * n + 2))
  · refine lv_aload_n hx hb dL_law_236 rfl (lv_at hl 1 rfl) ?_
    refine lv_aload_n hx hb dL_law_237 rfl (lv_at hl 0 rfl) ?_
    refine lv_iload hx hb dL_law_238 (lv_at hl 4 rfl) ?_
    refine lv_iconst (v := 1) hx hb dL_law_240 (by decide) ?_
    refine lv_iadd hx hb dL_law_241 ?_
    refine W.eq (g2 := F0 m 242 ls [.int (nI (5 * n + 1)), .ref b, .ref h0]) (congrArg (fun z9 => F0 m 242 ls [.int z9, .ref b, .ref h0]) (show ((nI (5 * n)) + 1) = nI (5 * n + 1) from nI_add (5 * n) 1)) ?_
    refine va_sld hx hb hXs hbl hbA hS (vp_in_nI (by omega) (by omega)) dL_law_242 ?_
    refine W.eq (g2 := F0 m 243 ls [.int (xs (5 * n + 1)), .ref h0]) (congrArg (fun z9 => F0 m 243 ls [.int z9, .ref h0]) (show (xs (nI (5 * n + 1)).toNatClampNeg) = (xs (5 * n + 1)) from (show xs (nI (5 * n + 1)).toNatClampNeg = (xs (5 * n + 1)) from by rw [nI_clamp (by omega)]))) ?_
    refine lv_aload_n hx hb dL_law_243 rfl (lv_at hl 0 rfl) ?_
    refine lv_iload hx hb dL_law_244 (lv_at hl 4 rfl) ?_
    refine lv_iconst (v := 2) hx hb dL_law_246 (by decide) ?_
    refine lv_iadd hx hb dL_law_247 ?_
    refine W.eq (g2 := F0 m 248 ls [.int (nI (5 * n + 2)), .ref b, .int (xs (5 * n + 1)), .ref h0]) (congrArg (fun z9 => F0 m 248 ls [.int z9, .ref b, .int (xs (5 * n + 1)), .ref h0]) (show ((nI (5 * n)) + 2) = nI (5 * n + 2) from nI_add (5 * n) 2)) ?_
    refine va_sld hx hb hXs hbl hbA hS (vp_in_nI (by omega) (by omega)) dL_law_248 ?_
    refine W.eq (g2 := F0 m 249 ls [.int (xs (5 * n + 2)), .int (xs (5 * n + 1)), .ref h0]) (congrArg (fun z9 => F0 m 249 ls [.int z9, .int (xs (5 * n + 1)), .ref h0]) (show (xs (nI (5 * n + 2)).toNatClampNeg) = (xs (5 * n + 2)) from (show xs (nI (5 * n + 2)).toNatClampNeg = (xs (5 * n + 2)) from by rw [nI_clamp (by omega)]))) ?_
    refine lv_aload_n hx hb dL_law_249 rfl (lv_at hl 3 rfl) ?_
    have hPc := hP.sub (ws' := [(h0, .inr (0, [.ref ab, .int (nI rc), .int (nI rl), .int (nI ps)])), (ab, .inl (cI, 4096, .inl f)), (oa, .inl (cL, 1, .inr (.inl o)))]) [0, 1, 5] rfl
    have hDc := hD.sub (ws' := [(h0, .inr (0, [.ref ab, .int (nI rc), .int (nI rl), .int (nI ps)])), (ab, .inl (cI, 4096, .inl f)), (oa, .inl (cL, 1, .inr (.inl o)))]) [0, 1, 5] (by decide) rfl
    have hKc := hK.sub (tys' := [(cI, .int), (cL, .long)]) [0, 3] rfl
    have hFc := va_free (wc := [(h0, .inr (0, [.ref ab, .int (nI rc), .int (nI rl), .int (nI ps)])), (ab, .inl (cI, 4096, .inl f)), (oa, .inl (cL, 1, .inr (.inl o)))]) hD hS hA [0, 1, 5] rfl
    refine va_calli (vx_runSW (As := [.ref h0, .int (xs (5 * n + 1)), .int (xs (5 * n + 2)), .ref oa]) (rest := []) ⟨hx, hb, hml, hown, hts⟩ (c_L_get_bad l hl9 sa dC dI cI h0 ab rc rl ps f cL oa o H.size (xs (5 * n + 1)) (xs (5 * n + 2)) (rf_ot_x ok hc9)) (vx_cwSW 4 hts gL_law_L_get rfl rfl rfl (by decide +kernel) ⟨Nat.le_of_ble_eq_true rfl, Nat.le_of_ble_eq_true rfl⟩) ⟨fun a U g mk q => by obtain ⟨q0, qX, q1, qP, qK, qD⟩ := q; exact ⟨q0, rw_XA.call qX, q1, qP, va_K.moved (u := U) (U := U.calling g mk a) (Vm.Alike.refl U.vm) qK, qD⟩, fun U hU hW => ⟨rfl, rw_XA.to hX hS (fun q z => hA q (Nat.le_trans hS.1 z)) hU hW, by rw [hU], by rw [hU]; exact hPc, va_K.moved hW.alike hKc, hDc.weaken (fun _ _ _ _ => trivial)⟩⟩ rfl rfl hl.1 rfl (lv_room (Nat.le_of_ble_eq_true rfl)) dL_law_250 ⟨by show 6 + n + 1 ≤ 1031; omega, by show 12299 + 6 * n + 6 ≤ 20497; omega⟩) hS (fun q _ h => hFc q h) hFc (fun k u t9 H1 locs ht hvm ek hB hz1 hk1 hS => ?_)
    obtain ⟨hP1, hK1, hD1⟩ := hB
    rw [ht] at hP1
    obtain ⟨hP, hD⟩ := va_join (wr := [(h1, .inr (1, [.int fl, .int (nI rc), .int (nI rl), .int (nI ps), .ref b1, .ref b2])), (b1, .inl (cJ, 4096, .inl g)), (b2, .inl (cK, 4096, .inl t))]) (w1 := [(h0, .inr (0, [.ref ab, .int (nI rc), .int (nI rl), .int (nI ps)])), (ab, .inl (cI, 4096, .inl f)), (oa, .inl (cL, 1, .inr (.inl o)))]) hP hD [0, 1, 5] [2, 3, 4] rfl rfl (by decide) (by decide) hk1 hFc hP1 hD1
    generalize H1 = H at hP hS ⊢
    have hP := hP.sub (ws' := [(h0, .inr (0, [.ref ab, .int (nI rc), .int (nI rl), .int (nI ps)])), (ab, .inl (cI, 4096, .inl f)), (h1, .inr (1, [.int fl, .int (nI rc), .int (nI rl), .int (nI ps), .ref b1, .ref b2])), (b1, .inl (cJ, 4096, .inl g)), (b2, .inl (cK, 4096, .inl t)), (oa, .inl (cL, 1, .inr (.inl o)))]) [3, 4, 0, 1, 2, 5] rfl
    have hD := hD.sub (ws' := [(h0, .inr (0, [.ref ab, .int (nI rc), .int (nI rl), .int (nI ps)])), (ab, .inl (cI, 4096, .inl f)), (h1, .inr (1, [.int fl, .int (nI rc), .int (nI rl), .int (nI ps), .ref b1, .ref b2])), (b1, .inl (cJ, 4096, .inl g)), (b2, .inl (cK, 4096, .inl t)), (oa, .inl (cL, 1, .inr (.inl o)))]) [3, 4, 0, 1, 2, 5] (by decide) rfl
    have hP : va_P (dC, dI) rw_cl [(h0, .inr (0, [.ref ab, .int (nI rc), .int (nI rl), .int (nI ps)])), (ab, .inl (cI, 4096, .inl f)), (h1, .inr (1, [.int fl, .int (nI rc), .int (nI rl), .int (nI ps), .ref b1, .ref b2])), (b1, .inl (cJ, 4096, .inl g)), (b2, .inl (cK, 4096, .inl t)), (oa, .inl (cL, 1, .inr (.inl o)))] H := hP
    have hD : va_D A [(h0, .inr (0, [.ref ab, .int (nI rc), .int (nI rl), .int (nI ps)])), (ab, .inl (cI, 4096, .inl f)), (h1, .inr (1, [.int fl, .int (nI rc), .int (nI rl), .int (nI ps), .ref b1, .ref b2])), (b1, .inl (cJ, 4096, .inl g)), (b2, .inl (cK, 4096, .inl t)), (oa, .inl (cL, 1, .inr (.inl o)))] := hD
    subst ek
    refine lv_istore hx hb dL_law_253 hl (by decide) rfl (fun ls hl => ?_)
    have hl : lv_has ls 7 [(5, .int 1), (0, .ref b), (1, .ref h0), (2, .ref h1), (3, .ref oa), (4, .int (nI (5 * n)))] := hl
    refine lv_aload_n hx hb dL_law_255 rfl (lv_at hl 3 rfl) ?_
    refine lv_aload_n hx hb dL_law_256 rfl (lv_at hl 1 rfl) ?_
    refine lv_iload hx hb dL_law_257 (lv_at hl 5 rfl) ?_
    refine lv_iconst (v := 1) hx hb dL_law_259 (by decide) ?_
    refine lv_iadd hx hb dL_law_260 ?_
    refine W.eq (g2 := F0 m 261 ls [.int (nI (5 * n + 1)), .ref b, .ref h1]) (congrArg (fun z9 => F0 m 261 ls [.int z9, .ref b, .ref h1]) (show ((nI (5 * n)) + 1) = nI (5 * n + 1) from nI_add (5 * n) 1)) ?_
    refine va_sld hx hb hXs hbl hbA hS (vp_in_nI (by omega) (by omega)) dL_law_261 ?_
    refine W.eq (g2 := F0 m 262 ls [.int (xs (5 * n + 1)), .ref h1]) (congrArg (fun z9 => F0 m 262 ls [.int z9, .ref h1]) (show (xs (nI (5 * n + 1)).toNatClampNeg) = (xs (5 * n + 1)) from (show xs (nI (5 * n + 1)).toNatClampNeg = (xs (5 * n + 1)) from by rw [nI_clamp (by omega)]))) ?_
    refine lv_aload_n hx hb dL_law_262 rfl (lv_at hl 1 rfl) ?_
    refine lv_iload hx hb dL_law_263 (lv_at hl 5 rfl) ?_
    refine lv_iconst (v := 2) hx hb dL_law_265 (by decide) ?_
    refine lv_iadd hx hb dL_law_266 ?_
    refine W.eq (g2 := F0 m 267 ls [.int (nI (5 * n + 2)), .ref b, .int (xs (5 * n + 1)), .ref h1]) (congrArg (fun z9 => F0 m 267 ls [.int z9, .ref b, .int (xs (5 * n + 1)), .ref h1]) (show ((nI (5 * n)) + 2) = nI (5 * n + 2) from nI_add (5 * n) 2)) ?_
    refine va_sld hx hb hXs hbl hbA hS (vp_in_nI (by omega) (by omega)) dL_law_267 ?_
    refine W.eq (g2 := F0 m 268 ls [.int (xs (5 * n + 2)), .int (xs (5 * n + 1)), .ref h1]) (congrArg (fun z9 => F0 m 268 ls [.int z9, .int (xs (5 * n + 1)), .ref h1]) (show (xs (nI (5 * n + 2)).toNatClampNeg) = (xs (5 * n + 2)) from (show xs (nI (5 * n + 2)).toNatClampNeg = (xs (5 * n + 2)) from by rw [nI_clamp (by omega)]))) ?_
    have hPc := hP.sub (ws' := [(h1, .inr (1, [.int fl, .int (nI rc), .int (nI rl), .int (nI ps), .ref b1, .ref b2])), (b1, .inl (cJ, 4096, .inl g)), (b2, .inl (cK, 4096, .inl t))]) [2, 3, 4] rfl
    have hDc := hD.sub (ws' := [(h1, .inr (1, [.int fl, .int (nI rc), .int (nI rl), .int (nI ps), .ref b1, .ref b2])), (b1, .inl (cJ, 4096, .inl g)), (b2, .inl (cK, 4096, .inl t))]) [2, 3, 4] (by decide) rfl
    have hKc := hK.sub (tys' := [(cJ, .int), (cK, .int)]) [1, 2] rfl
    have hFc := va_free (wc := [(h1, .inr (1, [.int fl, .int (nI rc), .int (nI rl), .int (nI ps), .ref b1, .ref b2])), (b1, .inl (cJ, 4096, .inl g)), (b2, .inl (cK, 4096, .inl t))]) hD hS hA [2, 3, 4] rfl
    refine va_calli (va_runV (C := RX1) (As := [.int (xs (5 * n + 1)), .int (xs (5 * n + 2))]) (rest := []) ⟨hx, hb, hml, hown, htsY⟩ (c_Y1_get_bad l dC dI cJ cK h1 b1 b2 fl rc rl ps g t H.size (xs (5 * n + 1)) (xs (5 * n + 2)) hc9) (cwV 2 htsY gL_law_Y1_get rfl rfl rfl (by decide +kernel) ⟨Nat.le_of_ble_eq_true rfl, Nat.le_of_ble_eq_true rfl⟩) ⟨fun a U g mk q => by obtain ⟨q0, q1, qP, qK, qD⟩ := q; exact ⟨q0, q1, qP, va_K.moved (u := U) (U := U.calling g mk a) (Vm.Alike.refl U.vm) qK, qD⟩, va_recv hK hP (ci := 1) (q0 := 2) rfl rfl, fun U hU hW => ⟨rfl, by rw [hU], by rw [hU]; exact hPc, va_K.moved hW.alike hKc, hDc.weaken (fun _ _ _ _ => trivial)⟩⟩ rfl rfl hl.1 rfl (lv_room (Nat.le_of_ble_eq_true rfl)) dL_law_268 ⟨by show 6 + n + 1 + 0 ≤ 1031; omega, by show 12299 + 6 * n + 6 + 0 ≤ 20497; omega⟩) hS (fun q _ h => hFc q h) hFc (fun rb u t9 H1 locs ht hvm eb hB hz1 hk1 hS => ?_)
    obtain ⟨hP1, hK1, hD1⟩ := hB
    rw [ht] at hP1
    obtain ⟨hP, hD⟩ := va_join (wr := [(h0, .inr (0, [.ref ab, .int (nI rc), .int (nI rl), .int (nI ps)])), (ab, .inl (cI, 4096, .inl f)), (oa, .inl (cL, 1, .inr (.inl o)))]) (w1 := [(h1, .inr (1, [.int 1, .int (nI rc), .int (nI rl), .int (nI ps), .ref b1, .ref b2])), (b1, .inl (cJ, 4096, .inl g)), (b2, .inl (cK, 4096, .inl t))]) hP hD [2, 3, 4] [0, 1, 5] rfl rfl (by decide) (by decide) hk1 hFc hP1 hD1
    generalize H1 = H at hP hS ⊢
    have hP := hP.sub (ws' := [(h0, .inr (0, [.ref ab, .int (nI rc), .int (nI rl), .int (nI ps)])), (ab, .inl (cI, 4096, .inl f)), (h1, .inr (1, [.int 1, .int (nI rc), .int (nI rl), .int (nI ps), .ref b1, .ref b2])), (b1, .inl (cJ, 4096, .inl g)), (b2, .inl (cK, 4096, .inl t)), (oa, .inl (cL, 1, .inr (.inl o)))]) [0, 1, 3, 4, 5, 2] rfl
    have hD := hD.sub (ws' := [(h0, .inr (0, [.ref ab, .int (nI rc), .int (nI rl), .int (nI ps)])), (ab, .inl (cI, 4096, .inl f)), (h1, .inr (1, [.int 1, .int (nI rc), .int (nI rl), .int (nI ps), .ref b1, .ref b2])), (b1, .inl (cJ, 4096, .inl g)), (b2, .inl (cK, 4096, .inl t)), (oa, .inl (cL, 1, .inr (.inl o)))]) [0, 1, 3, 4, 5, 2] (by decide) rfl
    have hP : va_P (dC, dI) rw_cl [(h0, .inr (0, [.ref ab, .int (nI rc), .int (nI rl), .int (nI ps)])), (ab, .inl (cI, 4096, .inl f)), (h1, .inr (1, [.int 1, .int (nI rc), .int (nI rl), .int (nI ps), .ref b1, .ref b2])), (b1, .inl (cJ, 4096, .inl g)), (b2, .inl (cK, 4096, .inl t)), (oa, .inl (cL, 1, .inr (.inl o)))] H := hP
    have hD : va_D A [(h0, .inr (0, [.ref ab, .int (nI rc), .int (nI rl), .int (nI ps)])), (ab, .inl (cI, 4096, .inl f)), (h1, .inr (1, [.int 1, .int (nI rc), .int (nI rl), .int (nI ps), .ref b1, .ref b2])), (b1, .inl (cJ, 4096, .inl g)), (b2, .inl (cK, 4096, .inl t)), (oa, .inl (cL, 1, .inr (.inl o)))] := hD
    refine W.widen (k := 6 + n + 1) (n := 12299 + 6 * n + 6) (Nat.le_refl _) (Nat.le_refl _) ?_
    refine lv_istore hx hb dL_law_271 hl (by decide) rfl (fun ls hl => ?_)
    have hl : lv_has ls 7 [(6, .int rb), (5, .int 1), (0, .ref b), (1, .ref h0), (2, .ref h1), (3, .ref oa), (4, .int (nI (5 * n)))] := hl
    refine lv_aload_n hx hb dL_law_273 rfl (lv_at hl 4 rfl) ?_
    have hPc := hP.sub (ws' := [(h1, .inr (1, [.int 1, .int (nI rc), .int (nI rl), .int (nI ps), .ref b1, .ref b2])), (b1, .inl (cJ, 4096, .inl g)), (b2, .inl (cK, 4096, .inl t))]) [2, 3, 4] rfl
    have hKc := hK.sub (tys' := [(cJ, .int), (cK, .int)]) [1, 2] rfl
    refine vp_callSi (W.runV (C := RX1) (As := []) (rest := []) ⟨hx, hb, hml, hown, htsY⟩ (c_Y1_thrown l dC dI cJ cK h1 b1 b2 1 rc rl ps g t ) (cwV 0 htsY gL_law_Y1_thrown rfl rfl rfl (by decide +kernel) ⟨Nat.le_of_ble_eq_true rfl, Nat.le_of_ble_eq_true rfl⟩) ⟨fun a U g mk q => by obtain ⟨q0, qP, qK⟩ := q; exact ⟨q0, qP, va_K.moved (u := U) (U := U.calling g mk a) (Vm.Alike.refl U.vm) qK⟩, va_recv hK hP (ci := 1) (q0 := 2) rfl rfl, fun U hU hW => ⟨rfl, by rw [hU]; exact hPc, va_K.moved hW.alike hKc⟩⟩ rfl rfl hl.1 rfl (lv_room (Nat.le_of_ble_eq_true rfl)) dL_law_274 ⟨by show 6 + n + 1 + 0 ≤ 1031; omega, by show 12299 + 6 * n + 6 + 0 ≤ 20497; omega⟩) (fun rt et => ?_)
    subst et
    refine lv_iload hx hb dL_law_277 (lv_at hl 1 rfl) ?_
    refine lv_icmp_eq (tgt := 284) hx hb dL_law_279 (by decide) (fun hq => ?_) (fun hq => ?_)
    · refine lv_iload hx hb dL_law_284 (lv_at hl 1 rfl) ?_
      refine lv_if_ne (tgt := 301) hx hb dL_law_286 (by decide) (fun hz => ?_) (fun hz => ?_)
      · refine lv_goto (tgt := 685) hx hb dL_law_301 (by decide) ?_
        refine lv_iinc (k := 6) (v := (nI (5 * (n + 1)))) hx hb dL_law_685 hl rfl (show nI (5 * n) + nI 5 = nI (5 * (n + 1)) from (nI_add _ _).trans (congrArg nI (by omega))) (by decide) rfl (fun ls hl => ?_)
        have hl : lv_has ls 7 [(4, .int (nI (5 * (n + 1)))), (6, .int rb), (5, .int 1), (0, .ref b), (1, .ref h0), (2, .ref h1), (3, .ref oa)] := hl
        refine lv_goto (tgt := 23) hx hb dL_law_688 (by decide) ?_
        refine W.widen (k := 6 + (n + 1)) (n := 12299 + 6 * (n + 1)) (by omega) (by omega) ?_
        exact ih _ _ _ ⟨rc, rl, ps, f, 1, g, t, o, ok, hR, lv_sub hl [3, 4, 5, 6, 0] rfl, hP, hD, hS⟩
      · exact absurd hz (by decide)
    · exact absurd (rfl : (1 : Int32) = 1) hq
  · obtain ⟨y, i, e1, e2, hy, hi⟩ := rf_ot_ok ok hc9
    refine lv_aload_n hx hb dL_law_236 rfl (lv_at hl 1 rfl) ?_
    refine lv_aload_n hx hb dL_law_237 rfl (lv_at hl 0 rfl) ?_
    refine lv_iload hx hb dL_law_238 (lv_at hl 4 rfl) ?_
    refine lv_iconst (v := 1) hx hb dL_law_240 (by decide) ?_
    refine lv_iadd hx hb dL_law_241 ?_
    refine W.eq (g2 := F0 m 242 ls [.int (nI (5 * n + 1)), .ref b, .ref h0]) (congrArg (fun z9 => F0 m 242 ls [.int z9, .ref b, .ref h0]) (show ((nI (5 * n)) + 1) = nI (5 * n + 1) from nI_add (5 * n) 1)) ?_
    refine va_sld hx hb hXs hbl hbA hS (vp_in_nI (by omega) (by omega)) dL_law_242 ?_
    refine W.eq (g2 := F0 m 243 ls [.int (nI y), .ref h0]) (congrArg (fun z9 => F0 m 243 ls [.int z9, .ref h0]) (show (xs (nI (5 * n + 1)).toNatClampNeg) = (nI y) from (show xs (nI (5 * n + 1)).toNatClampNeg = (nI y) from by rw [nI_clamp (by omega)]; exact e1))) ?_
    refine lv_aload_n hx hb dL_law_243 rfl (lv_at hl 0 rfl) ?_
    refine lv_iload hx hb dL_law_244 (lv_at hl 4 rfl) ?_
    refine lv_iconst (v := 2) hx hb dL_law_246 (by decide) ?_
    refine lv_iadd hx hb dL_law_247 ?_
    refine W.eq (g2 := F0 m 248 ls [.int (nI (5 * n + 2)), .ref b, .int (nI y), .ref h0]) (congrArg (fun z9 => F0 m 248 ls [.int z9, .ref b, .int (nI y), .ref h0]) (show ((nI (5 * n)) + 2) = nI (5 * n + 2) from nI_add (5 * n) 2)) ?_
    refine va_sld hx hb hXs hbl hbA hS (vp_in_nI (by omega) (by omega)) dL_law_248 ?_
    refine W.eq (g2 := F0 m 249 ls [.int (nI i), .int (nI y), .ref h0]) (congrArg (fun z9 => F0 m 249 ls [.int z9, .int (nI y), .ref h0]) (show (xs (nI (5 * n + 2)).toNatClampNeg) = (nI i) from (show xs (nI (5 * n + 2)).toNatClampNeg = (nI i) from by rw [nI_clamp (by omega)]; exact e2))) ?_
    refine lv_aload_n hx hb dL_law_249 rfl (lv_at hl 3 rfl) ?_
    have hPc := hP.sub (ws' := [(h0, .inr (0, [.ref ab, .int (nI rc), .int (nI rl), .int (nI ps)])), (ab, .inl (cI, 4096, .inl f)), (oa, .inl (cL, 1, .inr (.inl o)))]) [0, 1, 5] rfl
    have hDc := hD.sub (ws' := [(h0, .inr (0, [.ref ab, .int (nI rc), .int (nI rl), .int (nI ps)])), (ab, .inl (cI, 4096, .inl f)), (oa, .inl (cL, 1, .inr (.inl o)))]) [0, 1, 5] (by decide) rfl
    have hKc := hK.sub (tys' := [(cI, .int), (cL, .long)]) [0, 3] rfl
    have hFc := va_free (wc := [(h0, .inr (0, [.ref ab, .int (nI rc), .int (nI rl), .int (nI ps)])), (ab, .inl (cI, 4096, .inl f)), (oa, .inl (cL, 1, .inr (.inl o)))]) hD hS hA [0, 1, 5] rfl
    refine va_calli (vx_runSW (As := [.ref h0, .int (nI y), .int (nI i), .ref oa]) (rest := []) ⟨hx, hb, hml, hown, hts⟩ (c_L_get l dC dI cI h0 ab rc rl ps f cL oa o H.size y i ok hy hi) (vx_cwSW 4 hts gL_law_L_get rfl rfl rfl (by decide +kernel) ⟨Nat.le_of_ble_eq_true rfl, Nat.le_of_ble_eq_true rfl⟩) ⟨fun a U g mk q => by obtain ⟨q0, q1, qP, qK, qD⟩ := q; exact ⟨q0, q1, qP, va_K.moved (u := U) (U := U.calling g mk a) (Vm.Alike.refl U.vm) qK, qD⟩, fun U hU hW => ⟨rfl, by rw [hU], by rw [hU]; exact hPc, va_K.moved hW.alike hKc, hDc.weaken (fun _ _ _ _ => trivial)⟩⟩ rfl rfl hl.1 rfl (lv_room (Nat.le_of_ble_eq_true rfl)) dL_law_250 ⟨by show 6 + n + 0 ≤ 1031; omega, by show 12299 + 6 * n + 0 ≤ 20497; omega⟩) hS (fun q _ h => hFc q h) hFc (fun k u t9 H1 locs ht hvm ek hB hz1 hk1 hS => ?_)
    obtain ⟨hP1, hK1, hD1⟩ := hB
    rw [ht] at hP1
    obtain ⟨hP, hD⟩ := va_join (wr := [(h1, .inr (1, [.int fl, .int (nI rc), .int (nI rl), .int (nI ps), .ref b1, .ref b2])), (b1, .inl (cJ, 4096, .inl g)), (b2, .inl (cK, 4096, .inl t))]) (w1 := [(h0, .inr (0, [.ref ab, .int (nI rc), .int (nI rl), .int (nI ps)])), (ab, .inl (cI, 4096, .inl f)), (oa, .inl (cL, 1, .inr (.inl (vp_updL o 0 (f (y * rl + i)).toInt64))))]) hP hD [0, 1, 5] [2, 3, 4] rfl rfl (by decide) (by decide) hk1 hFc hP1 hD1
    generalize H1 = H at hP hS ⊢
    have hP := hP.sub (ws' := [(h0, .inr (0, [.ref ab, .int (nI rc), .int (nI rl), .int (nI ps)])), (ab, .inl (cI, 4096, .inl f)), (h1, .inr (1, [.int fl, .int (nI rc), .int (nI rl), .int (nI ps), .ref b1, .ref b2])), (b1, .inl (cJ, 4096, .inl g)), (b2, .inl (cK, 4096, .inl t)), (oa, .inl (cL, 1, .inr (.inl (vp_updL o 0 (f (y * rl + i)).toInt64))))]) [3, 4, 0, 1, 2, 5] rfl
    have hD := hD.sub (ws' := [(h0, .inr (0, [.ref ab, .int (nI rc), .int (nI rl), .int (nI ps)])), (ab, .inl (cI, 4096, .inl f)), (h1, .inr (1, [.int fl, .int (nI rc), .int (nI rl), .int (nI ps), .ref b1, .ref b2])), (b1, .inl (cJ, 4096, .inl g)), (b2, .inl (cK, 4096, .inl t)), (oa, .inl (cL, 1, .inr (.inl (vp_updL o 0 (f (y * rl + i)).toInt64))))]) [3, 4, 0, 1, 2, 5] (by decide) rfl
    have hP : va_P (dC, dI) rw_cl [(h0, .inr (0, [.ref ab, .int (nI rc), .int (nI rl), .int (nI ps)])), (ab, .inl (cI, 4096, .inl f)), (h1, .inr (1, [.int fl, .int (nI rc), .int (nI rl), .int (nI ps), .ref b1, .ref b2])), (b1, .inl (cJ, 4096, .inl g)), (b2, .inl (cK, 4096, .inl t)), (oa, .inl (cL, 1, .inr (.inl (vp_updL o 0 (f (y * rl + i)).toInt64))))] H := hP
    have hD : va_D A [(h0, .inr (0, [.ref ab, .int (nI rc), .int (nI rl), .int (nI ps)])), (ab, .inl (cI, 4096, .inl f)), (h1, .inr (1, [.int fl, .int (nI rc), .int (nI rl), .int (nI ps), .ref b1, .ref b2])), (b1, .inl (cJ, 4096, .inl g)), (b2, .inl (cK, 4096, .inl t)), (oa, .inl (cL, 1, .inr (.inl (vp_updL o 0 (f (y * rl + i)).toInt64))))] := hD
    refine W.widen (k := 6 + n) (n := 12299 + 6 * n) (Nat.le_refl _) (Nat.le_refl _) ?_
    subst ek
    refine lv_istore hx hb dL_law_253 hl (by decide) rfl (fun ls hl => ?_)
    have hl : lv_has ls 7 [(5, .int 0), (0, .ref b), (1, .ref h0), (2, .ref h1), (3, .ref oa), (4, .int (nI (5 * n)))] := hl
    refine lv_aload_n hx hb dL_law_255 rfl (lv_at hl 3 rfl) ?_
    refine lv_aload_n hx hb dL_law_256 rfl (lv_at hl 1 rfl) ?_
    refine lv_iload hx hb dL_law_257 (lv_at hl 5 rfl) ?_
    refine lv_iconst (v := 1) hx hb dL_law_259 (by decide) ?_
    refine lv_iadd hx hb dL_law_260 ?_
    refine W.eq (g2 := F0 m 261 ls [.int (nI (5 * n + 1)), .ref b, .ref h1]) (congrArg (fun z9 => F0 m 261 ls [.int z9, .ref b, .ref h1]) (show ((nI (5 * n)) + 1) = nI (5 * n + 1) from nI_add (5 * n) 1)) ?_
    refine va_sld hx hb hXs hbl hbA hS (vp_in_nI (by omega) (by omega)) dL_law_261 ?_
    refine W.eq (g2 := F0 m 262 ls [.int (nI y), .ref h1]) (congrArg (fun z9 => F0 m 262 ls [.int z9, .ref h1]) (show (xs (nI (5 * n + 1)).toNatClampNeg) = (nI y) from (show xs (nI (5 * n + 1)).toNatClampNeg = (nI y) from by rw [nI_clamp (by omega)]; exact e1))) ?_
    refine lv_aload_n hx hb dL_law_262 rfl (lv_at hl 1 rfl) ?_
    refine lv_iload hx hb dL_law_263 (lv_at hl 5 rfl) ?_
    refine lv_iconst (v := 2) hx hb dL_law_265 (by decide) ?_
    refine lv_iadd hx hb dL_law_266 ?_
    refine W.eq (g2 := F0 m 267 ls [.int (nI (5 * n + 2)), .ref b, .int (nI y), .ref h1]) (congrArg (fun z9 => F0 m 267 ls [.int z9, .ref b, .int (nI y), .ref h1]) (show ((nI (5 * n)) + 2) = nI (5 * n + 2) from nI_add (5 * n) 2)) ?_
    refine va_sld hx hb hXs hbl hbA hS (vp_in_nI (by omega) (by omega)) dL_law_267 ?_
    refine W.eq (g2 := F0 m 268 ls [.int (nI i), .int (nI y), .ref h1]) (congrArg (fun z9 => F0 m 268 ls [.int z9, .int (nI y), .ref h1]) (show (xs (nI (5 * n + 2)).toNatClampNeg) = (nI i) from (show xs (nI (5 * n + 2)).toNatClampNeg = (nI i) from by rw [nI_clamp (by omega)]; exact e2))) ?_
    have hPc := hP.sub (ws' := [(h1, .inr (1, [.int fl, .int (nI rc), .int (nI rl), .int (nI ps), .ref b1, .ref b2])), (b1, .inl (cJ, 4096, .inl g)), (b2, .inl (cK, 4096, .inl t))]) [2, 3, 4] rfl
    have hDc := hD.sub (ws' := [(h1, .inr (1, [.int fl, .int (nI rc), .int (nI rl), .int (nI ps), .ref b1, .ref b2])), (b1, .inl (cJ, 4096, .inl g)), (b2, .inl (cK, 4096, .inl t))]) [2, 3, 4] (by decide) rfl
    have hKc := hK.sub (tys' := [(cJ, .int), (cK, .int)]) [1, 2] rfl
    have hFc := va_free (wc := [(h1, .inr (1, [.int fl, .int (nI rc), .int (nI rl), .int (nI ps), .ref b1, .ref b2])), (b1, .inl (cJ, 4096, .inl g)), (b2, .inl (cK, 4096, .inl t))]) hD hS hA [2, 3, 4] rfl
    refine va_calli (va_runV (C := RX1) (As := [.int (nI y), .int (nI i)]) (rest := []) ⟨hx, hb, hml, hown, htsY⟩ (c_Y1_get l dC dI cJ cK h1 b1 b2 fl rc rl ps g t H.size y i ok hy hi) (cwV 2 htsY gL_law_Y1_get rfl rfl rfl (by decide +kernel) ⟨Nat.le_of_ble_eq_true rfl, Nat.le_of_ble_eq_true rfl⟩) ⟨fun a U g mk q => by obtain ⟨q0, q1, qP, qK, qD⟩ := q; exact ⟨q0, q1, qP, va_K.moved (u := U) (U := U.calling g mk a) (Vm.Alike.refl U.vm) qK, qD⟩, va_recv hK hP (ci := 1) (q0 := 2) rfl rfl, fun U hU hW => ⟨rfl, by rw [hU], by rw [hU]; exact hPc, va_K.moved hW.alike hKc, hDc.weaken (fun _ _ _ _ => trivial)⟩⟩ rfl rfl hl.1 rfl (lv_room (Nat.le_of_ble_eq_true rfl)) dL_law_268 ⟨by show 6 + n + 0 ≤ 1031; omega, by show 12299 + 6 * n + 0 ≤ 20497; omega⟩) hS (fun q _ h => hFc q h) hFc (fun rb u t9 H1 locs ht hvm eb hB hz1 hk1 hS => ?_)
    obtain ⟨hP1, hK1, hD1⟩ := hB
    rw [ht] at hP1
    obtain ⟨hP, hD⟩ := va_join (wr := [(h0, .inr (0, [.ref ab, .int (nI rc), .int (nI rl), .int (nI ps)])), (ab, .inl (cI, 4096, .inl f)), (oa, .inl (cL, 1, .inr (.inl (vp_updL o 0 (f (y * rl + i)).toInt64))))]) (w1 := [(h1, .inr (1, [.int 0, .int (nI rc), .int (nI rl), .int (nI ps), .ref b1, .ref b2])), (b1, .inl (cJ, 4096, .inl g)), (b2, .inl (cK, 4096, .inl t))]) hP hD [2, 3, 4] [0, 1, 5] rfl rfl (by decide) (by decide) hk1 hFc hP1 hD1
    generalize H1 = H at hP hS ⊢
    have hP := hP.sub (ws' := [(h0, .inr (0, [.ref ab, .int (nI rc), .int (nI rl), .int (nI ps)])), (ab, .inl (cI, 4096, .inl f)), (h1, .inr (1, [.int 0, .int (nI rc), .int (nI rl), .int (nI ps), .ref b1, .ref b2])), (b1, .inl (cJ, 4096, .inl g)), (b2, .inl (cK, 4096, .inl t)), (oa, .inl (cL, 1, .inr (.inl (vp_updL o 0 (f (y * rl + i)).toInt64))))]) [0, 1, 3, 4, 5, 2] rfl
    have hD := hD.sub (ws' := [(h0, .inr (0, [.ref ab, .int (nI rc), .int (nI rl), .int (nI ps)])), (ab, .inl (cI, 4096, .inl f)), (h1, .inr (1, [.int 0, .int (nI rc), .int (nI rl), .int (nI ps), .ref b1, .ref b2])), (b1, .inl (cJ, 4096, .inl g)), (b2, .inl (cK, 4096, .inl t)), (oa, .inl (cL, 1, .inr (.inl (vp_updL o 0 (f (y * rl + i)).toInt64))))]) [0, 1, 3, 4, 5, 2] (by decide) rfl
    have hP : va_P (dC, dI) rw_cl [(h0, .inr (0, [.ref ab, .int (nI rc), .int (nI rl), .int (nI ps)])), (ab, .inl (cI, 4096, .inl f)), (h1, .inr (1, [.int 0, .int (nI rc), .int (nI rl), .int (nI ps), .ref b1, .ref b2])), (b1, .inl (cJ, 4096, .inl g)), (b2, .inl (cK, 4096, .inl t)), (oa, .inl (cL, 1, .inr (.inl (vp_updL o 0 (f (y * rl + i)).toInt64))))] H := hP
    have hD : va_D A [(h0, .inr (0, [.ref ab, .int (nI rc), .int (nI rl), .int (nI ps)])), (ab, .inl (cI, 4096, .inl f)), (h1, .inr (1, [.int 0, .int (nI rc), .int (nI rl), .int (nI ps), .ref b1, .ref b2])), (b1, .inl (cJ, 4096, .inl g)), (b2, .inl (cK, 4096, .inl t)), (oa, .inl (cL, 1, .inr (.inl (vp_updL o 0 (f (y * rl + i)).toInt64))))] := hD
    refine W.widen (k := 6 + n) (n := 12299 + 6 * n) (Nat.le_refl _) (Nat.le_refl _) ?_
    subst eb
    refine lv_istore hx hb dL_law_271 hl (by decide) rfl (fun ls hl => ?_)
    have hl : lv_has ls 7 [(6, .int (g (y * rl + i))), (5, .int 0), (0, .ref b), (1, .ref h0), (2, .ref h1), (3, .ref oa), (4, .int (nI (5 * n)))] := hl
    refine lv_aload_n hx hb dL_law_273 rfl (lv_at hl 4 rfl) ?_
    have hPc := hP.sub (ws' := [(h1, .inr (1, [.int 0, .int (nI rc), .int (nI rl), .int (nI ps), .ref b1, .ref b2])), (b1, .inl (cJ, 4096, .inl g)), (b2, .inl (cK, 4096, .inl t))]) [2, 3, 4] rfl
    have hKc := hK.sub (tys' := [(cJ, .int), (cK, .int)]) [1, 2] rfl
    refine vp_callSi (W.runV (C := RX1) (As := []) (rest := []) ⟨hx, hb, hml, hown, htsY⟩ (c_Y1_thrown l dC dI cJ cK h1 b1 b2 0 rc rl ps g t ) (cwV 0 htsY gL_law_Y1_thrown rfl rfl rfl (by decide +kernel) ⟨Nat.le_of_ble_eq_true rfl, Nat.le_of_ble_eq_true rfl⟩) ⟨fun a U g mk q => by obtain ⟨q0, qP, qK⟩ := q; exact ⟨q0, qP, va_K.moved (u := U) (U := U.calling g mk a) (Vm.Alike.refl U.vm) qK⟩, va_recv hK hP (ci := 1) (q0 := 2) rfl rfl, fun U hU hW => ⟨rfl, by rw [hU]; exact hPc, va_K.moved hW.alike hKc⟩⟩ rfl rfl hl.1 rfl (lv_room (Nat.le_of_ble_eq_true rfl)) dL_law_274 ⟨by show 6 + n + 0 ≤ 1031; omega, by show 12299 + 6 * n + 0 ≤ 20497; omega⟩) (fun rt et => ?_)
    subst et
    refine lv_iload hx hb dL_law_277 (lv_at hl 1 rfl) ?_
    refine lv_icmp_eq (tgt := 284) hx hb dL_law_279 (by decide) (fun hq => ?_) (fun hq => ?_)
    · refine lv_iload hx hb dL_law_284 (lv_at hl 1 rfl) ?_
      refine lv_if_ne (tgt := 301) hx hb dL_law_286 (by decide) (fun hz => ?_) (fun hz => ?_)
      · exact absurd (rfl : (0 : Int32) = 0) hz
      · refine lv_aload_n hx hb dL_law_289 rfl (lv_at hl 5 rfl) ?_
        refine lv_iconst (v := 0) hx hb dL_law_290 (by decide) ?_
        refine va_lald hx hb hK hP 5 3 rfl rfl (vp_in_nI (n := 0) (by omega) (by omega)) dL_law_291 ?_
        refine lv_topl (fun v9 e9 => ?_)
        have e8 : v9 = ((g (y * rl + i))).toInt64 := e9.trans ((show (vp_updL o 0 (f (y * rl + i)).toInt64) (0 : Int32).toNatClampNeg = (f (y * rl + i)).toInt64 from by rw [show (0 : Int32).toNatClampNeg = 0 from by decide]; exact if_pos rfl).trans (congrArg Int32.toInt64 (hR.e _ (ok.lt hy hi))))
        refine lv_iload hx hb dL_law_292 (lv_at hl 0 rfl) ?_
        refine lv_i2l hx hb dL_law_294 rfl ?_
        refine W.lcmp hx hb dL_law_295 ?_
        refine lv_if_eq (tgt := 301) hx hb dL_law_296 (by decide) (fun hw => ?_) (fun hw => ?_)
        · refine lv_goto (tgt := 685) hx hb dL_law_301 (by decide) ?_
          refine lv_iinc (k := 6) (v := (nI (5 * (n + 1)))) hx hb dL_law_685 hl rfl (show nI (5 * n) + nI 5 = nI (5 * (n + 1)) from (nI_add _ _).trans (congrArg nI (by omega))) (by decide) rfl (fun ls hl => ?_)
          have hl : lv_has ls 7 [(4, .int (nI (5 * (n + 1)))), (6, .int (g (y * rl + i))), (5, .int 0), (0, .ref b), (1, .ref h0), (2, .ref h1), (3, .ref oa)] := hl
          refine lv_goto (tgt := 23) hx hb dL_law_688 (by decide) ?_
          refine W.widen (k := 6 + (n + 1)) (n := 12299 + 6 * (n + 1)) (by omega) (by omega) ?_
          exact ih _ _ _ ⟨rc, rl, ps, f, 0, g, t, (vp_updL o 0 (f (y * rl + i)).toInt64), ok, hR, lv_sub hl [3, 4, 5, 6, 0] rfl, hP, hD, hS⟩
        · exact absurd (by rw [e8]; exact rf_cmp _) hw
    · exact absurd (rfl : (0 : Int32) = 0) hq
