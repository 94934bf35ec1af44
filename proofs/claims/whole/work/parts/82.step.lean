set_option maxHeartbeats 8000000 in
set_option maxRecDepth 100000 in
theorem lw_step {p : Program} {l : Launch} {e : Env} {s : State} {m : MethodId} {below : List Frame} {meth : Method} {c : Code} {A : Nat → Prop} {b L : Nat} {xs : Nat → Int32} {dC : Nat → ClassId} {dI : Nat → Nat → Nat} {h0 ab : Nat} {cI : ClassId} {h1 b1 b2 : Nat} {cJ cK : ClassId} {oa : Nat} {cL : ClassId} {sa t1 t2 t3 t4 : Nat} (hl9 : l.stackTraces = false) (hr : meth.sig.returnType = ret) (hlocks : meth.locks = false) (C9 : lw_F p s m c A b L xs dC dI cI cJ cK cL sa t1 t2 t3 t4) {n : Nat} (hn : n ≤ 512) {ls : Array Slot} {H : Heap} {locs : List Loc} (hI : lw_I s A dC dI b h0 ab cI h1 b1 b2 cJ cK oa cL n ls H locs) (ih : ∀ (ls : Array Slot) (H : Heap) (locs : List Loc), n + 1 ≤ 512 → lw_I s A dC dI b h0 ab cI h1 b1 b2 cJ cK oa cL (n + 1) ls H locs → W p l e room_1 s m #[Value.ref b] below meth c H locs (6 + (n + 1)) (12299 + 6 * (n + 1)) (lw_Z below #[Value.ref b] s) (F0 m 23 ls [])) : W p l e room_1 s m #[Value.ref b] below meth c H locs (6 + n) (12299 + 6 * n) (lw_Z below #[Value.ref b] s) (F0 m 23 ls []) := by
  obtain ⟨hx, hb, hml, hown, hts, htsY, hXs, hbl, hbA, hA, hA2, hK, hX, hZ, hL⟩ := id C9
  obtain ⟨rc, rl, ps, f, fl, g, t, o, ok, hR, hl, hP, hD, hS⟩ := hI
  refine lv_iload hx hb dL_law_23 (lv_at hl 4 rfl) ?_
  refine lv_aload_n hx hb dL_law_25 rfl (lv_at hl 0 rfl) ?_
  refine va_slen hx hb hXs hbl hbA hS dL_law_26 ?_
  refine lv_iconst (v := 5) hx hb dL_law_27 (by decide) ?_
  refine lv_isub hx hb dL_law_28 ?_
  refine lv_icmp_gt (tgt := 691) hx hb dL_law_29 (by decide) (fun hc => ?_) (fun hc => ?_)
  · refine lv_iconst (v := 1) hx hb dL_law_691 (by decide) ?_
    refine va_forget (fun q hq => hA2 _ (hS.2.2 q hq)) ?_
    refine W.widen (k := 1031) (n := 20497) (by omega) (by omega) ?_
    exact lw_ret hx hb hr hlocks dL_law_692
  · have hL5 : 5 * n + 5 ≤ L := Nat.le_of_not_lt (fun q => hc ((rf_len hL hn).mpr q))
    have ih := fun (ls : Array Slot) (H : Heap) (locs : List Loc) (h : lw_I s A dC dI b h0 ab cI h1 b1 b2 cJ cK oa cL (n + 1) ls H locs) => ih ls H locs (by omega) h
    obtain ⟨q, hq, eq⟩ := rf_16 (xs (5 * n))
    refine lv_aload_n hx hb dL_law_32 rfl (lv_at hl 0 rfl) ?_
    refine lv_iload hx hb dL_law_33 (lv_at hl 4 rfl) ?_
    refine va_sld hx hb hXs hbl hbA hS (vp_in_nI (by omega) (by omega)) dL_law_35 ?_
    refine W.eq (g2 := F0 m 36 ls [.int (xs (5 * n))]) (congrArg (fun z9 => F0 m 36 ls [.int z9]) (show (xs (nI (5 * n)).toNatClampNeg) = (xs (5 * n)) from (show xs (nI (5 * n)).toNatClampNeg = (xs (5 * n)) from by rw [nI_clamp (by omega)]))) ?_
    refine lv_bipush (v := 15) hx hb dL_law_36 (by decide) ?_
    refine lv_iand hx hb dL_law_38 ?_
    refine W.eq (g2 := F0 m 39 ls [.int (nI q)]) (congrArg (fun z9 => F0 m 39 ls [.int z9]) (show ((xs (5 * n)) &&& 15) = (nI q) from eq)) ?_
    obtain rfl | rfl | rfl | rfl | rfl | rfl | rfl | rfl | rfl | rfl | rfl | rfl | rfl | rfl | rfl | rfl : q = 0 ∨ q = 1 ∨ q = 2 ∨ q = 3 ∨ q = 4 ∨ q = 5 ∨ q = 6 ∨ q = 7 ∨ q = 8 ∨ q = 9 ∨ q = 10 ∨ q = 11 ∨ q = 12 ∨ q = 13 ∨ q = 14 ∨ q = 15 := by omega
    · refine lv_tableIn (tgt := 96) hx hb dL_law_39 (by decide +kernel) (by decide +kernel) rfl (by decide) ?_
      exact lw_case_open hl9 C9 hn hL5 ok hR hl hP hD hS ih
    · refine lv_tableIn (tgt := 156) hx hb dL_law_39 (by decide +kernel) (by decide +kernel) rfl (by decide) ?_
      exact lw_case_set hl9 C9 hn hL5 ok hR hl hP hD hS ih
    · refine lv_tableIn (tgt := 236) hx hb dL_law_39 (by decide +kernel) (by decide +kernel) rfl (by decide) ?_
      exact lw_case_get hl9 C9 hn hL5 ok hR hl hP hD hS ih
    · refine lv_tableIn (tgt := 304) hx hb dL_law_39 (by decide +kernel) (by decide +kernel) rfl (by decide) ?_
      exact lw_case_fill hl9 C9 hn hL5 ok hR hl hP hD hS ih
    · refine lv_tableIn (tgt := 351) hx hb dL_law_39 (by decide +kernel) (by decide +kernel) rfl (by decide) ?_
      exact lw_case_filter hl9 C9 hn hL5 ok hR hl hP hD hS ih
    · refine lv_tableIn (tgt := 399) hx hb dL_law_39 (by decide +kernel) (by decide +kernel) rfl (by decide) ?_
      exact lw_case_plain hl9 C9 hn hL5 ok hR hl hP hD hS ih
    · refine lv_tableIn (tgt := 447) hx hb dL_law_39 (by decide +kernel) (by decide +kernel) rfl (by decide) ?_
      exact lw_case_best hl9 C9 hn hL5 ok hR hl hP hD hS ih
    · refine lv_tableIn (tgt := 460) hx hb dL_law_39 (by decide +kernel) (by decide +kernel) rfl (by decide) ?_
      exact lw_case_undo hl9 C9 hn hL5 ok hR hl hP hD hS ih
    · refine lv_tableIn (tgt := 496) hx hb dL_law_39 (by decide +kernel) (by decide +kernel) rfl (by decide) ?_
      exact lw_case_hash hl9 C9 hn hL5 ok hR hl hP hD hS ih
    · refine lv_tableIn (tgt := 509) hx hb dL_law_39 (by decide +kernel) (by decide +kernel) rfl (by decide) ?_
      exact lw_case_pass hl9 C9 hn hL5 ok hR hl hP hD hS ih
    · refine lv_tableIn (tgt := 617) hx hb dL_law_39 (by decide +kernel) (by decide +kernel) rfl (by decide) ?_
      exact lw_case_passOf hl9 C9 hn hL5 ok hR hl hP hD hS ih
    · refine lv_tableOut (tgt := 685) hx hb dL_law_39 (by decide +kernel) (by decide) ?_
      refine lv_iinc (k := 4) (v := (nI (5 * (n + 1)))) hx hb dL_law_685 hl rfl (show nI (5 * n) + nI 5 = nI (5 * (n + 1)) from (nI_add _ _).trans (congrArg nI (by omega))) (by decide) rfl (fun ls hl => ?_)
      have hl : lv_has ls 7 [(4, .int (nI (5 * (n + 1)))), (0, .ref b), (1, .ref h0), (2, .ref h1), (3, .ref oa)] := hl
      refine lv_goto (tgt := 23) hx hb dL_law_688 (by decide) ?_
      refine W.widen (k := 6 + (n + 1)) (n := 12299 + 6 * (n + 1)) (by omega) (by omega) ?_
      exact ih _ _ _ ⟨rc, rl, ps, f, fl, g, t, o, ok, hR, lv_sub hl [1, 2, 3, 4, 0] rfl, hP, hD, hS⟩
    · refine lv_tableOut (tgt := 685) hx hb dL_law_39 (by decide +kernel) (by decide) ?_
      refine lv_iinc (k := 4) (v := (nI (5 * (n + 1)))) hx hb dL_law_685 hl rfl (show nI (5 * n) + nI 5 = nI (5 * (n + 1)) from (nI_add _ _).trans (congrArg nI (by omega))) (by decide) rfl (fun ls hl => ?_)
      have hl : lv_has ls 7 [(4, .int (nI (5 * (n + 1)))), (0, .ref b), (1, .ref h0), (2, .ref h1), (3, .ref oa)] := hl
      refine lv_goto (tgt := 23) hx hb dL_law_688 (by decide) ?_
      refine W.widen (k := 6 + (n + 1)) (n := 12299 + 6 * (n + 1)) (by omega) (by omega) ?_
      exact ih _ _ _ ⟨rc, rl, ps, f, fl, g, t, o, ok, hR, lv_sub hl [1, 2, 3, 4, 0] rfl, hP, hD, hS⟩
    · refine lv_tableOut (tgt := 685) hx hb dL_law_39 (by decide +kernel) (by decide) ?_
      refine lv_iinc (k := 4) (v := (nI (5 * (n + 1)))) hx hb dL_law_685 hl rfl (show nI (5 * n) + nI 5 = nI (5 * (n + 1)) from (nI_add _ _).trans (congrArg nI (by omega))) (by decide) rfl (fun ls hl => ?_)
      have hl : lv_has ls 7 [(4, .int (nI (5 * (n + 1)))), (0, .ref b), (1, .ref h0), (2, .ref h1), (3, .ref oa)] := hl
      refine lv_goto (tgt := 23) hx hb dL_law_688 (by decide) ?_
      refine W.widen (k := 6 + (n + 1)) (n := 12299 + 6 * (n + 1)) (by omega) (by omega) ?_
      exact ih _ _ _ ⟨rc, rl, ps, f, fl, g, t, o, ok, hR, lv_sub hl [1, 2, 3, 4, 0] rfl, hP, hD, hS⟩
    · refine lv_tableOut (tgt := 685) hx hb dL_law_39 (by decide +kernel) (by decide) ?_
      refine lv_iinc (k := 4) (v := (nI (5 * (n + 1)))) hx hb dL_law_685 hl rfl (show nI (5 * n) + nI 5 = nI (5 * (n + 1)) from (nI_add _ _).trans (congrArg nI (by omega))) (by decide) rfl (fun ls hl => ?_)
      have hl : lv_has ls 7 [(4, .int (nI (5 * (n + 1)))), (0, .ref b), (1, .ref h0), (2, .ref h1), (3, .ref oa)] := hl
      refine lv_goto (tgt := 23) hx hb dL_law_688 (by decide) ?_
      refine W.widen (k := 6 + (n + 1)) (n := 12299 + 6 * (n + 1)) (by omega) (by omega) ?_
      exact ih _ _ _ ⟨rc, rl, ps, f, fl, g, t, o, ok, hR, lv_sub hl [1, 2, 3, 4, 0] rfl, hP, hD, hS⟩
    · refine lv_tableOut (tgt := 685) hx hb dL_law_39 (by decide +kernel) (by decide) ?_
      refine lv_iinc (k := 4) (v := (nI (5 * (n + 1)))) hx hb dL_law_685 hl rfl (show nI (5 * n) + nI 5 = nI (5 * (n + 1)) from (nI_add _ _).trans (congrArg nI (by omega))) (by decide) rfl (fun ls hl => ?_)
      have hl : lv_has ls 7 [(4, .int (nI (5 * (n + 1)))), (0, .ref b), (1, .ref h0), (2, .ref h1), (3, .ref oa)] := hl
      refine lv_goto (tgt := 23) hx hb dL_law_688 (by decide) ?_
      refine W.widen (k := 6 + (n + 1)) (n := 12299 + 6 * (n + 1)) (by omega) (by omega) ?_
      exact ih _ _ _ ⟨rc, rl, ps, f, fl, g, t, o, ok, hR, lv_sub hl [1, 2, 3, 4, 0] rfl, hP, hD, hS⟩
