set_option maxHeartbeats 4000000 in
set_option maxRecDepth 100000 in
theorem c_Y1_undo (l : Launch) (dC : Nat → ClassId) (dI : Nat → Nat → Nat) (cI cJ : ClassId) (h0 b1 b2 : Nat) (fl : Int32) (rc rl ps : Nat) (g t : Nat → Int32) (sz : Nat) (n : Nat) (ok : rf_ok rc rl ps) (hn : n ≤ 390624) : Met l yY1_undo wsY1_undo ({ frames := 3, cells := 0, slots := 0, locals := 75 }) (va_Pc [.ref h0, .int (nI n)] (rv_preD dC dI cI cJ h0 b1 b2 fl rc rl ps g t sz)) (va_Qv (fun _ : Unit => True) (fun _ t9 => rv_B dC dI cI cJ h0 b1 b2 0 rc rl ps (rf_D g rl ps n rc) t (va_A (rv_W h0 b1 b2 cI cJ fl rc rl ps g t) sz) t9) (va_A (rv_W h0 b1 b2 cI cJ fl rc rl ps g t) sz)) 0 0 (va_A (rv_W h0 b1 b2 cI cJ fl rc rl ps g t) sz) := by
  refine Met.ofW (cc := cY1_undo) (maxL := 4) (ret := none) (by decide) rfl ?_
  intro p e s m args below meth c s₁ B hml hv
  obtain ⟨rfl, hsz, hP, hK, hD0⟩ := hv
  have hx := B.exec
  have hb := B.bytes
  have hr := B.returns
  have hts := atoms_spec (ws := wsY1_undo) B.pre
  have hown : s.vm.findClass RX1 = some m.cls := findClass_of_methodNamed B.named
  have hlocks := B.notSynchronized
  subst hsz
  have hD := hD0.self (sz := s.heap.size)
  generalize hAe : va_A (rv_W h0 b1 b2 cI cJ fl rc rl ps g t) s.heap.size = A at hD ⊢
  have hA : ∀ q : Nat, s.heap.size ≤ q → A q := fun q h => by rw [← hAe]; exact Or.inr h
  have hS : va_S A s.heap s.heap [] := va_S.rf
  have hP : va_P (dC, dI) rw_cl (rv_W h0 b1 b2 cI cJ fl rc rl ps g t) s.heap := hP
  have hl := lv_entry ([.ref h0, .int (nI n)]) (n := 4) (Nat.le_of_ble_eq_true rfl)
  rw [lg_entry_eq]
  generalize (lg_sl ([.ref h0, .int (nI n)]) ++ List.replicate (4 - (lg_sl ([.ref h0, .int (nI n)])).length) Slot.unset).toArray = ls at hl ⊢
  have hl : lv_has ls 4 [(0, .ref h0), (1, .int (nI n))] := hl
  have h1 := ok.rc
  refine lv_aload_n hx hb dY1_undo_0 rfl (lv_at hl 0 rfl) ?_
  refine lv_iconst (v := 0) hx hb dY1_undo_1 (by decide) ?_
  refine va_put (D := (dC, dI)) (ci := 1) (v := .int 0) (ty := .int) (C := RX1) (T := TY1) (N := 6) hx hb hts (by decide +kernel) tyY1 tyY1_ok nmY1 hown hK hP hD hS 0 rfl rfl 0 (by decide) (hts (.fieldLink RX1 26 "RowFiltersModel" "failed" "I") (by decide +kernel)) (fun _ h9 => h9) rfl (by decide +kernel) rfl rfl (Nat.le_of_ble_eq_true rfl) dY1_undo_2 (fun H locs hP hD hS => ?_)
  have hP : va_P (dC, dI) rw_cl [(h0, .inr (1, [.int 0, .int (nI rc), .int (nI rl), .int (nI ps), .ref b1, .ref b2])), (b1, .inl (cI, 4096, .inl g)), (b2, .inl (cJ, 4096, .inl t))] H := hP
  have hD : va_D A [(h0, .inr (1, [.int 0, .int (nI rc), .int (nI rl), .int (nI ps), .ref b1, .ref b2])), (b1, .inl (cI, 4096, .inl g)), (b2, .inl (cJ, 4096, .inl t))] := hD
  refine lv_iload_n hx hb dY1_undo_5 rfl (lv_at hl 1 rfl) ?_
  refine lv_if_lt (tgt := 15) hx hb dY1_undo_6 (by decide) (fun q1 => ?_) (fun q1 => ?_)
  · exact absurd q1 (nI_pos (by omega))
  · refine lv_iload_n hx hb dY1_undo_9 rfl (lv_at hl 1 rfl) ?_
    refine lv_ldc hx hb hown (hts (.constant RX1 60 (390624)) (by decide +kernel)) dY1_undo_10 ?_
    refine lv_icmp_le (tgt := 23) hx hb dY1_undo_12 (by decide) (fun q2 => ?_) (fun q2 => ?_)
    · refine lv_iload_n hx hb dY1_undo_23 rfl (lv_at hl 1 rfl) ?_
      refine lv_istore_n hx hb dY1_undo_24 rfl hl (by decide) rfl (fun ls hl => ?_)
      have hl : lv_has ls 4 [(2, .int (nI n)), (0, .ref h0), (1, .int (nI n))] := hl
      refine lv_iconst (v := 0) hx hb dY1_undo_25 (by decide) ?_
      refine lv_istore_n hx hb dY1_undo_26 rfl hl (by decide) rfl (fun ls hl => ?_)
      have hl : lv_has ls 4 [(3, .int 0), (2, .int (nI n)), (0, .ref h0), (1, .int (nI n))] := hl
      have e0 : g = (rf_D g rl ps n (0)) := rfl
      rw [e0] at hP hD
      refine rw_loopH (fun y : Nat => rc - y) (fun y ls H locs => (y ≤ rc) ∧ lv_has ls 4 [(0, .ref h0), (1, .int (nI n)), (2, .int (nI (n / 5 ^ y))), (3, .int (nI y))] ∧ va_P (dC, dI) rw_cl [(h0, .inr (1, [.int 0, .int (nI rc), .int (nI rl), .int (nI ps), .ref b1, .ref b2])), (b1, .inl (cI, 4096, .inl (rf_D g rl ps n y))), (b2, .inl (cJ, 4096, .inl t))] H ∧ va_D A [(h0, .inr (1, [.int 0, .int (nI rc), .int (nI rl), .int (nI ps), .ref b1, .ref b2])), (b1, .inl (cI, 4096, .inl (rf_D g rl ps n y))), (b2, .inl (cJ, 4096, .inl t))] ∧ va_S A s.heap H locs) ?_ (0) ⟨Nat.zero_le _, by rw [Nat.pow_zero, Nat.div_one]; exact lv_sub hl [2, 3, 1, 0] rfl, hP, hD, hS⟩
      intro y ls H locs hI ih
      obtain ⟨hj, hl, hP, hD, hS⟩ := hI
      refine lv_iload_n hx hb dY1_undo_27 rfl (lv_at hl 3 rfl) ?_
      refine lv_aload_n hx hb dY1_undo_28 rfl (lv_at hl 0 rfl) ?_
      refine va_get (D := (dC, dI)) (ci := 1) (v := .int (nI rc)) (C := RX1) (T := TY1) (N := 6) hx hb hts (by decide +kernel) hown hK hP 0 rfl rfl 1 (by decide) (hts (.fieldLink RX1 7 "RowFiltersModel" "height" "I") (by decide +kernel)) (fun _ h9 => h9) rfl dY1_undo_29 ?_
      refine lv_icmp_ge (tgt := 53) hx hb dY1_undo_32 (by decide) (fun hc => ?_) (fun hc => ?_)
      · have hi : y = rc := by have := (nI_leI (by omega) (by omega)).mp hc; omega
        rw [hi] at hP hD
        exact W.vret hx hb hr (fun t ht hW => ⟨⟨(), rfl, trivial, by rw [ht]; exact hP, va_K.moved hW.alike hK, hD⟩, hS.F ht⟩) hS.2.2 dY1_undo_53
      · have hy : y < rc := Nat.lt_of_not_le (fun q => hc ((nI_leI (by omega) (by omega)).mpr q))
        have hd : n / 5 ^ y ≤ 390624 := Nat.le_trans (Nat.div_le_self _ _) hn
        have hm : n / 5 ^ y % 5 ≤ 4 := by omega
        refine lv_aload_n hx hb dY1_undo_35 rfl (lv_at hl 0 rfl) ?_
        refine lv_iload_n hx hb dY1_undo_36 rfl (lv_at hl 3 rfl) ?_
        refine lv_iload_n hx hb dY1_undo_37 rfl (lv_at hl 2 rfl) ?_
        refine lv_iconst (v := 5) hx hb dY1_undo_38 (by decide) ?_
        refine lv_irem hx hb dY1_undo_39 (by decide) ?_
        refine W.eq (g2 := F0 m 40 ls [.int (nI (n / 5 ^ y % 5)), .int (nI y), .ref h0]) (congrArg (fun z9 => F0 m 40 ls [.int z9, .int (nI y), .ref h0]) (show ((nI (n / 5 ^ y)) - (nI (n / 5 ^ y)) / 5 * 5) = nI (n / 5 ^ y % 5) from rf_rem (b := 5) (by omega) (by omega))) ?_
        have hFc := va_free (wc := [(h0, .inr (1, [.int 0, .int (nI rc), .int (nI rl), .int (nI ps), .ref b1, .ref b2])), (b1, .inl (cI, 4096, .inl (rf_D g rl ps n y))), (b2, .inl (cJ, 4096, .inl t))]) hD hS hA [0, 1, 2] rfl
        refine va_callv (va_runV (C := RX1) (As := [.int (nI y), .int (nI (n / 5 ^ y % 5))]) (rest := []) ⟨hx, hb, hml, hown, hts⟩ (c_Y1_untell l dC dI cI cJ h0 b1 b2 0 rc rl ps (rf_D g rl ps n y) t H.size y (n / 5 ^ y % 5) ok hy hm) (cwV 2 hts gY1_undo_Y1_untell rfl rfl rfl (by decide +kernel) ⟨Nat.le_of_ble_eq_true rfl, Nat.le_of_ble_eq_true rfl⟩) ⟨fun a U g mk q => by obtain ⟨q0, q1, qP, qK, qD⟩ := q; exact ⟨q0, q1, qP, va_K.moved (u := U) (U := U.calling g mk a) (Vm.Alike.refl U.vm) qK, qD⟩, va_recv hK hP (ci := 1) (q0 := 0) rfl rfl, fun U hU hW => ⟨rfl, by rw [hU], by rw [hU]; exact hP, va_K.moved hW.alike hK, hD.weaken (fun _ _ _ _ => trivial)⟩⟩ rfl rfl hl.1 rfl (lv_room (Nat.le_of_ble_eq_true rfl)) dY1_undo_40 ⟨Nat.zero_le _, Nat.zero_le _⟩) hS (fun q _ h => hFc q h) hFc (fun u t9 H1 locs ht hvm hw hB hz1 hk1 hS => ?_)
        obtain ⟨hP1, hK1, hD1⟩ := hB
        rw [ht] at hP1
        obtain ⟨hP, hD⟩ := va_join (wr := []) (w1 := [(h0, .inr (1, [.int 0, .int (nI rc), .int (nI rl), .int (nI ps), .ref b1, .ref b2])), (b1, .inl (cI, 4096, .inl (rf_U (rf_D g rl ps n y) rl ps y (n / 5 ^ y % 5) rl))), (b2, .inl (cJ, 4096, .inl t))]) hP hD [0, 1, 2] [] rfl rfl (by decide) (by decide) hk1 hFc hP1 hD1
        generalize H1 = H at hP hS ⊢
        have hP : va_P (dC, dI) rw_cl [(h0, .inr (1, [.int 0, .int (nI rc), .int (nI rl), .int (nI ps), .ref b1, .ref b2])), (b1, .inl (cI, 4096, .inl (rf_U (rf_D g rl ps n y) rl ps y (n / 5 ^ y % 5) rl))), (b2, .inl (cJ, 4096, .inl t))] H := hP
        have hD : va_D A [(h0, .inr (1, [.int 0, .int (nI rc), .int (nI rl), .int (nI ps), .ref b1, .ref b2])), (b1, .inl (cI, 4096, .inl (rf_U (rf_D g rl ps n y) rl ps y (n / 5 ^ y % 5) rl))), (b2, .inl (cJ, 4096, .inl t))] := hD
        refine W.widen (k := 0) (n := 0) (Nat.le_refl _) (Nat.le_refl _) ?_
        refine lv_iload_n hx hb dY1_undo_43 rfl (lv_at hl 2 rfl) ?_
        refine lv_iconst (v := 5) hx hb dY1_undo_44 (by decide) ?_
        refine lv_idiv hx hb dY1_undo_45 (by decide) ?_
        refine W.eq (g2 := F0 m 46 ls [.int (nI (n / 5 ^ (y + 1)))]) (congrArg (fun z9 => F0 m 46 ls [.int z9]) (show ((nI (n / 5 ^ y)) / 5) = nI (n / 5 ^ (y + 1)) from (rf_div (b := 5) (by omega) (by omega)).trans (by rw [Nat.div_div_eq_div_mul, ← Nat.pow_succ]))) ?_
        refine lv_istore_n hx hb dY1_undo_46 rfl hl (by decide) rfl (fun ls hl => ?_)
        have hl : lv_has ls 4 [(2, .int (nI (n / 5 ^ (y + 1)))), (0, .ref h0), (1, .int (nI n)), (3, .int (nI y))] := hl
        refine lv_iinc (k := 3) (v := (nI (y + 1))) hx hb dY1_undo_47 hl rfl (rf_inc y) (by decide) rfl (fun ls hl => ?_)
        have hl : lv_has ls 4 [(3, .int (nI (y + 1))), (2, .int (nI (n / 5 ^ (y + 1)))), (0, .ref h0), (1, .int (nI n))] := hl
        refine lv_goto (tgt := 27) hx hb dY1_undo_50 (by decide) ?_
        have e9 : (rf_U (rf_D g rl ps n y) rl ps y (n / 5 ^ y % 5) rl) = (rf_D g rl ps n (y + 1)) := rfl
        rw [e9] at hP hD
        exact ih (y + 1) _ _ _ (by show rc - (y + 1) < rc - y; omega) ⟨by omega, lv_sub hl [2, 3, 1, 0] rfl, hP, hD, hS⟩
    · exact absurd (Int32.not_le.mp q2) (nI_nlt (a := 390624) hn (by omega))
set_option maxHeartbeats 4000000 in
set_option maxRecDepth 100000 in
theorem c_Y1_undo_bad (l : Launch) (dC : Nat → ClassId) (dI : Nat → Nat → Nat) (cI cJ : ClassId) (h0 b1 b2 : Nat) (fl : Int32) (rc rl ps : Nat) (g t : Nat → Int32) (sz : Nat) (n : Int32) (hb0 : n < 0 ∨ 390624 < n) : Met l yY1_undo wsY1_undo ({ frames := 0, cells := 0, slots := 0, locals := 0 }) (va_Pc [.ref h0, .int n] (rv_preD dC dI cI cJ h0 b1 b2 fl rc rl ps g t sz)) (va_Qv (fun _ : Unit => True) (fun _ t9 => rv_B dC dI cI cJ h0 b1 b2 1 rc rl ps g t (va_A (rv_W h0 b1 b2 cI cJ fl rc rl ps g t) sz) t9) (va_A (rv_W h0 b1 b2 cI cJ fl rc rl ps g t) sz)) 0 0 (va_A (rv_W h0 b1 b2 cI cJ fl rc rl ps g t) sz) := by
  refine Met.ofW (cc := cY1_undo) (maxL := 4) (ret := none) (by decide) rfl ?_
  intro p e s m args below meth c s₁ B hml hv
  obtain ⟨rfl, hsz, hP, hK, hD0⟩ := hv
  have hx := B.exec
  have hb := B.bytes
  have hr := B.returns
  have hts := atoms_spec (ws := wsY1_undo) B.pre
  have hown : s.vm.findClass RX1 = some m.cls := findClass_of_methodNamed B.named
  have hlocks := B.notSynchronized
  subst hsz
  have hD := hD0.self (sz := s.heap.size)
  generalize hAe : va_A (rv_W h0 b1 b2 cI cJ fl rc rl ps g t) s.heap.size = A at hD ⊢
  have hA : ∀ q : Nat, s.heap.size ≤ q → A q := fun q h => by rw [← hAe]; exact Or.inr h
  have hS : va_S A s.heap s.heap [] := va_S.rf
  have hP : va_P (dC, dI) rw_cl (rv_W h0 b1 b2 cI cJ fl rc rl ps g t) s.heap := hP
  have hl := lv_entry ([.ref h0, .int n]) (n := 4) (Nat.le_of_ble_eq_true rfl)
  rw [lg_entry_eq]
  generalize (lg_sl ([.ref h0, .int n]) ++ List.replicate (4 - (lg_sl ([.ref h0, .int n])).length) Slot.unset).toArray = ls at hl ⊢
  have hl : lv_has ls 4 [(0, .ref h0), (1, .int n)] := hl
  refine lv_aload_n hx hb dY1_undo_0 rfl (lv_at hl 0 rfl) ?_
  refine lv_iconst (v := 0) hx hb dY1_undo_1 (by decide) ?_
  refine va_put (D := (dC, dI)) (ci := 1) (v := .int 0) (ty := .int) (C := RX1) (T := TY1) (N := 6) hx hb hts (by decide +kernel) tyY1 tyY1_ok nmY1 hown hK hP hD hS 0 rfl rfl 0 (by decide) (hts (.fieldLink RX1 26 "RowFiltersModel" "failed" "I") (by decide +kernel)) (fun _ h9 => h9) rfl (by decide +kernel) rfl rfl (Nat.le_of_ble_eq_true rfl) dY1_undo_2 (fun H locs hP hD hS => ?_)
  have hP : va_P (dC, dI) rw_cl [(h0, .inr (1, [.int 0, .int (nI rc), .int (nI rl), .int (nI ps), .ref b1, .ref b2])), (b1, .inl (cI, 4096, .inl g)), (b2, .inl (cJ, 4096, .inl t))] H := hP
  have hD : va_D A [(h0, .inr (1, [.int 0, .int (nI rc), .int (nI rl), .int (nI ps), .ref b1, .ref b2])), (b1, .inl (cI, 4096, .inl g)), (b2, .inl (cJ, 4096, .inl t))] := hD
  refine lv_iload_n hx hb dY1_undo_5 rfl (lv_at hl 1 rfl) ?_
  refine lv_if_lt (tgt := 15) hx hb dY1_undo_6 (by decide) (fun q1 => ?_) (fun q1 => ?_)
  · refine lv_aload_n hx hb dY1_undo_15 rfl (lv_at hl 0 rfl) ?_
    refine lv_iconst (v := 1) hx hb dY1_undo_16 (by decide) ?_
    refine va_put (D := (dC, dI)) (ci := 1) (v := .int 1) (ty := .int) (C := RX1) (T := TY1) (N := 6) hx hb hts (by decide +kernel) tyY1 tyY1_ok nmY1 hown hK hP hD hS 0 rfl rfl 0 (by decide) (hts (.fieldLink RX1 26 "RowFiltersModel" "failed" "I") (by decide +kernel)) (fun _ h9 => h9) rfl (by decide +kernel) rfl rfl (Nat.le_of_ble_eq_true rfl) dY1_undo_17 (fun H locs hP hD hS => ?_)
    have hP : va_P (dC, dI) rw_cl [(h0, .inr (1, [.int 1, .int (nI rc), .int (nI rl), .int (nI ps), .ref b1, .ref b2])), (b1, .inl (cI, 4096, .inl g)), (b2, .inl (cJ, 4096, .inl t))] H := hP
    have hD : va_D A [(h0, .inr (1, [.int 1, .int (nI rc), .int (nI rl), .int (nI ps), .ref b1, .ref b2])), (b1, .inl (cI, 4096, .inl g)), (b2, .inl (cJ, 4096, .inl t))] := hD
    refine lv_goto (tgt := 53) hx hb dY1_undo_20 (by decide) ?_
    exact W.vret hx hb hr (fun t ht hW => ⟨⟨(), rfl, trivial, by rw [ht]; exact hP, va_K.moved hW.alike hK, hD⟩, hS.F ht⟩) hS.2.2 dY1_undo_53
  · refine lv_iload_n hx hb dY1_undo_9 rfl (lv_at hl 1 rfl) ?_
    refine lv_ldc hx hb hown (hts (.constant RX1 60 (390624)) (by decide +kernel)) dY1_undo_10 ?_
    refine lv_icmp_le (tgt := 23) hx hb dY1_undo_12 (by decide) (fun q2 => ?_) (fun q2 => ?_)
    · exact absurd hb0 (by rintro (z | z); exact q1 z; exact Int32.not_lt.mpr q2 z)
    · refine lv_aload_n hx hb dY1_undo_15 rfl (lv_at hl 0 rfl) ?_
      refine lv_iconst (v := 1) hx hb dY1_undo_16 (by decide) ?_
      refine va_put (D := (dC, dI)) (ci := 1) (v := .int 1) (ty := .int) (C := RX1) (T := TY1) (N := 6) hx hb hts (by decide +kernel) tyY1 tyY1_ok nmY1 hown hK hP hD hS 0 rfl rfl 0 (by decide) (hts (.fieldLink RX1 26 "RowFiltersModel" "failed" "I") (by decide +kernel)) (fun _ h9 => h9) rfl (by decide +kernel) rfl rfl (Nat.le_of_ble_eq_true rfl) dY1_undo_17 (fun H locs hP hD hS => ?_)
      have hP : va_P (dC, dI) rw_cl [(h0, .inr (1, [.int 1, .int (nI rc), .int (nI rl), .int (nI ps), .ref b1, .ref b2])), (b1, .inl (cI, 4096, .inl g)), (b2, .inl (cJ, 4096, .inl t))] H := hP
      have hD : va_D A [(h0, .inr (1, [.int 1, .int (nI rc), .int (nI rl), .int (nI ps), .ref b1, .ref b2])), (b1, .inl (cI, 4096, .inl g)), (b2, .inl (cJ, 4096, .inl t))] := hD
      refine lv_goto (tgt := 53) hx hb dY1_undo_20 (by decide) ?_
      exact W.vret hx hb hr (fun t ht hW => ⟨⟨(), rfl, trivial, by rw [ht]; exact hP, va_K.moved hW.alike hK, hD⟩, hS.F ht⟩) hS.2.2 dY1_undo_53
