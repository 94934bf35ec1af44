set_option maxHeartbeats 4000000 in
set_option maxRecDepth 100000 in
theorem c_Y1_init (l : Launch) (dC : Nat → ClassId) (dI : Nat → Nat → Nat) (h0 sz : Nat) : Met l yY1_init wsY1_init ({ frames := 1, cells := 2, slots := 8192, locals := 12 }) (va_Pc [.ref h0] (fun U => U.heap.size = sz ∧ va_P (dC, dI) rw_cl [(h0, .inr (1, [.int 0, .int 0, .int 0, .int 0, .null, .null]))] U.heap ∧ va_K (dC, dI) rw_cl [] U ∧ va_D (fun _ => True) [(h0, .inr (1, [.int 0, .int 0, .int 0, .int 0, .null, .null]))])) (va_Qv (fun _ : (Nat × ClassId) × (Nat × ClassId) => True) (fun u t9 => rv_B dC dI u.1.2 u.2.2 h0 u.1.1 u.2.1 0 1 1 1 (fun _ => 0) (fun _ => 0) (va_A [(h0, .inr (1, [.int 0, .int 0, .int 0, .int 0, .null, .null]))] sz) t9) (va_A [(h0, .inr (1, [.int 0, .int 0, .int 0, .int 0, .null, .null]))] sz)) 2 8192 (va_A [(h0, .inr (1, [.int 0, .int 0, .int 0, .int 0, .null, .null]))] sz) := by
  refine Met.ofW (cc := cY1_init) (maxL := 1) (ret := none) (by decide) rfl ?_
  intro p e s m args below meth c s₁ B hml hv
  obtain ⟨rfl, hsz, hP, hK, hD0⟩ := hv
  have hx := B.exec
  have hb := B.bytes
  have hr := B.returns
  have hts := atoms_spec (ws := wsY1_init) B.pre
  have hown : s.vm.findClass RX1 = some m.cls := findClass_of_methodNamed B.named
  have hlocks := B.notSynchronized
  have hin : meth.name = "<init>" := (name_of_methodNamed B.named B.method).1
  subst hsz
  have hD := hD0.self (sz := s.heap.size)
  generalize hAe : va_A [(h0, .inr (1, [.int 0, .int 0, .int 0, .int 0, .null, .null]))] s.heap.size = A at hD ⊢
  have hA : ∀ q : Nat, s.heap.size ≤ q → A q := fun q h => by rw [← hAe]; exact Or.inr h
  have hS : va_S A s.heap s.heap [] := va_S.rf
  have hP : va_P (dC, dI) rw_cl [(h0, .inr (1, [.int 0, .int 0, .int 0, .int 0, .null, .null]))] s.heap := hP
  have hl := lv_entry ([.ref h0]) (n := 1) (Nat.le_of_ble_eq_true rfl)
  rw [lg_entry_eq]
  generalize (lg_sl ([.ref h0]) ++ List.replicate (1 - (lg_sl ([.ref h0])).length) Slot.unset).toArray = ls at hl ⊢
  have hl : lv_has ls 1 [(0, .ref h0)] := hl
  refine lv_aload_n hx hb dY1_init_0 rfl (lv_at hl 0 rfl) ?_
  refine W.objInit hx hb hown (hts (.methodLink RX1 1 objectInit) (by decide +kernel)) (hts (.instanceMethod objectInit) (by decide +kernel)) (hts (.code objectInit ⟨#[0xb1]⟩ 1 none) (by decide +kernel)) rfl (by rw [hml]; exact hl.1) rfl dY1_init_1 (Nat.le_of_ble_eq_true rfl) (Nat.le_of_ble_eq_true rfl) ?_
  refine W.eq (g2 := F0 m 4 ls []) rfl ?_
  refine lv_aload_n hx hb dY1_init_4 rfl (lv_at hl 0 rfl) ?_
  refine lv_iconst (v := 1) hx hb dY1_init_5 (by decide) ?_
  refine va_put (D := (dC, dI)) (ci := 1) (v := .int 1) (ty := .int) (C := RX1) (T := TY1) (N := 6) hx hb hts (by decide +kernel) tyY1 tyY1_ok nmY1 hown hK hP hD hS 0 rfl rfl 1 (by decide) (hts (.fieldLink RX1 7 "RowFiltersModel" "height" "I") (by decide +kernel)) (fun _ h9 => h9) rfl (by decide +kernel) rfl rfl (Nat.le_of_ble_eq_true rfl) dY1_init_6 (fun H locs hP hD hS => ?_)
  have hP : va_P (dC, dI) rw_cl [(h0, .inr (1, [.int 0, .int 1, .int 0, .int 0, .null, .null]))] H := hP
  have hD : va_D A [(h0, .inr (1, [.int 0, .int 1, .int 0, .int 0, .null, .null]))] := hD
  refine lv_aload_n hx hb dY1_init_9 rfl (lv_at hl 0 rfl) ?_
  refine lv_iconst (v := 1) hx hb dY1_init_10 (by decide) ?_
  refine va_put (D := (dC, dI)) (ci := 1) (v := .int 1) (ty := .int) (C := RX1) (T := TY1) (N := 6) hx hb hts (by decide +kernel) tyY1 tyY1_ok nmY1 hown hK hP hD hS 0 rfl rfl 2 (by decide) (hts (.fieldLink RX1 13 "RowFiltersModel" "width" "I") (by decide +kernel)) (fun _ h9 => h9) rfl (by decide +kernel) rfl rfl (Nat.le_of_ble_eq_true rfl) dY1_init_11 (fun H locs hP hD hS => ?_)
  have hP : va_P (dC, dI) rw_cl [(h0, .inr (1, [.int 0, .int 1, .int 1, .int 0, .null, .null]))] H := hP
  have hD : va_D A [(h0, .inr (1, [.int 0, .int 1, .int 1, .int 0, .null, .null]))] := hD
  refine lv_aload_n hx hb dY1_init_14 rfl (lv_at hl 0 rfl) ?_
  refine lv_iconst (v := 1) hx hb dY1_init_15 (by decide) ?_
  refine va_put (D := (dC, dI)) (ci := 1) (v := .int 1) (ty := .int) (C := RX1) (T := TY1) (N := 6) hx hb hts (by decide +kernel) tyY1 tyY1_ok nmY1 hown hK hP hD hS 0 rfl rfl 3 (by decide) (hts (.fieldLink RX1 16 "RowFiltersModel" "step" "I") (by decide +kernel)) (fun _ h9 => h9) rfl (by decide +kernel) rfl rfl (Nat.le_of_ble_eq_true rfl) dY1_init_16 (fun H locs hP hD hS => ?_)
  have hP : va_P (dC, dI) rw_cl [(h0, .inr (1, [.int 0, .int 1, .int 1, .int 1, .null, .null]))] H := hP
  have hD : va_D A [(h0, .inr (1, [.int 0, .int 1, .int 1, .int 1, .null, .null]))] := hD
  refine lv_aload_n hx hb dY1_init_19 rfl (lv_at hl 0 rfl) ?_
  refine lv_sipush (v := 4096) hx hb dY1_init_20 (by decide) ?_
  refine va_newa (atype := .int) (ty := .int) (a0 := (4096, .inl (fun _ => 0))) (N' := 4096) hx hb (hts (.arrayClass .int) (by decide +kernel)) rfl hK hP hD hS hA (rw_newc 4096) (by decide +kernel) (by decide +kernel) (by decide +kernel) (show 0 + 1 ≤ 2 by decide) (show 0 + 4096 ≤ 8192 by decide) dY1_init_23 (fun b1 cI H hK hP hD hS => ?_)
  have hP : va_P (dC, dI) rw_cl [(h0, .inr (1, [.int 0, .int 1, .int 1, .int 1, .null, .null])), (b1, .inl (cI, 4096, .inl (fun _ => 0)))] H := hP
  have hD : va_D A [(h0, .inr (1, [.int 0, .int 1, .int 1, .int 1, .null, .null])), (b1, .inl (cI, 4096, .inl (fun _ => 0)))] := hD
  have hK : va_K (dC, dI) rw_cl [(cI, .int)] s := hK
  refine W.widen (k := 1) (n := 4096) (show 0 + 1 ≤ 1 by decide) (show 0 + 4096 ≤ 4096 by decide) ?_
  refine va_putF (D := (dC, dI)) (ci := 1) (v := .ref b1) (ty := .array .int) (C := RX1) (T := TY1) (N := 6) hx hb hts (by decide +kernel) tyY1 tyY1_ok nmY1 hown hK hP hD hS 0 rfl rfl 4 (by decide) (hts (.fieldLink RX1 19 "RowFiltersModel" "bytes" "[I") (by decide +kernel)) (fun _ h9 => h9) rfl hin rfl (by decide +kernel) rfl rfl (Nat.le_of_ble_eq_true rfl) dY1_init_25 (fun H locs hP hD hS => ?_)
  have hP : va_P (dC, dI) rw_cl [(h0, .inr (1, [.int 0, .int 1, .int 1, .int 1, .ref b1, .null])), (b1, .inl (cI, 4096, .inl (fun _ => 0)))] H := hP
  have hD : va_D A [(h0, .inr (1, [.int 0, .int 1, .int 1, .int 1, .ref b1, .null])), (b1, .inl (cI, 4096, .inl (fun _ => 0)))] := hD
  refine lv_aload_n hx hb dY1_init_28 rfl (lv_at hl 0 rfl) ?_
  refine lv_sipush (v := 4096) hx hb dY1_init_29 (by decide) ?_
  refine va_newa (atype := .int) (ty := .int) (a0 := (4096, .inl (fun _ => 0))) (N' := 4096) hx hb (hts (.arrayClass .int) (by decide +kernel)) rfl hK hP hD hS hA (rw_newc 4096) (by decide +kernel) (by decide +kernel) (by decide +kernel) (show 1 + 1 ≤ 2 by decide) (show 4096 + 4096 ≤ 8192 by decide) dY1_init_32 (fun b2 cJ H hK hP hD hS => ?_)
  have hP : va_P (dC, dI) rw_cl [(h0, .inr (1, [.int 0, .int 1, .int 1, .int 1, .ref b1, .null])), (b1, .inl (cI, 4096, .inl (fun _ => 0))), (b2, .inl (cJ, 4096, .inl (fun _ => 0)))] H := hP
  have hD : va_D A [(h0, .inr (1, [.int 0, .int 1, .int 1, .int 1, .ref b1, .null])), (b1, .inl (cI, 4096, .inl (fun _ => 0))), (b2, .inl (cJ, 4096, .inl (fun _ => 0)))] := hD
  have hK : va_K (dC, dI) rw_cl [(cI, .int), (cJ, .int)] s := hK
  refine W.widen (k := 2) (n := 8192) (show 1 + 1 ≤ 2 by decide) (show 4096 + 4096 ≤ 8192 by decide) ?_
  refine va_putF (D := (dC, dI)) (ci := 1) (v := .ref b2) (ty := .array .int) (C := RX1) (T := TY1) (N := 6) hx hb hts (by decide +kernel) tyY1 tyY1_ok nmY1 hown hK hP hD hS 0 rfl rfl 5 (by decide) (hts (.fieldLink RX1 23 "RowFiltersModel" "told" "[I") (by decide +kernel)) (fun _ h9 => h9) rfl hin rfl (by decide +kernel) rfl rfl (Nat.le_of_ble_eq_true rfl) dY1_init_34 (fun H locs hP hD hS => ?_)
  have hP : va_P (dC, dI) rw_cl [(h0, .inr (1, [.int 0, .int 1, .int 1, .int 1, .ref b1, .ref b2])), (b1, .inl (cI, 4096, .inl (fun _ => 0))), (b2, .inl (cJ, 4096, .inl (fun _ => 0)))] H := hP
  have hD : va_D A [(h0, .inr (1, [.int 0, .int 1, .int 1, .int 1, .ref b1, .ref b2])), (b1, .inl (cI, 4096, .inl (fun _ => 0))), (b2, .inl (cJ, 4096, .inl (fun _ => 0)))] := hD
  exact W.vret hx hb hr (fun t ht hW => ⟨⟨((b1, cI), (b2, cJ)), rfl, trivial, by rw [ht]; exact hP, va_K.moved hW.alike hK, hD⟩, hS.F ht⟩) hS.2.2 dY1_init_37
