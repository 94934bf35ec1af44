abbrev rw_cl : List vw_C := [(RX0, TX0, 4), (RX1, TY1, 6)]
theorem rw_loop {p : Program} {l : Launch} {e : Env} {R : Room} {s : State} {m : MethodId} {args : Array Value} {below : List Frame} {meth : Method} {c : Code} {H : Heap} {locs : List Loc} {cells slots : Nat} {Q : State → Prop} {pc : Nat} {rest : List Value} {σ : Type} (μ : σ → Nat) (I : σ → Array Slot → Prop)
    (step : ∀ (x : σ) (ls : Array Slot), I x ls → (∀ (y : σ) (ls : Array Slot), μ y < μ x → I y ls → W p l e R s m args below meth c H locs cells slots Q (F0 m pc ls rest)) → W p l e R s m args below meth c H locs cells slots Q (F0 m pc ls rest))
    (x : σ) {ls : Array Slot} (h : I x ls) : W p l e R s m args below meth c H locs cells slots Q (F0 m pc ls rest) := by
  have key : ∀ (n : Nat) (x : σ) (ls : Array Slot), μ x = n → I x ls → W p l e R s m args below meth c H locs cells slots Q (F0 m pc ls rest) := by
    intro n
    induction n using Nat.strongRecOn with
    | _ n ih =>
      intro x ls hn hI
      exact step x ls hI (fun y ls' hy hI' => ih (μ y) (by omega) y ls' rfl hI')
  exact key (μ x) x ls rfl h
theorem rw_loopH {p : Program} {l : Launch} {e : Env} {R : Room} {s : State} {m : MethodId} {args : Array Value} {below : List Frame} {meth : Method} {c : Code} {H : Heap} {locs : List Loc} {cells slots : Nat} {Q : State → Prop} {pc : Nat} {rest : List Value} {σ : Type} (μ : σ → Nat) (I : σ → Array Slot → Heap → List Loc → Prop)
    (step : ∀ (x : σ) (ls : Array Slot) (H : Heap) (locs : List Loc), I x ls H locs → (∀ (y : σ) (ls : Array Slot) (H : Heap) (locs : List Loc), μ y < μ x → I y ls H locs → W p l e R s m args below meth c H locs cells slots Q (F0 m pc ls rest)) → W p l e R s m args below meth c H locs cells slots Q (F0 m pc ls rest))
    (x : σ) {ls : Array Slot} (h : I x ls H locs) : W p l e R s m args below meth c H locs cells slots Q (F0 m pc ls rest) := by
  have key : ∀ (n : Nat) (x : σ) (ls : Array Slot) (H : Heap) (locs : List Loc), μ x = n → I x ls H locs → W p l e R s m args below meth c H locs cells slots Q (F0 m pc ls rest) := by
    intro n
    induction n using Nat.strongRecOn with
    | _ n ih =>
      intro x ls H locs hn hI
      exact step x ls H locs hI (fun y ls' H' locs' hy hI' => ih (μ y) (by omega) y ls' H' locs' rfl hI')
  exact key (μ x) x ls H locs rfl h
theorem rf_dn0 {j : Nat} (hj : j ≤ 4096) (h : nI j - 1 < 0) : j = 0 := by
  rcases Nat.eq_zero_or_pos j with q | q
  · exact q
  · obtain ⟨z, rfl⟩ : ∃ z, j = z + 1 := ⟨j - 1, by omega⟩
    rw [nI_pred] at h
    exact absurd h (nI_pos (by omega))
theorem rf_dn1 {j : Nat} (h : ¬ nI j - 1 < 0) : ∃ z, j = z + 1 := by
  rcases Nat.eq_zero_or_pos j with q | q
  · subst q
    exact absurd (by decide +kernel) h
  · exact ⟨j - 1, by omega⟩
theorem rf_inc (n : Nat) : nI n + Int32.ofInt 1 = nI (n + 1) := nI_1 n
theorem rf_dec (n : Nat) : nI n + Int32.ofInt (-1) = nI n - 1 := by
  rw [Int32.sub_eq_add_neg]
  rfl
theorem rf_hi {y rc : Nat} (h : y < rc) (hr : rc ≤ 4096) : ¬ nI rc - 1 < nI y := by
  obtain ⟨z, rfl⟩ : ∃ z, rc = z + 1 := ⟨rc - 1, by omega⟩
  rw [nI_pred]
  exact nI_nlt (by omega) (by omega)
theorem rf_min {rc : Nat} (h : rc ≤ 4096) : (if (8 : Int32) < nI rc then 8 else nI rc) = nI (min rc 8) := by
  show (if nI 8 < nI rc then nI 8 else nI rc) = nI (min rc 8)
  by_cases q : 8 < rc
  · rw [if_pos (nI_lt (a := 8) q (by omega)), Nat.min_eq_right (by omega)]
  · rw [if_neg (nI_nlt (a := 8) (b := rc) (by omega) (by omega)), Nat.min_eq_left (by omega)]
abbrev rw_W (h0 ab : Nat) (cI : ClassId) (rc rl ps : Nat) (f : Nat → Int32) : va_W := [(h0, .inr (0, [.ref ab, .int (nI rc), .int (nI rl), .int (nI ps)])), (ab, .inl (cI, 4096, .inl f))]
abbrev rw_pre (dC : Nat → ClassId) (dI : Nat → Nat → Nat) (cI : ClassId) (h0 ab rc rl ps : Nat) (f : Nat → Int32) (U : State) : Prop := va_P (dC, dI) rw_cl (rw_W h0 ab cI rc rl ps f) U.heap ∧ va_K (dC, dI) rw_cl [(cI, .int)] U
abbrev rw_preD (dC : Nat → ClassId) (dI : Nat → Nat → Nat) (cI : ClassId) (h0 ab rc rl ps : Nat) (f : Nat → Int32) (sz : Nat) (U : State) : Prop := U.heap.size = sz ∧ va_P (dC, dI) rw_cl (rw_W h0 ab cI rc rl ps f) U.heap ∧ va_K (dC, dI) rw_cl [(cI, .int)] U ∧ va_D (fun _ => True) (rw_W h0 ab cI rc rl ps f)
abbrev rw_B (dC : Nat → ClassId) (dI : Nat → Nat → Nat) (cI : ClassId) (h0 ab rc rl ps : Nat) (f : Nat → Int32) (A : Nat → Prop) (t : State) : Prop := va_P (dC, dI) rw_cl (rw_W h0 ab cI rc rl ps f) t.heap ∧ va_K (dC, dI) rw_cl [(cI, .int)] t ∧ va_D A (rw_W h0 ab cI rc rl ps f)
abbrev rv_W (h0 b1 b2 : Nat) (cI cJ : ClassId) (fl : Int32) (rc rl ps : Nat) (g t : Nat → Int32) : va_W := [(h0, .inr (1, [.int fl, .int (nI rc), .int (nI rl), .int (nI ps), .ref b1, .ref b2])), (b1, .inl (cI, 4096, .inl g)), (b2, .inl (cJ, 4096, .inl t))]
abbrev rv_pre (dC : Nat → ClassId) (dI : Nat → Nat → Nat) (cI cJ : ClassId) (h0 b1 b2 : Nat) (fl : Int32) (rc rl ps : Nat) (g t : Nat → Int32) (U : State) : Prop := va_P (dC, dI) rw_cl (rv_W h0 b1 b2 cI cJ fl rc rl ps g t) U.heap ∧ va_K (dC, dI) rw_cl [(cI, .int), (cJ, .int)] U
abbrev rv_preD (dC : Nat → ClassId) (dI : Nat → Nat → Nat) (cI cJ : ClassId) (h0 b1 b2 : Nat) (fl : Int32) (rc rl ps : Nat) (g t : Nat → Int32) (sz : Nat) (U : State) : Prop := U.heap.size = sz ∧ va_P (dC, dI) rw_cl (rv_W h0 b1 b2 cI cJ fl rc rl ps g t) U.heap ∧ va_K (dC, dI) rw_cl [(cI, .int), (cJ, .int)] U ∧ va_D (fun _ => True) (rv_W h0 b1 b2 cI cJ fl rc rl ps g t)
abbrev rv_B (dC : Nat → ClassId) (dI : Nat → Nat → Nat) (cI cJ : ClassId) (h0 b1 b2 : Nat) (fl : Int32) (rc rl ps : Nat) (g t : Nat → Int32) (A : Nat → Prop) (u : State) : Prop := va_P (dC, dI) rw_cl (rv_W h0 b1 b2 cI cJ fl rc rl ps g t) u.heap ∧ va_K (dC, dI) rw_cl [(cI, .int), (cJ, .int)] u ∧ va_D A (rv_W h0 b1 b2 cI cJ fl rc rl ps g t)
def rf_op (h n s : Int32) : Prop := ¬ h < 1 ∧ ¬ n < 1 ∧ ¬ 4096 < h ∧ ¬ 4096 < n ∧ ¬ 4096 < h * n ∧ ¬ s < 1 ∧ ¬ 8 < s
theorem rf_of {x : Int32} {a b : Nat} {A B : Int32} (hA : A.toInt = a) (hB : B.toInt = b) (h1 : ¬ x < A) (h2 : ¬ B < x) : ∃ j, a ≤ j ∧ j ≤ b ∧ x = nI j := by
  rw [Int32.lt_iff_toInt_lt, hA] at h1
  rw [Int32.lt_iff_toInt_lt, hB] at h2
  have h3 := x.toInt_lt
  refine ⟨x.toInt.toNat, by omega, by omega, Int32.toInt_inj.mp ?_⟩
  rw [nI_toInt (by omega)]
  omega
theorem rf_op_ok {h n s : Int32} (H : rf_op h n s) : ∃ a b c, h = nI a ∧ n = nI b ∧ s = nI c ∧ rf_ok a b c := by
  obtain ⟨h1, h2, h3, h4, h5, h6, h7⟩ := H
  obtain ⟨a, a1, a2, rfl⟩ := rf_of (a := 1) (b := 4096) (by decide) (by decide) h1 h3
  obtain ⟨b, b1, b2, rfl⟩ := rf_of (a := 1) (b := 4096) (by decide) (by decide) h2 h4
  obtain ⟨c, c1, c2, rfl⟩ := rf_of (a := 1) (b := 8) (by decide) (by decide) h6 h7
  refine ⟨a, b, c, rfl, rfl, rfl, a1, b1, ?_, c1, c2⟩
  rw [rf_mul] at h5
  have h8 : a * b ≤ 4096 * 4096 := Nat.mul_le_mul a2 b2
  rcases Nat.lt_or_ge 4096 (a * b) with q | q
  · exact absurd (nI_lt (a := 4096) q (by omega)) h5
  · exact q
def rf_ot (rc rl : Nat) (y i : Int32) : Prop := y < 0 ∨ nI rc ≤ y ∨ i < 0 ∨ nI rl ≤ i
def rf_bd (rc : Nat) (y q : Int32) : Prop := y < 0 ∨ nI rc ≤ y ∨ q < 0 ∨ 4 < q
theorem rf_p_p (g t v : Nat → Int32) (lo hi : Nat) : rf_p g (rf_p t v lo hi) lo hi = rf_p g v lo hi := by
  funext k
  by_cases h : lo ≤ k ∧ k < hi
  · rw [rf_p_in h.1 h.2, rf_p_in h.1 h.2, rf_p_in h.1 h.2]
  · rw [rf_p_out (by omega), rf_p_out (by omega)]
theorem rf_ot_n {rc rl y i : Nat} (hc : rc ≤ 4096) (hl : rl ≤ 4096) (hy : y < rc) (hi : i < rl) : ¬ rf_ot rc rl (nI y) (nI i) := by
  rintro (h | h | h | h)
  · exact nI_pos (by omega) h
  · exact nI_ge hy (by omega) h
  · exact nI_pos (by omega) h
  · exact nI_ge hi (by omega) h
theorem rf_bd_n {rc y q : Nat} (hc : rc ≤ 4096) (hy : y < rc) (hq : q ≤ 4) : ¬ rf_bd rc (nI y) (nI q) := by
  rintro (h | h | h | h)
  · exact nI_pos (by omega) h
  · exact nI_ge hy (by omega) h
  · exact nI_pos (by omega) h
  · exact nI_nlt (a := 4) hq (by omega) h
def rf_pr (k w h : Nat) (b : Int32) : Int32 := if rf_n (rf_sx k) (rf_fx k) w = 0 then 0 else if rf_n (rf_sy k) (rf_fy k) h = 0 then 0 else if b = 0 then nI (rf_n (rf_sx k) (rf_fx k) w) else nI (rf_n (rf_sy k) (rf_fy k) h)
def rf_pw (k w h : Int32) : Prop := k < 0 ∨ 6 < k ∨ w < 1 ∨ 100000 < w ∨ h < 1 ∨ 100000 < h
def rf_xy (x y : Int32) : Prop := x < 0 ∨ 99999 < x ∨ y < 0 ∨ 99999 < y
theorem rf_n0 {n : Nat} (h : n < 2 ^ 31) : nI n = 0 ↔ n = 0 := nI_eq (b := 0) h (by omega)

theorem rf_pax {k w : Nat} (hk : k ≤ 6) (hw : w ≤ 100000) : (nI w - nI (rf_fx k) + nI (rf_sx k) - 1) / nI (rf_sx k) = nI (rf_n (rf_sx k) (rf_fx k) w) := by
  rw [rf_n_x hk]
  rcases rf_7 hk with rfl | rfl | rfl | rfl | rfl | rfl | rfl <;> exact rf_pa hw (by decide) (by decide)
theorem rf_pay {k w : Nat} (hk : k ≤ 6) (hw : w ≤ 100000) : (nI w - nI (rf_fy k) + nI (rf_sy k) - 1) / nI (rf_sy k) = nI (rf_n (rf_sy k) (rf_fy k) w) := by
  rw [rf_n_y hk]
  rcases rf_7 hk with rfl | rfl | rfl | rfl | rfl | rfl | rfl <;> exact rf_pa hw (by decide) (by decide)
theorem rf_s8 {k : Nat} (hk : k ≤ 6) : 0 < rf_sx k ∧ rf_sx k ≤ 8 ∧ 0 < rf_sy k ∧ rf_sy k ≤ 8 ∧ rf_fx k ≤ 8 ∧ rf_fy k ≤ 8 := by
  rcases rf_7 hk with rfl | rfl | rfl | rfl | rfl | rfl | rfl <;> decide
abbrev rw_stA (A : Nat → Prop) (t1 t2 t3 t4 : Nat) (U : State) (H : Heap) : Prop := va_Z "RowFilters" "PASS_FROM_X" "[I" (.ref t1) A U H ∧ va_T .int t1 7 (fun k => .int (nI (rf_fx k))) A U H ∧ va_Z "RowFilters" "PASS_FROM_Y" "[I" (.ref t2) A U H ∧ va_T .int t2 7 (fun k => .int (nI (rf_fy k))) A U H ∧ va_Z "RowFilters" "PASS_STEP_X" "[I" (.ref t3) A U H ∧ va_T .int t3 7 (fun k => .int (nI (rf_sx k))) A U H ∧ va_Z "RowFilters" "PASS_STEP_Y" "[I" (.ref t4) A U H ∧ va_T .int t4 7 (fun k => .int (nI (rf_sy k))) A U H
abbrev rw_st (t1 t2 t3 t4 : Nat) (U : State) : Prop := rw_stA (fun _ => False) t1 t2 t3 t4 U U.heap
theorem rw_st.to {A : Nat → Prop} {t1 t2 t3 t4 : Nat} {s U : State} {H : Heap} {locs : List Loc} (h : rw_stA A t1 t2 t3 t4 s s.heap) (hS : va_S A s.heap H locs) (hU : U.heap = H) (hW : s.WarmedH U.vm) : rw_st t1 t2 t3 t4 U := by
  obtain ⟨a1, b1, a2, b2, a3, b3, a4, b4⟩ := h
  unfold rw_st rw_stA
  rw [hU]
  exact ⟨(va_Z.moved hW.alike (a1.kept hS.2.1)).narrow (fun _ z => z.elim), (va_T.moved hW.alike (b1.kept hS.2.1)).narrow (fun _ z => z.elim), (va_Z.moved hW.alike (a2.kept hS.2.1)).narrow (fun _ z => z.elim), (va_T.moved hW.alike (b2.kept hS.2.1)).narrow (fun _ z => z.elim), (va_Z.moved hW.alike (a3.kept hS.2.1)).narrow (fun _ z => z.elim), (va_T.moved hW.alike (b3.kept hS.2.1)).narrow (fun _ z => z.elim), (va_Z.moved hW.alike (a4.kept hS.2.1)).narrow (fun _ z => z.elim), (va_T.moved hW.alike (b4.kept hS.2.1)).narrow (fun _ z => z.elim)⟩
theorem rw_st.call {t1 t2 t3 t4 : Nat} {U : State} {g : JFrame} {mk : MethodId} {a : Array Value} (h : rw_st t1 t2 t3 t4 U) : rw_st t1 t2 t3 t4 (U.calling g mk a) := by
  obtain ⟨a1, b1, a2, b2, a3, b3, a4, b4⟩ := h
  have hv : U.vm.Alike (U.calling g mk a).vm := Vm.Alike.refl U.vm
  exact ⟨va_Z.moved hv a1, va_T.moved hv b1, va_Z.moved hv a2, va_T.moved hv b2, va_Z.moved hv a3, va_T.moved hv b3, va_Z.moved hv a4, va_T.moved hv b4⟩
