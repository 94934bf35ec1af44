theorem rw_loopC {p : Program} {l : Launch} {e : Env} {R : Room} {s : State} {m : MethodId} {args : Array Value} {below : List Frame} {meth : Method} {c : Code} {Q : State → Prop} {pc : Nat} {rest : List Value} (N : Nat) (cf sf : Nat → Nat) (I : Nat → Array Slot → Heap → List Loc → Prop)
    (step : ∀ (n : Nat) (ls : Array Slot) (H : Heap) (locs : List Loc), n ≤ N → I n ls H locs → (∀ (ls : Array Slot) (H : Heap) (locs : List Loc), n + 1 ≤ N → I (n + 1) ls H locs → W p l e R s m args below meth c H locs (cf (n + 1)) (sf (n + 1)) Q (F0 m pc ls rest)) → W p l e R s m args below meth c H locs (cf n) (sf n) Q (F0 m pc ls rest))
    {ls : Array Slot} {H : Heap} {locs : List Loc} (h : I 0 ls H locs) : W p l e R s m args below meth c H locs (cf 0) (sf 0) Q (F0 m pc ls rest) := by
  have key : ∀ (d n : Nat) (ls : Array Slot) (H : Heap) (locs : List Loc), n + d = N → I n ls H locs → W p l e R s m args below meth c H locs (cf n) (sf n) Q (F0 m pc ls rest) := by
    intro d
    induction d with
    | zero =>
      intro n ls H locs hn hI
      exact step n ls H locs (by omega) hI (fun ls' H' locs' h9 _ => absurd h9 (by omega))
    | succ d ih =>
      intro n ls H locs hn hI
      exact step n ls H locs (by omega) hI (fun ls' H' locs' _ hI' => ih (n + 1) ls' H' locs' (by omega) hI')
  exact key N 0 ls H locs (by omega) h
theorem rf_ge_x {rc : Nat} {y : Int32} (h1 : 1 ≤ rc) (h2 : rc ≤ 4096) (h : nI rc ≤ y) : nI rc - 1 < y := by
  obtain ⟨z, rfl⟩ : ∃ z, rc = z + 1 := ⟨rc - 1, by omega⟩
  rw [nI_pred, Int32.lt_iff_toInt_lt, nI_toInt (by omega)]
  rw [Int32.le_iff_toInt_le, nI_toInt (by omega)] at h
  omega
theorem rf_lt_n {rc : Nat} {y : Int32} (h2 : rc ≤ 4096) (h : ¬ y < 0) (h1 : ¬ nI rc ≤ y) : ∃ a, a < rc ∧ y = nI a := by
  obtain ⟨j, hj, rfl⟩ := nI_of h
  exact ⟨j, Nat.lt_of_not_le (fun q => h1 ((nI_leI (by omega) hj).mpr q)), rfl⟩
theorem rf_ot_x {rc rl ps : Nat} {y i : Int32} (ok : rf_ok rc rl ps) (h : rf_ot rc rl y i) : (y < 0 ∨ nI rc - 1 < y) ∨ (i < 0 ∨ nI rl - 1 < i) := by
  rcases h with h | h | h | h
  · exact Or.inl (Or.inl h)
  · exact Or.inl (Or.inr (rf_ge_x ok.1 ok.rc h))
  · exact Or.inr (Or.inl h)
  · exact Or.inr (Or.inr (rf_ge_x ok.2.1 ok.rl h))
theorem rf_ot_ok {rc rl ps : Nat} {y i : Int32} (ok : rf_ok rc rl ps) (h : ¬ rf_ot rc rl y i) : ∃ a b, y = nI a ∧ i = nI b ∧ a < rc ∧ b < rl := by
  obtain ⟨a, ha, e1⟩ := rf_lt_n ok.rc (fun q => h (Or.inl q)) (fun q => h (Or.inr (Or.inl q)))
  obtain ⟨b, hb, e2⟩ := rf_lt_n ok.rl (fun q => h (Or.inr (Or.inr (Or.inl q)))) (fun q => h (Or.inr (Or.inr (Or.inr q))))
  exact ⟨a, b, e1, e2, ha, hb⟩
theorem rf_bd_x {rc rl ps : Nat} {y q : Int32} (ok : rf_ok rc rl ps) (h : rf_bd rc y q) : (y < 0 ∨ nI rc - 1 < y) ∨ (q < 0 ∨ 4 < q) := by
  rcases h with h | h | h | h
  · exact Or.inl (Or.inl h)
  · exact Or.inl (Or.inr (rf_ge_x ok.1 ok.rc h))
  · exact Or.inr (Or.inl h)
  · exact Or.inr (Or.inr h)
theorem rf_bd_ok {rc rl ps : Nat} {y q : Int32} (ok : rf_ok rc rl ps) (h : ¬ rf_bd rc y q) : ∃ a b, y = nI a ∧ q = nI b ∧ a < rc ∧ b ≤ 4 := by
  obtain ⟨a, ha, e1⟩ := rf_lt_n ok.rc (fun q => h (Or.inl q)) (fun q => h (Or.inr (Or.inl q)))
  obtain ⟨b, b1, b2, e2⟩ := rf_of (a := 0) (b := 4) (A := 0) (B := 4) (by decide) (by decide) (fun q => h (Or.inr (Or.inr (Or.inl q)))) (fun q => h (Or.inr (Or.inr (Or.inr q))))
  exact ⟨a, b, e1, e2, ha, b2⟩
theorem rf_un_ok {n : Int32} (h : ¬ (n < 0 ∨ 390624 < n)) : ∃ a, n = nI a ∧ a ≤ 390624 := by
  obtain ⟨b, b1, b2, e2⟩ := rf_of (a := 0) (b := 390624) (A := 0) (B := 390624) (by decide) (by decide) (fun q => h (Or.inl q)) (fun q => h (Or.inr q))
  exact ⟨b, e2, b2⟩
theorem rf_pw_ok {k w h : Int32} (hn : ¬ rf_pw k w h) : ∃ a b c, k = nI a ∧ w = nI b ∧ h = nI c ∧ a ≤ 6 ∧ 1 ≤ b ∧ b ≤ 100000 ∧ 1 ≤ c ∧ c ≤ 100000 := by
  obtain ⟨a, a1, a2, e1⟩ := rf_of (a := 0) (b := 6) (A := 0) (B := 6) (by decide) (by decide) (fun q => hn (Or.inl q)) (fun q => hn (Or.inr (Or.inl q)))
  obtain ⟨b, b1, b2, e2⟩ := rf_of (a := 1) (b := 100000) (A := 1) (B := 100000) (by decide) (by decide) (fun q => hn (Or.inr (Or.inr (Or.inl q)))) (fun q => hn (Or.inr (Or.inr (Or.inr (Or.inl q)))))
  obtain ⟨c, c1, c2, e3⟩ := rf_of (a := 1) (b := 100000) (A := 1) (B := 100000) (by decide) (by decide) (fun q => hn (Or.inr (Or.inr (Or.inr (Or.inr (Or.inl q)))))) (fun q => hn (Or.inr (Or.inr (Or.inr (Or.inr (Or.inr q))))))
  exact ⟨a, b, c, e1, e2, e3, a2, b1, b2, c1, c2⟩
theorem rf_xy_ok {x y : Int32} (hn : ¬ rf_xy x y) : ∃ a b, x = nI a ∧ y = nI b ∧ a ≤ 99999 ∧ b ≤ 99999 := by
  obtain ⟨a, a1, a2, e1⟩ := rf_of (a := 0) (b := 99999) (A := 0) (B := 99999) (by decide) (by decide) (fun q => hn (Or.inl q)) (fun q => hn (Or.inr (Or.inl q)))
  obtain ⟨b, b1, b2, e2⟩ := rf_of (a := 0) (b := 99999) (A := 0) (B := 99999) (by decide) (by decide) (fun q => hn (Or.inr (Or.inr (Or.inl q)))) (fun q => hn (Or.inr (Or.inr (Or.inr q))))
  exact ⟨a, b, e1, e2, a2, b2⟩
theorem rf_po_ex (x y : Nat) : ∃ k, rf_po x y k := by
  have key : ∀ d, d ≤ 6 → (∀ p, p < 6 - d → ¬ rf_at p x y) → ∃ k, rf_po x y k := by
    intro d
    induction d with
    | zero => intro _ h; exact ⟨6, Nat.le_refl 6, rf_tot h, h⟩
    | succ d ih =>
      intro hd h
      rcases Classical.em (rf_at (6 - (d + 1)) x y) with q | q
      · exact ⟨6 - (d + 1), by omega, q, h⟩
      · refine ih (by omega) (fun p hp => ?_)
        rcases Nat.lt_or_ge p (6 - (d + 1)) with z | z
        · exact h p z
        · rw [show p = 6 - (d + 1) by omega]; exact q
  exact key 6 (Nat.le_refl 6) (fun p hp => absurd hp (by omega))
def rf_R (N : Nat) (f g : Nat → Int32) : Prop := ∀ k, k < N → f k = g k ∧ g k &&& 255 = g k
theorem rf_R.e {N : Nat} {f g : Nat → Int32} (h : rf_R N f g) : ∀ k, k < N → f k = g k := fun k hk => (h k hk).1
theorem rf_R.m {N : Nat} {f g : Nat → Int32} (h : rf_R N f g) : ∀ k, k < N → g k &&& 255 = g k := fun k hk => (h k hk).2
theorem rf_R_open {f g : Nat → Int32} {a b : Nat} (h : a * b ≤ 4096) : rf_R (a * b) (rf_p f (fun _ => 0) 0 4096) (rf_p g (fun _ => 0) 0 (a * b)) := by
  intro k hk
  rw [rf_p_in (Nat.zero_le _) (by omega), rf_p_in (Nat.zero_le _) hk]
  exact ⟨rfl, by decide⟩
theorem rf_v255 : ∀ j, j < 256 → nI j &&& 255 = nI j := by decide +kernel
theorem rf_R_set {N K : Nat} {f g : Nat → Int32} {v : Int32} (h : rf_R N f g) (h1 : ¬ v < 0) (h2 : ¬ 255 < v) : rf_R N (upd f K v) (upd g K v) := by
  intro k hk
  unfold upd
  by_cases q : k = K
  · rw [if_pos q, if_pos q]
    obtain ⟨j, j1, j2, rfl⟩ := rf_of (a := 0) (b := 255) (A := 0) (B := 255) (by decide) (by decide) h1 h2
    exact ⟨rfl, rf_v255 j (by omega)⟩
  · rw [if_neg q, if_neg q]; exact h k hk
theorem rf_R_fill {N : Nat} {f g : Nat → Int32} (a b c : Int32) : rf_R N (rf_p f (rf_F a b c) 0 N) (rf_p g (rf_F a b c) 0 N) := by
  intro k hk
  rw [rf_p_in (Nat.zero_le _) hk, rf_p_in (Nat.zero_le _) hk]
  exact ⟨rfl, rf_F_m a b c k⟩
theorem rf_R_filter {rc rl ps y q : Nat} {f g : Nat → Int32} (hp : 1 ≤ ps) (hy : y < rc) (h : rf_R (rc * rl) f g) : rf_R (rc * rl) (rf_p f (rf_tv f rl ps y q) (y * rl) (y * rl + rl)) (rf_p g (rf_tv g rl ps y q) (y * rl) (y * rl + rl)) := by
  have hr := rf_row rl hy
  intro k hk
  by_cases z : y * rl ≤ k ∧ k < y * rl + rl
  · rw [rf_p_in z.1 z.2, rf_p_in z.1 z.2]
    unfold rf_tv
    rw [rf_t_c hp (by omega) (fun j hj => h.e j (by omega))]
    exact ⟨rfl, rf_m255 _⟩
  · rw [rf_p_out (by omega), rf_p_out (by omega)]; exact h k hk
theorem rf_R_plain {rc rl ps y q : Nat} {f g : Nat → Int32} (hp : 1 ≤ ps) (hy : y < rc) (h : rf_R (rc * rl) f g) : rf_R (rc * rl) (rf_U f rl ps y q rl) (rf_U g rl ps y q rl) :=
  fun k hk => ⟨rf_U_c hp (rf_row rl hy) h.e rl (Nat.le_refl _) k hk, rf_U_m h.m rl k hk⟩
theorem rf_R_best {rc rl ps : Nat} {f g : Nat → Int32} (hp : 1 ≤ ps) (h : rf_R (rc * rl) f g) : rf_R (rc * rl) (rf_p f (rf_bv f rl ps) 0 (rc * rl)) (rf_p g (rf_bv g rl ps) 0 (rc * rl)) := by
  intro k hk
  rw [rf_p_in (Nat.zero_le _) hk, rf_p_in (Nat.zero_le _) hk, rf_bv_c hp h.e k hk]
  exact ⟨rfl, rf_m255 _⟩
theorem rf_R_bv {rc rl ps : Nat} {f g : Nat → Int32} (hp : 1 ≤ ps) (h : rf_R (rc * rl) f g) : rf_v (fun y => rf_q f rl ps y) rc = rf_v (fun y => rf_q g rl ps y) rc :=
  rf_v_c (fun y hy => rf_q_c hp (fun k hk => h.e k (by have := rf_row rl hy; omega))) rc (Nat.le_refl _)
theorem rf_R_undo {rc rl ps n : Nat} {f g : Nat → Int32} (hp : 1 ≤ ps) (hn : n ≤ 390624) (h : rf_R (rc * rl) f g) : rf_R (rc * rl) (rf_D f rl ps n (min rc 8)) (rf_D g rl ps n rc) :=
  fun k hk => ⟨rf_undo hp (by omega) h.e h.m k hk, rf_D_m h.m rc k hk⟩
theorem rf_R_hash {N : Nat} {f g : Nat → Int32} (h : rf_R N f g) : rf_h f N = rf_h g N := rf_h_c h.e N (Nat.le_refl _)
theorem rf_16 (x : Int32) : ∃ q, q < 16 ∧ x &&& 15 = nI q := by
  have e : x = nI x.toBitVec.toNat := Int32.toBitVec_inj.1 (by
    show x.toBitVec = BitVec.ofNat 32 x.toBitVec.toNat
    simp)
  refine ⟨x.toBitVec.toNat % 16, Nat.mod_lt _ (by omega), ?_⟩
  have h : nI x.toBitVec.toNat &&& nI 15 = nI (x.toBitVec.toNat &&& 15) := by
    apply Int32.toBitVec_inj.1
    show BitVec.ofNat 32 _ &&& BitVec.ofNat 32 15 = BitVec.ofNat 32 _
    apply BitVec.eq_of_getLsbD_eq
    intro i hi
    simp [hi]
  rw [show (15 : Nat) = 2 ^ 4 - 1 from rfl, Nat.and_two_pow_sub_one_eq_mod] at h
  rw [← e] at h
  exact h
theorem rf_len {L n : Nat} (hL : L ≤ 2560) (hn : n ≤ 512) : (nI L - 5 < nI (5 * n)) ↔ L < 5 * n + 5 := by
  rw [Int32.lt_iff_toInt_lt, rf_tS (a := nI L) (b := 5) (by rw [nI_toInt (by omega)]; show -2147483648 ≤ (L : Int) - 5; omega) (by rw [nI_toInt (by omega)]; show (L : Int) - 5 < 2147483648; omega), nI_toInt (by omega), nI_toInt (by omega)]
  show (L : Int) - 5 < ((5 * n : Nat) : Int) ↔ _
  omega
theorem rf_cmp (a : Int64) : lg_cmp a a = 0 := by
  unfold lg_cmp
  simp
