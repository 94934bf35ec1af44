theorem rf_mul (a b : Nat) : nI a * nI b = nI (a * b) := (Int32.ofNat_mul a b).symm
theorem rf_ix (y rl i : Nat) : nI y * nI rl + nI i = nI (y * rl + i) := by rw [rf_mul, nI_add]
theorem rf_sub {a b : Nat} (h : b ≤ a) : nI a - nI b = nI (a - b) := (Int32.ofNat_sub a b h).symm
theorem rf_row {y rc : Nat} (rl : Nat) (h : y < rc) : y * rl + rl ≤ rc * rl := by
  have h2 : (y + 1) * rl ≤ rc * rl := Nat.mul_le_mul_right rl h
  rw [Nat.add_mul, Nat.one_mul] at h2
  exact h2
theorem rf_tS {a b : Int32} (h1 : -2147483648 ≤ a.toInt - b.toInt) (h2 : a.toInt - b.toInt < 2147483648) : (a - b).toInt = a.toInt - b.toInt := by
  rw [Int32.toInt_sub]
  exact Int.bmod_eq_of_le (by omega) (by omega)
theorem rf_tA {a b : Int32} (h1 : -2147483648 ≤ a.toInt + b.toInt) (h2 : a.toInt + b.toInt < 2147483648) : (a + b).toInt = a.toInt + b.toInt := by
  rw [Int32.toInt_add]
  exact Int.bmod_eq_of_le (by omega) (by omega)
theorem rf_neg {a b : Nat} (h : a < b) (hb : b < 2 ^ 31) : nI a - nI b < 0 := by
  rw [Int32.lt_iff_toInt_lt, rf_tS (by rw [nI_toInt (by omega), nI_toInt hb]; omega) (by rw [nI_toInt (by omega), nI_toInt hb]; omega), nI_toInt (by omega), nI_toInt hb]
  show _ < (0 : Int)
  omega
theorem rf_div {a b : Nat} (ha : a < 2 ^ 31) (hb : b < 2 ^ 31) : nI a / nI b = nI (a / b) := by
  have hne : nI b ≠ -1 := by
    intro h
    have h2 := congrArg Int32.toInt h
    rw [nI_toInt hb] at h2
    have e : (-1 : Int32).toInt = -1 := by decide
    omega
  apply Int32.toInt_inj.mp
  rw [Int32.toInt_div_of_ne_right _ _ hne, nI_toInt ha, nI_toInt hb, nI_toInt (Nat.lt_of_le_of_lt (Nat.div_le_self a b) ha)]
  rfl
theorem rf_rem {a b : Nat} (ha : a < 2 ^ 31) (hb : b < 2 ^ 31) : nI a - nI a / nI b * nI b = nI (a % b) := by
  rw [rf_div ha hb, rf_mul, rf_sub (Nat.div_mul_le_self a b)]
  have h := Nat.div_add_mod a b
  rw [Nat.mul_comm] at h
  exact congrArg nI (by omega)

def rf_ok (rc rl ps : Nat) : Prop := 1 ≤ rc ∧ 1 ≤ rl ∧ rc * rl ≤ 4096 ∧ 1 ≤ ps ∧ ps ≤ 8
theorem rf_ok.rc {rc rl ps : Nat} (h : rf_ok rc rl ps) : rc ≤ 4096 := Nat.le_trans (Nat.le_mul_of_pos_right rc h.2.1) h.2.2.1
theorem rf_ok.rl {rc rl ps : Nat} (h : rf_ok rc rl ps) : rl ≤ 4096 := Nat.le_trans (Nat.le_mul_of_pos_left rl h.1) h.2.2.1
theorem rf_ok.lt {rc rl ps y i : Nat} (h : rf_ok rc rl ps) (hy : y < rc) (hi : i < rl) : y * rl + i < rc * rl := by
  have := rf_row rl hy
  omega
theorem rf_ok.k {rc rl ps y i : Nat} (h : rf_ok rc rl ps) (hy : y < rc) (hi : i < rl) : y * rl + i < 4096 := Nat.lt_of_lt_of_le (h.lt hy hi) h.2.2.1

def rf_a (f : Nat → Int32) (rl ps y i : Nat) : Int32 := if i < ps then 0 else f (y * rl + (i - ps))
def rf_b (f : Nat → Int32) (rl y i : Nat) : Int32 := if y = 0 then 0 else f ((y - 1) * rl + i)
def rf_c (f : Nat → Int32) (rl ps y i : Nat) : Int32 := if y = 0 then 0 else if i < ps then 0 else f ((y - 1) * rl + (i - ps))
def rf_z (f : Nat → Int32) (rl : Nat) (y i : Int32) : Int32 := if y < 0 then 0 else if i < 0 then 0 else f (y * nI rl + i).toNatClampNeg
theorem rf_z_0 {f : Nat → Int32} {rl y i : Nat} (hy : y ≤ 4096) (hi : i ≤ 4096) (hk : y * rl + i < 4096) : rf_z f rl (nI y) (nI i) = f (y * rl + i) := by
  unfold rf_z
  rw [if_neg (nI_pos (by omega)), if_neg (nI_pos (by omega)), rf_ix, nI_clamp (by omega)]
theorem rf_z_a {f : Nat → Int32} {rl ps y i : Nat} (hy : y ≤ 4096) (hi : i ≤ 4096) (hp : ps ≤ 8) (hk : y * rl + i < 4096) : rf_z f rl (nI y) (nI i - nI ps) = rf_a f rl ps y i := by
  unfold rf_z rf_a
  rw [if_neg (nI_pos (by omega))]
  by_cases h : i < ps
  · rw [if_pos (rf_neg h (by omega)), if_pos h]
  · rw [rf_sub (by omega), if_neg (nI_pos (by omega)), if_neg h, rf_ix, nI_clamp (by omega)]
theorem rf_z_b {f : Nat → Int32} {rl y i : Nat} (hy : y ≤ 4096) (hi : i ≤ 4096) (hk : y * rl + i < 4096) : rf_z f rl (nI y - 1) (nI i) = rf_b f rl y i := by
  unfold rf_z rf_b
  by_cases h : y = 0
  · subst h
    rw [if_pos (by decide +kernel), if_pos rfl]
  · obtain ⟨z, rfl⟩ : ∃ z, y = z + 1 := ⟨y - 1, by omega⟩
    rw [Nat.add_mul] at hk
    rw [nI_pred, if_neg (nI_pos (by omega)), if_neg (nI_pos (by omega)), if_neg h, rf_ix, nI_clamp (by omega), Nat.add_sub_cancel]
theorem rf_z_c {f : Nat → Int32} {rl ps y i : Nat} (hy : y ≤ 4096) (hi : i ≤ 4096) (hp : ps ≤ 8) (hk : y * rl + i < 4096) : rf_z f rl (nI y - 1) (nI i - nI ps) = rf_c f rl ps y i := by
  unfold rf_z rf_c
  by_cases h : y = 0
  · subst h
    rw [if_pos (by decide +kernel), if_pos rfl]
  · obtain ⟨z, rfl⟩ : ∃ z, y = z + 1 := ⟨y - 1, by omega⟩
    rw [Nat.add_mul] at hk
    rw [nI_pred, if_neg (nI_pos (by omega)), if_neg h]
    by_cases h2 : i < ps
    · rw [if_pos (rf_neg h2 (by omega)), if_pos h2]
    · rw [rf_sub (by omega), if_neg (nI_pos (by omega)), if_neg h2, rf_ix, nI_clamp (by omega), Nat.add_sub_cancel]
theorem rf_in {y rl i : Nat} {Y I : Int32} (hY : ¬ Y < 0 → ∃ z, Y = nI z ∧ z ≤ y) (hI : ¬ I < 0 → ∃ j, I = nI j ∧ j ≤ i) (hk : y * rl + i < 4096) : ¬ Y < 0 → ¬ I < 0 → vp_in (Y * nI rl + I) 4096 := by
  intro h1 h2
  obtain ⟨z, rfl, hz⟩ := hY h1
  obtain ⟨j, rfl, hj⟩ := hI h2
  rw [rf_ix]
  have := Nat.mul_le_mul_right rl hz
  exact vp_in_nI (by omega) (by omega)
theorem rf_in_0 (n : Nat) : ¬ nI n < 0 → ∃ z, nI n = nI z ∧ z ≤ n := fun _ => ⟨n, rfl, Nat.le_refl n⟩
theorem rf_in_1 {n : Nat} (hn : n ≤ 4096) : ¬ nI n - 1 < 0 → ∃ z, nI n - 1 = nI z ∧ z ≤ n := by
  intro h
  rcases Nat.eq_zero_or_pos n with q | q
  · subst q
    exact absurd (by decide +kernel) h
  · obtain ⟨z, rfl⟩ : ∃ z, n = z + 1 := ⟨n - 1, by omega⟩
    exact ⟨z, nI_pred z, by omega⟩
theorem rf_in_p {n ps : Nat} (hp : ps ≤ 8) : ¬ nI n - nI ps < 0 → ∃ z, nI n - nI ps = nI z ∧ z ≤ n := by
  intro h
  rcases Nat.lt_or_ge n ps with q | q
  · exact absurd (rf_neg q (by omega)) h
  · exact ⟨n - ps, rf_sub q, by omega⟩

def rf_abs (x : Int32) : Int32 := if 0 ≤ x then x else 0 - x
def rf_near (a b c : Int32) : Int32 := if rf_abs (a + b - c - a) ≤ rf_abs (a + b - c - b) ∧ rf_abs (a + b - c - a) ≤ rf_abs (a + b - c - c) then a else if rf_abs (a + b - c - b) ≤ rf_abs (a + b - c - c) then b else c
def rf_g (f : Nat → Int32) (rl ps y i q : Nat) : Int32 := if q = 1 then rf_a f rl ps y i else if q = 2 then rf_b f rl y i else if q = 3 then (rf_a f rl ps y i + rf_b f rl y i) / 2 else if q = 4 then rf_near (rf_a f rl ps y i) (rf_b f rl y i) (rf_c f rl ps y i) else 0
def rf_t (f : Nat → Int32) (rl ps y q i : Nat) : Int32 := (f (y * rl + i) - rf_g f rl ps y i q) &&& 255
def rf_m (v : Int32) : Int32 := if v < 128 then v else 256 - v
def rf_s (f : Nat → Int32) (rl ps y q : Nat) : Nat → Int32
  | 0 => 0
  | n + 1 => rf_s f rl ps y q n + rf_m (rf_t f rl ps y q n)
def rf_l (S : Nat → Int32) : Nat → Nat × Int32
  | 0 => (0, S 0)
  | n + 1 => if S (n + 1) < (rf_l S n).2 then (n + 1, S (n + 1)) else rf_l S n
def rf_q (f : Nat → Int32) (rl ps y : Nat) : Nat := (rf_l (fun q => rf_s f rl ps y q rl) 4).1
def rf_U (f : Nat → Int32) (rl ps y q : Nat) : Nat → (Nat → Int32)
  | 0 => f
  | n + 1 => upd (rf_U f rl ps y q n) (y * rl + n) ((rf_U f rl ps y q n (y * rl + n) + rf_g (rf_U f rl ps y q n) rl ps y n q) &&& 255)
def rf_D (f : Nat → Int32) (rl ps F : Nat) : Nat → (Nat → Int32)
  | 0 => f
  | n + 1 => rf_U (rf_D f rl ps F n) rl ps n (F / 5 ^ n % 5) rl
def rf_v (q : Nat → Nat) : Nat → Int32
  | 0 => 1
  | n + 1 => 5 * rf_v q n + nI (q n)
def rf_h (f : Nat → Int32) : Nat → Int32
  | 0 => 1
  | n + 1 => 31 * rf_h f n + f n
def rf_F (a b c : Int32) (k : Nat) : Int32 := ((a * nI k * nI k + b * nI k + c).toUInt32 >>> ((24 : Int32).toUInt32 &&& Int32.toUInt32 31)).toInt32
def rf_p (g v : Nat → Int32) (lo hi k : Nat) : Int32 := if lo ≤ k ∧ k < hi then v k else g k
def rf_tv (f : Nat → Int32) (rl ps y q k : Nat) : Int32 := rf_t f rl ps y q (k - y * rl)
def rf_bv (f : Nat → Int32) (rl ps k : Nat) : Int32 := rf_t f rl ps (k / rl) (rf_q f rl ps (k / rl)) (k % rl)

theorem rf_p_nil (g v : Nat → Int32) (a : Nat) : rf_p g v a a = g := by
  funext k
  unfold rf_p
  rw [if_neg (by omega)]
theorem rf_p_up {g v : Nat → Int32} {lo hi : Nat} (h : lo ≤ hi) {x : Int32} (hx : x = v hi) : upd (rf_p g v lo hi) hi x = rf_p g v lo (hi + 1) := by
  funext k
  unfold upd rf_p
  by_cases hk : k = hi
  · subst hk
    rw [if_pos rfl, if_pos (by omega), hx]
  · rw [if_neg hk]
    by_cases h2 : lo ≤ k ∧ k < hi
    · rw [if_pos h2, if_pos (by omega)]
    · rw [if_neg h2, if_neg (by omega)]
theorem rf_p_dn {g v : Nat → Int32} {lo hi : Nat} (h : lo < hi) {x : Int32} (hx : x = v lo) : upd (rf_p g v (lo + 1) hi) lo x = rf_p g v lo hi := by
  funext k
  unfold upd rf_p
  by_cases hk : k = lo
  · subst hk
    rw [if_pos rfl, if_pos (by omega), hx]
  · rw [if_neg hk]
    by_cases h2 : lo ≤ k ∧ k < hi
    · rw [if_pos h2, if_pos (by omega)]
    · rw [if_neg h2, if_neg (by omega)]
theorem rf_p_in {g v : Nat → Int32} {lo hi k : Nat} (h1 : lo ≤ k) (h2 : k < hi) : rf_p g v lo hi k = v k := if_pos ⟨h1, h2⟩
theorem rf_p_out {g v : Nat → Int32} {lo hi k : Nat} (h : k < lo ∨ hi ≤ k) : rf_p g v lo hi k = g k := if_neg (by omega)
theorem rf_p_over (g v w : Nat → Int32) (lo hi : Nat) : rf_p (rf_p g v lo hi) w lo hi = rf_p g w lo hi := by
  funext k
  unfold rf_p
  by_cases h2 : lo ≤ k ∧ k < hi
  · rw [if_pos h2, if_pos h2]
  · rw [if_neg h2, if_neg h2, if_neg h2]

theorem rf_a_c {f g : Nat → Int32} {rl ps y i : Nat} (hp : 1 ≤ ps) (h : ∀ k, k < y * rl + i → f k = g k) : rf_a f rl ps y i = rf_a g rl ps y i := by
  unfold rf_a
  by_cases h2 : i < ps
  · rw [if_pos h2, if_pos h2]
  · rw [if_neg h2, if_neg h2]
    exact h _ (by omega)
theorem rf_b_c {f g : Nat → Int32} {rl y i : Nat} (hi : i < rl) (h : ∀ k, k < y * rl + i → f k = g k) : rf_b f rl y i = rf_b g rl y i := by
  unfold rf_b
  by_cases h2 : y = 0
  · rw [if_pos h2, if_pos h2]
  · rw [if_neg h2, if_neg h2]
    obtain ⟨z, rfl⟩ : ∃ z, y = z + 1 := ⟨y - 1, by omega⟩
    rw [Nat.add_sub_cancel]
    refine h _ ?_
    rw [Nat.add_mul]
    omega
theorem rf_c_c {f g : Nat → Int32} {rl ps y i : Nat} (hi : i < rl) (h : ∀ k, k < y * rl + i → f k = g k) : rf_c f rl ps y i = rf_c g rl ps y i := by
  unfold rf_c
  by_cases h2 : y = 0
  · rw [if_pos h2, if_pos h2]
  · rw [if_neg h2, if_neg h2]
    by_cases h3 : i < ps
    · rw [if_pos h3, if_pos h3]
    · rw [if_neg h3, if_neg h3]
      obtain ⟨z, rfl⟩ : ∃ z, y = z + 1 := ⟨y - 1, by omega⟩
      rw [Nat.add_sub_cancel]
      refine h _ ?_
      rw [Nat.add_mul]
      omega
theorem rf_g_c {f g : Nat → Int32} {rl ps y i q : Nat} (hp : 1 ≤ ps) (hi : i < rl) (h : ∀ k, k < y * rl + i → f k = g k) : rf_g f rl ps y i q = rf_g g rl ps y i q := by
  unfold rf_g
  rw [rf_a_c hp h, rf_b_c hi h, rf_c_c hi h]
theorem rf_t_c {f g : Nat → Int32} {rl ps y i q : Nat} (hp : 1 ≤ ps) (hi : i < rl) (h : ∀ k, k ≤ y * rl + i → f k = g k) : rf_t f rl ps y q i = rf_t g rl ps y q i := by
  unfold rf_t
  rw [rf_g_c hp hi (fun k hk => h k (by omega)), h _ (Nat.le_refl _)]
theorem rf_s_c {f g : Nat → Int32} {rl ps y q : Nat} (hp : 1 ≤ ps) (h : ∀ k, k < y * rl + rl → f k = g k) : ∀ n, n ≤ rl → rf_s f rl ps y q n = rf_s g rl ps y q n := by
  intro n
  induction n with
  | zero => intro _; rfl
  | succ n ih =>
    intro hn
    show rf_s f rl ps y q n + rf_m (rf_t f rl ps y q n) = rf_s g rl ps y q n + rf_m (rf_t g rl ps y q n)
    rw [ih (by omega), rf_t_c hp (by omega) (fun k hk => h k (by omega))]
theorem rf_q_c {f g : Nat → Int32} {rl ps y : Nat} (hp : 1 ≤ ps) (h : ∀ k, k < y * rl + rl → f k = g k) : rf_q f rl ps y = rf_q g rl ps y := by
  unfold rf_q
  rw [show (fun q => rf_s f rl ps y q rl) = (fun q => rf_s g rl ps y q rl) from funext fun q => rf_s_c hp h rl (Nat.le_refl _)]
theorem rf_U_c {f g : Nat → Int32} {rl ps y q N : Nat} (hp : 1 ≤ ps) (hN : y * rl + rl ≤ N) (h : ∀ k, k < N → f k = g k) : ∀ n, n ≤ rl → ∀ k, k < N → rf_U f rl ps y q n k = rf_U g rl ps y q n k := by
  intro n
  induction n with
  | zero => intro _; exact h
  | succ n ih =>
    intro hn k hk
    have ih := ih (by omega)
    show upd (rf_U f rl ps y q n) (y * rl + n) ((rf_U f rl ps y q n (y * rl + n) + rf_g (rf_U f rl ps y q n) rl ps y n q) &&& 255) k = upd (rf_U g rl ps y q n) (y * rl + n) ((rf_U g rl ps y q n (y * rl + n) + rf_g (rf_U g rl ps y q n) rl ps y n q) &&& 255) k
    unfold upd
    rw [ih _ (by omega), rf_g_c hp (by omega) (fun k hk => ih k (by omega)), ih k hk]
theorem rf_D_c {f g : Nat → Int32} {rc rl ps F : Nat} (hp : 1 ≤ ps) (h : ∀ k, k < rc * rl → f k = g k) : ∀ n, n ≤ rc → ∀ k, k < rc * rl → rf_D f rl ps F n k = rf_D g rl ps F n k := by
  intro n
  induction n with
  | zero => intro _; exact h
  | succ n ih =>
    intro hn
    exact rf_U_c hp (rf_row rl (by omega)) (ih (by omega)) rl (Nat.le_refl _)
theorem rf_h_c {f g : Nat → Int32} {N : Nat} (h : ∀ k, k < N → f k = g k) : ∀ n, n ≤ N → rf_h f n = rf_h g n := by
  intro n
  induction n with
  | zero => intro _; rfl
  | succ n ih =>
    intro hn
    show 31 * rf_h f n + f n = 31 * rf_h g n + g n
    rw [ih (by omega), h n (by omega)]
theorem rf_v_c {p q : Nat → Nat} {N : Nat} (h : ∀ k, k < N → p k = q k) : ∀ n, n ≤ N → rf_v p n = rf_v q n := by
  intro n
  induction n with
  | zero => intro _; rfl
  | succ n ih =>
    intro hn
    show 5 * rf_v p n + nI (p n) = 5 * rf_v q n + nI (q n)
    rw [ih (by omega), h n (by omega)]
theorem rf_l_lt {S : Nat → Int32} {n : Nat} (h : S (n + 1) < (rf_l S n).2) : rf_l S (n + 1) = (n + 1, S (n + 1)) := by
  show (if S (n + 1) < (rf_l S n).2 then (n + 1, S (n + 1)) else rf_l S n) = _
  exact if_pos h
theorem rf_l_ge {S : Nat → Int32} {n : Nat} (h : ¬ S (n + 1) < (rf_l S n).2) : rf_l S (n + 1) = rf_l S n := by
  show (if S (n + 1) < (rf_l S n).2 then (n + 1, S (n + 1)) else rf_l S n) = _
  exact if_neg h
theorem rf_l_le (S : Nat → Int32) : ∀ n, (rf_l S n).1 ≤ n := by
  intro n
  induction n with
  | zero => exact Nat.le_refl 0
  | succ n ih =>
    by_cases h : S (n + 1) < (rf_l S n).2
    · rw [rf_l_lt h]; exact Nat.le_refl _
    · rw [rf_l_ge h]; exact Nat.le_succ_of_le ih
theorem rf_q_le (f : Nat → Int32) (rl ps y : Nat) : rf_q f rl ps y ≤ 4 := rf_l_le _ 4
theorem rf_dv {rl y i : Nat} (h : i < rl) : (y * rl + i) / rl = y ∧ (y * rl + i) % rl = i := by
  constructor
  · refine Nat.div_eq_of_lt_le (by omega) ?_
    rw [Nat.add_mul, Nat.one_mul]
    omega
  · rw [Nat.add_comm, Nat.add_mul_mod_self_right, Nat.mod_eq_of_lt h]
theorem rf_bv_at {f : Nat → Int32} {rl ps y i : Nat} (h : i < rl) : rf_bv f rl ps (y * rl + i) = rf_t f rl ps y (rf_q f rl ps y) i := by
  unfold rf_bv
  rw [(rf_dv h).1, (rf_dv h).2]
theorem rf_kd {rc rl k : Nat} (h : k < rc * rl) : ∃ y i, y < rc ∧ i < rl ∧ k = y * rl + i := by
  rcases Nat.eq_zero_or_pos rl with q | q
  · subst q; omega
  · refine ⟨k / rl, k % rl, Nat.div_lt_of_lt_mul (by rw [Nat.mul_comm]; exact h), Nat.mod_lt _ q, ?_⟩
    have := Nat.div_add_mod k rl
    rw [Nat.mul_comm] at this
    exact this.symm
theorem rf_bv_c {f g : Nat → Int32} {rc rl ps : Nat} (hp : 1 ≤ ps) (h : ∀ k, k < rc * rl → f k = g k) : ∀ k, k < rc * rl → rf_bv f rl ps k = rf_bv g rl ps k := by
  intro k hk
  obtain ⟨y, i, hy, hi, rfl⟩ := rf_kd hk
  have hr := rf_row rl hy
  rw [rf_bv_at hi, rf_bv_at hi, rf_q_c hp (fun k hk => h k (by omega)), rf_t_c hp hi (fun k hk => h k (by omega))]
theorem rf_best_dn {f g : Nat → Int32} {rc rl ps j : Nat} (hp : 1 ≤ ps) (hj : j < rc) (hg : g = rf_p f (rf_bv f rl ps) ((j + 1) * rl) (rc * rl)) : rf_p g (rf_tv g rl ps j (rf_q g rl ps j)) (j * rl) (j * rl + rl) = rf_p f (rf_bv f rl ps) (j * rl) (rc * rl) := by
  have hr := rf_row rl hj
  have hs : (j + 1) * rl = j * rl + rl := by rw [Nat.add_mul, Nat.one_mul]
  have hlow : ∀ k, k < j * rl + rl → g k = f k := fun k hk => by rw [hg, rf_p_out (by omega)]
  funext k
  by_cases h1 : j * rl ≤ k ∧ k < j * rl + rl
  · obtain ⟨i, rfl⟩ : ∃ i, k = j * rl + i := ⟨k - j * rl, by omega⟩
    rw [rf_p_in (by omega) (by omega), rf_p_in (by omega) (by omega), rf_bv_at (by omega)]
    unfold rf_tv
    rw [rf_q_c hp hlow, Nat.add_sub_cancel_left, rf_t_c hp (by omega) (fun k hk => hlow k (by omega))]
  · rw [rf_p_out (by omega), hg]
    by_cases h2 : k < j * rl
    · rw [rf_p_out (by omega), rf_p_out (by omega)]
    · by_cases h3 : k < rc * rl
      · rw [rf_p_in (by omega) h3, rf_p_in (by omega) h3]
      · rw [rf_p_out (by omega), rf_p_out (by omega)]
theorem rf_best_up (f t : Nat → Int32) (rl ps y : Nat) : rf_p (rf_p t (rf_bv f rl ps) 0 (y * rl)) (rf_tv f rl ps y (rf_q f rl ps y)) (y * rl) (y * rl + rl) = rf_p t (rf_bv f rl ps) 0 ((y + 1) * rl) := by
  have hs : (y + 1) * rl = y * rl + rl := by rw [Nat.add_mul, Nat.one_mul]
  rw [hs]
  funext k
  by_cases h1 : y * rl ≤ k ∧ k < y * rl + rl
  · obtain ⟨i, rfl⟩ : ∃ i, k = y * rl + i := ⟨k - y * rl, by omega⟩
    rw [rf_p_in (by omega) (by omega), rf_p_in (by omega) (by omega), rf_bv_at (by omega)]
    unfold rf_tv
    rw [Nat.add_sub_cancel_left]
  · rw [rf_p_out (by omega)]
    by_cases h2 : k < y * rl
    · rw [rf_p_in (by omega) h2, rf_p_in (by omega) (by omega)]
    · rw [rf_p_out (by omega), rf_p_out (by omega)]
