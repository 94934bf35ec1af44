def bt (x : Int32) (i : Nat) : Bool := x.toBitVec.getLsbD i
theorem b_ext {x y : Int32} (h : ∀ i, i < 32 → bt x i = bt y i) : x = y := Int32.toBitVec_inj.mp (BitVec.eq_of_getLsbD_eq (fun i hi => h i hi))
theorem b_and (x y : Int32) (i : Nat) : bt (x &&& y) i = (bt x i && bt y i) := by unfold bt; rw [Int32.toBitVec_and, BitVec.getLsbD_and]
theorem b_big {x : Int32} {i : Nat} (h : 32 ≤ i) : bt x i = false := BitVec.getLsbD_of_ge _ _ h
theorem b_255 (i : Nat) : bt 255 i = decide (i < 8) := by
  rcases Nat.lt_or_ge i 32 with h | h
  · exact (by decide +kernel : ∀ i, i < 32 → bt 255 i = decide (i < 8)) i h
  · rw [b_big h, decide_eq_false (by omega)]
theorem s_u : ∀ n, n < 32 → (((nI n).toUInt32 &&& Int32.toUInt32 31).toBitVec % 32).toNat = n := by decide +kernel
theorem b_ushr (n : Nat) (hn : n < 32) (x : Int32) (i : Nat) : bt ((x.toUInt32 >>> ((nI n).toUInt32 &&& Int32.toUInt32 31)).toInt32) i = bt x (n + i) := by
  show (x.toUInt32 >>> ((nI n).toUInt32 &&& Int32.toUInt32 31)).toBitVec.getLsbD i = x.toUInt32.toBitVec.getLsbD (n + i)
  rw [UInt32.toBitVec_shiftRight]
  show (x.toUInt32.toBitVec >>> (((nI n).toUInt32 &&& Int32.toUInt32 31).toBitVec % 32).toNat).getLsbD i = _
  rw [s_u n hn, BitVec.getLsbD_ushiftRight]
theorem bp_b (x : Int32) : x.toInt8.toInt32 &&& 255 = x &&& 255 := by
  apply Int32.toBitVec_inj.mp
  rw [Int32.toBitVec_and, Int32.toBitVec_and, Int8.toBitVec_toInt32, Int32.toBitVec_toInt8]
  apply BitVec.eq_of_getLsbD_eq
  intro i hi
  rw [BitVec.getLsbD_and, BitVec.getLsbD_and]
  have hm : ∀ i < 32, 8 ≤ i → (255 : Int32).toBitVec.getLsbD i = false := by decide
  rcases Nat.lt_or_ge i 8 with z | z
  · rw [BitVec.getLsbD_signExtend, BitVec.getLsbD_signExtend, if_pos z, if_pos hi]
    simp only [z, hi, decide_true, Bool.true_and]
  · rw [hm i hi z]; simp
theorem rf_abs8_n : ∀ n, n < 256 → rf_abs (Int8.ofNat n).toInt32 = rf_m ((Int8.ofNat n).toInt32 &&& 255) := by decide +kernel
theorem rf_abs8 (x : Int32) : rf_abs x.toInt8.toInt32 = rf_m (x &&& 255) := by
  have e : x.toInt8 = Int8.ofNat x.toInt8.toBitVec.toNat := Int8.toBitVec_inj.1 (by
    show x.toInt8.toBitVec = BitVec.ofNat 8 x.toInt8.toBitVec.toNat
    simp)
  have h := rf_abs8_n x.toInt8.toBitVec.toNat (by have := x.toInt8.toBitVec.isLt; omega)
  rw [← e, bp_b] at h
  exact h
theorem rf_m255 (x : Int32) : x &&& 255 &&& 255 = x &&& 255 := by rw [Int32.and_assoc, Int32.and_self]
theorem rf_F_m (a b c : Int32) (k : Nat) : rf_F a b c k &&& 255 = rf_F a b c k := by
  apply b_ext
  intro i hi
  rw [b_and, b_255]
  unfold rf_F
  rw [show (24 : Int32) = nI 24 from rfl, b_ushr 24 (by decide)]
  by_cases h : i < 8
  · simp [h]
  · rw [b_big (by omega)]; simp
theorem rf_U_m {f : Nat → Int32} {rl ps y q N : Nat} (h : ∀ k, k < N → f k &&& 255 = f k) : ∀ n, ∀ k, k < N → rf_U f rl ps y q n k &&& 255 = rf_U f rl ps y q n k := by
  intro n
  induction n with
  | zero => exact h
  | succ n ih =>
    intro k hk
    show upd (rf_U f rl ps y q n) (y * rl + n) ((rf_U f rl ps y q n (y * rl + n) + rf_g (rf_U f rl ps y q n) rl ps y n q) &&& 255) k &&& 255 = upd (rf_U f rl ps y q n) (y * rl + n) ((rf_U f rl ps y q n (y * rl + n) + rf_g (rf_U f rl ps y q n) rl ps y n q) &&& 255) k
    unfold upd
    by_cases h2 : k = y * rl + n
    · rw [if_pos h2, rf_m255]
    · rw [if_neg h2]; exact ih k hk
theorem rf_D_m {f : Nat → Int32} {rl ps F N : Nat} (h : ∀ k, k < N → f k &&& 255 = f k) : ∀ n, ∀ k, k < N → rf_D f rl ps F n k &&& 255 = rf_D f rl ps F n k := by
  intro n
  induction n with
  | zero => exact h
  | succ n ih => exact rf_U_m ih rl
theorem rf_g_0 (f : Nat → Int32) (rl ps y i : Nat) : rf_g f rl ps y i 0 = 0 := by simp [rf_g]
theorem rf_U_0 {f : Nat → Int32} {rl ps y N : Nat} (hN : y * rl + rl ≤ N) (h : ∀ k, k < N → f k &&& 255 = f k) : ∀ n, n ≤ rl → ∀ k, k < N → rf_U f rl ps y 0 n k = f k := by
  intro n
  induction n with
  | zero => intro _ k _; rfl
  | succ n ih =>
    intro hn k hk
    have ih := ih (by omega)
    show upd (rf_U f rl ps y 0 n) (y * rl + n) ((rf_U f rl ps y 0 n (y * rl + n) + rf_g (rf_U f rl ps y 0 n) rl ps y n 0) &&& 255) k = f k
    unfold upd
    by_cases h2 : k = y * rl + n
    · rw [if_pos h2, rf_g_0, Int32.add_zero, ih _ (by omega), h _ (by omega), h2]
    · rw [if_neg h2]; exact ih k hk
theorem rf_D_8 {f : Nat → Int32} {rc rl ps F : Nat} (hF : F < 390625) (h : ∀ k, k < rc * rl → f k &&& 255 = f k) : ∀ d, 8 + d ≤ rc → ∀ k, k < rc * rl → rf_D f rl ps F (8 + d) k = rf_D f rl ps F 8 k := by
  intro d
  induction d with
  | zero => intro _ k _; rfl
  | succ d ih =>
    intro hn k hk
    have h5 : F / 5 ^ (8 + d) % 5 = 0 := by
      have h6 : (5 : Nat) ^ 8 ≤ 5 ^ (8 + d) := Nat.pow_le_pow_right (by decide) (by omega)
      rw [Nat.div_eq_of_lt (Nat.lt_of_lt_of_le (by omega) h6)]
    show rf_U (rf_D f rl ps F (8 + d)) rl ps (8 + d) (F / 5 ^ (8 + d) % 5) rl k = _
    rw [h5, rf_U_0 (rf_row rl (by omega)) (rf_D_m h (8 + d)) rl (Nat.le_refl _) k hk]
    exact ih (by omega) k hk
theorem rf_undo {f g : Nat → Int32} {rc rl ps F : Nat} (hp : 1 ≤ ps) (hF : F < 390625) (h : ∀ k, k < rc * rl → f k = g k) (hm : ∀ k, k < rc * rl → g k &&& 255 = g k) : ∀ k, k < rc * rl → rf_D f rl ps F (min rc 8) k = rf_D g rl ps F rc k := by
  intro k hk
  rw [rf_D_c hp h (min rc 8) (Nat.min_le_left _ _) k hk]
  rcases Nat.le_total rc 8 with q | q
  · rw [Nat.min_eq_left q]
  · rw [Nat.min_eq_right q]
    obtain ⟨d, rfl⟩ : ∃ d, rc = 8 + d := ⟨rc - 8, by omega⟩
    exact (rf_D_8 hF hm d (Nat.le_refl _) k hk).symm
theorem rf_v_step (V Q a w : Int32) : a + w * (5 * V + Q) = (a + Q * w) + (w * 5) * V := by grind

def rf_n (s r : Nat) : Nat → Nat
  | 0 => 0
  | n + 1 => rf_n s r n + (if n % s = r then 1 else 0)
theorem rf_n8 {r : Nat} (hr : r < 8) : ∀ n, rf_n 8 r n = (n + (8 - 1 - r)) / 8 := by
  intro n
  induction n with
  | zero => show 0 = _; omega
  | succ n ih =>
    show rf_n 8 r n + (if n % 8 = r then 1 else 0) = _
    rw [ih]
    by_cases h : n % 8 = r
    · rw [if_pos h]; omega
    · rw [if_neg h]; omega
theorem rf_n4 {r : Nat} (hr : r < 4) : ∀ n, rf_n 4 r n = (n + (4 - 1 - r)) / 4 := by
  intro n
  induction n with
  | zero => show 0 = _; omega
  | succ n ih =>
    show rf_n 4 r n + (if n % 4 = r then 1 else 0) = _
    rw [ih]
    by_cases h : n % 4 = r
    · rw [if_pos h]; omega
    · rw [if_neg h]; omega
theorem rf_n2 {r : Nat} (hr : r < 2) : ∀ n, rf_n 2 r n = (n + (2 - 1 - r)) / 2 := by
  intro n
  induction n with
  | zero => show 0 = _; omega
  | succ n ih =>
    show rf_n 2 r n + (if n % 2 = r then 1 else 0) = _
    rw [ih]
    by_cases h : n % 2 = r
    · rw [if_pos h]; omega
    · rw [if_neg h]; omega
theorem rf_n1 {r : Nat} (hr : r < 1) : ∀ n, rf_n 1 r n = (n + (1 - 1 - r)) / 1 := by
  intro n
  induction n with
  | zero => show 0 = _; omega
  | succ n ih =>
    show rf_n 1 r n + (if n % 1 = r then 1 else 0) = _
    rw [ih]
    by_cases h : n % 1 = r
    · rw [if_pos h]; omega
    · rw [if_neg h]; omega
def rf_sx (p : Nat) : Nat := match p with
  | 0 => 8
  | 1 => 8
  | 2 => 4
  | 3 => 4
  | 4 => 2
  | 5 => 2
  | _ => 1
def rf_sy (p : Nat) : Nat := match p with
  | 0 => 8
  | 1 => 8
  | 2 => 8
  | 3 => 4
  | 4 => 4
  | _ => 2
def rf_fx (p : Nat) : Nat := match p with
  | 1 => 4
  | 3 => 2
  | 5 => 1
  | _ => 0
def rf_fy (p : Nat) : Nat := match p with
  | 2 => 4
  | 4 => 2
  | 6 => 1
  | _ => 0
theorem rf_7 {p : Nat} (h : p ≤ 6) : p = 0 ∨ p = 1 ∨ p = 2 ∨ p = 3 ∨ p = 4 ∨ p = 5 ∨ p = 6 := by omega
theorem rf_n_x {p : Nat} (hp : p ≤ 6) (n : Nat) : rf_n (rf_sx p) (rf_fx p) n = (n + (rf_sx p - 1 - rf_fx p)) / rf_sx p := by
  rcases rf_7 hp with rfl | rfl | rfl | rfl | rfl | rfl | rfl
  · exact rf_n8 (by decide) n
  · exact rf_n8 (by decide) n
  · exact rf_n4 (by decide) n
  · exact rf_n4 (by decide) n
  · exact rf_n2 (by decide) n
  · exact rf_n2 (by decide) n
  · exact rf_n1 (by decide) n
theorem rf_n_y {p : Nat} (hp : p ≤ 6) (n : Nat) : rf_n (rf_sy p) (rf_fy p) n = (n + (rf_sy p - 1 - rf_fy p)) / rf_sy p := by
  rcases rf_7 hp with rfl | rfl | rfl | rfl | rfl | rfl | rfl
  · exact rf_n8 (by decide) n
  · exact rf_n8 (by decide) n
  · exact rf_n8 (by decide) n
  · exact rf_n4 (by decide) n
  · exact rf_n4 (by decide) n
  · exact rf_n2 (by decide) n
  · exact rf_n2 (by decide) n
theorem rf_n_le (s r n : Nat) : rf_n s r n ≤ n := by
  induction n with
  | zero => exact Nat.le_refl 0
  | succ n ih =>
    show rf_n s r n + (if n % s = r then 1 else 0) ≤ _
    by_cases h : n % s = r
    · rw [if_pos h]; omega
    · rw [if_neg h]; omega
theorem rf_n_s {s r n : Nat} (h : n % s = r) : rf_n s r (n + 1) = rf_n s r n + 1 := by
  show rf_n s r n + (if n % s = r then 1 else 0) = _
  rw [if_pos h]
theorem rf_n_f {s r n : Nat} (h : ¬ n % s = r) : rf_n s r (n + 1) = rf_n s r n := by
  show rf_n s r n + (if n % s = r then 1 else 0) = _
  rw [if_neg h, Nat.add_zero]
theorem rf_pa {w r s : Nat} (hw : w ≤ 100000) (hr : r < s) (hs : s ≤ 8) : (nI w - nI r + nI s - 1) / nI s = nI ((w + (s - 1 - r)) / s) := by
  have h1 : nI (w + (s - 1 - r)) + (nI r + 1) = nI w + nI s := by
    rw [nI_1, nI_add, nI_add]
    congr 1
    omega
  have e : nI w - nI r + nI s - 1 = nI (w + (s - 1 - r)) := by grind
  rw [e, rf_div (by omega) (by omega)]
def rf_at (p x y : Nat) : Prop := x % rf_sx p = rf_fx p ∧ y % rf_sy p = rf_fy p
theorem rf_tot {x y : Nat} (h : ∀ p, p < 6 → ¬ rf_at p x y) : rf_at 6 x y := by
  have h0 : ¬ (x % 8 = 0 ∧ y % 8 = 0) := h 0 (by decide)
  have h1 : ¬ (x % 8 = 4 ∧ y % 8 = 0) := h 1 (by decide)
  have h2 : ¬ (x % 4 = 0 ∧ y % 8 = 4) := h 2 (by decide)
  have h3 : ¬ (x % 4 = 2 ∧ y % 4 = 0) := h 3 (by decide)
  have h4 : ¬ (x % 2 = 0 ∧ y % 4 = 2) := h 4 (by decide)
  have h5 : ¬ (x % 2 = 1 ∧ y % 2 = 0) := h 5 (by decide)
  show x % 1 = 0 ∧ y % 2 = 1
  omega
def rf_po (x y k : Nat) : Prop := k ≤ 6 ∧ rf_at k x y ∧ ∀ p, p < k → ¬ rf_at p x y
theorem rf_po_u {x y j k : Nat} (hj : rf_po x y j) (hk : rf_po x y k) : j = k := by
  rcases Nat.lt_trichotomy j k with h | h | h
  · exact absurd hj.2.1 (hk.2.2 j h)
  · exact h
  · exact absurd hk.2.1 (hj.2.2 k h)
