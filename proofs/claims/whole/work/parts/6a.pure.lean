/-! ===== longs as numbers ===== -/
def lI (n : Nat) : Int64 := Int64.ofNat n
theorem lI_add (a b : Nat) : lI a + lI b = lI (a + b) := (Int64.ofNat_add a b).symm
theorem lI_mul (a b : Nat) : lI a * lI b = lI (a * b) := (Int64.ofNat_mul a b).symm
theorem lI_toInt {n : Nat} (h : n < 2 ^ 63) : (lI n).toInt = n := Int64.toInt_ofNat_of_lt h
theorem nI_long {n : Nat} (h : n < 2 ^ 31) : (nI n).toInt64 = lI n := by
  apply Int64.toInt_inj.mp
  rw [Int32.toInt_toInt64, nI_toInt h, lI_toInt (by omega)]
theorem lI_div {a b : Nat} (ha : a < 2 ^ 63) (hb : b < 2 ^ 63) : lI a / lI b = lI (a / b) := by
  apply Int64.toInt_inj.mp
  have hle : a / b ≤ a := Nat.div_le_self _ _
  rw [Int64.toInt_div, lI_toInt ha, lI_toInt hb, lI_toInt (by omega), Int.tdiv_eq_ediv_of_nonneg (by omega), ← Int.natCast_ediv]
  generalize a / b = q at hle ⊢
  exact Int.bmod_eq_of_le (by omega) (by omega)
theorem lI_rest {a b : Nat} (ha : a < 2 ^ 63) (hb : b < 2 ^ 63) : lI a - lI a / lI b * lI b = lI (a % b) := by
  rw [lI_div ha hb, lI_mul]
  apply Int64.toInt_inj.mp
  have h1 : a / b * b ≤ a := Nat.div_mul_le_self a b
  have h2 : a % b = a - a / b * b := by
    have := Nat.div_add_mod a b
    rw [Nat.mul_comm] at this
    omega
  have h3 : a % b ≤ a := Nat.mod_le a b
  rw [Int64.toInt_sub, lI_toInt ha, lI_toInt (by omega), lI_toInt (by omega), h2]
  generalize a / b * b = q at h1 ⊢
  rw [show (a : Int) - (q : Int) = ((a - q : Nat) : Int) by omega]
  exact Int.bmod_eq_of_le (by omega) (by omega)
theorem lI_0 {b : Nat} (hb : b < 2 ^ 63) : (lg_cmp (lI b) 0 = 0) ↔ b = 0 := by
  rw [lg_cmp_eq]
  constructor
  · intro h
    have := congrArg Int64.toInt h
    rw [lI_toInt hb, i64_0] at this
    omega
  · intro h; rw [h]; rfl
theorem lI_ne {b : Nat} (hb : b < 2 ^ 63) (h0 : 0 < b) {ρ : Type} {X : Option ρ} : nzL (lI b) X = X := by
  unfold nzL
  rw [if_neg]
  intro h
  have := congrArg Int64.toInt h
  rw [lI_toInt hb, i64_0] at this
  omega
theorem lI_pos {b : Nat} (hb : b < 2 ^ 63) (h0 : 0 < b) : 0 < lg_cmp (lI b) 0 := by
  rw [lg_cmp_gt, Int64.lt_iff_toInt_lt, lI_toInt hb, i64_0]
  omega
theorem lI_gt {a b : Nat} (ha : a < 2 ^ 63) (hb : b < 2 ^ 63) : (0 < lg_cmp (lI a) (lI b)) ↔ b < a := by
  rw [lg_cmp_gt, Int64.lt_iff_toInt_lt, lI_toInt ha, lI_toInt hb]
  omega
/-! ===== Euclid ===== -/
theorem halve {b r : Nat} (hr : r < b) (h0 : 0 < r) : 2 * (b % r) < b := by
  have h1 := Nat.mod_lt b h0
  by_cases h : 2 * r ≤ b
  · omega
  · have : b % r = b - r := by
      rw [Nat.mod_eq_sub_mod (by omega), Nat.mod_eq_of_lt (by omega)]
    omega
theorem gcd8 (S : St) : ∀ (m a b st fuel : Nat), a < 2 ^ 63 → b < 2 ^ m → m ≤ 63 → st + 2 * m < 200 → 2 * m < fuel → f_X8_commonDivisor_9 fuel (lI a) (lI b) (nI st) S = some (lI (Nat.gcd b a), S) := by
  intro m
  induction m with
  | zero =>
    intro a b st fuel h1 h2 h3 h4 h5
    obtain ⟨f, rfl⟩ : ∃ g, fuel = g + 1 := ⟨fuel - 1, by omega⟩
    obtain rfl : b = 0 := by simp at h2; exact h2
    rw [f_X8_commonDivisor_9, if_neg (show ¬ (200 : Int32) ≤ nI st from nI_ge (b := 200) (by omega) (by omega)), if_pos ((lI_0 (by omega)).mpr rfl), f_X8_commonDivisor_45, Nat.gcd_zero_left]
  | succ m ih =>
    intro a b st fuel h1 h2 h3 h4 h5
    have hb : b < 2 ^ 63 := Nat.lt_of_lt_of_le h2 (Nat.pow_le_pow_right (by decide) h3)
    obtain ⟨f, rfl⟩ : ∃ g, fuel = g + 1 + 1 := ⟨fuel - 2, by omega⟩
    rw [f_X8_commonDivisor_9, if_neg (show ¬ (200 : Int32) ≤ nI st from nI_ge (b := 200) (by omega) (by omega))]
    by_cases hb0 : b = 0
    · subst hb0
      rw [if_pos ((lI_0 (by omega)).mpr rfl), f_X8_commonDivisor_45, Nat.gcd_zero_left]
    · have hm := Nat.mod_lt a (show 0 < b by omega)
      rw [if_neg (fun z => hb0 ((lI_0 hb).mp z)), lI_ne hb (by omega), lt_mk, lI_rest h1 hb, nI_1, f_X8_commonDivisor_9, if_neg (show ¬ (200 : Int32) ≤ nI (st + 1) from nI_ge (b := 200) (by omega) (by omega)), Nat.gcd_rec b a]
      by_cases hr0 : a % b = 0
      · rw [hr0, if_pos ((lI_0 (by omega)).mpr rfl), f_X8_commonDivisor_45, Nat.gcd_zero_left]
      · have hh := halve hm (by omega)
        rw [if_neg (fun z => hr0 ((lI_0 (by omega)).mp z)), lI_ne (by omega) (by omega), lt_mk, lI_rest hb (by omega), nI_1, Nat.gcd_rec (a % b) b]
        exact ih (a % b) (b % (a % b)) (st + 1 + 1) f (by omega) (by rw [Nat.pow_succ] at h2; omega) (by omega) (by omega) (by omega)
theorem gcd9 (S : St) : ∀ (m a b fuel : Nat), a < 2 ^ 63 → b < 2 ^ m → m ≤ 63 → 2 * m < fuel → f_X9_divisor_6 fuel (lI a) (lI b) S = some (lI (Nat.gcd b a), S) := by
  intro m
  induction m with
  | zero =>
    intro a b fuel h1 h2 h3 h5
    obtain ⟨f, rfl⟩ : ∃ g, fuel = g + 1 := ⟨fuel - 1, by omega⟩
    obtain rfl : b = 0 := by simp at h2; exact h2
    rw [f_X9_divisor_6, if_pos ((lI_0 (by omega)).mpr rfl), Nat.gcd_zero_left]
  | succ m ih =>
    intro a b fuel h1 h2 h3 h5
    have hb : b < 2 ^ 63 := Nat.lt_of_lt_of_le h2 (Nat.pow_le_pow_right (by decide) h3)
    obtain ⟨f, rfl⟩ : ∃ g, fuel = g + 1 + 1 := ⟨fuel - 2, by omega⟩
    rw [f_X9_divisor_6]
    by_cases hb0 : b = 0
    · subst hb0
      rw [if_pos ((lI_0 (by omega)).mpr rfl), Nat.gcd_zero_left]
    · have hm := Nat.mod_lt a (show 0 < b by omega)
      rw [if_neg (fun z => hb0 ((lI_0 hb).mp z)), lI_ne hb (by omega), lt_mk, lI_rest h1 hb, f_X9_divisor_6, Nat.gcd_rec b a]
      by_cases hr0 : a % b = 0
      · rw [hr0, if_pos ((lI_0 (by omega)).mpr rfl), Nat.gcd_zero_left]
      · have hh := halve hm (by omega)
        rw [if_neg (fun z => hr0 ((lI_0 (by omega)).mp z)), lI_ne (by omega) (by omega), lt_mk, lI_rest hb (by omega), Nat.gcd_rec (a % b) b]
        exact ih (a % b) (b % (a % b)) f (by omega) (by rw [Nat.pow_succ] at h2; omega) (by omega) (by omega)
theorem X8_gcd {a b : Nat} (ha : a < 2 ^ 63) (hb : b < 2 ^ 63) (S : St) : f_X8_commonDivisor (lI a) (lI b) S = some (lI (Nat.gcd b a), S) := by
  unfold f_X8_commonDivisor
  exact gcd8 S 63 a b 0 FU ha hb (by omega) (by omega) (by decide)
theorem X9_gcd {a b : Nat} (ha : a < 2 ^ 63) (hb : b < 2 ^ 63) (S : St) : f_X9_divisor (lI a) (lI b) S = some (lI (Nat.gcd b a), S) := by
  unfold f_X9_divisor
  exact gcd9 S 63 a b FU ha hb (by omega) (by decide)
/-! ===== longs' rows ===== -/
theorem upL_1 {S : St} {k j : Nat} {v : Int64} : (upL S k j v).1 = S.1 := rfl
theorem upL_s {S : St} {k j : Nat} {v : Int64} : (upL S k j v).2 k j = v := by simp [upL, rwL, vp_updL]
theorem upL_j {S : St} {k j j' : Nat} {v : Int64} (h : j' ≠ j) : (upL S k j v).2 k j' = S.2 k j' := by simp [upL, rwL, vp_updL, h]
theorem upL_r {S : St} {k j k' : Nat} {v : Int64} (h : k' ≠ k) : (upL S k j v).2 k' = S.2 k' := by simp [upL, rwL, h]
