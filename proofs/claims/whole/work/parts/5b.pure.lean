/-! ===== tests of numbers ===== -/
theorem X8_within (x l m : Int32) (S : St) : f_X8_within x l m S = some (if l.toInt ≤ x.toInt ∧ x.toInt ≤ m.toInt then 1 else 0, S) := by
  unfold f_X8_within f_X8_within_14 f_X8_within_15
  simp only [Int32.lt_iff_toInt_lt]
  by_cases h1 : x.toInt < l.toInt
  · rw [if_pos h1, if_neg (by omega), bz_0]
  · rw [if_neg h1]
    by_cases h2 : m.toInt < x.toInt
    · rw [if_pos h2, if_neg (by omega), bz_0]
    · rw [if_neg h2, if_pos (by omega), bz_1]
theorem X9_in (x : Int32) (l m : Int64) (S : St) : f_X9_in x.toInt64 l m S = some (if l.toInt ≤ x.toInt ∧ x.toInt ≤ m.toInt then 1 else 0, S) := by
  have e1 : (lg_cmp x.toInt64 l < 0) ↔ x.toInt < l.toInt := by
    have := lg_cmp_ge x.toInt64 l
    rw [← Int32.not_le, this, Int64.not_le, Int64.lt_iff_toInt_lt, Int32.toInt_toInt64]
  have e2 : (0 < lg_cmp x.toInt64 m) ↔ m.toInt < x.toInt := by
    have h := lg_cmp_ge m x.toInt64
    have e : (0 < lg_cmp x.toInt64 m) ↔ m < x.toInt64 := by
      unfold lg_cmp
      by_cases c1 : m < x.toInt64
      · simp [c1]
      · by_cases c2 : x.toInt64 = m
        · subst c2
          simp
        · have c3 : ¬ x.toInt64 > m := c1
          rw [if_neg c3, if_neg c2]
          constructor
          · intro z; exact absurd z (by decide)
          · intro z; exact absurd z c1
    rw [e, Int64.lt_iff_toInt_lt, Int32.toInt_toInt64]
  unfold f_X9_in f_X9_in_17 f_X9_in_18
  simp only [e1, e2]
  by_cases h1 : x.toInt < l.toInt
  · rw [if_pos h1, if_neg (by omega), bz_0]
  · rw [if_neg h1]
    by_cases h2 : m.toInt < x.toInt
    · rw [if_pos h2, if_neg (by omega), bz_0]
    · rw [if_neg h2, if_pos (by omega), bz_1]
theorem toInt_cases (x : Int32) (n : Nat) (hn : n < 2 ^ 31) : (¬ (0 ≤ x.toInt ∧ x.toInt < n)) ∨ ∃ j, j < n ∧ x = nI j := by
  by_cases h : 0 ≤ x.toInt ∧ x.toInt < n
  · obtain ⟨j, hj, e⟩ := vp_in_of (vp_in_iff.mpr h) hn
    exact Or.inr ⟨j, hj, e⟩
  · exact Or.inl h
theorem X6_has {nc : Nat} (hnc : nc ≤ 4) (x : Int32) (S : St) (h : S.1 9 0 = nI nc) : f_X6_has_9 x S = some (if 0 ≤ x.toInt ∧ x.toInt < nc then 1 else 0, S) := by
  unfold f_X6_has_9 f_X6_has_9_21 f_X6_has_9_22
  rw [h]
  have e0 : (0 : Int32).toInt = 0 := by decide
  have e4 : (4 : Int32).toInt = 4 := by decide
  simp only [Int32.lt_iff_toInt_lt, Int32.le_iff_toInt_le, nI_toInt (show nc < 2 ^ 31 by omega), e0, e4]
  by_cases h1 : x.toInt < 0
  · rw [if_pos h1, if_neg (by omega), bz_0]
  · rw [if_neg h1]
    by_cases h2 : (nc : Int) ≤ x.toInt
    · rw [if_pos h2, if_neg (by omega), bz_0]
    · rw [if_neg h2, if_neg (by omega), if_pos (by omega), bz_1]
theorem X9_isCell {nc : Nat} (hnc : nc ≤ 4) (x : Int32) (S : St) (h : S.1 27 8 = nI nc) : f_X9_isCell x S = some (if 0 ≤ x.toInt ∧ x.toInt < nc then 1 else 0, S) := by
  unfold f_X9_isCell
  rw [X9_in, bd_mk, h]
  have e1 : (((nI nc) - 1).toInt64).toInt = (nc : Int) - 1 := by
    rw [Int32.toInt_toInt64]
    match nc, hnc with
    | 0, _ => decide
    | 1, _ => decide
    | 2, _ => decide
    | 3, _ => decide
    | 4, _ => decide
    | n + 5, h => exact absurd h (by omega)
  have e0 : (0 : Int64).toInt = 0 := by decide
  rw [e1, e0]
  by_cases h2 : 0 ≤ x.toInt ∧ x.toInt < nc
  · rw [if_pos h2, if_pos (by omega), bz_1]
  · rw [if_neg h2, if_neg (by omega), bz_0]
