/-! ===== copies: a Traffic's, a row's ===== -/
theorem cpy_at {f g : Nat → Int32} {n j : Nat} (h : j < n) : va_cpy f g 0 0 n j = f j := by
  simp [va_cpy, h]
theorem X7_copyFrom (b b2 : Nat) (hb : b + 17 ≤ b2 ∨ b2 + 17 ≤ b) (S : St) : ∃ S', f_X7_copyFrom b b2 S = some S' ∧ (∀ k, k < b ∨ b + 17 ≤ k → S'.1 k = S.1 k) ∧ (∀ k j, k < 17 → tq k j → S'.1 (b + k) j = S.1 (b2 + k) j) := by
  unfold f_X7_copyFrom
  simp only [lt_mk]
  refine ⟨_, rfl, fun k hk => ?_, fun k j hk hj => ?_⟩
  · simp (disch := omega) only [rw_k, up_r]
  · match k, hk, hj with
    | 0, _, hj =>
      have hj : j = 0 ∨ j = 1 ∨ j = 15 := hj
      rcases hj with rfl | rfl | rfl
      · simp (disch := omega) only [Nat.add_zero, rw_k, up_j, up_s, up_r, up_k]
      · simp (disch := omega) only [Nat.add_zero, rw_k, up_j, up_s, up_r, up_k]
      · simp (disch := omega) only [Nat.add_zero, rw_k, up_j, up_s, up_r, up_k]
    | 1, _, hj =>
      have hj : j < 4 := hj
      simp (disch := omega) only [rw_k, rw_s, up_r]
      rw [show (4 : Int32).toNatClampNeg = 4 from rfl, cpy_at hj]
    | 2, _, hj =>
      have hj : j < 24 := hj
      simp (disch := omega) only [rw_k, rw_s, up_r]
      rw [show (24 : Int32).toNatClampNeg = 24 from rfl, cpy_at hj]
    | 3, _, hj =>
      have hj : j < 12 := hj
      simp (disch := omega) only [rw_k, rw_s, up_r]
      rw [show (12 : Int32).toNatClampNeg = 12 from rfl, cpy_at hj]
    | 4, _, hj =>
      have hj : j < 12 := hj
      simp (disch := omega) only [rw_k, rw_s, up_r]
      rw [show (12 : Int32).toNatClampNeg = 12 from rfl, cpy_at hj]
    | 5, _, hj =>
      have hj : j < 12 := hj
      simp (disch := omega) only [rw_k, rw_s, up_r]
      rw [show (12 : Int32).toNatClampNeg = 12 from rfl, cpy_at hj]
    | 6, _, hj =>
      have hj : j < 12 := hj
      simp (disch := omega) only [rw_k, rw_s, up_r]
      rw [show (12 : Int32).toNatClampNeg = 12 from rfl, cpy_at hj]
    | 7, _, hj =>
      have hj : j < 12 := hj
      simp (disch := omega) only [rw_k, rw_s, up_r]
      rw [show (12 : Int32).toNatClampNeg = 12 from rfl, cpy_at hj]
    | 8, _, hj =>
      have hj : j < 12 := hj
      simp (disch := omega) only [rw_k, rw_s, up_r]
      rw [show (12 : Int32).toNatClampNeg = 12 from rfl, cpy_at hj]
    | 9, _, hj =>
      have hj : j < 12 := hj
      simp (disch := omega) only [rw_k, rw_s, up_r]
      rw [show (12 : Int32).toNatClampNeg = 12 from rfl, cpy_at hj]
    | 10, _, hj =>
      have hj : j < 12 := hj
      simp (disch := omega) only [rw_k, rw_s, up_r]
      rw [show (12 : Int32).toNatClampNeg = 12 from rfl, cpy_at hj]
    | 11, _, hj =>
      have hj : j < 12 := hj
      simp (disch := omega) only [rw_k, rw_s, up_r]
      rw [show (12 : Int32).toNatClampNeg = 12 from rfl, cpy_at hj]
    | 12, _, hj =>
      have hj : j < 48 := hj
      simp (disch := omega) only [rw_k, rw_s, up_r]
      rw [show (48 : Int32).toNatClampNeg = 48 from rfl, cpy_at hj]
    | 13, _, hj =>
      have hj : j < 48 := hj
      simp (disch := omega) only [rw_k, rw_s, up_r]
      rw [show (48 : Int32).toNatClampNeg = 48 from rfl, cpy_at hj]
    | 14, _, hj =>
      have hj : j < 12 := hj
      simp (disch := omega) only [rw_k, rw_s, up_r]
      rw [show (12 : Int32).toNatClampNeg = 12 from rfl, cpy_at hj]
    | 15, _, hj =>
      have hj : j < 12 := hj
      simp (disch := omega) only [rw_k, rw_s, up_r]
      rw [show (12 : Int32).toNatClampNeg = 12 from rfl, cpy_at hj]
    | 16, _, hj =>
      have hj : j < 12 := hj
      simp (disch := omega) only [rw_k, rw_s, up_r]
      rw [show (12 : Int32).toNatClampNeg = 12 from rfl, cpy_at hj]
    | k + 17, h, _ => exact absurd h (by omega)
theorem X9_copy_loop (fr to : Nat) (h1 : fr + 283 ≤ 2547) (h2 : to + 283 ≤ 2547) (hd : fr + 283 ≤ to ∨ to + 283 ≤ fr) : ∀ (m i fuel : Nat) (S : St), i + m = 283 → m < fuel → ∃ S', f_X9_copy_2 fuel (nI fr) (nI to) (nI i) S = some S' ∧ (∀ k, k ≠ 28 → S'.1 k = S.1 k) ∧ (∀ j, S'.1 28 j = if to + i ≤ j ∧ j < to + 283 then S.1 28 (fr + (j - to)) else S.1 28 j) := by
  intro m
  induction m with
  | zero =>
    intro i fuel S hi hf
    obtain ⟨f, rfl⟩ : ∃ f, fuel = f + 1 := ⟨fuel - 1, by omega⟩
    obtain rfl : i = 283 := by omega
    refine ⟨S, ?_, fun _ _ => rfl, fun j => ?_⟩
    · unfold f_X9_copy_2
      rw [if_pos (show (283 : Int32) ≤ nI 283 from nI_le (a := 283) (by omega) (by omega))]
    · rw [if_neg (by omega)]
  | succ m ih =>
    intro i fuel S hi hf
    obtain ⟨f, rfl⟩ : ∃ f, fuel = f + 1 := ⟨fuel - 1, by omega⟩
    obtain ⟨S', e1, e2, e3⟩ := ih (i + 1) f (upI S 28 (to + i) (S.1 28 (fr + i))) (by omega) (by omega)
    refine ⟨S', ?_, fun k hk => ?_, fun j => ?_⟩
    · unfold f_X9_copy_2
      rw [if_neg (show ¬ (283 : Int32) ≤ nI i from nI_ge (b := 283) (by omega) (by omega)), nI_add, nI_add, ck_n (by omega) (by decide), ck_n (by omega) (by decide), lt_mk, nI_clamp (by omega), nI_clamp (by omega), nI_1]
      exact e1
    · rw [e2 k hk, up_r hk]
    · rw [e3 j]
      by_cases hj : j = to + i
      · subst hj
        rw [if_neg (by omega), if_pos (by omega), up_s, show to + i - to = i by omega]
      · by_cases hj2 : to + (i + 1) ≤ j ∧ j < to + 283
        · rw [if_pos hj2, if_pos (by omega), up_j (by omega)]
        · rw [if_neg hj2, if_neg (by omega), up_j hj]
theorem X9_copy {fr to : Nat} {x y : Int32} (hx : x = nI fr) (hy : y = nI to) (h1 : fr + 283 ≤ 2547) (h2 : to + 283 ≤ 2547) (hd : fr + 283 ≤ to ∨ to + 283 ≤ fr) (S : St) : ∃ S', f_X9_copy x y S = some S' ∧ (∀ k, k ≠ 28 → S'.1 k = S.1 k) ∧ (∀ i, i < 283 → S'.1 28 (to + i) = S.1 28 (fr + i)) ∧ (∀ j, j < to ∨ to + 283 ≤ j → S'.1 28 j = S.1 28 j) := by
  subst hx
  subst hy
  obtain ⟨S', e1, e2, e3⟩ := X9_copy_loop fr to h1 h2 hd 283 0 FU S (by omega) (by decide)
  refine ⟨S', ?_, e2, fun i hi => ?_, fun j hj => ?_⟩
  · unfold f_X9_copy
    exact e1
  · rw [e3, if_pos (by omega), show to + i - to = i by omega]
  · rw [e3, if_neg (by omega)]
theorem X9_shift_loop : ∀ (m i fuel : Nat) (S : St), i + m = 1415 → m < fuel → ∃ S', f_X9_minds_11 fuel (nI i) S = f_X9_minds_54 (upI S' 27 2 ((S.1 27 2) - 1)) ∧ (∀ k, k ≠ 28 → S'.1 k = S.1 k) ∧ (∀ j, S'.1 28 j = if 849 + i ≤ j ∧ j < 2264 then S.1 28 (j + 283) else S.1 28 j) := by
  intro m
  induction m with
  | zero =>
    intro i fuel S hi hf
    obtain ⟨f, rfl⟩ : ∃ f, fuel = f + 1 := ⟨fuel - 1, by omega⟩
    obtain rfl : i = 1415 := by omega
    refine ⟨S, ?_, fun _ _ => rfl, fun j => ?_⟩
    · unfold f_X9_minds_11
      rw [if_pos (show (1415 : Int32) ≤ nI 1415 from nI_le (a := 1415) (by omega) (by omega)), lt_mk]
    · rw [if_neg (by omega)]
  | succ m ih =>
    intro i fuel S hi hf
    obtain ⟨f, rfl⟩ : ∃ f, fuel = f + 1 := ⟨fuel - 1, by omega⟩
    obtain ⟨S', e1, e2, e3⟩ := ih (i + 1) f (upI S 28 (849 + i) (S.1 28 (1132 + i))) (by omega) (by omega)
    refine ⟨S', ?_, fun k hk => ?_, fun j => ?_⟩
    · unfold f_X9_minds_11
      rw [if_neg (show ¬ (1415 : Int32) ≤ nI i from nI_ge (b := 1415) (by omega) (by omega)), show (1132 : Int32) + nI i = nI (1132 + i) from nI_add 1132 i, show (849 : Int32) + nI i = nI (849 + i) from nI_add 849 i, ck_n (by omega) (by decide), ck_n (by omega) (by decide), lt_mk, nI_clamp (by omega), nI_clamp (by omega), nI_1, e1, up_k (by decide)]
    · rw [e2 k hk, up_r hk]
    · rw [e3 j]
      by_cases hj : j = 849 + i
      · subst hj
        rw [if_neg (by omega), if_pos (by omega), up_s, show 849 + i + 283 = 1132 + i by omega]
      · by_cases hj2 : 849 + (i + 1) ≤ j ∧ j < 2264
        · rw [if_pos hj2, if_pos (by omega), up_j (by omega)]
        · rw [if_neg hj2, if_neg (by omega), up_j hj]
/-- the reference minds: the rows behind it move up if there are six; the newest is now's -/
theorem X9_minds {kn : Nat} (hk : kn ≤ 6) (S : St) (h : S.1 27 2 = nI kn) : ∃ S', f_X9_minds S = some S' ∧ (∀ k, k ≠ 28 → k ≠ 27 → S'.1 k = S.1 k) ∧ (∀ j, j ≠ 2 → S'.1 27 j = S.1 27 j) ∧ (∀ j, j < 849 → S'.1 28 j = S.1 28 j) ∧
    (kn = 6 → S'.1 27 2 = nI 6 ∧ (∀ q i, q < 5 → i < 283 → S'.1 28 (849 + 283 * q + i) = S.1 28 (849 + 283 * (q + 1) + i)) ∧ ∀ i, i < 283 → S'.1 28 (849 + 283 * 5 + i) = S.1 28 i) ∧ (kn ≠ 6 → S'.1 27 2 = nI (kn + 1) ∧ (∀ q i, q < kn → i < 283 → S'.1 28 (849 + 283 * q + i) = S.1 28 (849 + 283 * q + i)) ∧ ∀ i, i < 283 → S'.1 28 (849 + 283 * kn + i) = S.1 28 i) := by
  unfold f_X9_minds
  by_cases h6 : kn = 6
  · subst h6
    rw [h, if_pos (show nI 6 = 6 from rfl)]
    obtain ⟨S1, e1, e2, e3⟩ := X9_shift_loop 1415 0 FU S (by omega) (by decide)
    have e1' : f_X9_minds_11 FU 0 S = f_X9_minds_54 (upI S1 27 2 ((S.1 27 2) - 1)) := e1
    rw [e1', h, show nI 6 - 1 = nI 5 from rfl]
    unfold f_X9_minds_54
    obtain ⟨S2, g1, g2, g3, g4⟩ := X9_copy (x := 0) (y := 849 + 283 * nI 5) (fr := 0) (to := 849 + 283 * 5) rfl rfl (by omega) (by omega) (by omega) (upI S1 27 2 (nI 5))
    rw [up_s, g1, bdV_mk, lt_mk, g2 27 (by decide), up_s]
    refine ⟨_, rfl, fun k h1 h2 => ?_, fun j hj => ?_, fun j hj => ?_, fun _ => ⟨?_, fun q i hq hi => ?_, fun i hi => ?_⟩, fun z => absurd rfl z⟩
    · rw [up_r h2, g2 k h1, up_r h2, e2 k h1]
    · rw [up_j hj, g2 27 (by decide), up_j hj, e2 27 (by decide)]
    · rw [up_k (by decide), g4 j (by omega), up_k (by decide), e3, if_neg (by omega)]
    · rw [up_s]; rfl
    · rw [up_k (by decide), g4 _ (by omega), up_k (by decide), e3, if_pos (by omega), show 849 + 283 * q + i + 283 = 849 + 283 * (q + 1) + i by omega]
    · rw [up_k (by decide), g3 i hi, up_k (by decide), e3, if_neg (by omega), Nat.zero_add]
  · rw [h, if_neg (show ¬ nI kn = 6 from fun z => h6 (nI_inj (b := 6) (by omega) (by omega) z))]
    unfold f_X9_minds_54
    obtain ⟨S2, g1, g2, g3, g4⟩ := X9_copy (x := 0) (y := 849 + 283 * nI kn) (fr := 0) (to := 849 + 283 * kn) rfl (by rw [show (283 : Int32) = nI 283 from rfl, pk_mul]; exact nI_add 849 _) (by omega) (by omega) (by omega) S
    rw [h, g1, bdV_mk, lt_mk, g2 27 (by decide), h, nI_1]
    refine ⟨_, rfl, fun k h1 h2 => ?_, fun j hj => ?_, fun j hj => ?_, fun z => absurd z h6, fun _ => ⟨?_, fun q i hq hi => ?_, fun i hi => ?_⟩⟩
    · rw [up_r h2, g2 k h1]
    · rw [up_j hj, g2 27 (by decide)]
    · rw [up_k (by decide), g4 j (by omega)]
    · rw [up_s]
    · rw [up_k (by decide), g4 _ (by omega)]
    · rw [up_k (by decide), g3 i hi, Nat.zero_add]
/-- the class remembers: now's numbers go into the ring's next row -/
theorem X1_remember {kn nx : Nat} (hk : kn ≤ 6) (hn : nx < 6) (S : St) (h1 : S.1 17 1 = nI nx) (h2 : S.1 17 2 = nI kn) : ∃ S', f_X1_remember S = some S' ∧ (∀ k, k ≠ 17 → (k < 59 + 17 * nx ∨ 59 + 17 * nx + 17 ≤ k) → S'.1 k = S.1 k) ∧ (∀ k j, k < 17 → tq k j → S'.1 (59 + 17 * nx + k) j = S.1 (42 + k) j) ∧ S'.1 17 1 = nI ((nx + 1) % 6) ∧ S'.1 17 2 = nI (if kn = 6 then 6 else kn + 1) := by
  unfold f_X1_remember f_X1_remember_42
  obtain ⟨S1, g1, g2, g3⟩ := X7_copyFrom (59 + 17 * nx) 42 (by omega) S
  rw [h1, ck_n hn (by decide), nI_clamp (by omega), g1, bdV_mk, g2 17 (by omega), h1]
  simp only [lt_mk, nI_1]
  by_cases hx : nx = 5
  · subst hx
    rw [if_pos (show (6 : Int32) ≤ nI (5 + 1) from by decide)]
    refine ⟨_, rfl, fun k a1 a2 => ?_, fun k j a1 a2 => ?_, ?_, ?_⟩
    · rw [up_r a1, up_r a1, g2 k a2]
    · rw [up_k (by omega), up_k (by omega), g3 k j a1 a2]
    · rw [up_j (by decide), up_s]; rfl
    · rw [up_s, up_j (by decide), g2 17 (by omega), h2, nI_1]
      by_cases hk6 : kn = 6
      · subst hk6; rfl
      · rw [if_neg hk6, if_neg (show ¬ (6 : Int32) < nI (kn + 1) from nI_nlt (a := 6) (by omega) (by omega))]
  · rw [if_neg (show ¬ (6 : Int32) ≤ nI (nx + 1) from nI_ge (b := 6) (by omega) (by omega))]
    refine ⟨_, rfl, fun k a1 a2 => ?_, fun k j a1 a2 => ?_, ?_, ?_⟩
    · rw [up_r a1, up_r a1, g2 k a2]
    · rw [up_k (by omega), up_k (by omega), g3 k j a1 a2]
    · rw [up_j (by decide), up_s]
      congr 1
      omega
    · rw [up_s, up_j (by decide), g2 17 (by omega), h2, nI_1]
      by_cases hk6 : kn = 6
      · subst hk6; rfl
      · rw [if_neg hk6, if_neg (show ¬ (6 : Int32) < nI (kn + 1) from nI_nlt (a := 6) (by omega) (by omega))]
