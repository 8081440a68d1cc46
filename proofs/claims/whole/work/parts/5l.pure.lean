/-! ===== a deed: the relation behind it ===== -/
theorem deed {nc : Nat} {S Sa Sb Sc Sd : St} (hr : Rl nc S.1) (ra : f_X1_remember S = some Sa) (rb : ∀ k, k ≠ 17 → k < 59 ∨ 161 ≤ k → Sa.1 k = S.1 k)
    (xb : ∀ k, (k < 14 ∨ (16 < k ∧ k < 42) ∨ 59 ≤ k) → Sb.1 k = Sa.1 k) (x14 : Sb.1 14 4 = 0) (ma : f_X9_minds Sb = some Sc)
    (mk : ∀ k, k ≠ 27 → k ≠ 28 → k ≠ 40 → Sd.1 k = Sc.1 k) (m27 : ∀ j, j < 25 → Sd.1 27 j = Sc.1 27 j) (m25 : Sd.1 27 25 = 0) (m28 : ∀ j, 283 ≤ j → Sd.1 28 j = Sc.1 28 j) (now : TR nc Sd.1 42 0) : Rl nc Sd.1 := by
  obtain ⟨h1, h2, h3, h4, h5, h6, h7⟩ := hr
  have b27 : Sb.1 27 = S.1 27 := by rw [xb 27 (by omega), rb 27 (by omega) (by omega)]
  have b28 : Sb.1 28 = S.1 28 := by rw [xb 28 (by omega), rb 28 (by omega) (by omega)]
  obtain ⟨Sc', c1, c2, c3, c4⟩ := minds_ok (Sb := Sb) h5 (by rw [b27])
  obtain rfl : Sc' = Sc := by rw [c1] at ma; exact Option.some.inj ma
  have keep : ∀ k, k ≠ 17 → k ≠ 27 → k ≠ 28 → k ≠ 40 → (k < 14 ∨ (16 < k ∧ k < 42) ∨ 161 ≤ k) → Sd.1 k = S.1 k := fun k a1 a2 a3 a4 a5 => by
    rw [mk k a2 a3 a4, c2 k a3 a2, xb k (by omega), rb k a1 (by omega)]
  have k27 : ∀ j, j < 25 → j ≠ 2 → Sd.1 27 j = S.1 27 j := fun j a1 a2 => by rw [m27 j a1, c3 j a2, b27]
  have k28 : ∀ j, 283 ≤ j → j < 849 → Sd.1 28 j = S.1 28 j := fun j a1 a2 => by rw [m28 j a1, c4 j a2, b28]
  refine ⟨h1.keep ?_ ?_ ?_ ?_ ?_ ?_ ?_ (k27 8 (by decide) (by decide)), h2.keep (by rw [keep 1 (by decide) (by decide) (by decide) (by decide) (by decide)]) ?_ ?_ (k27 7 (by decide) (by decide)), h3.keep ?_ ?_ ?_ ?_ ?_ (k27 5 (by decide) (by decide)), now, push h5 h4 ra b28 (by rw [b27]) c1 (fun k a1 a2 => ?_) ?_ (m27 2 (by decide)) (fun j hj => m28 j (by omega)), ?_, ?_⟩
  case refine_15 => rw [mk k (by omega) (by omega) (by omega), c2 k (by omega) (by omega), xb k (by omega)]
  case refine_16 => rw [mk 17 (by decide) (by decide) (by decide), c2 17 (by decide) (by decide), xb 17 (by decide)]
  case refine_17 =>
    intro i hi
    obtain ⟨p1, p2⟩ := h6 i hi
    rw [keep 21 (by decide) (by decide) (by decide) (by decide) (by decide), keep 29 (by decide) (by decide) (by decide) (by decide) (by decide)]
    refine ⟨p1, ?_⟩
    rcases p2 with p2 | ⟨p2, p3⟩
    · exact Or.inl p2
    · exact Or.inr ⟨p2, p3.far (fun k b1 b2 => keep k (by omega) (by omega) (by omega) (by omega) (by omega)) (fun j b1 b2 => k28 j (by omega) (by omega))⟩
  case refine_18 => exact ⟨by rw [mk 14 (by decide) (by decide) (by decide), c2 14 (by decide) (by decide), x14], m25⟩
  all_goals exact keep _ (by decide) (by decide) (by decide) (by decide) (by decide)
theorem X7_tally {c q : Nat} (hc : c < 4) (hq : q < 6) {y : Int32} (hy : y = nI q) (S : St) : f_X7_tallyOne (nI c) y S = some (upI S 44 (6 * c + q) (S.1 44 (6 * c + q) + 1)) := by
  subst hy
  unfold f_X7_tallyOne
  have e : nI c * 6 + nI q = nI (6 * c + q) := by rw [show (6 : Int32) = nI 6 from rfl, pk_mul, nI_add, Nat.mul_comm]
  rw [e, ck_n (by omega) (by decide), ck_n (by omega) (by decide), lt_mk, nI_clamp (by omega)]
theorem X9_counts {c q : Nat} (hc : c < 4) (hq : q < 6) {y : Int32} (hy : y = nI (6 + q)) (S : St) : f_X9_counts (nI c) y S = some (upI S 28 (220 + (6 * c + q)) (S.1 28 (220 + (6 * c + q)) + 1)) := by
  subst hy
  unfold f_X9_counts
  rw [ix220 c (6 + q) (by omega), show 6 + q - 6 = q by omega, ck_n (by omega) (by decide), ck_n (by omega) (by decide), lt_mk, nI_clamp (by omega)]
theorem lowest_loop (i0 : Nat) (hi : i0 < 12) (S : St) (h0 : S.1 45 i0 = -9) (hl : ∀ j, j < i0 → ¬ S.1 45 j = -9) : ∀ (m i fuel : Nat), i + m = i0 → m < fuel → f_X7_lowestAbsent_2 fuel (nI i) S = some (nI i0, S) := by
  intro m
  induction m with
  | zero =>
    intro i fuel h1 h2
    obtain ⟨f, rfl⟩ : ∃ f, fuel = f + 1 := ⟨fuel - 1, by omega⟩
    obtain rfl : i = i0 := by omega
    unfold f_X7_lowestAbsent_2
    rw [if_neg (show ¬ (12 : Int32) ≤ nI i from nI_ge (b := 12) hi (by omega)), ck_n hi (by decide), nI_clamp (by omega), if_pos h0]
  | succ m ih =>
    intro i fuel h1 h2
    obtain ⟨f, rfl⟩ : ∃ f, fuel = f + 1 := ⟨fuel - 1, by omega⟩
    unfold f_X7_lowestAbsent_2
    rw [if_neg (show ¬ (12 : Int32) ≤ nI i from nI_ge (b := 12) (by omega) (by omega)), ck_n (by omega) (by decide), nI_clamp (by omega), if_neg (hl i (by omega)), nI_1]
    exact ih (i + 1) f (by omega) (by omega)
theorem lowest_none_loop (S : St) (hl : ∀ j, j < 12 → ¬ S.1 45 j = -9) : ∀ (m i fuel : Nat), i + m = 12 → m < fuel → f_X7_lowestAbsent_2 fuel (nI i) S = some (-9, S) := by
  intro m
  induction m with
  | zero =>
    intro i fuel h1 h2
    obtain ⟨f, rfl⟩ : ∃ f, fuel = f + 1 := ⟨fuel - 1, by omega⟩
    obtain rfl : i = 12 := by omega
    unfold f_X7_lowestAbsent_2
    rw [if_pos (show (12 : Int32) ≤ nI 12 from nI_le (a := 12) (by omega) (by omega))]
  | succ m ih =>
    intro i fuel h1 h2
    obtain ⟨f, rfl⟩ : ∃ f, fuel = f + 1 := ⟨fuel - 1, by omega⟩
    unfold f_X7_lowestAbsent_2
    rw [if_neg (show ¬ (12 : Int32) ≤ nI i from nI_ge (b := 12) (by omega) (by omega)), ck_n (by omega) (by decide), nI_clamp (by omega), if_neg (hl i (by omega)), nI_1]
    exact ih (i + 1) f (by omega) (by omega)
theorem X7_lowest {i0 : Nat} (hi : i0 < 12) (S : St) (h0 : S.1 45 i0 = -9) (hl : ∀ j, j < i0 → ¬ S.1 45 j = -9) : f_X7_lowestAbsent S = some (nI i0, S) := by
  unfold f_X7_lowestAbsent
  exact lowest_loop i0 hi S h0 hl i0 0 FU (by omega) (by show i0 < 3000; omega)
theorem X7_lowest_none (S : St) (hl : ∀ j, j < 12 → ¬ S.1 45 j = -9) : f_X7_lowestAbsent S = some (-9, S) := by
  unfold f_X7_lowestAbsent
  exact lowest_none_loop S hl 12 0 FU (by omega) (by decide)
theorem clear_loop {i : Nat} (hi : i < 12) : ∀ (m d fuel : Nat) (S : St), d + m = 4 → m < fuel → ∃ T, f_X7_clearStreaks_2 fuel (nI i) (nI d) S = some T ∧ (∀ k, k ≠ 55 → T.1 k = S.1 k) ∧ (∀ j, T.1 55 j = if 4 * i + d ≤ j ∧ j < 4 * i + 4 then 0 else S.1 55 j) := by
  intro m
  induction m with
  | zero =>
    intro d fuel S h1 h2
    obtain ⟨f, rfl⟩ : ∃ f, fuel = f + 1 := ⟨fuel - 1, by omega⟩
    obtain rfl : d = 4 := by omega
    refine ⟨S, ?_, fun _ _ => rfl, fun j => by rw [if_neg (by omega)]⟩
    unfold f_X7_clearStreaks_2
    rw [if_pos (show (4 : Int32) ≤ nI 4 from nI_le (a := 4) (by omega) (by omega))]
  | succ m ih =>
    intro d fuel S h1 h2
    obtain ⟨f, rfl⟩ : ∃ f, fuel = f + 1 := ⟨fuel - 1, by omega⟩
    obtain ⟨T, e1, e2, e3⟩ := ih (d + 1) f (upI S 55 (4 * i + d) 0) (by omega) (by omega)
    refine ⟨T, ?_, fun k hk => by rw [e2 k hk, up_r hk], fun j => ?_⟩
    · unfold f_X7_clearStreaks_2
      rw [if_neg (show ¬ (4 : Int32) ≤ nI d from nI_ge (b := 4) (by omega) (by omega)), ix4, ck_n (by omega) (by decide), lt_mk, nI_clamp (by omega), nI_1]
      exact e1
    · rw [e3 j]
      by_cases hj : j = 4 * i + d
      · subst hj
        rw [if_neg (by omega), if_pos (by omega), up_s]
      · rw [up_j hj]
        by_cases hj2 : 4 * i + (d + 1) ≤ j ∧ j < 4 * i + 4
        · rw [if_pos hj2, if_pos (by omega)]
        · rw [if_neg hj2, if_neg (by omega)]
theorem X7_clearStreaks {i : Nat} (hi : i < 12) (S : St) : ∃ T, f_X7_clearStreaks (nI i) S = some T ∧ (∀ k, k ≠ 55 → T.1 k = S.1 k) ∧ (∀ j, T.1 55 j = if 4 * i ≤ j ∧ j < 4 * i + 4 then 0 else S.1 55 j) := by
  obtain ⟨T, e1, e2, e3⟩ := clear_loop hi 4 0 FU S (by omega) (by decide)
  refine ⟨T, ?_, e2, e3⟩
  unfold f_X7_clearStreaks
  exact e1
theorem appear_loop {i c : Nat} (hi : i < 12) (hc : c < 4) (v : Int32) : ∀ (m d fuel : Nat) (S : St), d + m = 4 → m < fuel → ∃ T, f_X7_appear_68 fuel (nI i) (nI c) v (nI d) S = some T ∧ (∀ k, k ≠ 54 → k ≠ 55 → T.1 k = S.1 k) ∧ (∀ j, T.1 54 j = if 4 * i + d ≤ j ∧ j < 4 * i + 4 then (if j = 4 * i + c then 64 * v else 0) else S.1 54 j) ∧ (∀ j, T.1 55 j = if 4 * i ≤ j ∧ j < 4 * i + 4 then 0 else S.1 55 j) := by
  intro m
  induction m with
  | zero =>
    intro d fuel S h1 h2
    obtain ⟨f, rfl⟩ : ∃ f, fuel = f + 1 := ⟨fuel - 1, by omega⟩
    obtain rfl : d = 4 := by omega
    obtain ⟨T, e1, e2, e3⟩ := X7_clearStreaks hi S
    refine ⟨T, ?_, fun k _ hk => e2 k hk, fun j => by rw [if_neg (by omega), e2 54 (by decide)], e3⟩
    unfold f_X7_appear_68
    rw [if_pos (show (4 : Int32) ≤ nI 4 from nI_le (a := 4) (by omega) (by omega)), e1, bdV_mk]
  | succ m ih =>
    intro d fuel S h1 h2
    obtain ⟨f, rfl⟩ : ∃ f, fuel = f + 1 := ⟨fuel - 1, by omega⟩
    obtain ⟨T, e1, e2, e3, e4⟩ := ih (d + 1) f (upI S 54 (4 * i + d) (if d = c then 64 * v else 0)) (by omega) (by omega)
    refine ⟨T, ?_, fun k hk hk2 => by rw [e2 k hk hk2, up_r hk], fun j => ?_, fun j => by rw [e4 j, up_k (by decide)]⟩
    · unfold f_X7_appear_68 f_X7_appear_98
      rw [if_neg (show ¬ (4 : Int32) ≤ nI d from nI_ge (b := 4) (by omega) (by omega)), ix4, ck_n (by omega) (by decide), ck_n (by omega) (by decide), lt_mk, lt_mk, nI_clamp (by omega), nI_1]
      by_cases hd : d = c
      · subst hd
        rw [if_pos rfl]
        rw [if_pos rfl] at e1
        exact e1
      · rw [if_neg (fun z => hd (nI_inj (by omega) (by omega) z))]
        rw [if_neg hd] at e1
        exact e1
    · rw [e3 j]
      by_cases hj : j = 4 * i + d
      · subst hj
        rw [if_neg (show ¬ (4 * i + (d + 1) ≤ 4 * i + d ∧ 4 * i + d < 4 * i + 4) by omega), if_pos (show 4 * i + d ≤ 4 * i + d ∧ 4 * i + d < 4 * i + 4 by omega), up_s]
        by_cases hd : d = c
        · subst hd
          rw [if_pos rfl, if_pos rfl]
        · rw [if_neg hd, if_neg (show ¬ 4 * i + d = 4 * i + c by omega)]
      · rw [up_j hj]
        by_cases hj2 : 4 * i + (d + 1) ≤ j ∧ j < 4 * i + 4
        · rw [if_pos hj2, if_pos (show 4 * i + d ≤ j ∧ j < 4 * i + 4 by omega)]
        · rw [if_neg hj2, if_neg (c := 4 * i + d ≤ j ∧ j < 4 * i + 4) (by omega)]
theorem X7_appear {i c : Nat} (hi : i < 12) (hc : c < 4) (v : Int32) (S : St) : ∃ T, f_X7_appear (nI i) (nI c) v S = some T ∧ (∀ k, k < 45 ∨ 55 < k → T.1 k = S.1 k) ∧ (∀ k j, 45 ≤ k → k < 54 → j ≠ i → T.1 k j = S.1 k j) ∧ (T.1 45 i = nI c ∧ T.1 46 i = -9 ∧ T.1 47 i = 0 ∧ T.1 48 i = 0 ∧ T.1 49 i = 0 ∧ T.1 50 i = 0 ∧ T.1 51 i = 0 ∧ T.1 52 i = 0 ∧ T.1 53 i = -9) ∧ (∀ j, T.1 54 j = if 4 * i ≤ j ∧ j < 4 * i + 4 then (if j = 4 * i + c then 64 * v else 0) else S.1 54 j) ∧ (∀ j, T.1 55 j = if 4 * i ≤ j ∧ j < 4 * i + 4 then 0 else S.1 55 j) := by
  unfold f_X7_appear
  simp only [ck_n hi (show 12 < 2 ^ 31 by decide), lt_mk, nI_clamp (show i < 2 ^ 31 by omega)]
  obtain ⟨T, e1, e2, e3, e4⟩ := appear_loop hi hc v 4 0 FU (upI (upI (upI (upI (upI (upI (upI (upI (upI S 45 i (nI c)) 46 i (-9)) 47 i 0) 48 i 0) 49 i 0) 50 i 0) 51 i 0) 52 i 0) 53 i (-9)) (by omega) (by decide)
  refine ⟨T, e1, fun k hk => ?_, fun k j h1 h2 hj => ?_, ?_, fun j => ?_, fun j => ?_⟩
  · rw [e2 k (by omega) (by omega)]
    simp (disch := omega) only [up_r]
  · rw [e2 k (by omega) (by omega)]
    simp only [up_e]
    simp [hj]
  · simp only [e2 45 (by decide) (by decide), e2 46 (by decide) (by decide), e2 47 (by decide) (by decide), e2 48 (by decide) (by decide), e2 49 (by decide) (by decide), e2 50 (by decide) (by decide), e2 51 (by decide) (by decide), e2 52 (by decide) (by decide), e2 53 (by decide) (by decide)]
    simp [up_e]
  · rw [e3 j]
    simp (disch := omega) only [up_r, Nat.add_zero]
  · rw [e4 j]
    simp (disch := omega) only [up_r]
