/-! ===== cell, pair, count ===== -/
theorem ix220 (c q : Nat) (hq : 6 ≤ q) : ((220 : Int32) + (6 * nI c)) + nI q - 6 = nI (220 + (6 * c + (q - 6))) := by
  rw [show (6 : Int32) = nI 6 from rfl, show (220 : Int32) = nI 220 from rfl, pk_mul, nI_add, nI_add, pk_sub (by omega)]
  congr 1
  omega
theorem ix6 (c q : Nat) (hq : 6 ≤ q) : (nI c * 6) + nI q - 6 = nI (6 * c + (q - 6)) := by
  rw [show (6 : Int32) = nI 6 from rfl, pk_mul, nI_add, pk_sub (by omega)]
  congr 1
  omega
theorem now_tally {nc : Nat} {A : Nat → Nat → Int32} (h4 : TR nc A 42 0) {i : Nat} (hi : i < 24) : A 44 i = A 28 (220 + i) := (now_of h4).1.2.2.2 i hi
theorem now_guard {nc : Nat} {A : Nat → Nat → Int32} (h4 : TR nc A 42 0) {c : Nat} (hc : c < 4) (hc' : c < nc) : A 43 c = A 28 (216 + c) := (now_of h4).1.2.2.1 c hc hc'
theorem X7_busy {c : Int32} (S : St) : f_X7_busy c S = some (nI (cn (fun k => decide (S.1 45 k = c)) 12), S) := by
  unfold f_X7_busy
  rw [X7_callsOf, bd_mk]
theorem X7_waiting {c : Int32} (S : St) : f_X7_waiting c S = some (nI (cn (fun k => decide (S.1 46 k = c)) 12), S) := by
  unfold f_X7_waiting
  rw [X7_callsOf, bd_mk]
theorem sim_cell (x y : Int32) : Sim (f_X8_cell x y) (f_X9_cell x y) := by
  refine sim_ask (fun nc S ⟨h1, h2, h3, h4, h5, h6, h7⟩ => ?_)
  have hnc := h1.1
  unfold f_X8_cell f_X9_cell f_X9_cell_20 f_X8_cell_141
  rcases cell_cases h1 x with ⟨e1, e2⟩ | ⟨c, hc, hc4, rfl, e1, e2⟩
  · rw [e1, e2 S rfl]
    exact ⟨-1, rfl, rfl⟩
  · rw [e1, e2 S rfl, bd_mk, bd_mk, if10, if10]
    obtain ⟨t1, t2, t3, t4⟩ := h1.2.2.2.1 c hc
    have i32_11 : (11 : Int32).toInt = 11 := by decide
    rcases toInt_cases y 12 (by decide) with hy | ⟨q, hq, rfl⟩
    · rw [sw_out (by omega), X8_w0 (by rw [i32_6, i32_11]; omega), X9_i0 (by rw [i64_0, i64_11]; omega)]
      exact ⟨-1, rfl, rfl⟩
    · rw [X9_i1 (by rw [i64_0, i64_11, nI_toInt (by omega)]; omega), bd_mk, if10]
      by_cases hq6 : 6 ≤ q
      · rw [sw_out (by right; rw [nI_toInt (by omega)]; omega), sw_out (by right; rw [nI_toInt (by omega)]; omega), X8_w1 (by rw [i32_6, i32_11, nI_toInt (by omega)]; omega), bd_mk, if10, ix6 c q hq6, ix220 c q hq6, ck_n (by omega) (by decide), ck_n (by omega) (by decide), nI_clamp (by omega), nI_clamp (by omega)]
        exact ⟨_, rfl, by rw [now_tally h4 (by omega)]⟩
      · rw [sw_n (by omega) (by omega), sw_n (by omega) (by omega)]
        match q, hq6 with
        | 0, _ => exact ⟨S.1 10 c, by show ck _ _ _ = _; rw [ck_n hc4 (by decide), nI_clamp (by omega)], by show ck _ _ _ = _; rw [ck_n hc4 (by decide), nI_clamp (by omega), t1]⟩
        | 1, _ => exact ⟨S.1 43 c, by show ck _ _ _ = _; rw [ck_n hc4 (by decide), nI_clamp (by omega)], by show ck _ _ _ = _; rw [ix216, ck_n (by omega) (by decide), nI_clamp (by omega), now_guard h4 hc4 hc]⟩
        | 2, _ => exact ⟨S.1 12 c, by show ck _ _ _ = _; rw [ck_n hc4 (by decide), nI_clamp (by omega)], by show ck _ _ _ = _; rw [ck_n hc4 (by decide), nI_clamp (by omega), t3]⟩
        | 3, _ => exact ⟨_, by show bd _ _ = _; rw [X7_busy, bd_mk], by show bd _ _ = _; rw [X9_busy, bd_mk, busy_eq hnc h4 hc]⟩
        | 4, _ => exact ⟨_, by show bd _ _ = _; rw [X7_waiting, bd_mk], by show bd _ _ = _; rw [X9_waiting, bd_mk, waiting_eq hnc h4 hc]⟩
        | 5, _ => exact ⟨_, by show bd _ _ = _; rw [X0_chanceOf hc4, bd_mk], by show bd _ _ = _; rw [X9_chance h1 h4 hc rfl rfl, bd_mk]⟩
        | q + 6, h => exact absurd (by omega) h
theorem ix245 (i q : Nat) : ((245 : Int32) + (3 * nI i)) + nI q = nI (245 + 3 * i + q) := by
  rw [show (3 : Int32) = nI 3 from rfl, show (245 : Int32) = nI 245 from rfl, pk_mul, nI_add, nI_add]
theorem now_pairs {nc : Nat} {A : Nat → Nat → Int32} (h4 : TR nc A 42 0) : ∃ np, np ≤ 12 ∧ A 42 15 = nI np ∧ A 28 244 = nI np ∧ (∀ i, i < np → A 56 i = A 28 (245 + 3 * i) ∧ A 57 i = A 28 (246 + 3 * i) ∧ A 58 i = A 28 (247 + 3 * i) ∧ ∃ f t, f < nc ∧ t < nc ∧ f ≠ t ∧ A 56 i = nI f ∧ A 57 i = nI t) ∧ ∀ i j, i < j → j < np → ¬ (A 56 i = A 56 j ∧ A 57 i = A 57 j) := (now_of h4).2.2
theorem sim_pair (x y : Int32) : Sim (f_X8_pair x y) (f_X9_pair x y) := by
  refine sim_ask (fun nc S ⟨h1, h2, h3, h4, h5, h6, h7⟩ => ?_)
  obtain ⟨np, hnp, b1, b2, b3, -⟩ := now_pairs h4
  unfold f_X8_pair f_X9_pair f_X8_pair_13 f_X9_pair_16 f_X8_pair_32 f_X9_pair_49 f_X8_pair_75
  by_cases hx0 : x < 0
  · rw [if_pos hx0, if_pos hx0]
    exact ⟨-1, rfl, rfl⟩
  · rw [if_neg hx0, if_neg hx0]
    rcases toInt_cases y 3 (by decide) with hy | ⟨q, hq, rfl⟩
    · rw [X8_w0 (by rw [i32_0, i32_2]; omega), X9_i0 (by rw [i64_0, i64_2]; omega)]
      exact ⟨-1, rfl, rfl⟩
    · rw [X8_w1 (by rw [i32_0, i32_2, nI_toInt (by omega)]; omega), X9_i1 (by rw [i64_0, i64_2, nI_toInt (by omega)]; omega), bd_mk, bd_mk, if10, if10, show (244 : Int32) = nI 244 from rfl, ck_n (by decide) (by decide), nI_clamp (by decide), b1, b2]
      by_cases hp : nI np ≤ x
      · rw [if_pos hp, if_pos hp]
        exact ⟨-9, rfl, rfl⟩
      · rw [if_neg hp, if_neg hp]
        have hx1 : 0 ≤ x.toInt ∧ x.toInt < np := by
          rw [Int32.lt_iff_toInt_lt, i32_0] at hx0
          rw [Int32.le_iff_toInt_le, nI_toInt (by omega)] at hp
          omega
        obtain ⟨i, hi, rfl⟩ := vp_in_of (vp_in_iff.mpr hx1) (by omega)
        obtain ⟨c1, c2, c3, -⟩ := b3 i hi
        rw [if_pos (show nI i < 12 from nI_lt (b := 12) (by omega) (by omega)), ix245, ck_n (n := 245 + 3 * i + q) (by omega) (by decide), nI_clamp (show 245 + 3 * i + q < 2 ^ 31 by omega)]
        simp only [ck_n (ρ := Int32 × St) (show i < 12 by omega) (show 12 < 2 ^ 31 by decide), nI_clamp (show i < 2 ^ 31 by omega)]
        match q, hq with
        | 0, _ => exact ⟨S.1 56 i, rfl, by rw [c1]; rfl⟩
        | 1, _ => exact ⟨S.1 57 i, rfl, by rw [c2, show 245 + 3 * i + 1 = 246 + 3 * i by omega]⟩
        | 2, _ => exact ⟨S.1 58 i, rfl, by rw [c3, show 245 + 3 * i + 2 = 247 + 3 * i by omega]⟩
        | q + 3, h => exact absurd h (by omega)
theorem sim_count (x : Int32) : Sim (f_X8_count x) (f_X9_count x) := by
  refine sim_ask (fun nc S ⟨h1, ⟨len, t1, t2, t3, t4⟩, ⟨sn, s1, s2, s3, s4⟩, h4, ⟨kn, nx, k1, k2, k3, k4, k5, k6⟩, h6, h7⟩ => ?_)
  have hnc := h1.1
  have hset := h1.2.2.2.2.1
  obtain ⟨np, hnp, b1, b2, -⟩ := now_pairs h4
  unfold f_X8_count f_X9_count f_X8_count_120 f_X9_count_74 f_X8_count_146
  have e6 : (6 : Int32).toInt = 6 := by decide
  rcases toInt_cases x 12 (by decide) with hx | ⟨q, hq, rfl⟩
  · rw [sw_out (by omega), sw_out (by omega), X8_w0 (by rw [i32_2, e6]; omega)]
    exact ⟨_, rfl, rfl⟩
  · rw [sw_n (by omega) (by omega), sw_n (by omega) (by omega)]
    have hs : ∀ q, 2 ≤ q → q ≤ 6 → (bd (f_X8_within (nI q) 2 6 S) fun v4 S3 => if v4 = 0 then some ((-1000000 : Int32), S3) else ck (nI q - 2) 5 (some (S3.1 13 (nI q - 2).toNatClampNeg, S3))) = some (S.1 13 (q - 2), S) ∧ ck (nI q - 1) 6 (some (S.1 35 (nI q - 1).toNatClampNeg, S)) = some (S.1 13 (q - 2), S) := by
      intro q h1 h2
      rw [X8_w1 (by rw [i32_2, e6, nI_toInt (by omega)]; omega), bd_mk, if10, show (2 : Int32) = nI 2 from rfl, show (1 : Int32) = nI 1 from rfl, pk_sub (by omega), pk_sub (by omega), ck_n (by omega) (by decide), ck_n (by omega) (by decide), nI_clamp (by omega), nI_clamp (by omega), hset (q - 2) (by omega)]
      rw [show q - 2 + 1 = q - 1 by omega]
      exact ⟨rfl, rfl⟩
    match q, hq with
    | 0, _ => exact ⟨nI nc, by show some _ = _; rw [h1.2.1], by show some _ = _; rw [h1.2.2.1]⟩
    | 1, _ => exact ⟨_, by show bd _ _ = _; rw [X7_present hnc h4, bd_mk], by show bd _ _ = _; rw [X9_calls_ok h4 rfl, bd_mk]⟩
    | 2, _ => exact ⟨_, (hs 2 (by decide) (by decide)).1, (hs 2 (by decide) (by decide)).2⟩
    | 3, _ => exact ⟨_, (hs 3 (by decide) (by decide)).1, (hs 3 (by decide) (by decide)).2⟩
    | 4, _ => exact ⟨_, (hs 4 (by decide) (by decide)).1, (hs 4 (by decide) (by decide)).2⟩
    | 5, _ => exact ⟨_, (hs 5 (by decide) (by decide)).1, (hs 5 (by decide) (by decide)).2⟩
    | 6, _ => exact ⟨_, (hs 6 (by decide) (by decide)).1, (hs 6 (by decide) (by decide)).2⟩
    | 7, _ => exact ⟨S.1 42 0, rfl, by show ck (nI 281) _ _ = _; rw [ck_n (by decide) (by decide), show S.1 28 (281 : Int32).toNatClampNeg = S.1 42 0 from (now_of h4).1.1.symm]⟩
    | 8, _ => exact ⟨nI sn, by show some _ = _; rw [s2], by show some _ = _; rw [s3]⟩
    | 9, _ => exact ⟨nI len, by show some _ = _; rw [t2], by show some _ = _; rw [t3]⟩
    | 10, _ => exact ⟨nI kn, by show some _ = _; rw [k3], by show some _ = _; rw [k4]⟩
    | 11, _ => exact ⟨nI np, by show some _ = _; rw [b1], by show ck (nI 244) _ _ = _; rw [ck_n (by decide) (by decide), show S.1 28 (244 : Int32).toNatClampNeg = nI np from b2]⟩
    | q + 12, h => exact absurd h (by omega)
