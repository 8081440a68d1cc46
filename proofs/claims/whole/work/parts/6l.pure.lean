/-! ===== tells: all begins anew ===== -/
theorem cl4c : (4 : Int32).toNatClampNeg = 4 := by decide
theorem img_forget (S : St) : f_X2_forgetAll S = some (upI (upI S 21 0 0) 21 1 0) := by
  unfold f_X2_forgetAll
  rw [show f_X2_forgetAll_2 FU 0 S = f_X2_forgetAll_2 (2997 + 1 + 1 + 1) (nI 0) S from rfl, f_X2_forgetAll_2, if_neg (by decide), ck_n (by decide) (by decide), lt_mk, nI_1, f_X2_forgetAll_2, if_neg (by decide), ck_n (by decide) (by decide), lt_mk, nI_1, f_X2_forgetAll_2, if_pos (by decide), nar_0, nI_clamp (by decide), nI_clamp (by decide)]
/-- the class begins anew -/
def g_anew (v2 : Int32) (S1 : St) : Option (Int32 × St) :=
  lt (upI S1 1 1 0) fun S3 =>
    bdV (f_X6_copyFrom_9 S3) fun S4 =>
    bdV (f_X7_begin S4) fun S5 =>
    bdV (f_X1_forgetAll S5) fun S6 =>
    bdV (f_X2_forgetAll S6) fun S7 =>
    lt (upI S7 24 0 0) fun S8 =>
    some (v2, S8)
theorem anew8 (v : Int32) (A : St) : ∃ T, g_anew v A = some (v, T) ∧ T.1 1 1 = 0 ∧ T.1 9 0 = A.1 4 0 ∧ (∀ c, c < 4 → T.1 10 c = A.1 5 c ∧ T.1 12 c = A.1 7 c ∧ T.1 43 c = A.1 6 c) ∧ (∀ s, s < 5 → T.1 13 s = A.1 8 s) ∧ T.1 42 0 = 0 ∧ T.1 42 1 = 0 ∧ T.1 42 15 = 0 ∧ (∀ j, j < 24 → T.1 44 j = 0) ∧ (∀ j, j < 12 → T.1 45 j = -9 ∧ T.1 46 j = -9) ∧ T.1 17 2 = 0 ∧ T.1 17 1 = A.1 17 1 ∧ T.1 21 0 = 0 ∧ T.1 21 1 = 0 ∧ T.1 24 0 = 0 ∧ T.1 14 = A.1 14 ∧ ∀ k, 26 < k → k < 42 → T.1 k = A.1 k := by
  obtain ⟨A1, h1⟩ : ∃ A1, A1 = upI (upI A 1 1 0) 9 0 (A.1 4 0) := ⟨_, rfl⟩
  obtain ⟨A2, h2⟩ : ∃ A2, A2 = rwI A1 10 (va_cpy (A1.1 5) (A1.1 10) 0 0 4) := ⟨_, rfl⟩
  obtain ⟨A3, h3⟩ : ∃ A3, A3 = rwI A2 11 (va_cpy (A2.1 6) (A2.1 11) 0 0 4) := ⟨_, rfl⟩
  obtain ⟨A4, h4⟩ : ∃ A4, A4 = rwI A3 12 (va_cpy (A3.1 7) (A3.1 12) 0 0 4) := ⟨_, rfl⟩
  obtain ⟨A5, h5⟩ : ∃ A5, A5 = rwI A4 13 (va_cpy (A4.1 8) (A4.1 13) 0 0 5) := ⟨_, rfl⟩
  obtain ⟨A6, h6⟩ : ∃ A6, A6 = upI (upI (upI A5 42 0 0) 42 1 0) 42 15 0 := ⟨_, rfl⟩
  obtain ⟨A7, h7⟩ : ∃ A7, A7 = rwI A6 43 (va_cpy (A6.1 11) (A6.1 43) 0 0 4) := ⟨_, rfl⟩
  obtain ⟨A8, f1, f2, f3⟩ := fill_ok 44 24 0 (by decide) A7
  obtain ⟨A9, f4, f5, f6⟩ := fill_ok 45 12 (-9) (by decide) A8
  obtain ⟨A10, f7, f8, f9⟩ := fill_ok 46 12 (-9) (by decide) A9
  have e1 : g_anew v A = some (v, upI (upI (upI (upI A10 17 2 0) 21 0 0) 21 1 0) 24 0 0) := by
    unfold g_anew f_X6_copyFrom_9 f_X7_begin f_X7_clearCalls f_X1_forgetAll
    rw [lt_mk, lt_mk, up_k (by decide), ← h1, cl4c, lt_mk, ← h2, lt_mk, ← h3, lt_mk, ← h4, lt_mk, i32_5, ← h5, bdV_mk, lt_mk, lt_mk, lt_mk, ← h6, lt_mk, ← h7, f1, bdV_mk, f4, bdV_mk, f7, bdV_mk, bdV_mk, bdV_mk, lt_mk, bdV_mk, img_forget, bdV_mk, lt_mk]
  have k10 : ∀ k, k ≠ 44 → k ≠ 45 → k ≠ 46 → A10.1 k = A7.1 k := fun k a b c => by rw [f8 k c, f5 k b, f2 k a]
  have k5 : ∀ k, k ≠ 1 → k ≠ 9 → k ≠ 10 → k ≠ 11 → k ≠ 12 → k ≠ 13 → A5.1 k = A.1 k := fun k a b c d e f => by rw [h5, rw_k f, h4, rw_k e, h3, rw_k d, h2, rw_k c, h1, up_r b, up_r a]
  have k7 : ∀ k, k ≠ 42 → k ≠ 43 → A7.1 k = A5.1 k := fun k a b => by rw [h7, rw_k b, h6, up_r a, up_r a, up_r a]
  refine ⟨_, e1, ?_, ?_, fun c hc => ⟨?_, ?_, ?_⟩, fun s hs => ?_, ?_, ?_, ?_, fun j hj => ?_, fun j hj => ⟨?_, ?_⟩, ?_, ?_, ?_, ?_, ?_, ?_, fun k b1 b2 => ?_⟩
  · rw [up_k (by decide), up_k (by decide), up_k (by decide), up_k (by decide), k10 1 (by decide) (by decide) (by decide), k7 1 (by decide) (by decide), h5, rw_k (by decide), h4, rw_k (by decide), h3, rw_k (by decide), h2, rw_k (by decide), h1, up_k (by decide), up_s]
  · rw [up_k (by decide), up_k (by decide), up_k (by decide), up_k (by decide), k10 9 (by decide) (by decide) (by decide), k7 9 (by decide) (by decide), h5, rw_k (by decide), h4, rw_k (by decide), h3, rw_k (by decide), h2, rw_k (by decide), h1, up_s]
  · rw [up_k (by decide), up_k (by decide), up_k (by decide), up_k (by decide), k10 10 (by decide) (by decide) (by decide), k7 10 (by decide) (by decide), h5, rw_k (by decide), h4, rw_k (by decide), h3, rw_k (by decide), h2, rw_s, cpy_at hc, h1, up_k (by decide), up_k (by decide)]
  · rw [up_k (by decide), up_k (by decide), up_k (by decide), up_k (by decide), k10 12 (by decide) (by decide) (by decide), k7 12 (by decide) (by decide), h5, rw_k (by decide), h4, rw_s, cpy_at hc, h3, rw_k (by decide), h2, rw_k (by decide), h1, up_k (by decide), up_k (by decide)]
  · rw [up_k (by decide), up_k (by decide), up_k (by decide), up_k (by decide), k10 43 (by decide) (by decide) (by decide), h7, rw_s, cpy_at hc, h6, up_k (by decide), up_k (by decide), up_k (by decide), h5, rw_k (by decide), h4, rw_k (by decide), h3, rw_s, cpy_at hc, h2, rw_k (by decide), h1, up_k (by decide), up_k (by decide)]
  · rw [up_k (by decide), up_k (by decide), up_k (by decide), up_k (by decide), k10 13 (by decide) (by decide) (by decide), k7 13 (by decide) (by decide), h5, rw_s, cpy_at hs, h4, rw_k (by decide), h3, rw_k (by decide), h2, rw_k (by decide), h1, up_k (by decide), up_k (by decide)]
  · rw [up_k (by decide), up_k (by decide), up_k (by decide), up_k (by decide), k10 42 (by decide) (by decide) (by decide), h7, rw_k (by decide), h6, up_j (by decide), up_j (by decide), up_s]
  · rw [up_k (by decide), up_k (by decide), up_k (by decide), up_k (by decide), k10 42 (by decide) (by decide) (by decide), h7, rw_k (by decide), h6, up_j (by decide), up_s]
  · rw [up_k (by decide), up_k (by decide), up_k (by decide), up_k (by decide), k10 42 (by decide) (by decide) (by decide), h7, rw_k (by decide), h6, up_s]
  · rw [up_k (by decide), up_k (by decide), up_k (by decide), up_k (by decide), f8 44 (by decide), f5 44 (by decide), f3 j hj]
  · rw [up_k (by decide), up_k (by decide), up_k (by decide), up_k (by decide), f8 45 (by decide), f6 j hj]
  · rw [up_k (by decide), up_k (by decide), up_k (by decide), up_k (by decide), f9 j hj]
  · rw [up_k (by decide), up_k (by decide), up_k (by decide), up_s]
  · rw [up_k (by decide), up_k (by decide), up_k (by decide), up_j (by decide), k10 17 (by decide) (by decide) (by decide), k7 17 (by decide) (by decide), k5 17 (by decide) (by decide) (by decide) (by decide) (by decide) (by decide)]
  · rw [up_k (by decide), up_j (by decide), up_s]
  · rw [up_k (by decide), up_s]
  · rw [up_s]
  · rw [up_r (by decide), up_r (by decide), up_r (by decide), up_r (by decide), k10 14 (by decide) (by decide) (by decide), k7 14 (by decide) (by decide), k5 14 (by decide) (by decide) (by decide) (by decide) (by decide) (by decide)]
  · rw [up_r (by omega), up_r (by omega), up_r (by omega), up_r (by omega), k10 k (by omega) (by omega) (by omega), k7 k (by omega) (by omega), k5 k (by omega) (by omega) (by omega) (by omega) (by omega) (by omega)]
theorem an100 : ∀ (m x fuel : Nat) (B : St), x + m = 6 → m < fuel → ∃ U, f_X9_tells_100 fuel (nI x) B = some (B.1 27 16, U) ∧ (∀ j, j < 6 → U.1 35 j = if x ≤ j then B.1 39 j else B.1 35 j) ∧ U.1 27 7 = 0 ∧ U.1 27 2 = 0 ∧ U.1 27 5 = 0 ∧ U.1 29 0 = 0 ∧ U.1 29 1 = 0 ∧ (∀ k, k ≠ 27 → k ≠ 29 → k ≠ 35 → U.1 k = B.1 k) ∧ ∀ j, j ≠ 2 → j ≠ 5 → j ≠ 7 → U.1 27 j = B.1 27 j := by
  intro m
  induction m with
  | zero =>
    intro x fuel B h1 h2
    obtain ⟨f, rfl⟩ : ∃ g, fuel = g + 1 := ⟨fuel - 1, by omega⟩
    obtain rfl : x = 6 := by omega
    refine ⟨upI (upI (upI (upI (upI B 27 7 0) 27 2 0) 27 5 0) 29 0 0) 29 1 0, ?_, fun j hj => ?_, ?_, ?_, ?_, ?_, ?_, fun k a b c => ?_, fun j a b c => ?_⟩
    · rw [f_X9_tells_100, if_pos (show (6 : Int32) ≤ nI 6 from nI_le (a := 6) (by decide) (by decide)), lt_mk, lt_mk, lt_mk, show ∀ X : Option (Int32 × St), ck 0 2 X = X from fun X => ck_n (n := 0) (by decide) (by decide), lt_mk, show ∀ X : Option (Int32 × St), ck 1 2 X = X from fun X => ck_n (n := 1) (by decide) (by decide), lt_mk, nar_0, i32_0c, i32_1c]
      simp (disch := decide) only [up_k, up_j]
    · rw [if_neg (by omega)]; simp (disch := decide) only [up_k]
    all_goals first | (simp (disch := decide) only [up_k, up_j, up_s]; done) | skip
    · rw [up_r b, up_r b, up_r a, up_r a, up_r a]
    · rw [up_k (by decide), up_k (by decide), up_j b, up_j a, up_j c]
  | succ m ih =>
    intro x fuel B h1 h2
    obtain ⟨f, rfl⟩ : ∃ g, fuel = g + 1 := ⟨fuel - 1, by omega⟩
    obtain ⟨U, e1, e2, e3, e4, e5, e6, e7, e8, e9⟩ := ih (x + 1) f (upI B 35 x (B.1 39 x)) (by omega) (by omega)
    refine ⟨U, ?_, fun j hj => ?_, e3, e4, e5, e6, e7, fun k a b c => by rw [e8 k a b c, up_r c], fun j a b c => by rw [e9 j a b c, up_k (by decide)]⟩
    · rw [f_X9_tells_100, if_neg (show ¬ (6 : Int32) ≤ nI x from nI_ge (b := 6) (by omega) (by decide)), ck_n (by omega) (by decide), ck_n (by omega) (by decide), lt_mk, nI_clamp (by omega), nI_1, e1, up_k (by decide)]
    · rw [e2 j hj, up_k (k' := 39) (by decide), up_e]
      by_cases z : j = x
      · subst z
        rw [if_neg (by omega), if_pos ⟨rfl, rfl⟩, if_pos (by omega)]
      · rw [if_neg (c := (35 : Nat) = 35 ∧ j = x) (fun y => z y.2)]
        by_cases z2 : x + 1 ≤ j
        · rw [if_pos z2, if_pos (by omega)]
        · rw [if_neg z2, if_neg (by omega)]
theorem an47 : ∀ (m x fuel : Nat) (B : St), x + m = 4 → m < fuel → ∃ U, f_X9_tells_47 fuel (nI x) B = f_X9_tells_100 FU 0 U ∧ (∀ j, j < 4 → U.1 33 j = (if x ≤ j then B.1 36 j else B.1 33 j) ∧ U.1 34 j = (if x ≤ j then B.1 38 j else B.1 34 j)) ∧ (∀ j, U.1 28 j = if 216 + x ≤ j ∧ j < 220 then B.1 37 (j - 216) else B.1 28 j) ∧ ∀ k, k ≠ 28 → k ≠ 33 → k ≠ 34 → U.1 k = B.1 k := by
  intro m
  induction m with
  | zero =>
    intro x fuel B h1 h2
    obtain ⟨f, rfl⟩ : ∃ g, fuel = g + 1 := ⟨fuel - 1, by omega⟩
    obtain rfl : x = 4 := by omega
    refine ⟨B, ?_, fun j hj => ⟨by rw [if_neg (by omega)], by rw [if_neg (by omega)]⟩, fun j => by rw [if_neg (by omega)], fun _ _ _ _ => rfl⟩
    rw [f_X9_tells_47, if_pos (show (4 : Int32) ≤ nI 4 from nI_le (a := 4) (by decide) (by decide))]
  | succ m ih =>
    intro x fuel B h1 h2
    obtain ⟨f, rfl⟩ : ∃ g, fuel = g + 1 := ⟨fuel - 1, by omega⟩
    obtain ⟨U, e1, e2, e3, e4⟩ := ih (x + 1) f (upI (upI (upI B 33 x (B.1 36 x)) 34 x (B.1 38 x)) 28 (216 + x) (B.1 37 x)) (by omega) (by omega)
    refine ⟨U, ?_, fun j hj => ?_, fun j => ?_, fun k a b c => by rw [e4 k a b c, up_r a, up_r c, up_r b]⟩
    · have hc : ∀ {ρ : Type} {X : Option ρ}, ck (nI x) 4 X = X := ck_n (by omega) (by decide)
      rw [f_X9_tells_47, if_neg (show ¬ (4 : Int32) ≤ nI x from nI_ge (b := 4) (by omega) (by decide)), hc, hc, lt_mk, hc, hc, lt_mk, hc, ix216, ck_n (by omega) (by decide), lt_mk, nI_clamp (by omega), nI_clamp (by omega), nI_1, up_k (k' := 38) (by decide), up_k (k' := 37) (by decide), up_k (k' := 37) (by decide), e1]
    · obtain ⟨g1, g2⟩ := e2 j hj
      refine ⟨?_, ?_⟩
      · rw [g1]
        by_cases z : j = x
        · subst z
          rw [if_neg (by omega), if_pos (by omega)]
          simp (disch := decide) only [up_k, up_s]
        · by_cases z2 : x + 1 ≤ j
          · rw [if_pos z2, if_pos (by omega)]
            simp (disch := decide) only [up_k]
          · rw [if_neg z2, if_neg (by omega)]
            simp (disch := first | decide | exact z) only [up_k, up_j]
      · rw [g2]
        by_cases z : j = x
        · subst z
          rw [if_neg (by omega), if_pos (by omega)]
          simp (disch := decide) only [up_k, up_s]
        · by_cases z2 : x + 1 ≤ j
          · rw [if_pos z2, if_pos (by omega)]
            simp (disch := decide) only [up_k]
          · rw [if_neg z2, if_neg (by omega)]
            simp (disch := first | decide | exact z) only [up_k, up_j]
    · rw [e3 j, up_k (k' := 37) (by decide), up_k (k' := 37) (by decide), up_k (k' := 37) (by decide)]
      by_cases z : j = 216 + x
      · subst z
        rw [if_neg (by omega), up_s, if_pos (by omega), show 216 + x - 216 = x by omega]
      · rw [up_j z, up_k (by decide), up_k (by decide)]
        by_cases z2 : 216 + (x + 1) ≤ j ∧ j < 220
        · rw [if_pos z2, if_pos (by omega)]
        · rw [if_neg z2, if_neg (by omega)]
theorem an25 : ∀ (m x fuel : Nat) (B : St), x + m = 283 → m < fuel → ∃ U, f_X9_tells_25 fuel (nI x) B = f_X9_tells_47 FU 0 U ∧ (∀ j, U.1 28 j = if x ≤ j ∧ j < 283 then 0 else B.1 28 j) ∧ ∀ k, k ≠ 28 → U.1 k = B.1 k := by
  intro m
  induction m with
  | zero =>
    intro x fuel B h1 h2
    obtain ⟨f, rfl⟩ : ∃ g, fuel = g + 1 := ⟨fuel - 1, by omega⟩
    obtain rfl : x = 283 := by omega
    refine ⟨B, ?_, fun j => by rw [if_neg (by omega)], fun _ _ => rfl⟩
    rw [f_X9_tells_25, if_pos (show (283 : Int32) ≤ nI 283 from nI_le (a := 283) (by decide) (by decide))]
  | succ m ih =>
    intro x fuel B h1 h2
    obtain ⟨f, rfl⟩ : ∃ g, fuel = g + 1 := ⟨fuel - 1, by omega⟩
    obtain ⟨U, e1, e2, e3⟩ := ih (x + 1) f (upI B 28 x 0) (by omega) (by omega)
    refine ⟨U, ?_, fun j => ?_, fun k a => by rw [e3 k a, up_r a]⟩
    · rw [f_X9_tells_25, if_neg (show ¬ (283 : Int32) ≤ nI x from nI_ge (b := 283) (by omega) (by decide)), ck_n (by omega) (by decide), lt_mk, nI_clamp (by omega), nI_1, e1]
    · rw [e2 j]
      by_cases z : j = x
      · subst z
        rw [if_neg (by omega), up_s, if_pos (by omega)]
      · rw [up_j z]
        by_cases z2 : x + 1 ≤ j ∧ j < 283
        · rw [if_pos z2, if_pos (by omega)]
        · rw [if_neg z2, if_neg (by omega)]
theorem anew9 (B : St) : ∃ U, f_X9_tells_25 FU 0 B = some (B.1 27 16, U) ∧ (∀ j, j < 4 → U.1 33 j = B.1 36 j ∧ U.1 34 j = B.1 38 j) ∧ (∀ j, j < 6 → U.1 35 j = B.1 39 j) ∧ (∀ j, j < 283 → U.1 28 j = if 216 ≤ j ∧ j < 220 then B.1 37 (j - 216) else 0) ∧ U.1 27 7 = 0 ∧ U.1 27 2 = 0 ∧ U.1 27 5 = 0 ∧ U.1 29 0 = 0 ∧ U.1 29 1 = 0 ∧ (∀ k, k ≠ 27 → k ≠ 28 → k ≠ 29 → k ≠ 33 → k ≠ 34 → k ≠ 35 → U.1 k = B.1 k) ∧ ∀ j, j ≠ 2 → j ≠ 5 → j ≠ 7 → U.1 27 j = B.1 27 j := by
  obtain ⟨U1, a1, a2, a3⟩ := an25 283 0 FU B (by omega) (by decide)
  obtain ⟨U2, b1, b2, b3, b4⟩ := an47 4 0 FU U1 (by omega) (by decide)
  obtain ⟨U, c1, c2, c3, c4, c5, c6, c7, c8, c9⟩ := an100 6 0 FU U2 (by omega) (by decide)
  refine ⟨U, ?_, fun j hj => ?_, fun j hj => ?_, fun j hj => ?_, c3, c4, c5, c6, c7, fun k h1 h2 h3 h4 h5 h6 => by rw [c8 k h1 h3 h6, b4 k h2 h4 h5, a3 k h2], fun j h1 h2 h3 => by rw [c9 j h1 h2 h3, b4 27 (by decide) (by decide) (by decide), a3 27 (by decide)]⟩
  · rw [show f_X9_tells_25 FU 0 B = _ from a1, show f_X9_tells_47 FU 0 U1 = _ from b1, show f_X9_tells_100 FU 0 U2 = _ from c1, b4 27 (by decide) (by decide) (by decide), a3 27 (by decide)]
  · obtain ⟨g1, g2⟩ := b2 j hj
    rw [if_pos (by omega), a3 36 (by decide)] at g1
    rw [if_pos (by omega), a3 38 (by decide)] at g2
    exact ⟨by rw [c8 33 (by decide) (by decide) (by decide), g1], by rw [c8 34 (by decide) (by decide) (by decide), g2]⟩
  · rw [c2 j hj, if_pos (by omega), b4 39 (by decide) (by decide) (by decide), a3 39 (by decide)]
  · rw [c8 28 (by decide) (by decide) (by decide), b3 j, a3 37 (by decide), a2 j]
    by_cases z : 216 + 0 ≤ j ∧ j < 220
    · rw [if_pos z, if_pos (by omega)]
    · rw [if_neg z, if_pos (by omega), if_neg (by omega)]
theorem tells_eq (S : St) : f_X8_tells S = bd (f_X4_read S) fun v2 S1 => if 0 ≤ v2 then g_anew v2 S1 else some (v2, S1) := by
  unfold f_X8_tells g_anew
  rfl
theorem neg_fault {q : Nat} (h : q ≤ 120) : ¬ (0 : Int32) ≤ (-10) - nI q := by
  rw [Int32.le_iff_toInt_le]
  have e : (-10 : Int32).toInt = -10 := by decide
  rw [i32_sub (by rw [e, nI_toInt (by omega)]; omega) (by rw [e, nI_toInt (by omega)]; omega), e, nI_toInt (by omega), i32_0]
  omega
theorem sim_tells : Sim f_X8_tells f_X9_tells := by
  intro nc S hr
  obtain ⟨h1, ⟨len, t1, t2, t3, t4⟩, h3, h4, ⟨kn, nx, p1, p2, p3, p4, p5, p6⟩, h6, h7⟩ := id hr
  have hx : TXc (S.1 2) len S := ⟨t2, fun i hi => rfl⟩
  have hy : ∀ B : St, B.1 27 7 = S.1 27 7 → B.1 32 = S.1 32 → TXr (S.1 2) len B := fun B e1 e2 => ⟨by rw [e1]; exact t3, fun i hi => by rw [e2, ← t4 i hi]⟩
  obtain ⟨A1, B1, ia1, -, r1⟩ := read_ok t1 hx (hy S rfl rfl)
  rcases r1 with ⟨q, q1, q2, -, -⟩ | ⟨it, q1, q2, -, -, -⟩
  · obtain ⟨A1', B2, ia2, jb2, r2⟩ := read_ok (B := A1) t1 hx (hy A1 (by rw [ia1.1 27 (by omega)]) (by rw [ia1.1 32 (by omega)]))
    rcases r2 with ⟨q', w1, w2, w3, w4⟩ | ⟨it', w1, w2, -, -, -⟩
    · rw [q2] at w2
      have ee := Option.some.inj w2
      have eA := (Prod.mk.inj ee).2
      have eq' := (Prod.mk.inj ee).1
      refine ⟨(-10) - nI q, A1, B2, nc, ?_, ?_, ?_⟩
      · rw [tells_eq, q2, bd_mk, if_neg (neg_fault q1)]
      · unfold f_X9_tells
        rw [w3, bd_mk, if00, w4, eq']
      · have k1 : ∀ k, 8 < k → k ≠ 27 → k < 36 ∨ 39 < k → B2.1 k = S.1 k := fun k a b c => by rw [jb2.1 k b c, ia1.1 k (by omega)]
        have k27 : ∀ j, j < 12 ∨ 23 < j → B2.1 27 j = S.1 27 j := fun j a => by rw [jb2.2 j a, ia1.1 27 (by omega)]
        refine ⟨h1.keep ?_ ?_ ?_ ?_ ?_ ?_ ?_ (k27 8 (by omega)), ⟨len, t1, ?_, ?_, fun i hi => ?_⟩, h3.keep ?_ ?_ ?_ ?_ ?_ (k27 5 (by omega)), h4.keep (fun k hk => k1 k (by omega) (by omega) (by omega)) ?_ (by decide), RHist.keep (fun k hk => k1 k (by omega) (by omega) (by omega)) ?_ ?_ (k27 2 (by omega)) ⟨kn, nx, p1, p2, p3, p4, p5, p6⟩, h6.keep (fun k hk => k1 k (by omega) (by omega) (by omega)) ?_ ?_ ?_, h7.keep ?_ (k27 25 (by omega))⟩
        case refine_8 => rw [jb2.1 1 (by omega) (by omega), ia1.2 1 (by omega)]; exact t2
        case refine_9 => rw [k27 7 (by omega)]; exact t3
        case refine_10 => rw [jb2.1 2 (by omega) (by omega), ia1.1 2 (by omega), k1 32 (by omega) (by omega) (by omega)]; exact t4 i hi
        case refine_22 => rw [k1 14 (by omega) (by omega) (by omega)]
        all_goals exact k1 _ (by omega) (by omega) (by omega)
    · rw [q2] at w2
      have ee := (Prod.mk.inj (Option.some.inj w2)).1
      exact absurd (nI_pos' (show it' < 2 ^ 31 by omega)) (by rw [← ee]; exact neg_fault q1)
  · obtain ⟨T, g1, g2, g3, g4, g5, g6, g7, g8, g9, g10, g11, g12, g13, g14, g15, g16, g17⟩ := anew8 (nI it) A1
    have T27 : T.1 27 = S.1 27 := by rw [g17 27 (by omega) (by omega), ia1.1 27 (by omega)]
    obtain ⟨A1', B2, ia2, jb2, r2⟩ := read_ok (B := T) t1 hx (hy T (by rw [T27]) (by rw [g17 32 (by omega) (by omega), ia1.1 32 (by omega)]))
    rcases r2 with ⟨q', w1, w2, -, -⟩ | ⟨it', w1, w2, w3, w4, k, m, ⟨dc1, dc2, dc3, dc4⟩, ds, -⟩
    · rw [q2] at w2
      have ee := (Prod.mk.inj (Option.some.inj w2)).1
      exact absurd (nI_pos' (show it < 2 ^ 31 by omega)) (by rw [ee]; exact neg_fault w1)
    · rw [q2] at w2
      have ee := Option.some.inj w2
      obtain rfl : A1 = A1' := congrArg Prod.snd ee
      have eit : nI it = nI it' := congrArg Prod.fst ee
      obtain ⟨U, u1, u2, u3, u4, u5, u6, u7, u8, u9, u10, u11⟩ := anew9 (upI B2 27 8 (B2.1 27 17))
      have UT : ∀ j, (j < 27 ∨ 41 < j) → U.1 j = T.1 j := fun j a => by rw [u10 j (by omega) (by omega) (by omega) (by omega) (by omega) (by omega), up_r (by omega), jb2.1 j (by omega) (by omega)]
      have w28 : ∀ j, j < 283 → (j < 216 ∨ 220 ≤ j) → U.1 28 j = 0 := fun j a b => by rw [u4 j a, if_neg (by omega)]
      refine ⟨nI it, T, U, k, ?_, ?_, ⟨dc1, ?_, ?_, fun c hc => ?_, fun s hs => ?_, ?_⟩, ⟨0, by omega, ?_, ?_, fun i hi => absurd hi (by omega)⟩, ⟨0, by omega, ?_, ?_, fun i hi => absurd hi (by omega)⟩, ?_, ⟨0, nx, by omega, p2, ?_, ?_, ?_, fun j hj => absurd hj (by omega)⟩, fun i hi => ?_, ?_, ?_⟩
      · rw [tells_eq, q2, bd_mk, if_pos (nI_pos' (by omega)), g1]
      · unfold f_X9_tells
        rw [w3, bd_mk, if10, lt_mk, u1, up_j (by decide), w4, eit]
      · rw [UT 9 (by omega), g3, dc2]
      · rw [u11 8 (by decide) (by decide) (by decide), up_s, dc3]
      · obtain ⟨x1, x2, x3, x4, x5⟩ := dc4 c hc
        obtain ⟨y1, y2, y3⟩ := g4 c (by omega)
        obtain ⟨z1, z2⟩ := u2 c (by omega)
        rw [UT 10 (by omega), UT 12 (by omega), y1, y2, z1, z2, up_r (by decide), up_r (by decide)]
        exact ⟨x1, x2, x4, x5⟩
      · obtain ⟨v, v1, v2, v3, v4⟩ := ds s hs
        rw [UT 13 (by omega), g5 s hs, v3, u3 (s + 1) (by omega), up_r (by decide), v4]
      · rw [UT 13 (by omega), g5 0 (by decide), g5 1 (by decide), g5 2 (by decide), g5 3 (by decide), g5 4 (by decide)]
        obtain ⟨v, v1, v2, v3, v4⟩ := ds 0 (by decide)
        obtain ⟨a, a1, a2, a3, a4⟩ := ds 1 (by decide)
        obtain ⟨b, b1, b2, b3, b4⟩ := ds 2 (by decide)
        obtain ⟨c, c1, c2, c3, c4⟩ := ds 3 (by decide)
        obtain ⟨d, d1, d2, d3, d4⟩ := ds 4 (by decide)
        exact ⟨v, a, b, c, d, v2, a1, a2, b2, c2, d1, d2, v3, a3, b3, c3, d3⟩
      · rw [UT 1 (by omega), g2]; rfl
      · rw [u5]; rfl
      · rw [UT 24 (by omega), g15]; rfl
      · rw [u7]; rfl
      · refine ⟨⟨?_, ?_, fun c hc hc' => ?_, fun j hj => ?_⟩, fun i hi => Or.inl ⟨?_, ?_, ?_⟩, 0, by omega, ?_, ?_, fun i hi => absurd hi (by omega), fun i j _ hj => absurd hj (by omega)⟩
        · show U.1 42 0 = U.1 28 (0 + 281)
          rw [UT 42 (by omega), g6, w28 _ (by omega) (by omega)]
        · show U.1 42 1 = U.1 28 (0 + 282)
          rw [UT 42 (by omega), g7, w28 _ (by omega) (by omega)]
        · show U.1 43 c = U.1 28 (0 + (216 + c))
          rw [UT 43 (by omega), (g4 c hc).2.2, u4 _ (by omega), if_pos (by omega), show 0 + (216 + c) - 216 = c by omega, up_r (by decide)]
          exact (dc4 c hc').2.2.1
        · show U.1 44 j = U.1 28 (0 + (220 + j))
          rw [UT 44 (by omega), g9 j hj, w28 _ (by omega) (by omega)]
        · show U.1 45 i = -9
          rw [UT 45 (by omega), (g10 i hi).1]
        · show U.1 46 i = -9
          rw [UT 46 (by omega), (g10 i hi).2]
        · show U.1 28 (0 + 18 * i) = 0
          rw [w28 _ (by omega) (by omega)]
        · show U.1 42 15 = nI 0
          rw [UT 42 (by omega), g8]; rfl
        · show U.1 28 (0 + 244) = nI 0
          rw [w28 _ (by omega) (by omega)]; rfl
      · rw [UT 17 (by omega), g11]; rfl
      · rw [u6]; rfl
      · rw [UT 17 (by omega), g12, ia1.1 17 (by omega)]; exact p5
      · rw [UT 21 (by omega)]
        match i, hi with
        | 0, _ => exact ⟨by rw [g13, u8], Or.inl g13⟩
        | 1, _ => exact ⟨by rw [g14, u9], Or.inl g14⟩
      · rw [UT 14 (by omega), g16, ia1.1 14 (by omega)]; exact h7.1
      · rw [u11 25 (by decide) (by decide) (by decide), up_j (by decide), jb2.2 25 (by omega), T27]; exact h7.2
