/-! ===== offers ===== -/
theorem off_102 {i c : Nat} (hi : i < 12) (hc : c < 4) (v : Int32) : ∀ (m k fuel : Nat) (S : St), k + m = 18 → m < fuel → ∃ T, f_X9_offers_102 fuel (nI c) v (nI i) (nI k) S = some (nI i, T) ∧ (∀ q, q ≠ 28 → T.1 q = S.1 q) ∧ (∀ j, j < 18 * i ∨ 18 * i + 18 ≤ j → T.1 28 j = S.1 28 j) ∧ ((∀ j, 18 * i ≤ j → j < 18 * i + k → S.1 28 j = 0) → ∀ j, j < 18 → T.1 28 (18 * i + j) = if j = 0 then 1 else if j = 1 then nI c else if j = 2 then -9 else if j = 8 then -9 else if j = 10 + c then 64 * v else 0) := by
  intro m
  induction m with
  | zero =>
    intro k fuel S h1 h2
    obtain ⟨f, rfl⟩ : ∃ f, fuel = f + 1 := ⟨fuel - 1, by omega⟩
    obtain rfl : k = 18 := by omega
    unfold f_X9_offers_102
    rw [if_pos (show (18 : Int32) ≤ nI 18 from nI_le (a := 18) (by omega) (by omega)), X9_set_0 hi, bdV_mk, X9_set_1 hi, bdV_mk, X9_set_2 hi, bdV_mk, X9_set_8 hi, bdV_mk, show (10 : Int32) + nI c = nI (10 + c) from nI_add 10 c, X9_set hi (by omega), bdV_mk]
    refine ⟨_, rfl, fun q hq => ?_, fun j hj => ?_, fun hz j hj => ?_⟩
    · simp (disch := omega) only [up_r]
    · simp (disch := omega) only [up_j]
    · simp only [up_e, true_and]
      by_cases h0 : j = 0
      · subst h0
        rw [if_neg (by omega), if_neg (by omega), if_neg (by omega), if_neg (by omega), if_pos (by omega), if_pos rfl]
      · by_cases h1 : j = 1
        · subst h1
          rw [if_neg (by omega), if_neg (by omega), if_neg (by omega), if_pos (by omega), if_neg (by omega), if_pos rfl]
        · by_cases h2 : j = 2
          · subst h2
            rw [if_neg (by omega), if_neg (by omega), if_pos (by omega), if_neg (by omega), if_neg (by omega), if_pos rfl]
          · by_cases h8 : j = 8
            · subst h8
              rw [if_neg (by omega), if_pos (by omega), if_neg (by omega), if_neg (by omega), if_neg (by omega), if_pos rfl]
            · by_cases hl : j = 10 + c
              · subst hl
                rw [if_pos rfl, if_neg (by omega), if_neg (by omega), if_neg (by omega), if_neg (by omega), if_pos rfl]
              · rw [if_neg (by omega), if_neg (by omega), if_neg (by omega), if_neg (by omega), if_neg (by omega), if_neg h0, if_neg h1, if_neg h2, if_neg h8, if_neg hl]
                exact hz _ (by omega) (by omega)
  | succ m ih =>
    intro k fuel S h1 h2
    obtain ⟨f, rfl⟩ : ∃ f, fuel = f + 1 := ⟨fuel - 1, by omega⟩
    obtain ⟨T, e1, e2, e3, e4⟩ := ih (k + 1) f (upI S 28 (18 * i + k) 0) (by omega) (by omega)
    refine ⟨T, ?_, fun q hq => by rw [e2 q hq, up_r hq], fun j hj => by rw [e3 j hj, up_j (by omega)], fun hz => e4 (fun j a1 a2 => ?_)⟩
    · unfold f_X9_offers_102
      rw [if_neg (show ¬ (18 : Int32) ≤ nI k from nI_ge (b := 18) (by omega) (by omega)), X9_set hi (by omega), bdV_mk, nI_1]
      exact e1
    · by_cases hj : j = 18 * i + k
      · subst hj
        rw [up_s]
      · rw [up_j hj]
        exact hz j a1 (by omega)
theorem off_82 {i0 c : Nat} (hi : i0 < 12) (v : Int32) (S : St) (h0 : ¬ S.1 28 (18 * i0) = 1) (hl : ∀ j, j < i0 → S.1 28 (18 * j) = 1) : ∀ (m i fuel : Nat), i + m = i0 → m < fuel → f_X9_offers_82 fuel (nI c) v (nI i) S = f_X9_offers_102 FU (nI c) v (nI i0) 0 S := by
  intro m
  induction m with
  | zero =>
    intro i fuel h1 h2
    obtain ⟨f, rfl⟩ : ∃ f, fuel = f + 1 := ⟨fuel - 1, by omega⟩
    obtain rfl : i = i0 := by omega
    unfold f_X9_offers_82
    rw [X9_get_0 hi, bd_mk, if_neg h0]
  | succ m ih =>
    intro i fuel h1 h2
    obtain ⟨f, rfl⟩ : ∃ f, fuel = f + 1 := ⟨fuel - 1, by omega⟩
    unfold f_X9_offers_82
    rw [X9_get_0 (by omega), bd_mk, if_pos (hl i (by omega)), nI_1]
    exact ih (i + 1) f (by omega) (by omega)
theorem nz10 {ρ : Type} {X : Option ρ} : nz 10 X = X := rfl
/-- what a draw gives of the new seed -/
def drw (s : Int32) : Int32 := (s.toUInt32 >>> ((16 : Int32).toUInt32 &&& Int32.toUInt32 31)).toInt32 - (s.toUInt32 >>> ((16 : Int32).toUInt32 &&& Int32.toUInt32 31)).toInt32 / 10 * 10
theorem X0_draw (S : St) : f_X0_draw S = some (drw (S.1 42 0 * 69069 + 1), upI S 42 0 (S.1 42 0 * 69069 + 1)) := by
  unfold f_X0_draw drw
  rw [lt_mk, lt_mk, nz10, up_s]
theorem X9_draw (S : St) : f_X9_draw S = some (drw (S.1 28 281 * 69069 + 1), upI S 28 281 (S.1 28 281 * 69069 + 1)) := by
  unfold f_X9_draw drw
  rw [show (281 : Int32) = nI 281 from rfl, ck_n (by decide) (by decide), ck_n (by decide) (by decide), lt_mk, ck_n (by decide) (by decide), lt_mk, nz10, nI_clamp (by decide), up_s]
theorem chn_cases (v : Int32) : chn v = 0 ∨ chn v = 10 ∨ (¬ chn v = 0 ∧ ¬ chn v = 10 ∧ ¬ 10 ≤ chn v) := by
  by_cases h0 : chn v = 0
  · exact Or.inl h0
  · by_cases h1 : chn v = 10
    · exact Or.inr (Or.inl h1)
    · exact Or.inr (Or.inr ⟨h0, h1, fun z => h1 ((chn_ge10 v).mp z)⟩)
/-- whether it is taken: the answer, the new seed -/
def tkn (ch s : Int32) : Int32 × Int32 := if ch = 0 then (0, s) else if ch = 10 then (1, s) else (if ch ≤ drw (s * 69069 + 1) then 0 else 1, s * 69069 + 1)
theorem upI_self (S : St) (k j : Nat) : upI S k j (S.1 k j) = S := by
  obtain ⟨a, b⟩ := S
  simp only [upI, rwI]
  congr 1
  funext k'
  by_cases h : k' = k
  · subst h
    rw [if_pos rfl]
    funext j'
    by_cases h2 : j' = j
    · subst h2; simp [upd]
    · simp [upd, h2]
  · rw [if_neg h]
theorem X0_isTaken (ch : Int32) (S : St) : f_X0_isTaken ch S = some ((tkn ch (S.1 42 0)).1, upI S 42 0 (tkn ch (S.1 42 0)).2) := by
  unfold f_X0_isTaken f_X0_isTaken_10 f_X0_isTaken_21 f_X0_isTaken_35 tkn
  by_cases h0 : ch = 0
  · subst h0
    rw [if_pos rfl, if_neg (by decide), bz_0, if_pos rfl, upI_self]
  · rw [if_neg h0, if_neg h0]
    by_cases h1 : ch = 10
    · subst h1
      rw [if_pos rfl, if_pos rfl, bz_1, if_pos rfl, upI_self]
    · rw [if_neg h1, if_neg h1, X0_draw, bd_mk]
      by_cases h2 : ch ≤ drw (S.1 42 0 * 69069 + 1)
      · rw [if_pos h2, bz_0, if_pos h2]
      · rw [if_neg h2, bz_1, if_neg h2]
