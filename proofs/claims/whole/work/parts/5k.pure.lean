/-! ===== which guard it is ===== -/
def alF (p : Nat → Bool) : Nat → Nat → Bool
  | _, 0 => true
  | i, m + 1 => p i && alF p (i + 1) m
theorem alF_s (p : Nat → Bool) (i m : Nat) : alF p i (m + 1) = (p i && alF p (i + 1) m) := rfl
theorem alF_congr {p q : Nat → Bool} : ∀ m i, (∀ k, i ≤ k → k < i + m → p k = q k) → alF p i m = alF q i m
  | 0, _, _ => rfl
  | m + 1, i, h => by
    unfold alF
    rw [h i (by omega) (by omega), alF_congr m (i + 1) (fun k a b => h k (by omega) (by omega))]
/-- could what was seen at k be by the guard g? -/
def okS (A : Nat → Nat → Int32) (r1 r2 : Nat) (g : Int32) (k : Nat) : Bool := if A r2 k = 1 then decide (¬ chn (10 * A r1 k - g) = 0) else decide (¬ chn (10 * A r1 k - g) = 10)
theorem chn_le0 (v : Int32) : chn v ≤ 0 ↔ chn v = 0 := by
  unfold chn
  have e0 : (0 : Int32).toInt = 0 := by decide
  constructor
  · intro h
    split at h
    · rename_i h1
      split at h
      · exact absurd h (by decide)
      · rename_i h2
        rw [if_pos h1, if_neg h2]
        rw [Int32.le_iff_toInt_le, e0] at h h1
        apply Int32.toInt_inj.mp
        rw [e0]
        omega
    · rename_i h1
      rw [if_neg h1]
  · intro h
    rw [h]
    decide
theorem chn_ge10 (v : Int32) : 10 ≤ chn v ↔ chn v = 10 := by
  unfold chn
  constructor
  · intro h
    split at h
    · rename_i h1
      split at h
      · rename_i h2
        rw [if_pos h1, if_pos h2]
      · rename_i h2
        exact absurd h h2
    · exact absurd h (by decide)
  · intro h
    rw [h]
    decide
theorem X5_allow_loop (sn : Nat) (hs : sn ≤ 6) (g : Int32) (S : St) (h : S.1 24 0 = nI sn) : ∀ (m i fuel : Nat), i + m = sn → m < fuel → f_X5_allow_2 fuel g (nI i) S = some (if alF (okS S.1 25 26 g) i m then 1 else 0, S) := by
  intro m
  induction m with
  | zero =>
    intro i fuel hi hf
    obtain ⟨f, rfl⟩ : ∃ f, fuel = f + 1 := ⟨fuel - 1, by omega⟩
    unfold f_X5_allow_2 f_X5_allow_58
    rw [h, if_pos (nI_le (by omega) (by omega))]
    rfl
  | succ m ih =>
    intro i fuel hi hf
    obtain ⟨f, rfl⟩ : ∃ f, fuel = f + 1 := ⟨fuel - 1, by omega⟩
    have hh := ih (i + 1) f (by omega) (by omega)
    unfold f_X5_allow_2 f_X5_allow_58 f_X5_allow_52 f_X5_allow_50
    rw [h, if_neg (nI_ge (by omega) (by omega)), if_neg (show ¬ (6 : Int32) ≤ nI i from nI_ge (b := 6) (by omega) (by omega)), ck_n (show i < 6 by omega) (by decide), X8_chance, bd_mk, ck_n (show i < 6 by omega) (by decide), nI_clamp (by omega), nI_1, hh]
    rw [alF_s]
    by_cases h1 : S.1 26 i = 1
    · rw [if_pos h1]
      by_cases h2 : chn (10 * S.1 25 i - g) = 0
      · have e : okS S.1 25 26 g i = false := by unfold okS; rw [if_pos h1]; simp [h2]
        rw [if_pos h2, e, Bool.false_and]; rfl
      · have e : okS S.1 25 26 g i = true := by unfold okS; rw [if_pos h1]; simp [h2]
        rw [if_neg h2, e, Bool.true_and]
    · rw [if_neg h1]
      by_cases h2 : chn (10 * S.1 25 i - g) = 10
      · have e : okS S.1 25 26 g i = false := by unfold okS; rw [if_neg h1]; simp [h2]
        rw [if_pos h2, e, Bool.false_and]; rfl
      · have e : okS S.1 25 26 g i = true := by unfold okS; rw [if_neg h1]; simp [h2]
        rw [if_neg h2, e, Bool.true_and]
theorem X9_could_0 (sn : Nat) (hs : sn ≤ 6) (g : Int32) (S : St) (h : S.1 27 5 = nI sn) : ∀ (m i fuel : Nat), i + m = sn → m < fuel → f_X9_couldBe_4 fuel g 0 (nI i) S = some (0, S) := by
  intro m
  induction m with
  | zero =>
    intro i fuel hi hf
    obtain ⟨f, rfl⟩ : ∃ f, fuel = f + 1 := ⟨fuel - 1, by omega⟩
    unfold f_X9_couldBe_4
    rw [h, if_pos (nI_le (by omega) (by omega)), bz_0]
  | succ m ih =>
    intro i fuel hi hf
    obtain ⟨f, rfl⟩ : ∃ f, fuel = f + 1 := ⟨fuel - 1, by omega⟩
    have hh := ih (i + 1) f (by omega) (by omega)
    unfold f_X9_couldBe_4 f_X9_couldBe_57 f_X9_couldBe_58
    rw [h, if_neg (nI_ge (by omega) (by omega)), ck_n (show i < 6 by omega) (by decide), X9_chanceBy, bd_mk, if_pos rfl, nI_1, hh]
theorem X9_could_1 (sn : Nat) (hs : sn ≤ 6) (g : Int32) (S : St) (h : S.1 27 5 = nI sn) : ∀ (m i fuel : Nat), i + m = sn → m < fuel → f_X9_couldBe_4 fuel g 1 (nI i) S = some (if alF (okS S.1 30 31 g) i m then 1 else 0, S) := by
  intro m
  induction m with
  | zero =>
    intro i fuel hi hf
    obtain ⟨f, rfl⟩ : ∃ f, fuel = f + 1 := ⟨fuel - 1, by omega⟩
    unfold f_X9_couldBe_4
    rw [h, if_pos (nI_le (by omega) (by omega)), bz_1]
    rfl
  | succ m ih =>
    intro i fuel hi hf
    obtain ⟨f, rfl⟩ : ∃ f, fuel = f + 1 := ⟨fuel - 1, by omega⟩
    have hh := ih (i + 1) f (by omega) (by omega)
    have h0 := X9_could_0 sn hs g S h m (i + 1) f (by omega) (by omega)
    unfold f_X9_couldBe_4 f_X9_couldBe_57 f_X9_couldBe_53 f_X9_couldBe_58
    rw [h, if_neg (nI_ge (by omega) (by omega)), ck_n (show i < 6 by omega) (by decide), X9_chanceBy, bd_mk, if_neg (by decide), ck_n (show i < 6 by omega) (by decide), nI_clamp (by omega), nI_1, hh, h0]
    simp only [chn_le0, chn_ge10]
    rw [alF_s]
    by_cases h1 : S.1 31 i = 1
    · rw [if_pos h1]
      by_cases h2 : chn (10 * S.1 30 i - g) = 0
      · have e : okS S.1 30 31 g i = false := by unfold okS; rw [if_pos h1]; simp [h2]
        rw [if_pos h2, e, Bool.false_and]; rfl
      · have e : okS S.1 30 31 g i = true := by unfold okS; rw [if_pos h1]; simp [h2]
        rw [if_neg h2, e, Bool.true_and]
    · rw [if_neg h1]
      by_cases h2 : chn (10 * S.1 30 i - g) = 10
      · have e : okS S.1 30 31 g i = false := by unfold okS; rw [if_neg h1]; simp [h2]
        rw [if_pos h2, e, Bool.false_and]; rfl
      · have e : okS S.1 30 31 g i = true := by unfold okS; rw [if_neg h1]; simp [h2]
        rw [if_neg h2, e, Bool.true_and]
theorem allow_eq {S : St} (h3 : RSeen S.1) (g : Int32) : ∃ v : Int32, (v = 0 ∨ v = 1) ∧ f_X5_allow g S = some (v, S) ∧ f_X9_couldBe g S = some (v, S) := by
  obtain ⟨sn, t1, t2, t3, t4⟩ := h3
  refine ⟨if alF (okS S.1 25 26 g) 0 sn then 1 else 0, ?_, ?_, ?_⟩
  · split
    · exact Or.inr rfl
    · exact Or.inl rfl
  · unfold f_X5_allow
    exact X5_allow_loop sn t1 g S t2 sn 0 FU (by omega) (by show sn < 3000; omega)
  · unfold f_X9_couldBe
    rw [alF_congr (p := okS S.1 25 26 g) (q := okS S.1 30 31 g) sn 0 (fun k _ hk => by
      unfold okS
      rw [(t4 k (by omega)).1, (t4 k (by omega)).2])]
    exact X9_could_1 sn t1 g S t3 sn 0 FU (by omega) (by show sn < 3000; omega)
theorem unseen_loop {S : St} (h3 : RSeen S.1) {c ch : Nat} (hc : c < 4) (hch : ch ≤ 6) (h33 : S.1 33 c = nI ch) (y : Int32) : ∀ (m g n fuel : Nat) (l e : Int32), g + m = 10 * ch + 1 → m < fuel → n ≤ g → (n = 0 ∧ l = -9 ∨ 0 < n ∧ ¬ l = -9) → ∃ v, f_X8_unseen_45 fuel y (nI n) l e (nI (10 * ch)) (nI g) S = some (v, S) ∧ f_X9_unseen_35 fuel (nI c) y (nI n) l e (nI g) S = some (v, S) := by
  intro m
  induction m with
  | zero =>
    intro g n fuel l e hg hf hn hl
    obtain ⟨f, rfl⟩ : ∃ f, fuel = f + 1 := ⟨fuel - 1, by omega⟩
    unfold f_X8_unseen_45 f_X9_unseen_35 f_X8_unseen_111 f_X9_unseen_104
    rw [ck_n hc (by decide), nI_clamp (by omega), h33, ix10, if_pos (nI_lt (by omega) (by omega)), if_pos (nI_lt (by omega) (by omega))]
    by_cases h1 : y = 0
    · rw [if_pos h1]; exact ⟨_, rfl, rfl⟩
    · rw [if_neg h1]
      by_cases h2 : y = 1
      · rw [if_pos h2]; exact ⟨_, rfl, rfl⟩
      · rw [if_neg h2]; exact ⟨_, rfl, rfl⟩
  | succ m ih =>
    intro g n fuel l e hg hf hn hl
    obtain ⟨f, rfl⟩ : ∃ f, fuel = f + 1 := ⟨fuel - 1, by omega⟩
    obtain ⟨v, hv, e1, e2⟩ := allow_eq h3 (nI g)
    unfold f_X8_unseen_45 f_X9_unseen_35 f_X8_unseen_81 f_X9_unseen_69 f_X8_unseen_87 f_X9_unseen_78
    rw [ck_n hc (by decide), nI_clamp (by omega), h33, ix10, if_neg (nI_nlt (by omega) (by omega)), if_neg (nI_nlt (by omega) (by omega)), e1, e2, bd_mk, bd_mk]
    rcases hv with rfl | rfl
    · rw [if00, if00, nI_1]
      exact ih (g + 1) n f l e (by omega) (by omega) (by omega) hl
    · rw [if10, if10, nI_1, nI_1]
      rcases hl with ⟨rfl, rfl⟩ | ⟨h1, h2⟩
      · rw [if_pos rfl, if_pos (show nI 0 = 0 from rfl)]
        exact ih (g + 1) 1 f (nI g) (nI g) (by omega) (by omega) (by omega) (Or.inr ⟨by omega, neg9_ne (by omega)⟩)
      · rw [if_neg h2, if_neg (show ¬ nI n = 0 from nI_ne0 h1 (by omega))]
        exact ih (g + 1) (n + 1) f l (nI g) (by omega) (by omega) (by omega) (Or.inr ⟨by omega, h2⟩)
theorem sim_unseen (x y : Int32) : Sim (f_X8_unseen x y) (f_X9_unseen x y) := by
  refine sim_ask (fun nc S ⟨h1, h2, h3, h4, h5, h6, h7⟩ => ?_)
  unfold f_X8_unseen f_X9_unseen f_X8_unseen_20 f_X9_unseen_20 f_X6_mostGuard_9
  rcases cell_cases h1 x with ⟨e1, e2⟩ | ⟨c, hc, hc4, rfl, e1, e2⟩
  · rw [e1, e2 S rfl]
    exact ⟨-1, rfl, rfl⟩
  · rw [e1, e2 S rfl, bd_mk, bd_mk, if10, if10]
    obtain ⟨t1, ⟨ch, u1, u2, t2⟩, t3, t4⟩ := h1.2.2.2.1 c hc
    by_cases hy : 0 ≤ y.toInt ∧ y.toInt ≤ 2
    · rw [X8_w1 (by rw [i32_0, i32_2]; exact hy), X9_i1 (by rw [i64_0, i64_2]; exact hy), bd_mk, bd_mk, if10, if10, ck_n hc4 (by decide), nI_clamp (by omega), t2, ix10, bd_mk]
      exact unseen_loop h3 hc4 u2 (by rw [← t1]; exact t2) y (10 * ch + 1) 0 0 FU (-9) (-9) (by omega) (by show 10 * ch + 1 < 3000; omega) (by omega) (Or.inl ⟨rfl, rfl⟩)
    · rw [X8_w0 (by rw [i32_0, i32_2]; exact hy), X9_i0 (by rw [i64_0, i64_2]; exact hy)]
      exact ⟨-1, rfl, rfl⟩
