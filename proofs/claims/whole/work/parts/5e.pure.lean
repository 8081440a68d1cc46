/-! ===== loops that fill, copy, count ===== -/
def cn (p : Nat → Bool) : Nat → Nat
  | 0 => 0
  | n + 1 => cn p n + (if p n then 1 else 0)
theorem cn_s (p : Nat → Bool) (n : Nat) : cn p (n + 1) = cn p n + (if p n then 1 else 0) := rfl
theorem cn_le (p : Nat → Bool) : ∀ n, cn p n ≤ n
  | 0 => Nat.le_refl _
  | n + 1 => by
    have := cn_le p n
    unfold cn
    split <;> omega
theorem cn_congr {p q : Nat → Bool} : ∀ n, (∀ k, k < n → p k = q k) → cn p n = cn q n
  | 0, _ => rfl
  | n + 1, h => by
    unfold cn
    rw [cn_congr n (fun k hk => h k (by omega)), h n (by omega)]
theorem cn_not (p : Nat → Bool) : ∀ n, cn (fun k => !p k) n + cn p n = n
  | 0 => rfl
  | n + 1 => by
    have := cn_not p n
    unfold cn
    cases p n <;> simp <;> omega
theorem fill_loop (q n : Nat) (v : Int32) (hn : n < 2 ^ 31) : ∀ (m i fuel : Nat) (S : St), i + m = n → m < fuel → ∃ S', f_J7_fill_53178_5 q n fuel v (nI i) (nI n) S = some S' ∧ (∀ k, k ≠ q → S'.1 k = S.1 k) ∧ (∀ j, S'.1 q j = if i ≤ j ∧ j < n then v else S.1 q j) := by
  intro m
  induction m with
  | zero =>
    intro i fuel S hi hf
    obtain ⟨f, rfl⟩ : ∃ f, fuel = f + 1 := ⟨fuel - 1, by omega⟩
    refine ⟨S, ?_, fun _ _ => rfl, fun j => ?_⟩
    · unfold f_J7_fill_53178_5
      rw [if_pos (nI_le (by omega) (by omega))]
    · rw [if_neg (by omega)]
  | succ m ih =>
    intro i fuel S hi hf
    obtain ⟨f, rfl⟩ : ∃ f, fuel = f + 1 := ⟨fuel - 1, by omega⟩
    obtain ⟨S', e1, e2, e3⟩ := ih (i + 1) f (upI S q i v) (by omega) (by omega)
    refine ⟨S', ?_, fun k hk => ?_, fun j => ?_⟩
    · unfold f_J7_fill_53178_5
      rw [if_neg (nI_ge (by omega) hn), ck_n (by omega) hn, lt_mk, nI_clamp (by omega), nI_1]
      exact e1
    · rw [e2 k hk, up_r hk]
    · rw [e3 j, up_e]
      by_cases h1 : j = i
      · subst h1
        rw [if_neg (by omega), if_pos ⟨rfl, rfl⟩, if_pos (by omega)]
      · rw [if_neg (c := q = q ∧ j = i) (fun z => h1 z.2)]
        by_cases h2 : i + 1 ≤ j ∧ j < n
        · rw [if_pos h2, if_pos (by omega)]
        · rw [if_neg h2, if_neg (by omega)]
theorem fill_ok (q n : Nat) (v : Int32) (hn : n < 2999) (S : St) : ∃ S', f_J7_fill_53178 q n v S = some S' ∧ (∀ k, k ≠ q → S'.1 k = S.1 k) ∧ (∀ j, j < n → S'.1 q j = v) := by
  obtain ⟨S', e1, e2, e3⟩ := fill_loop q n v (by omega) n 0 FU S (by omega) (by show n < 3000; omega)
  refine ⟨S', ?_, e2, fun j hj => by rw [e3 j, if_pos (by omega)]⟩
  unfold f_J7_fill_53178
  rw [lt_mk]
  exact e1
theorem callsOf_loop (q : Nat) (c : Int32) (S : St) : ∀ (m i fuel : Nat), i + m = 12 → m < fuel → f_X7_callsOf_4 q 12 fuel c (nI (cn (fun k => decide (S.1 q k = c)) i)) (nI i) S = some (nI (cn (fun k => decide (S.1 q k = c)) 12), S) := by
  intro m
  induction m with
  | zero =>
    intro i fuel hi hf
    obtain ⟨f, rfl⟩ : ∃ f, fuel = f + 1 := ⟨fuel - 1, by omega⟩
    obtain rfl : i = 12 := by omega
    unfold f_X7_callsOf_4
    rw [if_pos (show Int32.ofNat 12 ≤ nI 12 from nI_le (a := 12) (by omega) (by omega))]
  | succ m ih =>
    intro i fuel hi hf
    obtain ⟨f, rfl⟩ : ∃ f, fuel = f + 1 := ⟨fuel - 1, by omega⟩
    have h := ih (i + 1) f (by omega) (by omega)
    unfold f_X7_callsOf_4
    rw [if_neg (show ¬ Int32.ofNat 12 ≤ nI i from nI_ge (b := 12) (by omega) (by omega)), ck_n (by omega) (by omega), nI_clamp (by omega)]
    unfold f_X7_callsOf_23
    simp only [lt_mk, nI_1, Int32.add_zero]
    rw [cn_s _ i] at h
    by_cases hc : S.1 q i = c
    · rw [if_pos hc]
      simpa [hc] using h
    · rw [if_neg hc]
      simpa [hc] using h
theorem X7_callsOf (q : Nat) (c : Int32) (S : St) : f_X7_callsOf q 12 c S = some (nI (cn (fun k => decide (S.1 q k = c)) 12), S) := by
  unfold f_X7_callsOf
  exact callsOf_loop q c S 12 0 FU (by omega) (by decide)
theorem ix18 (i k : Nat) : (18 : Int32) * nI i + nI k = nI (18 * i + k) := by rw [show (18 : Int32) = nI 18 from rfl, pk_mul, nI_add]
theorem X9_get {i k : Nat} (hi : i < 12) (hk : k < 18) (S : St) : f_X9_get (nI i) (nI k) S = some (S.1 28 (18 * i + k), S) := by
  unfold f_X9_get
  rw [ix18, ck_n (by omega) (by omega), nI_clamp (by omega)]
theorem X9_set {i k : Nat} (hi : i < 12) (hk : k < 18) (v : Int32) (S : St) : f_X9_set (nI i) (nI k) v S = some (upI S 28 (18 * i + k) v) := by
  unfold f_X9_set
  rw [ix18, ck_n (by omega) (by omega), lt_mk, nI_clamp (by omega)]
theorem X9_get_0 {i : Nat} (hi : i < 12) (S : St) : f_X9_get (nI i) 0 S = some (S.1 28 (18 * i), S) := X9_get (k := 0) hi (by decide) S
theorem X9_set_0 {i : Nat} (hi : i < 12) (v : Int32) (S : St) : f_X9_set (nI i) 0 v S = some (upI S 28 (18 * i) v) := X9_set (k := 0) hi (by decide) v S
theorem X9_get_1 {i : Nat} (hi : i < 12) (S : St) : f_X9_get (nI i) 1 S = some (S.1 28 (18 * i + 1), S) := X9_get (k := 1) hi (by decide) S
theorem X9_set_1 {i : Nat} (hi : i < 12) (v : Int32) (S : St) : f_X9_set (nI i) 1 v S = some (upI S 28 (18 * i + 1) v) := X9_set (k := 1) hi (by decide) v S
theorem X9_get_2 {i : Nat} (hi : i < 12) (S : St) : f_X9_get (nI i) 2 S = some (S.1 28 (18 * i + 2), S) := X9_get (k := 2) hi (by decide) S
theorem X9_set_2 {i : Nat} (hi : i < 12) (v : Int32) (S : St) : f_X9_set (nI i) 2 v S = some (upI S 28 (18 * i + 2) v) := X9_set (k := 2) hi (by decide) v S
theorem X9_get_3 {i : Nat} (hi : i < 12) (S : St) : f_X9_get (nI i) 3 S = some (S.1 28 (18 * i + 3), S) := X9_get (k := 3) hi (by decide) S
theorem X9_set_3 {i : Nat} (hi : i < 12) (v : Int32) (S : St) : f_X9_set (nI i) 3 v S = some (upI S 28 (18 * i + 3) v) := X9_set (k := 3) hi (by decide) v S
theorem X9_get_4 {i : Nat} (hi : i < 12) (S : St) : f_X9_get (nI i) 4 S = some (S.1 28 (18 * i + 4), S) := X9_get (k := 4) hi (by decide) S
theorem X9_set_4 {i : Nat} (hi : i < 12) (v : Int32) (S : St) : f_X9_set (nI i) 4 v S = some (upI S 28 (18 * i + 4) v) := X9_set (k := 4) hi (by decide) v S
theorem X9_get_5 {i : Nat} (hi : i < 12) (S : St) : f_X9_get (nI i) 5 S = some (S.1 28 (18 * i + 5), S) := X9_get (k := 5) hi (by decide) S
theorem X9_set_5 {i : Nat} (hi : i < 12) (v : Int32) (S : St) : f_X9_set (nI i) 5 v S = some (upI S 28 (18 * i + 5) v) := X9_set (k := 5) hi (by decide) v S
theorem X9_get_6 {i : Nat} (hi : i < 12) (S : St) : f_X9_get (nI i) 6 S = some (S.1 28 (18 * i + 6), S) := X9_get (k := 6) hi (by decide) S
theorem X9_set_6 {i : Nat} (hi : i < 12) (v : Int32) (S : St) : f_X9_set (nI i) 6 v S = some (upI S 28 (18 * i + 6) v) := X9_set (k := 6) hi (by decide) v S
theorem X9_get_7 {i : Nat} (hi : i < 12) (S : St) : f_X9_get (nI i) 7 S = some (S.1 28 (18 * i + 7), S) := X9_get (k := 7) hi (by decide) S
theorem X9_set_7 {i : Nat} (hi : i < 12) (v : Int32) (S : St) : f_X9_set (nI i) 7 v S = some (upI S 28 (18 * i + 7) v) := X9_set (k := 7) hi (by decide) v S
theorem X9_get_8 {i : Nat} (hi : i < 12) (S : St) : f_X9_get (nI i) 8 S = some (S.1 28 (18 * i + 8), S) := X9_get (k := 8) hi (by decide) S
theorem X9_set_8 {i : Nat} (hi : i < 12) (v : Int32) (S : St) : f_X9_set (nI i) 8 v S = some (upI S 28 (18 * i + 8) v) := X9_set (k := 8) hi (by decide) v S
theorem X9_get_9 {i : Nat} (hi : i < 12) (S : St) : f_X9_get (nI i) 9 S = some (S.1 28 (18 * i + 9), S) := X9_get (k := 9) hi (by decide) S
theorem X9_set_9 {i : Nat} (hi : i < 12) (v : Int32) (S : St) : f_X9_set (nI i) 9 v S = some (upI S 28 (18 * i + 9) v) := X9_set (k := 9) hi (by decide) v S
theorem X9_busy_loop (c : Int32) (S : St) : ∀ (m i fuel : Nat), i + m = 12 → m < fuel → f_X9_busy_4 fuel c (nI (cn (fun k => decide (S.1 28 (18 * k) = 1) && decide (S.1 28 (18 * k + 1) = c)) i)) (nI i) S = some (nI (cn (fun k => decide (S.1 28 (18 * k) = 1) && decide (S.1 28 (18 * k + 1) = c)) 12), S) := by
  intro m
  induction m with
  | zero =>
    intro i fuel hi hf
    obtain ⟨f, rfl⟩ : ∃ f, fuel = f + 1 := ⟨fuel - 1, by omega⟩
    obtain rfl : i = 12 := by omega
    unfold f_X9_busy_4
    rw [if_pos (show (12 : Int32) ≤ nI 12 from nI_le (a := 12) (by omega) (by omega))]
  | succ m ih =>
    intro i fuel hi hf
    obtain ⟨f, rfl⟩ : ∃ f, fuel = f + 1 := ⟨fuel - 1, by omega⟩
    have h := ih (i + 1) f (by omega) (by omega)
    unfold f_X9_busy_4 f_X9_busy_35 f_X9_busy_36
    rw [if_neg (show ¬ (12 : Int32) ≤ nI i from nI_ge (b := 12) (by omega) (by omega)), X9_get_0 (by omega), bd_mk, X9_get_1 (by omega), bd_mk]
    simp only [lt_mk, nI_1, Int32.add_zero]
    rw [cn_s _ i] at h
    by_cases h1 : S.1 28 (18 * i) = 1
    · rw [if_pos h1]
      by_cases h2 : S.1 28 (18 * i + 1) = c
      · rw [if_pos h2]
        simpa [h1, h2] using h
      · rw [if_neg h2]
        simpa [h1, h2] using h
    · rw [if_neg h1]
      simpa [h1] using h
theorem X9_busy (c : Int32) (S : St) : f_X9_busy c S = some (nI (cn (fun k => decide (S.1 28 (18 * k) = 1) && decide (S.1 28 (18 * k + 1) = c)) 12), S) := by
  unfold f_X9_busy
  exact X9_busy_loop c S 12 0 FU (by omega) (by decide)
theorem X9_waiting_loop (c : Int32) (S : St) : ∀ (m i fuel : Nat), i + m = 12 → m < fuel → f_X9_waiting_4 fuel c (nI (cn (fun k => decide (S.1 28 (18 * k) = 1) && decide (S.1 28 (18 * k + 2) = c)) i)) (nI i) S = some (nI (cn (fun k => decide (S.1 28 (18 * k) = 1) && decide (S.1 28 (18 * k + 2) = c)) 12), S) := by
  intro m
  induction m with
  | zero =>
    intro i fuel hi hf
    obtain ⟨f, rfl⟩ : ∃ f, fuel = f + 1 := ⟨fuel - 1, by omega⟩
    obtain rfl : i = 12 := by omega
    unfold f_X9_waiting_4
    rw [if_pos (show (12 : Int32) ≤ nI 12 from nI_le (a := 12) (by omega) (by omega))]
  | succ m ih =>
    intro i fuel hi hf
    obtain ⟨f, rfl⟩ : ∃ f, fuel = f + 1 := ⟨fuel - 1, by omega⟩
    have h := ih (i + 1) f (by omega) (by omega)
    unfold f_X9_waiting_4 f_X9_waiting_35 f_X9_waiting_36
    rw [if_neg (show ¬ (12 : Int32) ≤ nI i from nI_ge (b := 12) (by omega) (by omega)), X9_get_0 (by omega), bd_mk, X9_get_2 (by omega), bd_mk]
    simp only [lt_mk, nI_1, Int32.add_zero]
    rw [cn_s _ i] at h
    by_cases h1 : S.1 28 (18 * i) = 1
    · rw [if_pos h1]
      by_cases h2 : S.1 28 (18 * i + 2) = c
      · rw [if_pos h2]
        simpa [h1, h2] using h
      · rw [if_neg h2]
        simpa [h1, h2] using h
    · rw [if_neg h1]
      simpa [h1] using h
theorem X9_waiting (c : Int32) (S : St) : f_X9_waiting c S = some (nI (cn (fun k => decide (S.1 28 (18 * k) = 1) && decide (S.1 28 (18 * k + 2) = c)) 12), S) := by
  unfold f_X9_waiting
  exact X9_waiting_loop c S 12 0 FU (by omega) (by decide)
theorem X9_calls_loop (S : St) (hS : ∀ k, k < 12 → S.1 28 (18 * k) = 0 ∨ S.1 28 (18 * k) = 1) : ∀ (m i fuel : Nat), i + m = 12 → m < fuel → f_X9_calls_4 fuel (nI (cn (fun k => decide (S.1 28 (18 * k) = 1)) i)) (nI i) S = some (nI (cn (fun k => decide (S.1 28 (18 * k) = 1)) 12), S) := by
  intro m
  induction m with
  | zero =>
    intro i fuel hi hf
    obtain ⟨f, rfl⟩ : ∃ f, fuel = f + 1 := ⟨fuel - 1, by omega⟩
    obtain rfl : i = 12 := by omega
    unfold f_X9_calls_4
    rw [if_pos (show (12 : Int32) ≤ nI 12 from nI_le (a := 12) (by omega) (by omega))]
  | succ m ih =>
    intro i fuel hi hf
    obtain ⟨f, rfl⟩ : ∃ f, fuel = f + 1 := ⟨fuel - 1, by omega⟩
    have h := ih (i + 1) f (by omega) (by omega)
    unfold f_X9_calls_4
    rw [if_neg (show ¬ (12 : Int32) ≤ nI i from nI_ge (b := 12) (by omega) (by omega)), X9_get_0 (by omega), bd_mk, lt_mk, nI_1]
    rw [cn_s _ i] at h
    rcases hS i (by omega) with h1 | h1
    · rw [h1, Int32.add_zero]
      have e : ¬ (0 : Int32) = 1 := by decide
      simpa [h1, e] using h
    · rw [h1, nI_1]
      simpa [h1] using h
theorem X9_calls (S : St) (hS : ∀ k, k < 12 → S.1 28 (18 * k) = 0 ∨ S.1 28 (18 * k) = 1) : f_X9_calls S = some (nI (cn (fun k => decide (S.1 28 (18 * k) = 1)) 12), S) := by
  unfold f_X9_calls
  exact X9_calls_loop S hS 12 0 FU (by omega) (by decide)
