/-! ===== the long run: weights ===== -/
def prd (f : Nat → Nat) : Nat → Nat
  | 0 => 1
  | n + 1 => prd f n * f n
def smm (f : Nat → Nat) : Nat → Nat
  | 0 => 0
  | n + 1 => smm f n + f n
theorem prd_s (f : Nat → Nat) (n : Nat) : prd f (n + 1) = prd f n * f n := rfl
theorem smm_s (f : Nat → Nat) (n : Nat) : smm f (n + 1) = smm f n + f n := rfl
def chN (C : Nat) (g : Int32) (k : Nat) : Nat := (chn (10 * (nI C - nI k) - g)).toNatClampNeg
theorem chn_nat (v : Int32) : ∃ q, q ≤ 10 ∧ chn v = nI q := by
  unfold chn
  by_cases h : 0 ≤ v
  · rw [if_pos h]
    by_cases h2 : 10 ≤ v
    · exact ⟨10, by omega, by rw [if_pos h2]; rfl⟩
    · rw [if_neg h2]
      rcases toInt_cases v 10 (by decide) with z | ⟨c, c1, c2⟩
      · rw [Int32.le_iff_toInt_le] at h h2
        rw [i32_0] at h
        rw [show (10 : Int32).toInt = 10 from by decide] at h2
        omega
      · exact ⟨c, by omega, c2⟩
  · exact ⟨0, by omega, by rw [if_neg h]; rfl⟩
theorem chN_eq (C : Nat) (g : Int32) (k : Nat) : chn (10 * (nI C - nI k) - g) = nI (chN C g k) ∧ chN C g k ≤ 10 := by
  obtain ⟨q, q1, q2⟩ := chn_nat (10 * (nI C - nI k) - g)
  unfold chN
  rw [q2, nI_clamp (by omega)]
  exact ⟨rfl, q1⟩
def fac (a b C : Nat) (g : Int32) (k : Nat) : Nat := a * chN C g k + 10 * b
def abv (c b j : Nat) : Nat := 10 * (b + 1 + j) * c
def Wt (a b c C : Nat) (g : Int32) (n : Nat) : Nat := prd (fac a b C g) n * prd (abv c n) (C - n)
theorem fac_le {a b C k : Nat} {g : Int32} (ha : a ≤ 9) (hb : b ≤ 9) : fac a b C g k ≤ 180 := by
  have h := (chN_eq C g k).2
  unfold fac
  have : a * chN C g k ≤ 9 * 10 := Nat.mul_le_mul ha h
  omega
theorem fac_eq {a b C k : Nat} {g : Int32} (ha : a ≤ 9) (hb : b ≤ 9) : (nI a * nI (chN C g k) + 10 * nI b).toInt64 = lI (fac a b C g k) := by
  have h := fac_le (C := C) (k := k) (g := g) ha hb
  rw [show (10 : Int32) = nI 10 from rfl, pk_mul, pk_mul, nI_add]
  exact nI_long (by unfold fac at h; omega)
theorem abv_eq {c b j : Nat} (hc : c ≤ 9) (h : b + 1 + j ≤ 6) : (10 * nI (b + 1 + j) * nI c).toInt64 = lI (abv c b j) ∧ (10 * nI c * nI (b + 1 + j)).toInt64 = lI (abv c b j) ∧ abv c b j ≤ 540 := by
  have h1 : 10 * (b + 1 + j) * c ≤ 60 * 9 := Nat.mul_le_mul (by omega) hc
  refine ⟨?_, ?_, h1⟩
  · rw [show (10 : Int32) = nI 10 from rfl, pk_mul, pk_mul]
    exact nI_long (by omega)
  · rw [show (10 : Int32) = nI 10 from rfl, pk_mul, pk_mul, show 10 * c * (b + 1 + j) = 10 * (b + 1 + j) * c by rw [Nat.mul_right_comm]]
    exact nI_long (by omega)
theorem w72 {C c b P : Nat} (hC : C ≤ 6) (hc : c ≤ 9) (hb : b ≤ C) {S : St} (e : S.1 22 1 = nI C) (k18 : Int32 → Int32 → Int32 → Int32 → St → Option St) (x3 x4 : Int32) : ∀ (m j fuel : Nat), j + m = C - b → m < fuel → f_X3_weigh_72 k18 fuel x3 x4 (nI c) (nI b) (lI (P * prd (abv c b) j)) (nI (b + 1 + j)) S = k18 x3 x4 (nI c) (nI (b + 1)) (upL S 23 b (lI (P * prd (abv c b) (C - b)))) := by
  intro m
  induction m with
  | zero =>
    intro j fuel h1 h2
    obtain ⟨f, rfl⟩ : ∃ g, fuel = g + 1 := ⟨fuel - 1, by omega⟩
    obtain rfl : j = C - b := by omega
    rw [f_X3_weigh_72, e, if_pos (nI_lt (by omega) (by omega)), ck_n (by omega) (by decide), lt_mk, nI_clamp (by omega), nI_1]
  | succ m ih =>
    intro j fuel h1 h2
    obtain ⟨f, rfl⟩ : ∃ g, fuel = g + 1 := ⟨fuel - 1, by omega⟩
    have := ih (j + 1) f (by omega) (by omega)
    rw [prd_s, ← Nat.mul_assoc] at this
    rw [f_X3_weigh_72, e, if_neg (nI_nlt (by omega) (by omega)), lt_mk, (abv_eq hc (show b + 1 + j ≤ 6 by omega)).1, lI_mul, nI_1]
    exact this
theorem w33 {C a bb c b : Nat} {g : Int32} (hC : C ≤ 6) (ha : a ≤ 9) (hbb : bb ≤ 9) (hc : c ≤ 9) (hb : b ≤ C) {S : St} (e : S.1 22 1 = nI C) (e2 : S.1 22 2 = g) (k18 : Int32 → Int32 → Int32 → Int32 → St → Option St) : ∀ (m k fuel : Nat), k + m = b → m < fuel → f_X3_weigh_33 k18 fuel (nI a) (nI bb) (nI c) (nI b) (lI (prd (fac a bb C g) k)) (nI k) S = k18 (nI a) (nI bb) (nI c) (nI (b + 1)) (upL S 23 b (lI (Wt a bb c C g b))) := by
  intro m
  induction m with
  | zero =>
    intro k fuel h1 h2
    obtain ⟨f, rfl⟩ : ∃ g, fuel = g + 1 := ⟨fuel - 1, by omega⟩
    obtain rfl : k = b := by omega
    have := w72 (P := prd (fac a bb C g) k) hC hc hb e k18 (nI a) (nI bb) (C - k) 0 FU (by omega) (by show C - k < 3000; omega)
    rw [show prd (abv c k) 0 = 1 from rfl, Nat.mul_one, Nat.add_zero] at this
    rw [f_X3_weigh_33, if_pos (nI_le (by omega) (by omega)), lt_mk, nI_1, this]
    rfl
  | succ m ih =>
    intro k fuel h1 h2
    obtain ⟨f, rfl⟩ : ∃ g, fuel = g + 1 := ⟨fuel - 1, by omega⟩
    have := ih (k + 1) f (by omega) (by omega)
    rw [prd_s] at this
    rw [f_X3_weigh_33, if_neg (nI_ge (by omega) (by omega))]
    unfold f_X3_chanceWith
    rw [e, e2, X8_chance, bd_mk, bd_mk, (chN_eq C g k).1, lt_mk, fac_eq ha hbb, lI_mul, nI_1]
    exact this
theorem w18 {C a bb c : Nat} {g : Int32} (hC : C ≤ 6) (ha : a ≤ 9) (hbb : bb ≤ 9) (hc : c ≤ 9) : ∀ (m b fuel : Nat) (S : St), b + m = C + 1 → m < fuel → S.1 22 1 = nI C → S.1 22 2 = g → ∃ T, f_X3_weigh_18 fuel (nI a) (nI bb) (nI c) (nI b) S = some T ∧ T.1 = S.1 ∧ (∀ k, k ≠ 23 → T.2 k = S.2 k) ∧ ∀ j, T.2 23 j = if b ≤ j ∧ j ≤ C then lI (Wt a bb c C g j) else S.2 23 j := by
  intro m
  induction m with
  | zero =>
    intro b fuel S h1 h2 h3 h4
    obtain ⟨f, rfl⟩ : ∃ g, fuel = g + 1 := ⟨fuel - 1, by omega⟩
    refine ⟨S, ?_, rfl, fun _ _ => rfl, fun j => by rw [if_neg (by omega)]⟩
    rw [f_X3_weigh_18, h3, if_pos (nI_lt (by omega) (by omega))]
  | succ m ih =>
    intro b fuel S h1 h2 h3 h4
    obtain ⟨f, rfl⟩ : ∃ g, fuel = g + 1 := ⟨fuel - 1, by omega⟩
    obtain ⟨T, e1, e2, e3, e4⟩ := ih (b + 1) f (upL S 23 b (lI (Wt a bb c C g b))) (by omega) (by omega) h3 h4
    refine ⟨T, ?_, e2, fun k hk => by rw [e3 k hk, upL_r hk], fun j => ?_⟩
    · rw [f_X3_weigh_18, h3, if_neg (nI_nlt (by omega) (by omega))]
      rw [show f_X3_weigh_33 (f_X3_weigh_18 f) FU (nI a) (nI bb) (nI c) (nI b) 1 0 S = _ from w33 hC ha hbb hc (by omega) h3 h4 (f_X3_weigh_18 f) b 0 FU (by omega) (by show b < 3000; omega)]
      exact e1
    · rw [e4 j]
      by_cases hj : j = b
      · subst hj
        rw [if_neg (by omega), if_pos (by omega), upL_s]
      · rw [upL_j hj]
        by_cases hj2 : b + 1 ≤ j ∧ j ≤ C
        · rw [if_pos hj2, if_pos (by omega)]
        · rw [if_neg hj2, if_neg (by omega)]
theorem X3_weigh {C a bb c : Nat} {g : Int32} (hC : C ≤ 6) (ha : a ≤ 9) (hbb : bb ≤ 9) (hc : c ≤ 9) (S : St) : ∃ T, f_X3_weigh (nI C) g (nI a) (nI bb) (nI c) S = some T ∧ (∀ k, k ≠ 22 → T.1 k = S.1 k) ∧ T.1 22 1 = nI C ∧ T.1 22 2 = g ∧ (∀ k, k ≠ 23 → T.2 k = S.2 k) ∧ ∀ j, j ≤ C → T.2 23 j = lI (Wt a bb c C g j) := by
  obtain ⟨T, e1, e2, e3, e4⟩ := w18 (g := g) hC ha hbb hc (C + 1) 0 FU (upI (upI S 22 1 (nI C)) 22 2 g) (by omega) (by show C + 1 < 3000; omega) (by rw [up_j (by decide), up_s]) up_s
  refine ⟨T, ?_, fun k hk => by rw [e2, up_r hk, up_r hk], by rw [e2, up_j (by decide), up_s], by rw [e2, up_s], fun k hk => by rw [e3 k hk]; rfl, fun j hj => by rw [e4, if_pos (by omega)]⟩
  unfold f_X3_weigh
  rw [if_neg (show ¬ (6 : Int32) < nI C from nI_nlt (a := 6) (by omega) (by omega)), lt_mk, lt_mk, lt_mk]
  exact e1
theorem r79 {C c b P : Nat} (hC : C ≤ 6) (hc : c ≤ 9) (hb : b ≤ C) (k14 : Int32 → Int32 → Int32 → Int32 → Int32 → Int64 → Int32 → St → Option (Int64 × St)) (x2 x3 x4 : Int32) (x7 : Int64) : ∀ (m j fuel : Nat) (S : St), j + m = C - b → m < fuel → S.2 41 b = lI (P * prd (abv c b) j) → ∃ T, f_X9_shares_79 k14 fuel x2 x3 x4 (nI c) (nI C) x7 (nI b) (nI (b + 1 + j)) S = k14 x2 x3 x4 (nI c) (nI C) (x7 + lI (P * prd (abv c b) (C - b))) (nI (b + 1)) T ∧ T.1 = S.1 ∧ (∀ k, k ≠ 41 → T.2 k = S.2 k) ∧ (∀ q, q ≠ b → T.2 41 q = S.2 41 q) ∧ T.2 41 b = lI (P * prd (abv c b) (C - b)) := by
  intro m
  induction m with
  | zero =>
    intro j fuel S h1 h2 h3
    obtain ⟨f, rfl⟩ : ∃ g, fuel = g + 1 := ⟨fuel - 1, by omega⟩
    obtain rfl : j = C - b := by omega
    refine ⟨S, ?_, rfl, fun _ _ => rfl, fun _ _ => rfl, h3⟩
    rw [f_X9_shares_79, if_pos (nI_lt (by omega) (by omega)), ck_n (by omega) (by decide), lt_mk, nI_clamp (by omega), nI_1, h3]
  | succ m ih =>
    intro j fuel S h1 h2 h3
    obtain ⟨f, rfl⟩ : ∃ g, fuel = g + 1 := ⟨fuel - 1, by omega⟩
    obtain ⟨T, e1, e2, e3, e4, e5⟩ := ih (j + 1) f (upL S 41 b (lI (P * prd (abv c b) (j + 1)))) (by omega) (by omega) upL_s
    refine ⟨T, ?_, e2, fun k hk => by rw [e3 k hk, upL_r hk], fun q hq => by rw [e4 q hq, upL_j hq], e5⟩
    rw [f_X9_shares_79, if_neg (nI_nlt (by omega) (by omega)), ck_n (by omega) (by decide), ck_n (by omega) (by decide), lt_mk, nI_clamp (by omega), h3, (abv_eq hc (show b + 1 + j ≤ 6 by omega)).2.1, lI_mul, Nat.mul_assoc, ← prd_s, nI_1]
    exact e1
theorem r32 {C a bb c b : Nat} {g : Int32} (hC : C ≤ 6) (ha : a ≤ 9) (hbb : bb ≤ 9) (hc : c ≤ 9) (hb : b ≤ C) (k14 : Int32 → Int32 → Int32 → Int32 → Int32 → Int64 → Int32 → St → Option (Int64 × St)) (x7 : Int64) : ∀ (m k fuel : Nat) (S : St), k + m = b → m < fuel → S.2 41 b = lI (prd (fac a bb C g) k) → ∃ T, f_X9_shares_32 k14 fuel g (nI a) (nI bb) (nI c) (nI C) x7 (nI b) (nI k) S = k14 g (nI a) (nI bb) (nI c) (nI C) (x7 + lI (Wt a bb c C g b)) (nI (b + 1)) T ∧ T.1 = S.1 ∧ (∀ k, k ≠ 41 → T.2 k = S.2 k) ∧ (∀ q, q ≠ b → T.2 41 q = S.2 41 q) ∧ T.2 41 b = lI (Wt a bb c C g b) := by
  intro m
  induction m with
  | zero =>
    intro k fuel S h1 h2 h3
    obtain ⟨f, rfl⟩ : ∃ g, fuel = g + 1 := ⟨fuel - 1, by omega⟩
    obtain rfl : k = b := by omega
    obtain ⟨T, e1, e2, e3, e4, e5⟩ := r79 (P := prd (fac a bb C g) k) hC hc hb k14 g (nI a) (nI bb) x7 (C - k) 0 FU S (by omega) (by show C - k < 3000; omega) (by rw [show prd (abv c k) 0 = 1 from rfl, Nat.mul_one]; exact h3)
    refine ⟨T, ?_, e2, e3, e4, e5⟩
    rw [f_X9_shares_32, if_pos (nI_le (by omega) (by omega)), lt_mk, nI_1]
    exact e1
  | succ m ih =>
    intro k fuel S h1 h2 h3
    obtain ⟨f, rfl⟩ : ∃ g, fuel = g + 1 := ⟨fuel - 1, by omega⟩
    obtain ⟨T, e1, e2, e3, e4, e5⟩ := ih (k + 1) f (upL S 41 b (lI (prd (fac a bb C g) (k + 1)))) (by omega) (by omega) upL_s
    refine ⟨T, ?_, e2, fun k hk => by rw [e3 k hk, upL_r hk], fun q hq => by rw [e4 q hq, upL_j hq], e5⟩
    rw [f_X9_shares_32, if_neg (nI_ge (by omega) (by omega)), ck_n (by omega) (by decide), X9_chanceBy, bd_mk, ck_n (by omega) (by decide), (chN_eq C g k).1, lt_mk, nI_clamp (by omega), h3, fac_eq ha hbb, lI_mul, ← prd_s, nI_1]
    exact e1
theorem r14 {C a bb c : Nat} {g : Int32} (hC : C ≤ 6) (ha : a ≤ 9) (hbb : bb ≤ 9) (hc : c ≤ 9) : ∀ (m b fuel : Nat) (S : St), b + m = C + 1 → m < fuel → (∀ j, j < b → S.2 41 j = lI (Wt a bb c C g j)) → ∃ T, f_X9_shares_14 fuel g (nI a) (nI bb) (nI c) (nI C) (lI (smm (Wt a bb c C g) b)) (nI b) S = some (lI (smm (Wt a bb c C g) (C + 1)), T) ∧ T.1 = S.1 ∧ (∀ k, k ≠ 41 → T.2 k = S.2 k) ∧ ∀ j, j ≤ C → T.2 41 j = lI (Wt a bb c C g j) := by
  intro m
  induction m with
  | zero =>
    intro b fuel S h1 h2 h3
    obtain ⟨f, rfl⟩ : ∃ g, fuel = g + 1 := ⟨fuel - 1, by omega⟩
    obtain rfl : b = C + 1 := by omega
    refine ⟨S, ?_, rfl, fun _ _ => rfl, fun j hj => h3 j (by omega)⟩
    rw [f_X9_shares_14, if_pos (nI_lt (by omega) (by omega))]
  | succ m ih =>
    intro b fuel S h1 h2 h3
    obtain ⟨f, rfl⟩ : ∃ g, fuel = g + 1 := ⟨fuel - 1, by omega⟩
    obtain ⟨T, e1, e2, e3, e4, e5⟩ := r32 (g := g) hC ha hbb hc (show b ≤ C by omega) (f_X9_shares_14 f) (lI (smm (Wt a bb c C g) b)) b 0 FU (upL S 41 b 1) (by omega) (by show b < 3000; omega) upL_s
    obtain ⟨U, d1, d2, d3, d4⟩ := ih (b + 1) f T (by omega) (by omega) (fun j hj => by
      by_cases hjb : j = b
      · subst hjb; exact e5
      · rw [e4 j hjb, upL_j hjb]; exact h3 j (by omega))
    refine ⟨U, ?_, by rw [d2, e2]; rfl, fun k hk => by rw [d3 k hk, e3 k hk, upL_r hk], d4⟩
    rw [f_X9_shares_14, if_neg (nI_nlt (by omega) (by omega)), ck_n (by omega) (by decide), lt_mk, nI_clamp (by omega)]
    rw [show f_X9_shares_32 (f_X9_shares_14 f) FU g (nI a) (nI bb) (nI c) (nI C) (lI (smm (Wt a bb c C g) b)) (nI b) 0 (upL S 41 b 1) = _ from e1, lI_add, ← smm_s]
    exact d1
theorem X9_shares {C a bb c d : Nat} {g : Int32} (hC : C ≤ 6) (ha : a ≤ 9) (hbb : bb ≤ 9) (hc : c ≤ 9) (hd : d < 4) {S : St} (e : S.1 33 d = nI C) : ∃ T, f_X9_shares (nI d) g (nI a) (nI bb) (nI c) S = some (lI (smm (Wt a bb c C g) (C + 1)), T) ∧ T.1 = S.1 ∧ (∀ k, k ≠ 41 → T.2 k = S.2 k) ∧ ∀ j, j ≤ C → T.2 41 j = lI (Wt a bb c C g j) := by
  obtain ⟨T, e1, e2, e3, e4⟩ := r14 (g := g) hC ha hbb hc (C + 1) 0 FU S (by omega) (by show C + 1 < 3000; omega) (fun j hj => absurd hj (by omega))
  refine ⟨T, ?_, e2, e3, e4⟩
  unfold f_X9_shares
  rw [ck_n hd (by decide), lt_mk, nI_clamp (by omega), e]
  exact e1
