/-! ===== questions: nothing changes ===== -/
theorem now_of {nc : Nat} {A : Nat → Nat → Int32} (h : TR nc A 42 0) : TRn nc (fun k j => A (42 + k) j) (fun i => A 28 i) := by
  unfold TR at h
  simpa only [Nat.zero_add] using h
theorem now_call {nc : Nat} {A : Nat → Nat → Int32} (h : TR nc A 42 0) {i : Nat} (hi : i < 12) : (A 45 i = -9 ∧ A 46 i = -9 ∧ A 28 (18 * i) = 0) ∨ (A 28 (18 * i) = 1 ∧ (∃ o, o < nc ∧ A 45 i = nI o) ∧ (A 46 i = -9 ∨ ∃ q, q < nc ∧ A 46 i = nI q ∧ ¬ A 45 i = nI q) ∧
  A 45 i = A 28 (18 * i + 1) ∧ A 46 i = A 28 (18 * i + 2) ∧ A 47 i = A 28 (18 * i + 3) ∧ A 48 i = A 28 (18 * i + 4) ∧ A 49 i = A 28 (18 * i + 9) ∧ A 50 i = A 28 (18 * i + 5) ∧ A 51 i = A 28 (18 * i + 6) ∧ A 52 i = A 28 (18 * i + 7) ∧ A 53 i = A 28 (18 * i + 8) ∧
  (∀ c, c < 4 → A 54 (4 * i + c) = A 28 (18 * i + 10 + c) ∧ (∃ l, l ≤ 6400 ∧ A 54 (4 * i + c) = nI l) ∧ (nc ≤ c → A 54 (4 * i + c) = 0)) ∧
  (∀ c, c < 4 → A 55 (4 * i + c) = A 28 (18 * i + 14 + c)) ∧ -6400 ≤ (A 52 i).toInt ∧ (A 52 i).toInt ≤ 6400) := (now_of h).2.1 i hi
theorem now_is {nc : Nat} {A : Nat → Nat → Int32} (h : TR nc A 42 0) {i : Nat} (hi : i < 12) : A 28 (18 * i) = 0 ∨ A 28 (18 * i) = 1 := by
  rcases now_call h hi with ⟨-, -, h⟩ | ⟨h, -⟩
  · exact Or.inl h
  · exact Or.inr h
theorem ne01 : ¬ (0 : Int32) = 1 := by decide
theorem now_own {nc : Nat} {A : Nat → Nat → Int32} (hnc : nc ≤ 4) (h : TR nc A 42 0) {i : Nat} (hi : i < 12) : A 45 i = -9 ↔ A 28 (18 * i) = 0 := by
  rcases now_call h hi with ⟨h1, -, h⟩ | ⟨h, ⟨o, ho, e⟩, -⟩
  · simp [h1, h]
  · rw [h, e]
    constructor
    · intro z; exact absurd z (neg9_ne (by omega))
    · intro z; exact absurd z (by decide)
theorem X7_has_bad (x : Int32) (S : St) (h : ¬ (0 ≤ x.toInt ∧ x.toInt < 12)) : f_X7_has x S = some (0, S) := by
  unfold f_X7_has f_X7_has_25 f_X7_has_26
  have e0 : (0 : Int32).toInt = 0 := by decide
  have e4 : (12 : Int32).toInt = 12 := by decide
  simp only [Int32.lt_iff_toInt_lt, Int32.le_iff_toInt_le, e0, e4]
  by_cases h1 : x.toInt < 0
  · rw [if_pos h1, bz_0]
  · rw [if_neg h1, if_pos (by omega), bz_0]
theorem X7_has_n {i : Nat} (hi : i < 12) (S : St) : f_X7_has (nI i) S = some (if S.1 45 i = -9 then 0 else 1, S) := by
  unfold f_X7_has f_X7_has_25 f_X7_has_26
  rw [if_neg (nI_pos (by omega)), if_neg (show ¬ (12 : Int32) ≤ nI i from nI_ge (b := 12) (by omega) (by omega)), ck_n hi (by decide), nI_clamp (by omega)]
  by_cases h : S.1 45 i = -9
  · rw [if_pos h, if_pos h, bz_0]
  · rw [if_neg h, if_neg h, bz_1]
theorem X9_isCall_bad (x : Int32) (S : St) (h : ¬ (0 ≤ x.toInt ∧ x.toInt < 12)) : f_X9_isCall x S = some (0, S) := by
  unfold f_X9_isCall f_X9_isCall_26 f_X9_isCall_27
  rw [X9_in, i64_0, i64_11, if_neg (by omega), bd_mk, if_pos rfl, bz_0]
theorem X9_isCall_n {i : Nat} (hi : i < 12) (S : St) : f_X9_isCall (nI i) S = some (if S.1 28 (18 * i) = 1 then 1 else 0, S) := by
  unfold f_X9_isCall f_X9_isCall_26 f_X9_isCall_27
  rw [X9_in, i64_0, i64_11, nI_toInt (by omega), if_pos (by omega), bd_mk, if_neg (by decide), X9_get_0 hi, bd_mk]
  by_cases h : S.1 28 (18 * i) = 1
  · rw [if_pos h, if_pos h, bz_1]
  · rw [if_neg h, if_neg h, bz_0]
theorem ix4 (i k : Nat) : nI i * 4 + nI k = nI (4 * i + k) := by rw [show (4 : Int32) = nI 4 from rfl, pk_mul, nI_add, Nat.mul_comm]
theorem X6_has_n {nc c : Nat} (hnc : nc ≤ 4) (hc : c < nc) (S : St) (h : S.1 9 0 = nI nc) : f_X6_has_9 (nI c) S = some (1, S) := by
  rw [X6_has hnc _ S h, nI_toInt (by omega), if_pos (show 0 ≤ (c : Int) ∧ (c : Int) < nc by omega)]
theorem X6_has_bad {nc : Nat} (hnc : nc ≤ 4) {x : Int32} (hx : ¬ (0 ≤ x.toInt ∧ x.toInt < nc)) (S : St) (h : S.1 9 0 = nI nc) : f_X6_has_9 x S = some (0, S) := by
  rw [X6_has hnc _ S h, if_neg hx]
theorem X9_isCell_n {nc c : Nat} (hnc : nc ≤ 4) (hc : c < nc) (S : St) (h : S.1 27 8 = nI nc) : f_X9_isCell (nI c) S = some (1, S) := by
  rw [X9_isCell hnc _ S h, nI_toInt (by omega), if_pos (show 0 ≤ (c : Int) ∧ (c : Int) < nc by omega)]
theorem X9_isCell_bad {nc : Nat} (hnc : nc ≤ 4) {x : Int32} (hx : ¬ (0 ≤ x.toInt ∧ x.toInt < nc)) (S : St) (h : S.1 27 8 = nI nc) : f_X9_isCell x S = some (0, S) := by
  rw [X9_isCell hnc _ S h, if_neg hx]
theorem X8_w1 {x l m : Int32} (h : l.toInt ≤ x.toInt ∧ x.toInt ≤ m.toInt) (S : St) : f_X8_within x l m S = some (1, S) := by rw [X8_within, if_pos h]
theorem X8_w0 {x l m : Int32} (h : ¬ (l.toInt ≤ x.toInt ∧ x.toInt ≤ m.toInt)) (S : St) : f_X8_within x l m S = some (0, S) := by rw [X8_within, if_neg h]
theorem X9_i1 {x : Int32} {l m : Int64} (h : l.toInt ≤ x.toInt ∧ x.toInt ≤ m.toInt) (S : St) : f_X9_in x.toInt64 l m S = some (1, S) := by rw [X9_in, if_pos h]
theorem X9_i0 {x : Int32} {l m : Int64} (h : ¬ (l.toInt ≤ x.toInt ∧ x.toInt ≤ m.toInt)) (S : St) : f_X9_in x.toInt64 l m S = some (0, S) := by rw [X9_in, if_neg h]
theorem if10 {ρ : Type} {X Y : Option ρ} : (if (1 : Int32) = 0 then X else Y) = Y := rfl
theorem if00 {ρ : Type} {X Y : Option ρ} : (if (0 : Int32) = 0 then X else Y) = X := rfl
/-- the class's and the reference's test of a call, by the relation -/
theorem call_cases {nc : Nat} {S : St} (hnc : nc ≤ 4) (h4 : TR nc S.1 42 0) (x : Int32) : (f_X7_has x S = some (0, S) ∧ ∀ S', S'.1 28 = S.1 28 → f_X9_isCall x S' = some (0, S')) ∨ (∃ i, i < 12 ∧ x = nI i ∧ S.1 28 (18 * i) = 1 ∧ f_X7_has x S = some (1, S) ∧ ∀ S', S'.1 28 = S.1 28 → f_X9_isCall x S' = some (1, S')) := by
  rcases toInt_cases x 12 (by decide) with hx | ⟨i, hi, rfl⟩
  · exact Or.inl ⟨X7_has_bad x S hx, fun S' _ => X9_isCall_bad x S' hx⟩
  · rcases now_call h4 hi with ⟨g1, -, g2⟩ | ⟨g1, ⟨o, ho, g2⟩, -⟩
    · exact Or.inl ⟨by rw [X7_has_n hi, if_pos g1], fun S' e => by rw [X9_isCall_n hi, e, g2, if_neg ne01]⟩
    · have hown : ¬ S.1 45 i = -9 := by
        rw [g2]
        exact neg9_ne (by omega)
      exact Or.inr ⟨i, hi, rfl, g1, by rw [X7_has_n hi, if_neg hown], fun S' e => by rw [X9_isCall_n hi, e, if_pos g1]⟩
theorem cell_cases {nc : Nat} {S : St} (h1 : RTold nc S.1) (x : Int32) : (f_X6_has_9 x S = some (0, S) ∧ ∀ S', S'.1 27 8 = S.1 27 8 → f_X9_isCell x S' = some (0, S')) ∨ (∃ c, c < nc ∧ c < 4 ∧ x = nI c ∧ f_X6_has_9 x S = some (1, S) ∧ ∀ S', S'.1 27 8 = S.1 27 8 → f_X9_isCell x S' = some (1, S')) := by
  have hnc := h1.1
  rcases toInt_cases x nc (by omega) with hx | ⟨c, hc, rfl⟩
  · exact Or.inl ⟨X6_has_bad hnc hx S h1.2.1, fun S' e => X9_isCell_bad hnc hx S' (by rw [e]; exact h1.2.2.1)⟩
  · exact Or.inr ⟨c, hc, by omega, rfl, X6_has_n hnc hc S h1.2.1, fun S' e => X9_isCell_n hnc hc S' (by rw [e]; exact h1.2.2.1)⟩
/-- a method that only answers: both alike, nothing changes -/
theorem sim_ask {f g : St → Option (Int32 × St)} (h : ∀ (nc : Nat) (S : St), Rl nc S.1 → ∃ v, f S = some (v, S) ∧ g S = some (v, S)) : Sim f g := by
  intro nc S hr
  obtain ⟨v, h1, h2⟩ := h nc S hr
  exact ⟨v, S, S, nc, h1, h2, hr⟩
theorem sim_level (x y z : Int32) : Sim (f_X8_level x y z) (f_X9_level x y z) := by
  refine sim_ask (fun nc S ⟨h1, h2, h3, h4, h5, h6, h7⟩ => ?_)
  unfold f_X8_level f_X9_level f_X8_level_31 f_X9_level_26 f_X8_level_67 f_X9_level_41
  rcases call_cases h1.1 h4 x with ⟨e1, e2⟩ | ⟨i, hi, rfl, g1, e1, e2⟩
  · rw [e1, e2 S rfl]
    exact ⟨-1, rfl, rfl⟩
  · rw [e1, e2 S rfl, bd_mk, bd_mk, if10, if10]
    rcases now_call h4 hi with ⟨-, -, g2⟩ | ⟨-, -, -, -, -, -, -, -, -, -, -, -, gl, gs, -⟩
    · rw [g2] at g1
      exact absurd g1 ne01
    · rcases cell_cases h1 y with ⟨e3, e4⟩ | ⟨c, hc, hc4, rfl, e3, e4⟩
      · rw [e3, e4 S rfl]
        exact ⟨-1, rfl, rfl⟩
      · rw [e3, e4 S rfl, bd_mk, bd_mk, if10, if10]
        by_cases hz : 0 ≤ z.toInt ∧ z.toInt ≤ 1
        · rw [X8_w1 (by rw [i32_0, i32_1]; exact hz), X9_i1 (by rw [i64_0, i64_1]; exact hz), bd_mk, bd_mk, if10, if10, lt_mk, ix4, ck_n (by omega) (by decide), ck_n (by omega) (by decide), nI_clamp (by omega)]
          by_cases hz0 : z = 0
          · rw [if_pos hz0, if_pos hz0]
            rw [show (10 : Int32) + nI c = nI (10 + c) from nI_add 10 c, X9_get hi (by omega), bd_mk]
            refine ⟨_, rfl, ?_⟩
            rw [(gl c hc4).1, Nat.add_assoc]
          · rw [if_neg hz0, if_neg hz0]
            rw [show (14 : Int32) + nI c = nI (14 + c) from nI_add 14 c, X9_get hi (by omega), bd_mk]
            refine ⟨_, rfl, ?_⟩
            rw [gs c hc4, Nat.add_assoc]
        · rw [X8_w0 (by rw [i32_0, i32_1]; exact hz), X9_i0 (by rw [i64_0, i64_1]; exact hz)]
          exact ⟨-1, rfl, rfl⟩
theorem sw_out {ρ : Type} {x : Int32} {lo hi : Int} {X : Option ρ} {Y : Nat → Option ρ} (h : x.toInt < lo ∨ hi < x.toInt) : sw x lo hi X Y = X := if_pos h
theorem sw_n {ρ : Type} {n : Nat} {hi : Int} {X : Option ρ} {Y : Nat → Option ρ} (h : (n : Int) ≤ hi) (hn : n < 2 ^ 31) : sw (nI n) 0 hi X Y = Y n := by
  unfold sw
  rw [nI_toInt hn, if_neg (by omega)]
  congr 1
theorem sim_call (x y : Int32) : Sim (f_X8_call x y) (f_X9_call x y) := by
  refine sim_ask (fun nc S ⟨h1, h2, h3, h4, h5, h6, h7⟩ => ?_)
  unfold f_X8_call f_X9_call f_X9_call_20
  rcases call_cases h1.1 h4 x with ⟨e1, e2⟩ | ⟨i, hi, rfl, g1, e1, e2⟩
  · rw [e1, e2 S rfl]
    exact ⟨-1000000, rfl, rfl⟩
  · rw [e1, e2 S rfl, bd_mk, bd_mk, if10, if10]
    rcases now_call h4 hi with ⟨-, -, g2⟩ | ⟨-, -, -, g3, g4, g5, g6, g7, g8, g9, g10, g11, -⟩
    · rw [g2] at g1
      exact absurd g1 ne01
    · rcases toInt_cases y 7 (by decide) with hy | ⟨q, hq, rfl⟩
      · rw [sw_out (by omega), X9_i0 (by rw [i64_0, i64_6]; omega)]
        exact ⟨_, rfl, rfl⟩
      · rw [X9_i1 (by rw [i64_0, i64_6, nI_toInt (by omega)]; omega), bd_mk, if10, sw_n (hi := 6) (by omega) (by omega)]
        match q, hq with
        | 0, _ => rw [sw_n (by decide) (by decide)]; exact ⟨S.1 45 i, by show ck (nI i) 12 _ = _; rw [ck_n hi (by decide), nI_clamp (by omega)], by show bd _ _ = _; rw [X9_get_1 hi, bd_mk, g3]⟩
        | 1, _ => rw [sw_n (by decide) (by decide)]; exact ⟨S.1 46 i, by show ck (nI i) 12 _ = _; rw [ck_n hi (by decide), nI_clamp (by omega)], by show bd _ _ = _; rw [X9_get_2 hi, bd_mk, g4]⟩
        | 2, _ => rw [sw_n (by decide) (by decide)]; exact ⟨S.1 48 i, by show ck (nI i) 12 _ = _; rw [ck_n hi (by decide), nI_clamp (by omega)], by show bd _ _ = _; rw [X9_get_4 hi, bd_mk, g6]⟩
        | 3, _ => rw [sw_n (by decide) (by decide)]; exact ⟨S.1 50 i, by show ck (nI i) 12 _ = _; rw [ck_n hi (by decide), nI_clamp (by omega)], by show bd _ _ = _; rw [X9_get_5 hi, bd_mk, g8]⟩
        | 4, _ => rw [sw_n (by decide) (by decide)]; exact ⟨S.1 51 i, by show ck (nI i) 12 _ = _; rw [ck_n hi (by decide), nI_clamp (by omega)], by show bd _ _ = _; rw [X9_get_6 hi, bd_mk, g9]⟩
        | 5, _ => rw [sw_n (by decide) (by decide)]; exact ⟨S.1 52 i, by show ck (nI i) 12 _ = _; rw [ck_n hi (by decide), nI_clamp (by omega)], by show bd _ _ = _; rw [X9_get_7 hi, bd_mk, g10]⟩
        | 6, _ => rw [sw_out (by right; rw [nI_toInt (by decide)]; decide)]; exact ⟨S.1 53 i, by show ck (nI i) 12 _ = _; rw [ck_n hi (by decide), nI_clamp (by omega)], by show bd _ _ = _; rw [X9_get_8 hi, bd_mk, g11]⟩
        | q + 7, h => exact absurd h (by omega)
/-! ===== counts, chances ===== -/
theorem busy_eq {nc : Nat} {A : Nat → Nat → Int32} (hnc : nc ≤ 4) (h4 : TR nc A 42 0) {c : Nat} (hc : c < nc) : cn (fun k => decide (A 45 k = nI c)) 12 = cn (fun k => decide (A 28 (18 * k) = 1) && decide (A 28 (18 * k + 1) = nI c)) 12 := by
  refine cn_congr 12 (fun k hk => ?_)
  rcases now_call h4 hk with ⟨g1, -, g2⟩ | ⟨g1, -, -, g3, -⟩
  · rw [g1, g2]
    have e : ¬ (-9 : Int32) = nI c := fun z => neg9_ne (by omega) z.symm
    simp [e, ne01]
  · rw [g1, g3]
    simp
theorem waiting_eq {nc : Nat} {A : Nat → Nat → Int32} (hnc : nc ≤ 4) (h4 : TR nc A 42 0) {c : Nat} (hc : c < nc) : cn (fun k => decide (A 46 k = nI c)) 12 = cn (fun k => decide (A 28 (18 * k) = 1) && decide (A 28 (18 * k + 2) = nI c)) 12 := by
  refine cn_congr 12 (fun k hk => ?_)
  rcases now_call h4 hk with ⟨-, g1, g2⟩ | ⟨g1, -, -, -, g3, -⟩
  · rw [g1, g2]
    have e : ¬ (-9 : Int32) = nI c := fun z => neg9_ne (by omega) z.symm
    simp [e, ne01]
  · rw [g1, g3]
    simp
theorem present_eq {nc : Nat} {A : Nat → Nat → Int32} (hnc : nc ≤ 4) (h4 : TR nc A 42 0) : cn (fun k => decide (A 28 (18 * k) = 1)) 12 + cn (fun k => decide (A 45 k = -9)) 12 = 12 := by
  have e : cn (fun k => decide (A 28 (18 * k) = 1)) 12 = cn (fun k => !(decide (A 45 k = -9))) 12 := by
    refine cn_congr 12 (fun k hk => ?_)
    rcases now_call h4 hk with ⟨g1, -, g2⟩ | ⟨g1, ⟨o, ho, g2⟩, -⟩
    · rw [g1, g2]
      simp [ne01]
    · have hown : ¬ nI o = -9 := neg9_ne (by omega)
      rw [g1, g2]
      simp [hown]
  rw [e]
  exact cn_not _ 12
theorem X7_present {nc : Nat} {S : St} (hnc : nc ≤ 4) (h4 : TR nc S.1 42 0) : f_X7_present S = some (nI (cn (fun k => decide (S.1 28 (18 * k) = 1)) 12), S) := by
  unfold f_X7_present
  rw [X7_callsOf, bd_mk]
  have h := present_eq hnc h4
  rw [show (12 : Int32) = nI 12 from rfl, pk_sub (cn_le _ 12)]
  rw [show 12 - cn (fun k => decide (S.1 45 k = -9)) 12 = cn (fun k => decide (S.1 28 (18 * k) = 1)) 12 by omega]
theorem X9_calls_ok {nc : Nat} {S S' : St} (h4 : TR nc S.1 42 0) (e : S'.1 28 = S.1 28) : f_X9_calls S' = some (nI (cn (fun k => decide (S.1 28 (18 * k) = 1)) 12), S') := by
  rw [X9_calls S' (fun k hk => by rw [e]; exact now_is h4 hk), e]
/-- the chance, of the number v -/
def chn (v : Int32) : Int32 := if 0 ≤ v then (if 10 ≤ v then 10 else v) else 0
theorem X9_chanceBy (x y : Int32) (S : St) : f_X9_chanceBy x y S = some (chn (10 * x - y), S) := by
  unfold f_X9_chanceBy f_X9_chanceBy_21 f_X9_lesser f_X9_lesser_10 chn
  rw [lt_mk]
  by_cases h : 0 ≤ 10 * x - y
  · rw [if_pos h, if_pos h]
    by_cases h2 : 10 ≤ 10 * x - y
    · rw [if_pos h2, bd_mk, if_pos h2]
    · rw [if_neg h2, bd_mk, if_neg h2]
  · rw [if_neg h, if_neg h]
theorem X8_chance (x y : Int32) (S : St) : f_X8_chance x y S = some (chn (10 * x - y), S) := by
  unfold f_X8_chance chn
  rw [lt_mk, lt_mk]
  have e0 : (0 : Int32).toInt = 0 := by decide
  have e10 : (10 : Int32).toInt = 10 := by decide
  generalize 10 * x - y = v
  congr 2
  simp only [Int32.le_iff_toInt_le, Int32.lt_iff_toInt_lt, e0, e10]
  by_cases h1 : v.toInt < 10
  · rw [if_pos h1, if_neg (show ¬ 10 ≤ v.toInt by omega)]
    by_cases h2 : 0 < v.toInt
    · rw [if_pos h2, if_pos (by omega)]
    · rw [if_neg h2]
      by_cases h3 : 0 ≤ v.toInt
      · rw [if_pos h3]
        apply Int32.toInt_inj.mp
        rw [e0]
        omega
      · rw [if_neg h3]
  · rw [if_neg h1, if_pos (show 0 ≤ v.toInt by omega), if_pos (show 10 ≤ v.toInt by omega)]
    rfl
/-- how many are free in a cell -/
def fre (A : Nat → Nat → Int32) (c : Nat) : Int32 := A 10 c - nI (cn (fun k => decide (A 45 k = nI c)) 12)
theorem X0_free {c : Nat} (hc : c < 4) (S : St) : f_X0_free (nI c) S = some (fre S.1 c, S) := by
  unfold f_X0_free f_X7_busy fre
  rw [ck_n hc (by decide), X7_callsOf, bd_mk, bd_mk, nI_clamp (by omega)]
theorem X0_chanceOf {c : Nat} (hc : c < 4) (S : St) : f_X0_chanceOf (nI c) S = some (chn (10 * fre S.1 c - S.1 43 c), S) := by
  unfold f_X0_chanceOf
  rw [X0_free hc, bd_mk, ck_n hc (by decide), X8_chance, bd_mk, nI_clamp (by omega)]
theorem X9_free {nc c : Nat} {S S' : St} (h1 : RTold nc S.1) (h4 : TR nc S.1 42 0) (hc : c < nc) (e : S'.1 28 = S.1 28) (e2 : S'.1 33 = S.1 33) : f_X9_free (nI c) S' = some (fre S.1 c, S') := by
  have hnc := h1.1
  unfold f_X9_free fre
  rw [ck_n (show c < 4 by omega) (by decide), X9_busy, bd_mk, nI_clamp (by omega), e, e2, busy_eq hnc h4 hc, (h1.2.2.2.1 c hc).1]
theorem ix216 (c : Nat) : (216 : Int32) + nI c = nI (216 + c) := nI_add 216 c
theorem X9_chance {nc c : Nat} {S S' : St} (h1 : RTold nc S.1) (h4 : TR nc S.1 42 0) (hc : c < nc) (e : S'.1 28 = S.1 28) (e2 : S'.1 33 = S.1 33) : f_X9_chance (nI c) S' = some (chn (10 * fre S.1 c - S.1 43 c), S') := by
  have hnc := h1.1
  unfold f_X9_chance
  rw [X9_free h1 h4 hc e e2, bd_mk, ix216, ck_n (by omega) (by decide), X9_chanceBy, bd_mk, nI_clamp (by omega), e]
  rw [show S.1 28 (216 + c) = S.1 43 c from ((now_of h4).1.2.2.1 c (by omega) hc).symm]
