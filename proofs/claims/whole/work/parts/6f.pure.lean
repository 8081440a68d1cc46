/-! ===== tells: a token ===== -/
def TXc (t : Nat → Int32) (len : Nat) (A : St) : Prop := A.1 1 1 = nI len ∧ ∀ i, i < len → A.1 2 i = t i
def TXr (t : Nat → Int32) (len : Nat) (B : St) : Prop := B.1 27 7 = nI len ∧ ∀ i, i < len → B.1 32 i = t i
def NA (A A' : St) : Prop := (∀ k, k ≠ 1 → A'.1 k = A.1 k) ∧ ∀ j, j < 4 ∨ 7 < j → A'.1 1 j = A.1 1 j
def NB (B B' : St) : Prop := (∀ k, k ≠ 27 → B'.1 k = B.1 k) ∧ ∀ j, j < 12 ∨ 15 < j → B'.1 27 j = B.1 27 j
theorem NA.trans {A B C : St} (h : NA A B) (h' : NA B C) : NA A C := ⟨fun k hk => (h'.1 k hk).trans (h.1 k hk), fun j hj => (h'.2 j hj).trans (h.2 j hj)⟩
theorem NB.trans {A B C : St} (h : NB A B) (h' : NB B C) : NB A C := ⟨fun k hk => (h'.1 k hk).trans (h.1 k hk), fun j hj => (h'.2 j hj).trans (h.2 j hj)⟩
theorem NA.up (A : St) {j : Nat} (hj : 4 ≤ j ∧ j ≤ 7) (v : Int32) : NA A (upI A 1 j v) := ⟨fun k hk => up_r hk, fun j' h => up_j (by omega)⟩
theorem NB.up (B : St) {j : Nat} (hj : 12 ≤ j ∧ j ≤ 15) (v : Int32) : NB B (upI B 27 j v) := ⟨fun k hk => up_r hk, fun j' h => up_j (by omega)⟩
theorem TXc.na {t : Nat → Int32} {len : Nat} {A A' : St} (h : TXc t len A) (n : NA A A') : TXc t len A' := ⟨by rw [n.2 1 (by omega)]; exact h.1, fun i hi => by rw [n.1 2 (by decide)]; exact h.2 i hi⟩
theorem TXr.nb {t : Nat → Int32} {len : Nat} {B B' : St} (h : TXr t len B) (n : NB B B') : TXr t len B' := ⟨by rw [n.2 7 (by omega)]; exact h.1, fun i hi => by rw [n.1 32 (by decide)]; exact h.2 i hi⟩
def fig (x : Int32) : Bool := decide (48 ≤ x.toInt ∧ x.toInt ≤ 57)
theorem X4_isFigure (x : Int32) (S : St) : f_X4_isFigure x S = some (bI (fig x), S) := by
  unfold f_X4_isFigure f_X4_isFigure_16 f_X4_isFigure_17 fig
  have a : (48 : Int32).toInt = 48 := by decide
  have b : (57 : Int32).toInt = 57 := by decide
  simp only [Int32.lt_iff_toInt_lt, a, b, bz_0, bz_1]
  by_cases h1 : x.toInt < 48
  · rw [if_pos h1]; simp [show ¬ (48 ≤ x.toInt ∧ x.toInt ≤ 57) by omega, bI]
  · rw [if_neg h1]
    by_cases h2 : 57 < x.toInt
    · rw [if_pos h2]; simp [show ¬ (48 ≤ x.toInt ∧ x.toInt ≤ 57) by omega, bI]
    · rw [if_neg h2]; simp [show (48 ≤ x.toInt ∧ x.toInt ≤ 57) by omega, bI]
theorem X9_isFigure (x : Int32) (S : St) : f_X9_isFigure x S = some (bI (fig x), S) := by
  unfold f_X9_isFigure fig
  have a : (48 : Int64).toInt = 48 := by decide
  have b : (57 : Int64).toInt = 57 := by decide
  rw [X9_in, a, b, bd_mk]
  by_cases h : 48 ≤ x.toInt ∧ x.toInt ≤ 57
  · rw [if_pos h, bz_1]; simp [h, bI]
  · rw [if_neg h, bz_0]; simp [h, bI]
theorem fig_nat {x : Int32} (h : fig x = true) : ∃ d, 48 ≤ d ∧ d ≤ 57 ∧ x = nI d := by
  unfold fig at h
  have h := of_decide_eq_true h
  rcases toInt_cases x 58 (by decide) with z | ⟨d, d1, rfl⟩
  · omega
  · rw [nI_toInt (by omega)] at h
    exact ⟨d, by omega, by omega, rfl⟩
theorem sub48 {a : Nat} (h : 48 ≤ a) : nI a - 48 = nI (a - 48) := by
  rw [show (48 : Int32) = nI 48 from rfl, show nI a = nI (a - 48) + nI 48 by rw [nI_add, show a - 48 + 48 = a by omega]]
  exact Int32.add_sub_cancel _ _
theorem skip_ex (t : Nat → Int32) {p len : Nat} (hp : p ≤ len) : ∃ q, p ≤ q ∧ q ≤ len ∧ (q < len → ¬ t q = 32) ∧ ∀ j, p ≤ j → j < q → t j = 32 := by
  obtain ⟨q, ⟨q1, q2⟩, q3⟩ := pk_least (fun k => p ≤ k ∧ (len ≤ k ∨ ¬ t k = 32)) ⟨len, hp, Or.inl (Nat.le_refl _)⟩
  have ql : q ≤ len := by
    rcases Nat.lt_or_ge len q with z | z
    · exact absurd ⟨hp, Or.inl (Nat.le_refl _)⟩ (q3 len z)
    · exact z
  refine ⟨q, q1, ql, fun z => q2.resolve_left (by omega), fun j h1 h2 => ?_⟩
  by_cases hj : t j = 32
  · exact hj
  · exact absurd ⟨h1, Or.inr hj⟩ (q3 j h2)
theorem skip8 {t : Nat → Int32} {len q : Nat} (hl : len ≤ 120) (hq : q ≤ len) (hn : q < len → ¬ t q = 32) : ∀ (m p fuel : Nat) (A : St), p + m = q → m < fuel → (∀ j, p ≤ j → j < q → t j = 32) → A.1 1 4 = nI p → TXc t len A → f_X4_nextToken_0 fuel A = f_X4_nextToken_38 (upI A 1 4 (nI q)) := by
  intro m
  induction m with
  | zero =>
    intro p fuel A h1 h2 h3 h4 h5
    obtain ⟨f, rfl⟩ : ∃ g, fuel = g + 1 := ⟨fuel - 1, by omega⟩
    obtain rfl : p = q := by omega
    have es : upI A 1 4 (nI p) = A := by rw [← h4]; exact upI_self A 1 4
    rw [es, f_X4_nextToken_0, h5.1, h4]
    by_cases hpl : p < len
    · rw [if_neg (nI_ge hpl (by omega)), ck_n (by omega) (by decide), nI_clamp (by omega), h5.2 p hpl, if_neg (hn hpl)]
    · rw [if_pos (nI_le (by omega) (by omega))]
  | succ m ih =>
    intro p fuel A h1 h2 h3 h4 h5
    obtain ⟨f, rfl⟩ : ∃ g, fuel = g + 1 := ⟨fuel - 1, by omega⟩
    have := ih (p + 1) f (upI A 1 4 (nI (p + 1))) (by omega) (by omega) (fun j a b => h3 j (by omega) b) up_s (h5.na (NA.up A (by omega) _))
    rw [f_X4_nextToken_0, h5.1, h4, if_neg (nI_ge (by omega) (by omega)), ck_n (by omega) (by decide), nI_clamp (by omega), h5.2 p (by omega), if_pos (h3 p (by omega) (by omega)), lt_mk, nI_1, this]
    congr 1
    apply Prod.ext
    · funext k j
      rw [up_e, up_e, up_e]
      by_cases hk : k = 1 ∧ j = 4
      · rw [if_pos hk, if_pos hk]
      · rw [if_neg hk, if_neg hk, if_neg hk]
    · rfl
theorem skip9 {t : Nat → Int32} {len q : Nat} (hl : len ≤ 120) (hq : q ≤ len) (hn : q < len → ¬ t q = 32) : ∀ (m p fuel : Nat) (B : St), p + m = q → m < fuel → (∀ j, p ≤ j → j < q → t j = 32) → B.1 27 12 = nI p → TXr t len B → f_X9_take_0 fuel B = f_X9_take_38 (upI B 27 12 (nI q)) := by
  intro m
  induction m with
  | zero =>
    intro p fuel A h1 h2 h3 h4 h5
    obtain ⟨f, rfl⟩ : ∃ g, fuel = g + 1 := ⟨fuel - 1, by omega⟩
    obtain rfl : p = q := by omega
    have es : upI A 27 12 (nI p) = A := by rw [← h4]; exact upI_self A 27 12
    rw [es, f_X9_take_0, h5.1, h4]
    by_cases hpl : p < len
    · rw [if_neg (nI_ge hpl (by omega)), ck_n (by omega) (by decide), nI_clamp (by omega), h5.2 p hpl, if_neg (hn hpl)]
    · rw [if_pos (nI_le (by omega) (by omega))]
  | succ m ih =>
    intro p fuel A h1 h2 h3 h4 h5
    obtain ⟨f, rfl⟩ : ∃ g, fuel = g + 1 := ⟨fuel - 1, by omega⟩
    have := ih (p + 1) f (upI A 27 12 (nI (p + 1))) (by omega) (by omega) (fun j a b => h3 j (by omega) b) up_s (h5.nb (NB.up A (by omega) _))
    rw [f_X9_take_0, h5.1, h4, if_neg (nI_ge (by omega) (by omega)), ck_n (by omega) (by decide), nI_clamp (by omega), h5.2 p (by omega), if_pos (h3 p (by omega) (by omega)), lt_mk, nI_1, this]
    congr 1
    apply Prod.ext
    · funext k j
      rw [up_e, up_e, up_e]
      by_cases hk : k = 27 ∧ j = 12
      · rw [if_pos hk, if_pos hk]
      · rw [if_neg hk, if_neg hk, if_neg hk]
    · rfl
def nrel (V N : Nat) : Prop := V ≤ 1009 ∧ N ≤ 1009 ∧ (V = N ∨ (99 < V ∧ 99 < N))
theorem num_loop {t : Nat → Int32} {len e : Nat} (c : Int32) (hl : len ≤ 120) (he : e ≤ len) (hn : e < len → fig (t e) = false) : ∀ (m j fuel fuel' : Nat) (A B : St) (V N : Nat), j + m = e → m < fuel → m < fuel' → (∀ i, j ≤ i → i < e → fig (t i) = true) → A.1 1 4 = nI j → B.1 27 12 = nI j → A.1 1 7 = nI V → B.1 27 15 = nI N → nrel V N → TXc t len A → TXr t len B →
    ∃ A' B' V' N', f_X4_scanNumber_5 fuel A = f_X4_scanNumber_73 A' ∧ f_X9_take_120 fuel' c B = f_X9_take_199 c B' ∧ A'.1 1 4 = nI e ∧ B'.1 27 12 = nI e ∧ A'.1 1 7 = nI V' ∧ B'.1 27 15 = nI N' ∧ nrel V' N' ∧ NA A A' ∧ NB B B' ∧ A'.1 1 5 = A.1 1 5 ∧ B'.1 27 13 = B.1 27 13 := by
  intro m
  induction m with
  | zero =>
    intro j fuel fuel' A B V N h1 h2 h3 h4 h5 h6 h7 h8 h9 h10 h11
    obtain ⟨f, rfl⟩ : ∃ g, fuel = g + 1 := ⟨fuel - 1, by omega⟩
    obtain ⟨f', rfl⟩ : ∃ g, fuel' = g + 1 := ⟨fuel' - 1, by omega⟩
    obtain rfl : j = e := by omega
    refine ⟨A, B, V, N, ?_, ?_, h5, h6, h7, h8, h9, ⟨fun _ _ => rfl, fun _ _ => rfl⟩, ⟨fun _ _ => rfl, fun _ _ => rfl⟩, rfl, rfl⟩
    · rw [f_X4_scanNumber_5, h10.1, h5]
      by_cases hj : j < len
      · rw [if_neg (nI_ge hj (by omega)), ck_n (by omega) (by decide), nI_clamp (by omega), h10.2 j hj, X4_isFigure, bd_mk, hn hj, show bI false = 0 from rfl, if00]
      · rw [if_pos (nI_le (by omega) (by omega))]
    · rw [f_X9_take_120, h11.1, h6]
      by_cases hj : j < len
      · rw [if_neg (nI_ge hj (by omega)), ck_n (by omega) (by decide), nI_clamp (by omega), h11.2 j hj, X9_isFigure, bd_mk, hn hj, show bI false = 0 from rfl, if00]
      · rw [if_pos (nI_le (by omega) (by omega))]
  | succ m ih =>
    intro j fuel fuel' A B V N h1 h2 h3 h4 h5 h6 h7 h8 h9 h10 h11
    obtain ⟨f, rfl⟩ : ∃ g, fuel = g + 1 := ⟨fuel - 1, by omega⟩
    obtain ⟨f', rfl⟩ : ∃ g, fuel' = g + 1 := ⟨fuel' - 1, by omega⟩
    obtain ⟨d, d1, d2, d3⟩ := fig_nat (h4 j (by omega) (by omega))
    obtain ⟨V1, hV1⟩ : ∃ V1, V1 = (if 100 < V then 100 else V) * 10 + d - 48 := ⟨_, rfl⟩
    obtain ⟨N1, hN1⟩ : ∃ N1, N1 = if N ≤ 99 then 10 * N + d - 48 else N := ⟨_, rfl⟩
    have hr : nrel V1 N1 := by
      obtain ⟨r1, r2, r3⟩ := h9
      rw [hV1, hN1]
      unfold nrel
      by_cases a1 : 100 < V
      · rw [if_pos a1]
        by_cases a2 : N ≤ 99
        · omega
        · rw [if_neg a2]; omega
      · rw [if_neg a1]
        by_cases a2 : N ≤ 99
        · rw [if_pos a2]; omega
        · rw [if_neg a2]; omega
    obtain ⟨A', B', V', N', i1, i2, i3, i4, i5, i6, i7, i8, i9, i10, i11⟩ := ih (j + 1) f f' (upI (upI A 1 7 (nI V1)) 1 4 (nI (j + 1))) (upI (upI B 27 15 (nI N1)) 27 12 (nI (j + 1))) V1 N1 (by omega) (by omega) (by omega) (fun i a b => h4 i (by omega) b) up_s up_s (by rw [up_j (by decide), up_s]) (by rw [up_j (by decide), up_s]) hr (h10.na ((NA.up A (by omega) _).trans (NA.up _ (by omega) _))) (h11.nb ((NB.up B (by omega) _).trans (NB.up _ (by omega) _)))
    refine ⟨A', B', V', N', ?_, ?_, i3, i4, i5, i6, i7, ((NA.up A (by omega) _).trans (NA.up _ (by omega) _)).trans i8, ((NB.up B (by omega) _).trans (NB.up _ (by omega) _)).trans i9, by rw [i10, up_j (by decide), up_j (by decide)], by rw [i11, up_j (by decide), up_j (by decide)]⟩
    · rw [f_X4_scanNumber_5, h10.1, h5, if_neg (nI_ge (by omega) (by omega)), ck_n (by omega) (by decide), nI_clamp (by omega), X4_isFigure, bd_mk, h10.2 j (by omega), h4 j (by omega) (by omega), show bI true = 1 from rfl, if10, h7, h5, lt_mk, ck_n (by omega) (by decide), lt_mk, lt_mk, up_j (by decide), h5, nI_clamp (by omega), nI_1, h10.2 j (by omega), d3]
      rw [show ((if (100 : Int32) < nI V then 100 else nI V) * 10 + nI d - 48) = nI V1 from ?_]
      · exact i1
      · have em : (if (100 : Int32) < nI V then (100 : Int32) else nI V) = nI (if 100 < V then 100 else V) := by
          by_cases a1 : 100 < V
          · rw [if_pos a1, if_pos (show (100 : Int32) < nI V from nI_lt (a := 100) a1 (by have := h9.1; omega))]; rfl
          · rw [if_neg a1, if_neg (show ¬ (100 : Int32) < nI V from nI_nlt (a := 100) (by omega) (by omega))]
        rw [em, show (10 : Int32) = nI 10 from rfl, pk_mul, nI_add, sub48 (by omega), ← hV1]
    · rw [f_X9_take_120, h11.1, h6, if_neg (nI_ge (by omega) (by omega)), ck_n (by omega) (by decide), nI_clamp (by omega), X9_isFigure, bd_mk, h11.2 j (by omega), h4 j (by omega) (by omega), show bI true = 1 from rfl, if10, h8, h6, ck_n (by omega) (by decide), nI_clamp (by omega), f_X9_take_183, f_X9_take_183, lt_mk, lt_mk, lt_mk, lt_mk, up_j (by decide), up_j (by decide), h6, nI_1, h11.2 j (by omega), d3]
      by_cases a2 : N ≤ 99
      · rw [if_pos (show nI N ≤ 99 from nI_le (b := 99) a2 (by omega)), show (10 : Int32) = nI 10 from rfl, pk_mul, nI_add, sub48 (by omega)]
        rw [if_pos a2] at hN1
        rw [← hN1]
        exact i2
      · rw [if_neg (show ¬ nI N ≤ 99 from nI_ge (a := 99) (by omega) (by have := h9.2.1; omega))]
        rw [if_neg a2] at hN1
        rw [← hN1]
        exact i2
