/-! ===== tells: a token, put together ===== -/
theorem setting_step (x : Int32) (S : St) {k : Nat} (hk : k < 5) (f : Nat) : f_X4_settingOf_2 (f + 1) x (nI k) S = if tbLetter k = x then some (nI k, S) else f_X4_settingOf_2 f x (nI (k + 1)) S := by
  rw [f_X4_settingOf_2, if_neg (show ¬ (5 : Int32) ≤ nI k from nI_ge (b := 5) hk (by decide)), ck_n hk (by decide), nI_clamp (by omega), nI_1]
theorem setting_end (x : Int32) (S : St) (f : Nat) : f_X4_settingOf_2 (f + 1) x (nI 5) S = some (-9, S) := by
  rw [f_X4_settingOf_2, if_pos (show (5 : Int32) ≤ nI 5 from nI_le (a := 5) (by decide) (by decide))]
theorem X4_settingOf (x : Int32) (S : St) : f_X4_settingOf x S = if tbLetter 0 = x then some (nI 0, S) else if tbLetter 1 = x then some (nI 1, S) else if tbLetter 2 = x then some (nI 2, S) else if tbLetter 3 = x then some (nI 3, S) else if tbLetter 4 = x then some (nI 4, S) else some (-9, S) := by
  unfold f_X4_settingOf
  rw [show f_X4_settingOf_2 FU x 0 S = f_X4_settingOf_2 (2994 + 1 + 1 + 1 + 1 + 1 + 1) x (nI 0) S from rfl, setting_step x S (by decide), setting_step x S (by decide), setting_step x S (by decide), setting_step x S (by decide), setting_step x S (by decide), setting_end]
/-- what a letter is -/
theorem letter_cases (x : Int32) : (x = 99 ∧ ∀ S, f_X9_which x S = some (0, S)) ∨ (∃ s, s < 5 ∧ x = tbLetter s ∧ ¬ x = 99 ∧ ¬ x = 59 ∧ (∀ S, f_X4_settingOf x S = some (nI s, S)) ∧ ∀ S, f_X9_which x S = some (nI (s + 1), S)) ∨ (¬ x = 99 ∧ (∀ S, f_X4_settingOf x S = some (-9, S)) ∧ ∀ S, f_X9_which x S = some (-9, S)) := by
  by_cases h0 : x = 99
  · exact Or.inl ⟨h0, fun S => by unfold f_X9_which; rw [if_pos h0]⟩
  by_cases h1 : x = 104
  · subst h1
    exact Or.inr (Or.inl ⟨0, by decide, rfl, by decide, by decide, fun S => by rw [X4_settingOf]; rfl, fun S => rfl⟩)
  by_cases h2 : x = 100
  · subst h2
    exact Or.inr (Or.inl ⟨1, by decide, rfl, by decide, by decide, fun S => by rw [X4_settingOf]; rfl, fun S => rfl⟩)
  by_cases h3 : x = 107
  · subst h3
    exact Or.inr (Or.inl ⟨2, by decide, rfl, by decide, by decide, fun S => by rw [X4_settingOf]; rfl, fun S => rfl⟩)
  by_cases h4 : x = 109
  · subst h4
    exact Or.inr (Or.inl ⟨3, by decide, rfl, by decide, by decide, fun S => by rw [X4_settingOf]; rfl, fun S => rfl⟩)
  by_cases h5 : x = 119
  · subst h5
    exact Or.inr (Or.inl ⟨4, by decide, rfl, by decide, by decide, fun S => by rw [X4_settingOf]; rfl, fun S => rfl⟩)
  refine Or.inr (Or.inr ⟨h0, fun S => ?_, fun S => ?_⟩)
  · rw [X4_settingOf, if_neg (fun z => h1 z.symm), if_neg (fun z => h2 z.symm), if_neg (fun z => h3 z.symm), if_neg (fun z => h4 z.symm), if_neg (fun z => h5 z.symm)]
  · unfold f_X9_which
    rw [if_neg h0, if_neg h2, if_neg h1, if_neg h3, if_neg h4, if_neg h5]
def Tok (len p : Nat) (A B : St) : Prop := ∃ q p', q ≤ 120 ∧ A.1 1 5 = nI q ∧ B.1 27 13 = nI q ∧ A.1 1 4 = nI p' ∧ B.1 27 12 = nI p' ∧ p' ≤ len ∧ ((A.1 1 6 = 0 ∧ B.1 27 14 = -1) ∨ (p < p' ∧ ((A.1 1 6 = 1 ∧ A.1 1 7 = B.1 27 14 ∧ (B.1 27 14 = 99 ∨ ∃ s, s < 5 ∧ B.1 27 14 = tbLetter s)) ∨ (A.1 1 6 = 2 ∧ B.1 27 14 = -2 ∧ ∃ n, n ≤ 99 ∧ A.1 1 7 = nI n ∧ B.1 27 15 = nI n) ∨ (A.1 1 6 = 3 ∧ B.1 27 14 = 59) ∨ (A.1 1 6 = 4 ∧ B.1 27 14 = 0))))
theorem digit_ex (t : Nat → Int32) {p len : Nat} (hp : p ≤ len) : ∃ e, p ≤ e ∧ e ≤ len ∧ (e < len → fig (t e) = false) ∧ ∀ j, p ≤ j → j < e → fig (t j) = true := by
  obtain ⟨q, ⟨q1, q2⟩, q3⟩ := pk_least (fun k => p ≤ k ∧ (len ≤ k ∨ ¬ fig (t k) = true)) ⟨len, hp, Or.inl (Nat.le_refl _)⟩
  have ql : q ≤ len := by
    rcases Nat.lt_or_ge len q with z | z
    · exact absurd ⟨hp, Or.inl (Nat.le_refl _)⟩ (q3 len z)
    · exact z
  refine ⟨q, q1, ql, fun z => by simpa using q2.resolve_left (by omega), fun j h1 h2 => ?_⟩
  by_cases hj : fig (t j) = true
  · exact hj
  · exact absurd ⟨h1, Or.inr hj⟩ (q3 j h2)
theorem nI_sub {a b : Nat} (h : b ≤ a) : nI a - nI b = nI (a - b) := by
  rw [show nI a = nI (a - b) + nI b by rw [nI_add, show a - b + b = a by omega]]
  exact Int32.add_sub_cancel _ _
/-- the end of a number, side by side -/
theorem num_end {t : Nat → Int32} {len q e V N : Nat} {A B : St} (hl : len ≤ 120) (hq : q < e) (he : e ≤ len) (hx : TXc t len A) (a4 : A.1 1 4 = nI e) (b12 : B.1 27 12 = nI e) (a5 : A.1 1 5 = nI q) (b13 : B.1 27 13 = nI q) (a7 : A.1 1 7 = nI V) (b15 : B.1 27 15 = nI N) (r : nrel V N) : ∃ A' B', f_X4_scanNumber_73 A = some A' ∧ f_X9_take_199 (t q) B = some B' ∧ NA A A' ∧ NB B B' ∧ A'.1 1 4 = nI e ∧ B'.1 27 12 = nI e ∧ A'.1 1 5 = nI q ∧ B'.1 27 13 = nI q ∧ ((A'.1 1 6 = 2 ∧ B'.1 27 14 = -2 ∧ ∃ n, n ≤ 99 ∧ A'.1 1 7 = nI n ∧ B'.1 27 15 = nI n) ∨ (A'.1 1 6 = 4 ∧ B'.1 27 14 = 0)) := by
  obtain ⟨r1, r2, r3⟩ := r
  have s1 : f_X4_scanNumber_73 A = if t q = 48 then (if nI (e - q) ≤ 1 then (if nI V ≤ 99 then some (upI A 1 6 2) else some (upI A 1 6 4)) else some (upI A 1 6 4)) else (if nI V ≤ 99 then some (upI A 1 6 2) else some (upI A 1 6 4)) := by
    unfold f_X4_scanNumber_73 f_X4_scanNumber_104 f_X4_scanNumber_105 f_X4_scanNumber_120 f_X4_scanNumber_125
    rw [a5, a4, a7, ck_n (by omega) (by decide), nI_clamp (by omega), hx.2 q (by omega), nI_sub (by omega), if00, if10, lt_mk, lt_mk]
  have s2 : f_X9_take_199 (t q) B = if 99 < nI N then some (upI B 27 14 0) else (if t q = 48 then (if nI (e - q) ≤ 1 then some (upI B 27 14 (-2)) else some (upI B 27 14 0)) else some (upI B 27 14 (-2))) := by
    unfold f_X9_take_199 f_X9_take_228 f_X9_take_232 f_X9_take_234 f_X9_take_237
    rw [b12, b13, b15, nI_sub (by omega), lt_mk, lt_mk]
  have bad : f_X4_scanNumber_73 A = some (upI A 1 6 4) → f_X9_take_199 (t q) B = some (upI B 27 14 0) → ∃ A' B', f_X4_scanNumber_73 A = some A' ∧ f_X9_take_199 (t q) B = some B' ∧ NA A A' ∧ NB B B' ∧ A'.1 1 4 = nI e ∧ B'.1 27 12 = nI e ∧ A'.1 1 5 = nI q ∧ B'.1 27 13 = nI q ∧ ((A'.1 1 6 = 2 ∧ B'.1 27 14 = -2 ∧ ∃ n, n ≤ 99 ∧ A'.1 1 7 = nI n ∧ B'.1 27 15 = nI n) ∨ (A'.1 1 6 = 4 ∧ B'.1 27 14 = 0)) := fun z1 z2 => ⟨_, _, z1, z2, NA.up A (by omega) _, NB.up B (by omega) _, by rw [up_j (by decide)]; exact a4, by rw [up_j (by decide)]; exact b12, by rw [up_j (by decide)]; exact a5, by rw [up_j (by decide)]; exact b13, Or.inr ⟨up_s, up_s⟩⟩
  by_cases hV : V ≤ 99
  · have hN : N = V := by omega
    subst hN
    have n1 : ¬ (99 : Int32) < nI N := nI_nlt (a := 99) (by omega) (by omega)
    have n2 : nI N ≤ (99 : Int32) := nI_le (b := 99) hV (by omega)
    have good : f_X4_scanNumber_73 A = some (upI A 1 6 2) → f_X9_take_199 (t q) B = some (upI B 27 14 (-2)) → ∃ A' B', f_X4_scanNumber_73 A = some A' ∧ f_X9_take_199 (t q) B = some B' ∧ NA A A' ∧ NB B B' ∧ A'.1 1 4 = nI e ∧ B'.1 27 12 = nI e ∧ A'.1 1 5 = nI q ∧ B'.1 27 13 = nI q ∧ ((A'.1 1 6 = 2 ∧ B'.1 27 14 = -2 ∧ ∃ n, n ≤ 99 ∧ A'.1 1 7 = nI n ∧ B'.1 27 15 = nI n) ∨ (A'.1 1 6 = 4 ∧ B'.1 27 14 = 0)) := fun z1 z2 => ⟨_, _, z1, z2, NA.up A (by omega) _, NB.up B (by omega) _, by rw [up_j (by decide)]; exact a4, by rw [up_j (by decide)]; exact b12, by rw [up_j (by decide)]; exact a5, by rw [up_j (by decide)]; exact b13, Or.inl ⟨up_s, up_s, N, hV, by rw [up_j (by decide)]; exact a7, by rw [up_j (by decide)]; exact b15⟩⟩
    by_cases h48 : t q = 48
    · by_cases h1 : nI (e - q) ≤ 1
      · exact good (by rw [s1, if_pos h48, if_pos h1, if_pos n2]) (by rw [s2, if_neg n1, if_pos h48, if_pos h1])
      · exact bad (by rw [s1, if_pos h48, if_neg h1]) (by rw [s2, if_neg n1, if_pos h48, if_neg h1])
    · exact good (by rw [s1, if_neg h48, if_pos n2]) (by rw [s2, if_neg n1, if_neg h48])
  · have n1 : (99 : Int32) < nI N := nI_lt (a := 99) (by omega) (by omega)
    have n2 : ¬ nI V ≤ (99 : Int32) := nI_ge (a := 99) (by omega) (by omega)
    refine bad ?_ (by rw [s2, if_pos n1])
    rw [s1, if_neg n2]
    by_cases h48 : t q = 48
    · rw [if_pos h48]
      by_cases h1 : nI (e - q) ≤ 1
      · rw [if_pos h1]
      · rw [if_neg h1]
    · rw [if_neg h48]
theorem tok {t : Nat → Int32} {len p : Nat} {A B : St} (hl : len ≤ 120) (hp : p ≤ len) (a4 : A.1 1 4 = nI p) (b12 : B.1 27 12 = nI p) (hx : TXc t len A) (hy : TXr t len B) : ∃ A' B', f_X4_nextToken A = some A' ∧ f_X9_take B = some B' ∧ NA A A' ∧ NB B B' ∧ Tok len p A' B' := by
  obtain ⟨q, q1, q2, q3, q4⟩ := skip_ex t hp
  have e1 : f_X4_nextToken A = f_X4_nextToken_38 (upI A 1 4 (nI q)) := by
    unfold f_X4_nextToken
    exact skip8 hl q2 q3 (q - p) p FU A (by omega) (by show q - p < 3000; omega) q4 a4 hx
  have e2 : f_X9_take B = f_X9_take_38 (upI B 27 12 (nI q)) := by
    unfold f_X9_take
    exact skip9 hl q2 q3 (q - p) p FU B (by omega) (by show q - p < 3000; omega) q4 b12 hy
  obtain ⟨A1, hA1⟩ : ∃ A1, A1 = upI (upI A 1 4 (nI q)) 1 5 (nI q) := ⟨_, rfl⟩
  obtain ⟨B1, hB1⟩ : ∃ B1, B1 = upI (upI B 27 12 (nI q)) 27 13 (nI q) := ⟨_, rfl⟩
  have na1 : NA A A1 := by rw [hA1]; exact (NA.up A (by omega) _).trans (NA.up _ (by omega) _)
  have nb1 : NB B B1 := by rw [hB1]; exact (NB.up B (by omega) _).trans (NB.up _ (by omega) _)
  have hx1 := hx.na na1
  have hy1 := hy.nb nb1
  have c4 : A1.1 1 4 = nI q := by rw [hA1, up_j (by decide), up_s]
  have c5 : A1.1 1 5 = nI q := by rw [hA1, up_s]
  have d12 : B1.1 27 12 = nI q := by rw [hB1, up_j (by decide), up_s]
  have d13 : B1.1 27 13 = nI q := by rw [hB1, up_s]
  have f1 : f_X4_nextToken A = if nI q < nI len then ck (nI q) 120 (bd (f_X4_isFigure (A1.1 2 q) A1) fun v4 S3 => if v4 = 0 then (ck (S3.1 1 4) 120 (lt (upI S3 1 7 (S3.1 2 (S3.1 1 4).toNatClampNeg)) fun S5 => bd (f_X4_kindOf (S5.1 1 7) S5) fun v7 S6 => lt (upI S6 1 6 v7) fun S8 => lt (upI S8 1 4 ((S8.1 1 4) + 1)) fun S9 => some S9)) else (bdV (f_X4_scanNumber S3) fun S10 => some S10)) else some (upI A1 1 6 0) := by
    rw [e1]
    unfold f_X4_nextToken_38
    rw [up_s, lt_mk, ← hA1, c4, hx1.1, nI_clamp (by omega), lt_mk]
  have f2 : f_X9_take B = if nI q = nI len then some (upI B1 27 14 (-1)) else (ck (nI q) 120 (bd (f_X9_which (B1.1 32 q) B1) fun v5 S4 => if 0 ≤ v5 then (f_X9_take_87 (B1.1 32 q) S4) else (if B1.1 32 q = 59 then (f_X9_take_87 (B1.1 32 q) S4) else (f_X9_take_92 (B1.1 32 q) 0 S4)))) := by
    rw [e2]
    unfold f_X9_take_38
    rw [up_s, lt_mk, ← hB1, d12, hy1.1, lt_mk, lt_mk, nI_clamp (by omega)]
  by_cases hql : q < len
  · rw [if_pos (nI_lt hql (by omega)), ck_n (by omega) (by decide), X4_isFigure, bd_mk, hx1.2 q hql] at f1
    rw [if_neg (fun z => absurd (nI_inj (by omega) (by omega) z) (by omega)), ck_n (by omega) (by decide), hy1.2 q hql] at f2
    by_cases hf : fig (t q) = true
    · -- a figure
      obtain ⟨d, d1, d2, d3⟩ := fig_nat hf
      rw [hf, show bI true = 1 from rfl, if10] at f1
      have hw : ∀ S, f_X9_which (t q) S = some (-9, S) := fun S => by
        rcases letter_cases (t q) with ⟨z, -⟩ | ⟨s, s1, s2, -⟩ | ⟨-, -, z⟩
        · rw [d3] at z
          exact absurd (nI_inj (b := 99) (by omega) (by decide) z) (by omega)
        · rw [d3] at s2
          match s, s1 with
          | 0, _ => exact absurd (nI_inj (b := 104) (by omega) (by decide) s2) (by omega)
          | 1, _ => exact absurd (nI_inj (b := 100) (by omega) (by decide) s2) (by omega)
          | 2, _ => exact absurd (nI_inj (b := 107) (by omega) (by decide) s2) (by omega)
          | 3, _ => exact absurd (nI_inj (b := 109) (by omega) (by decide) s2) (by omega)
          | 4, _ => exact absurd (nI_inj (b := 119) (by omega) (by decide) s2) (by omega)
        · exact z S
      have h59 : ¬ t q = 59 := by
        rw [d3]
        intro z
        exact absurd (nI_inj (b := 59) (by omega) (by decide) z) (by omega)
      rw [hw, bd_mk, if_neg (by decide), if_neg h59] at f2
      obtain ⟨e, g1, g2, g3, g4⟩ := digit_ex t (show q + 1 ≤ len by omega)
      obtain ⟨A2, hA2⟩ : ∃ A2, A2 = upI (upI (upI A1 1 7 0) 1 7 (nI (d - 48))) 1 4 (nI (q + 1)) := ⟨_, rfl⟩
      obtain ⟨B2, hB2⟩ : ∃ B2, B2 = upI (upI (upI B1 27 14 0) 27 12 (nI (q + 1))) 27 15 (nI (d - 48)) := ⟨_, rfl⟩
      have na2 : NA A1 A2 := by rw [hA2]; exact ((NA.up A1 (by omega) _).trans (NA.up _ (by omega) _)).trans (NA.up _ (by omega) _)
      have nb2 : NB B1 B2 := by rw [hB2]; exact ((NB.up B1 (by omega) _).trans (NB.up _ (by omega) _)).trans (NB.up _ (by omega) _)
      have k1 : f_X4_scanNumber A1 = f_X4_scanNumber_5 2999 A2 := by
        unfold f_X4_scanNumber
        have hxx := hx1.na (NA.up A1 (show 4 ≤ 7 ∧ 7 ≤ 7 by omega) 0)
        rw [lt_mk, show f_X4_scanNumber_5 FU (upI A1 1 7 0) = f_X4_scanNumber_5 (2999 + 1) (upI A1 1 7 0) from rfl, f_X4_scanNumber_5, hxx.1, show (upI A1 1 7 0).1 1 4 = nI q by rw [up_j (by decide)]; exact c4, if_neg (nI_ge hql (by omega)), ck_n (by omega) (by decide), nI_clamp (by omega), hxx.2 q hql, X4_isFigure, bd_mk, hf, show bI true = 1 from rfl, if10, show (upI A1 1 7 0).1 1 7 = 0 from up_s, if_neg (show ¬ (100 : Int32) < 0 by decide), lt_mk, show (upI A1 1 7 0).1 1 4 = nI q by rw [up_j (by decide)]; exact c4, ck_n (by omega) (by decide), lt_mk, lt_mk, nI_clamp (by omega), hxx.2 q hql, up_j (by decide), show (upI A1 1 7 0).1 1 4 = nI q by rw [up_j (by decide)]; exact c4, nI_1, d3, Int32.zero_mul, Int32.zero_add, sub48 d1, ← hA2]
      have k2 : f_X9_take_92 (t q) 0 B1 = f_X9_take_120 FU (t q) B2 := by
        unfold f_X9_take_92
        rw [lt_mk, lt_mk, up_j (by decide), d12, nI_1, X9_isFigure, bd_mk, hf, show bI true = 1 from rfl, if10, lt_mk, d3, sub48 d1, ← hB2]
      obtain ⟨A3, B3, V, N, l1, l2, l3, l4, l5, l6, l7, l8, l9, l10, l11⟩ := num_loop (t := t) (t q) hl g2 g3 (e - (q + 1)) (q + 1) 2999 FU A2 B2 (d - 48) (d - 48) (by omega) (by omega) (by show e - (q + 1) < 3000; omega) g4 (by rw [hA2, up_s]) (by rw [hB2, up_j (by decide), up_s]) (by rw [hA2, up_j (by decide), up_s]) (by rw [hB2, up_s]) ⟨by omega, by omega, Or.inl rfl⟩ (hx1.na na2) (hy1.nb nb2)
      have c5' : A3.1 1 5 = nI q := by rw [l10, hA2, up_j (by decide), up_j (by decide), up_j (by decide)]; exact c5
      have d13' : B3.1 27 13 = nI q := by rw [l11, hB2, up_j (by decide), up_j (by decide), up_j (by decide)]; exact d13
      obtain ⟨A4, B4, m1, m2, m3, m4, m5, m6, m7, m8, m9⟩ := num_end hl (by omega) g2 ((hx1.na na2).na l8) l3 l4 c5' d13' l5 l6 l7
      refine ⟨A4, B4, ?_, ?_, ((na1.trans na2).trans l8).trans m3, ((nb1.trans nb2).trans l9).trans m4, q, e, by omega, m7, m8, m5, m6, g2, Or.inr ⟨by omega, ?_⟩⟩
      · rw [f1, k1, l1, m1, bdV_mk]
      · rw [f2, k2, l2, m2]
      · rcases m9 with z | z
        · exact Or.inr (Or.inl z)
        · exact Or.inr (Or.inr (Or.inr z))
    · -- no figure
      have hf : fig (t q) = false := by simpa using hf
      rw [hf, show bI false = 0 from rfl, if00, c4, ck_n (by omega) (by decide), lt_mk, nI_clamp (by omega), hx1.2 q hql] at f1
      have kk : ∀ v : Int32, f_X4_kindOf (t q) (upI A1 1 7 (t q)) = some (v, upI A1 1 7 (t q)) → f_X4_nextToken A = some (upI (upI (upI A1 1 7 (t q)) 1 6 v) 1 4 (nI (q + 1))) := fun v hv => by
        rw [f1, up_s, hv, bd_mk, lt_mk, lt_mk, up_j (by decide), up_j (by decide), c4, nI_1]
      have t92 : ∀ s : Int32, f_X9_take_92 (t q) s B1 = some (upI (upI B1 27 14 s) 27 12 (nI (q + 1))) := fun s => by
        unfold f_X9_take_92 f_X9_take_237
        rw [lt_mk, lt_mk, up_j (by decide), d12, nI_1, X9_isFigure, bd_mk, hf, show bI false = 0 from rfl, if00]
      have fin : ∀ v s : Int32, f_X4_kindOf (t q) (upI A1 1 7 (t q)) = some (v, upI A1 1 7 (t q)) → f_X9_take B = some (upI (upI B1 27 14 s) 27 12 (nI (q + 1))) → ((v = 1 ∧ t q = s ∧ (s = 99 ∨ ∃ w, w < 5 ∧ s = tbLetter w)) ∨ (v = 3 ∧ s = 59) ∨ (v = 4 ∧ s = 0)) → ∃ A' B', f_X4_nextToken A = some A' ∧ f_X9_take B = some B' ∧ NA A A' ∧ NB B B' ∧ Tok len p A' B' := fun v s hv hs hvs => by
        refine ⟨_, _, kk v hv, hs, na1.trans (((NA.up A1 (by omega) _).trans (NA.up _ (by omega) _)).trans (NA.up _ (by omega) _)), nb1.trans ((NB.up B1 (by omega) _).trans (NB.up _ (by omega) _)), q, q + 1, by omega, ?_, ?_, up_s, up_s, by omega, Or.inr ⟨by omega, ?_⟩⟩
        · rw [up_j (by decide), up_j (by decide), up_j (by decide)]; exact c5
        · rw [up_j (by decide), up_j (by decide)]; exact d13
        · rw [up_j (j' := 6) (by decide), up_s, up_j (j' := 7) (by decide), up_j (j' := 7) (by decide), up_s, up_j (j' := 14) (by decide), up_s]
          rcases hvs with z | z | z
          · exact Or.inl z
          · exact Or.inr (Or.inr (Or.inl z))
          · exact Or.inr (Or.inr (Or.inr z))
      by_cases h59 : t q = 59
      · refine fin 3 59 (by unfold f_X4_kindOf; rw [if_pos h59]) ?_ (Or.inr (Or.inl ⟨rfl, rfl⟩))
        rw [f2, h59, show f_X9_which 59 B1 = some (-9, B1) from rfl, bd_mk, if_neg (by decide), if_pos rfl, f_X9_take_87, ← h59, t92]
      · rcases letter_cases (t q) with ⟨z1, z2⟩ | ⟨s, z1, z2, z3, -, z4, z5⟩ | ⟨z1, z2, z3⟩
        · refine fin 1 (t q) (by unfold f_X4_kindOf f_X4_kindOf_23 f_X4_kindOf_28; rw [if_neg h59, if_pos z1]) ?_ (Or.inl ⟨rfl, rfl, Or.inl z1⟩)
          rw [f2, z2, bd_mk, if_pos (by decide), f_X9_take_87, t92]
        · refine fin 1 (t q) (by unfold f_X4_kindOf f_X4_kindOf_23 f_X4_kindOf_28; rw [if_neg h59, if_neg z3, z4, bd_mk, if_neg (neg9_ne (by omega))]) ?_ (Or.inl ⟨rfl, rfl, Or.inr ⟨s, z1, z2⟩⟩)
          rw [f2, z5, bd_mk, if_pos (nI_pos' (by omega)), f_X9_take_87, t92]
        · refine fin 4 0 (by unfold f_X4_kindOf f_X4_kindOf_28; rw [if_neg h59, if_neg z1, z2, bd_mk, if_pos rfl]) ?_ (Or.inr (Or.inr ⟨rfl, rfl⟩))
          rw [f2, z3, bd_mk, if_neg (by decide), if_neg h59, t92]
  · obtain rfl : q = len := by omega
    rw [if_neg (nI_nlt (by omega) (by omega))] at f1
    rw [if_pos rfl] at f2
    exact ⟨_, _, f1, f2, na1.trans (NA.up _ (by omega) _), nb1.trans (NB.up _ (by omega) _), q, q, by omega, by rw [up_j (by decide)]; exact c5, by rw [up_j (by decide)]; exact d13, by rw [up_j (by decide)]; exact c4, by rw [up_j (by decide)]; exact d12, by omega, Or.inl ⟨up_s, up_s⟩⟩
