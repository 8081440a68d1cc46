/-! ===== the law ===== -/
theorem init_rl {S : St} (h : Init S) : Rl 0 S.1 := by
  obtain ⟨z, s1, ⟨s20, s21, s22, s23, s24, s25⟩, s3⟩ := h
  obtain ⟨b1, b2⟩ := s3 42 ⟨0, by omega, rfl⟩
  have z' : ∀ k j, k < 42 → k ≠ 8 → k ≠ 13 → k ≠ 35 → S.1 k j = 0 := z
  refine ⟨⟨by omega, ?_, ?_, fun c hc => absurd hc (by omega), fun s hs => ?_, 3, 2, 1, 10, 3, by omega, by omega, by omega, by omega, by omega, by omega, by omega, ?_, ?_, ?_, ?_, ?_⟩, ⟨0, by omega, ?_, ?_, fun i hi => absurd hi (by omega)⟩, ⟨0, by omega, ?_, ?_, fun i hi => absurd hi (by omega)⟩, ?_, ⟨0, 0, by omega, by omega, ?_, ?_, ?_, fun j hj => absurd hj (by omega)⟩, fun i hi => ⟨?_, Or.inl ?_⟩, ?_, ?_⟩
  · exact z 9 0 (by omega) (by omega) (by omega) (by omega)
  · exact z 27 8 (by omega) (by omega) (by omega) (by omega)
  · rw [(s1 s hs).2]
    match s, hs with
    | 0, _ => exact s21.symm
    | 1, _ => exact s22.symm
    | 2, _ => exact s23.symm
    | 3, _ => exact s24.symm
    | 4, _ => exact s25.symm
  · exact (s1 0 (by decide)).2
  · exact (s1 1 (by decide)).2
  · exact (s1 2 (by decide)).2
  · exact (s1 3 (by decide)).2
  · exact (s1 4 (by decide)).2
  · exact z 1 1 (by omega) (by omega) (by omega) (by omega)
  · exact z 27 7 (by omega) (by omega) (by omega) (by omega)
  · exact z 24 0 (by omega) (by omega) (by omega) (by omega)
  · exact z 27 5 (by omega) (by omega) (by omega) (by omega)
  · refine ⟨⟨?_, ?_, fun c _ hc => absurd hc (by omega), fun j hj => ?_⟩, fun i hi => Or.inl ⟨(b2 i hi).1, (b2 i hi).2, ?_⟩, 0, by omega, ?_, ?_, fun i hi => absurd hi (by omega), fun i j _ hj => absurd hj (by omega)⟩
    · show S.1 (42 + 0) 0 = S.1 28 (0 + 281)
      rw [b1 0 0 (by omega) (by omega) (by omega), z 28 _ (by omega) (by omega) (by omega) (by omega)]
    · show S.1 (42 + 0) 1 = S.1 28 (0 + 282)
      rw [b1 0 1 (by omega) (by omega) (by omega), z 28 _ (by omega) (by omega) (by omega) (by omega)]
    · show S.1 (42 + 2) j = S.1 28 (0 + (220 + j))
      rw [b1 2 j (by omega) (by omega) (by omega), z 28 _ (by omega) (by omega) (by omega) (by omega)]
    · exact z 28 _ (by omega) (by omega) (by omega) (by omega)
    · exact b1 0 15 (by omega) (by omega) (by omega)
    · exact z 28 _ (by omega) (by omega) (by omega) (by omega)
  · exact z 17 2 (by omega) (by omega) (by omega) (by omega)
  · exact z 27 2 (by omega) (by omega) (by omega) (by omega)
  · exact z 17 1 (by omega) (by omega) (by omega) (by omega)
  · rw [z 21 i (by omega) (by omega) (by omega) (by omega), z 29 i (by omega) (by omega) (by omega) (by omega)]
  · exact z 21 i (by omega) (by omega) (by omega) (by omega)
  · exact z 14 4 (by omega) (by omega) (by omega) (by omega)
  · exact z 27 25 (by omega) (by omega) (by omega) (by omega)
theorem simstep {f g : St → Option (Int32 × St)} (h : Sim f g) {nc : Nat} {S : St} (hr : Rl nc S.1) {K : St → Option Unit} (hK : ∀ nc' S', Rl nc' S'.1 → K S' = some ()) : (bd (f S) fun v S1 => bd (g S1) fun w S3 => if v = w then K S3 else none) = some () := by
  obtain ⟨v, S1, S2, nc', e1, e2, e3⟩ := h nc S hr
  rw [e1, bd_mk, e2, bd_mk, if_pos rfl, hK nc' S2 e3]
theorem simstepL {f g : St → Option (Int64 × St)} (h : SimL f g) {nc : Nat} {S : St} (hr : Rl nc S.1) {K : St → Option Unit} (hK : ∀ nc' S', Rl nc' S'.1 → K S' = some ()) : (bd (f S) fun v S1 => bd (g S1) fun w S3 => if lg_cmp v w = 0 then K S3 else none) = some () := by
  obtain ⟨v, S1, S2, nc', e1, e2, e3⟩ := h nc S hr
  rw [e1, bd_mk, e2, bd_mk, if_pos ((lg_cmp_eq v v).mpr rfl), hK nc' S2 e3]
theorem law_loop {L : Nat} (hL : L ≤ 3584) (xs : Nat → Int32) : ∀ (n p : Nat), p ≤ L → L < p + 7 * n → ∀ (nc : Nat) (S : St), Rl nc S.1 → f_L_18 L xs n (nI p) S = some () := by
  intro n
  induction n with
  | zero =>
    intro p h1 h2
    exact absurd h2 (by omega)
  | succ n ih =>
    intro p h1 h2 nc S hr
    have e7 : (Int32.ofNat L - 7).toInt = (L : Int) - 7 := by
      show (nI L - 7).toInt = _
      have z7 : (7 : Int32).toInt = 7 := by decide
      rw [i32_sub (by rw [z7, nI_toInt (by omega)]; omega) (by rw [z7, nI_toInt (by omega)]; omega), z7, nI_toInt (by omega)]
    rw [f_L_18]
    by_cases hp : L < p + 7
    · rw [if_pos (by rw [Int32.lt_iff_toInt_lt, e7, nI_toInt (by omega)]; omega)]
    · rw [if_neg (by rw [Int32.lt_iff_toInt_lt, e7, nI_toInt (by omega)]; omega), ck_n (by omega) (by omega)]
      have K : ∀ nc' S', Rl nc' S'.1 → f_L_835 L xs (f_L_18 L xs n) (nI p) S' = some () := fun nc' S' h => by
        rw [f_L_835, show nI p + 7 = nI (p + 7) from by rw [show (7 : Int32) = nI 7 from rfl, nI_add]]
        exact ih (p + 7) (by omega) (by omega) nc' S' h
      have c1 : ∀ X : Option Unit, ck (nI p + 1) L X = X := fun X => by rw [nI_1]; exact ck_n (by omega) (by omega)
      have cj : ∀ j : Nat, j < 7 → ∀ X : Option Unit, ck (nI p + nI j) L X = X := fun j hj X => by rw [nI_add]; exact ck_n (by omega) (by omega)
      have c2 : ∀ X : Option Unit, ck (nI p + 2) L X = X := cj 2 (by decide)
      have c3 : ∀ X : Option Unit, ck (nI p + 3) L X = X := cj 3 (by decide)
      have c4 : ∀ X : Option Unit, ck (nI p + 4) L X = X := cj 4 (by decide)
      have c5 : ∀ X : Option Unit, ck (nI p + 5) L X = X := cj 5 (by decide)
      have c6 : ∀ X : Option Unit, ck (nI p + 6) L X = X := cj 6 (by decide)
      rcases toInt_cases (xs (nI p).toNatClampNeg &&& 31) 22 (by decide) with hx | ⟨k, hk, ek⟩
      · unfold sw
        rw [if_pos (by omega)]
        exact K nc S hr
      · rw [ek]
        unfold sw
        rw [if_neg (by rw [nI_toInt (by omega)]; omega), nI_toInt (by omega)]
        match k, hk with
        | 0, _ =>
          show ck _ _ _ = _
          simp only [c1]
          exact simstep (sim_type _) hr K
        | 1, _ => exact simstep sim_clear hr K
        | 2, _ => exact simstep sim_tells hr K
        | 3, _ =>
          show ck _ _ _ = _
          simp only [c1, c2]
          exact simstep (sim_offers _ _) hr K
        | 4, _ =>
          show ck _ _ _ = _
          simp only [c1, c2, c3, c4, c5]
          exact simstep (sim_hears _ _ _ _ _) hr K
        | 5, _ =>
          show ck _ _ _ = _
          simp only [c1]
          exact simstep (sim_ends _) hr K
        | 6, _ =>
          show ck _ _ _ = _
          simp only [c1, c2]
          exact simstep (sim_guards _ _) hr K
        | 7, _ =>
          show ck _ _ _ = _
          simp only [c1]
          exact simstep (sim_seeds _) hr K
        | 8, _ => exact simstep sim_undo hr K
        | 9, _ =>
          show ck _ _ _ = _
          simp only [c1, c2]
          exact simstep (sim_cell _ _) hr K
        | 10, _ =>
          show ck _ _ _ = _
          simp only [c1, c2]
          exact simstep (sim_call _ _) hr K
        | 11, _ =>
          show ck _ _ _ = _
          simp only [c1, c2, c3]
          exact simstep (sim_level _ _ _) hr K
        | 12, _ =>
          show ck _ _ _ = _
          simp only [c1, c2]
          exact simstep (sim_queued _ _) hr K
        | 13, _ =>
          show ck _ _ _ = _
          simp only [c1, c2]
          exact simstep (sim_pair _ _) hr K
        | 14, _ =>
          show ck _ _ _ = _
          simp only [c1, c2, c3, c4, c5, c6]
          exact simstepL (sim_lost _ _ _ _ _ _) hr K
        | 15, _ =>
          show ck _ _ _ = _
          simp only [c1, c2, c3, c4, c5]
          exact simstep (sim_best _ _ _ _ _) hr K
        | 16, _ =>
          show ck _ _ _ = _
          simp only [c1, c2]
          exact simstep (sim_sees _ _) hr K
        | 17, _ => exact simstep sim_forget hr K
        | 18, _ =>
          show ck _ _ _ = _
          simp only [c1, c2]
          exact simstep (sim_unseen _ _) hr K
        | 19, _ =>
          show ck _ _ _ = _
          simp only [c1]
          exact simstep (sim_keep _) hr K
        | 20, _ =>
          show ck _ _ _ = _
          simp only [c1]
          exact simstep (sim_back _) hr K
        | 21, _ =>
          show ck _ _ _ = _
          simp only [c1]
          exact simstep (sim_count _) hr K
        | k + 22, h => exact absurd h (by omega)
theorem pure_law {L : Nat} (hL : L ≤ 3584) (xs : Nat → Int32) {S : St} (h : Init S) : f_L_18 L xs FU 0 S = some () := law_loop hL xs FU 0 (by omega) (by show L < 0 + 7 * 3000; omega) 0 S (init_rl h)
