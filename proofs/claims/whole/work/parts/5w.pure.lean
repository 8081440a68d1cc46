/-! ===== hears ===== -/
theorem setValues_ok (x0 x1 x2 x3 : Int32) (A : St) : ∃ T, f_X0_setValues x0 x1 x2 x3 A = some T ∧ (∀ k, k ≠ 15 → T.1 k = A.1 k) ∧ T.1 15 0 = x0 ∧ T.1 15 1 = x1 ∧ T.1 15 2 = x2 ∧ T.1 15 3 = x3 := by
  refine ⟨upI (upI (upI (upI A 15 0 x0) 15 1 x1) 15 2 x2) 15 3 x3, ?_, fun k hk => by rw [up_r hk, up_r hk, up_r hk, up_r hk], ?_, ?_, ?_, ?_⟩
  · unfold f_X0_setValues
    rw [show ∀ X : Option St, ck 0 4 X = X from fun X => ck_n (n := 0) (by decide) (by decide), lt_mk, show ∀ X : Option St, ck 1 4 X = X from fun X => ck_n (n := 1) (by decide) (by decide), lt_mk, show ∀ X : Option St, ck 2 4 X = X from fun X => ck_n (n := 2) (by decide) (by decide), lt_mk, show ∀ X : Option St, ck 3 4 X = X from fun X => ck_n (n := 3) (by decide) (by decide), lt_mk, i32_0c, i32_1c, i32_2c, i32_3]
  · simp (disch := decide) only [up_j, up_s]
  · simp (disch := decide) only [up_j, up_s]
  · simp (disch := decide) only [up_j, up_s]
  · simp (disch := decide) only [up_j, up_s]
theorem told_set {nc : Nat} {A B : St} (hT : TD nc A B) : A.1 9 0 = nI nc ∧ B.1 27 8 = nI nc ∧ A.1 13 0 = B.1 35 1 ∧ (∃ d, 1 ≤ d ∧ d ≤ 5 ∧ A.1 13 1 = nI d ∧ B.1 35 2 = nI d) ∧ (∃ f, f ≤ 3 ∧ A.1 13 2 = nI f ∧ B.1 35 3 = nI f) ∧ A.1 13 3 = B.1 35 4 := by
  obtain ⟨-, a1, a2, -, a3, h, d, f, m, w, g1, g2, g3, g4, g5, g6, g7, g8, g9, g10, g11, g12⟩ := hT
  rw [mg_a (by omega)] at a1 g8 g9 g10 g11
  rw [mg_b (by omega) (by omega)] at a2
  have b0 := a3 0 (by decide)
  have b1 := a3 1 (by decide)
  have b2 := a3 2 (by decide)
  have b3 := a3 3 (by decide)
  rw [mg_a (by omega), mg_b (by omega) (by omega)] at b0 b1 b2 b3
  exact ⟨a1, a2, b0, ⟨d, g2, g3, g9, by rw [← b1]; exact g9⟩, ⟨f, g4, g10, by rw [← b2]; exact g10⟩, b3⟩
def g_tail (x1 v8 : Int32) (S7 : St) : Option (Int32 × St) :=
  if v8 = 1 then (f_X0_hear_99 v8 S7)
  else (bd (f_X7_ownLevel x1 S7) fun v10 S9 =>
    ck 3 5 (if (64 * (S9.1 13 (3 : Int32).toNatClampNeg)) ≤ v10 then (f_X0_hear_99 v8 S9)
    else (ck x1 12 (bdV (f_X7_tallyOne (S9.1 45 x1.toNatClampNeg) 5 S9) fun S11 =>
      bdV (f_X0_vanish x1 S11) fun S12 =>
      f_X0_hear_99 4 S12))))
def g_want (x1 v13 v31 : Int32) (S30 : St) : Option (Int32 × St) :=
  bd (f_X9_get x1 2 S30) fun v33 S32 =>
  if v33 = v31 then (f_X9_hears_183 x1 v13 v31 S32)
  else (bdV (f_X9_set x1 2 (-9) S32) fun S34 =>
    f_X9_hears_183 x1 v13 v31 S34)
theorem hear_eq (x1 : Int32) (S : St) : f_X0_hear x1 S = ck x1 12 (ck x1 12 (lt (upI S 48 x1.toNatClampNeg ((S.1 48 x1.toNatClampNeg) + 1)) fun S1 =>
  ck x1 12 (ck x1 12 (lt (upI S1 49 x1.toNatClampNeg ((S1.1 49 x1.toNatClampNeg) + 1)) fun S2 =>
  bdV (f_X0_smoothLevels x1 S2) fun S3 =>
  bdV (f_X0_countStreaks x1 S3) fun S4 =>
  bd (f_X0_targetOf x1 S4) fun v6 S5 =>
  bd (f_X0_follow x1 v6 S5) fun v8 S7 => g_tail x1 v8 S7)))) := by
  unfold f_X0_hear g_tail
  rfl
theorem hear_tail {nc i o fm : Nat} (hnc : nc ≤ 4) (hi : i < 12) (ho : o < nc) (hf : fm ≤ 1) {v : Int32} {A B : St} (hT : TD nc A B) (h : LK nc fm A B) (hv : v = 1 ∨ (¬ v = 1 ∧ fm = 0 ∧ A.1 45 i = nI o ∧ B.1 28 (18 * i) = 1)) :
    ∃ v' A' B', g_tail (nI i) v A = some (v', A') ∧ f_X9_hears_221 (nI i) (nI o) v B = some (v', B') ∧ FA A A' ∧ FB B B' ∧ LK nc 0 A' B' := by
  unfold f_X9_hears_221 g_tail
  rcases hv with rfl | ⟨hv, rfl, eo, e⟩
  · obtain ⟨A2, B2, q, w1, w2, w3, w4, w5, w6⟩ := serve_ok hnc hf hT h
    refine ⟨1, A2, B2, ?_, ?_, w3, w4, w5⟩
    · rw [if_pos rfl, f_X0_hear_99, w1, bd_mk]
    · rw [if_pos rfl, f_X9_hears_267, w2, bdV_mk]
  · have ho4 : o < 4 := by omega
    rw [if_neg hv, if_neg hv, X7_ownLevel hi ho4 eo, bd_mk, ck35, i32_3, nI_clamp (by omega), eo, ck_n hi (by decide), X9_get_o (y := 10) (b := 10) rfl hi ho4 (by omega), bd_mk, ck46, i32_4, ← (told_set hT).2.2.2.2.2]
    have row := h.1.2.1 i hi
    rcases row with ⟨-, -, z⟩ | ⟨-, -, -, c1, -, -, -, -, -, -, -, -, c10, -⟩
    · have z : B.1 28 (18 * i) = 0 := z
      rw [e] at z
      exact absurd z (by decide)
    have c1 : A.1 45 i = B.1 28 (18 * i + 1) := c1
    have c10 : A.1 54 (4 * i + o) = B.1 28 (18 * i + 10 + o) := (c10 o ho4).1
    rw [← Nat.add_assoc, ← c10]
    by_cases hl : 64 * A.1 13 3 ≤ A.1 54 (4 * i + o)
    · obtain ⟨A2, B2, q, w1, w2, w3, w4, w5, w6⟩ := serve_ok hnc (by omega) hT h
      refine ⟨v, A2, B2, ?_, ?_, w3, w4, w5⟩
      · rw [if_pos hl, f_X0_hear_99, w1, bd_mk]
      · rw [if_pos hl, f_X9_hears_267, w2, bdV_mk]
    · rw [if_neg hl, if_neg hl, X7_tally (y := 5) (q := 5) ho4 (by decide) rfl, bdV_mk, X9_counts (y := 11) (q := 5) ho4 (by decide) rfl, bdV_mk]
      have l1 := h.tally (q := 5) ho4 (by decide)
      obtain ⟨A1, B1, v1, v2, v3, v4, v5, v6⟩ := vanish_ok hi ho (by decide) l1 (by rw [up_k (by decide)]; exact eo) (by rw [up_j (by omega), ← c1]; exact eo)
      have fa := (FA.tally A (6 * o + 5) (A.1 44 (6 * o + 5) + 1)).trans v3
      have fb := (FB.tally B (j := 220 + (6 * o + 5)) (by omega) (B.1 28 (220 + (6 * o + 5)) + 1)).trans v4
      obtain ⟨A2, B2, q, w1, w2, w3, w4, w5, w6⟩ := serve_ok hnc (by omega) (hT.keep fa fb) v5
      refine ⟨4, A2, B2, ?_, ?_, fa.trans w3, fb.trans w4, w5⟩
      · rw [v1, bdV_mk, f_X0_hear_99, w1, bd_mk]
      · rw [v2, bdV_mk, f_X9_hears_267, w2, bdV_mk]
theorem follow_ok {nc i o : Nat} (hnc : nc ≤ 4) (hi : i < 12) (ho : o < nc) {t : Int32} {A B : St} (hT : TD nc A B) (h : LK nc 0 A B) (eo : A.1 45 i = nI o) (e : B.1 28 (18 * i) = 1) (ht : t = -9 ∨ ∃ c, c < nc ∧ c ≠ o ∧ t = nI c) :
    ∃ v' A' B', (bd (f_X0_follow (nI i) t A) fun v8 S7 => g_tail (nI i) v8 S7) = some (v', A') ∧ g_want (nI i) (nI o) t B = some (v', B') ∧ FA A A' ∧ FB B B' ∧ LK nc 0 A' B' := by
  have row := h.1.2.1 i hi
  rcases row with ⟨-, -, z⟩ | ⟨-, -, -, -, c2, -⟩
  · have z : B.1 28 (18 * i) = 0 := z
    rw [e] at z
    exact absurd z (by decide)
  have c2 : A.1 46 i = B.1 28 (18 * i + 2) := c2
  unfold g_want
  rw [X9_get_2 hi, bd_mk, ← c2]
  unfold f_X0_follow
  rw [ck_n hi (by decide), nI_clamp (by omega)]
  by_cases hw : A.1 46 i = t
  · rw [if_pos hw, if_pos hw, f_X0_follow_24, f_X9_hears_183, lt_mk]
    by_cases h9 : t = -9
    · rw [if_pos h9, if_pos h9, bd_mk]
      obtain ⟨v', A', B', r1, r2, r3, r4, r5⟩ := hear_tail (v := 0) hnc hi ho (by omega) (hT.keep (FA.refl A) (FB.w26 B 0)) (h.w26 0) (Or.inr ⟨by decide, rfl, eo, by rw [up_k (by decide)]; exact e⟩)
      exact ⟨v', A', B', r1, r2, r3, (FB.w26 B 0).trans r4, r5⟩
    · rw [if_neg h9, if_neg h9, ck_n hi (by decide), nI_clamp (by omega), if_pos hw, f_X0_follow_55, bd_mk, X9_get_2 hi, bd_mk, up_k (by decide), ← c2, if_pos hw]
      obtain ⟨v', A', B', r1, r2, r3, r4, r5⟩ := hear_tail (v := 2) hnc hi ho (by omega) (hT.keep (FA.refl A) (FB.w26 B 0)) (h.w26 0) (Or.inr ⟨by decide, rfl, eo, by rw [up_k (by decide)]; exact e⟩)
      exact ⟨v', A', B', r1, r2, r3, (FB.w26 B 0).trans r4, r5⟩
  · rw [if_neg hw, if_neg hw, ck_n hi (by decide), lt_mk, X9_set_2 hi, bdV_mk, f_X0_follow_24, f_X9_hears_183, lt_mk]
    have l1 := h.want hi e (w := -9) (Or.inl rfl)
    have fa1 : FA A (upI A 46 i (-9)) := fun k hk => up_r (by omega)
    have fb1 : FB B (upI B 28 (18 * i + 2) (-9)) := FB.tally B (by omega) _
    have e1 : (upI B 28 (18 * i + 2) (-9)).1 28 (18 * i) = 1 := by rw [up_j (by omega)]; exact e
    have eo1 : (upI A 46 i (-9)).1 45 i = nI o := by rw [up_k (by decide)]; exact eo
    have hw1 : (upI A 46 i (-9)).1 46 i = -9 := up_s
    have hw2 : (upI B 28 (18 * i + 2) (-9)).1 28 (18 * i + 2) = -9 := up_s
    generalize upI A 46 i (-9) = A1 at *
    generalize upI B 28 (18 * i + 2) (-9) = B1 at *
    have w1 : A1.1 46 i = -9 := hw1
    have c2' : B1.1 28 (18 * i + 2) = -9 := hw2
    rcases ht with h9 | ⟨c, c1, c3, c4⟩
    · rw [if_pos h9, if_pos h9, bd_mk]
      obtain ⟨v', A', B', r1, r2, r3, r4, r5⟩ := hear_tail (v := 0) hnc hi ho (by omega) ((hT.keep fa1 fb1).keep (FA.refl A1) (FB.w26 B1 0)) (l1.w26 0) (Or.inr ⟨by decide, rfl, eo1, by rw [up_k (by decide)]; exact e1⟩)
      exact ⟨v', A', B', r1, r2, fa1.trans r3, (fb1.trans (FB.w26 B1 0)).trans r4, r5⟩
    · have h9 : ¬ t = -9 := by rw [c4]; exact neg9_ne (by omega)
      have h9' : ¬ (-9 : Int32) = t := fun z => h9 z.symm
      rw [if_neg h9, if_neg h9, ck_n hi (by decide), nI_clamp (by omega), w1, if_neg h9', X9_get_2 hi, bd_mk, up_k (by decide), c2', if_neg h9', c4]
      obtain ⟨v, fm, A2, B2, a1, a2, a3, a4, a5, a6, a7⟩ := ask_ok hnc hi ho c1 (fun z => c3 z.symm) ((hT.keep fa1 fb1).keep (FA.refl A1) (FB.w26 B1 0)) (l1.w26 0) (by rw [up_k (by decide)]; exact e1) eo1
      rw [a1, bd_mk, f_X0_follow_55, bd_mk, a2, bd_mk]
      obtain ⟨v', A', B', r1, r2, r3, r4, r5⟩ := hear_tail (v := v) hnc hi ho a3 (((hT.keep fa1 fb1).keep (FA.refl A1) (FB.w26 B1 0)).keep a4 a5) a6 (by
        rcases a7 with z | ⟨z1, z2, z3, z4⟩
        · exact Or.inl z
        · exact Or.inr ⟨z1, z2, by rw [z3]; exact eo1, z4⟩)
      exact ⟨v', A', B', r1, r2, (fa1.trans a4).trans r3, ((fb1.trans (FB.w26 B1 0)).trans a5).trans r4, r5⟩
