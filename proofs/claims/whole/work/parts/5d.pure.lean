/-! ===== forget, sees, seeds ===== -/
theorem i32_0 : (0 : Int32).toInt = 0 := by decide
theorem i32_1 : (1 : Int32).toInt = 1 := by decide
theorem i32_2 : (2 : Int32).toInt = 2 := by decide
theorem i32_6 : (6 : Int32).toInt = 6 := by decide
theorem i32_11 : (11 : Int32).toInt = 11 := by decide
theorem i32_100 : (100 : Int32).toInt = 100 := by decide
theorem i64_0 : (0 : Int64).toInt = 0 := by decide
theorem i64_1 : (1 : Int64).toInt = 1 := by decide
theorem i64_2 : (2 : Int64).toInt = 2 := by decide
theorem i64_6 : (6 : Int64).toInt = 6 := by decide
theorem i64_11 : (11 : Int64).toInt = 11 := by decide
theorem i64_100 : (100 : Int64).toInt = 100 := by decide
theorem sim_forget : Sim f_X8_forget f_X9_forget := by
  intro nc S ⟨h1, h2, ⟨sn, t1, t2, t3, t4⟩, h4, h5, h6, h7⟩
  refine ⟨nI sn, upI S 24 0 0, upI (upI S 24 0 0) 27 5 0, nc, ?_, ?_, ?_⟩
  · unfold f_X8_forget
    rw [lt_mk, lt_mk, t2]
  · unfold f_X9_forget
    rw [lt_mk, lt_mk, up_k (by decide), t3]
  · refine ⟨h1.keep ?_ ?_ ?_ ?_ ?_ ?_ ?_ ?_, h2.keep ?_ ?_ ?_ ?_, ⟨0, by omega, ?_, ?_, fun i hi => absurd hi (by omega)⟩, h4.keep (fun k hk => ?_) ?_ (by decide), h5.keep (fun k hk => ?_) ?_ ?_ ?_, h6.keep (fun k hk => ?_) ?_ ?_ ?_, h7.keep ?_ ?_⟩
    all_goals first | (simp (disch := first | decide | omega) only [up_r, up_k, up_j, up_s]; done) | rfl
theorem sim_sees (x y : Int32) : Sim (f_X8_sees x y) (f_X9_sees x y) := by
  intro nc S ⟨h1, h2, ⟨sn, t1, t2, t3, t4⟩, h4, h5, h6, h7⟩
  have hr : Rl nc S.1 := ⟨h1, h2, ⟨sn, t1, t2, t3, t4⟩, h4, h5, h6, h7⟩
  have hW1 := X8_within x 0 6 S
  have hW2 := X8_within y 0 1 S
  have hI1 := X9_in x 0 6
  have hI2 := X9_in y 0 1
  simp only [i32_0, i32_6, i32_1] at hW1 hW2
  simp only [i64_0, i64_6, i64_1] at hI1 hI2
  by_cases hb : 0 ≤ x.toInt ∧ x.toInt ≤ 6
  · by_cases hb2 : 0 ≤ y.toInt ∧ y.toInt ≤ 1
    · by_cases hl : sn < 6
      · refine ⟨nI (sn + 1), upI (upI (upI S 25 sn x) 26 sn y) 24 0 (nI (sn + 1)), upI (upI (upI (upI (upI (upI S 25 sn x) 26 sn y) 24 0 (nI (sn + 1))) 30 sn x) 31 sn y) 27 5 (nI (sn + 1)), nc, ?_, ?_, ?_⟩
        · unfold f_X8_sees f_X5_add f_X8_sees_45
          rw [hW1, if_pos hb, bd_mk, if_neg (by decide), hW2, if_pos hb2, bd_mk, if_neg (by decide), t2, if_pos (show nI sn < 6 from nI_lt (b := 6) hl (by omega)), ck_n hl (by decide), lt_mk, nI_clamp (by omega), up_k (by decide), t2, ck_n hl (by decide), lt_mk, lt_mk, nI_clamp (by omega), up_k (by decide), up_k (by decide), t2, bd_mk, if_neg (by decide), up_s, nI_1]
        · have e27 : (upI (upI (upI S 25 sn x) 26 sn y) 24 0 (nI (sn + 1))).1 27 5 = nI sn := by rw [up_k (by decide), up_k (by decide), up_k (by decide), t3]
          unfold f_X9_sees
          rw [hI1, if_pos hb, bd_mk, if_neg (by decide), hI2, if_pos hb2, bd_mk, if_neg (by decide), e27, if_neg (show ¬ nI sn = 6 from fun e => absurd (nI_inj (b := 6) (by omega) (by decide) e) (by omega)), ck_n hl (by decide), lt_mk, nI_clamp (by omega), up_k (by decide), e27, ck_n hl (by decide), lt_mk, lt_mk, nI_clamp (by omega), up_s, up_k (by decide), up_k (by decide), e27, nI_1]
        · refine ⟨h1.keep ?_ ?_ ?_ ?_ ?_ ?_ ?_ ?_, h2.keep ?_ ?_ ?_ ?_, ⟨sn + 1, by omega, ?_, ?_, fun i hi => ?_⟩, h4.keep (fun k hk => ?_) ?_ (by decide), h5.keep (fun k hk => ?_) ?_ ?_ ?_, h6.keep (fun k hk => ?_) ?_ ?_ ?_, h7.keep ?_ ?_⟩
          case refine_15 =>
            by_cases hil : i = sn
            · subst hil
              simp (disch := first | decide | omega) only [up_r, up_k, up_j, up_s]
              exact ⟨trivial, trivial⟩
            · simp (disch := first | decide | omega | assumption) only [up_r, up_k, up_j, up_s]
              exact t4 i (by omega)
          all_goals first | (simp (disch := first | decide | omega) only [up_r, up_k, up_j, up_s]; done) | rfl
      · have hl : sn = 6 := by omega
        subst hl
        refine ⟨-3, S, S, nc, ?_, ?_, hr⟩
        · unfold f_X8_sees f_X5_add f_X8_sees_45
          rw [hW1, if_pos hb, bd_mk, if_neg (by decide), hW2, if_pos hb2, bd_mk, if_neg (by decide), t2, if_neg (show ¬ nI 6 < 6 from nI_nlt (b := 6) (by omega) (by omega)), bd_mk, if_pos rfl]
        · unfold f_X9_sees
          rw [hI1, if_pos hb, bd_mk, if_neg (by decide), hI2, if_pos hb2, bd_mk, if_neg (by decide), t3, if_pos (show nI 6 = 6 from rfl)]
    · refine ⟨-1, S, S, nc, ?_, ?_, hr⟩
      · unfold f_X8_sees f_X8_sees_19
        rw [hW1, if_pos hb, bd_mk, if_neg (by decide), hW2, if_neg hb2, bd_mk, if_pos rfl]
      · unfold f_X9_sees f_X9_sees_22
        rw [hI1, if_pos hb, bd_mk, if_neg (by decide), hI2, if_neg hb2, bd_mk, if_pos rfl]
  · refine ⟨-1, S, S, nc, ?_, ?_, hr⟩
    · unfold f_X8_sees f_X8_sees_19
      rw [hW1, if_neg hb, bd_mk, if_pos rfl]
    · unfold f_X9_sees f_X9_sees_22
      rw [hI1, if_neg hb, bd_mk, if_pos rfl]
/-- a Traffic's row or a reference's row that is written elsewhere -/
theorem TR.far {nc b o : Nat} {A A' : Nat → Nat → Int32} (hx : ∀ k, b ≤ k → k < b + 17 → A' k = A k) (hv : ∀ i, o ≤ i → i < o + 283 → A' 28 i = A 28 i) (h : TR nc A b o) : TR nc A' b o := h.congr (fun k j hk _ => by rw [hx _ (by omega) (by omega)]) (fun i hi => hv _ (by omega) (by omega))
/-- the other Traffics stay when only now and the first 283 numbers of w are written -/
theorem RHist.now {nc : Nat} {A A' : Nat → Nat → Int32} (hk : ∀ k, 59 ≤ k → A' k = A k) (h28 : ∀ i, 283 ≤ i → A' 28 i = A 28 i) (h17 : A' 17 = A 17) (h2 : A' 27 2 = A 27 2) (h : RHist nc A) : RHist nc A' := by
  obtain ⟨kn, nx, p1, p2, p3, p4, p5, p6⟩ := h
  exact ⟨kn, nx, p1, p2, by rw [h17]; exact p3, by rw [h2]; exact p4, by rw [h17]; exact p5, fun j hj => (p6 j hj).far (fun k h1 _ => hk k (by omega)) (fun i h1 _ => h28 i (by omega))⟩
theorem RImg.now {nc : Nat} {A A' : Nat → Nat → Int32} (hk : ∀ k, 59 ≤ k → A' k = A k) (h28 : ∀ i, 283 ≤ i → A' 28 i = A 28 i) (h21 : A' 21 = A 21) (h29 : A' 29 = A 29) (h : RImg nc A) : RImg nc A' := by
  intro i hi
  obtain ⟨p1, p2⟩ := h i hi
  refine ⟨by rw [h21, h29]; exact p1, ?_⟩
  rw [h21]
  rcases p2 with p2 | ⟨p2, p3⟩
  · exact Or.inl p2
  · exact Or.inr ⟨p2, p3.far (fun k h1 _ => hk k (by omega)) (fun i h1 _ => h28 i (by omega))⟩
/-- a call's row depends on its own numbers alone -/
theorem CRn.loc {nc : Nat} {x x' : Nat → Nat → Int32} {v v' : Nat → Int32} {i : Nat} (h3 : ∀ k, 3 ≤ k → k < 12 → x' k i = x k i) (h12 : ∀ c, c < 4 → x' 12 (4 * i + c) = x 12 (4 * i + c)) (h13 : ∀ c, c < 4 → x' 13 (4 * i + c) = x 13 (4 * i + c)) (hv : ∀ j, j < 18 → v' (18 * i + j) = v (18 * i + j)) (h : CRn nc x v i) : CRn nc x' v' i := by
  have hv0 : v' (18 * i) = v (18 * i) := hv 0 (by omega)
  rcases h with ⟨h1, h2, hh⟩ | ⟨h1, p1, p2, p3, p4, p5, p6, p7, p8, p9, p10, p11, p12, p13, p14⟩
  · exact Or.inl ⟨by rw [h3 3 (by omega) (by omega), h1], by rw [h3 4 (by omega) (by omega), h2], by rw [hv0, hh]⟩
  · refine Or.inr ⟨by rw [hv0, h1], ?_, ?_, ?_, ?_, ?_, ?_, ?_, ?_, ?_, ?_, ?_, fun c hc => ?_, fun c hc => ?_, ?_⟩
    · rw [h3 3 (by omega) (by omega)]; exact p1
    · rw [h3 3 (by omega) (by omega), h3 4 (by omega) (by omega)]; exact p2
    · rw [h3 3 (by omega) (by omega), hv _ (by omega)]; exact p3
    · rw [h3 4 (by omega) (by omega), hv _ (by omega)]; exact p4
    · rw [h3 5 (by omega) (by omega), hv _ (by omega)]; exact p5
    · rw [h3 6 (by omega) (by omega), hv _ (by omega)]; exact p6
    · rw [h3 7 (by omega) (by omega), hv _ (by omega)]; exact p7
    · rw [h3 8 (by omega) (by omega), hv _ (by omega)]; exact p8
    · rw [h3 9 (by omega) (by omega), hv _ (by omega)]; exact p9
    · rw [h3 10 (by omega) (by omega), hv _ (by omega)]; exact p10
    · rw [h3 11 (by omega) (by omega), hv _ (by omega)]; exact p11
    · have e : v' (18 * i + 10 + c) = v (18 * i + 10 + c) := by rw [Nat.add_assoc]; exact hv _ (by omega)
      rw [h12 c hc, e]; exact p12 c hc
    · have e : v' (18 * i + 14 + c) = v (18 * i + 14 + c) := by rw [Nat.add_assoc]; exact hv _ (by omega)
      rw [h13 c hc, e]; exact p13 c hc
    · rw [h3 10 (by omega) (by omega)]; exact p14
theorem TP.loc {nc : Nat} {x x' : Nat → Nat → Int32} {v v' : Nat → Int32} (h0 : x' 0 15 = x 0 15) (hx : ∀ k i, 14 ≤ k → k < 17 → i < 12 → x' k i = x k i) (hv : ∀ j, 244 ≤ j → j < 281 → v' j = v j) (h : TP nc x v) : TP nc x' v' := by
  obtain ⟨np, b1, b2, b3, b4, b5⟩ := h
  refine ⟨np, b1, by rw [h0]; exact b2, by rw [hv _ (by omega) (by omega)]; exact b3, fun i hi => ?_, fun i j h1 h2 => ?_⟩
  · rw [hx 14 i (by omega) (by omega) (by omega), hx 15 i (by omega) (by omega) (by omega), hx 16 i (by omega) (by omega) (by omega), hv _ (by omega) (by omega), hv _ (by omega) (by omega), hv _ (by omega) (by omega)]
    exact b4 i hi
  · rw [hx 14 i (by omega) (by omega) (by omega), hx 15 i (by omega) (by omega) (by omega), hx 14 j (by omega) (by omega) (by omega), hx 15 j (by omega) (by omega) (by omega)]
    exact b5 i j h1 h2
theorem sim_seeds (x : Int32) : Sim (f_X8_seeds x) (f_X9_seeds x) := by
  intro nc S ⟨h1, h2, h3, h4, h5, h6, h7⟩
  have e281 : (281 : Int32).toNatClampNeg = 281 := by decide
  refine ⟨S.1 42 0, upI S 42 0 x, upI (upI S 42 0 x) 28 281 x, nc, ?_, ?_, ?_⟩
  · unfold f_X8_seeds
    rw [lt_mk, lt_mk]
  · unfold f_X9_seeds
    rw [show (281 : Int32) = nI 281 from rfl, ck_n (by decide) (by decide), lt_mk, ck_n (by decide) (by decide), lt_mk, nI_clamp (by decide), up_k (by decide)]
    rw [show S.1 28 281 = S.1 42 0 from h4.1.1.symm]
  · refine ⟨h1.keep ?_ ?_ ?_ ?_ ?_ ?_ ?_ ?_, h2.keep ?_ ?_ ?_ ?_, h3.keep ?_ ?_ ?_ ?_ ?_ ?_, ?_, h5.now (fun k hk => ?_) (fun i hi => ?_) ?_ ?_, h6.now (fun k hk => ?_) (fun i hi => ?_) ?_ ?_, h7.keep ?_ ?_⟩
    case refine_19 =>
      obtain ⟨⟨a1, a2, a3, a4⟩, hc, hp⟩ := h4
      refine ⟨⟨?_, ?_, fun c hc hc' => ?_, fun i hi => ?_⟩, fun i hi => (hc i hi).loc (fun k h1 h2 => ?_) (fun c h1 => ?_) (fun c h1 => ?_) (fun j h1 => ?_), hp.loc ?_ (fun k i h1 h2 h3 => ?_) (fun j h1 h2 => ?_)⟩
      · simp (disch := first | decide | omega) only [up_r, up_k, up_j, up_s]
      · simp (disch := first | decide | omega) only [up_r, up_k, up_j, up_s]; exact a2
      · simp (disch := first | decide | omega) only [up_r, up_k, up_j, up_s]; exact a3 c hc hc'
      · simp (disch := first | decide | omega) only [up_r, up_k, up_j, up_s]; exact a4 i hi
      all_goals simp (disch := first | decide | omega) only [up_r, up_k, up_j, up_s]
    all_goals first | (simp (disch := first | decide | omega) only [up_r, up_k, up_j, up_s]; done) | rfl
