/-! ===== undo, keep, back ===== -/
theorem pres_eq {nc b o : Nat} {A : Nat → Nat → Int32} (hnc : nc ≤ 4) (h : TR nc A b o) : cn (fun k => decide (A 28 (o + 18 * k) = 1)) 12 + cn (fun k => decide (A (b + 3) k = -9)) 12 = 12 := by
  have e : cn (fun k => decide (A 28 (o + 18 * k) = 1)) 12 = cn (fun k => !(decide (A (b + 3) k = -9))) 12 := by
    refine cn_congr 12 (fun k hk => ?_)
    rcases h.2.1 k hk with ⟨g1, -, g2⟩ | ⟨g1, ⟨q, hq, g2⟩, -⟩
    · have g1 : A (b + 3) k = -9 := g1
      have g2 : A 28 (o + 18 * k) = 0 := g2
      rw [g1, g2]
      simp [ne01]
    · have g1 : A 28 (o + 18 * k) = 1 := g1
      have g2 : A (b + 3) k = nI q := g2
      have hown : ¬ nI q = -9 := neg9_ne (by omega)
      rw [g1, g2]
      simp [hown]
  rw [e]
  exact cn_not _ 12
theorem X7_present_of {S : St} {n : Nat} (h : n + cn (fun k => decide (S.1 45 k = -9)) 12 = 12) : f_X7_present S = some (nI n, S) := by
  unfold f_X7_present
  rw [X7_callsOf, bd_mk, show (12 : Int32) = nI 12 from rfl, pk_sub (cn_le _ 12), show 12 - cn (fun k => decide (S.1 45 k = -9)) 12 = n by omega]
theorem sim_undo : Sim f_X8_undo f_X9_undo := by
  intro nc S hr
  obtain ⟨h1, h2, h3, h4, ⟨kn, nx, p1, p2, p3, p4, p5, p6⟩, h6, h7⟩ := id hr
  by_cases hk : kn = 0
  · subst hk
    refine ⟨-2, S, S, nc, ?_, ?_, hr⟩
    · unfold f_X8_undo f_X8_undo_26 f_X1_bringBack f_X1_bringBack_17
      rw [p5, p3]
      by_cases hx : nx = 0
      · subst hx
        rfl
      · rw [if_neg (show ¬ nI nx ≤ 0 from nI_nle (by omega) (by omega)), show (1 : Int32) = nI 1 from rfl, pk_sub (by omega), ck_n (by omega) (by decide)]
        rfl
    · unfold f_X9_undo
      rw [p4]
      rfl
  · have hl : slot nx kn (kn - 1) < 6 := Nat.mod_lt _ (by decide)
    have hlast := p6 (kn - 1) (by omega)
    obtain ⟨S1, a1, a2, a3⟩ := X7_copyFrom 42 (59 + 17 * slot nx kn (kn - 1)) (by omega) S
    have a17 : S1.1 17 2 = nI kn := by rw [a2 17 (by omega), p3]
    refine ⟨nI (kn - 1), upI (upI S1 17 1 (nI (slot nx kn (kn - 1)))) 17 2 (nI (kn - 1)), ?_⟩
    obtain ⟨S2, c1, c2, c3, c4⟩ := X9_copy (x := 849 + (283 * nI (kn - 1))) (y := 0) (fr := 849 + 283 * (kn - 1)) (to := 0) (by rw [show (283 : Int32) = nI 283 from rfl, pk_mul]; exact nI_add 849 _) rfl (by omega) (by omega) (by omega) (upI (upI (upI S1 17 1 (nI (slot nx kn (kn - 1)))) 17 2 (nI (kn - 1))) 27 2 (nI (kn - 1)))
    refine ⟨S2, nc, ?_, ?_, ?_⟩
    · have hb : f_X1_bringBack S = f_X1_bringBack_17 (nI (slot nx kn (kn - 1))) S := by
        unfold f_X1_bringBack
        rw [p5]
        by_cases hx : nx = 0
        · subst hx
          rw [if_pos (show nI 0 ≤ 0 from by decide), show slot 0 kn (kn - 1) = 5 by unfold slot; omega]
          rfl
        · rw [if_neg (show ¬ nI nx ≤ 0 from nI_nle (by omega) (by omega)), show (1 : Int32) = nI 1 from rfl, pk_sub (by omega), show slot nx kn (kn - 1) = nx - 1 by unfold slot; omega]
      unfold f_X8_undo f_X8_undo_26
      rw [hb]
      unfold f_X1_bringBack_17
      rw [ck_n hl (by decide), p3, if_neg (show ¬ nI kn = 0 from nI_ne0 (by omega) (by omega)), nI_clamp (by omega), a1, bdV_mk, lt_mk, lt_mk, up_j (by decide), a17, show (1 : Int32) = nI 1 from rfl, pk_sub (by omega), bd_mk, if_neg (by decide), up_s]
    · unfold f_X9_undo
      have q27 : (upI (upI S1 17 1 (nI (slot nx kn (kn - 1)))) 17 2 (nI (kn - 1))).1 27 2 = nI kn := by rw [up_k (by decide), up_k (by decide), a2 27 (by omega), p4]
      rw [q27, if_neg (show ¬ nI kn = 0 from nI_ne0 (by omega) (by omega)), lt_mk, show (1 : Int32) = nI 1 from rfl, pk_sub (by omega), up_s, c1, bdV_mk, c2 27 (by decide), up_s]
    · have keep : ∀ k, k ≠ 17 → k ≠ 27 → k ≠ 28 → k < 42 ∨ 59 ≤ k → S2.1 k = S.1 k := fun k b1 b2 b3 b4 => by rw [c2 k b3, up_r b2, up_r b1, up_r b1, a2 k (by omega)]
      have k27 : ∀ j, j ≠ 2 → S2.1 27 j = S.1 27 j := fun j hj => by rw [c2 27 (by decide), up_j hj, up_k (by decide), up_k (by decide), a2 27 (by omega)]
      have r28 : ∀ j, (upI (upI (upI S1 17 1 (nI (slot nx kn (kn - 1)))) 17 2 (nI (kn - 1))) 27 2 (nI (kn - 1))).1 28 j = S.1 28 j := fun j => by rw [up_k (by decide), up_k (by decide), up_k (by decide), a2 28 (by omega)]
      have k28 : ∀ j, 283 ≤ j → S2.1 28 j = S.1 28 j := fun j hj => by rw [c4 j (by omega), r28]
      have kx : ∀ k j, k < 17 → S2.1 (42 + k) j = S1.1 (42 + k) j := fun k j hk => by rw [c2 _ (by omega), up_k (by omega), up_k (by omega), up_k (by omega)]
      refine ⟨h1.keep ?_ ?_ ?_ ?_ ?_ ?_ ?_ (k27 8 (by decide)), h2.keep (by rw [keep 1 (by decide) (by decide) (by decide) (by decide)]) ?_ ?_ (k27 7 (by decide)), h3.keep ?_ ?_ ?_ ?_ ?_ (k27 5 (by decide)), ?_, ?_, ?_, h7.keep (by rw [keep 14 (by decide) (by decide) (by decide) (by decide)]) (k27 25 (by decide))⟩
      case refine_15 => exact hlast.congr (fun k j hk hj => by rw [kx k j hk, a3 k j hk hj]) (fun i hi => by rw [c3 i hi, r28])
      case refine_16 =>
        refine ⟨kn - 1, slot nx kn (kn - 1), by omega, hl, ?_, ?_, ?_, fun j hj => ?_⟩
        · rw [c2 17 (by decide), up_k (by decide), up_s]
        · rw [c2 27 (by decide), up_s]
        · rw [c2 17 (by decide), up_k (by decide), up_j (by decide), up_s]
        · rw [show slot (slot nx kn (kn - 1)) (kn - 1) j = slot nx kn j by unfold slot; omega]
          exact (p6 j (by omega)).far (fun k b1 b2 => keep k (by omega) (by omega) (by omega) (by omega)) (fun i b1 b2 => k28 i (by omega))
      case refine_17 =>
        intro i hi
        obtain ⟨q1, q2⟩ := h6 i hi
        rw [keep 21 (by decide) (by decide) (by decide) (by decide), keep 29 (by decide) (by decide) (by decide) (by decide)]
        refine ⟨q1, ?_⟩
        rcases q2 with q2 | ⟨q2, q3⟩
        · exact Or.inl q2
        · exact Or.inr ⟨q2, q3.far (fun k b1 b2 => keep k (by omega) (by omega) (by omega) (by omega)) (fun j b1 b2 => k28 j (by omega))⟩
      all_goals exact keep _ (by decide) (by decide) (by decide) (by decide)
theorem ix283 (i : Nat) : (283 : Int32) + (283 * nI i) = nI (283 + 283 * i) := by rw [show (283 : Int32) = nI 283 from rfl, pk_mul, nI_add]
theorem sim_keep (x : Int32) : Sim (f_X8_keep x) (f_X9_keep x) := by
  intro nc S hr
  obtain ⟨h1, h2, h3, h4, h5, h6, h7⟩ := id hr
  rcases toInt_cases x 2 (by decide) with hx | ⟨i, hi, rfl⟩
  · refine ⟨-1, S, S, nc, ?_, ?_, hr⟩
    · unfold f_X8_keep
      rw [X8_w0 (by rw [i32_0, i32_1]; omega)]
      rfl
    · unfold f_X9_keep
      rw [X9_i0 (by rw [i64_0, i64_1]; omega)]
      rfl
  · obtain ⟨S1, a1, a2, a3⟩ := X7_copyFrom (161 + 17 * i) 42 (by omega) S
    obtain ⟨S2, c1, c2, c3, c4⟩ := X9_copy (x := 0) (y := 283 + (283 * nI i)) (fr := 0) (to := 283 + 283 * i) rfl (ix283 i) (by omega) (by omega) (by omega) (upI S1 21 i 1)
    have r28 : ∀ j, (upI S1 21 i 1).1 28 j = S.1 28 j := fun j => by rw [up_k (by decide), a2 28 (by omega)]
    have k28 : ∀ j, j < 283 + 283 * i ∨ 283 + 283 * i + 283 ≤ j → (upI S2 29 i 1).1 28 j = S.1 28 j := fun j hj => by rw [up_k (by decide), c4 j hj, r28]
    have e45 : (upI S1 21 i 1).1 45 = S.1 45 := by rw [up_r (by decide), a2 45 (by omega)]
    refine ⟨nI (cn (fun k => decide (S.1 28 (18 * k) = 1)) 12), upI S1 21 i 1, upI S2 29 i 1, nc, ?_, ?_, ?_⟩
    · unfold f_X8_keep f_X2_store
      rw [X8_w1 (by rw [i32_0, i32_1, nI_toInt (by omega)]; omega), bd_mk, if10, ck_n hi (by decide), nI_clamp (by omega), a1, bdV_mk, ck_n hi (by decide), lt_mk, bdV_mk, nar_1, X7_present_of (n := cn (fun k => decide (S.1 28 (18 * k) = 1)) 12) (by rw [e45]; exact present_eq h1.1 h4), bd_mk]
    · unfold f_X9_keep
      rw [X9_i1 (by rw [i64_0, i64_1, nI_toInt (by omega)]; omega), bd_mk, if10, c1, bdV_mk, ck_n hi (by decide), lt_mk, nI_clamp (by omega), nar_1]
      rw [X9_calls (upI S2 29 i 1) (fun k hk => by rw [k28 _ (by omega)]; exact now_is h4 hk), bd_mk]
      rw [cn_congr 12 (p := fun k => decide ((upI S2 29 i 1).1 28 (18 * k) = 1)) (q := fun k => decide (S.1 28 (18 * k) = 1)) (fun k hk => by rw [k28 _ (by omega)])]
    · have keep : ∀ k, k ≠ 21 → k ≠ 29 → k ≠ 28 → k < 161 + 17 * i ∨ 161 + 17 * i + 17 ≤ k → (upI S2 29 i 1).1 k = S.1 k := fun k b1 b2 b3 b4 => by rw [up_r b2, c2 k b3, up_r b1, a2 k b4]
      refine ⟨h1.keep ?_ ?_ ?_ ?_ ?_ ?_ ?_ (by rw [keep 27 (by decide) (by decide) (by decide) (by omega)]), h2.keep (by rw [keep 1 (by decide) (by decide) (by decide) (by omega)]) ?_ ?_ (by rw [keep 27 (by decide) (by decide) (by decide) (by omega)]), h3.keep ?_ ?_ ?_ ?_ ?_ (by rw [keep 27 (by decide) (by decide) (by decide) (by omega)]), ?_, ?_, ?_, h7.keep (by rw [keep 14 (by decide) (by decide) (by decide) (by omega)]) (by rw [keep 27 (by decide) (by decide) (by decide) (by omega)])⟩
      case refine_15 => exact h4.far (fun k b1 b2 => keep k (by omega) (by omega) (by omega) (by omega)) (fun j b1 b2 => k28 j (by omega))
      case refine_16 =>
        obtain ⟨kn, nx, p1, p2, p3, p4, p5, p6⟩ := h5
        refine ⟨kn, nx, p1, p2, by rw [keep 17 (by decide) (by decide) (by decide) (by omega)]; exact p3, by rw [keep 27 (by decide) (by decide) (by decide) (by omega)]; exact p4, by rw [keep 17 (by decide) (by decide) (by decide) (by omega)]; exact p5, fun j hj => ?_⟩
        have hs : slot nx kn j < 6 := Nat.mod_lt _ (by decide)
        exact (p6 j hj).far (fun k b1 b2 => keep k (by omega) (by omega) (by omega) (by omega)) (fun q b1 b2 => k28 q (by omega))
      case refine_17 =>
        intro j hj
        by_cases hji : j = i
        · subst hji
          refine ⟨?_, Or.inr ⟨?_, ?_⟩⟩
          · rw [up_k (by decide), c2 21 (by decide), up_s, up_s]
          · rw [up_k (by decide), c2 21 (by decide), up_s]
          · refine h4.congr (fun k q hk hq => ?_) (fun q hq => ?_)
            · rw [up_k (by omega), c2 _ (by omega), up_k (by omega), a3 k q hk hq]
            · rw [up_k (by decide), c3 q hq, r28]
        · obtain ⟨q1, q2⟩ := h6 j hj
          have e21 : (upI S2 29 i 1).1 21 j = S.1 21 j := by rw [up_k (by decide), c2 21 (by decide), up_j hji, a2 21 (by omega)]
          have e29 : (upI S2 29 i 1).1 29 j = S.1 29 j := by rw [up_j hji, c2 29 (by decide), up_k (by decide), a2 29 (by omega)]
          rw [e21, e29]
          refine ⟨q1, ?_⟩
          rcases q2 with q2 | ⟨q2, q3⟩
          · exact Or.inl q2
          · exact Or.inr ⟨q2, q3.far (fun k b1 b2 => keep k (by omega) (by omega) (by omega) (by omega)) (fun q b1 b2 => k28 q (by omega))⟩
      all_goals exact keep _ (by decide) (by decide) (by decide) (by omega)
theorem sim_back (x : Int32) : Sim (f_X8_back x) (f_X9_back x) := by
  intro nc S hr
  obtain ⟨h1, h2, h3, h4, ⟨kn, nx, p1, p2, p3, p4, p5, p6⟩, h6, h7⟩ := id hr
  rcases toInt_cases x 2 (by decide) with hx | ⟨i, hi, rfl⟩
  · refine ⟨-1, S, S, nc, ?_, ?_, hr⟩
    · unfold f_X8_back
      rw [X8_w0 (by rw [i32_0, i32_1]; omega)]
      rfl
    · unfold f_X9_back
      rw [X9_i0 (by rw [i64_0, i64_1]; omega)]
      rfl
  · obtain ⟨q1, q2⟩ := h6 i hi
    rcases q2 with q2 | ⟨q2, q3⟩
    · refine ⟨-2, S, S, nc, ?_, ?_, hr⟩
      · unfold f_X8_back f_X2_bringBack
        rw [X8_w1 (by rw [i32_0, i32_1, nI_toInt (by omega)]; omega), bd_mk, if10, ck_n hi (by decide), ck_n hi (by decide), nI_clamp (by omega), q2]
        rfl
      · unfold f_X9_back
        rw [X9_i1 (by rw [i64_0, i64_1, nI_toInt (by omega)]; omega), bd_mk, if10, ck_n hi (by decide), nI_clamp (by omega), ← q1, q2]
        rfl
    · obtain ⟨S1, a1, a2, a3⟩ := X7_copyFrom 42 (161 + 17 * i) (by omega) S
      obtain ⟨S2, c1, c2, c3, c4⟩ := X9_copy (x := 283 + (283 * nI i)) (y := 0) (fr := 283 + 283 * i) (to := 0) (ix283 i) rfl (by omega) (by omega) (by omega) (upI S1 17 2 0)
      have r28 : ∀ j, (upI S1 17 2 0).1 28 j = S.1 28 j := fun j => by rw [up_k (by decide), a2 28 (by omega)]
      have n28 : ∀ j, j < 283 → (upI S2 27 2 0).1 28 j = S.1 28 (283 + 283 * i + j) := fun j hj => by
        have := c3 j hj
        rw [Nat.zero_add] at this
        rw [up_k (by decide), this, r28]
      have hpr := pres_eq h1.1 q3
      have e45 : cn (fun k => decide ((upI S1 17 2 0).1 45 k = -9)) 12 = cn (fun k => decide (S.1 (161 + 17 * i + 3) k = -9)) 12 := cn_congr 12 (fun k hk => by rw [up_k (by decide), a3 3 k (by omega) hk])
      refine ⟨nI (cn (fun k => decide (S.1 28 (283 + 283 * i + 18 * k) = 1)) 12), upI S1 17 2 0, upI S2 27 2 0, nc, ?_, ?_, ?_⟩
      · unfold f_X8_back f_X2_bringBack f_X1_forgetAll
        rw [X8_w1 (by rw [i32_0, i32_1, nI_toInt (by omega)]; omega), bd_mk, if10, ck_n hi (by decide), ck_n hi (by decide), nI_clamp (by omega), q2, if_neg (by decide), a1, bdV_mk, bd_mk, if_neg (by decide), lt_mk, bdV_mk, X7_present_of (n := cn (fun k => decide (S.1 28 (283 + 283 * i + 18 * k) = 1)) 12) (by rw [e45]; exact hpr), bd_mk]
      · unfold f_X9_back
        have q29 : (upI S1 17 2 0).1 29 i = 1 := by rw [up_k (by decide), a2 29 (by omega), ← q1, q2]
        rw [X9_i1 (by rw [i64_0, i64_1, nI_toInt (by omega)]; omega), bd_mk, if10, ck_n hi (by decide), nI_clamp (by omega), q29, if_neg (by decide), c1, bdV_mk, lt_mk]
        rw [X9_calls (upI S2 27 2 0) (fun k hk => by
          rw [n28 _ (by omega)]
          rcases q3.2.1 k hk with ⟨-, -, g⟩ | ⟨g, -⟩
          · exact Or.inl g
          · exact Or.inr g), bd_mk]
        rw [cn_congr 12 (p := fun k => decide ((upI S2 27 2 0).1 28 (18 * k) = 1)) (q := fun k => decide (S.1 28 (283 + 283 * i + 18 * k) = 1)) (fun k hk => by rw [n28 _ (by omega)])]
      · have keep : ∀ k, k ≠ 17 → k ≠ 27 → k ≠ 28 → k < 42 ∨ 59 ≤ k → (upI S2 27 2 0).1 k = S.1 k := fun k b1 b2 b3 b4 => by rw [up_r b2, c2 k b3, up_r b1, a2 k (by omega)]
        have k27 : ∀ j, j ≠ 2 → (upI S2 27 2 0).1 27 j = S.1 27 j := fun j hj => by rw [up_j hj, c2 27 (by decide), up_k (by decide), a2 27 (by omega)]
        have k28 : ∀ j, 283 ≤ j → (upI S2 27 2 0).1 28 j = S.1 28 j := fun j hj => by rw [up_k (by decide), c4 j (by omega), r28]
        refine ⟨h1.keep ?_ ?_ ?_ ?_ ?_ ?_ ?_ (k27 8 (by decide)), h2.keep (by rw [keep 1 (by decide) (by decide) (by decide) (by decide)]) ?_ ?_ (k27 7 (by decide)), h3.keep ?_ ?_ ?_ ?_ ?_ (k27 5 (by decide)), ?_, ?_, ?_, h7.keep (by rw [keep 14 (by decide) (by decide) (by decide) (by decide)]) (k27 25 (by decide))⟩
        case refine_15 => exact q3.congr (fun k j hk hj => by rw [up_k (by omega), c2 _ (by omega), up_k (by omega), a3 k j hk hj]) (fun j hj => by rw [Nat.zero_add, n28 j hj])
        case refine_16 => exact ⟨0, nx, by omega, p2, by rw [up_k (by decide), c2 17 (by decide), up_s]; rfl, by rw [up_s]; rfl, by rw [up_k (by decide), c2 17 (by decide), up_j (by decide), a2 17 (by omega)]; exact p5, fun j hj => absurd hj (by omega)⟩
        case refine_17 =>
          intro j hj
          obtain ⟨q1, q2⟩ := h6 j hj
          rw [keep 21 (by decide) (by decide) (by decide) (by decide), keep 29 (by decide) (by decide) (by decide) (by decide)]
          refine ⟨q1, ?_⟩
          rcases q2 with q2 | ⟨q2, q3⟩
          · exact Or.inl q2
          · exact Or.inr ⟨q2, q3.far (fun k b1 b2 => keep k (by omega) (by omega) (by omega) (by omega)) (fun q b1 b2 => k28 q (by omega))⟩
        all_goals exact keep _ (by decide) (by decide) (by decide) (by decide)
