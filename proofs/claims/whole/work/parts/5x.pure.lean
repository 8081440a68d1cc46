/-! ===== hears, put together ===== -/
def g_hears (x1 x2 x3 x4 x5 : Int32) (S11 : St) : Option (Int32 × St) :=
  bd (f_X9_get x1 1 S11) fun v13 S12 =>
  bd (f_X9_get x1 (10 + v13) S12) fun v15 S14 =>
  bdV (f_X9_listens x1 0 x2 S14) fun S16 =>
  bdV (f_X9_listens x1 1 x3 S16) fun S17 =>
  bdV (f_X9_listens x1 2 x4 S17) fun S18 =>
  bdV (f_X9_listens x1 3 x5 S18) fun S19 =>
  bd (f_X9_get x1 4 S19) fun v21 S20 =>
  bdV (f_X9_set x1 4 (v21 + 1) S20) fun S22 =>
  bd (f_X9_get x1 9 S22) fun v24 S23 =>
  bdV (f_X9_set x1 9 (v24 + 1) S23) fun S25 =>
  bd (f_X9_get x1 (10 + v13) S25) fun v27 S26 =>
  bdV (f_X9_set x1 7 (v15 - v27) S26) fun S28 =>
  bdV (f_X9_streaks x1 S28) fun S29 =>
  bd (f_X9_target x1 S29) fun v31 S30 =>
  g_want x1 v13 v31 S30
theorem hears_eq (x1 x2 x3 x4 x5 : Int32) (S : St) : f_X9_hears x1 x2 x3 x4 x5 S = bd (f_X9_isCall x1 S) fun v2 S1 =>
  if v2 = 0 then (f_X9_hears_46 S1)
  else (bd (f_X9_isValue 0 x2 S1) fun v4 S3 =>
    if v4 = 0 then (f_X9_hears_46 S3)
    else (bd (f_X9_isValue 1 x3 S3) fun v6 S5 =>
      if v6 = 0 then (f_X9_hears_46 S5)
      else (bd (f_X9_isValue 2 x4 S5) fun v8 S7 =>
        if v8 = 0 then (f_X9_hears_46 S7)
        else (bd (f_X9_isValue 3 x5 S7) fun v10 S9 =>
          if v10 = 0 then (f_X9_hears_46 S9)
          else (bdV (f_X9_minds S9) fun S11 => g_hears x1 x2 x3 x4 x5 S11))))) := by
  unfold f_X9_hears g_hears g_want
  rfl
theorem hear_ok {nc i : Nat} {va : Nat → Nat} (hnc : nc ≤ 4) (hi : i < 12) (hv : ∀ e, e < 4 → va e ≤ 100 ∧ (nc ≤ e → va e = 0)) {A B : St} (hT : TD nc A B) (h : LK nc 0 A B) (e : B.1 28 (18 * i) = 1) :
    ∃ v A' B', (bdV (f_X0_setValues (nI (va 0)) (nI (va 1)) (nI (va 2)) (nI (va 3)) A) fun S12 => bd (f_X0_hear (nI i) S12) fun v14 S13 => some (v14, S13)) = some (v, A') ∧ g_hears (nI i) (nI (va 0)) (nI (va 1)) (nI (va 2)) (nI (va 3)) B = some (v, B') ∧ FA A A' ∧ FB B B' ∧ LK nc 0 A' B' := by
  obtain ⟨n1, n2, n3, ⟨dw, n4, n5, n6, n7⟩, ⟨f, n8, n9, n10⟩, n11⟩ := told_set hT
  obtain ⟨o, ho, eo, eb⟩ := call_row h.1 hi e
  have ho4 : o < 4 := by omega
  rcases h.1.2.1 i hi with ⟨-, -, z⟩ | ⟨c0, -, p2, c1, c2, c3, c4, c5, c6, c7, c8, c9, c10, c11, -⟩
  · have z : B.1 28 (18 * i) = 0 := z
    rw [e] at z
    exact absurd z (by decide)
  have p2 : A.1 46 i = -9 ∨ ∃ q, q < nc ∧ A.1 46 i = nI q ∧ ¬ A.1 45 i = nI q := p2
  have c1 : A.1 45 i = B.1 28 (18 * i + 1) := c1
  have c2 : A.1 46 i = B.1 28 (18 * i + 2) := c2
  have c3 : A.1 47 i = B.1 28 (18 * i + 3) := c3
  have c4 : A.1 48 i = B.1 28 (18 * i + 4) := c4
  have c5 : A.1 49 i = B.1 28 (18 * i + 9) := c5
  have c6 : A.1 50 i = B.1 28 (18 * i + 5) := c6
  have c7 : A.1 51 i = B.1 28 (18 * i + 6) := c7
  have c9 : A.1 53 i = B.1 28 (18 * i + 8) := c9
  have c10 : ∀ d, d < 4 → A.1 54 (4 * i + d) = B.1 28 (18 * i + 10 + d) ∧ (∃ l, l ≤ 6400 ∧ A.1 54 (4 * i + d) = nI l) ∧ (nc ≤ d → A.1 54 (4 * i + d) = 0) := c10
  have c11 : ∀ d, d < 4 → A.1 55 (4 * i + d) = B.1 28 (18 * i + 14 + d) := c11
  obtain ⟨lv, hlv⟩ : ∃ lv : Nat → Nat, lv = fun d => (A.1 54 (4 * i + d)).toNatClampNeg := ⟨_, rfl⟩
  have lv1 : ∀ d, d < 4 → A.1 54 (4 * i + d) = nI (lv d) ∧ lv d ≤ 6400 ∧ B.1 28 (18 * i + (10 + d)) = nI (lv d) ∧ (nc ≤ d → lv d = 0) := fun d hd => by
    obtain ⟨q1, ⟨l, l1, l2⟩, q3⟩ := c10 d hd
    have el : lv d = l := by rw [hlv]; show (A.1 54 (4 * i + d)).toNatClampNeg = l; rw [l2, nI_clamp (by omega)]
    rw [el]
    refine ⟨l2, l1, by rw [← Nat.add_assoc, ← q1]; exact l2, fun hn => ?_⟩
    have := q3 hn
    rw [l2] at this
    exact nI_inj (b := 0) (by omega) (by omega) this
  obtain ⟨A0, s1, s2, s3, s4, s5, s6⟩ := setValues_ok (nI (va 0)) (nI (va 1)) (nI (va 2)) (nI (va 3)) A
  have s15 : ∀ d, d < 4 → A0.1 15 d = nI (va d) := fun d hd => by
    match d, hd with
    | 0, _ => exact s3
    | 1, _ => exact s4
    | 2, _ => exact s5
    | 3, _ => exact s6
  obtain ⟨A1, hA1⟩ : ∃ A1, A1 = upI (upI A0 48 i (A0.1 48 i + 1)) 49 i (A0.1 49 i + 1) := ⟨_, rfl⟩
  have a1k : ∀ k, k ≠ 15 → k ≠ 48 → k ≠ 49 → A1.1 k = A.1 k := fun k b1 b2 b3 => by rw [hA1, up_r b3, up_r b2, s2 k b1]
  have a15 : A1.1 15 = A0.1 15 := by rw [hA1, up_r (by decide), up_r (by decide)]
  obtain ⟨A2, t1, t2, t3, t4⟩ := smooth_ok (A := A1) hi hnc ho n8 lv va (by rw [a1k 9 (by decide) (by decide) (by decide)]; exact n1) (by rw [a1k 13 (by decide) (by decide) (by decide)]; exact n9) (by rw [a1k 45 (by decide) (by decide) (by decide)]; exact eo) (fun d hd => by
    rw [a1k 54 (by decide) (by decide) (by decide), a15]
    exact ⟨(lv1 d (by omega)).1, (lv1 d (by omega)).2.1, s15 d (by omega), (hv d (by omega)).1⟩)
  obtain ⟨A3, u1, u2, u3⟩ := streaks_ok (A := A2) hi hnc ho (by rw [t2 9 (by decide) (by decide), a1k 9 (by decide) (by decide) (by decide)]; exact n1) (by rw [t2 45 (by decide) (by decide), a1k 45 (by decide) (by decide) (by decide)]; exact eo)
  -- the reference
  have L0 := X9_listens (i := i) (d := 0) (y := 0) (B := B) hi (by decide) n8 (lv1 0 (by decide)).2.1 (hv 0 (by decide)).1 rfl n10 (lv1 0 (by decide)).2.2.1
  obtain ⟨B1, hB1⟩ : ∃ B1, B1 = upI B 28 (18 * i + (10 + 0)) (nI (smt f (lv 0) (va 0))) := ⟨_, rfl⟩
  rw [← hB1] at L0
  have L1 := X9_listens (i := i) (d := 1) (y := 1) (B := B1) hi (by decide) n8 (lv1 1 (by decide)).2.1 (hv 1 (by decide)).1 rfl (by rw [hB1, up_k (by decide)]; exact n10) (by rw [hB1, up_j (by omega)]; exact (lv1 1 (by decide)).2.2.1)
  obtain ⟨B2, hB2⟩ : ∃ B2, B2 = upI B1 28 (18 * i + (10 + 1)) (nI (smt f (lv 1) (va 1))) := ⟨_, rfl⟩
  rw [← hB2] at L1
  have L2 := X9_listens (i := i) (d := 2) (y := 2) (B := B2) hi (by decide) n8 (lv1 2 (by decide)).2.1 (hv 2 (by decide)).1 rfl (by rw [hB2, up_k (by decide), hB1, up_k (by decide)]; exact n10) (by rw [hB2, up_j (by omega), hB1, up_j (by omega)]; exact (lv1 2 (by decide)).2.2.1)
  obtain ⟨B3, hB3⟩ : ∃ B3, B3 = upI B2 28 (18 * i + (10 + 2)) (nI (smt f (lv 2) (va 2))) := ⟨_, rfl⟩
  rw [← hB3] at L2
  have L3 := X9_listens (i := i) (d := 3) (y := 3) (B := B3) hi (by decide) n8 (lv1 3 (by decide)).2.1 (hv 3 (by decide)).1 rfl (by rw [hB3, up_k (by decide), hB2, up_k (by decide), hB1, up_k (by decide)]; exact n10) (by rw [hB3, up_j (by omega), hB2, up_j (by omega), hB1, up_j (by omega)]; exact (lv1 3 (by decide)).2.2.1)
  obtain ⟨B4, hB4⟩ : ∃ B4, B4 = upI B3 28 (18 * i + (10 + 3)) (nI (smt f (lv 3) (va 3))) := ⟨_, rfl⟩
  rw [← hB4] at L3
  have b4k : ∀ k, k ≠ 28 → B4.1 k = B.1 k := fun k hk => by rw [hB4, up_r hk, hB3, up_r hk, hB2, up_r hk, hB1, up_r hk]
  have b4j : ∀ j, j < 18 * i + 10 ∨ 18 * i + 13 < j → B4.1 28 j = B.1 28 j := fun j hj => by rw [hB4, up_j (by omega), hB3, up_j (by omega), hB2, up_j (by omega), hB1, up_j (by omega)]
  have b4l : ∀ d, d < 4 → B4.1 28 (18 * i + (10 + d)) = nI (smt f (lv d) (va d)) := fun d hd => by
    match d, hd with
    | 0, _ => rw [hB4, up_j (by omega), hB3, up_j (by omega), hB2, up_j (by omega), hB1, up_s]
    | 1, _ => rw [hB4, up_j (by omega), hB3, up_j (by omega), hB2, up_s]
    | 2, _ => rw [hB4, up_j (by omega), hB3, up_s]
    | 3, _ => rw [hB4, up_s]
  obtain ⟨B5, hB5⟩ : ∃ B5, B5 = upI (upI (upI B4 28 (18 * i + 4) (B.1 28 (18 * i + 4) + 1)) 28 (18 * i + 9) (B.1 28 (18 * i + 9) + 1)) 28 (18 * i + 7) (nI (lv o) - nI (smt f (lv o) (va o))) := ⟨_, rfl⟩
  have b5k : ∀ k, k ≠ 28 → B5.1 k = B.1 k := fun k hk => by rw [hB5, up_r hk, up_r hk, up_r hk, b4k k hk]
  have b5j : ∀ j, (j < 18 * i + 10 ∨ 18 * i + 13 < j) → j ≠ 18 * i + 4 → j ≠ 18 * i + 9 → j ≠ 18 * i + 7 → B5.1 28 j = B.1 28 j := fun j b1 b2 b3 b4 => by rw [hB5, up_j b4, up_j b3, up_j b2, b4j j b1]
  have b5l : ∀ d, d < 4 → B5.1 28 (18 * i + (10 + d)) = nI (smt f (lv d) (va d)) := fun d hd => by rw [hB5, up_j (by omega), up_j (by omega), up_j (by omega), b4l d hd]
  obtain ⟨B6, w1, w2, w3⟩ := streaks_ok9 (B := B5) hi hnc ho (by rw [b5k 27 (by decide)]; exact n2) (by rw [b5j _ (by omega) (by omega) (by omega) (by omega)]; exact eb)
  -- the relation
  have fa : FA A A3 := fun k hk => by rw [u2 k (by omega), t2 k (by omega) (by omega), a1k k (by omega) (by omega) (by omega)]
  have fb : FB B B6 := ⟨fun k b1 b2 b3 => by rw [w2 k b2, b5k k b2], fun j hj => by rw [w2 27 (by decide), b5k 27 (by decide)], fun j hj => by rw [w3, if_neg (by omega), b5j _ (by omega) (by omega) (by omega) (by omega)]⟩
  have x3k : ∀ k, k ≠ 15 → k ≠ 48 → k ≠ 49 → k ≠ 52 → k ≠ 54 → k ≠ 55 → A3.1 k = A.1 k := fun k b1 b2 b3 b4 b5 b6 => by rw [u2 k b6, t2 k b5 b4, a1k k b1 b2 b3]
  have x48 : ∀ j, A3.1 48 j = if j = i then A.1 48 j + 1 else A.1 48 j := fun j => by
    rw [u2 48 (by decide), t2 48 (by decide) (by decide), hA1, up_k (by decide), up_e]
    by_cases hj : j = i
    · rw [if_pos ⟨rfl, hj⟩, if_pos hj, s2 48 (by decide), hj]
    · rw [if_neg (fun z => hj z.2), if_neg hj, s2 48 (by decide)]
  have x49 : ∀ j, A3.1 49 j = if j = i then A.1 49 j + 1 else A.1 49 j := fun j => by
    rw [u2 49 (by decide), t2 49 (by decide) (by decide), hA1, up_e]
    by_cases hj : j = i
    · rw [if_pos ⟨rfl, hj⟩, if_pos hj, s2 49 (by decide), hj]
    · rw [if_neg (fun z => hj z.2), if_neg hj, up_k (by decide), s2 49 (by decide)]
  have x52 : ∀ j, A3.1 52 j = if j = i then nI (lv o) - nI (smt f (lv o) (va o)) else A.1 52 j := fun j => by rw [u2 52 (by decide), t4, a1k 52 (by decide) (by decide) (by decide)]
  have x54 : ∀ j, A3.1 54 j = if 4 * i ≤ j ∧ j < 4 * i + nc then nI (smt f (lv (j - 4 * i)) (va (j - 4 * i))) else A.1 54 j := fun j => by rw [u2 54 (by decide), t3, a1k 54 (by decide) (by decide) (by decide)]
  have a2l : ∀ d, d < 4 → A2.1 54 (4 * i + d) = nI (smt f (lv d) (va d)) := fun d hd => by
    rw [t3, a1k 54 (by decide) (by decide) (by decide)]
    by_cases hdn : d < nc
    · rw [if_pos (by omega), show 4 * i + d - 4 * i = d by omega]
    · rw [if_neg (by omega), (lv1 d hd).1, (lv1 d hd).2.2.2 (by omega), (hv d hd).2 (by omega), smt_0 n8]
  have x54l : ∀ d, d < 4 → A3.1 54 (4 * i + d) = nI (smt f (lv d) (va d)) := fun d hd => by rw [u2 54 (by decide), a2l d hd]
  have x55 : ∀ d, d < 4 → A3.1 55 (4 * i + d) = B6.1 28 (18 * i + (14 + d)) := fun d hd => by
    have old : A2.1 55 (4 * i + d) = B5.1 28 (18 * i + (14 + d)) := by rw [t2 55 (by decide) (by decide), a1k 55 (by decide) (by decide) (by decide), b5j _ (by omega) (by omega) (by omega) (by omega), ← Nat.add_assoc]; exact c11 d hd
    rw [u3, w3]
    by_cases hdn : d < nc
    · rw [if_pos (by omega), if_pos (by omega), show 4 * i + d - 4 * i = d by omega, show 18 * i + (14 + d) - (18 * i + 14) = d by omega, show 18 * i + (14 + d) - 4 = 18 * i + (10 + d) by omega, a2l o ho4, a2l d hd, b5l o ho4, b5l d hd, old, t2 13 (by decide) (by decide), a1k 13 (by decide) (by decide) (by decide), b5k 35 (by decide), n3]
    · rw [if_neg (by omega), if_neg (by omega), old]
  have y6 : ∀ j, j < 18 * i + 14 → B6.1 28 j = B5.1 28 j := fun j hj => by rw [w3, if_neg (by omega)]
  have hfall : (nI (lv o) - nI (smt f (lv o) (va o))).toInt = (lv o : Int) - (smt f (lv o) (va o) : Int) ∧ lv o ≤ 6400 ∧ smt f (lv o) (va o) ≤ 6400 := by
    have q1 := (lv1 o ho4).2.1
    have q2 := smt_le n8 q1 (hv o ho4).1
    refine ⟨?_, q1, q2⟩
    rw [i32_sub (by rw [nI_toInt (by omega), nI_toInt (by omega)]; omega) (by rw [nI_toInt (by omega), nI_toInt (by omega)]; omega), nI_toInt (by omega), nI_toInt (by omega)]
  have l6 : LK nc 0 A3 B6 := by
    refine h.call (i := i) (fun k b1 b2 => x3k k b2 (by omega) (by omega) (by omega) (by omega) (by omega)) (fun k b1 b2 q hq => ?_) (fun j hj => ⟨by rw [x54, if_neg (by omega)], by rw [u3, if_neg (by omega), t2 55 (by decide) (by decide), a1k 55 (by decide) (by decide) (by decide)]⟩) (by rw [w2 27 (by decide), b5k 27 (by decide)]) (by rw [w2 40 (by decide), b5k 40 (by decide)]) (fun j hj => by rw [w3, if_neg (by omega), b5j _ (by omega) (by omega) (by omega) (by omega)]) hi ?_
    · by_cases k48 : k = 48
      · subst k48; rw [x48, if_neg hq]
      · by_cases k49 : k = 49
        · subst k49; rw [x49, if_neg hq]
        · by_cases k52 : k = 52
          · subst k52; rw [x52, if_neg hq]
          · rw [x3k k (by omega) k48 k49 k52 (by omega) (by omega)]
    · refine Or.inr ⟨?_, ⟨o, ho, ?_⟩, ?_, ?_, ?_, ?_, ?_, ?_, ?_, ?_, ?_, ?_, fun d hd => ⟨?_, ⟨_, smt_le n8 (lv1 d hd).2.1 (hv d hd).1, x54l d hd⟩, fun hn => ?_⟩, fun d hd => ?_, ?_, ?_⟩
      · show B6.1 28 (18 * i) = 1
        rw [y6 _ (by omega), b5j _ (by omega) (by omega) (by omega) (by omega)]; exact e
      · show A3.1 45 i = nI o
        rw [x3k 45 (by decide) (by decide) (by decide) (by decide) (by decide) (by decide)]; exact eo
      · show A3.1 46 i = -9 ∨ ∃ q, q < nc ∧ A3.1 46 i = nI q ∧ ¬ A3.1 45 i = nI q
        rw [x3k 45 (by decide) (by decide) (by decide) (by decide) (by decide) (by decide), x3k 46 (by decide) (by decide) (by decide) (by decide) (by decide) (by decide)]; exact p2
      · show A3.1 45 i = B6.1 28 (18 * i + 1)
        rw [x3k 45 (by decide) (by decide) (by decide) (by decide) (by decide) (by decide), y6 _ (by omega), b5j _ (by omega) (by omega) (by omega) (by omega)]; exact c1
      · show A3.1 46 i = B6.1 28 (18 * i + 2)
        rw [x3k 46 (by decide) (by decide) (by decide) (by decide) (by decide) (by decide), y6 _ (by omega), b5j _ (by omega) (by omega) (by omega) (by omega)]; exact c2
      · show A3.1 47 i = B6.1 28 (18 * i + 3)
        rw [x3k 47 (by decide) (by decide) (by decide) (by decide) (by decide) (by decide), y6 _ (by omega), b5j _ (by omega) (by omega) (by omega) (by omega)]; exact c3
      · show A3.1 48 i = B6.1 28 (18 * i + 4)
        rw [x48, if_pos rfl, y6 _ (by omega), hB5, up_j (by omega), up_j (by omega), up_s, c4]
      · show A3.1 49 i = B6.1 28 (18 * i + 9)
        rw [x49, if_pos rfl, y6 _ (by omega), hB5, up_j (by omega), up_s, c5]
      · show A3.1 50 i = B6.1 28 (18 * i + 5)
        rw [x3k 50 (by decide) (by decide) (by decide) (by decide) (by decide) (by decide), y6 _ (by omega), b5j _ (by omega) (by omega) (by omega) (by omega)]; exact c6
      · show A3.1 51 i = B6.1 28 (18 * i + 6)
        rw [x3k 51 (by decide) (by decide) (by decide) (by decide) (by decide) (by decide), y6 _ (by omega), b5j _ (by omega) (by omega) (by omega) (by omega)]; exact c7
      · show A3.1 52 i = B6.1 28 (18 * i + 7)
        rw [x52, if_pos rfl, y6 _ (by omega), hB5, up_s]
      · show A3.1 53 i = B6.1 28 (18 * i + 8)
        rw [x3k 53 (by decide) (by decide) (by decide) (by decide) (by decide) (by decide), y6 _ (by omega), b5j _ (by omega) (by omega) (by omega) (by omega)]; exact c9
      · show A3.1 54 (4 * i + d) = B6.1 28 (18 * i + 10 + d)
        rw [x54l d hd, y6 _ (by omega), Nat.add_assoc, b5l d hd]
      · show A3.1 54 (4 * i + d) = 0
        rw [x54, if_neg (by omega)]; exact (c10 d hd).2.2 hn
      · show A3.1 55 (4 * i + d) = B6.1 28 (18 * i + 14 + d)
        rw [x55 d hd, Nat.add_assoc]
      · show -6400 ≤ (A3.1 52 i).toInt
        rw [x52, if_pos rfl, hfall.1]; omega
      · show (A3.1 52 i).toInt ≤ 6400
        rw [x52, if_pos rfl, hfall.1]; omega
  have eo3 : A3.1 45 i = nI o := by rw [x3k 45 (by decide) (by decide) (by decide) (by decide) (by decide) (by decide)]; exact eo
  have e3 : B6.1 28 (18 * i) = 1 := by rw [y6 _ (by omega), b5j _ (by omega) (by omega) (by omega) (by omega)]; exact e
  have hT3 := hT.keep fa fb
  obtain ⟨m1, m2, -, -, -, -⟩ := told_set hT3
  obtain ⟨t, r1, r2, r3⟩ := target_loop (A := A3) (B := B6) (dw := dw) hi hnc ho n4 n5 m1 m2 (by rw [x3k 13 (by decide) (by decide) (by decide) (by decide) (by decide) (by decide)]; exact n6) (by rw [w2 35 (by decide), b5k 35 (by decide)]; exact n7) (by rw [y6 _ (by omega), b5j _ (by omega) (by omega) (by omega) (by omega)]; exact eb) (by
      rw [u3, if_pos (by omega), show 4 * i + o - 4 * i = o by omega]
      unfold sk
      rw [if_pos rfl]) x55 (fun d hd => ⟨by rw [x54l d hd, y6 _ (by omega), b5l d hd], _, smt_le n8 (lv1 d hd).2.1 (hv d hd).1, x54l d hd⟩) nc 0 FU FU (-9) (-1) (by omega) (by show nc < 3000; omega) (by show nc < 3000; omega) (Or.inl ⟨rfl, rfl⟩)
  obtain ⟨v, A', B', q1, q2, q3, q4, q5⟩ := follow_ok hnc hi ho hT3 l6 eo3 e3 r3
  refine ⟨v, A', B', ?_, ?_, fa.trans q3, fb.trans q4, q5⟩
  · rw [s1, bdV_mk, hear_eq, ck_n hi (by decide), ck_n hi (by decide), lt_mk, ck_n hi (by decide), ck_n hi (by decide), lt_mk, nI_clamp (by omega), up_k (k' := 49) (by decide), ← hA1, t1, bdV_mk, u1, bdV_mk]
    rw [show f_X0_targetOf (nI i) A3 = some (t, A3) from r1, bd_mk, q1, bd_mk]
  · unfold g_hears
    rw [X9_get_1 hi, bd_mk, eb, X9_get_o (y := 10) (b := 10) rfl hi ho4 (by omega), bd_mk, (lv1 o ho4).2.2.1, L0, bdV_mk, L1, bdV_mk, L2, bdV_mk, L3, bdV_mk, X9_get_4 hi, bd_mk, X9_set_4 hi, bdV_mk, X9_get_9 hi, bd_mk, X9_set_9 hi, bdV_mk, X9_get_o (y := 10) (b := 10) rfl hi ho4 (by omega), bd_mk, X9_set_7 hi, bdV_mk]
    rw [up_j (j' := 18 * i + (10 + o)) (by omega), up_j (j' := 18 * i + (10 + o)) (by omega), b4l o ho4, up_j (j' := 18 * i + 9) (by omega), b4j (18 * i + 9) (by omega), b4j (18 * i + 4) (by omega), ← hB5, w1, bdV_mk]
    rw [show f_X9_target (nI i) B6 = some (t, B6) from r2, bd_mk, q2]
