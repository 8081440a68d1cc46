/-! ===== hears: the target, asking ===== -/
theorem neg1_lt {l : Nat} (h : l ≤ 6400) : ¬ nI l ≤ -1 := by
  rw [Int32.le_iff_toInt_le, nI_toInt (by omega), show (-1 : Int32).toInt = -1 from by decide]
  omega
theorem target_loop {i o nc dw : Nat} (hi : i < 12) (hnc : nc ≤ 4) (ho : o < nc) (hd1 : 1 ≤ dw) (hd5 : dw ≤ 5) {A B : St} (h9 : A.1 9 0 = nI nc) (h8 : B.1 27 8 = nI nc) (w1 : A.1 13 1 = nI dw) (w2 : B.1 35 2 = nI dw) (own : B.1 28 (18 * i + 1) = nI o) (s0 : A.1 55 (4 * i + o) = 0) (st : ∀ e, e < 4 → A.1 55 (4 * i + e) = B.1 28 (18 * i + (14 + e))) (lv : ∀ e, e < 4 → A.1 54 (4 * i + e) = B.1 28 (18 * i + (10 + e)) ∧ ∃ l, l ≤ 6400 ∧ A.1 54 (4 * i + e) = nI l) :
    ∀ (m d fuel fuel' : Nat) (t g : Int32), d + m = nc → m < fuel → m < fuel' → ((t = -9 ∧ g = -1) ∨ ∃ c, c < nc ∧ c ≠ o ∧ t = nI c ∧ g = A.1 54 (4 * i + c)) → ∃ t', f_X0_targetOf_8 fuel (nI i) t g (nI d) A = some (t', A) ∧ f_X9_target_5 fuel' (nI i) t (nI d) B = some (t', B) ∧ (t' = -9 ∨ ∃ c, c < nc ∧ c ≠ o ∧ t' = nI c) := by
  intro m
  induction m with
  | zero =>
    intro d fuel fuel' t g h1 h2 h3 h4
    obtain ⟨f, rfl⟩ : ∃ g, fuel = g + 1 := ⟨fuel - 1, by omega⟩
    obtain ⟨f', rfl⟩ : ∃ g, fuel' = g + 1 := ⟨fuel' - 1, by omega⟩
    obtain rfl : d = nc := by omega
    refine ⟨t, ?_, ?_, ?_⟩
    · rw [f_X0_targetOf_8, h9, if_pos (nI_le (by omega) (by omega)), f_X0_targetOf_90]
    · rw [f_X9_target_5, h8, if_pos (nI_le (by omega) (by omega))]
    · rcases h4 with ⟨z, -⟩ | ⟨c, c1, c2, c3, -⟩
      · exact Or.inl z
      · exact Or.inr ⟨c, c1, c2, c3⟩
  | succ m ih =>
    intro d fuel fuel' t g h1 h2 h3 h4
    obtain ⟨f, rfl⟩ : ∃ g, fuel = g + 1 := ⟨fuel - 1, by omega⟩
    obtain ⟨f', rfl⟩ : ∃ g, fuel' = g + 1 := ⟨fuel' - 1, by omega⟩
    have hd4 : d < 4 := by omega
    obtain ⟨l1, l, l2, l3⟩ := lv d hd4
    have cs : f_X0_targetOf_8 (f + 1) (nI i) t g (nI d) A = if A.1 55 (4 * i + d) < nI dw then f_X0_targetOf_8 f (nI i) t g (nI (d + 1)) A else if A.1 54 (4 * i + d) ≤ g then f_X0_targetOf_8 f (nI i) t g (nI (d + 1)) A else f_X0_targetOf_8 f (nI i) (nI d) (A.1 54 (4 * i + d)) (nI (d + 1)) A := by
      rw [f_X0_targetOf_8, h9, if_neg (nI_ge (by omega) (by omega)), if_neg (show ¬ (4 : Int32) ≤ nI d from nI_ge (b := 4) (by omega) (by omega)), lt_mk, ix4, ck_n (by omega) (by decide), ck15, ck_n (by omega) (by decide), ck_n (by omega) (by decide), lt_mk, nI_clamp (by omega), i32_1c, w1, f_X0_targetOf_84, f_X0_targetOf_84, nI_1]
    have rs : f_X9_target_5 (f' + 1) (nI i) t (nI d) B = if d = o then f_X9_target_5 f' (nI i) t (nI (d + 1)) B else if A.1 55 (4 * i + d) < nI dw then f_X9_target_5 f' (nI i) t (nI (d + 1)) B else f_X9_target_46 (f_X9_target_5 f') (nI i) t (nI d) 1 B := by
      rw [f_X9_target_5, h8, if_neg (nI_ge (by omega) (by omega)), X9_get_1 hi, bd_mk, own, X9_get_o (y := 14) (b := 14) rfl hi (by omega) (by omega), bd_mk, ck26, i32_2c, w2, f_X9_target_45, f_X9_target_46, if00, f_X9_target_84, f_X9_target_85, nI_1, st d hd4]
      by_cases hdo : d = o
      · rw [if_pos (by rw [hdo]), if_pos hdo]
      · rw [if_neg (fun z => hdo (nI_inj (by omega) (by omega) z)), if_neg hdo]
    by_cases hdo : d = o
    · obtain ⟨t', i1, i2, i3⟩ := ih (d + 1) f f' t g (by omega) (by omega) (by omega) h4
      refine ⟨t', ?_, ?_, i3⟩
      · rw [cs, if_pos (by rw [hdo, s0]; exact nI_lt (a := 0) (by omega) (by omega))]
        exact i1
      · rw [rs, if_pos hdo]
        exact i2
    · by_cases hs : A.1 55 (4 * i + d) < nI dw
      · obtain ⟨t', i1, i2, i3⟩ := ih (d + 1) f f' t g (by omega) (by omega) (by omega) h4
        refine ⟨t', ?_, ?_, i3⟩
        · rw [cs, if_pos hs]
          exact i1
        · rw [rs, if_neg hdo, if_pos hs]
          exact i2
      · rcases h4 with ⟨z1, z2⟩ | ⟨c, c1, c2, c3, c4⟩
        · obtain ⟨t', i1, i2, i3⟩ := ih (d + 1) f f' (nI d) (A.1 54 (4 * i + d)) (by omega) (by omega) (by omega) (Or.inr ⟨d, by omega, hdo, rfl, rfl⟩)
          refine ⟨t', ?_, ?_, i3⟩
          · rw [cs, if_neg hs, z2, l3, if_neg (neg1_lt l2), ← l3]
            exact i1
          · rw [rs, if_neg hdo, if_neg hs, f_X9_target_46, if10, z1, if_pos rfl, f_X9_target_80, f_X9_target_85, nI_1]
            exact i2
        · have hg : f_X9_target_46 (f_X9_target_5 f') (nI i) t (nI d) 1 B = if A.1 54 (4 * i + d) ≤ g then f_X9_target_5 f' (nI i) t (nI (d + 1)) B else f_X9_target_5 f' (nI i) (nI d) (nI (d + 1)) B := by
            rw [f_X9_target_46, if10, c3, if_neg (neg9_ne (by omega)), X9_get_o (y := 10) (b := 10) rfl hi (by omega) (by omega), bd_mk, X9_get_o (y := 10) (b := 10) rfl hi (by omega) (by omega), bd_mk, f_X9_target_84, f_X9_target_80, f_X9_target_85, f_X9_target_85, nI_1, c4, l1, (lv c (by omega)).1]
          by_cases hl : A.1 54 (4 * i + d) ≤ g
          · obtain ⟨t', i1, i2, i3⟩ := ih (d + 1) f f' t g (by omega) (by omega) (by omega) (Or.inr ⟨c, c1, c2, c3, c4⟩)
            refine ⟨t', ?_, ?_, i3⟩
            · rw [cs, if_neg hs, if_pos hl]
              exact i1
            · rw [rs, if_neg hdo, if_neg hs, hg, if_pos hl]
              exact i2
          · obtain ⟨t', i1, i2, i3⟩ := ih (d + 1) f f' (nI d) (A.1 54 (4 * i + d)) (by omega) (by omega) (by omega) (Or.inr ⟨d, by omega, hdo, rfl, rfl⟩)
            refine ⟨t', ?_, ?_, i3⟩
            · rw [cs, if_neg hs, if_neg hl]
              exact i1
            · rw [rs, if_neg hdo, if_neg hs, hg, if_neg hl]
              exact i2
theorem LK.tally {nc fm c q : Nat} (hc : c < 4) (hq : q < 6) {A B : St} (h : LK nc fm A B) : LK nc fm (upI A 44 (6 * c + q) (A.1 44 (6 * c + q) + 1)) (upI B 28 (220 + (6 * c + q)) (B.1 28 (220 + (6 * c + q)) + 1)) := by
  obtain ⟨⟨⟨ta1, ta2, ta3, ta4⟩, hcr, hp⟩, l1, l2, l3⟩ := h
  refine ⟨⟨⟨?_, ?_, fun d hd hd' => ?_, fun j hj => ?_⟩, fun q' hq' => (hcr q' hq').loc (fun k h1 h2 => ?_) (fun d hd => ?_) (fun d hd => ?_) (fun j hj => ?_), hp.loc ?_ (fun k q' h1 h2 h3 => ?_) (fun j h1 h2 => ?_)⟩, ?_, ?_, fun j hj => ?_⟩
  · show (upI A 44 _ _).1 42 0 = (upI B 28 _ _).1 28 281
    rw [up_k (by decide), up_j (by omega)]; exact ta1
  · show (upI A 44 _ _).1 42 1 = (upI B 28 _ _).1 28 282
    rw [up_k (by decide), up_j (by omega)]; exact ta2
  · show (upI A 44 _ _).1 43 d = (upI B 28 _ _).1 28 (216 + d)
    rw [up_k (by decide), up_j (by omega)]; exact ta3 d hd hd'
  · show (upI A 44 _ _).1 44 j = (upI B 28 _ _).1 28 (220 + j)
    have := ta4 j hj
    have this : A.1 44 j = B.1 28 (220 + j) := this
    by_cases hjq : j = 6 * c + q
    · subst hjq
      rw [up_s, up_s, this]
    · rw [up_j hjq, up_j (by omega), this]
  · show (upI A 44 _ _).1 (42 + k) q' = A.1 (42 + k) q'
    rw [up_k (by omega)]
  · show (upI A 44 _ _).1 54 _ = A.1 54 _
    rw [up_k (by omega)]
  · show (upI A 44 _ _).1 55 _ = A.1 55 _
    rw [up_k (by omega)]
  · show (upI B 28 _ _).1 28 _ = B.1 28 _
    rw [up_j (by omega)]
  · show (upI A 44 _ _).1 42 15 = A.1 42 15
    rw [up_k (by omega)]
  · show (upI A 44 _ _).1 (42 + k) q' = A.1 (42 + k) q'
    rw [up_k (by omega)]
  · show (upI B 28 _ _).1 28 j = B.1 28 j
    rw [up_j (by omega)]
  · rw [up_k (by decide)]; exact l1
  · rw [up_k (by decide)]; exact l2
  · rw [up_k (by decide), up_k (by decide)]; exact l3 j hj
theorem FA.tally (A : St) (j : Nat) (v : Int32) : FA A (upI A 44 j v) := fun k hk => up_r (by omega)
theorem FB.tally (B : St) {j : Nat} (hj : j < 283) (v : Int32) : FB B (upI B 28 j v) := ⟨fun k a b c => up_r b, fun j' h => up_k (by decide), fun j' h => up_j (by omega)⟩
/-- only one call's row has changed -/
theorem LK.call {nc fm i : Nat} {A B A' B' : St} (h : LK nc fm A B) (f1 : ∀ k, k < 45 ∨ 55 < k → k ≠ 15 → A'.1 k = A.1 k) (f2 : ∀ k, 45 ≤ k → k < 54 → ∀ q, q ≠ i → A'.1 k q = A.1 k q) (f3 : ∀ j, j < 4 * i ∨ 4 * i + 4 ≤ j → A'.1 54 j = A.1 54 j ∧ A'.1 55 j = A.1 55 j) (g1 : B'.1 27 25 = B.1 27 25) (g2 : B'.1 40 = B.1 40) (g3 : ∀ j, j < 18 * i ∨ 18 * i + 18 ≤ j → B'.1 28 j = B.1 28 j) (hi : i < 12) (row : CRn nc (cx A') (vr B') i) : LK nc fm A' B' := by
  obtain ⟨⟨⟨ta1, ta2, ta3, ta4⟩, hcr, hp⟩, l1, l2, l3⟩ := h
  refine ⟨⟨⟨?_, ?_, fun d hd hd' => ?_, fun j hj => ?_⟩, fun q hq => ?_, hp.loc ?_ (fun k q' h1 h2 h3 => ?_) (fun j h1 h2 => ?_)⟩, ?_, ?_, fun j hj => ?_⟩
  · show A'.1 42 0 = B'.1 28 281
    rw [f1 42 (by omega) (by omega), g3 _ (by omega)]; exact ta1
  · show A'.1 42 1 = B'.1 28 282
    rw [f1 42 (by omega) (by omega), g3 _ (by omega)]; exact ta2
  · show A'.1 43 d = B'.1 28 (216 + d)
    rw [f1 43 (by omega) (by omega), g3 _ (by omega)]; exact ta3 d hd hd'
  · show A'.1 44 j = B'.1 28 (220 + j)
    rw [f1 44 (by omega) (by omega), g3 _ (by omega)]; exact ta4 j hj
  · by_cases hqi : q = i
    · subst hqi
      exact row
    · refine (hcr q hq).loc (fun k h1 h2 => ?_) (fun d hd => ?_) (fun d hd => ?_) (fun j hj => ?_)
      · exact f2 (42 + k) (by omega) (by omega) q hqi
      · exact (f3 _ (by omega)).1
      · exact (f3 _ (by omega)).2
      · exact g3 _ (by omega)
  · show A'.1 42 15 = A.1 42 15
    rw [f1 42 (by omega) (by omega)]
  · show A'.1 (42 + k) q' = A.1 (42 + k) q'
    rw [f1 _ (by omega) (by omega)]
  · exact g3 _ (by omega)
  · rw [f1 14 (by omega) (by omega)]; exact l1
  · rw [g1]; exact l2
  · rw [f1 16 (by omega) (by omega), g2]; exact l3 j hj
theorem LK.w26 {nc fm : Nat} {A B : St} (h : LK nc fm A B) (v : Int32) : LK nc fm A (upI B 27 26 v) := by
  obtain ⟨r1, r2, r3, r4⟩ := h
  refine ⟨r1.congr (fun _ _ _ _ => rfl) (fun j hj => ?_), r2, ?_, fun j hj => ?_⟩
  · show (upI B 27 26 v).1 28 j = B.1 28 j
    rw [up_k (by decide)]
  · rw [up_j (by decide)]; exact r3
  · rw [up_k (by decide)]; exact r4 j hj
theorem FB.w26 (B : St) (v : Int32) : FB B (upI B 27 26 v) := ⟨fun k c1 c2 c3 => up_r c1, fun j hj => up_j (by omega), fun j hj => up_k (by decide)⟩
theorem LK.waits {nc fm : Nat} {A B : St} (h : LK nc fm A B) (v : Int32) : LK nc fm (upI A 42 1 v) (upI B 28 282 v) := by
  obtain ⟨⟨⟨ta1, ta2, ta3, ta4⟩, hcr, hp⟩, l1, l2, l3⟩ := h
  refine ⟨⟨⟨?_, ?_, fun d hd hd' => ?_, fun j hj => ?_⟩, fun q' hq' => (hcr q' hq').loc (fun k h1 h2 => ?_) (fun d hd => ?_) (fun d hd => ?_) (fun j hj => ?_), hp.loc ?_ (fun k q' h1 h2 h3 => ?_) (fun j h1 h2 => ?_)⟩, ?_, ?_, fun j hj => ?_⟩
  · show (upI A 42 1 v).1 42 0 = (upI B 28 _ _).1 28 281
    rw [up_j (by decide), up_j (by omega)]; exact ta1
  · show (upI A 42 1 v).1 42 1 = (upI B 28 _ _).1 28 282
    rw [up_s, up_s]
  · show (upI A 42 1 v).1 43 d = (upI B 28 _ _).1 28 (216 + d)
    rw [up_k (by decide), up_j (by omega)]; exact ta3 d hd hd'
  · show (upI A 42 1 v).1 44 j = (upI B 28 _ _).1 28 (220 + j)
    rw [up_k (by decide), up_j (by omega)]; exact ta4 j hj
  · show (upI A 42 1 v).1 (42 + k) q' = A.1 (42 + k) q'
    rw [up_k (by omega)]
  · show (upI A 42 1 v).1 54 _ = A.1 54 _
    rw [up_k (by omega)]
  · show (upI A 42 1 v).1 55 _ = A.1 55 _
    rw [up_k (by omega)]
  · show (upI B 28 _ _).1 28 _ = B.1 28 _
    rw [up_j (by omega)]
  · show (upI A 42 1 v).1 42 15 = A.1 42 15
    rw [up_j (by omega)]
  · show (upI A 42 1 v).1 (42 + k) q' = A.1 (42 + k) q'
    rw [up_k (by omega)]
  · show (upI B 28 _ _).1 28 j = B.1 28 j
    rw [up_j (by omega)]
  · rw [up_k (by decide)]; exact l1
  · rw [up_k (by decide)]; exact l2
  · rw [up_k (by decide), up_k (by decide)]; exact l3 j hj
/-- a call's WAITSFOR is set: none, or a cell that isn't its own -/
theorem LK.want {nc fm i : Nat} {A B : St} (h : LK nc fm A B) (hi : i < 12) (e : B.1 28 (18 * i) = 1) {w : Int32} (hw : w = -9 ∨ ∃ q, q < nc ∧ w = nI q ∧ ¬ A.1 45 i = nI q) : LK nc fm (upI A 46 i w) (upI B 28 (18 * i + 2) w) := by
  refine h.call (i := i) (fun k a b => up_r (by omega)) (fun k a b q hq => ?_) (fun j a => ⟨up_k (by decide), up_k (by decide)⟩) (up_k (by decide)) (up_r (by decide)) (fun j a => up_j (by omega)) hi ?_
  · rw [up_e, if_neg (fun z => hq z.2)]
  · rcases h.1.2.1 i hi with ⟨-, -, z⟩ | ⟨c0, p1, p2, c1, c2, c3, c4, c5, c6, c7, c8, c9, c10, c11, p14⟩
    · have z : B.1 28 (18 * i) = 0 := z
      rw [e] at z
      exact absurd z (by decide)
    · have yb : ∀ j, j ≠ 18 * i + 2 → vr (upI B 28 (18 * i + 2) w) j = vr B j := fun j hj => up_j hj
      have xa : ∀ k j, k ≠ 4 → cx (upI A 46 i w) k j = cx A k j := fun k j hk => up_k (by omega)
      refine Or.inr ⟨?_, ?_, ?_, ?_, ?_, ?_, ?_, ?_, ?_, ?_, ?_, ?_, fun d hd => ?_, fun d hd => ?_, ?_⟩
      · rw [yb _ (by omega)]; exact c0
      · rw [xa 3 _ (by decide)]; exact p1
      · show (upI A 46 i w).1 46 i = -9 ∨ ∃ q, q < nc ∧ (upI A 46 i w).1 46 i = nI q ∧ ¬ (upI A 46 i w).1 45 i = nI q
        rw [up_s, up_k (by decide)]; exact hw
      · rw [xa 3 _ (by decide), yb _ (by omega)]; exact c1
      · show (upI A 46 i w).1 46 i = (upI B 28 (18 * i + 2) w).1 28 (18 * i + 2)
        rw [up_s, up_s]
      · rw [xa 5 _ (by decide), yb _ (by omega)]; exact c3
      · rw [xa 6 _ (by decide), yb _ (by omega)]; exact c4
      · rw [xa 7 _ (by decide), yb _ (by omega)]; exact c5
      · rw [xa 8 _ (by decide), yb _ (by omega)]; exact c6
      · rw [xa 9 _ (by decide), yb _ (by omega)]; exact c7
      · rw [xa 10 _ (by decide), yb _ (by omega)]; exact c8
      · rw [xa 11 _ (by decide), yb _ (by omega)]; exact c9
      · rw [xa 12 _ (by decide), yb _ (by omega)]; exact c10 d hd
      · rw [xa 13 _ (by decide), yb _ (by omega)]; exact c11 d hd
      · rw [xa 10 _ (by decide)]; exact p14
theorem LK.since {nc fm i : Nat} {A B : St} (h : LK nc fm A B) (hi : i < 12) (e : B.1 28 (18 * i) = 1) (w : Int32) : LK nc fm (upI A 47 i w) (upI B 28 (18 * i + 3) w) := by
  refine h.call (i := i) (fun k a b => up_r (by omega)) (fun k a b q hq => ?_) (fun j a => ⟨up_k (by decide), up_k (by decide)⟩) (up_k (by decide)) (up_r (by decide)) (fun j a => up_j (by omega)) hi ?_
  · rw [up_e, if_neg (fun z => hq z.2)]
  · rcases h.1.2.1 i hi with ⟨-, -, z⟩ | ⟨c0, p1, p2, c1, c2, c3, c4, c5, c6, c7, c8, c9, c10, c11, p14⟩
    · have z : B.1 28 (18 * i) = 0 := z
      rw [e] at z
      exact absurd z (by decide)
    · have yb : ∀ j, j ≠ 18 * i + 3 → vr (upI B 28 (18 * i + 3) w) j = vr B j := fun j hj => up_j hj
      have xa : ∀ k j, k ≠ 5 → cx (upI A 47 i w) k j = cx A k j := fun k j hk => up_k (by omega)
      refine Or.inr ⟨?_, ?_, ?_, ?_, ?_, ?_, ?_, ?_, ?_, ?_, ?_, ?_, fun d hd => ?_, fun d hd => ?_, ?_⟩
      · rw [yb _ (by omega)]; exact c0
      · rw [xa 3 _ (by decide)]; exact p1
      · rw [xa 3 _ (by decide), xa 4 _ (by decide)]; exact p2
      · rw [xa 3 _ (by decide), yb _ (by omega)]; exact c1
      · rw [xa 4 _ (by decide), yb _ (by omega)]; exact c2
      · show (upI A 47 i w).1 47 i = (upI B 28 (18 * i + 3) w).1 28 (18 * i + 3)
        rw [up_s, up_s]
      · rw [xa 6 _ (by decide), yb _ (by omega)]; exact c4
      · rw [xa 7 _ (by decide), yb _ (by omega)]; exact c5
      · rw [xa 8 _ (by decide), yb _ (by omega)]; exact c6
      · rw [xa 9 _ (by decide), yb _ (by omega)]; exact c7
      · rw [xa 10 _ (by decide), yb _ (by omega)]; exact c8
      · rw [xa 11 _ (by decide), yb _ (by omega)]; exact c9
      · rw [xa 12 _ (by decide), yb _ (by omega)]; exact c10 d hd
      · rw [xa 13 _ (by decide), yb _ (by omega)]; exact c11 d hd
      · rw [xa 10 _ (by decide)]; exact p14
theorem cl282 : (282 : Int32).toNatClampNeg = 282 := by decide
theorem ck282 {ρ : Type} {X : Option ρ} : ck 282 2547 X = X := ck_n (n := 282) (by decide) (by decide)
theorem ask_ok {nc i o c : Nat} (hnc : nc ≤ 4) (hi : i < 12) (ho : o < nc) (hc : c < nc) (hoc : o ≠ c) {A B : St} (hT : TD nc A B) (h : LK nc 0 A B) (e : B.1 28 (18 * i) = 1) (eo : A.1 45 i = nI o) : ∃ v fm A' B', f_X0_ask (nI i) (nI c) A = some (v, A') ∧ f_X9_asks (nI i) (nI c) B = some (v, B') ∧ fm ≤ 1 ∧ FA A A' ∧ FB B B' ∧ LK nc fm A' B' ∧ (v = 1 ∨ (¬ v = 1 ∧ fm = 0 ∧ A'.1 45 = A.1 45 ∧ B'.1 28 (18 * i) = 1)) := by
  have hc4 : c < 4 := by omega
  obtain ⟨A1, hA1⟩ : ∃ A1, A1 = upI A 44 (6 * c + 2) (A.1 44 (6 * c + 2) + 1) := ⟨_, rfl⟩
  obtain ⟨B1, hB1⟩ : ∃ B1, B1 = upI B 28 (220 + (6 * c + 2)) (B.1 28 (220 + (6 * c + 2)) + 1) := ⟨_, rfl⟩
  have l1 : LK nc 0 A1 B1 := by rw [hA1, hB1]; exact h.tally hc4 (by decide)
  have fa1 : FA A A1 := by rw [hA1]; exact FA.tally A _ _
  have fb1 : FB B B1 := by rw [hB1]; exact FB.tally B (by omega) _
  have hT1 := hT.keep fa1 fb1
  have h4 := mgTR l1.1
  have e1 : B1.1 28 (18 * i) = 1 := by rw [hB1, up_j (by omega)]; exact e
  have eo1 : A1.1 45 i = nI o := by rw [hA1, up_k (by decide)]; exact eo
  have xf := X0_free hc4 A1
  have yf := X9_free (S' := B1) hT1 h4 hc (mg_b (by omega) (by omega)).symm (mg_b (by omega) (by omega)).symm
  rw [mg_fre] at yf
  have s1 : f_X0_ask (nI i) (nI c) A = if fre A1.1 c ≤ 0 then (bd (f_X7_waiting (nI c) A1) fun v5 S4 => ck (nI c) 4 (if (S4.1 12 (nI c).toNatClampNeg) ≤ v5 then (bdV (f_X7_tallyOne (nI c) 3 S4) fun S6 => some (3, S6)) else (bdV (f_X7_beginWaiting (nI i) (nI c) S4) fun S7 => some (2, S7)))) else (bdV (f_X0_move (nI i) (nI c) A1) fun S8 => some (1, S8)) := by
    unfold f_X0_ask
    rw [X7_tally (y := 2) (q := 2) hc4 (by decide) rfl, ← hA1, bdV_mk, xf, bd_mk]
  have s2 : f_X9_asks (nI i) (nI c) B = if fre A1.1 c ≤ 0 then (bd (f_X9_waiting (nI c) B1) fun v5 S4 => ck (nI c) 4 (if (S4.1 34 (nI c).toNatClampNeg) ≤ v5 then (bdV (f_X9_counts (nI c) 9 S4) fun S6 => some (3, S6)) else (bdV (f_X9_set (nI i) 2 (nI c) S4) fun S7 => ck 282 2547 (bdV (f_X9_set (nI i) 3 (S7.1 28 (282 : Int32).toNatClampNeg) S7) fun S8 => ck 282 2547 (ck 282 2547 (lt (upI S8 28 (282 : Int32).toNatClampNeg ((S8.1 28 (282 : Int32).toNatClampNeg) + 1)) fun S9 => some (2, S9))))))) else (bdV (f_X9_moves (nI i) (nI c) B1) fun S10 => some (1, S10)) := by
    unfold f_X9_asks
    rw [X9_counts (y := 8) (q := 2) hc4 (by decide) rfl, ← hB1, bdV_mk, yf, bd_mk]
  by_cases hf : fre A1.1 c ≤ 0
  · rw [if_pos hf] at s1 s2
    have xw : f_X7_waiting (nI c) A1 = some (nI (cn (fun k => decide (A1.1 46 k = nI c)) 12), A1) := by
      unfold f_X7_waiting
      rw [X7_callsOf, bd_mk]
    have yw := X9_waiting (nI c) B1
    have we := waiting_eq hnc h4 hc
    rw [mg_a (by omega), mg_b (by omega) (by omega)] at we
    rw [← we] at yw
    have pe := (hT1.2.2.2.1 c hc).2.2.1
    rw [mg_a (by omega), mg_b (by omega) (by omega)] at pe
    rw [xw, bd_mk, ck_n hc4 (by decide), nI_clamp (by omega)] at s1
    rw [yw, bd_mk, ck_n hc4 (by decide), nI_clamp (by omega), ← pe] at s2
    by_cases hp : A1.1 12 c ≤ nI (cn (fun k => decide (A1.1 46 k = nI c)) 12)
    · rw [if_pos hp, X7_tally (y := 3) (q := 3) hc4 (by decide) rfl, bdV_mk] at s1
      rw [if_pos hp, X9_counts (y := 9) (q := 3) hc4 (by decide) rfl, bdV_mk] at s2
      exact ⟨3, 0, _, _, s1, s2, by omega, fa1.trans (FA.tally _ _ _), fb1.trans (FB.tally _ (by omega) _), l1.tally hc4 (by decide), Or.inr ⟨by decide, rfl, by rw [up_r (by decide), hA1, up_r (by decide)], by rw [up_j (by omega)]; exact e1⟩⟩
    · have ew : A1.1 42 1 = B1.1 28 282 := l1.1.1.2.1
      have s1' : f_X0_ask (nI i) (nI c) A = some (2, upI (upI (upI A1 46 i (nI c)) 47 i (A1.1 42 1)) 42 1 (A1.1 42 1 + 1)) := by
        rw [s1, if_neg hp]
        unfold f_X7_beginWaiting
        rw [ck_n hi (by decide), lt_mk, ck_n hi (by decide), lt_mk, lt_mk, nI_clamp (by omega), up_k (by decide), up_k (by decide), up_k (by decide), bdV_mk]
      have s2' : f_X9_asks (nI i) (nI c) B = some (2, upI (upI (upI B1 28 (18 * i + 2) (nI c)) 28 (18 * i + 3) (A1.1 42 1)) 28 282 (A1.1 42 1 + 1)) := by
        rw [s2, if_neg hp, X9_set_2 hi, bdV_mk, ck282, cl282, up_j (by omega), ← ew, X9_set_3 hi, bdV_mk, ck282, ck282, lt_mk, up_j (by omega), up_j (by omega), ← ew]
      have l2 := l1.want hi e1 (w := nI c) (Or.inr ⟨c, hc, rfl, fun z => hoc (nI_inj (by omega) (by omega) (by rw [← eo1]; exact z))⟩)
      have l3 := l2.since hi (by rw [up_j (by omega)]; exact e1) (A1.1 42 1)
      refine ⟨2, 0, _, _, s1', s2', by omega, fa1.trans (fun k hk => by rw [up_r (by omega), up_r (by omega), up_r (by omega)]), fb1.trans (((FB.tally _ (by omega) _).trans (FB.tally _ (by omega) _)).trans (FB.tally _ (by omega) _)), l3.waits _, Or.inr ⟨by decide, rfl, by rw [up_r (by decide), up_r (by decide), up_r (by decide), hA1, up_r (by decide)], ?_⟩⟩
      rw [up_j (by omega), up_j (by omega), up_j (by omega)]; exact e1
  · rw [if_neg hf] at s1 s2
    obtain ⟨A2, B2, m1, m2, m3, m4, m5, m6, m7, m8⟩ := move_ok hnc hi ho hc hoc (by decide) hT1 l1 eo1
    rw [m1, bdV_mk] at s1
    rw [m2, bdV_mk] at s2
    exact ⟨1, 1, A2, B2, s1, s2, by omega, fa1.trans m3, fb1.trans m4, m5, Or.inl rfl⟩
