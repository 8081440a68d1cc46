/-! ===== a move, side by side ===== -/
theorem bd_n {α ρ : Type} (a : α) (S : St) (f : α → St → Option ρ) : bd (some (a, S)) f = f a S := Eq.trans (bd_mk a S f) (Eq.refl _)
theorem bdV_n {ρ : Type} (S : St) (f : St → Option ρ) : bdV (some S) f = f S := Eq.trans (bdV_mk S f) (Eq.refl _)
theorem lt_n {α β : Type} (a : α) (f : α → β) : lt a f = f a := Eq.trans (lt_mk a f) (Eq.refl _)
theorem if10n {ρ : Type} {X Y : Option ρ} : (if (1 : Int32) = 0 then X else Y) = Y := Eq.trans if10 (Eq.refl _)
theorem if00n {ρ : Type} {X Y : Option ρ} : (if (0 : Int32) = 0 then X else Y) = X := Eq.trans if00 (Eq.refl _)
def FA (A A' : St) : Prop := ∀ k, (k < 14 ∨ (16 < k ∧ k < 42) ∨ 59 ≤ k) → A'.1 k = A.1 k
def FB (B B' : St) : Prop := (∀ k, k ≠ 27 → k ≠ 28 → k ≠ 40 → B'.1 k = B.1 k) ∧ (∀ j, j < 25 → B'.1 27 j = B.1 27 j) ∧ ∀ j, 283 ≤ j → B'.1 28 j = B.1 28 j
theorem FA.refl (A : St) : FA A A := fun _ _ => rfl
theorem FB.refl (B : St) : FB B B := ⟨fun _ _ _ _ => rfl, fun _ _ => rfl, fun _ _ => rfl⟩
theorem FA.trans {A B C : St} (h : FA A B) (h' : FA B C) : FA A C := fun k hk => (h' k hk).trans (h k hk)
theorem FB.trans {A B C : St} (h : FB A B) (h' : FB B C) : FB A C := ⟨fun k a b c => (h'.1 k a b c).trans (h.1 k a b c), fun j a => (h'.2.1 j a).trans (h.2.1 j a), fun j a => (h'.2.2 j a).trans (h.2.2 j a)⟩
def TD (nc : Nat) (A B : St) : Prop := RTold nc (mg A B).1
theorem TD.keep {nc : Nat} {A B A' B' : St} (h : TD nc A B) (fa : FA A A') (fb : FB B B') : TD nc A' B' := by
  unfold TD at h ⊢
  refine h.keep ?_ ?_ ?_ ?_ ?_ ?_ ?_ ?_
  · rw [mg_a (by omega), mg_a (by omega), fa 9 (by omega)]
  · rw [mg_a (by omega), mg_a (by omega), fa 10 (by omega)]
  · rw [mg_a (by omega), mg_a (by omega), fa 12 (by omega)]
  · rw [mg_a (by omega), mg_a (by omega), fa 13 (by omega)]
  · rw [mg_b (by omega) (by omega), mg_b (by omega) (by omega), fb.1 33 (by omega) (by omega) (by omega)]
  · rw [mg_b (by omega) (by omega), mg_b (by omega) (by omega), fb.1 34 (by omega) (by omega) (by omega)]
  · rw [mg_b (by omega) (by omega), mg_b (by omega) (by omega), fb.1 35 (by omega) (by omega) (by omega)]
  · rw [mg_b (by omega) (by omega), mg_b (by omega) (by omega), fb.2.1 8 (by omega)]
def LK (nc fm : Nat) (A B : St) : Prop := TRn nc (cx A) (vr B) ∧ A.1 14 4 = nI fm ∧ B.1 27 25 = nI fm ∧ ∀ i, i < fm → ∃ c, c < nc ∧ A.1 16 i = nI c ∧ B.1 40 i = nI c
theorem ck45 {ρ : Type} {X : Option ρ} : ck 4 5 X = X := ck_n (n := 4) (by decide) (by decide)
theorem ck56 {ρ : Type} {X : Option ρ} : ck 5 6 X = X := ck_n (n := 5) (by decide) (by decide)
theorem i32_5 : (5 : Int32).toNatClampNeg = 5 := by decide
theorem noteFreed_ok {fm : Nat} (hf : fm < 13) {A : St} (e : A.1 14 4 = nI fm) (x : Int32) : f_X0_noteFreed x A = some (upI (upI A 16 fm x) 14 4 (nI (fm + 1))) := by
  unfold f_X0_noteFreed f_X0_noteFreed_32
  rw [e, if_neg (show ¬ (13 : Int32) ≤ nI fm from nI_ge (b := 13) (by omega) (by omega)), ck_n hf (by decide), lt_mk, lt_mk, nI_clamp (by omega), up_k (by decide), e, nI_1]
theorem frees_ok {fm : Nat} (hf : fm < 13) {B : St} (e : B.1 27 25 = nI fm) (x : Int32) : f_X9_frees x B = some (upI (upI B 40 fm x) 27 25 (nI (fm + 1))) := by
  unfold f_X9_frees
  rw [e, ck_n (by omega) (by decide), lt_mk, lt_mk, nI_clamp (by omega), up_k (by decide), e, nI_1]
theorem mv_loop {i c o : Nat} (hi : i < 12) : ∀ (m d fuel : Nat) (B : St), d + m = 4 → m < fuel → ∃ T, f_X9_moves_122 fuel (nI i) (nI c) (nI o) (nI d) B = (bdV (f_X9_counts (nI c) 10 T) fun S18 => bdV (f_X9_pairs (nI o) (nI c) S18) fun S19 => lt (upI S19 27 26 ((S19.1 27 26) + 1)) fun S20 => bdV (f_X9_frees (nI o) S20) fun S21 => some S21) ∧ (∀ k, k ≠ 28 → T.1 k = B.1 k) ∧ ∀ j, T.1 28 j = if 18 * i + 14 + d ≤ j ∧ j < 18 * i + 18 then 0 else B.1 28 j := by
  intro m
  induction m with
  | zero =>
    intro d fuel B h1 h2
    obtain ⟨f, rfl⟩ : ∃ f, fuel = f + 1 := ⟨fuel - 1, by omega⟩
    obtain rfl : d = 4 := by omega
    refine ⟨B, ?_, fun _ _ => rfl, fun j => by rw [if_neg (by omega)]⟩
    rw [f_X9_moves_122, if_pos (show (4 : Int32) ≤ nI 4 from nI_le (a := 4) (by omega) (by omega))]
  | succ m ih =>
    intro d fuel B h1 h2
    obtain ⟨f, rfl⟩ : ∃ f, fuel = f + 1 := ⟨fuel - 1, by omega⟩
    obtain ⟨T, e1, e2, e3⟩ := ih (d + 1) f (upI B 28 (18 * i + (14 + d)) 0) (by omega) (by omega)
    refine ⟨T, ?_, fun k hk => by rw [e2 k hk, up_r hk], fun j => ?_⟩
    · rw [f_X9_moves_122, if_neg (show ¬ (4 : Int32) ≤ nI d from nI_ge (b := 4) (by omega) (by omega)), show (14 : Int32) + nI d = nI (14 + d) from by rw [show (14 : Int32) = nI 14 from rfl, nI_add], X9_set hi (by omega), bdV_mk, nI_1]
      exact e1
    · rw [e3 j]
      by_cases hj : j = 18 * i + (14 + d)
      · subst hj
        rw [if_neg (by omega), if_pos (by omega), up_s]
      · rw [up_j hj]
        by_cases hj2 : 18 * i + 14 + (d + 1) ≤ j ∧ j < 18 * i + 18
        · rw [if_pos hj2, if_pos (by omega)]
        · rw [if_neg hj2, if_neg (by omega)]
theorem move_ok {nc fm i o c : Nat} (hnc : nc ≤ 4) (hi : i < 12) (ho : o < nc) (hc : c < nc) (hoc : o ≠ c) (hf : fm < 13) {A B : St} (hT : TD nc A B) (h : LK nc fm A B) (eo : A.1 45 i = nI o) : ∃ A' B', f_X0_move (nI i) (nI c) A = some A' ∧ f_X9_moves (nI i) (nI c) B = some B' ∧ FA A A' ∧ FB B B' ∧ LK nc (fm + 1) A' B' ∧ B'.1 27 26 = B.1 27 26 + 1 ∧ (∀ k, A'.1 46 k = if k = i then -9 else A.1 46 k) ∧ (∀ j, j < fm → A'.1 16 j = A.1 16 j) := by
  obtain ⟨⟨⟨ta1, ta2, ta3, ta4⟩, hcr, hp⟩, l1, l2, l3⟩ := h
  have ta1 : A.1 42 0 = B.1 28 281 := ta1
  have ta2 : A.1 42 1 = B.1 28 282 := ta2
  have ta3 : ∀ d, d < 4 → d < nc → A.1 43 d = B.1 28 (216 + d) := ta3
  have ta4 : ∀ d, d < 24 → A.1 44 d = B.1 28 (220 + d) := ta4
  have hci : (A.1 45 i = -9 ∧ A.1 46 i = -9 ∧ B.1 28 (18 * i) = 0) ∨ (B.1 28 (18 * i) = 1 ∧ (∃ o, o < nc ∧ A.1 45 i = nI o) ∧ (A.1 46 i = -9 ∨ ∃ q, q < nc ∧ A.1 46 i = nI q ∧ ¬ A.1 45 i = nI q) ∧ A.1 45 i = B.1 28 (18 * i + 1) ∧ A.1 46 i = B.1 28 (18 * i + 2) ∧ A.1 47 i = B.1 28 (18 * i + 3) ∧ A.1 48 i = B.1 28 (18 * i + 4) ∧ A.1 49 i = B.1 28 (18 * i + 9) ∧ A.1 50 i = B.1 28 (18 * i + 5) ∧ A.1 51 i = B.1 28 (18 * i + 6) ∧ A.1 52 i = B.1 28 (18 * i + 7) ∧ A.1 53 i = B.1 28 (18 * i + 8) ∧ (∀ c, c < 4 → A.1 54 (4 * i + c) = B.1 28 (18 * i + 10 + c) ∧ (∃ l, l ≤ 6400 ∧ A.1 54 (4 * i + c) = nI l) ∧ (nc ≤ c → A.1 54 (4 * i + c) = 0)) ∧ (∀ c, c < 4 → A.1 55 (4 * i + c) = B.1 28 (18 * i + 14 + c)) ∧ -6400 ≤ (A.1 52 i).toInt ∧ (A.1 52 i).toInt ≤ 6400) := hcr i hi
  rcases hci with ⟨z, -, -⟩ | ⟨c0, -, -, c1, c2, c3, c4, c5, c6, c7, c8, c9, c10, c11, -, -⟩
  · rw [eo] at z
    exact absurd z (neg9_ne (by omega))
  have w5 : A.1 13 4 = B.1 35 5 := by
    have := hT.2.2.2.2.1 4 (by decide)
    rw [mg_a (by omega), mg_b (by omega) (by omega)] at this
    exact this
  obtain ⟨r, hr⟩ : ∃ r : Int32, r = if A.1 53 i = nI c ∧ ¬ A.1 13 4 < A.1 49 i then 1 else 0 := ⟨_, rfl⟩
  have hr0 : ¬ (A.1 53 i = nI c ∧ ¬ A.1 13 4 < A.1 49 i) → r = 0 := fun z => by rw [hr, if_neg z]
  have hr1 : (A.1 53 i = nI c ∧ ¬ A.1 13 4 < A.1 49 i) → r = 1 := fun z => by rw [hr, if_pos z]
  have m1 : f_X0_move (nI i) (nI c) A = f_X0_move_69 (nI i) (nI c) (nI o) (upI A 51 i (A.1 51 i + r)) := by
    unfold f_X0_move f_X0_move_36
    simp only [ck_n hi (show 12 < 2 ^ 31 by decide), lt_n, ck45, nI_clamp (show i < 2 ^ 31 by omega), i32_4, eo, if00n, if10n, if_true]
    by_cases q1 : A.1 13 4 < A.1 49 i
    · rw [if_pos q1, hr0 (fun z => z.2 q1), Int32.add_zero, upI_self]
      by_cases q2 : A.1 53 i = nI c
      · rw [if_pos q2]
      · rw [if_neg q2]
    · rw [if_neg q1]
      by_cases q2 : A.1 53 i = nI c
      · rw [if_pos q2, hr1 ⟨q2, q1⟩]
      · rw [if_neg q2, hr0 (fun z => q2 z.1), Int32.add_zero, upI_self]
  have n1 : f_X9_moves (nI i) (nI c) B = f_X9_moves_62 (nI i) (nI c) (nI o) r (B.1 28 (18 * i + 6)) 6 (nI i) B := by
    unfold f_X9_moves f_X9_moves_38 f_X9_moves_39
    simp only [X9_get_1 hi, X9_get_8 hi, X9_get_9 hi, X9_get_6 hi, bd_n, ck56, i32_5, if00n, if10n, if_true]
    rw [← c9, ← c5, ← c1, eo, ← w5]
    by_cases q2 : A.1 53 i = nI c
    · rw [if_pos q2]
      by_cases q1 : A.1 13 4 < A.1 49 i
      · rw [if_pos q1, hr0 (fun z => z.2 q1)]
      · rw [if_neg q1, hr1 ⟨q2, q1⟩]
    · rw [if_neg q2, hr0 (fun z => q2 z.1)]
  obtain ⟨A2, hA2⟩ : ∃ A2, A2 = upI (upI (upI (upI (upI (upI (upI A 51 i (A.1 51 i + r)) 45 i (nI c)) 46 i (-9)) 53 i (nI o)) 49 i 0) 50 i (A.1 50 i + 1)) 52 i 0 := ⟨_, rfl⟩
  obtain ⟨B2, hB2⟩ : ∃ B2, B2 = upI (upI (upI (upI (upI (upI (upI B 28 (18 * i + 6) (B.1 28 (18 * i + 6) + r)) 28 (18 * i + 5) (B.1 28 (18 * i + 5) + 1)) 28 (18 * i + 8) (nI o)) 28 (18 * i + 9) 0) 28 (18 * i + 1) (nI c)) 28 (18 * i + 2) (-9)) 28 (18 * i + 7) 0 := ⟨_, rfl⟩
  obtain ⟨A3, s1, s2, s3⟩ := X7_clearStreaks hi A2
  obtain ⟨B3, t1, t2, t3⟩ := mv_loop (c := c) (o := o) hi 4 0 FU B2 (by omega) (by decide)
  have hc4 : c < 4 := by omega
  have a2k : ∀ k, (k < 45 ∨ k = 47 ∨ k = 48 ∨ 53 < k) → A2.1 k = A.1 k := fun k hk => by
    rw [hA2]
    simp (disch := omega) only [up_r]
  have b2k : ∀ k, k ≠ 28 → B2.1 k = B.1 k := fun k hk => by
    rw [hB2]
    simp (disch := exact hk) only [up_r]
  have b2j : ∀ j, (j < 18 * i + 1 ∨ 18 * i + 9 < j ∨ j = 18 * i + 3 ∨ j = 18 * i + 4) → B2.1 28 j = B.1 28 j := fun j hj => by
    rw [hB2]
    simp (disch := omega) only [up_j]
  obtain ⟨A4, hA4⟩ : ∃ A4, A4 = upI A3 44 (6 * c + 4) (A3.1 44 (6 * c + 4) + 1) := ⟨_, rfl⟩
  obtain ⟨B4, hB4⟩ : ∃ B4, B4 = upI B3 28 (220 + (6 * c + 4)) (B3.1 28 (220 + (6 * c + 4)) + 1) := ⟨_, rfl⟩
  have a4k : ∀ k, (k < 44 ∨ k = 47 ∨ k = 48 ∨ k = 54 ∨ 55 < k) → A4.1 k = A.1 k := fun k hk => by rw [hA4, up_r (by omega), s2 k (by omega), a2k k (by omega)]
  have b4k : ∀ k, k ≠ 28 → B4.1 k = B.1 k := fun k hk => by rw [hB4, up_r hk, t2 k hk, b2k k hk]
  have b4j : ∀ j, (j < 18 * i + 1 ∨ (18 * i + 9 < j ∧ j < 18 * i + 14) ∨ 18 * i + 17 < j ∨ j = 18 * i + 3 ∨ j = 18 * i + 4) → j ≠ 220 + (6 * c + 4) → B4.1 28 j = B.1 28 j := fun j hj hj2 => by rw [hB4, up_j hj2, t3 j, if_neg (by omega), b2j j (by omega)]
  have hp4 : TP nc (cx A4) (vr B4) := TP.loc (x := cx A) (x' := cx A4) (v := vr B) (v' := vr B4) (show A4.1 42 15 = A.1 42 15 by rw [a4k 42 (by omega)]) (fun k q h1 h2 h3 => show A4.1 (42 + k) q = A.1 (42 + k) q by rw [a4k _ (by omega)]) (fun j h1 h2 => b4j j (by omega) (by omega)) hp
  obtain ⟨A5, B5, p1, p2, p3, p4, p5, p6, p7⟩ := pair_ok ho hc hnc hoc hp4
  have e14 : A5.1 14 4 = nI fm := by rw [p3 14 (by omega) (by omega), a4k 14 (by omega)]; exact l1
  have e25 : (upI B5 27 26 (B5.1 27 26 + 1)).1 27 25 = nI fm := by rw [up_j (by omega), p5 27 (by omega), b4k 27 (by omega)]; exact l2
  have fx : ∀ k, k ≠ 14 → k ≠ 16 → k ≠ 42 → (k < 56 ∨ 58 < k) → (upI (upI A5 16 fm (nI o)) 14 4 (nI (fm + 1))).1 k = A4.1 k := fun k h1 h2 h3 h4 => by rw [up_r h1, up_r h2, p3 k h3 h4]
  have fy : ∀ k, k ≠ 27 → k ≠ 40 → (upI (upI (upI B5 27 26 (B5.1 27 26 + 1)) 40 fm (nI o)) 27 25 (nI (fm + 1))).1 k = B5.1 k := fun k h1 h2 => by rw [up_r h1, up_r h2, up_r h1]
  have a4r : ∀ k, k ≠ 44 → k ≠ 55 → A4.1 k = A2.1 k := fun k h1 h2 => by rw [hA4, up_r h1, s2 k h2]
  refine ⟨upI (upI A5 16 fm (nI o)) 14 4 (nI (fm + 1)), upI (upI (upI B5 27 26 (B5.1 27 26 + 1)) 40 fm (nI o)) 27 25 (nI (fm + 1)), ?_, ?_, fun k hk => ?_, ⟨fun k h1 h2 h3 => ?_, fun j hj => ?_, fun j hj => ?_⟩, ?_, ?_, fun k => ?_, fun j hj => ?_⟩
  · rw [m1]
    unfold f_X0_move_69
    simp only [ck_n hi (show 12 < 2 ^ 31 by decide), lt_n, nI_clamp (show i < 2 ^ 31 by omega)]
    rw [show (upI (upI (upI (upI (upI A 51 i (A.1 51 i + r)) 45 i (nI c)) 46 i (-9)) 53 i (nI o)) 49 i 0).1 50 i = A.1 50 i by simp (disch := decide) only [up_k], ← hA2, s1, bdV_mk, X7_tally (y := 4) (q := 4) hc4 (by decide) rfl, ← hA4, bdV_mk, p1, bdV_mk, noteFreed_ok hf e14, bdV_mk]
  · rw [n1]
    unfold f_X9_moves_62
    simp only [X9_set_6 hi, X9_get_5 hi, X9_set_5 hi, X9_set_8 hi, X9_set_9 hi, X9_set_1 hi, X9_set_2 hi, X9_set_7 hi, bdV_n, bd_n]
    rw [show (upI B 28 (18 * i + 6) (B.1 28 (18 * i + 6) + r)).1 28 (18 * i + 5) = B.1 28 (18 * i + 5) by rw [up_j (by omega)], ← hB2]
    rw [show f_X9_moves_122 FU (nI i) (nI c) (nI o) 0 B2 = _ from t1, X9_counts (y := 10) (q := 4) hc4 (by decide) rfl, ← hB4, bdV_mk, p2, bdV_mk, lt_mk, frees_ok hf e25, bdV_mk]
  · rw [fx k (by omega) (by omega) (by omega) (by omega)]
    rcases hk with hk | hk | hk
    · exact a4k k (by omega)
    · exact a4k k (by omega)
    · exact a4k k (by omega)
  · rw [fy k h1 h3, p5 k h2, b4k k h2]
  · rw [up_j (by omega), up_k (by decide), up_j (by omega), p5 27 (by decide), b4k 27 (by decide)]
  · rw [fy 28 (by decide) (by decide), p6 j (by omega), b4j j (by omega) (by omega)]
  · refine ⟨⟨⟨?_, ?_, fun d hd hd' => ?_, fun j hj => ?_⟩, fun q hq => ?_, ?_⟩, ?_, ?_, fun q hq => ?_⟩
    · show (upI (upI A5 16 fm (nI o)) 14 4 (nI (fm + 1))).1 42 0 = (upI (upI (upI B5 27 26 _) 40 fm _) 27 25 _).1 28 281
      rw [up_k (by decide), up_k (by decide), fy 28 (by decide) (by decide), p4 0 (by decide), p6 _ (by omega), a4k 42 (by omega), b4j _ (by omega) (by omega)]
      exact ta1
    · show (upI (upI A5 16 fm (nI o)) 14 4 (nI (fm + 1))).1 42 1 = (upI (upI (upI B5 27 26 _) 40 fm _) 27 25 _).1 28 282
      rw [up_k (by decide), up_k (by decide), fy 28 (by decide) (by decide), p4 1 (by decide), p6 _ (by omega), a4k 42 (by omega), b4j _ (by omega) (by omega)]
      exact ta2
    · show (upI (upI A5 16 fm (nI o)) 14 4 (nI (fm + 1))).1 43 d = (upI (upI (upI B5 27 26 _) 40 fm _) 27 25 _).1 28 (216 + d)
      rw [fx 43 (by decide) (by decide) (by decide) (by decide), fy 28 (by decide) (by decide), p6 _ (by omega), a4k 43 (by omega), b4j _ (by omega) (by omega)]
      exact ta3 d hd hd'
    · show (upI (upI A5 16 fm (nI o)) 14 4 (nI (fm + 1))).1 44 j = (upI (upI (upI B5 27 26 _) 40 fm _) 27 25 _).1 28 (220 + j)
      rw [fx 44 (by decide) (by decide) (by decide) (by decide), fy 28 (by decide) (by decide), p6 _ (by omega), hA4, hB4]
      by_cases hj2 : j = 6 * c + 4
      · subst hj2
        rw [up_s, up_s, s2 44 (by decide), a2k 44 (by omega), t3, if_neg (by omega), b2j _ (by omega), ta4 _ hj]
      · rw [up_j hj2, up_j (by omega), s2 44 (by decide), a2k 44 (by omega), t3, if_neg (by omega), b2j _ (by omega), ta4 _ hj]
    · have x45 : ∀ k, 45 ≤ k → k < 55 → ∀ j, cx (upI (upI A5 16 fm (nI o)) 14 4 (nI (fm + 1))) (k - 42) j = A2.1 k j := fun k h1 h2 j => by
        show (upI (upI A5 16 fm (nI o)) 14 4 (nI (fm + 1))).1 (42 + (k - 42)) j = _
        rw [show 42 + (k - 42) = k by omega, fx k (by omega) (by omega) (by omega) (by omega), a4r k (by omega) (by omega)]
      have x55 : ∀ j, cx (upI (upI A5 16 fm (nI o)) 14 4 (nI (fm + 1))) 13 j = A3.1 55 j := fun j => by
        show (upI (upI A5 16 fm (nI o)) 14 4 (nI (fm + 1))).1 55 j = _
        rw [fx 55 (by decide) (by decide) (by decide) (by decide), hA4, up_k (by decide)]
      have y28 : ∀ j, j < 216 → vr (upI (upI (upI B5 27 26 (B5.1 27 26 + 1)) 40 fm (nI o)) 27 25 (nI (fm + 1))) j = B3.1 28 j := fun j h1 => by
        show (upI (upI (upI B5 27 26 _) 40 fm _) 27 25 _).1 28 j = _
        rw [fy 28 (by decide) (by decide), p6 _ (by omega), hB4, up_j (by omega)]
      by_cases hqi : q = i
      · subst hqi
        have y1 : ∀ k, 0 < k → k < 14 → vr (upI (upI (upI B5 27 26 (B5.1 27 26 + 1)) 40 fm (nI o)) 27 25 (nI (fm + 1))) (18 * q + k) = B2.1 28 (18 * q + k) := fun k h1 h2 => by rw [y28 _ (by omega), t3, if_neg (by omega)]
        refine Or.inr ⟨?_, ⟨c, hc, ?_⟩, Or.inl ?_, ?_, ?_, ?_, ?_, ?_, ?_, ?_, ?_, ?_, fun d hd => ⟨?_, ?_, fun hn => ?_⟩, fun d hd => ?_, ?_, ?_⟩
        · rw [y28 _ (by omega), t3, if_neg (by omega), b2j _ (by omega)]; exact c0
        · rw [x45 45 (by decide) (by decide), hA2]; simp (disch := decide) only [up_k, up_s]
        · rw [x45 46 (by decide) (by decide), hA2]; simp (disch := decide) only [up_k, up_s]
        · rw [x45 45 (by decide) (by decide), y1 1 (by decide) (by decide), hA2, hB2]; simp (disch := first | decide | omega) only [up_k, up_j, up_s]
        · rw [x45 46 (by decide) (by decide), y1 2 (by decide) (by decide), hA2, hB2]; simp (disch := first | decide | omega) only [up_k, up_j, up_s]
        · rw [x45 47 (by decide) (by decide), y1 3 (by decide) (by decide), hA2, hB2]; simp (disch := first | decide | omega) only [up_k, up_j, up_s]; exact c3
        · rw [x45 48 (by decide) (by decide), y1 4 (by decide) (by decide), hA2, hB2]; simp (disch := first | decide | omega) only [up_k, up_j, up_s]; exact c4
        · rw [x45 49 (by decide) (by decide), y1 9 (by decide) (by decide), hA2, hB2]; simp (disch := first | decide | omega) only [up_k, up_j, up_s]
        · rw [x45 50 (by decide) (by decide), y1 5 (by decide) (by decide), hA2, hB2]; simp (disch := first | decide | omega) only [up_k, up_j, up_s]; rw [c6]
        · rw [x45 51 (by decide) (by decide), y1 6 (by decide) (by decide), hA2, hB2]; simp (disch := first | decide | omega) only [up_k, up_j, up_s]; rw [c7]
        · rw [x45 52 (by decide) (by decide), y1 7 (by decide) (by decide), hA2, hB2]; simp (disch := first | decide | omega) only [up_k, up_j, up_s]
        · rw [x45 53 (by decide) (by decide), y1 8 (by decide) (by decide), hA2, hB2]; simp (disch := first | decide | omega) only [up_k, up_j, up_s]
        · rw [x45 54 (by decide) (by decide), Nat.add_assoc, y1 (10 + d) (by omega) (by omega), a2k 54 (by omega), b2j _ (by omega), ← Nat.add_assoc]; exact (c10 d hd).1
        · rw [x45 54 (by decide) (by decide), a2k 54 (by omega)]; exact (c10 d hd).2.1
        · rw [x45 54 (by decide) (by decide), a2k 54 (by omega)]; exact (c10 d hd).2.2 hn
        · rw [x55, s3, if_pos (by omega), y28 _ (by omega), t3, if_pos (by omega)]
        · rw [x45 52 (by decide) (by decide), hA2, up_s]; decide
        · rw [x45 52 (by decide) (by decide), hA2, up_s]; decide
      · refine (hcr q hq).loc (fun k h1 h2 => ?_) (fun d hd => ?_) (fun d hd => ?_) (fun j hj => ?_)
        · have := x45 (42 + k) (by omega) (by omega) q
          rw [show 42 + k - 42 = k by omega] at this
          rw [this, hA2]
          show _ = A.1 (42 + k) q
          simp only [up_e, hqi, and_false, if_false]
        · rw [x45 54 (by decide) (by decide), a2k 54 (by omega)]; rfl
        · rw [x55, s3, if_neg (by omega), a2k 55 (by omega)]; rfl
        · rw [y28 _ (by omega), t3, if_neg (by omega), b2j _ (by omega)]; rfl
    · refine p7.loc ?_ (fun k q h1 h2 h3 => ?_) (fun j h1 h2 => ?_)
      · show (upI (upI A5 16 fm (nI o)) 14 4 (nI (fm + 1))).1 42 15 = A5.1 42 15
        rw [up_k (by decide), up_k (by decide)]
      · show (upI (upI A5 16 fm (nI o)) 14 4 (nI (fm + 1))).1 (42 + k) q = A5.1 (42 + k) q
        rw [up_k (by omega), up_k (by omega)]
      · show (upI (upI (upI B5 27 26 _) 40 fm _) 27 25 _).1 28 j = B5.1 28 j
        rw [fy 28 (by decide) (by decide)]
    · rw [up_s]
    · rw [up_s]
    · by_cases hqf : q = fm
      · subst hqf
        exact ⟨o, ho, by rw [up_k (by decide), up_s], by rw [up_k (by decide), up_s]⟩
      · obtain ⟨d, d1, d2, d3⟩ := l3 q (by omega)
        refine ⟨d, d1, ?_, ?_⟩
        · rw [up_k (by decide), up_j hqf, p3 16 (by decide) (by decide), a4k 16 (by omega)]; exact d2
        · rw [up_k (by decide), up_j hqf, up_k (by decide), p5 40 (by decide), b4k 40 (by decide)]; exact d3
  · rw [up_j (by decide), up_k (by decide), up_s, p5 27 (by decide), b4k 27 (by decide)]
  · rw [fx 46 (by decide) (by decide) (by decide) (by decide), a4r 46 (by decide) (by decide), hA2]
    simp [up_e]
  · rw [up_k (by decide), up_j (by omega), p3 16 (by decide) (by decide), a4k 16 (by omega)]
