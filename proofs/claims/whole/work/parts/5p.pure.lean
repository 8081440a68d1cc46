/-! ===== the queue ===== -/
theorem bef_self (A : Nat → Nat → Int32) (i : Nat) : bef A i i = false := by
  unfold bef
  have h : ¬ A 47 i < A 47 i := fun z => Int32.lt_irrefl z
  by_cases h1 : 0 < (A 52 i).toInt
  · simp [h1, h]
  · simp [h1, h]
def ahd (A : Nat → Nat → Int32) (c i k : Nat) : Bool := decide (A 46 k = nI c) && bef A k i
def wtr (p : Nat → Bool) : Nat → Nat → Int32
  | 0, _ => -9
  | n + 1, i => if p i = true then nI i else wtr p n (i + 1)
def wpl (A : Nat → Nat → Int32) (c : Nat) (x : Int32) (k : Nat) : Bool := decide (A 46 k = nI c) && decide (nI (cn (ahd A c k) 12) = x)
theorem wtr_cases (p : Nat → Bool) : ∀ n i, wtr p n i = -9 ∨ ∃ k, i ≤ k ∧ k < i + n ∧ p k = true ∧ wtr p n i = nI k
  | 0, _ => Or.inl rfl
  | n + 1, i => by
    unfold wtr
    by_cases h : p i = true
    · rw [if_pos h]; exact Or.inr ⟨i, by omega, by omega, h, rfl⟩
    · rw [if_neg h]
      rcases wtr_cases p n (i + 1) with z | ⟨k, a, b, c, d⟩
      · exact Or.inl z
      · exact Or.inr ⟨k, by omega, by omega, c, d⟩
theorem aheadOf_loop {c i mm : Nat} (hi : i < 12) (hm : mm ≤ 60) {S : St} (em : S.1 13 3 = nI mm) (wi : Wok S.1 i) (hw : ∀ k, k < 12 → S.1 46 k = nI c → Wok S.1 k) : ∀ (m k fuel : Nat), k + m = 12 → m < fuel → f_X0_aheadOf_5 fuel (nI i) (nI c) (nI (cn (ahd S.1 c i) k)) (nI k) S = some (nI (cn (ahd S.1 c i) 12), S) := by
  intro m
  induction m with
  | zero =>
    intro k fuel hk hf
    obtain ⟨f, rfl⟩ : ∃ f, fuel = f + 1 := ⟨fuel - 1, by omega⟩
    obtain rfl : k = 12 := by omega
    unfold f_X0_aheadOf_5
    rw [if_pos (show (12 : Int32) ≤ nI 12 from nI_le (a := 12) (by omega) (by omega))]
  | succ m ih =>
    intro k fuel hk hf
    obtain ⟨f, rfl⟩ : ∃ f, fuel = f + 1 := ⟨fuel - 1, by omega⟩
    have h := ih (k + 1) f (by omega) (by omega)
    unfold f_X0_aheadOf_5 f_X0_aheadOf_41 f_X0_aheadOf_42
    rw [if_neg (show ¬ (12 : Int32) ≤ nI k from nI_ge (b := 12) (by omega) (by omega)), ck_n (by omega) (by decide), nI_clamp (by omega)]
    simp only [lt_mk, nI_1, Int32.add_zero]
    rw [cn_s _ k] at h
    by_cases h1 : S.1 46 k = nI c
    · rw [if_pos h1, X0_isBefore (by omega) hi hm em (hw k (by omega) h1) wi, bd_mk]
      cases hb : bef S.1 k i
      · rw [show ahd S.1 c i k = false by simp [ahd, hb]] at h
        exact h
      · rw [show ahd S.1 c i k = true by simp [ahd, hb, h1]] at h
        exact h
    · rw [if_neg h1]
      rw [show ahd S.1 c i k = false by simp [ahd, h1]] at h
      exact h
theorem X0_aheadOf {c i mm : Nat} (hi : i < 12) (hm : mm ≤ 60) {S : St} (em : S.1 13 3 = nI mm) (wi : Wok S.1 i) (hw : ∀ k, k < 12 → S.1 46 k = nI c → Wok S.1 k) : f_X0_aheadOf (nI i) (nI c) S = some (nI (cn (ahd S.1 c i) 12), S) := by
  unfold f_X0_aheadOf
  exact aheadOf_loop hi hm em wi hw 12 0 FU (by omega) (by decide)
theorem waiter_loop {c mm : Nat} (x : Int32) (hm : mm ≤ 60) {S : St} (em : S.1 13 3 = nI mm) (hw : ∀ k, k < 12 → S.1 46 k = nI c → Wok S.1 k) : ∀ (m k fuel : Nat), k + m = 12 → m < fuel → f_X0_waiter_2 fuel (nI c) x (nI k) S = some (wtr (wpl S.1 c x) m k, S) := by
  intro m
  induction m with
  | zero =>
    intro k fuel hk hf
    obtain ⟨f, rfl⟩ : ∃ f, fuel = f + 1 := ⟨fuel - 1, by omega⟩
    obtain rfl : k = 12 := by omega
    unfold f_X0_waiter_2
    rw [if_pos (show (12 : Int32) ≤ nI 12 from nI_le (a := 12) (by omega) (by omega))]
    rfl
  | succ m ih =>
    intro k fuel hk hf
    obtain ⟨f, rfl⟩ : ∃ f, fuel = f + 1 := ⟨fuel - 1, by omega⟩
    have h := ih (k + 1) f (by omega) (by omega)
    unfold f_X0_waiter_2 f_X0_waiter_33 wtr
    rw [if_neg (show ¬ (12 : Int32) ≤ nI k from nI_ge (b := 12) (by omega) (by omega)), ck_n (by omega) (by decide), nI_clamp (by omega)]
    rw [nI_1]
    by_cases h1 : S.1 46 k = nI c
    · rw [if_pos h1, X0_aheadOf (by omega) hm em (hw k (by omega) h1) hw, bd_mk]
      by_cases h2 : nI (cn (ahd S.1 c k) 12) = x
      · rw [if_pos h2, if_pos (show wpl S.1 c x k = true by simp [wpl, h1, h2])]
      · rw [if_neg h2, if_neg (show ¬ wpl S.1 c x k = true by simp [wpl, h2])]
        exact h
    · rw [if_neg h1, if_neg (show ¬ wpl S.1 c x k = true by simp [wpl, h1])]
      exact h
theorem X0_waiter {c mm : Nat} (x : Int32) (hm : mm ≤ 60) {S : St} (em : S.1 13 3 = nI mm) (hw : ∀ k, k < 12 → S.1 46 k = nI c → Wok S.1 k) : f_X0_waiter (nI c) x S = some (wtr (wpl S.1 c x) 12 0, S) := by
  unfold f_X0_waiter
  exact waiter_loop x hm em hw 12 0 FU (by omega) (by decide)
/-- a call's row as the relation tells it -/
theorem now_wait {nc c k : Nat} {A : Nat → Nat → Int32} (hnc : nc ≤ 4) (h4 : TR nc A 42 0) (hk : k < 12) (h : A 46 k = nI c) (hc : c < 4) : A 28 (18 * k) = 1 ∧ Wok A k ∧ CP 4 (fun k j => A (42 + k) j) (fun j => A 28 j) k := by
  rcases now_call h4 hk with ⟨-, z, -⟩ | ⟨p0, ⟨o, ho, p1⟩, p2, p3, p4, p5, p6, p7, p8, p9, p10, p11, p12, p13, p14, p15⟩
  · rw [z] at h
    exact absurd h.symm (neg9_ne (by omega))
  · obtain ⟨-, ⟨l, l1, l2⟩, -⟩ := p12 o (by omega)
    refine ⟨p0, ⟨o, l, by omega, p1, l1, l2, p14, p15⟩, ⟨o, by omega, p1⟩, ?_, p3, p4, p5, p6, p7, p8, p9, p10, p11, fun d hd => ⟨(p12 d hd).1, (p12 d hd).2.1, fun z => absurd z (by omega)⟩, p13, p14, p15⟩
    rcases p2 with p2 | ⟨q, q1, q2, q3⟩
    · exact Or.inl p2
    · exact Or.inr ⟨q, by omega, q2, q3⟩
theorem queuedAt_loop2 {nc c i mm : Nat} {S T : St} {x : Int32} (hnc : nc ≤ 4) (h4 : TR nc S.1 42 0) (hc : c < 4) (hi : i < 12) (hm : mm ≤ 60) (em : S.1 13 3 = nI mm) (em' : T.1 35 4 = nI mm) (e : ∀ j, j < 283 → T.1 28 j = S.1 28 j) (hwi : S.1 46 i = nI c) (k2 : Int32 → Int32 → Int32 → St → Option (Int32 × St)) : ∀ (m k fuel : Nat), k + m = 12 → m < fuel → f_X9_queuedAt_34 k2 fuel (nI c) x (nI i) (nI (cn (ahd S.1 c i) k)) (nI k) T = if nI (cn (ahd S.1 c i) 12) = x then some (nI i, T) else k2 (nI c) x (nI (i + 1)) T := by
  obtain ⟨a1, a2, a3⟩ := now_wait hnc h4 hi hwi hc
  intro m
  induction m with
  | zero =>
    intro k fuel hk hf
    obtain ⟨f, rfl⟩ : ∃ f, fuel = f + 1 := ⟨fuel - 1, by omega⟩
    obtain rfl : k = 12 := by omega
    unfold f_X9_queuedAt_34 f_X9_queuedAt_115
    rw [if_pos (show (12 : Int32) ≤ nI 12 from nI_le (a := 12) (by omega) (by omega)), nI_1]
  | succ m ih =>
    intro k fuel hk hf
    obtain ⟨f, rfl⟩ : ∃ f, fuel = f + 1 := ⟨fuel - 1, by omega⟩
    have h := ih (k + 1) f (by omega) (by omega)
    rw [cn_s _ k] at h
    unfold f_X9_queuedAt_34 f_X9_queuedAt_73 f_X9_queuedAt_74 f_X9_queuedAt_97 f_X9_queuedAt_98
    rw [if_neg (show ¬ (12 : Int32) ≤ nI k from nI_ge (b := 12) (by omega) (by omega)), X9_get_0 (by omega), bd_mk, X9_get_2 (by omega), bd_mk, e _ (by omega), e _ (by omega)]
    simp only [lt_mk, nI_1, Int32.add_zero, if00, if10]
    by_cases hik : k = i
    · subst hik
      rw [if_pos rfl]
      rw [show ahd S.1 c k k = false by simp [ahd, bef_self]] at h
      exact h
    · rw [if_neg (fun z => hik (nI_inj (by omega) (by omega) z))]
      by_cases h1 : S.1 46 k = nI c
      · obtain ⟨b1, b2, b3⟩ := now_wait hnc h4 (show k < 12 by omega) h1 hc
        have b4 : S.1 46 k = S.1 28 (18 * k + 2) := b3.2.2.2.1
        rw [if_pos b1, if_pos (by rw [← b4]; exact h1), X9_isAhead (by omega) hi hm em em' b2 a2 (fun q hq => e _ (by omega)) (fun q hq => e _ (by omega)) b3 a3, bd_mk]
        cases hb : bef S.1 k i
        · rw [show ahd S.1 c i k = false by simp [ahd, hb]] at h
          exact h
        · rw [show ahd S.1 c i k = true by simp [ahd, hb, h1]] at h
          exact h
      · rw [show ahd S.1 c i k = false by simp [ahd, h1]] at h
        rcases now_call h4 (show k < 12 by omega) with ⟨-, -, z⟩ | ⟨z, -, -, -, z2, -⟩
        · rw [if_neg (by rw [z]; exact ne01)]
          exact h
        · rw [if_pos z, if_neg (by rw [← z2]; exact h1)]
          exact h
theorem queuedAt_loop {nc c mm : Nat} {S T : St} (x : Int32) (hnc : nc ≤ 4) (h4 : TR nc S.1 42 0) (hc : c < 4) (hm : mm ≤ 60) (em : S.1 13 3 = nI mm) (em' : T.1 35 4 = nI mm) (e : ∀ j, j < 283 → T.1 28 j = S.1 28 j) : ∀ (m k fuel : Nat), k + m = 12 → m < fuel → f_X9_queuedAt_2 fuel (nI c) x (nI k) T = some (wtr (wpl S.1 c x) m k, T) := by
  intro m
  induction m with
  | zero =>
    intro k fuel hk hf
    obtain ⟨f, rfl⟩ : ∃ f, fuel = f + 1 := ⟨fuel - 1, by omega⟩
    obtain rfl : k = 12 := by omega
    unfold f_X9_queuedAt_2
    rw [if_pos (show (12 : Int32) ≤ nI 12 from nI_le (a := 12) (by omega) (by omega))]
    rfl
  | succ m ih =>
    intro k fuel hk hf
    obtain ⟨f, rfl⟩ : ∃ f, fuel = f + 1 := ⟨fuel - 1, by omega⟩
    have h := ih (k + 1) f (by omega) (by omega)
    unfold f_X9_queuedAt_2 f_X9_queuedAt_115 wtr
    rw [if_neg (show ¬ (12 : Int32) ≤ nI k from nI_ge (b := 12) (by omega) (by omega)), X9_get_0 (by omega), bd_mk, X9_get_2 (by omega), bd_mk, e _ (by omega), e _ (by omega), nI_1]
    by_cases h1 : S.1 46 k = nI c
    · obtain ⟨b1, b2, b3⟩ := now_wait hnc h4 (show k < 12 by omega) h1 hc
      have b4 : S.1 46 k = S.1 28 (18 * k + 2) := b3.2.2.2.1
      rw [if_pos b1, if_pos (by rw [← b4]; exact h1)]
      rw [show f_X9_queuedAt_34 (f_X9_queuedAt_2 f) FU (nI c) x (nI k) 0 0 T = _ from queuedAt_loop2 (x := x) hnc h4 hc (show k < 12 by omega) hm em em' e h1 (f_X9_queuedAt_2 f) 12 0 FU (by omega) (by decide)]
      by_cases h2 : nI (cn (ahd S.1 c k) 12) = x
      · rw [if_pos h2, if_pos (show wpl S.1 c x k = true by simp [wpl, h1, h2])]
      · rw [if_neg h2, if_neg (show ¬ wpl S.1 c x k = true by simp [wpl, h2])]
        exact h
    · rw [if_neg (show ¬ wpl S.1 c x k = true by simp [wpl, h1])]
      rcases now_call h4 (show k < 12 by omega) with ⟨-, -, z⟩ | ⟨z, -, -, -, z2, -⟩
      · rw [if_neg (by rw [z]; exact ne01)]
        exact h
      · rw [if_pos z, if_neg (by rw [← z2]; exact h1)]
        exact h
theorem X9_queuedAt {nc c mm : Nat} {S T : St} (x : Int32) (hnc : nc ≤ 4) (h4 : TR nc S.1 42 0) (hc : c < 4) (hm : mm ≤ 60) (em : S.1 13 3 = nI mm) (em' : T.1 35 4 = nI mm) (e : ∀ j, j < 283 → T.1 28 j = S.1 28 j) : f_X9_queuedAt (nI c) x T = some (wtr (wpl S.1 c x) 12 0, T) := by
  unfold f_X9_queuedAt
  exact queuedAt_loop x hnc h4 hc hm em em' e 12 0 FU (by omega) (by decide)
theorem sim_queued (x y : Int32) : Sim (f_X8_queued x y) (f_X9_queued x y) := by
  refine sim_ask (fun nc S hr => ?_)
  obtain ⟨h1, h2, h3, h4, h5, h6, h7⟩ := id hr
  have hnc := h1.1
  unfold f_X8_queued f_X8_queued_15 f_X9_queued f_X9_queued_21 f_X9_queued_22
  rcases cell_cases h1 x with ⟨e1, e2⟩ | ⟨c, hc, hc4, rfl, e1, e2⟩
  · rw [e1, e2 S rfl]
    exact ⟨-1, rfl, rfl⟩
  · rw [e1, e2 S rfl, bd_mk, bd_mk, if10, if10]
    by_cases hy : 0 ≤ y
    · obtain ⟨h, d, f, m, w, g1, g2, g3, g4, g5, g6, g7, g8, g9, g10, g11, g12⟩ := h1.2.2.2.2.2
      refine ⟨wtr (wpl S.1 c y) 12 0, ?_, ?_⟩
      · rw [if_pos hy, X0_waiter y g5 g11 (fun k hk z => (now_wait hnc h4 hk z hc4).2.1), bd_mk]
      · rw [if_neg (Int32.not_lt.mpr hy), X9_queuedAt y hnc h4 hc4 g5 g11 (by rw [← h1.2.2.2.2.1 3 (by decide)]; exact g11) (fun _ _ => rfl), bd_mk]
    · refine ⟨-1, ?_, ?_⟩
      · rw [if_neg hy]
      · rw [if_pos (Int32.not_le.mp hy)]
