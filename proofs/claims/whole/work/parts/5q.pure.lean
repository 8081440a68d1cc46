/-! ===== pairs ===== -/
def cx (A : St) : Nat → Nat → Int32 := fun k j => A.1 (42 + k) j
def vr (B : St) : Nat → Int32 := fun j => B.1 28 j
theorem pigeon : ∀ (n : Nat) (f : Nat → Nat), (∀ i, i ≤ n → f i < n) → ∃ i j, i < j ∧ j ≤ n ∧ f i = f j
  | 0, f, h => absurd (h 0 (by omega)) (by omega)
  | n + 1, f, h => by
    by_cases hx : ∃ i, i ≤ n ∧ f i = f (n + 1)
    · obtain ⟨i, h1, h2⟩ := hx
      exact ⟨i, n + 1, by omega, by omega, h2⟩
    · have hx' : ∀ i, i ≤ n → f i ≠ f (n + 1) := fun i hi z => hx ⟨i, hi, z⟩
      obtain ⟨i, j, h1, h2, h3⟩ := pigeon n (fun i => if f (n + 1) < f i then f i - 1 else f i) (fun i hi => by
        have a := h i (by omega)
        have b := h (n + 1) (by omega)
        have c := hx' i hi
        show (if f (n + 1) < f i then f i - 1 else f i) < n
        split <;> omega)
      refine ⟨i, j, h1, by omega, ?_⟩
      have a := hx' i (by omega)
      have b := hx' j h2
      have h3 : (if f (n + 1) < f i then f i - 1 else f i) = (if f (n + 1) < f j then f j - 1 else f j) := h3
      split at h3 <;> split at h3 <;> omega
theorem px245 (i : Nat) : (245 : Int32) + 3 * nI i = nI (245 + 3 * i) := by rw [show (245 : Int32) = nI 245 from rfl, show (3 : Int32) = nI 3 from rfl, pk_mul, nI_add]
theorem px246 (i : Nat) : nI (245 + 3 * i) + 1 = nI (246 + 3 * i) := by rw [nI_1, show 245 + 3 * i + 1 = 246 + 3 * i by omega]
theorem px247 (i : Nat) : nI (245 + 3 * i) + 2 = nI (247 + 3 * i) := by rw [show (2 : Int32) = nI 2 from rfl, nI_add, show 245 + 3 * i + 2 = 247 + 3 * i by omega]
theorem ck244 {ρ : Type} {X : Option ρ} : ck 244 2547 X = X := ck_n (n := 244) (by decide) (by decide)
theorem cl244 : (244 : Int32).toNatClampNeg = 244 := by decide
theorem cp_hit {o c k0 np : Nat} {A : St} (hk : k0 < np) (hnp : np ≤ 12) (e : A.1 42 15 = nI np) (h1 : A.1 56 k0 = nI o) (h2 : A.1 57 k0 = nI c) (hb : ∀ j, j < k0 → ¬ (A.1 56 j = nI o ∧ A.1 57 j = nI c)) : ∀ m i fuel, i + m = k0 → m < fuel → f_X7_countPair_2 fuel (nI o) (nI c) (nI i) A = some (upI A 58 k0 (A.1 58 k0 + 1)) := by
  intro m
  induction m with
  | zero =>
    intro i fuel h3 h4
    obtain ⟨f, rfl⟩ : ∃ f, fuel = f + 1 := ⟨fuel - 1, by omega⟩
    obtain rfl : i = k0 := by omega
    unfold f_X7_countPair_2
    rw [e, if_neg (nI_ge (by omega) (by omega)), if_neg (show ¬ (12 : Int32) ≤ nI i from nI_ge (b := 12) (by omega) (by omega)), ck_n (by omega) (by decide), nI_clamp (by omega), if_pos h1, ck_n (by omega) (by decide), if_pos h2, ck_n (by omega) (by decide), ck_n (by omega) (by decide), lt_mk]
  | succ m ih =>
    intro i fuel h3 h4
    obtain ⟨f, rfl⟩ : ∃ f, fuel = f + 1 := ⟨fuel - 1, by omega⟩
    unfold f_X7_countPair_2 f_X7_countPair_47
    rw [e, if_neg (nI_ge (by omega) (by omega)), if_neg (show ¬ (12 : Int32) ≤ nI i from nI_ge (b := 12) (by omega) (by omega)), ck_n (by omega) (by decide), nI_clamp (by omega), nI_1, ih (i + 1) f (by omega) (by omega)]
    by_cases z1 : A.1 56 i = nI o
    · rw [if_pos z1, ck_n (by omega) (by decide), if_neg (fun z2 => hb i (by omega) ⟨z1, z2⟩)]
    · rw [if_neg z1]
theorem cp_none {o c np : Nat} {A : St} (hnp : np ≤ 12) (e : A.1 42 15 = nI np) (hb : ∀ j, j < np → ¬ (A.1 56 j = nI o ∧ A.1 57 j = nI c)) : ∀ m i fuel, i + m = np → m < fuel → f_X7_countPair_2 fuel (nI o) (nI c) (nI i) A = f_X7_countPair_53 (nI o) (nI c) A := by
  intro m
  induction m with
  | zero =>
    intro i fuel h3 h4
    obtain ⟨f, rfl⟩ : ∃ f, fuel = f + 1 := ⟨fuel - 1, by omega⟩
    obtain rfl : i = np := by omega
    unfold f_X7_countPair_2
    rw [e, if_pos (nI_le (by omega) (by omega))]
  | succ m ih =>
    intro i fuel h3 h4
    obtain ⟨f, rfl⟩ : ∃ f, fuel = f + 1 := ⟨fuel - 1, by omega⟩
    unfold f_X7_countPair_2 f_X7_countPair_47
    rw [e, if_neg (nI_ge (by omega) (by omega)), if_neg (show ¬ (12 : Int32) ≤ nI i from nI_ge (b := 12) (by omega) (by omega)), ck_n (by omega) (by decide), nI_clamp (by omega), nI_1, ih (i + 1) f (by omega) (by omega)]
    by_cases z1 : A.1 56 i = nI o
    · rw [if_pos z1, ck_n (by omega) (by decide), if_neg (fun z2 => hb i (by omega) ⟨z1, z2⟩)]
    · rw [if_neg z1]
theorem pr_to {o c k0 np : Nat} {B : St} (hk : k0 ≤ np) (hnp : np ≤ 12) (e : B.1 28 244 = nI np) (h1 : k0 = np ∨ (B.1 28 (245 + 3 * k0) = nI o ∧ B.1 28 (246 + 3 * k0) = nI c)) (hb : ∀ j, j < k0 → ¬ (B.1 28 (245 + 3 * j) = nI o ∧ B.1 28 (246 + 3 * j) = nI c)) : ∀ m i fuel, i + m = k0 → m < fuel → f_X9_pairs_2 fuel (nI o) (nI c) (nI i) B = f_X9_pairs_54 (nI o) (nI c) (nI k0) B := by
  intro m
  induction m with
  | zero =>
    intro i fuel h3 h4
    obtain ⟨f, rfl⟩ : ∃ f, fuel = f + 1 := ⟨fuel - 1, by omega⟩
    obtain rfl : i = k0 := by omega
    unfold f_X9_pairs_2
    rw [ck244, cl244, e, px245, px246]
    by_cases hk2 : i = np
    · subst hk2
      rw [if_pos (nI_le (by omega) (by omega))]
    · obtain ⟨z1, z2⟩ := h1.resolve_left hk2
      rw [if_neg (nI_ge (by omega) (by omega)), ck_n (by omega) (by decide), nI_clamp (by omega), if_pos z1, ck_n (by omega) (by decide), nI_clamp (by omega), if_pos z2]
  | succ m ih =>
    intro i fuel h3 h4
    obtain ⟨f, rfl⟩ : ∃ f, fuel = f + 1 := ⟨fuel - 1, by omega⟩
    unfold f_X9_pairs_2 f_X9_pairs_48
    rw [ck244, cl244, e, px245, px246, if_neg (nI_ge (by omega) (by omega)), ck_n (by omega) (by decide), nI_clamp (by omega), nI_clamp (by omega), nI_1, ih (i + 1) f (by omega) (by omega)]
    by_cases z1 : B.1 28 (245 + 3 * i) = nI o
    · rw [if_pos z1, ck_n (by omega) (by decide), if_neg (fun z2 => hb i (by omega) ⟨z1, z2⟩)]
    · rw [if_neg z1]
theorem pair_ok {nc o c : Nat} (ho : o < nc) (hc : c < nc) (hnc : nc ≤ 4) (hoc : o ≠ c) {A B : St} (h : TP nc (cx A) (vr B)) : ∃ A' B', f_X7_countPair (nI o) (nI c) A = some A' ∧ f_X9_pairs (nI o) (nI c) B = some B' ∧ (∀ k, k ≠ 42 → k < 56 ∨ 58 < k → A'.1 k = A.1 k) ∧ (∀ j, j ≠ 15 → A'.1 42 j = A.1 42 j) ∧ (∀ k, k ≠ 28 → B'.1 k = B.1 k) ∧ (∀ j, j < 244 ∨ 281 ≤ j → B'.1 28 j = B.1 28 j) ∧ TP nc (cx A') (vr B') := by
  obtain ⟨np, b1, b2, b3, b4, b5⟩ := h
  have b2 : A.1 42 15 = nI np := b2
  have b3 : B.1 28 244 = nI np := b3
  have b4 : ∀ i, i < np → A.1 56 i = B.1 28 (245 + 3 * i) ∧ A.1 57 i = B.1 28 (246 + 3 * i) ∧ A.1 58 i = B.1 28 (247 + 3 * i) ∧ ∃ f t, f < nc ∧ t < nc ∧ f ≠ t ∧ A.1 56 i = nI f ∧ A.1 57 i = nI t := b4
  have b5 : ∀ i j, i < j → j < np → ¬ (A.1 56 i = A.1 56 j ∧ A.1 57 i = A.1 57 j) := b5
  unfold f_X7_countPair f_X9_pairs
  by_cases hx : ∃ k, k < np ∧ A.1 56 k = nI o ∧ A.1 57 k = nI c
  · obtain ⟨k0, ⟨k1, k2, k3⟩, kmin⟩ := pk_least _ hx
    have hb : ∀ j, j < k0 → ¬ (A.1 56 j = nI o ∧ A.1 57 j = nI c) := fun j hj z => kmin j hj ⟨by omega, z⟩
    obtain ⟨z1, z2, z3, -⟩ := b4 k0 k1
    refine ⟨upI A 58 k0 (A.1 58 k0 + 1), upI B 28 (247 + 3 * k0) (B.1 28 (247 + 3 * k0) + 1), cp_hit k1 b1 b2 k2 k3 hb k0 0 FU (by omega) (by show k0 < 3000; omega), ?_, fun k h1 h2 => up_r (by omega), fun j h1 => up_k (by decide), fun k h1 => up_r h1, fun j h1 => up_j (by omega), np, b1, ?_, ?_, fun i hi => ?_, fun i j h1 h2 => ?_⟩
    · rw [show f_X9_pairs_2 FU (nI o) (nI c) 0 B = _ from pr_to (k0 := k0) (by omega) b1 b3 (Or.inr ⟨by rw [← z1]; exact k2, by rw [← z2]; exact k3⟩) (fun j hj => by rw [← (b4 j (by omega)).1, ← (b4 j (by omega)).2.1]; exact hb j hj) k0 0 FU (by omega) (by show k0 < 3000; omega)]
      unfold f_X9_pairs_54 f_X9_pairs_121
      rw [ck244, cl244, b3, if_neg (fun z => absurd (nI_inj (by omega) (by omega) z) (by omega)), px245, px247, ck_n (by omega) (by decide), ck_n (by omega) (by decide), lt_mk, nI_clamp (by omega)]
    · show (upI A 58 k0 _).1 42 15 = _
      rw [up_k (by decide)]; exact b2
    · show (upI B 28 _ _).1 28 244 = _
      rw [up_j (by omega)]; exact b3
    · obtain ⟨y1, y2, y3, y4⟩ := b4 i hi
      show (upI A 58 k0 _).1 56 i = (upI B 28 _ _).1 28 (245 + 3 * i) ∧ (upI A 58 k0 _).1 57 i = (upI B 28 _ _).1 28 (246 + 3 * i) ∧ (upI A 58 k0 _).1 58 i = (upI B 28 _ _).1 28 (247 + 3 * i) ∧ ∃ f t, f < nc ∧ t < nc ∧ f ≠ t ∧ (upI A 58 k0 _).1 56 i = nI f ∧ (upI A 58 k0 _).1 57 i = nI t
      by_cases hik : i = k0
      · subst hik
        simp (disch := first | decide | omega) only [up_k, up_j, up_s]
        exact ⟨y1, y2, by rw [z3], y4⟩
      · simp (disch := first | decide | omega) only [up_k, up_j, up_s]
        exact ⟨y1, y2, y3, y4⟩
    · show ¬ ((upI A 58 k0 _).1 56 i = (upI A 58 k0 _).1 56 j ∧ (upI A 58 k0 _).1 57 i = (upI A 58 k0 _).1 57 j)
      simp (disch := first | decide | omega) only [up_k]
      exact b5 i j h1 h2
  · have hb : ∀ j, j < np → ¬ (A.1 56 j = nI o ∧ A.1 57 j = nI c) := fun j hj z => hx ⟨j, hj, z⟩
    have hn : np < 12 := by
      rcases Nat.lt_or_ge np 12 with z | z
      · exact z
      · obtain rfl : np = 12 := by omega
        exfalso
        have ht : ∀ i, ∃ f t, (i < 12 → f < 4 ∧ t < 4 ∧ f ≠ t ∧ A.1 56 i = nI f ∧ A.1 57 i = nI t) := fun i => by
          by_cases hi : i < 12
          · obtain ⟨-, -, -, f, t, y1, y2, y3, y4, y5⟩ := b4 i hi
            exact ⟨f, t, fun _ => ⟨by omega, by omega, y3, y4, y5⟩⟩
          · exact ⟨0, 0, fun z => absurd z hi⟩
        have hs : ∀ i, i < 12 → (A.1 56 i).toNatClampNeg < 4 ∧ (A.1 57 i).toNatClampNeg < 4 ∧ (A.1 56 i).toNatClampNeg ≠ (A.1 57 i).toNatClampNeg ∧ A.1 56 i = nI (A.1 56 i).toNatClampNeg ∧ A.1 57 i = nI (A.1 57 i).toNatClampNeg := fun i hi => by
          obtain ⟨f, t, y⟩ := ht i
          obtain ⟨y1, y2, y3, y4, y5⟩ := y hi
          rw [y4, y5, nI_clamp (by omega), nI_clamp (by omega)]
          exact ⟨y1, y2, y3, rfl, rfl⟩
        obtain ⟨i, j, p1, p2, p3⟩ := pigeon 12 (fun i => if i = 12 then 3 * o + (if c < o then c else c - 1) else 3 * (A.1 56 i).toNatClampNeg + (if (A.1 57 i).toNatClampNeg < (A.1 56 i).toNatClampNeg then (A.1 57 i).toNatClampNeg else (A.1 57 i).toNatClampNeg - 1)) (fun i hi => by
          show (if i = 12 then _ else _) < 12
          by_cases h12 : i = 12
          · rw [if_pos h12]; split <;> omega
          · rw [if_neg h12]
            obtain ⟨y1, y2, y3, -⟩ := hs i (by omega)
            split <;> omega)
        have p3 : (if i = 12 then 3 * o + (if c < o then c else c - 1) else 3 * (A.1 56 i).toNatClampNeg + (if (A.1 57 i).toNatClampNeg < (A.1 56 i).toNatClampNeg then (A.1 57 i).toNatClampNeg else (A.1 57 i).toNatClampNeg - 1)) = (if j = 12 then 3 * o + (if c < o then c else c - 1) else 3 * (A.1 56 j).toNatClampNeg + (if (A.1 57 j).toNatClampNeg < (A.1 56 j).toNatClampNeg then (A.1 57 j).toNatClampNeg else (A.1 57 j).toNatClampNeg - 1)) := p3
        obtain ⟨i1, i2, i3, i4, i5⟩ := hs i (by omega)
        rw [if_neg (show ¬ i = 12 by omega)] at p3
        by_cases hj : j = 12
        · rw [if_pos hj] at p3
          have q1 : (A.1 56 i).toNatClampNeg = o := by split at p3 <;> split at p3 <;> omega
          have q2 : (A.1 57 i).toNatClampNeg = c := by split at p3 <;> split at p3 <;> omega
          exact hb i (by omega) ⟨by rw [i4, q1], by rw [i5, q2]⟩
        · rw [if_neg hj] at p3
          obtain ⟨j1, j2, j3, j4, j5⟩ := hs j (by omega)
          have q1 : (A.1 56 i).toNatClampNeg = (A.1 56 j).toNatClampNeg := by split at p3 <;> split at p3 <;> omega
          have q2 : (A.1 57 i).toNatClampNeg = (A.1 57 j).toNatClampNeg := by split at p3 <;> split at p3 <;> omega
          exact b5 i j p1 (by omega) ⟨by rw [i4, j4, q1], by rw [i5, j5, q2]⟩
    refine ⟨upI (upI (upI (upI A 56 np (nI o)) 57 np (nI c)) 58 np 1) 42 15 (nI (np + 1)), upI (upI (upI (upI (upI B 28 (245 + 3 * np) (nI o)) 28 (246 + 3 * np) (nI c)) 28 (247 + 3 * np) 0) 28 244 (nI (np + 1))) 28 (247 + 3 * np) 1, ?_, ?_, fun k h1 h2 => by rw [up_r h1, up_r (by omega), up_r (by omega), up_r (by omega)], fun j h1 => by rw [up_j h1, up_k (by decide), up_k (by decide), up_k (by decide)], fun k h1 => by rw [up_r h1, up_r h1, up_r h1, up_r h1, up_r h1], fun j h1 => by rw [up_j (by omega), up_j (by omega), up_j (by omega), up_j (by omega), up_j (by omega)], np + 1, by omega, ?_, ?_, fun i hi => ?_, fun i j h1 h2 => ?_⟩
    · rw [show f_X7_countPair_2 FU (nI o) (nI c) 0 A = _ from cp_none b1 b2 hb np 0 FU (by omega) (by show np < 3000; omega)]
      unfold f_X7_countPair_53 f_X7_countPair_102
      rw [b2, if_neg (show ¬ (12 : Int32) ≤ nI np from nI_ge (b := 12) (by omega) (by omega)), ck_n (by omega) (by decide), lt_mk, nI_clamp (by omega), up_k (by decide), b2, ck_n (by omega) (by decide), lt_mk, nI_clamp (by omega), up_k (by decide), up_k (by decide), b2, ck_n (by omega) (by decide), lt_mk, lt_mk, nI_clamp (by omega), up_k (by decide), up_k (by decide), up_k (by decide), b2, nI_1]
    · rw [show f_X9_pairs_2 FU (nI o) (nI c) 0 B = _ from pr_to (k0 := np) (by omega) b1 b3 (Or.inl rfl) (fun j hj => by rw [← (b4 j (by omega)).1, ← (b4 j (by omega)).2.1]; exact hb j hj) np 0 FU (by omega) (by show np < 3000; omega)]
      unfold f_X9_pairs_54 f_X9_pairs_121
      rw [px245, px246, px247]
      simp only [ck244, cl244, lt_mk]
      rw [b3, if_pos rfl, ck_n (by omega) (by decide), nI_clamp (by omega), ck_n (by omega) (by decide), nI_clamp (by omega), ck_n (by omega) (by decide), nI_clamp (by omega), ck_n (by omega) (by decide), ck_n (by omega) (by decide)]
      rw [up_j (j := 247 + 3 * np) (by omega), up_j (j := 246 + 3 * np) (by omega), up_j (j := 245 + 3 * np) (by omega), b3, nI_1, up_j (j := 244) (by omega), up_s, Int32.zero_add]
    · show (upI _ 42 15 _).1 42 15 = _
      rw [up_s]
    · show (upI _ 28 _ _).1 28 244 = _
      rw [up_j (by omega), up_s]
    · show (upI _ 42 15 _).1 56 i = (upI _ 28 _ _).1 28 (245 + 3 * i) ∧ (upI _ 42 15 _).1 57 i = (upI _ 28 _ _).1 28 (246 + 3 * i) ∧ (upI _ 42 15 _).1 58 i = (upI _ 28 _ _).1 28 (247 + 3 * i) ∧ ∃ f t, f < nc ∧ t < nc ∧ f ≠ t ∧ (upI _ 42 15 _).1 56 i = nI f ∧ (upI _ 42 15 _).1 57 i = nI t
      by_cases hin : i = np
      · subst hin
        simp (disch := first | decide | omega) only [up_k, up_j, up_s]
        exact ⟨trivial, trivial, trivial, o, c, ho, hc, hoc, rfl, rfl⟩
      · simp (disch := first | decide | omega) only [up_k, up_j, up_s]
        exact b4 i (by omega)
    · show ¬ ((upI _ 42 15 _).1 56 i = (upI _ 42 15 _).1 56 j ∧ (upI _ 42 15 _).1 57 i = (upI _ 42 15 _).1 57 j)
      by_cases hjn : j = np
      · subst hjn
        simp (disch := first | decide | omega) only [up_k, up_j, up_s]
        exact hb i h1
      · simp (disch := first | decide | omega) only [up_k, up_j, up_s]
        exact b5 i j h1 (by omega)
