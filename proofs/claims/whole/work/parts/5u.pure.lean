/-! ===== hears: levels, streaks, the target ===== -/
def smt (f l v : Nat) : Nat := (l * (2 ^ f - 1) + 64 * v) / 2 ^ f
theorem smt_le {f l v : Nat} (hf : f ≤ 3) (hl : l ≤ 6400) (hv : v ≤ 100) : smt f l v ≤ 6400 := by
  unfold smt
  match f, hf with
  | 0, _ => simp; omega
  | 1, _ => simp; omega
  | 2, _ => simp; omega
  | 3, _ => simp; omega
theorem smt_0 {f : Nat} (hf : f ≤ 3) : smt f 0 0 = 0 := by
  unfold smt
  match f, hf with
  | 0, _ => rfl
  | 1, _ => rfl
  | 2, _ => rfl
  | 3, _ => rfl
theorem i32_shr {a f : Nat} (ha : a < 2 ^ 31) (hf : f ≤ 3) : nI a >>> (nI f &&& 31) = nI (a / 2 ^ f) := by
  have e : ∀ k : Nat, k ≤ 3 → (nI a >>> (nI k &&& 31)).toInt = (nI a).toInt / 2 ^ k := fun k hk => by
    have hb : (nI a >>> (nI k &&& 31)).toBitVec = (nI a).toBitVec.sshiftRight k := by
      match k, hk with
      | 0, _ => rfl
      | 1, _ => rfl
      | 2, _ => rfl
      | 3, _ => rfl
    show (nI a >>> (nI k &&& 31)).toBitVec.toInt = _
    rw [hb, BitVec.toInt_sshiftRight, Int.shiftRight_eq_div_pow]
    rfl
  apply Int32.toInt_inj.mp
  have hle : a / 2 ^ f ≤ a := Nat.div_le_self _ _
  rw [e f hf, nI_toInt (by omega), nI_toInt (by omega)]
  rw [Int.natCast_ediv]
  norm_cast
theorem i32_div {a d : Nat} (ha : a < 2 ^ 31) (hd : d < 2 ^ 31) : nI a / nI d = nI (a / d) := by
  apply Int32.toInt_inj.mp
  have hle : a / d ≤ a := Nat.div_le_self _ _
  rw [Int32.toInt_div, nI_toInt (by omega), nI_toInt (by omega), nI_toInt (by omega), Int.tdiv_eq_ediv_of_nonneg (by omega), ← Int.natCast_ediv]
  generalize a / d = q at hle ⊢
  exact Int.bmod_eq_of_le (by omega) (by omega)
theorem shl_1 {f : Nat} (hf : f ≤ 3) : (1 : Int32) <<< (nI f &&& 31) = nI (2 ^ f) := by
  match f, hf with
  | 0, _ => rfl
  | 1, _ => rfl
  | 2, _ => rfl
  | 3, _ => rfl
theorem shl_2 {f : Nat} (hf : f ≤ 3) : (1 : Int32) <<< (nI f &&& 31) - 1 = nI (2 ^ f - 1) := by
  match f, hf with
  | 0, _ => rfl
  | 1, _ => rfl
  | 2, _ => rfl
  | 3, _ => rfl
theorem sm_b {f l v : Nat} (hf : f ≤ 3) (hl : l ≤ 6400) (hv : v ≤ 100) : l * (2 ^ f - 1) + 64 * v < 2 ^ 31 := by
  match f, hf with
  | 0, _ => simp; omega
  | 1, _ => simp; omega
  | 2, _ => simp; omega
  | 3, _ => simp; omega
theorem sm_class {f l v : Nat} (hf : f ≤ 3) (hl : l ≤ 6400) (hv : v ≤ 100) : (nI l * nI (2 ^ f - 1) + 64 * nI v) >>> (nI f &&& 31) = nI (smt f l v) := by
  rw [show (64 : Int32) = nI 64 from rfl, pk_mul, pk_mul, nI_add, i32_shr (sm_b hf hl hv) hf]
  rfl
theorem sm_ref {f l v : Nat} (hf : f ≤ 3) (hl : l ≤ 6400) (hv : v ≤ 100) : (nI l * nI (2 ^ f - 1) + 64 * nI v) / nI (2 ^ f) = nI (smt f l v) := by
  rw [show (64 : Int32) = nI 64 from rfl, pk_mul, pk_mul, nI_add, i32_div (sm_b hf hl hv) (by
    match f, hf with
    | 0, _ => decide
    | 1, _ => decide
    | 2, _ => decide
    | 3, _ => decide)]
  rfl
theorem nz_2 {f : Nat} (hf : f ≤ 3) {ρ : Type} {X : Option ρ} : nz (nI (2 ^ f)) X = X := by
  match f, hf with
  | 0, _ => rfl
  | 1, _ => rfl
  | 2, _ => rfl
  | 3, _ => rfl
theorem i32_2c : (2 : Int32).toNatClampNeg = 2 := by decide
theorem i32_1c : (1 : Int32).toNatClampNeg = 1 := by decide
theorem i32_0c : (0 : Int32).toNatClampNeg = 0 := by decide
theorem ck25 {ρ : Type} {X : Option ρ} : ck 2 5 X = X := ck_n (n := 2) (by decide) (by decide)
theorem ck05 {ρ : Type} {X : Option ρ} : ck 0 5 X = X := ck_n (n := 0) (by decide) (by decide)
theorem ck15 {ρ : Type} {X : Option ρ} : ck 1 5 X = X := ck_n (n := 1) (by decide) (by decide)
theorem ck16 {ρ : Type} {X : Option ρ} : ck 1 6 X = X := ck_n (n := 1) (by decide) (by decide)
theorem ck26 {ρ : Type} {X : Option ρ} : ck 2 6 X = X := ck_n (n := 2) (by decide) (by decide)
theorem ck36 {ρ : Type} {X : Option ρ} : ck 3 6 X = X := ck_n (n := 3) (by decide) (by decide)
theorem sm_loop {i nc f : Nat} (hi : i < 12) (hnc : nc ≤ 4) (hf : f ≤ 3) (x : Int32) (lv va : Nat → Nat) : ∀ (m d fuel : Nat) (A : St), d + m = nc → m < fuel → A.1 9 0 = nI nc → (∀ e, d ≤ e → e < nc → A.1 54 (4 * i + e) = nI (lv e) ∧ lv e ≤ 6400 ∧ A.1 15 e = nI (va e) ∧ va e ≤ 100) → ∃ T, f_X0_smoothLevels_29 fuel (nI i) x (nI f) (nI (2 ^ f - 1)) (nI d) A = f_X0_smoothLevels_97 (nI i) x T ∧ (∀ k, k ≠ 54 → T.1 k = A.1 k) ∧ ∀ j, T.1 54 j = if 4 * i + d ≤ j ∧ j < 4 * i + nc then nI (smt f (lv (j - 4 * i)) (va (j - 4 * i))) else A.1 54 j := by
  intro m
  induction m with
  | zero =>
    intro d fuel A h1 h2 h3 h4
    obtain ⟨g, rfl⟩ : ∃ g, fuel = g + 1 := ⟨fuel - 1, by omega⟩
    obtain rfl : d = nc := by omega
    refine ⟨A, ?_, fun _ _ => rfl, fun j => by rw [if_neg (by omega)]⟩
    rw [f_X0_smoothLevels_29, h3, if_pos (nI_le (by omega) (by omega))]
  | succ m ih =>
    intro d fuel A h1 h2 h3 h4
    obtain ⟨g, rfl⟩ : ∃ g, fuel = g + 1 := ⟨fuel - 1, by omega⟩
    obtain ⟨a1, a2, a3, a4⟩ := h4 d (by omega) (by omega)
    obtain ⟨T, e1, e2, e3⟩ := ih (d + 1) g (upI A 54 (4 * i + d) (nI (smt f (lv d) (va d)))) (by omega) (by omega) (by rw [up_k (by decide)]; exact h3) (fun e b1 b2 => by
      rw [up_j (by omega), up_k (by decide)]
      exact h4 e (by omega) b2)
    refine ⟨T, ?_, fun k hk => by rw [e2 k hk, up_r hk], fun j => ?_⟩
    · rw [f_X0_smoothLevels_29, h3, if_neg (nI_ge (by omega) (by omega)), if_neg (show ¬ (4 : Int32) ≤ nI d from nI_ge (b := 4) (by omega) (by omega)), lt_mk, ix4, ck_n (by omega) (by decide), ck_n (by omega) (by decide), lt_mk, ck_n (by omega) (by decide), lt_mk, nI_clamp (by omega), nI_clamp (by omega), a1, a3, sm_class hf a2 a4, nI_1]
      exact e1
    · rw [e3 j]
      by_cases hj : j = 4 * i + d
      · subst hj
        rw [if_neg (by omega), if_pos (by omega), up_s, show 4 * i + d - 4 * i = d by omega]
      · rw [up_j hj]
        by_cases hj2 : 4 * i + (d + 1) ≤ j ∧ j < 4 * i + nc
        · rw [if_pos hj2, if_pos (by omega)]
        · rw [if_neg hj2, if_neg (by omega)]
theorem smooth_ok {i o nc f : Nat} (hi : i < 12) (hnc : nc ≤ 4) (ho : o < nc) (hf : f ≤ 3) (lv va : Nat → Nat) {A : St} (h9 : A.1 9 0 = nI nc) (h13 : A.1 13 2 = nI f) (h45 : A.1 45 i = nI o) (h4 : ∀ e, e < nc → A.1 54 (4 * i + e) = nI (lv e) ∧ lv e ≤ 6400 ∧ A.1 15 e = nI (va e) ∧ va e ≤ 100) : ∃ T, f_X0_smoothLevels (nI i) A = some T ∧ (∀ k, k ≠ 54 → k ≠ 52 → T.1 k = A.1 k) ∧ (∀ j, T.1 54 j = if 4 * i ≤ j ∧ j < 4 * i + nc then nI (smt f (lv (j - 4 * i)) (va (j - 4 * i))) else A.1 54 j) ∧ (∀ j, T.1 52 j = if j = i then nI (lv o) - nI (smt f (lv o) (va o)) else A.1 52 j) := by
  obtain ⟨T, e1, e2, e3⟩ := sm_loop hi hnc hf (nI (lv o)) lv va nc 0 FU A (by omega) (by show nc < 3000; omega) h9 (fun e _ b => h4 e b)
  have ho4 : T.1 54 (4 * i + o) = nI (smt f (lv o) (va o)) := by rw [e3, if_pos (by omega), show 4 * i + o - 4 * i = o by omega]
  have h45' : T.1 45 i = nI o := by rw [e2 45 (by decide)]; exact h45
  refine ⟨upI T 52 i (nI (lv o) - nI (smt f (lv o) (va o))), ?_, fun k b1 b2 => by rw [up_r b2, e2 k b1], fun j => by rw [up_k (by decide), e3]; rfl, fun j => ?_⟩
  · unfold f_X0_smoothLevels
    rw [X7_ownLevel hi (by omega) h45, bd_mk, ck25, lt_mk, lt_mk, i32_2c, h13, shl_2 hf, (h4 o ho).1]
    rw [show f_X0_smoothLevels_29 FU (nI i) (nI (lv o)) (nI f) (nI (2 ^ f - 1)) 0 A = _ from e1]
    unfold f_X0_smoothLevels_97
    rw [X7_ownLevel hi (by omega) h45', bd_mk, ck_n hi (by decide), lt_mk, nI_clamp (by omega), ho4]
  · by_cases hj : j = i
    · subst hj
      rw [up_s, if_pos rfl]
    · rw [up_j hj, if_neg hj, e2 52 (by decide)]
theorem X9_listens {i d f l v : Nat} (hi : i < 12) (hd : d < 4) (hf : f ≤ 3) (hl : l ≤ 6400) (hv : v ≤ 100) {y : Int32} (hy : y = nI d) {B : St} (h35 : B.1 35 3 = nI f) (h : B.1 28 (18 * i + (10 + d)) = nI l) : f_X9_listens (nI i) y (nI v) B = some (upI B 28 (18 * i + (10 + d)) (nI (smt f l v))) := by
  subst hy
  unfold f_X9_listens
  rw [ck36, lt_mk, i32_3, h35, X9_get_o (y := 10) (b := 10) rfl hi hd (by omega), bd_mk, h, shl_2 hf, shl_1 hf, nz_2 hf, sm_ref hf hl hv, show (10 : Int32) + nI d = nI (10 + d) from by rw [show (10 : Int32) = nI 10 from rfl, nI_add], X9_set hi (by omega), bdV_mk]
/-- a streak -/
def sk (o e : Nat) (x lev old : Int32) : Int32 := if e = o then 0 else if lev < x then 0 else old + 1
theorem st_loop {i o nc : Nat} (hi : i < 12) (hnc : nc ≤ 4) (ho : o < nc) (x : Int32) : ∀ (m d fuel : Nat) (A : St), d + m = nc → m < fuel → A.1 9 0 = nI nc → A.1 45 i = nI o → ∃ T, f_X0_countStreaks_24 fuel (nI i) x (nI d) A = some T ∧ (∀ k, k ≠ 55 → T.1 k = A.1 k) ∧ ∀ j, T.1 55 j = if 4 * i + d ≤ j ∧ j < 4 * i + nc then sk o (j - 4 * i) x (A.1 54 j) (A.1 55 j) else A.1 55 j := by
  intro m
  induction m with
  | zero =>
    intro d fuel A h1 h2 h3 h4
    obtain ⟨g, rfl⟩ : ∃ g, fuel = g + 1 := ⟨fuel - 1, by omega⟩
    obtain rfl : d = nc := by omega
    refine ⟨A, ?_, fun _ _ => rfl, fun j => by rw [if_neg (by omega)]⟩
    rw [f_X0_countStreaks_24, h3, if_pos (nI_le (by omega) (by omega)), f_X0_countStreaks_118]
  | succ m ih =>
    intro d fuel A h1 h2 h3 h4
    obtain ⟨g, rfl⟩ : ∃ g, fuel = g + 1 := ⟨fuel - 1, by omega⟩
    obtain ⟨T, e1, e2, e3⟩ := ih (d + 1) g (upI A 55 (4 * i + d) (sk o d x (A.1 54 (4 * i + d)) (A.1 55 (4 * i + d)))) (by omega) (by omega) (by rw [up_k (by decide)]; exact h3) (by rw [up_k (by decide)]; exact h4)
    refine ⟨T, ?_, fun k hk => by rw [e2 k hk, up_r hk], fun j => ?_⟩
    · rw [f_X0_countStreaks_24, h3, if_neg (nI_ge (by omega) (by omega)), if_neg (show ¬ (4 : Int32) ≤ nI d from nI_ge (b := 4) (by omega) (by omega)), lt_mk, ix4, ck_n hi (by decide), ck_n (by omega) (by decide), nI_clamp (by omega), nI_clamp (by omega), h4, f_X0_countStreaks_78, f_X0_countStreaks_79, if00, f_X0_countStreaks_79, if10, f_X0_countStreaks_111, f_X0_countStreaks_111, ck_n (by omega) (by decide), ck_n (by omega) (by decide), ck_n (by omega) (by decide), lt_mk, lt_mk, nI_clamp (by omega), nI_1]
      unfold sk at e1
      by_cases hd : d = o
      · rw [if_pos hd] at e1
        rw [if_pos (by rw [hd])]
        exact e1
      · rw [if_neg hd] at e1
        rw [if_neg (fun z => hd (nI_inj (by omega) (by omega) z))]
        by_cases hl : A.1 54 (4 * i + d) < x
        · rw [if_pos hl] at e1 ⊢
          exact e1
        · rw [if_neg hl] at e1 ⊢
          exact e1
    · rw [e3 j]
      by_cases hj : j = 4 * i + d
      · subst hj
        rw [if_neg (by omega), if_pos (by omega), up_s, show 4 * i + d - 4 * i = d by omega]
      · rw [up_j hj, up_k (by decide)]
        by_cases hj2 : 4 * i + (d + 1) ≤ j ∧ j < 4 * i + nc
        · rw [if_pos hj2, if_pos (by omega)]
        · rw [if_neg hj2, if_neg (by omega)]
theorem streaks_ok {i o nc : Nat} (hi : i < 12) (hnc : nc ≤ 4) (ho : o < nc) {A : St} (h9 : A.1 9 0 = nI nc) (h45 : A.1 45 i = nI o) : ∃ T, f_X0_countStreaks (nI i) A = some T ∧ (∀ k, k ≠ 55 → T.1 k = A.1 k) ∧ ∀ j, T.1 55 j = if 4 * i ≤ j ∧ j < 4 * i + nc then sk o (j - 4 * i) (A.1 54 (4 * i + o) + 64 * A.1 13 0) (A.1 54 j) (A.1 55 j) else A.1 55 j := by
  obtain ⟨T, e1, e2, e3⟩ := st_loop hi hnc ho (A.1 54 (4 * i + o) + 64 * A.1 13 0) nc 0 FU A (by omega) (by show nc < 3000; omega) h9 h45
  refine ⟨T, ?_, e2, e3⟩
  unfold f_X0_countStreaks
  rw [X7_ownLevel hi (by omega) h45, bd_mk, ck05, lt_mk, i32_0c]
  exact e1
theorem st_loop9 {i o nc : Nat} (hi : i < 12) (hnc : nc ≤ 4) (ho : o < nc) (x y : Int32) : ∀ (m d fuel : Nat) (B : St), d + m = nc → m < fuel → B.1 27 8 = nI nc → B.1 28 (18 * i + 1) = nI o → x + 64 * B.1 35 1 = y → ∃ T, f_X9_streaks_17 fuel (nI i) x (nI d) B = some T ∧ (∀ k, k ≠ 28 → T.1 k = B.1 k) ∧ ∀ j, T.1 28 j = if 18 * i + 14 + d ≤ j ∧ j < 18 * i + 14 + nc then sk o (j - (18 * i + 14)) y (B.1 28 (j - 4)) (B.1 28 j) else B.1 28 j := by
  intro m
  induction m with
  | zero =>
    intro d fuel B h1 h2 h3 h4 h5
    obtain ⟨g, rfl⟩ : ∃ g, fuel = g + 1 := ⟨fuel - 1, by omega⟩
    obtain rfl : d = nc := by omega
    refine ⟨B, ?_, fun _ _ => rfl, fun j => by rw [if_neg (by omega)]⟩
    rw [f_X9_streaks_17, h3, if_pos (nI_le (by omega) (by omega))]
  | succ m ih =>
    intro d fuel B h1 h2 h3 h4 h5
    obtain ⟨g, rfl⟩ : ∃ g, fuel = g + 1 := ⟨fuel - 1, by omega⟩
    obtain ⟨T, e1, e2, e3⟩ := ih (d + 1) g (upI B 28 (18 * i + (14 + d)) (sk o d y (B.1 28 (18 * i + (10 + d))) (B.1 28 (18 * i + (14 + d))))) (by omega) (by omega) (by rw [up_k (by decide)]; exact h3) (by rw [up_j (by omega)]; exact h4) (by rw [up_k (by decide)]; exact h5)
    refine ⟨T, ?_, fun k hk => by rw [e2 k hk, up_r hk], fun j => ?_⟩
    · have e14 : (14 : Int32) + nI d = nI (14 + d) := by rw [show (14 : Int32) = nI 14 from rfl, nI_add]
      rw [f_X9_streaks_17, h3, if_neg (nI_ge (by omega) (by omega)), X9_get_1 hi, bd_mk, h4, X9_get_o (y := 10) (b := 10) rfl hi (by omega) (by omega), bd_mk, ck16, i32_1c, h5, f_X9_streaks_62, f_X9_streaks_63, if00, f_X9_streaks_63, if10, e14, X9_get hi (by omega), bd_mk, f_X9_streaks_91, f_X9_streaks_91, X9_set hi (by omega), X9_set hi (by omega), bdV_mk, bdV_mk, nI_1]
      unfold sk at e1
      by_cases hd : d = o
      · rw [if_pos hd] at e1
        rw [if_pos (by rw [hd])]
        exact e1
      · rw [if_neg hd] at e1
        rw [if_neg (fun z => hd (nI_inj (by omega) (by omega) z))]
        by_cases hl : B.1 28 (18 * i + (10 + d)) < y
        · rw [if_pos hl] at e1 ⊢
          exact e1
        · rw [if_neg hl] at e1 ⊢
          exact e1
    · rw [e3 j]
      by_cases hj : j = 18 * i + (14 + d)
      · subst hj
        rw [if_neg (by omega), if_pos (by omega), up_s, show 18 * i + (14 + d) - (18 * i + 14) = d by omega, show 18 * i + (14 + d) - 4 = 18 * i + (10 + d) by omega]
      · rw [up_j hj]
        by_cases hj2 : 18 * i + 14 + (d + 1) ≤ j ∧ j < 18 * i + 14 + nc
        · rw [if_pos hj2, if_pos (by omega), up_j (by omega)]
        · rw [if_neg hj2, if_neg (by omega)]
theorem streaks_ok9 {i o nc : Nat} (hi : i < 12) (hnc : nc ≤ 4) (ho : o < nc) {B : St} (h8 : B.1 27 8 = nI nc) (h1 : B.1 28 (18 * i + 1) = nI o) : ∃ T, f_X9_streaks (nI i) B = some T ∧ (∀ k, k ≠ 28 → T.1 k = B.1 k) ∧ ∀ j, T.1 28 j = if 18 * i + 14 ≤ j ∧ j < 18 * i + 14 + nc then sk o (j - (18 * i + 14)) (B.1 28 (18 * i + (10 + o)) + 64 * B.1 35 1) (B.1 28 (j - 4)) (B.1 28 j) else B.1 28 j := by
  obtain ⟨T, e1, e2, e3⟩ := st_loop9 hi hnc ho (B.1 28 (18 * i + (10 + o))) _ nc 0 FU B (by omega) (by show nc < 3000; omega) h8 h1 rfl
  refine ⟨T, ?_, e2, e3⟩
  unfold f_X9_streaks
  rw [X9_get_1 hi, bd_mk, h1, X9_get_o (y := 10) (b := 10) rfl hi (by omega) (by omega), bd_mk]
  exact e1
