/-! ===== class and reference side by side: two worlds, one merged ===== -/
def mg (A B : St) : St := (fun k j => if 27 ≤ k ∧ k < 42 then B.1 k j else A.1 k j, A.2)
theorem mg_a {A B : St} {k : Nat} (h : k < 27 ∨ 42 ≤ k) : (mg A B).1 k = A.1 k := by
  unfold mg
  funext j
  show (if 27 ≤ k ∧ k < 42 then _ else _) = _
  rw [if_neg (by omega)]
theorem mg_b {A B : St} {k : Nat} (h1 : 27 ≤ k) (h2 : k < 42) : (mg A B).1 k = B.1 k := by
  unfold mg
  funext j
  show (if 27 ≤ k ∧ k < 42 then _ else _) = _
  rw [if_pos ⟨h1, h2⟩]
theorem i32_mul {x y : Int32} (h : -2147483648 ≤ x.toInt * y.toInt) (h' : x.toInt * y.toInt < 2147483648) : (x * y).toInt = x.toInt * y.toInt := by
  rw [Int32.toInt_mul]
  exact Int.bmod_eq_of_le (by omega) (by omega)
theorem i32_sub {x y : Int32} (h : -2147483648 ≤ x.toInt - y.toInt) (h' : x.toInt - y.toInt < 2147483648) : (x - y).toInt = x.toInt - y.toInt := by
  rw [Int32.toInt_sub]
  exact Int.bmod_eq_of_le (by omega) (by omega)
theorem i32_add {x y : Int32} (h : -2147483648 ≤ x.toInt + y.toInt) (h' : x.toInt + y.toInt < 2147483648) : (x + y).toInt = x.toInt + y.toInt := by
  rw [Int32.toInt_add]
  exact Int.bmod_eq_of_le (by omega) (by omega)
theorem i64_mul {x y : Int64} (h : -9223372036854775808 ≤ x.toInt * y.toInt) (h' : x.toInt * y.toInt < 9223372036854775808) : (x * y).toInt = x.toInt * y.toInt := by
  rw [Int64.toInt_mul]
  exact Int.bmod_eq_of_le (by omega) (by omega)
theorem mulb {a b M N : Int} (h1 : -M ≤ a) (h2 : a ≤ M) (h3 : 0 ≤ b) (h4 : b ≤ N) (hM : 0 ≤ M) : -(M * N) ≤ a * b ∧ a * b ≤ M * N := by
  have e1 : a * b ≤ M * b := Int.mul_le_mul_of_nonneg_right h2 h3
  have e2 : M * b ≤ M * N := Int.mul_le_mul_of_nonneg_left h4 hM
  have e3 : -M * b ≤ a * b := Int.mul_le_mul_of_nonneg_right h1 h3
  have e4 : -M * b = -(M * b) := Int.neg_mul _ _
  omega
/-! ===== who waits ahead of whom ===== -/
def bI (b : Bool) : Int32 := if b then 1 else 0
theorem bz_bI {ρ : Type} {b : Bool} {X : Option ρ} : bz (bI b) X = X := by
  cases b
  · exact bz_0
  · exact bz_1
def lvl (A : Nat → Nat → Int32) (i : Nat) : Int := (A 54 (4 * i + (A 45 i).toNatClampNeg)).toInt
def bef (A : Nat → Nat → Int32) (i j : Nat) : Bool :=
  if 0 < (A 52 i).toInt then
    if 0 < (A 52 j).toInt then
      if (lvl A i - 64 * (A 13 3).toInt) * (A 52 j).toInt = (lvl A j - 64 * (A 13 3).toInt) * (A 52 i).toInt then decide (A 47 i < A 47 j)
      else decide ((lvl A i - 64 * (A 13 3).toInt) * (A 52 j).toInt < (lvl A j - 64 * (A 13 3).toInt) * (A 52 i).toInt)
    else true
  else if 0 < (A 52 j).toInt then false else decide (A 47 i < A 47 j)
/-- what of a call's row the queue looks at -/
def Wok (A : Nat → Nat → Int32) (i : Nat) : Prop := ∃ o l, o < 4 ∧ A 45 i = nI o ∧ l ≤ 6400 ∧ A 54 (4 * i + o) = nI l ∧ -6400 ≤ (A 52 i).toInt ∧ (A 52 i).toInt ≤ 6400
theorem i32_3 : (3 : Int32).toNatClampNeg = 3 := by decide
theorem i32_4 : (4 : Int32).toNatClampNeg = 4 := by decide
theorem ck35 {ρ : Type} {X : Option ρ} : ck 3 5 X = X := ck_n (n := 3) (by decide) (by decide)
theorem ck46 {ρ : Type} {X : Option ρ} : ck 4 6 X = X := ck_n (n := 4) (by decide) (by decide)
theorem i32_64 : (64 : Int32).toInt = 64 := by decide
theorem X7_ownLevel {i o : Nat} (hi : i < 12) (ho : o < 4) {S : St} (e : S.1 45 i = nI o) : f_X7_ownLevel (nI i) S = some (S.1 54 (4 * i + o), S) := by
  unfold f_X7_ownLevel
  rw [ck_n hi (by decide), nI_clamp (by omega), e, ix4, ck_n (by omega) (by decide), nI_clamp (by omega)]
theorem X0_waitsLonger {i j : Nat} (hi : i < 12) (hj : j < 12) (S : St) : f_X0_waitsLonger (nI i) (nI j) S = some (bI (decide (S.1 47 i < S.1 47 j)), S) := by
  unfold f_X0_waitsLonger f_X0_waitsLonger_26
  rw [ck_n hi (by decide), ck_n hj (by decide), nI_clamp (by omega), nI_clamp (by omega), bz_0, bz_1]
  by_cases h : S.1 47 i < S.1 47 j
  · rw [if_neg (Int32.not_le.mpr h)]; simp [h, bI]
  · rw [if_pos (Int32.not_lt.mp h)]; simp [h, bI]
theorem own_prod {l m : Nat} {v : Int32} (hl : l ≤ 6400) (hm : m ≤ 60) (h1 : 0 < v.toInt) (h2 : v.toInt ≤ 6400) : ((nI l - 64 * nI m) * v).toInt = ((nI l).toInt - 64 * (nI m).toInt) * v.toInt := by
  have e1 : (nI l).toInt = l := nI_toInt (by omega)
  have e2 : (nI m).toInt = m := nI_toInt (by omega)
  have e3 : ((64 : Int32) * nI m).toInt = 64 * (nI m).toInt := by
    rw [i32_mul (by rw [i32_64, e2]; omega) (by rw [i32_64, e2]; omega), i32_64]
  have e4 : (nI l - 64 * nI m).toInt = (nI l).toInt - 64 * (nI m).toInt := by
    rw [i32_sub (by rw [e3, e1, e2]; omega) (by rw [e3, e1, e2]; omega), e3]
  have e5 := mulb (a := (nI l).toInt - 64 * (nI m).toInt) (b := v.toInt) (M := 6400) (N := 6400) (by omega) (by omega) (by omega) h2 (by omega)
  rw [i32_mul (by rw [e4]; omega) (by rw [e4]; omega), e4]
theorem own_prodL {l m : Nat} {v : Int32} (hl : l ≤ 6400) (hm : m ≤ 60) (h1 : 0 < v.toInt) (h2 : v.toInt ≤ 6400) : ((nI l - 64 * nI m).toInt64 * v.toInt64).toInt = ((nI l).toInt - 64 * (nI m).toInt) * v.toInt := by
  have e1 : (nI l).toInt = l := nI_toInt (by omega)
  have e2 : (nI m).toInt = m := nI_toInt (by omega)
  have e3 : ((64 : Int32) * nI m).toInt = 64 * (nI m).toInt := by
    rw [i32_mul (by rw [i32_64, e2]; omega) (by rw [i32_64, e2]; omega), i32_64]
  have e4 : (nI l - 64 * nI m).toInt = (nI l).toInt - 64 * (nI m).toInt := by
    rw [i32_sub (by rw [e3, e1, e2]; omega) (by rw [e3, e1, e2]; omega), e3]
  have e5 := mulb (a := (nI l).toInt - 64 * (nI m).toInt) (b := v.toInt) (M := 6400) (N := 6400) (by omega) (by omega) (by omega) h2 (by omega)
  rw [i64_mul (by rw [Int32.toInt_toInt64, Int32.toInt_toInt64, e4]; omega) (by rw [Int32.toInt_toInt64, Int32.toInt_toInt64, e4]; omega), Int32.toInt_toInt64, Int32.toInt_toInt64, e4]
theorem X0_isBefore {i j m : Nat} (hi : i < 12) (hj : j < 12) (hm : m ≤ 60) {S : St} (em : S.1 13 3 = nI m) (wi : Wok S.1 i) (wj : Wok S.1 j) : f_X0_isBefore (nI i) (nI j) S = some (bI (bef S.1 i j), S) := by
  obtain ⟨oi, li, a1, a2, a3, a4, a5, a6⟩ := wi
  obtain ⟨oj, lj, b1, b2, b3, b4, b5, b6⟩ := wj
  have z0 : (0 : Int32).toInt = 0 := by decide
  unfold f_X0_isBefore f_X0_isBefore_104 f_X0_isBefore_113 f_X0_isBefore_122 f_X0_isBefore_103 bef lvl
  rw [ck_n hi (by decide), lt_mk, ck_n hj (by decide), lt_mk, nI_clamp (by omega), nI_clamp (by omega)]
  simp only [X0_waitsLonger hi hj, X7_ownLevel hi a1 a2, X7_ownLevel hj b1 b2, bd_mk, lt_mk, bz_bI, bz_0, bz_1, ck35, i32_3, em, a4, b4]
  rw [a2, b2, nI_clamp (show oi < 2 ^ 31 by omega), nI_clamp (show oj < 2 ^ 31 by omega), a4, b4]
  simp only [Int32.le_iff_toInt_le (y := 0), Int32.lt_iff_toInt_lt (x := 0), z0]
  by_cases h1 : 0 < (S.1 52 i).toInt
  · rw [if_neg (by omega), if_pos h1, if_pos h1]
    by_cases h2 : 0 < (S.1 52 j).toInt
    · rw [if_neg (by omega), if_pos h2]
      have p1 := own_prod (l := li) (m := m) (v := S.1 52 j) a3 hm h2 b6
      have p2 := own_prod (l := lj) (m := m) (v := S.1 52 i) b3 hm h1 a6
      by_cases h3 : (nI li - 64 * nI m) * S.1 52 j = (nI lj - 64 * nI m) * S.1 52 i
      · have h3' := congrArg Int32.toInt h3
        rw [p1, p2] at h3'
        rw [if_pos h3, if_pos h3']
      · have h3' : ¬ ((nI li).toInt - 64 * (nI m).toInt) * (S.1 52 j).toInt = ((nI lj).toInt - 64 * (nI m).toInt) * (S.1 52 i).toInt := fun z => h3 (Int32.toInt_inj.mp (by rw [p1, p2, z]))
        rw [if_neg h3, if_neg h3']
        simp only [Int32.le_iff_toInt_le, p1, p2]
        by_cases h4 : ((nI li).toInt - 64 * (nI m).toInt) * (S.1 52 j).toInt < ((nI lj).toInt - 64 * (nI m).toInt) * (S.1 52 i).toInt
        · rw [if_neg (by omega)]; simp [h4, bI]
        · rw [if_pos (by omega)]; simp [h4, bI]
    · rw [if_pos (by omega), if_neg h2, if_neg (by omega)]; rfl
  · rw [if_pos (by omega), if_neg h1, if_neg h1]
    by_cases h2 : 0 < (S.1 52 j).toInt
    · rw [if_neg (by omega), if_pos h2, if_pos (by omega)]; rfl
    · rw [if_pos (by omega), if_neg h2]
theorem X9_get_o {i o b : Nat} {y : Int32} (hy : y = nI b) (hi : i < 12) (ho : o < 4) (hb : b + o < 18) (S : St) : f_X9_get (nI i) (y + nI o) S = some (S.1 28 (18 * i + (b + o)), S) := by
  subst hy
  rw [nI_add]
  exact X9_get hi hb S
theorem X9_isAhead {i j m : Nat} (hi : i < 12) (hj : j < 12) (hm : m ≤ 60) {S T : St} (em : S.1 13 3 = nI m) (em' : T.1 35 4 = nI m) (wi : Wok S.1 i) (wj : Wok S.1 j)
    (ei : ∀ k, k < 18 → T.1 28 (18 * i + k) = S.1 28 (18 * i + k)) (ej : ∀ k, k < 18 → T.1 28 (18 * j + k) = S.1 28 (18 * j + k)) (ci : CP 4 (fun k j => S.1 (42 + k) j) (fun j => S.1 28 j) i) (cj : CP 4 (fun k j => S.1 (42 + k) j) (fun j => S.1 28 j) j) : f_X9_isAhead (nI i) (nI j) T = some (bI (bef S.1 i j), T) := by
  obtain ⟨oi, li, a1, a2, a3, a4, a5, a6⟩ := wi
  obtain ⟨oj, lj, b1, b2, b3, b4, b5, b6⟩ := wj
  obtain ⟨-, -, c1, c2, c3, c4, c5, c6, c7, c8, c9, c10, -⟩ := ci
  obtain ⟨-, -, d1, d2, d3, d4, d5, d6, d7, d8, d9, d10, -⟩ := cj
  have c1 : S.1 45 i = S.1 28 (18 * i + 1) := c1
  have c3 : S.1 47 i = S.1 28 (18 * i + 3) := c3
  have c8 : S.1 52 i = S.1 28 (18 * i + 7) := c8
  have c10 : S.1 54 (4 * i + oi) = S.1 28 (18 * i + 10 + oi) := (c10 oi a1).1
  have d1 : S.1 45 j = S.1 28 (18 * j + 1) := d1
  have d3 : S.1 47 j = S.1 28 (18 * j + 3) := d3
  have d8 : S.1 52 j = S.1 28 (18 * j + 7) := d8
  have d10 : S.1 54 (4 * j + oj) = S.1 28 (18 * j + 10 + oj) := (d10 oj b1).1
  have z0 : (0 : Int32).toInt = 0 := by decide
  unfold f_X9_isAhead f_X9_isAhead_37 f_X9_isAhead_48 f_X9_isAhead_62 f_X9_isAhead_66 f_X9_isAhead_67 f_X9_isAhead_150 f_X9_isAhead_154 f_X9_isAhead_155 bef lvl
  rw [X9_get_7 hi, bd_mk, X9_get_7 hj, bd_mk, X9_get_3 hi, bd_mk, X9_get_3 hj, bd_mk, ei _ (by omega), ej _ (by omega), ei _ (by omega), ej _ (by omega), ← c8, ← d8, ← c3, ← d3]
  have gi : f_X9_get (nI i) 1 T = some (nI oi, T) := by rw [X9_get_1 hi, ei _ (by omega), ← c1, a2]
  have gj : f_X9_get (nI j) 1 T = some (nI oj, T) := by rw [X9_get_1 hj, ej _ (by omega), ← d1, b2]
  have ki : f_X9_get (nI i) (10 + nI oi) T = some (nI li, T) := by rw [X9_get_o (y := 10) (b := 10) rfl hi a1 (by omega), ei _ (by omega), ← Nat.add_assoc, ← c10, a4]
  have kj : f_X9_get (nI j) (10 + nI oj) T = some (nI lj, T) := by rw [X9_get_o (y := 10) (b := 10) rfl hj b1 (by omega), ej _ (by omega), ← Nat.add_assoc, ← d10, b4]
  simp only [gi, gj, ki, kj, bd_mk, lt_mk, bz_0, bz_1, ck46, i32_4, em', if00, if10, em]
  rw [a2, b2, nI_clamp (show oi < 2 ^ 31 by omega), nI_clamp (show oj < 2 ^ 31 by omega), a4, b4]
  simp only [Int32.le_iff_toInt_le (y := 0), Int32.lt_iff_toInt_lt (x := 0), z0, lg_cmp_lt, lg_cmp_eq]
  by_cases h1 : 0 < (S.1 52 i).toInt
  · have h1' : ¬ (S.1 52 i).toInt ≤ 0 := by omega
    by_cases h2 : 0 < (S.1 52 j).toInt
    · have p1 := own_prodL (l := li) (m := m) (v := S.1 52 j) a3 hm h2 b6
      have p2 := own_prodL (l := lj) (m := m) (v := S.1 52 i) b3 hm h1 a6
      simp only [Int64.lt_iff_toInt_lt, ← Int64.toInt_inj, p1, p2]
      by_cases hw : S.1 47 i < S.1 47 j
      · rw [if_neg (Int32.not_le.mpr hw), if_neg h1', if_pos h2, if_pos h1, if_pos h2]
        by_cases h3 : ((nI li).toInt - 64 * (nI m).toInt) * (S.1 52 j).toInt = ((nI lj).toInt - 64 * (nI m).toInt) * (S.1 52 i).toInt
        · rw [if_neg (by omega), if_pos h3, if_pos h3]; simp [hw, bI]
        · rw [if_neg h3, if_neg h3]
          by_cases h4 : ((nI li).toInt - 64 * (nI m).toInt) * (S.1 52 j).toInt < ((nI lj).toInt - 64 * (nI m).toInt) * (S.1 52 i).toInt
          · rw [if_pos h4]; simp [h4, bI]
          · rw [if_neg h4]; simp [h4, bI]
      · rw [if_pos (Int32.not_lt.mp hw), if_neg h1', if_pos h2, if_pos h1, if_pos h2]
        by_cases h3 : ((nI li).toInt - 64 * (nI m).toInt) * (S.1 52 j).toInt = ((nI lj).toInt - 64 * (nI m).toInt) * (S.1 52 i).toInt
        · rw [if_neg (by omega), if_pos h3, if_pos h3]; simp [hw, bI]
        · rw [if_neg h3, if_neg h3]
          by_cases h4 : ((nI li).toInt - 64 * (nI m).toInt) * (S.1 52 j).toInt < ((nI lj).toInt - 64 * (nI m).toInt) * (S.1 52 i).toInt
          · rw [if_pos h4]; simp [h4, bI]
          · rw [if_neg h4]; simp [h4, bI]
    · simp [h1, h1', h2, bI]
  · have h1' : (S.1 52 i).toInt ≤ 0 := by omega
    by_cases h2 : 0 < (S.1 52 j).toInt
    · simp [h1, h1', h2, bI]
    · by_cases hw : S.1 47 i < S.1 47 j
      · rw [if_neg (Int32.not_le.mpr hw)]; simp [h1, h1', h2, hw, bI]
      · rw [if_pos (Int32.not_lt.mp hw)]; simp [h1, h1', h2, hw, bI]
