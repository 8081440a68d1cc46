/-! ===== the long run: bounds ===== -/
theorem prd_le {f : Nat → Nat} {M : Nat} : ∀ n, (∀ k, k < n → f k ≤ M) → prd f n ≤ M ^ n
  | 0, _ => Nat.le_refl _
  | n + 1, h => by
    rw [prd_s, Nat.pow_succ]
    exact Nat.mul_le_mul (prd_le n (fun k hk => h k (by omega))) (h n (by omega))
theorem prd_pos {f : Nat → Nat} : ∀ n, (∀ k, k < n → 0 < f k) → 0 < prd f n
  | 0, _ => Nat.zero_lt_one
  | n + 1, h => by
    rw [prd_s]
    exact Nat.mul_pos (prd_pos n (fun k hk => h k (by omega))) (h n (by omega))
theorem smm_le {f : Nat → Nat} {M : Nat} : ∀ n, (∀ k, k < n → f k ≤ M) → smm f n ≤ n * M
  | 0, _ => by simp [smm]
  | n + 1, h => by
    rw [smm_s, Nat.succ_mul]
    exact Nat.add_le_add (smm_le n (fun k hk => h k (by omega))) (h n (by omega))
theorem smm_ge {f : Nat → Nat} : ∀ n k, k < n → f k ≤ smm f n
  | n + 1, k, h => by
    rw [smm_s]
    by_cases hk : k = n
    · subst hk; omega
    · have := smm_ge (f := f) n k (by omega)
      omega
theorem smm_congr {f g : Nat → Nat} : ∀ n, (∀ k, k < n → f k = g k) → smm f n = smm g n
  | 0, _ => rfl
  | n + 1, h => by rw [smm_s, smm_s, smm_congr n (fun k hk => h k (by omega)), h n (by omega)]
theorem smm_mul {f : Nat → Nat} (q : Nat) : ∀ n, smm (fun k => q * f k) n = q * smm f n
  | 0 => rfl
  | n + 1 => by rw [smm_s, smm_s, smm_mul q n, Nat.mul_add]
theorem smm_zero {f : Nat → Nat} : ∀ n, (∀ k, k < n → f k = 0) → smm f n = 0
  | 0, _ => rfl
  | n + 1, h => by rw [smm_s, smm_zero n (fun k hk => h k (by omega)), h n (by omega)]
theorem pow_b : ∀ (C n : Fin 7), n.1 ≤ C.1 → 180 ^ n.1 * 540 ^ (C.1 - n.1) ≤ 540 ^ 6 ∧ (1 ≤ n.1 → 180 ^ n.1 * 540 ^ (C.1 - n.1) ≤ 180 * 540 ^ 5) := by decide
theorem Wt_le {a b c C n : Nat} {g : Int32} (hC : C ≤ 6) (ha : a ≤ 9) (hb : b ≤ 9) (hc : c ≤ 9) (hn : n ≤ C) : Wt a b c C g n ≤ 24794911296000000 ∧ (1 ≤ n → Wt a b c C g n ≤ 8264970432000000) := by
  have h1 : prd (fac a b C g) n ≤ 180 ^ n := prd_le n (fun k _ => fac_le ha hb)
  have h2 : prd (abv c n) (C - n) ≤ 540 ^ (C - n) := prd_le (C - n) (fun k hk => (abv_eq hc (by omega)).2.2)
  have h3 := Nat.mul_le_mul h1 h2
  obtain ⟨h4, h5⟩ := pow_b ⟨C, by omega⟩ ⟨n, by omega⟩ hn
  unfold Wt
  have e1 : 540 ^ 6 = 24794911296000000 := by decide
  have e2 : 180 * 540 ^ 5 = 8264970432000000 := by decide
  rw [e1] at h4
  rw [e2] at h5
  exact ⟨Nat.le_trans h3 h4, fun z => Nat.le_trans h3 (h5 z)⟩
theorem Wt_pos {a b c C : Nat} {g : Int32} (hc : 1 ≤ c) : 0 < Wt a b c C g 0 := by
  unfold Wt
  refine Nat.mul_pos Nat.zero_lt_one (prd_pos _ (fun k hk => ?_))
  unfold abv
  exact Nat.mul_pos (by omega) (by omega)
theorem smmW {a b c C : Nat} {g : Int32} (hC : C ≤ 6) (ha : a ≤ 9) (hb : b ≤ 9) (hc1 : 1 ≤ c) (hc : c ≤ 9) : 0 < smm (Wt a b c C g) (C + 1) ∧ smm (Wt a b c C g) (C + 1) ≤ 173564379072000000 := by
  refine ⟨Nat.lt_of_lt_of_le (Wt_pos (a := a) (b := b) (C := C) (g := g) hc1) (smm_ge (C + 1) 0 (by omega)), ?_⟩
  have h1 := smm_le (f := Wt a b c C g) (M := 24794911296000000) (C + 1) (fun k hk => (Wt_le hC ha hb hc (by omega)).1)
  have h2 : (C + 1) * 24794911296000000 ≤ 7 * 24794911296000000 := Nat.mul_le_mul (by omega) (Nat.le_refl _)
  omega
theorem nI_00 : nI 0 = (0 : Int32) := rfl
theorem nI_11 : nI 1 = (1 : Int32) := rfl
theorem nI_n0 {w : Nat} (hw : w < 2 ^ 31) (h : ¬ w = 0) : ¬ nI w = (0 : Int32) := fun z => h (nI_inj (b := 0) hw (by decide) z)
theorem nI_n1 {w : Nat} (hw : w < 2 ^ 31) (h : ¬ w = 1) : ¬ nI w = (1 : Int32) := fun z => h (nI_inj (b := 1) hw (by decide) z)
/-! ===== what is summed ===== -/
theorem all_loop {C : Nat} {W : Nat → Nat} (hC : C ≤ 6) {S : St} (e : S.1 22 1 = nI C) (h : ∀ j, j ≤ C → S.2 23 j = lI (W j)) : ∀ (m b fuel : Nat), b + m = C + 1 → m < fuel → f_X3_allWeights_4 fuel (lI (smm W b)) (nI b) S = some (lI (smm W (C + 1)), S) := by
  intro m
  induction m with
  | zero =>
    intro b fuel h1 h2
    obtain ⟨f, rfl⟩ : ∃ g, fuel = g + 1 := ⟨fuel - 1, by omega⟩
    obtain rfl : b = C + 1 := by omega
    rw [f_X3_allWeights_4, e, if_pos (nI_lt (by omega) (by omega))]
  | succ m ih =>
    intro b fuel h1 h2
    obtain ⟨f, rfl⟩ : ∃ g, fuel = g + 1 := ⟨fuel - 1, by omega⟩
    rw [f_X3_allWeights_4, e, if_neg (nI_nlt (by omega) (by omega)), ck_n (by omega) (by decide), lt_mk, nI_clamp (by omega), h b (by omega), lI_add, ← smm_s, nI_1]
    exact ih (b + 1) f (by omega) (by omega)
theorem X3_lower {C : Nat} {W : Nat → Nat} (hC : C ≤ 6) {S : St} (e : S.1 22 1 = nI C) (h : ∀ j, j ≤ C → S.2 23 j = lI (W j)) {w : Nat} (hw : w < 3) {y : Int32} (hy : y = nI w) : f_X3_lower y S = some (lI ((if w = 0 then 10 else 1) * smm W (C + 1)), S) := by
  subst hy
  have a : f_X3_allWeights S = some (lI (smm W (C + 1)), S) := by
    unfold f_X3_allWeights
    exact all_loop hC e h (C + 1) 0 FU (by omega) (by show C + 1 < 3000; omega)
  unfold f_X3_lower f_X3_lower_19
  rw [a, bd_mk, bd_mk]
  by_cases h0 : w = 0
  · subst h0
    rw [if_pos nI_00, if_pos rfl, show (10 : Int64) = lI 10 from rfl, lI_mul]
  · rw [if_neg (nI_n0 (by omega) h0), if_neg h0, Nat.one_mul]
def upf (W ch : Nat → Nat) (w k : Nat) : Nat := if w = 0 then W k * (10 - ch k) else W k * k
theorem ten_sub {q : Nat} (h : q ≤ 10) : (10 : Int32) - nI q = nI (10 - q) := by
  apply Int32.toInt_inj.mp
  have e10 : (10 : Int32).toInt = 10 := by decide
  rw [i32_sub (by rw [e10, nI_toInt (by omega)]; omega) (by rw [e10, nI_toInt (by omega)]; omega), e10, nI_toInt (by omega), nI_toInt (by omega)]
  omega
theorem upper_loop {C w : Nat} {W : Nat → Nat} {g : Int32} (hC : C ≤ 6) (hw : w < 3) {S : St} (e : S.1 22 1 = nI C) (e2 : S.1 22 2 = g) (h : ∀ j, j ≤ C → S.2 23 j = lI (W j)) : ∀ (m b fuel : Nat), b + m = C + 1 → m < fuel → f_X3_upper_20 fuel (nI w) (lI (smm (upf W (chN C g) w) b)) (nI b) S = some (lI (smm (upf W (chN C g) w) (C + 1)), S) := by
  intro m
  induction m with
  | zero =>
    intro b fuel h1 h2
    obtain ⟨f, rfl⟩ : ∃ g, fuel = g + 1 := ⟨fuel - 1, by omega⟩
    obtain rfl : b = C + 1 := by omega
    rw [f_X3_upper_20, e, if_pos (nI_lt (by omega) (by omega))]
  | succ m ih =>
    intro b fuel h1 h2
    obtain ⟨f, rfl⟩ : ∃ g, fuel = g + 1 := ⟨fuel - 1, by omega⟩
    have := ih (b + 1) f (by omega) (by omega)
    rw [smm_s] at this
    rw [f_X3_upper_20, e, if_neg (nI_nlt (by omega) (by omega)), ck_n (by omega) (by decide), nI_clamp (by omega), h b (by omega)]
    unfold f_X3_chanceWith f_X3_upper_55
    rw [e, e2, X8_chance, bd_mk, bd_mk, (chN_eq C g b).1, lt_mk, lt_mk, ten_sub (chN_eq C g b).2, nI_1]
    by_cases h0 : w = 0
    · subst h0
      rw [if_pos nI_00, nI_long (by omega), lI_mul, lI_add]
      rw [show upf W (chN C g) 0 b = W b * (10 - chN C g b) from rfl] at this
      exact this
    · rw [if_neg (nI_n0 (by omega) h0), nI_long (by omega), lI_mul, lI_add]
      rw [show upf W (chN C g) w b = W b * b by unfold upf; rw [if_neg h0]] at this
      exact this
theorem X3_upper {C w : Nat} {W : Nat → Nat} {g : Int32} (hC : C ≤ 6) (hw : w < 3) {S : St} (e : S.1 22 1 = nI C) (e2 : S.1 22 2 = g) (h : ∀ j, j ≤ C → S.2 23 j = lI (W j)) {y : Int32} (hy : y = nI w) : f_X3_upper y S = some (lI (if w = 1 then W C else smm (upf W (chN C g) w) (C + 1)), S) := by
  subst hy
  unfold f_X3_upper
  by_cases h1 : w = 1
  · subst h1
    rw [if_pos nI_11, if_pos rfl, e, ck_n (by omega) (by decide), nI_clamp (by omega), h C (by omega)]
  · rw [if_neg (nI_n1 (by omega) h1), if_neg h1]
    exact upper_loop hC hw e e2 h (C + 1) 0 FU (by omega) (by show C + 1 < 3000; omega)
/-- the reference's summand -/
def rsf (W ch : Nat → Nat) (C w k : Nat) : Nat := (if w = 0 then 10 - ch k else if w = 1 then (if k = C then 10 else 0) else 10 * k) * W k
theorem lost_loop {C c w p L : Nat} {W : Nat → Nat} {g : Int32} (hC : C ≤ 6) (hc : c < 4) (hw : w < 3) (hp : p < 2) {S : St} (eg : S.1 28 (216 + c) = g) (h : ∀ j, j ≤ C → S.2 41 j = lI (W j)) (hU : smm (rsf W (chN C g) C w) (C + 1) < 2 ^ 63) (hL : L < 2 ^ 63) (hL0 : 0 < L) : ∀ (m b fuel : Nat), b + m = C + 1 → m < fuel → f_X9_lost_85 fuel (nI c) (nI w) (nI p) (nI C) (lI L) (lI (smm (rsf W (chN C g) C w) b)) (nI b) S = some (lI ((if p = 0 then smm (rsf W (chN C g) C w) (C + 1) else L) / Nat.gcd L (smm (rsf W (chN C g) C w) (C + 1))), S) := by
  intro m
  induction m with
  | zero =>
    intro b fuel h1 h2
    obtain ⟨f, rfl⟩ : ∃ g, fuel = g + 1 := ⟨fuel - 1, by omega⟩
    obtain rfl : b = C + 1 := by omega
    have hg : Nat.gcd L (smm (rsf W (chN C g) C w) (C + 1)) ≤ L := Nat.gcd_le_left _ hL0
    have hg0 : 0 < Nat.gcd L (smm (rsf W (chN C g) C w) (C + 1)) := Nat.gcd_pos_of_pos_left _ hL0
    rw [f_X9_lost_85, if_pos (nI_lt (by omega) (by omega)), X9_gcd hU hL, bd_mk, lI_ne (by omega) hg0, lI_ne (by omega) hg0, f_X9_lost_199, f_X9_lost_199, lI_div hU (by omega), lI_div hL (by omega)]
    by_cases h0 : p = 0
    · subst h0
      rw [if_pos nI_00, if_pos rfl]
    · rw [if_neg (nI_n0 (by omega) h0), if_neg h0]
  | succ m ih =>
    intro b fuel h1 h2
    obtain ⟨f, rfl⟩ : ∃ g, fuel = g + 1 := ⟨fuel - 1, by omega⟩
    have := ih (b + 1) f (by omega) (by omega)
    rw [smm_s (rsf W (chN C g) C w) b] at this
    have key : ∀ s : Nat, s < 2 ^ 31 → f_X9_lost_148 (f_X9_lost_85 f) (nI c) (nI w) (nI p) (nI C) (lI L) (lI (smm (rsf W (chN C g) C w) b)) (nI b) (nI s) S = f_X9_lost_85 f (nI c) (nI w) (nI p) (nI C) (lI L) (lI (smm (rsf W (chN C g) C w) b + s * W b)) (nI (b + 1)) S := fun s hs => by
      rw [f_X9_lost_148, ck_n (by omega) (by decide), lt_mk, nI_clamp (by omega), h b (by omega), nI_long hs, lI_mul, lI_add, nI_1]
    have q := (chN_eq C g b).2
    rw [f_X9_lost_85, if_neg (nI_nlt (by omega) (by omega)), ix216, ck_n (by omega) (by decide), nI_clamp (by omega), eg, X9_chanceBy, bd_mk, (chN_eq C g b).1, ten_sub q, key (10 - chN C g b) (by omega), show (10 : Int32) = nI 10 from rfl, show (0 : Int32) = nI 0 from rfl, show (1 : Int32) = nI 1 from rfl, pk_mul, key (10 * b) (by omega), key 10 (by omega), key 0 (by omega)]
    by_cases w0 : w = 0
    · subst w0
      rw [if_pos rfl]
      rw [show rsf W (chN C g) C 0 b = (10 - chN C g b) * W b from rfl] at this
      exact this
    · rw [if_neg (fun z => w0 (nI_inj (by omega) (by omega) z))]
      by_cases w1 : w = 1
      · subst w1
        rw [if_pos rfl]
        by_cases hbC : b = C
        · rw [if_pos (by rw [hbC])]
          rw [show rsf W (chN C g) C 1 b = 10 * W b by unfold rsf; simp [hbC]] at this
          exact this
        · rw [if_neg (fun z => hbC (nI_inj (by omega) (by omega) z))]
          rw [show rsf W (chN C g) C 1 b = 0 * W b by unfold rsf; simp [hbC]] at this
          exact this
      · rw [if_neg (fun z => w1 (nI_inj (by omega) (by omega) z))]
        rw [show rsf W (chN C g) C w b = 10 * b * W b by unfold rsf; simp [w0, w1]] at this
        exact this
theorem rs_up {C w : Nat} {W ch : Nat → Nat} (hw : w < 3) : smm (rsf W ch C w) (C + 1) = (if w = 0 then 1 else 10) * (if w = 1 then W C else smm (upf W ch w) (C + 1)) := by
  by_cases w0 : w = 0
  · subst w0
    rw [if_pos rfl, if_neg (by decide), Nat.one_mul]
    refine smm_congr _ (fun k hk => ?_)
    unfold rsf upf
    simp only [if_true]
    rw [Nat.mul_comm]
  · rw [if_neg w0]
    by_cases w1 : w = 1
    · subst w1
      rw [if_pos rfl, smm_s, smm_zero C (fun k hk => by unfold rsf; simp [show ¬ k = C by omega])]
      unfold rsf
      simp
    · rw [if_neg w1, ← smm_mul]
      refine smm_congr _ (fun k hk => ?_)
      unfold rsf upf
      simp only [w0, w1, if_false]
      rw [Nat.mul_assoc, Nat.mul_comm k]
