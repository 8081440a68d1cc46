/-- whether a guard is enough -/
def gok (a b c C n gd : Nat) : Bool := !decide (smm (Wt a b c C (nI gd)) (C + 1) < Wt a b c C (nI gd) C * n)
theorem X3_loses {a b c C n gd : Nat} (hC1 : 1 ≤ C) (hC : C ≤ 6) (ha : a ≤ 9) (hb : b ≤ 9) (hc1 : 1 ≤ c) (hc : c ≤ 9) (hn : n ≤ 1000) {S : St} (e : S.1 22 1 = nI C) (e2 : S.1 22 2 = nI gd) (h : ∀ j, j ≤ C → S.2 23 j = lI (Wt a b c C (nI gd) j)) : f_X3_losesMovingAtMostOnceIn (nI n) S = some (bI (gok a b c C n gd), S) := by
  have lo := X3_lower (y := 1) hC e h (show 1 < 3 by decide) rfl
  have up := X3_upper (y := 1) (g := nI gd) hC (show 1 < 3 by decide) e e2 h rfl
  rw [if_neg (by decide), Nat.one_mul] at lo
  rw [if_pos rfl] at up
  have k2 : 2 ^ 63 = 9223372036854775808 := by decide
  have s := (smmW (g := nI gd) hC ha hb hc1 hc).2
  have w : Wt a b c C (nI gd) C * n ≤ 8264970432000000 * 1000 := Nat.mul_le_mul ((Wt_le hC ha hb hc (Nat.le_refl C)).2 hC1) hn
  unfold f_X3_losesMovingAtMostOnceIn f_X3_losesMovingAtMostOnceIn_22 gok
  rw [up, bd_mk, lo, bd_mk, nI_long (by omega), lI_mul, bz_0, bz_1]
  have key := lI_gt (a := Wt a b c C (nI gd) C * n) (b := smm (Wt a b c C (nI gd)) (C + 1)) (by omega) (by omega)
  by_cases hk : smm (Wt a b c C (nI gd)) (C + 1) < Wt a b c C (nI gd) C * n
  · rw [if_pos (key.mpr hk)]; simp [hk, bI]
  · rw [if_neg (fun z => hk (key.mp z))]; simp [hk, bI]
theorem best8 {a b c C n d : Nat} (hC1 : 1 ≤ C) (hC : C ≤ 6) (ha : a ≤ 9) (hb : b ≤ 9) (hc1 : 1 ≤ c) (hc : c ≤ 9) (hn : n ≤ 1000) (hd : d < 4) : ∀ (m gd fuel : Nat) (S : St), gd + m = 10 * C + 1 → m < fuel → S.1 10 d = nI C → ∃ T, f_X8_best_48 fuel (nI d) (nI a) (nI b) (nI c) (nI n) (nI (10 * C)) (nI gd) S = some (wtr (gok a b c C n) m gd, T) ∧ ∀ k, k ≠ 22 → T.1 k = S.1 k := by
  intro m
  induction m with
  | zero =>
    intro gd fuel S h1 h2 h3
    obtain ⟨f, rfl⟩ : ∃ g, fuel = g + 1 := ⟨fuel - 1, by omega⟩
    refine ⟨S, ?_, fun _ _ => rfl⟩
    rw [f_X8_best_48, if_pos (nI_lt (by omega) (by omega))]
    rfl
  | succ m ih =>
    intro gd fuel S h1 h2 h3
    obtain ⟨f, rfl⟩ : ∃ g, fuel = g + 1 := ⟨fuel - 1, by omega⟩
    obtain ⟨T, t1, t2, t3, t4, t5, t6⟩ := X3_weigh (g := nI gd) hC ha hb hc S
    have ls := X3_loses hC1 hC ha hb hc1 hc hn t3 t4 t6
    cases hk : gok a b c C n gd
    · obtain ⟨U, u1, u2⟩ := ih (gd + 1) f T (by omega) (by omega) (by rw [t2 10 (by decide)]; exact h3)
      refine ⟨U, ?_, fun k hk => by rw [u2 k hk, t2 k hk]⟩
      rw [f_X8_best_48, if_neg (nI_nlt (by omega) (by omega)), ck_n hd (by decide), nI_clamp (by omega), h3, t1, bdV_mk, ls, bd_mk, hk, show bI false = 0 from rfl, if00, nI_1, u1]
      rw [wtr, if_neg (by rw [hk]; decide)]
    · refine ⟨T, ?_, t2⟩
      rw [f_X8_best_48, if_neg (nI_nlt (by omega) (by omega)), ck_n hd (by decide), nI_clamp (by omega), h3, t1, bdV_mk, ls, bd_mk, hk, show bI true = 1 from rfl, if10]
      rw [wtr, if_pos hk]
theorem best9 {a b c C n d : Nat} (hC1 : 1 ≤ C) (hC : C ≤ 6) (ha : a ≤ 9) (hb : b ≤ 9) (hc1 : 1 ≤ c) (hc : c ≤ 9) (hn : n ≤ 1000) (hd : d < 4) : ∀ (m gd fuel : Nat) (S : St), gd + m = 10 * C + 1 → m < fuel → S.1 33 d = nI C → ∃ T, f_X9_best_36 fuel (nI d) (nI a) (nI b) (nI c) (nI n) (nI gd) S = some (wtr (gok a b c C n) m gd, T) ∧ T.1 = S.1 := by
  intro m
  induction m with
  | zero =>
    intro gd fuel S h1 h2 h3
    obtain ⟨f, rfl⟩ : ∃ g, fuel = g + 1 := ⟨fuel - 1, by omega⟩
    refine ⟨S, ?_, rfl⟩
    rw [f_X9_best_36, ck_n hd (by decide), nI_clamp (by omega), h3, show (10 : Int32) = nI 10 from rfl, pk_mul, if_pos (nI_lt (by omega) (by omega))]
    rfl
  | succ m ih =>
    intro gd fuel S h1 h2 h3
    obtain ⟨f, rfl⟩ : ∃ g, fuel = g + 1 := ⟨fuel - 1, by omega⟩
    obtain ⟨T, t1, t2, t3, t4⟩ := X9_shares (g := nI gd) hC ha hb hc hd h3
    have k2 : 2 ^ 63 = 9223372036854775808 := by decide
    have s := (smmW (g := nI gd) hC ha hb hc1 hc).2
    have w : n * Wt a b c C (nI gd) C ≤ 1000 * 8264970432000000 := Nat.mul_le_mul hn ((Wt_le hC ha hb hc (Nat.le_refl C)).2 hC1)
    have key := lI_gt (a := n * Wt a b c C (nI gd) C) (b := smm (Wt a b c C (nI gd)) (C + 1)) (by omega) (by omega)
    have step : f_X9_best_36 (f + 1) (nI d) (nI a) (nI b) (nI c) (nI n) (nI gd) S = if 0 < lg_cmp (lI (n * Wt a b c C (nI gd) C)) (lI (smm (Wt a b c C (nI gd)) (C + 1))) then f_X9_best_36 f (nI d) (nI a) (nI b) (nI c) (nI n) (nI (gd + 1)) T else some (nI gd, T) := by
      rw [f_X9_best_36, ck_n hd (by decide), nI_clamp (by omega), h3, show (10 : Int32) = nI 10 from rfl, pk_mul, if_neg (nI_nlt (by omega) (by omega)), t1, bd_mk, ck_n hd (by decide), t2, h3, ck_n (by omega) (by decide), lt_mk, nI_clamp (by omega), t4 C (by omega), nI_long (by omega), lI_mul, nI_1]
    by_cases hk : smm (Wt a b c C (nI gd)) (C + 1) < Wt a b c C (nI gd) C * n
    · obtain ⟨U, u1, u2⟩ := ih (gd + 1) f T (by omega) (by omega) (by rw [t2]; exact h3)
      refine ⟨U, ?_, by rw [u2, t2]⟩
      rw [step, if_pos (key.mpr (by rw [Nat.mul_comm]; exact hk)), u1, wtr, if_neg (by unfold gok; simp [hk])]
    · refine ⟨T, ?_, t2⟩
      rw [step, if_neg (fun z => hk (by rw [Nat.mul_comm]; exact key.mp z)), wtr, if_pos (by unfold gok; simp [hk])]
theorem sim_best (x x2 x3 x4 x5 : Int32) : Sim (f_X8_best x x2 x3 x4 x5) (f_X9_best x x2 x3 x4 x5) := by
  intro nc S hr
  obtain ⟨h1, h2, h3, h4, h5, h6, h7⟩ := id hr
  have hnc := h1.1
  have bad : ∀ (P : f_X8_best x x2 x3 x4 x5 S = f_X8_best_33 S) (Q : f_X9_best x x2 x3 x4 x5 S = f_X9_best_31 S), ∃ (v : Int32) (S1 S2 : St) (nc' : Nat), f_X8_best x x2 x3 x4 x5 S = some (v, S1) ∧ f_X9_best x x2 x3 x4 x5 S1 = some (v, S2) ∧ Rl nc' S2.1 := fun P Q => ⟨-1, S, S, nc, by rw [P]; rfl, by rw [Q]; rfl, hr⟩
  unfold f_X8_best f_X9_best at *
  rcases cell_cases h1 x with ⟨e1, e2⟩ | ⟨d, hd, hd4, rfl, e1, e2⟩
  · exact bad (by rw [e1, bd_mk, if00]) (by rw [e2 S rfl, bd_mk, if00])
  rcases rate_cases x2 x3 x4 with ⟨r1, r2⟩ | ⟨a, b, c, ha, hb, hc1, hc, rfl, rfl, rfl, r1, r2⟩
  · exact bad (by rw [e1, bd_mk, if10, r1, bd_mk, if00]) (by rw [e2 S rfl, bd_mk, if10, r2, bd_mk, if00])
  have i1000 : (1000 : Int32).toInt = 1000 := by decide
  have l1000 : (1000 : Int64).toInt = 1000 := by decide
  by_cases hw : 1 ≤ x5.toInt ∧ x5.toInt ≤ 1000
  · have w8 := X8_w1 (x := x5) (l := 1) (m := 1000) (by rw [i32_1, i1000]; exact hw)
    have w9 := X9_i1 (x := x5) (l := 1) (m := 1000) (by rw [i64_1, l1000]; exact hw)
    rcases toInt_cases x5 1001 (by decide) with hw' | ⟨n, hn, rfl⟩
    · omega
    clear bad
    obtain ⟨q1, ⟨C, C1, C6, q2⟩, -⟩ := h1.2.2.2.1 d hd
    have q3 : S.1 33 d = nI C := by rw [← q1]; exact q2
    obtain ⟨T, t1, t2⟩ := best8 (n := n) C1 C6 ha hb hc1 hc (by omega) hd4 (10 * C + 1) 0 FU S (by omega) (by show 10 * C + 1 < 3000; omega) q2
    obtain ⟨U, u1, u2⟩ := best9 (n := n) C1 C6 ha hb hc1 hc (by omega) hd4 (10 * C + 1) 0 FU T (by omega) (by show 10 * C + 1 < 3000; omega) (by rw [t2 33 (by decide)]; exact q3)
    refine ⟨wtr (gok a b c C n) (10 * C + 1) 0, T, U, nc, ?_, ?_, hr.keep22 (fun k hk => by rw [u2, t2 k hk])⟩
    · rw [e1, bd_mk, if10, r1, bd_mk, if10, w8, bd_mk, if10]
      unfold f_X6_mostGuard_9
      rw [ck_n hd4 (by decide), nI_clamp (by omega), q2, show (10 : Int32) = nI 10 from rfl, pk_mul, bd_mk]
      exact t1
    · rw [e2 T (by rw [t2 27 (by decide)]), bd_mk, if10, r2, bd_mk, if10, w9, bd_mk, if10]
      exact u1
  · have w8 := X8_w0 (x := x5) (l := 1) (m := 1000) (by rw [i32_1, i1000]; exact hw)
    have w9 := X9_i0 (x := x5) (l := 1) (m := 1000) (by rw [i64_1, l1000]; exact hw)
    exact bad (by rw [e1, bd_mk, if10, r1, bd_mk, if10, w8, bd_mk, if00]) (by rw [e2 S rfl, bd_mk, if10, r2, bd_mk, if10, w9, bd_mk, if00])
