/-! ===== lost, best ===== -/
def SimL (f g : St → Option (Int64 × St)) : Prop := ∀ (nc : Nat) (S : St), Rl nc S.1 → ∃ (v : Int64) (S1 S2 : St) (nc' : Nat), f S = some (v, S1) ∧ g S1 = some (v, S2) ∧ Rl nc' S2.1
theorem Rl.keep22 {nc : Nat} {A A' : Nat → Nat → Int32} (h : Rl nc A) (e : ∀ k, k ≠ 22 → A' k = A k) : Rl nc A' := by
  obtain ⟨h1, h2, h3, h4, h5, h6, h7⟩ := h
  refine ⟨h1.keep ?_ ?_ ?_ ?_ ?_ ?_ ?_ ?_, h2.keep ?_ ?_ ?_ ?_, h3.keep ?_ ?_ ?_ ?_ ?_ ?_, h4.keep (fun k hk => ?_) ?_ (by decide), h5.keep (fun k hk => ?_) ?_ ?_ ?_, h6.keep (fun k hk => ?_) ?_ ?_ ?_, h7.keep ?_ ?_⟩
  all_goals rw [e _ (by omega)]
theorem i32_9 : (9 : Int32).toInt = 9 := by decide
theorem i64_9 : (9 : Int64).toInt = 9 := by decide
theorem rate_cases (x y z : Int32) : ((∀ S, f_X8_areRates x y z S = some (0, S)) ∧ ∀ S, f_X9_areRates x y z S = some (0, S)) ∨ ∃ a b c, a ≤ 9 ∧ b ≤ 9 ∧ 1 ≤ c ∧ c ≤ 9 ∧ x = nI a ∧ y = nI b ∧ z = nI c ∧ (∀ S, f_X8_areRates x y z S = some (1, S)) ∧ ∀ S, f_X9_areRates x y z S = some (1, S) := by
  unfold f_X8_areRates f_X8_areRates_34 f_X8_areRates_35 f_X9_areRates f_X9_areRates_40 f_X9_areRates_41
  rcases toInt_cases x 10 (by decide) with hx | ⟨a, ha, rfl⟩
  · refine Or.inl ⟨fun S => ?_, fun S => ?_⟩
    · rw [X8_w0 (by rw [i32_0, i32_9]; omega), bd_mk, if00, bz_0]
    · rw [X9_i0 (by rw [i64_0, i64_9]; omega), bd_mk, if00, bz_0]
  rcases toInt_cases y 10 (by decide) with hy | ⟨b, hb, rfl⟩
  · refine Or.inl ⟨fun S => ?_, fun S => ?_⟩
    · rw [X8_w1 (by rw [i32_0, i32_9, nI_toInt (by omega)]; omega), bd_mk, if10, X8_w0 (by rw [i32_0, i32_9]; omega), bd_mk, if00, bz_0]
    · rw [X9_i1 (by rw [i64_0, i64_9, nI_toInt (by omega)]; omega), bd_mk, if10, X9_i0 (by rw [i64_0, i64_9]; omega), bd_mk, if00, bz_0]
  by_cases hz : 1 ≤ z.toInt ∧ z.toInt ≤ 9
  · rcases toInt_cases z 10 (by decide) with hz' | ⟨c, hc, rfl⟩
    · omega
    rw [nI_toInt (by omega)] at hz
    refine Or.inr ⟨a, b, c, by omega, by omega, by omega, by omega, rfl, rfl, rfl, fun S => ?_, fun S => ?_⟩
    · rw [X8_w1 (by rw [i32_0, i32_9, nI_toInt (by omega)]; omega), bd_mk, if10, X8_w1 (by rw [i32_0, i32_9, nI_toInt (by omega)]; omega), bd_mk, if10, X8_w1 (by rw [i32_1, i32_9, nI_toInt (by omega)]; omega), bd_mk, if10, bz_1]
    · rw [X9_i1 (by rw [i64_0, i64_9, nI_toInt (by omega)]; omega), bd_mk, if10, X9_i1 (by rw [i64_0, i64_9, nI_toInt (by omega)]; omega), bd_mk, if10, X9_i1 (by rw [i64_1, i64_9, nI_toInt (by omega)]; omega), bd_mk, if10, bz_1]
  · refine Or.inl ⟨fun S => ?_, fun S => ?_⟩
    · rw [X8_w1 (by rw [i32_0, i32_9, nI_toInt (by omega)]; omega), bd_mk, if10, X8_w1 (by rw [i32_0, i32_9, nI_toInt (by omega)]; omega), bd_mk, if10, X8_w0 (by rw [i32_1, i32_9]; exact hz), bd_mk, if00, bz_0]
    · rw [X9_i1 (by rw [i64_0, i64_9, nI_toInt (by omega)]; omega), bd_mk, if10, X9_i1 (by rw [i64_0, i64_9, nI_toInt (by omega)]; omega), bd_mk, if10, X9_i0 (by rw [i64_1, i64_9]; exact hz), bd_mk, if00, bz_0]
theorem up_bound {a b c C w : Nat} {g : Int32} (hC1 : 1 ≤ C) (hC : C ≤ 6) (ha : a ≤ 9) (hb : b ≤ 9) (hc : c ≤ 9) : (if w = 1 then Wt a b c C g C else smm (upf (Wt a b c C g) (chN C g) w) (C + 1)) ≤ (if w = 0 then 1735643790720000000 else 347128758144000000) := by
  by_cases w1 : w = 1
  · subst w1
    rw [if_pos rfl, if_neg (by decide)]
    have := (Wt_le (g := g) hC ha hb hc (Nat.le_refl C)).2 hC1
    omega
  · rw [if_neg w1]
    by_cases w0 : w = 0
    · subst w0
      rw [if_pos rfl]
      have h1 := smm_le (f := upf (Wt a b c C g) (chN C g) 0) (M := 24794911296000000 * 10) (C + 1) (fun k hk => by
        show Wt a b c C g k * (10 - chN C g k) ≤ _
        exact Nat.mul_le_mul (Wt_le hC ha hb hc (by omega)).1 (by omega))
      have h2 : (C + 1) * (24794911296000000 * 10) ≤ 7 * (24794911296000000 * 10) := Nat.mul_le_mul (by omega) (Nat.le_refl _)
      omega
    · rw [if_neg w0]
      have h1 := smm_le (f := upf (Wt a b c C g) (chN C g) w) (M := 8264970432000000 * 6) (C + 1) (fun k hk => by
        unfold upf
        rw [if_neg w0]
        by_cases k0 : k = 0
        · subst k0; omega
        · exact Nat.mul_le_mul ((Wt_le hC ha hb hc (by omega)).2 (by omega)) (by omega))
      have h2 : (C + 1) * (8264970432000000 * 6) ≤ 7 * (8264970432000000 * 6) := Nat.mul_le_mul (by omega) (Nat.le_refl _)
      omega
theorem sim_lost (x x2 x3 x4 x5 x6 : Int32) : SimL (f_X8_lost x x2 x3 x4 x5 x6) (f_X9_lost x x2 x3 x4 x5 x6) := by
  intro nc S hr
  obtain ⟨h1, h2, h3, h4, h5, h6, h7⟩ := id hr
  have hnc := h1.1
  have bad : ∀ (P : f_X8_lost x x2 x3 x4 x5 x6 S = f_X8_lost_41 S) (Q : f_X9_lost x x2 x3 x4 x5 x6 S = f_X9_lost_42 S), ∃ (v : Int64) (S1 S2 : St) (nc' : Nat), f_X8_lost x x2 x3 x4 x5 x6 S = some (v, S1) ∧ f_X9_lost x x2 x3 x4 x5 x6 S1 = some (v, S2) ∧ Rl nc' S2.1 := fun P Q => ⟨-1, S, S, nc, by rw [P]; rfl, by rw [Q]; rfl, hr⟩
  unfold f_X8_lost f_X9_lost at *
  rcases cell_cases h1 x with ⟨e1, e2⟩ | ⟨d, hd, hd4, rfl, e1, e2⟩
  · exact bad (by rw [e1, bd_mk, if00]) (by rw [e2 S rfl, bd_mk, if00])
  rcases rate_cases x2 x3 x4 with ⟨r1, r2⟩ | ⟨a, b, c, ha, hb, hc1, hc, rfl, rfl, rfl, r1, r2⟩
  · exact bad (by rw [e1, bd_mk, if10, r1, bd_mk, if00]) (by rw [e2 S rfl, bd_mk, if10, r2, bd_mk, if00])
  rcases toInt_cases x5 3 (by decide) with hw | ⟨w, hw, rfl⟩
  · have w8 := X8_w0 (x := x5) (l := 0) (m := 2) (by rw [i32_0, i32_2]; omega)
    have w9 := X9_i0 (x := x5) (l := 0) (m := 2) (by rw [i64_0, i64_2]; omega)
    exact bad (by rw [e1, bd_mk, if10, r1, bd_mk, if10, w8, bd_mk, if00]) (by rw [e2 S rfl, bd_mk, if10, r2, bd_mk, if10, w9, bd_mk, if00])
  have w8 := X8_w1 (x := nI w) (l := 0) (m := 2) (by rw [i32_0, i32_2, nI_toInt (by omega)]; omega)
  have w9 := X9_i1 (x := nI w) (l := 0) (m := 2) (by rw [i64_0, i64_2, nI_toInt (by omega)]; omega)
  rcases toInt_cases x6 2 (by decide) with hp | ⟨p, hp, rfl⟩
  · have p8 := X8_w0 (x := x6) (l := 0) (m := 1) (by rw [i32_0, i32_1]; omega)
    have p9 := X9_i0 (x := x6) (l := 0) (m := 1) (by rw [i64_0, i64_1]; omega)
    exact bad (by rw [e1, bd_mk, if10, r1, bd_mk, if10, w8, bd_mk, if10, p8, bd_mk, if00]) (by rw [e2 S rfl, bd_mk, if10, r2, bd_mk, if10, w9, bd_mk, if10, p9, bd_mk, if00])
  have p8 := X8_w1 (x := nI p) (l := 0) (m := 1) (by rw [i32_0, i32_1, nI_toInt (by omega)]; omega)
  have p9 := X9_i1 (x := nI p) (l := 0) (m := 1) (by rw [i64_0, i64_1, nI_toInt (by omega)]; omega)
  clear bad
  obtain ⟨q1, ⟨C, C1, C6, q2⟩, -⟩ := h1.2.2.2.1 d hd
  have q3 : S.1 33 d = nI C := by rw [← q1]; exact q2
  have q4 := now_guard h4 (show d < 4 by omega) hd
  obtain ⟨T, t1, t2, t3, t4, t5, t6⟩ := X3_weigh (g := S.1 43 d) C6 ha hb hc S
  have e33 : T.1 33 d = nI C := by rw [t2 33 (by decide)]; exact q3
  obtain ⟨U, u1, u2, u3, u4⟩ := X9_shares (g := S.1 43 d) C6 ha hb hc hd4 e33
  obtain ⟨s1, s2⟩ := smmW (g := S.1 43 d) C6 ha hb hc1 hc
  have hUb := up_bound (w := w) (g := S.1 43 d) C1 C6 ha hb hc
  obtain ⟨L, hL⟩ : ∃ L, L = (if w = 0 then 10 else 1) * smm (Wt a b c C (S.1 43 d)) (C + 1) := ⟨_, rfl⟩
  obtain ⟨P, hP⟩ : ∃ P, P = (if w = 1 then Wt a b c C (S.1 43 d) C else smm (upf (Wt a b c C (S.1 43 d)) (chN C (S.1 43 d)) w) (C + 1)) := ⟨_, rfl⟩
  have lo := X3_lower C6 t3 t6 hw rfl
  have up := X3_upper (g := S.1 43 d) C6 hw t3 t4 t6 rfl
  rw [← hL] at lo
  rw [← hP] at up hUb
  have hL0 : 0 < L := by
    rw [hL]
    by_cases w0 : w = 0
    · rw [if_pos w0]; omega
    · rw [if_neg w0]; omega
  have hLb : L ≤ 1735643790720000000 := by
    rw [hL]
    by_cases w0 : w = 0
    · rw [if_pos w0]; omega
    · rw [if_neg w0]; omega
  have hPb : P ≤ 1735643790720000000 := by
    by_cases w0 : w = 0
    · rw [if_pos w0] at hUb; exact hUb
    · rw [if_neg w0] at hUb; omega
  have hg : Nat.gcd L P ≤ L := Nat.gcd_le_left _ hL0
  have hg0 : 0 < Nat.gcd L P := Nat.gcd_pos_of_pos_left _ hL0
  have rs := rs_up (C := C) (W := Wt a b c C (S.1 43 d)) (ch := chN C (S.1 43 d)) hw
  rw [← hP] at rs
  have L10 : 10 * smm (Wt a b c C (S.1 43 d)) (C + 1) = (if w = 0 then 1 else 10) * L := by
    rw [hL]
    by_cases w0 : w = 0
    · rw [if_pos w0, if_pos w0, Nat.one_mul]
    · rw [if_neg w0, if_neg w0, Nat.one_mul]
  refine ⟨lI ((if p = 0 then P else L) / Nat.gcd L P), T, U, nc, ?_, ?_, hr.keep22 (fun k hk => by rw [u2, t2 k hk])⟩
  · rw [e1, bd_mk, if10, r1, bd_mk, if10, w8, bd_mk, if10, p8, bd_mk, if10, ck_n hd4 (by decide), ck_n hd4 (by decide), nI_clamp (by omega), q2, t1, bdV_mk, up, bd_mk, lo, bd_mk, X8_gcd (by omega) (by omega), bd_mk, if_pos (lI_pos (by omega) hg0), f_X8_lost_128, f_X8_lost_128, lI_ne (by omega) hg0, lI_ne (by omega) hg0, lI_div (by omega) (by omega), lI_div (by omega) (by omega)]
    by_cases p0 : p = 0
    · subst p0
      rw [if_pos nI_00, if_pos rfl]
    · rw [if_neg (nI_n0 (by omega) p0), if_neg p0]
  · rw [e2 T (by rw [t2 27 (by decide)]), bd_mk, if10, r2, bd_mk, if10, w9, bd_mk, if10, p9, bd_mk, if10, ck_n hd4 (by decide), lt_mk, ix216, ck_n (by omega) (by decide), nI_clamp (by omega), nI_clamp (by omega), e33, t2 28 (by decide), ← q4, u1, bd_mk, lt_mk, show (10 : Int64) = lI 10 from rfl, lI_mul, L10]
    have eU : U.1 28 (216 + d) = S.1 43 d := by rw [u2, t2 28 (by decide), ← q4]
    have k2 : 2 ^ 63 = 9223372036854775808 := by decide
    have bU : smm (rsf (Wt a b c C (S.1 43 d)) (chN C (S.1 43 d)) C w) (C + 1) < 2 ^ 63 := by
      rw [rs, k2]
      by_cases w0 : w = 0
      · rw [if_pos w0, Nat.one_mul]; omega
      · rw [if_neg w0] at hUb ⊢; omega
    have bL : (if w = 0 then 1 else 10) * L < 2 ^ 63 := by
      rw [← L10, k2]; omega
    have bL0 : 0 < (if w = 0 then 1 else 10) * L := by rw [← L10]; omega
    have := lost_loop (c := d) (p := p) (L := (if w = 0 then 1 else 10) * L) C6 hd4 hw hp eU u4 bU bL bL0 (C + 1) 0 FU (by omega) (by show C + 1 < 3000; omega)
    rw [show f_X9_lost_85 FU (nI d) (nI w) (nI p) (nI C) (lI ((if w = 0 then 1 else 10) * L)) 0 0 U = _ from this, rs]
    congr 2
    congr 1
    rw [Nat.gcd_mul_left]
    have q0 : 0 < (if w = 0 then 1 else 10) := by split <;> decide
    by_cases p0 : p = 0
    · rw [if_pos p0, if_pos p0, Nat.mul_div_mul_left _ _ q0]
    · rw [if_neg p0, if_neg p0, Nat.mul_div_mul_left _ _ q0]
