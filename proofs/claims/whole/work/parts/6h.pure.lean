/-! ===== tells: numbers, stops ===== -/
def Lag (t : Nat → Int32) (len p : Nat) (A B : St) : Prop := A.1 1 4 = nI p ∧ p ≤ len ∧ ∃ B0 B1, B0.1 27 12 = nI p ∧ TXr t len B0 ∧ f_X9_take B0 = some B1 ∧ ∀ j, 12 ≤ j → j < 16 → B.1 27 j = B1.1 27 j
theorem Lag.keep {t : Nat → Int32} {len p : Nat} {A B A' B' : St} (h : Lag t len p A B) (e : A'.1 1 4 = A.1 1 4) (e' : ∀ j, 12 ≤ j → j < 16 → B'.1 27 j = B.1 27 j) : Lag t len p A' B' := by
  obtain ⟨h1, h2, B0, B1, h3, h4, h5, h6⟩ := h
  exact ⟨by rw [e]; exact h1, h2, B0, B1, h3, h4, h5, fun j a b => by rw [e' j a b]; exact h6 j a b⟩
theorem Tok.congr {len p : Nat} {A B B' : St} (h : Tok len p A B) (e : ∀ j, 12 ≤ j → j < 16 → B'.1 27 j = B.1 27 j) : Tok len p A B' := by
  unfold Tok at h ⊢
  rw [e 12 (by omega) (by omega), e 13 (by omega) (by omega), e 14 (by omega) (by omega), e 15 (by omega) (by omega)]
  exact h
theorem Lag.next {t : Nat → Int32} {len p : Nat} {A B : St} (hl : len ≤ 120) (h : Lag t len p A B) (hx : TXc t len A) : ∃ A', f_X4_nextToken A = some A' ∧ NA A A' ∧ Tok len p A' B := by
  obtain ⟨h1, h2, B0, B1, h3, h4, h5, h6⟩ := h
  obtain ⟨A', B', k1, k2, k3, k4, k5⟩ := tok hl h2 h1 h3 hx h4
  rw [h5] at k2
  obtain rfl := Option.some.inj k2
  exact ⟨A', k1, k3, k5.congr h6⟩
/-- the reference takes a token ahead of the class -/
theorem ahead {t : Nat → Int32} {len p : Nat} {A B : St} (hl : len ≤ 120) (hp : p ≤ len) (a4 : A.1 1 4 = nI p) (b12 : B.1 27 12 = nI p) (hx : TXc t len A) (hy : TXr t len B) : ∃ B', f_X9_take B = some B' ∧ NB B B' ∧ Lag t len p A B' := by
  obtain ⟨A', B', k1, k2, k3, k4, k5⟩ := tok hl hp a4 b12 hx hy
  exact ⟨B', k2, k4, a4, hp, B, B', b12, hy, k2, fun _ _ _ => rfl⟩
theorem num_ok {t : Nat → Int32} {len p lo hi : Nat} {y z : Int32} {A B : St} (hl : len ≤ 120) (hlo : lo < 2 ^ 31) (hhi : hi < 2 ^ 31) (ey : y = nI lo) (ez : z = nI hi) (h : Lag t len p A B) (hx : TXc t len A) (hy : TXr t len B) :
    (∃ A' q, f_X4_readNumber y z A = some (0, A') ∧ NA A A' ∧ q ≤ 120 ∧ A'.1 1 5 = nI q ∧ B.1 27 13 = nI q ∧ f_X9_keeps y z B = some (0, upI B 27 23 (B.1 27 15))) ∨
    (∃ A' B' n p', lo ≤ n ∧ n ≤ hi ∧ p < p' ∧ f_X4_readNumber y z A = some (1, A') ∧ A'.1 1 7 = nI n ∧ NA A A' ∧ f_X9_keeps y z B = some (1, B') ∧ B'.1 27 23 = nI n ∧ (∀ k, k ≠ 27 → B'.1 k = B.1 k) ∧ (∀ j, j < 12 ∨ (15 < j ∧ j ≠ 23) → B'.1 27 j = B.1 27 j) ∧ Lag t len p' A' B') := by
  subst ey ez
  obtain ⟨A', k1, k2, q, p', k3, k4, k5, k6, k7, k8, k9⟩ := h.next hl hx
  have r1 : f_X4_readNumber (nI lo) (nI hi) A = if A'.1 1 6 = 2 then (bd (f_X8_within (A'.1 1 7) (nI lo) (nI hi) A') fun v3 S2 => if v3 = 0 then some (0, S2) else some (1, S2)) else some (0, A') := by
    unfold f_X4_readNumber f_X4_readNumber_28 f_X4_readNumber_29
    rw [k1, bdV_mk, bz_0]
    simp only [bz_0, bz_1]
  have e14 : (upI B 27 23 (B.1 27 15)).1 27 14 = B.1 27 14 := up_j (by decide)
  have e15 : (upI B 27 23 (B.1 27 15)).1 27 15 = B.1 27 15 := up_j (by decide)
  have bad : f_X4_readNumber (nI lo) (nI hi) A = some (0, A') → (¬ B.1 27 14 = -2 ∨ ∃ n : Nat, n ≤ 99 ∧ B.1 27 15 = nI n ∧ ¬ (lo ≤ n ∧ n ≤ hi)) → (∃ A' q, f_X4_readNumber (nI lo) (nI hi) A = some (0, A') ∧ NA A A' ∧ q ≤ 120 ∧ A'.1 1 5 = nI q ∧ B.1 27 13 = nI q ∧ f_X9_keeps (nI lo) (nI hi) B = some (0, upI B 27 23 (B.1 27 15))) := fun z1 z2 => by
    refine ⟨A', q, z1, k2, k3, k4, k5, ?_⟩
    unfold f_X9_keeps f_X9_readsNumber f_X9_readsNumber_28 f_X9_readsNumber_29 f_X9_readsNumber_38
    rw [lt_mk, e14, e15]
    by_cases h2 : B.1 27 14 = -2
    · obtain ⟨n, n1, n2, n3⟩ := z2.resolve_left (fun z => z h2)
      rw [if_pos h2, n2, nI_long hlo, nI_long hhi, X9_i0 (by rw [lI_toInt (by omega), lI_toInt (by omega), nI_toInt (by omega)]; omega), bd_mk, if00, if00, bz_0, bd_mk, bz_0]
    · rw [if_neg h2, if00, bz_0, bd_mk, bz_0]
  rcases k9 with ⟨c1, c2⟩ | ⟨cp, c⟩
  · exact Or.inl (bad (by rw [r1, c1, if_neg (by decide)]) (Or.inl (by rw [c2]; decide)))
  rcases c with ⟨c1, -, c3⟩ | ⟨c1, c2, n, n1, n2, n3⟩ | ⟨c1, c2⟩ | ⟨c1, c2⟩
  · refine Or.inl (bad (by rw [r1, c1, if_neg (by decide)]) (Or.inl ?_))
    rcases c3 with c3 | ⟨s, s1, s2⟩
    · rw [c3]; decide
    · rw [s2]
      match s, s1 with
      | 0, _ => decide
      | 1, _ => decide
      | 2, _ => decide
      | 3, _ => decide
      | 4, _ => decide
  · by_cases hn : lo ≤ n ∧ n ≤ hi
    · obtain ⟨B2, m1, m2, m3⟩ := ahead (A := A') (B := upI B 27 23 (B.1 27 15)) hl k8 k6 (by rw [up_j (by decide)]; exact k7) (hx.na k2) ⟨by rw [up_j (by decide)]; exact hy.1, fun i hi => by rw [up_k (by decide)]; exact hy.2 i hi⟩
      refine Or.inr ⟨A', B2, n, p', hn.1, hn.2, cp, ?_, n2, k2, ?_, ?_, fun k hk => by rw [m2.1 k hk, up_r hk], fun j hj => by rw [m2.2 j (by omega), up_j (by omega)], m3⟩
      · rw [r1, c1, if_pos rfl, n2, X8_w1 (by rw [nI_toInt hlo, nI_toInt hhi, nI_toInt (by omega)]; omega), bd_mk, if10]
      · unfold f_X9_keeps f_X9_readsNumber f_X9_readsNumber_29 f_X9_readsNumber_38
        rw [lt_mk, e14, e15, if_pos c2, n3, nI_long hlo, nI_long hhi, X9_i1 (by rw [lI_toInt (by omega), lI_toInt (by omega), nI_toInt (by omega)]; omega), bd_mk, if10, if10, ← n3, m1, bdV_mk, bz_1, bd_mk, bz_1]
      · rw [m2.2 23 (by omega), up_s]; exact n3
    · refine Or.inl (bad ?_ (Or.inr ⟨n, n1, n3, hn⟩))
      rw [r1, c1, if_pos rfl, n2, X8_w0 (by rw [nI_toInt hlo, nI_toInt hhi, nI_toInt (by omega)]; omega), bd_mk, if00]
  · exact Or.inl (bad (by rw [r1, c1, if_neg (by decide)]) (Or.inl (by rw [c2]; decide)))
  · exact Or.inl (bad (by rw [r1, c1, if_neg (by decide)]) (Or.inl (by rw [c2]; decide)))
theorem stop_ok {t : Nat → Int32} {len p : Nat} {A B : St} (hl : len ≤ 120) (h : Lag t len p A B) (hx : TXc t len A) :
    (∃ A' p', B.1 27 14 = 59 ∧ f_X4_readStop A = some (1, A') ∧ NA A A' ∧ p < p' ∧ p' ≤ len ∧ A'.1 1 4 = nI p' ∧ B.1 27 12 = nI p') ∨ (∃ A' q, ¬ B.1 27 14 = 59 ∧ f_X4_readStop A = some (0, A') ∧ NA A A' ∧ q ≤ 120 ∧ A'.1 1 5 = nI q ∧ B.1 27 13 = nI q) := by
  obtain ⟨A', k1, k2, q, p', k3, k4, k5, k6, k7, k8, k9⟩ := h.next hl hx
  have r1 : f_X4_readStop A = if A'.1 1 6 = 3 then some (1, A') else some (0, A') := by
    unfold f_X4_readStop f_X4_readStop_17
    rw [k1, bdV_mk, bz_0, bz_1]
  have bad : ¬ A'.1 1 6 = 3 → ¬ B.1 27 14 = 59 → (∃ A' q, ¬ B.1 27 14 = 59 ∧ f_X4_readStop A = some (0, A') ∧ NA A A' ∧ q ≤ 120 ∧ A'.1 1 5 = nI q ∧ B.1 27 13 = nI q) := fun z1 z2 => ⟨A', q, z2, by rw [r1, if_neg z1], k2, k3, k4, k5⟩
  rcases k9 with ⟨c1, c2⟩ | ⟨cp, c⟩
  · exact Or.inr (bad (by rw [c1]; decide) (by rw [c2]; decide))
  rcases c with ⟨c1, -, c3⟩ | ⟨c1, c2, -⟩ | ⟨c1, c2⟩ | ⟨c1, c2⟩
  · refine Or.inr (bad (by rw [c1]; decide) ?_)
    rcases c3 with c3 | ⟨s, s1, s2⟩
    · rw [c3]; decide
    · rw [s2]
      match s, s1 with
      | 0, _ => decide
      | 1, _ => decide
      | 2, _ => decide
      | 3, _ => decide
      | 4, _ => decide
  · exact Or.inr (bad (by rw [c1]; decide) (by rw [c2]; decide))
  · exact Or.inl ⟨A', p', c2, by rw [r1, if_pos c1], k2, cp, k8, k6, k7⟩
  · exact Or.inr (bad (by rw [c1]; decide) (by rw [c2]; decide))
/-! ===== what an item leaves alone ===== -/
def IA (A A' : St) : Prop := (∀ k, k = 2 ∨ 8 < k → A'.1 k = A.1 k) ∧ ∀ j, j < 4 → A'.1 1 j = A.1 1 j
def IB (B B' : St) : Prop := (∀ k, k ≠ 27 → k < 36 ∨ 39 < k → B'.1 k = B.1 k) ∧ ∀ j, j < 12 ∨ j = 16 ∨ 23 < j → B'.1 27 j = B.1 27 j
theorem IA.refl (A : St) : IA A A := ⟨fun _ _ => rfl, fun _ _ => rfl⟩
theorem IB.refl (A : St) : IB A A := ⟨fun _ _ _ => rfl, fun _ _ => rfl⟩
theorem IA.trans {A B C : St} (h : IA A B) (h' : IA B C) : IA A C := ⟨fun k hk => (h'.1 k hk).trans (h.1 k hk), fun j hj => (h'.2 j hj).trans (h.2 j hj)⟩
theorem IB.trans {A B C : St} (h : IB A B) (h' : IB B C) : IB A C := ⟨fun k hk hj => (h'.1 k hk hj).trans (h.1 k hk hj), fun j hj => (h'.2 j hj).trans (h.2 j hj)⟩
theorem NA.ia {A A' : St} (h : NA A A') : IA A A' := ⟨fun k hk => h.1 k (by omega), fun j hj => h.2 j (by omega)⟩
theorem NB.ib {B B' : St} (h : NB B B') : IB B B' := ⟨fun k hk _ => h.1 k hk, fun j hj => h.2 j (by omega)⟩
theorem IA.up (A : St) {k : Nat} (hk : 3 ≤ k ∧ k ≤ 8) (j : Nat) (v : Int32) : IA A (upI A k j v) := ⟨fun k' h => up_r (by omega), fun j' h => up_k (by omega)⟩
theorem IB.up (B : St) {k : Nat} (hk : 36 ≤ k ∧ k ≤ 39) (j : Nat) (v : Int32) : IB B (upI B k j v) := ⟨fun k' h h' => up_r (by omega), fun j' h => up_k (by omega)⟩
theorem IB.w (B : St) {j : Nat} (hj : 12 ≤ j ∧ j ≤ 23 ∧ j ≠ 16) (v : Int32) : IB B (upI B 27 j v) := ⟨fun k' h h' => up_r h, fun j' h => up_j (by omega)⟩
theorem TXc.ia {t : Nat → Int32} {len : Nat} {A A' : St} (h : TXc t len A) (n : IA A A') : TXc t len A' := ⟨by rw [n.2 1 (by omega)]; exact h.1, fun i hi => by rw [n.1 2 (by omega)]; exact h.2 i hi⟩
theorem TXr.ib {t : Nat → Int32} {len : Nat} {B B' : St} (h : TXr t len B) (n : IB B B') : TXr t len B' := ⟨by rw [n.2 7 (by omega)]; exact h.1, fun i hi => by rw [n.1 32 (by omega) (by omega)]; exact h.2 i hi⟩
