/-! ===== tells: a cell, a setting ===== -/
def DRc (k : Nat) (A B : St) : Prop := k ≤ 4 ∧ A.1 4 0 = nI k ∧ B.1 27 17 = nI k ∧ ∀ c, c < k → A.1 5 c = B.1 36 c ∧ (∃ ch, 1 ≤ ch ∧ ch ≤ 6 ∧ A.1 5 c = nI ch) ∧ A.1 6 c = B.1 37 c ∧ A.1 7 c = B.1 38 c ∧ ∃ pl, pl ≤ 4 ∧ A.1 7 c = nI pl
def sLo (s : Nat) : Nat := match s with
  | 1 => 1
  | 4 => 1
  | _ => 0
def sHi (s : Nat) : Nat := match s with
  | 0 => 20
  | 1 => 5
  | 2 => 3
  | 3 => 60
  | _ => 9
def DRs (A B : St) : Prop := ∀ s, s < 5 → ∃ v, sLo s ≤ v ∧ v ≤ sHi s ∧ A.1 8 s = nI v ∧ B.1 39 (s + 1) = nI v
def DRb (m : Nat) (A B : St) : Prop := m < 64 ∧ B.1 27 18 = nI m ∧ Nat.testBit m 0 = false ∧ ∀ s, s < 5 → A.1 3 s = if Nat.testBit m (s + 1) then 1 else 0
def DR (A B : St) : Prop := ∃ k m, DRc k A B ∧ DRs A B ∧ DRb m A B
def Out (len p : Nat) (A B : St) (rc rr : Option (Int32 × St)) (Good : St → St → Prop) : Prop :=
  (∃ A' B' q, rc = some (0, A') ∧ q ≤ 120 ∧ A'.1 1 5 = nI q ∧ B'.1 27 13 = nI q ∧ (rr = some (0, B') ∨ (rr = some (1, B') ∧ ¬ B'.1 27 14 = 59)) ∧ IA A A' ∧ IB B B') ∨
  (∃ A' B' p', rc = some (1, A') ∧ rr = some (1, B') ∧ B'.1 27 14 = 59 ∧ p < p' ∧ p' ≤ len ∧ A'.1 1 4 = nI p' ∧ B'.1 27 12 = nI p' ∧ IA A A' ∧ IB B B' ∧ Good A' B')
theorem ck44 {k : Nat} (h : k < 4) {ρ : Type} {X : Option ρ} : ck (nI k) 4 X = X := ck_n h (by decide)
theorem cell_ok {t : Nat → Int32} {len p k q : Nat} {A B : St} (hl : len ≤ 120) (hp : p ≤ len) (hq : q ≤ 120) (a4 : A.1 1 4 = nI p) (b12 : B.1 27 12 = nI p) (a5 : A.1 1 5 = nI q) (b13 : B.1 27 13 = nI q) (hx : TXc t len A) (hy : TXr t len B) (hd : DRc k A B) :
    Out len p A B (f_X4_readCell A) (f_X9_readsCell B) (fun A' B' => DRc (k + 1) A' B' ∧ A'.1 3 = A.1 3 ∧ A'.1 8 = A.1 8 ∧ B'.1 39 = B.1 39 ∧ B'.1 27 18 = B.1 27 18) := by
  obtain ⟨k4, d1, d2, d3⟩ := hd
  unfold f_X4_readCell f_X4_readCell_23 f_X9_readsCell
  rw [lt_mk, d1, d2]
  by_cases hk : k = 4
  · subst hk
    rw [if_pos (show (4 : Int32) ≤ nI 4 from nI_le (a := 4) (by omega) (by omega)), if_pos (show nI 4 = (4 : Int32) from rfl)]
    exact Or.inl ⟨A, B, q, rfl, hq, a5, b13, Or.inl rfl, IA.refl A, IB.refl B⟩
  have hk4 : k < 4 := by omega
  rw [if_neg (show ¬ (4 : Int32) ≤ nI k from nI_ge (b := 4) hk4 (by decide)), if_neg (show ¬ nI k = (4 : Int32) from fun z => hk (nI_inj (b := 4) (by omega) (by decide) z))]
  obtain ⟨B1, t1, t2, t3⟩ := ahead hl hp a4 b12 hx hy
  rw [t1, bdV_mk]
  have hy1 := hy.nb t2
  rcases num_ok (y := 1) (z := 6) (lo := 1) (hi := 6) hl (by decide) (by decide) rfl rfl t3 hx hy1 with ⟨A2, q2, n1, n2, n3, n4, n5, n6⟩ | ⟨A2, B2, v1, p2, v11, v12, n1, n2, n3, n4, n5, n6, n7, n8, n9⟩
  · rw [n1, bd_mk, if00, n6, bd_mk, if00]
    exact Or.inl ⟨A2, _, q2, rfl, n3, n4, by rw [up_j (by decide)]; exact n5, Or.inl rfl, n2.ia, t2.ib.trans (IB.w B1 (by omega) _)⟩
  rw [n2, bd_mk, if10, ck44 hk4, lt_mk, nI_clamp (by omega), n3, n5, bd_mk, if10]
  have e17 : B2.1 27 17 = nI k := by rw [n8 17 (by omega), t2.2 17 (by omega)]; exact d2
  rw [e17, ck44 hk4, lt_mk, nI_clamp (by omega), n6]
  obtain ⟨A3, hA3⟩ : ∃ A3, A3 = upI A2 5 k (nI v1) := ⟨_, rfl⟩
  obtain ⟨B3, hB3⟩ : ∃ B3, B3 = upI B2 36 k (nI v1) := ⟨_, rfl⟩
  have ib2 : IB B1 B2 := ⟨fun k' a _ => n7 k' a, fun j a => n8 j (by omega)⟩
  have ia3 : IA A A3 := by rw [hA3]; exact n4.ia.trans (IA.up A2 (by omega) _ _)
  have ib3 : IB B B3 := by rw [hB3]; exact (t2.ib.trans ib2).trans (IB.up B2 (by omega) _ _)
  rw [← hA3, ← hB3]
  have lag3 : Lag t len p2 A3 B3 := n9.keep (by rw [hA3, up_k (by decide)]) (fun j a b => by rw [hB3, up_k (by decide)])
  have e17 : B3.1 27 17 = nI k := by rw [hB3, up_k (by decide)]; exact e17
  unfold f_X6_mostGuard_4
  rw [ck44 hk4, nI_clamp (by omega), show A3.1 5 k = nI v1 by rw [hA3, up_s], show (10 : Int32) = nI 10 from rfl, pk_mul, bd_mk, e17, ck44 hk4, nI_clamp (by omega), show B3.1 36 k = nI v1 by rw [hB3, up_s], pk_mul]
  rcases num_ok (y := 0) (z := nI (10 * v1)) (lo := 0) (hi := 10 * v1) hl (by decide) (by omega) rfl rfl lag3 (hx.ia ia3) (hy.ib ib3) with ⟨A4, q2, m1, m2, m3, m4, m5, m6⟩ | ⟨A4, B4, v2, p3, v21, v22, m1, m2, m3, m4, m5, m6, m7, m8, m9⟩
  · rw [m1, bd_mk, if00, m6, bd_mk, if00]
    exact Or.inl ⟨A4, _, q2, rfl, m3, m4, by rw [up_j (by decide)]; exact m5, Or.inl rfl, ia3.trans m2.ia, ib3.trans (IB.w B3 (by omega) _)⟩
  rw [m2, bd_mk, if10, ck44 hk4, lt_mk, m3, m5, bd_mk, if10]
  have e17 : B4.1 27 17 = nI k := by rw [m8 17 (by omega)]; exact e17
  rw [e17, ck44 hk4, lt_mk, nI_clamp (by omega), m6]
  obtain ⟨A5, hA5⟩ : ∃ A5, A5 = upI A4 6 k (nI v2) := ⟨_, rfl⟩
  obtain ⟨B5, hB5⟩ : ∃ B5, B5 = upI B4 37 k (nI v2) := ⟨_, rfl⟩
  have ib4 : IB B3 B4 := ⟨fun k' a _ => m7 k' a, fun j a => m8 j (by omega)⟩
  have ia5 : IA A A5 := by rw [hA5]; exact (ia3.trans m4.ia).trans (IA.up A4 (by omega) _ _)
  have ib5 : IB B B5 := by rw [hB5]; exact (ib3.trans ib4).trans (IB.up B4 (by omega) _ _)
  rw [← hA5, ← hB5]
  have lag5 : Lag t len p3 A5 B5 := m9.keep (by rw [hA5, up_k (by decide)]) (fun j a b => by rw [hB5, up_k (by decide)])
  have e17 : B5.1 27 17 = nI k := by rw [hB5, up_k (by decide)]; exact e17
  rcases num_ok (y := 0) (z := 4) (lo := 0) (hi := 4) hl (by decide) (by decide) rfl rfl lag5 (hx.ia ia5) (hy.ib ib5) with ⟨A6, q2, o1, o2, o3, o4, o5, o6⟩ | ⟨A6, B6, v3, p4, v31, v32, o1, o2, o3, o4, o5, o6, o7, o8, o9⟩
  · rw [o1, bd_mk, if00, o6, bd_mk, if00]
    exact Or.inl ⟨A6, _, q2, rfl, o3, o4, by rw [up_j (by decide)]; exact o5, Or.inl rfl, ia5.trans o2.ia, ib5.trans (IB.w B5 (by omega) _)⟩
  rw [o2, bd_mk, if10, ck44 hk4, lt_mk, o3, o5, bd_mk, if10]
  have e17 : B6.1 27 17 = nI k := by rw [o8 17 (by omega)]; exact e17
  rw [e17, ck44 hk4, lt_mk, lt_mk, lt_mk, nI_clamp (by omega), o6, up_k (by decide), e17, nI_1]
  obtain ⟨A7, hA7⟩ : ∃ A7, A7 = upI (upI A6 7 k (nI v3)) 4 0 (nI (k + 1)) := ⟨_, rfl⟩
  obtain ⟨B7, hB7⟩ : ∃ B7, B7 = upI (upI B6 38 k (nI v3)) 27 17 (nI (k + 1)) := ⟨_, rfl⟩
  have ib6 : IB B5 B6 := ⟨fun k' a _ => o7 k' a, fun j a => o8 j (by omega)⟩
  have ia7 : IA A A7 := by rw [hA7]; exact ((ia5.trans o4.ia).trans (IA.up A6 (by omega) _ _)).trans (IA.up _ (by omega) _ _)
  have ib7 : IB B B7 := by rw [hB7]; exact ((ib5.trans ib6).trans (IB.up B6 (by omega) _ _)).trans (IB.w _ (by omega) _)
  rw [← hA7, ← hB7]
  have lag7 : Lag t len p4 A7 B7 := o9.keep (by rw [hA7, up_k (by decide), up_k (by decide)]) (fun j a b => by rw [hB7, up_j (by omega), up_k (by decide)])
  rcases stop_ok hl lag7 (hx.ia ia7) with ⟨A8, p5, s1, s2, s3, s4, s5, s6, s7⟩ | ⟨A8, q2, s1, s2, s3, s4, s5, s6⟩
  · rw [s2, bd_mk, bz_1]
    refine Or.inr ⟨A8, B7, p5, rfl, rfl, s1, by omega, s5, s6, s7, ia7.trans s3.ia, ib7, ⟨by omega, ?_, ?_, fun c hc => ?_⟩, ?_, ?_, ?_, ?_⟩
    · rw [s3.1 4 (by decide), hA7, up_s]
    · rw [hB7, up_s]
    · have w5 : ∀ c, A8.1 5 c = if c = k then nI v1 else A.1 5 c := fun c => by
        rw [s3.1 5 (by decide), hA7, up_r (by decide), up_r (by decide), o4.1 5 (by decide), hA5, up_r (by decide), m4.1 5 (by decide), hA3, up_e, n4.1 5 (by decide)]
        by_cases z : c = k
        · rw [if_pos ⟨rfl, z⟩, if_pos z]
        · rw [if_neg (fun y => z y.2), if_neg z]
      have w6 : ∀ c, A8.1 6 c = if c = k then nI v2 else A.1 6 c := fun c => by
        rw [s3.1 6 (by decide), hA7, up_r (by decide), up_r (by decide), o4.1 6 (by decide), hA5, up_e, m4.1 6 (by decide), hA3, up_r (by decide), n4.1 6 (by decide)]
        by_cases z : c = k
        · rw [if_pos ⟨rfl, z⟩, if_pos z]
        · rw [if_neg (fun y => z y.2), if_neg z]
      have w7 : ∀ c, A8.1 7 c = if c = k then nI v3 else A.1 7 c := fun c => by
        rw [s3.1 7 (by decide), hA7, up_r (by decide), up_e, o4.1 7 (by decide), hA5, up_r (by decide), m4.1 7 (by decide), hA3, up_r (by decide), n4.1 7 (by decide)]
        by_cases z : c = k
        · rw [if_pos ⟨rfl, z⟩, if_pos z]
        · rw [if_neg (fun y => z y.2), if_neg z]
      have x36 : ∀ c, B7.1 36 c = if c = k then nI v1 else B.1 36 c := fun c => by
        rw [hB7, up_r (by decide), up_r (by decide), o7 36 (by decide), hB5, up_r (by decide), m7 36 (by decide), hB3, up_e, n7 36 (by decide), t2.1 36 (by decide)]
        by_cases z : c = k
        · rw [if_pos ⟨rfl, z⟩, if_pos z]
        · rw [if_neg (fun y => z y.2), if_neg z]
      have x37 : ∀ c, B7.1 37 c = if c = k then nI v2 else B.1 37 c := fun c => by
        rw [hB7, up_r (by decide), up_r (by decide), o7 37 (by decide), hB5, up_e, m7 37 (by decide), hB3, up_r (by decide), n7 37 (by decide), t2.1 37 (by decide)]
        by_cases z : c = k
        · rw [if_pos ⟨rfl, z⟩, if_pos z]
        · rw [if_neg (fun y => z y.2), if_neg z]
      have x38 : ∀ c, B7.1 38 c = if c = k then nI v3 else B.1 38 c := fun c => by
        rw [hB7, up_r (by decide), up_e, o7 38 (by decide), hB5, up_r (by decide), m7 38 (by decide), hB3, up_r (by decide), n7 38 (by decide), t2.1 38 (by decide)]
        by_cases z : c = k
        · rw [if_pos ⟨rfl, z⟩, if_pos z]
        · rw [if_neg (fun y => z y.2), if_neg z]
      rw [w5, w6, w7, x36, x37, x38]
      by_cases z : c = k
      · rw [if_pos z, if_pos z, if_pos z, if_pos z, if_pos z, if_pos z]
        exact ⟨rfl, ⟨v1, v11, v12, rfl⟩, rfl, rfl, v3, v32, rfl⟩
      · rw [if_neg z, if_neg z, if_neg z, if_neg z, if_neg z, if_neg z]
        exact d3 c (by omega)
    · rw [s3.1 3 (by decide), hA7, up_r (by decide), up_r (by decide), o4.1 3 (by decide), hA5, up_r (by decide), m4.1 3 (by decide), hA3, up_r (by decide), n4.1 3 (by decide)]
    · rw [s3.1 8 (by decide), hA7, up_r (by decide), up_r (by decide), o4.1 8 (by decide), hA5, up_r (by decide), m4.1 8 (by decide), hA3, up_r (by decide), n4.1 8 (by decide)]
    · rw [hB7, up_r (by decide), up_r (by decide), o7 39 (by decide), hB5, up_r (by decide), m7 39 (by decide), hB3, up_r (by decide), n7 39 (by decide), t2.1 39 (by decide)]
    · rw [hB7, up_j (by decide), up_k (by decide), o8 18 (by omega), hB5, up_k (by decide), m8 18 (by omega), hB3, up_k (by decide), n8 18 (by omega), t2.2 18 (by omega)]
  · rw [s2, bd_mk, bz_0]
    exact Or.inl ⟨A8, B7, q2, rfl, s4, s5, s6, Or.inr ⟨rfl, s1⟩, ia7.trans s3.ia, ib7⟩
