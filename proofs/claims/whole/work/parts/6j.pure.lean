theorem bit_get : ∀ (m : Fin 64) (i : Fin 6), ((nI m.1 >>> (nI i.1 &&& 31)) &&& 1 = 1) ↔ Nat.testBit m.1 i.1 = true := by decide
theorem bit_set : ∀ (m : Fin 64) (i : Fin 6), nI m.1 ||| ((1 : Int32) <<< (nI i.1 &&& 31)) = nI (m.1 ||| 2 ^ i.1) := by decide
theorem bit_or : ∀ (m : Fin 64) (i j : Fin 6), Nat.testBit (m.1 ||| 2 ^ i.1) j.1 = (Nat.testBit m.1 j.1 || decide (i.1 = j.1)) := by decide
theorem bit_lt : ∀ (m : Fin 64) (i : Fin 6), m.1 ||| 2 ^ i.1 < 64 := by decide
theorem tb_lo {s : Nat} (h : s < 5) : tbLeast s = nI (sLo s) := by
  match s, h with
  | 0, _ => rfl
  | 1, _ => rfl
  | 2, _ => rfl
  | 3, _ => rfl
  | 4, _ => rfl
theorem tb_hi {s : Nat} (h : s < 5) : tbMost s = nI (sHi s) := by
  match s, h with
  | 0, _ => rfl
  | 1, _ => rfl
  | 2, _ => rfl
  | 3, _ => rfl
  | 4, _ => rfl
theorem rf_lo {s : Nat} (h : s < 5) (S : St) : f_X9_least (nI (s + 1)) S = some (nI (sLo s), S) := by
  match s, h with
  | 0, _ => rfl
  | 1, _ => rfl
  | 2, _ => rfl
  | 3, _ => rfl
  | 4, _ => rfl
theorem rf_hi {s : Nat} (h : s < 5) (S : St) : f_X9_most (nI (s + 1)) S = some (nI (sHi s), S) := by
  match s, h with
  | 0, _ => rfl
  | 1, _ => rfl
  | 2, _ => rfl
  | 3, _ => rfl
  | 4, _ => rfl
theorem sHi_le (s : Nat) : sHi s ≤ 60 := by
  unfold sHi
  split <;> omega
theorem sLo_le (s : Nat) : sLo s ≤ 1 := by
  unfold sLo
  split <;> omega
/-- what the reference does with a setting's letter -/
def g_set (x : Int32) (S1 : St) : Option (Int32 × St) :=
  if (((S1.1 27 18) >>> (x &&& 31)) &&& 1) = 1 then (f_X9_readsItem_24 S1)
    else (if x = 0 then (bd (f_X9_readsCell S1) fun v13 S12 =>
        bz v13 (some (v13, S12)))
      else (lt (upI S1 27 18 ((S1.1 27 18) ||| (1 <<< (x &&& 31)))) fun S3 =>
        bdV (f_X9_take S3) fun S4 =>
        bd (f_X9_least x S4) fun v6 S5 =>
        bd (f_X9_most x S5) fun v8 S7 =>
        bd (f_X9_keeps v6 v8 S7) fun v10 S9 =>
        ck x 6 (lt (upI S9 39 x.toNatClampNeg (S9.1 27 23)) fun S11 =>
        bz v10 (some (v10, S11)))))
theorem item_eq (S : St) : f_X9_readsItem S = bd (f_X9_which (S.1 27 14) S) fun v2 S1 => if v2 < 0 then (f_X9_readsItem_24 S1) else g_set v2 S1 := by
  unfold f_X9_readsItem g_set
  rfl
theorem set_ok {t : Nat → Int32} {len p m q s : Nat} {A B : St} (hl : len ≤ 120) (hp : p ≤ len) (hq : q ≤ 120) (hs : s < 5) (a4 : A.1 1 4 = nI p) (b12 : B.1 27 12 = nI p) (a5 : A.1 1 5 = nI q) (b13 : B.1 27 13 = nI q) (hx : TXc t len A) (hy : TXr t len B) (hb : DRb m A B) (hd : DRs A B) :
    Out len p A B (f_X4_readSetting (nI s) A) (g_set (nI (s + 1)) B) (fun A' B' => (∃ m', DRb m' A' B') ∧ DRs A' B' ∧ (∀ k, 4 ≤ k → k < 8 → A'.1 k = A.1 k) ∧ (∀ k, 36 ≤ k → k < 39 → B'.1 k = B.1 k) ∧ B'.1 27 17 = B.1 27 17) := by
  obtain ⟨m64, b1, b2, b3⟩ := hb
  have bg := bit_get ⟨m, m64⟩ ⟨s + 1, by omega⟩
  have bs := bit_set ⟨m, m64⟩ ⟨s + 1, by omega⟩
  unfold f_X4_readSetting f_X4_readSetting_15 g_set f_X9_readsItem_24
  rw [if_neg (neg9_ne (by omega)), ck_n hs (by decide), nI_clamp (by omega), b1]
  have hc : ∀ {ρ : Type} {X : Option ρ}, ck (nI s) 5 X = X := ck_n hs (by decide)
  by_cases hbit : Nat.testBit m (s + 1) = true
  · rw [if_pos (bg.mpr hbit), b3 s hs, if_pos hbit, if_neg (by decide)]
    exact Or.inl ⟨A, B, q, rfl, hq, a5, b13, Or.inl rfl, IA.refl A, IB.refl B⟩
  · rw [if_neg (fun z => hbit (bg.mp z)), if_neg (nI_n0 (by omega) (by omega)), b3 s hs, if_neg hbit, if_pos (by decide), hc, hc, lt_mk, hc, hc, lt_mk, Int32.zero_add, tb_lo hs, tb_hi hs, show nI m ||| ((1 : Int32) <<< (nI (s + 1) &&& 31)) = nI (m ||| 2 ^ (s + 1)) from bs]
    obtain ⟨A1, hA1⟩ : ∃ A1, A1 = upI A 3 s 1 := ⟨_, rfl⟩
    obtain ⟨B1, hB1⟩ : ∃ B1, B1 = upI B 27 18 (nI (m ||| 2 ^ (s + 1))) := ⟨_, rfl⟩
    rw [← hA1, ← hB1]
    have ia1 : IA A A1 := by rw [hA1]; exact IA.up A (by omega) _ _
    have ib1 : IB B B1 := by rw [hB1]; exact IB.w B (by omega) _
    obtain ⟨B2, t1, t2, t3⟩ := ahead (A := A1) (B := B1) hl hp (by rw [hA1, up_k (by decide)]; exact a4) (by rw [hB1, up_j (by decide)]; exact b12) (hx.ia ia1) (hy.ib ib1)
    rw [t1, bdV_mk, rf_lo hs, bd_mk, rf_hi hs, bd_mk]
    have ib2 : IB B B2 := ib1.trans t2.ib
    have shi := sHi_le s
    have slo := sLo_le s
    rcases num_ok (y := nI (sLo s)) (z := nI (sHi s)) hl (by omega) (by omega) rfl rfl t3 (hx.ia ia1) (hy.ib ib2) with ⟨A2, q2, n1, n2, n3, n4, n5, n6⟩ | ⟨A2, B3, v, p2, v1, v2, n1, n2, n3, n4, n5, n6, n7, n8, n9⟩
    · rw [n1, bd_mk, if00, n6, bd_mk, ck_n (by omega) (by decide), lt_mk, bz_0, nI_clamp (by omega)]
      exact Or.inl ⟨A2, _, q2, rfl, n3, n4, by rw [up_k (by decide), up_j (by decide)]; exact n5, Or.inl rfl, ia1.trans n2.ia, (ib2.trans (IB.w B2 (by omega) _)).trans (IB.up _ (by omega) _ _)⟩
    rw [n2, bd_mk, if10, hc, lt_mk, n3, n5, bd_mk, ck_n (by omega) (by decide), lt_mk, bz_1, nI_clamp (by omega), n6]
    obtain ⟨A3, hA3⟩ : ∃ A3, A3 = upI A2 8 s (nI v) := ⟨_, rfl⟩
    obtain ⟨B4, hB4⟩ : ∃ B4, B4 = upI B3 39 (s + 1) (nI v) := ⟨_, rfl⟩
    rw [← hA3, ← hB4]
    have ib3 : IB B2 B3 := ⟨fun k' a _ => n7 k' a, fun j a => n8 j (by omega)⟩
    have ia3 : IA A A3 := by rw [hA3]; exact (ia1.trans n4.ia).trans (IA.up A2 (by omega) _ _)
    have ib4 : IB B B4 := by rw [hB4]; exact (ib2.trans ib3).trans (IB.up B3 (by omega) _ _)
    have lag3 : Lag t len p2 A3 B4 := n9.keep (by rw [hA3, up_k (by decide)]) (fun j a b => by rw [hB4, up_k (by decide)])
    rcases stop_ok hl lag3 (hx.ia ia3) with ⟨A8, p5, s1, s2, s3, s4, s5, s6, s7⟩ | ⟨A8, q2, s1, s2, s3, s4, s5, s6⟩
    · rw [s2, bd_mk, bz_1]
      refine Or.inr ⟨A8, B4, p5, rfl, rfl, s1, by omega, s5, s6, s7, ia3.trans s3.ia, ib4, ⟨m ||| 2 ^ (s + 1), bit_lt ⟨m, m64⟩ ⟨s + 1, by omega⟩, ?_, ?_, fun s' hs' => ?_⟩, fun s' hs' => ?_, fun k h1 h2 => ?_, fun k h1 h2 => ?_, ?_⟩
      · rw [hB4, up_k (by decide), n8 18 (by omega), t2.2 18 (by omega), hB1, up_s]
      · have := bit_or ⟨m, m64⟩ ⟨s + 1, by omega⟩ ⟨0, by omega⟩
        have this : Nat.testBit (m ||| 2 ^ (s + 1)) 0 = (Nat.testBit m 0 || decide (s + 1 = 0)) := this
        rw [this, b2]
        simp
      · have := bit_or ⟨m, m64⟩ ⟨s + 1, by omega⟩ ⟨s' + 1, by omega⟩
        have this : Nat.testBit (m ||| 2 ^ (s + 1)) (s' + 1) = (Nat.testBit m (s' + 1) || decide (s + 1 = s' + 1)) := this
        rw [this, s3.1 3 (by decide), hA3, up_r (by decide), n4.1 3 (by decide), hA1, up_e]
        by_cases z : s' = s
        · subst z
          simp
        · rw [if_neg (fun y => z y.2), b3 s' hs', show decide (s + 1 = s' + 1) = false by simp; omega, Bool.or_false]
      · rw [s3.1 8 (by decide), hA3, up_e, n4.1 8 (by decide), hA1, up_r (by decide), hB4, up_e, n7 39 (by decide), t2.1 39 (by decide), hB1, up_r (by decide)]
        by_cases z : s' = s
        · subst z
          exact ⟨v, v1, v2, by simp, by simp⟩
        · rw [if_neg (fun y => z y.2), if_neg (fun y => z (by omega))]
          exact hd s' hs'
      · rw [s3.1 k (by omega), hA3, up_r (by omega), n4.1 k (by omega), hA1, up_r (by omega)]
      · rw [hB4, up_r (by omega), n7 k (by omega), t2.1 k (by omega), hB1, up_r (by omega)]
      · rw [hB4, up_k (by decide), n8 17 (by omega), t2.2 17 (by omega), hB1, up_j (by decide)]
    · rw [s2, bd_mk, bz_0]
      exact Or.inl ⟨A8, B4, q2, rfl, s4, s5, s6, Or.inr ⟨rfl, s1⟩, ia3.trans s3.ia, ib4⟩
def cItem (S : St) : Option (Int32 × St) := if (S.1 1 7) = 99 then f_X4_readCell S else (bd (f_X4_settingOf (S.1 1 7) S) fun v6 S5 => f_X4_readSetting v6 S5)
theorem readsCell_bz (S : St) (x : Option (Int32 × St)) (h : (∃ T, x = some (0, T)) ∨ ∃ T, x = some (1, T)) : (bd x fun v13 S12 => bz v13 (some (v13, S12))) = x := by
  rcases h with ⟨T, rfl⟩ | ⟨T, rfl⟩
  · rw [bd_mk, bz_0]
  · rw [bd_mk, bz_1]
theorem item_ok {t : Nat → Int32} {len p q : Nat} {A B : St} (hl : len ≤ 120) (hp : p ≤ len) (hq : q ≤ 120) (a4 : A.1 1 4 = nI p) (b12 : B.1 27 12 = nI p) (a5 : A.1 1 5 = nI q) (b13 : B.1 27 13 = nI q) (e7 : A.1 1 7 = B.1 27 14) (h : B.1 27 14 = 99 ∨ ∃ s, s < 5 ∧ B.1 27 14 = tbLetter s) (hx : TXc t len A) (hy : TXr t len B) (hd : DR A B) :
    Out len p A B (cItem A) (f_X9_readsItem B) DR := by
  obtain ⟨k, m, dc, ds, db⟩ := hd
  rw [item_eq]
  unfold cItem
  rw [e7]
  rcases letter_cases (B.1 27 14) with ⟨z1, z2⟩ | ⟨s, s1, s2, s3, -, s4, s5⟩ | ⟨z1, z2, z3⟩
  · rw [if_pos z1, z2, bd_mk, if_neg (by decide)]
    have bg := bit_get ⟨m, db.1⟩ ⟨0, by omega⟩
    have e : g_set 0 B = bd (f_X9_readsCell B) fun v13 S12 => bz v13 (some (v13, S12)) := by
      unfold g_set
      rw [db.2.1, if_neg (fun z => by have := bg.mp z; rw [db.2.2.1] at this; exact absurd this (by decide)), if_pos rfl]
    rw [e]
    rcases cell_ok hl hp hq a4 b12 a5 b13 hx hy dc with ⟨A', B', q', c1, c2, c3, c4, c5, c6, c7⟩ | ⟨A', B', p', c1, c2, c3, c4, c5, c6, c7, c8, c9, g1, g2, g3, g4, g5⟩
    · rw [readsCell_bz B _ (by rcases c5 with z | ⟨z, -⟩
                               · exact Or.inl ⟨_, z⟩
                               · exact Or.inr ⟨_, z⟩)]
      exact Or.inl ⟨A', B', q', c1, c2, c3, c4, c5, c6, c7⟩
    · rw [readsCell_bz B _ (Or.inr ⟨_, c2⟩)]
      refine Or.inr ⟨A', B', p', c1, c2, c3, c4, c5, c6, c7, c8, c9, k + 1, m, g1, fun s hs => ?_, db.1, ?_, db.2.2.1, fun s hs => ?_⟩
      · rw [g3, g4]; exact ds s hs
      · rw [g5]; exact db.2.1
      · rw [g2]; exact db.2.2.2 s hs
  · rw [if_neg s3, s4, bd_mk, s5, bd_mk, if_neg (nI_pos (by omega))]
    rcases set_ok hl hp hq s1 a4 b12 a5 b13 hx hy db ds with ⟨A', B', q', c⟩ | ⟨A', B', p', c1, c2, c3, c4, c5, c6, c7, c8, c9, ⟨m', g1⟩, g2, g3, g4, g5⟩
    · exact Or.inl ⟨A', B', q', c⟩
    · refine Or.inr ⟨A', B', p', c1, c2, c3, c4, c5, c6, c7, c8, c9, k, m', ⟨dc.1, ?_, ?_, fun c hc => ?_⟩, g2, g1⟩
      · rw [g3 4 (by omega) (by omega)]; exact dc.2.1
      · rw [g5]; exact dc.2.2.1
      · rw [g3 5 (by omega) (by omega), g3 6 (by omega) (by omega), g3 7 (by omega) (by omega), g4 36 (by omega) (by omega), g4 37 (by omega) (by omega), g4 38 (by omega) (by omega)]
        exact dc.2.2.2 c hc
  · exfalso
    rcases h with h | ⟨s, s1, s2⟩
    · exact z1 h
    · have := z3 B
      rw [s2] at this
      match s, s1 with
      | 0, _ => exact absurd (congrArg (fun x => Option.map Prod.fst x) this) (by show ¬ some (nI 1) = some (-9 : Int32); decide)
      | 1, _ => exact absurd (congrArg (fun x => Option.map Prod.fst x) this) (by show ¬ some (nI 2) = some (-9 : Int32); decide)
      | 2, _ => exact absurd (congrArg (fun x => Option.map Prod.fst x) this) (by show ¬ some (nI 3) = some (-9 : Int32); decide)
      | 3, _ => exact absurd (congrArg (fun x => Option.map Prod.fst x) this) (by show ¬ some (nI 4) = some (-9 : Int32); decide)
      | 4, _ => exact absurd (congrArg (fun x => Option.map Prod.fst x) this) (by show ¬ some (nI 5) = some (-9 : Int32); decide)
