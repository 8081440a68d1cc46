/-! ===== a deed is remembered; undo, images, guards ===== -/
theorem rem_ok {nc : Nat} {S : St} (h5 : RHist nc S.1) : ∃ Sa, f_X1_remember S = some Sa ∧ ∀ k, k ≠ 17 → k < 59 ∨ 161 ≤ k → Sa.1 k = S.1 k := by
  obtain ⟨kn, nx, p1, p2, p3, p4, p5, p6⟩ := h5
  obtain ⟨Sa, e1, e2, -⟩ := X1_remember p1 p2 S p5 p3
  exact ⟨Sa, e1, fun k h1 h2 => e2 k h1 (by omega)⟩
theorem minds_ok {nc : Nat} {S Sb : St} (h5 : RHist nc S.1) (eb : Sb.1 27 2 = S.1 27 2) : ∃ Sc, f_X9_minds Sb = some Sc ∧ (∀ k, k ≠ 28 → k ≠ 27 → Sc.1 k = Sb.1 k) ∧ (∀ j, j ≠ 2 → Sc.1 27 j = Sb.1 27 j) ∧ (∀ j, j < 849 → Sc.1 28 j = Sb.1 28 j) := by
  obtain ⟨kn, nx, p1, p2, p3, p4, p5, p6⟩ := h5
  obtain ⟨Sc, e1, e2, e3, e4, -⟩ := X9_minds p1 Sb (by rw [eb]; exact p4)
  exact ⟨Sc, e1, e2, e3, e4⟩
theorem push {nc : Nat} {S Sa Sb Sc : St} {A : Nat → Nat → Int32} (h5 : RHist nc S.1) (h4 : TR nc S.1 42 0) (ea : f_X1_remember S = some Sa) (eb28 : Sb.1 28 = S.1 28) (eb27 : Sb.1 27 2 = S.1 27 2) (ec : f_X9_minds Sb = some Sc) (hA : ∀ k, 59 ≤ k → k < 161 → A k = Sa.1 k) (h17 : A 17 = Sa.1 17) (h27 : A 27 2 = Sc.1 27 2) (h28 : ∀ j, 849 ≤ j → A 28 j = Sc.1 28 j) : RHist nc A := by
  obtain ⟨kn, nx, p1, p2, p3, p4, p5, p6⟩ := h5
  obtain ⟨Sa', a1, a2, a3, a4, a5⟩ := X1_remember p1 p2 S p5 p3
  obtain rfl : Sa' = Sa := by rw [a1] at ea; exact Option.some.inj ea
  obtain ⟨Sc', c1, c2, c3, c4, c5, c6⟩ := X9_minds p1 Sb (by rw [eb27]; exact p4)
  obtain rfl : Sc' = Sc := by rw [c1] at ec; exact Option.some.inj ec
  rw [eb28] at c4 c5 c6
  have new : ∀ o, (∀ i, i < 283 → Sc'.1 28 (o + i) = S.1 28 i) → 849 ≤ o → TR nc A (59 + 17 * nx) o := by
    intro o ho hge
    refine h4.congr (fun k j hk hj => ?_) (fun i hi => ?_)
    · rw [hA _ (by omega) (by omega), a3 k j hk hj]
    · rw [h28 _ (by omega), ho i hi, Nat.zero_add]
  have old : ∀ s j o, s < 6 → s ≠ nx → TR nc S.1 (59 + 17 * s) j → (∀ i, i < 283 → Sc'.1 28 (o + i) = S.1 28 (j + i)) → 849 ≤ o → TR nc A (59 + 17 * s) o := by
    intro s j o hs hne ht ho hge
    refine ht.congr (fun k q hk _ => ?_) (fun i hi => ?_)
    · rw [hA _ (by omega) (by omega), a2 _ (by omega) (by omega)]
    · rw [h28 _ (by omega), ho i hi]
  by_cases h6 : kn = 6
  · obtain ⟨d1, d2, d3⟩ := c5 h6
    subst h6
    refine ⟨6, (nx + 1) % 6, by omega, Nat.mod_lt _ (by decide), by rw [h17, a5]; rfl, by rw [h27, d1], by rw [h17, a4], fun j hj => ?_⟩
    by_cases hj5 : j = 5
    · subst hj5
      rw [show slot ((nx + 1) % 6) 6 5 = nx by unfold slot; omega]
      exact new _ d3 (by omega)
    · rw [show slot ((nx + 1) % 6) 6 j = slot nx 6 (j + 1) by unfold slot; omega]
      exact old _ _ _ (Nat.mod_lt _ (by decide)) (by unfold slot; omega) (p6 (j + 1) (by omega)) (fun i hi => d2 j i (by omega) hi) (by omega)
  · obtain ⟨d1, d2, d3⟩ := c6 h6
    refine ⟨kn + 1, (nx + 1) % 6, by omega, Nat.mod_lt _ (by decide), by rw [h17, a5, if_neg h6], by rw [h27, d1], by rw [h17, a4], fun j hj => ?_⟩
    by_cases hjk : j = kn
    · subst hjk
      rw [show slot ((nx + 1) % 6) (j + 1) j = nx by unfold slot; omega]
      exact new _ d3 (by omega)
    · rw [show slot ((nx + 1) % 6) (kn + 1) j = slot nx kn j by unfold slot; omega]
      exact old _ _ _ (Nat.mod_lt _ (by decide)) (by unfold slot; omega) (p6 j (by omega)) (fun i hi => d2 j i (by omega) hi) (by omega)
/-- the relation but for the past: behind a deed -/
theorem ix10 {ch : Nat} : (10 : Int32) * nI ch = nI (10 * ch) := by rw [show (10 : Int32) = nI 10 from rfl, pk_mul]
theorem sim_guards (x y : Int32) : Sim (f_X8_guards x y) (f_X9_guards x y) := by
  intro nc S hr
  obtain ⟨h1, h2, h3, h4, h5, h6, h7⟩ := id hr
  unfold f_X8_guards f_X9_guards f_X8_guards_27 f_X9_guards_27 f_X6_mostGuard_9
  rcases cell_cases h1 x with ⟨e1, e2⟩ | ⟨c, hc, hc4, rfl, e1, e2⟩
  · exact ⟨-1, S, S, nc, by rw [e1]; rfl, by rw [e2 S rfl]; rfl, hr⟩
  · obtain ⟨t1, ⟨ch, u1, u2, t2⟩, t3, t4⟩ := h1.2.2.2.1 c hc
    have l1 : (nI (10 * ch)).toInt = 10 * ch := by rw [nI_toInt (by omega)]; omega
    have l2 : ((nI (10 * ch)).toInt64).toInt = 10 * ch := by rw [Int32.toInt_toInt64, l1]
    by_cases hy : 0 ≤ y.toInt ∧ y.toInt ≤ 10 * ch
    · by_cases hg : S.1 43 c = y
      · refine ⟨-2, S, S, nc, ?_, ?_, hr⟩
        · rw [e1, bd_mk, if10, ck_n hc4 (by decide), bd_mk, nI_clamp (by omega), t2, ix10, X8_w1 (by rw [i32_0, l1]; exact hy), bd_mk, if10, ck_n hc4 (by decide), lt_mk, if_pos hg]
        · rw [e2 S rfl, bd_mk, if10, ck_n hc4 (by decide), nI_clamp (by omega), ← t1, t2, ix10, X9_i1 (by rw [i64_0, l2]; exact hy), bd_mk, if10, ix216, ck_n (by omega) (by decide), lt_mk, nI_clamp (by omega), ← now_guard h4 hc4 hc, if_pos hg]
      · obtain ⟨Sa, ra, rb⟩ := rem_ok h5
        have q28 : (upI Sa 43 c y).1 28 = S.1 28 := by rw [up_r (by decide), rb 28 (by decide) (by decide)]
        have q27 : (upI Sa 43 c y).1 27 = S.1 27 := by rw [up_r (by decide), rb 27 (by decide) (by decide)]
        have q33 : (upI Sa 43 c y).1 33 = S.1 33 := by rw [up_r (by decide), rb 33 (by decide) (by decide)]
        obtain ⟨Sc, ma, mb, mc, md⟩ := minds_ok (Sb := upI Sa 43 c y) h5 (by rw [q27])
        refine ⟨S.1 43 c, upI Sa 43 c y, upI Sc 28 (216 + c) y, nc, ?_, ?_, ?_⟩
        · rw [e1, bd_mk, if10, ck_n hc4 (by decide), bd_mk, nI_clamp (by omega), t2, ix10, X8_w1 (by rw [i32_0, l1]; exact hy), bd_mk, if10, ck_n hc4 (by decide), lt_mk, if_neg hg, ra, bdV_mk, ck_n hc4 (by decide), lt_mk]
        · rw [e2 _ (by rw [q27]), bd_mk, if10, ck_n hc4 (by decide), nI_clamp (by omega), q33, ← t1, t2, ix10, X9_i1 (by rw [i64_0, l2]; exact hy), bd_mk, if10, ix216, ck_n (by omega) (by decide), lt_mk, nI_clamp (by omega), q28, ← now_guard h4 hc4 hc, if_neg hg, ma, bdV_mk, ck_n (by omega) (by decide), lt_mk]
        · have keep : ∀ k, k ≠ 17 → k ≠ 27 → k ≠ 28 → k ≠ 43 → k < 59 ∨ 161 ≤ k → (upI Sc 28 (216 + c) y).1 k = S.1 k := fun k a1 a2 a3 a4 a5 => by rw [up_r a3, mb k a3 a2, up_r a4, rb k a1 a5]
          have k27 : ∀ j, j ≠ 2 → (upI Sc 28 (216 + c) y).1 27 j = S.1 27 j := fun j hj => by rw [up_k (by decide), mc j hj, q27]
          have k28 : ∀ j, j < 849 → j ≠ 216 + c → (upI Sc 28 (216 + c) y).1 28 j = S.1 28 j := fun j hj hn => by rw [up_j hn, md j hj, q28]
          refine ⟨h1.keep ?_ ?_ ?_ ?_ ?_ ?_ ?_ (k27 8 (by decide)), h2.keep (by rw [keep 1 (by decide) (by decide) (by decide) (by decide) (by decide)]) ?_ ?_ (k27 7 (by decide)), h3.keep ?_ ?_ ?_ ?_ ?_ (k27 5 (by decide)), ?_, push h5 h4 ra q28 (by rw [q27]) ma (fun k a1 a2 => ?_) ?_ ?_ (fun j hj => ?_), ?_, h7.keep (by rw [keep 14 (by decide) (by decide) (by decide) (by decide) (by decide)]) (k27 25 (by decide))⟩
          case refine_15 =>
            obtain ⟨⟨a1, a2, a3, a4⟩, hcr, hp⟩ := now_of h4
            have x43 : ∀ k, k < 17 → k ≠ 1 → (upI Sc 28 (216 + c) y).1 (42 + k) = S.1 (42 + k) := fun k b1 b2 => keep _ (by omega) (by omega) (by omega) (by omega) (by omega)
            refine ⟨⟨?_, ?_, fun d hd hd' => ?_, fun i hi => ?_⟩, fun i hi => (hcr i hi).loc (fun k b1 b2 => ?_) (fun d b1 => ?_) (fun d b1 => ?_) (fun j b1 => ?_), hp.loc ?_ (fun k i b1 b2 b3 => ?_) (fun j b1 b2 => ?_)⟩
            · show (upI Sc 28 (216 + c) y).1 (42 + 0) 0 = (upI Sc 28 (216 + c) y).1 28 (0 + 281)
              rw [x43 0 (by omega) (by omega), Nat.zero_add, k28 281 (by omega) (by omega)]; exact a1
            · show (upI Sc 28 (216 + c) y).1 (42 + 0) 1 = (upI Sc 28 (216 + c) y).1 28 (0 + 282)
              rw [x43 0 (by omega) (by omega), Nat.zero_add, k28 282 (by omega) (by omega)]; exact a2
            · show (upI Sc 28 (216 + c) y).1 (42 + 1) d = (upI Sc 28 (216 + c) y).1 28 (0 + (216 + d))
              rw [Nat.zero_add]
              by_cases hdc : d = c
              · subst hdc
                rw [up_s, up_k (by decide), mb _ (by decide) (by decide), up_s]
              · rw [k28 _ (by omega) (by omega), up_k (by decide), mb _ (by decide) (by decide), up_j hdc, rb 43 (by decide) (by decide)]
                exact a3 d hd hd'
            · show (upI Sc 28 (216 + c) y).1 (42 + 2) i = (upI Sc 28 (216 + c) y).1 28 (0 + (220 + i))
              rw [x43 2 (by omega) (by omega), Nat.zero_add, k28 _ (by omega) (by omega)]; exact a4 i hi
            · show (upI Sc 28 (216 + c) y).1 (42 + k) i = S.1 (42 + k) i
              rw [x43 k (by omega) (by omega)]
            · show (upI Sc 28 (216 + c) y).1 (42 + 12) _ = S.1 (42 + 12) _
              rw [x43 12 (by omega) (by omega)]
            · show (upI Sc 28 (216 + c) y).1 (42 + 13) _ = S.1 (42 + 13) _
              rw [x43 13 (by omega) (by omega)]
            · show (upI Sc 28 (216 + c) y).1 28 (0 + _) = S.1 28 _
              rw [Nat.zero_add, k28 _ (by omega) (by omega)]
            · show (upI Sc 28 (216 + c) y).1 (42 + 0) 15 = S.1 (42 + 0) 15
              rw [x43 0 (by omega) (by omega)]
            · show (upI Sc 28 (216 + c) y).1 (42 + k) i = S.1 (42 + k) i
              rw [x43 k (by omega) (by omega)]
            · show (upI Sc 28 (216 + c) y).1 28 (0 + j) = S.1 28 j
              rw [Nat.zero_add, k28 _ (by omega) (by omega)]
          case refine_16 => rw [up_r (by omega), mb k (by omega) (by omega), up_r (by omega)]
          case refine_17 => rw [up_r (by decide), mb 17 (by decide) (by decide), up_r (by decide)]
          case refine_18 => rw [up_k (by decide)]
          case refine_19 => rw [up_j (by omega)]
          case refine_20 =>
            intro i hi
            obtain ⟨p1, p2⟩ := h6 i hi
            rw [keep 21 (by decide) (by decide) (by decide) (by decide) (by decide), keep 29 (by decide) (by decide) (by decide) (by decide) (by decide)]
            refine ⟨p1, ?_⟩
            rcases p2 with p2 | ⟨p2, p3⟩
            · exact Or.inl p2
            · exact Or.inr ⟨p2, p3.far (fun k b1 b2 => keep k (by omega) (by omega) (by omega) (by omega) (by omega)) (fun j b1 b2 => k28 j (by omega) (by omega))⟩
          all_goals exact keep _ (by decide) (by decide) (by decide) (by decide) (by decide)
    · refine ⟨-1, S, S, nc, ?_, ?_, hr⟩
      · rw [e1, bd_mk, if10, ck_n hc4 (by decide), bd_mk, nI_clamp (by omega), t2, ix10, X8_w0 (by rw [i32_0, l1]; exact hy), bd_mk, if00]
      · rw [e2 S rfl, bd_mk, if10, ck_n hc4 (by decide), nI_clamp (by omega), ← t1, t2, ix10, X9_i0 (by rw [i64_0, l2]; exact hy), bd_mk, if00]
