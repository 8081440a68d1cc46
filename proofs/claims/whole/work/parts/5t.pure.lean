/-! ===== a deed side by side; ends ===== -/
theorem deed2 {nc : Nat} {S : St} (hr : Rl nc S.1) {F G : St → Option (Int32 × St)}
    (H : ∀ A B : St, (∀ k, k ≠ 17 → k < 59 → A.1 k = S.1 k) → (∀ j, j < 849 → B.1 28 j = S.1 28 j) → (∀ j, j ≠ 2 → B.1 27 j = S.1 27 j) → (∀ k, 28 < k → k < 42 → B.1 k = S.1 k) → TD nc A B → LK nc 0 A B → ∃ v A' B', F A = some (v, A') ∧ G B = some (v, B') ∧ FA A A' ∧ FB B B' ∧ LK nc 0 A' B') :
    ∃ v Sa Sb Sc Sd, f_X1_remember S = some Sa ∧ F Sa = some (v, Sb) ∧ f_X9_minds Sb = some Sc ∧ G Sc = some (v, Sd) ∧ Sb.1 27 = S.1 27 ∧ Sb.1 28 = S.1 28 ∧ Rl nc Sd.1 := by
  obtain ⟨h1, h2, h3, h4, h5, h6, h7⟩ := id hr
  obtain ⟨Sa, ra, rb⟩ := rem_ok h5
  have base : ∀ B : St, (∀ j, j < 849 → B.1 28 j = S.1 28 j) → (∀ j, j ≠ 2 → B.1 27 j = S.1 27 j) → (∀ k, 28 < k → k < 42 → B.1 k = S.1 k) → TD nc Sa B ∧ LK nc 0 Sa B := fun B b1 b2 b3 => by
    refine ⟨?_, ?_, ?_, ?_, fun i hi => absurd hi (by omega)⟩
    · refine h1.keep ?_ ?_ ?_ ?_ ?_ ?_ ?_ ?_
      · rw [mg_a (by omega), rb 9 (by omega) (by omega)]
      · rw [mg_a (by omega), rb 10 (by omega) (by omega)]
      · rw [mg_a (by omega), rb 12 (by omega) (by omega)]
      · rw [mg_a (by omega), rb 13 (by omega) (by omega)]
      · rw [mg_b (by omega) (by omega), b3 33 (by omega) (by omega)]
      · rw [mg_b (by omega) (by omega), b3 34 (by omega) (by omega)]
      · rw [mg_b (by omega) (by omega), b3 35 (by omega) (by omega)]
      · rw [mg_b (by omega) (by omega), b2 8 (by omega)]
    · exact (now_of h4).congr (fun k j hk _ => show Sa.1 (42 + k) j = S.1 (42 + k) j by rw [rb _ (by omega) (by omega)]) (fun i hi => b1 i (by omega))
    · rw [rb 14 (by omega) (by omega)]; exact h7.1
    · rw [b2 25 (by omega)]; exact h7.2
  have hA : ∀ k, k ≠ 17 → k < 59 → Sa.1 k = S.1 k := fun k a b => rb k a (Or.inl b)
  obtain ⟨t0, l0⟩ := base S (fun _ _ => rfl) (fun _ _ => rfl) (fun _ _ _ => rfl)
  obtain ⟨v, Sb, B0, f1, -, xb, -, -, q1, -, -⟩ := H Sa S hA (fun _ _ => rfl) (fun _ _ => rfl) (fun _ _ _ => rfl) t0 l0
  have b27 : Sb.1 27 = S.1 27 := by rw [xb 27 (by omega), hA 27 (by omega) (by omega)]
  have b28 : Sb.1 28 = S.1 28 := by rw [xb 28 (by omega), hA 28 (by omega) (by omega)]
  obtain ⟨Sc, ma, mb, mc, md⟩ := minds_ok (Sb := Sb) h5 (by rw [b27])
  rw [b27] at mc
  rw [b28] at md
  have c3 : ∀ k, 28 < k → k < 42 → Sc.1 k = S.1 k := fun k a b => by rw [mb k (by omega) (by omega), xb k (by omega), hA k (by omega) (by omega)]
  obtain ⟨t1, l1⟩ := base Sc md mc c3
  obtain ⟨v', Sb', Sd, f1', g1, -, yb, n1, n2, n3, n4⟩ := H Sa Sc hA md mc c3 t1 l1
  rw [f1] at f1'
  obtain ⟨rfl, rfl⟩ : v = v' ∧ Sb = Sb' := by
    have := Option.some.inj f1'
    exact ⟨congrArg Prod.fst this, congrArg Prod.snd this⟩
  refine ⟨v, Sa, Sb, Sc, Sd, ra, f1, ma, g1, b27, b28, deed hr ra rb xb q1 ma yb.1 yb.2.1 n3 yb.2.2 ?_⟩
  exact TRn.congr (x := cx Sb) (v := vr Sd) (fun k j hk _ => show Sd.1 (42 + k) j = Sb.1 (42 + k) j by rw [yb.1 _ (by omega) (by omega) (by omega), mb _ (by omega) (by omega)]) (fun i hi => show Sd.1 28 (0 + i) = Sd.1 28 i by rw [Nat.zero_add]) n1
theorem vanish_ok {nc fm i o : Nat} (hi : i < 12) (ho : o < nc) (hf : fm < 13) {A B : St} (h : LK nc fm A B) (eo : A.1 45 i = nI o) (eb : B.1 28 (18 * i + 1) = nI o) : ∃ A' B', f_X0_vanish (nI i) A = some A' ∧ f_X9_leaves (nI i) B = some B' ∧ FA A A' ∧ FB B B' ∧ LK nc (fm + 1) A' B' ∧ B'.1 27 26 = B.1 27 26 := by
  obtain ⟨⟨⟨ta1, ta2, ta3, ta4⟩, hcr, hp⟩, l1, l2, l3⟩ := h
  have e1 : (upI (upI A 45 i (-9)) 46 i (-9)).1 14 4 = nI fm := by rw [up_k (by decide), up_k (by decide)]; exact l1
  have e2 : (upI B 28 (18 * i) 0).1 27 25 = nI fm := by rw [up_k (by decide)]; exact l2
  refine ⟨upI (upI (upI (upI A 45 i (-9)) 46 i (-9)) 16 fm (nI o)) 14 4 (nI (fm + 1)), upI (upI (upI B 28 (18 * i) 0) 40 fm (nI o)) 27 25 (nI (fm + 1)), ?_, ?_, fun k hk => ?_, ⟨fun k b1 b2 b3 => ?_, fun j hj => ?_, fun j hj => ?_⟩, ⟨⟨⟨?_, ?_, fun d hd hd' => ?_, fun j hj => ?_⟩, fun q hq => ?_, ?_⟩, ?_, ?_, fun q hq => ?_⟩, ?_⟩
  · unfold f_X0_vanish
    rw [ck_n hi (by decide), lt_mk, ck_n hi (by decide), lt_mk, ck_n hi (by decide), lt_mk, nI_clamp (by omega), eo, noteFreed_ok hf e1, bdV_mk]
  · unfold f_X9_leaves
    rw [X9_set_0 hi, bdV_mk, X9_get_1 hi, bd_mk, up_j (by omega), eb, frees_ok hf e2, bdV_mk]
  · rw [up_r (by omega), up_r (by omega), up_r (by omega), up_r (by omega)]
  · rw [up_r b1, up_r b3, up_r b2]
  · rw [up_j (by omega), up_k (by decide), up_k (by decide)]
  · rw [up_k (by decide), up_k (by decide), up_j (by omega)]
  · show (upI (upI (upI (upI A 45 i _) 46 i _) 16 fm _) 14 4 _).1 42 0 = (upI (upI (upI B 28 _ _) 40 fm _) 27 25 _).1 28 281
    simp (disch := first | decide | omega) only [up_k, up_j]; exact ta1
  · show (upI (upI (upI (upI A 45 i _) 46 i _) 16 fm _) 14 4 _).1 42 1 = (upI (upI (upI B 28 _ _) 40 fm _) 27 25 _).1 28 282
    simp (disch := first | decide | omega) only [up_k, up_j]; exact ta2
  · show (upI (upI (upI (upI A 45 i _) 46 i _) 16 fm _) 14 4 _).1 43 d = (upI (upI (upI B 28 _ _) 40 fm _) 27 25 _).1 28 (216 + d)
    simp (disch := first | decide | omega) only [up_k, up_j]; exact ta3 d hd hd'
  · show (upI (upI (upI (upI A 45 i _) 46 i _) 16 fm _) 14 4 _).1 44 j = (upI (upI (upI B 28 _ _) 40 fm _) 27 25 _).1 28 (220 + j)
    simp (disch := first | decide | omega) only [up_k, up_j]; exact ta4 j hj
  · by_cases hqi : q = i
    · subst hqi
      refine Or.inl ⟨?_, ?_, ?_⟩
      · show (upI (upI (upI (upI A 45 q _) 46 q _) 16 fm _) 14 4 _).1 45 q = -9
        simp (disch := first | decide | omega) only [up_k, up_j, up_s]
      · show (upI (upI (upI (upI A 45 q _) 46 q _) 16 fm _) 14 4 _).1 46 q = -9
        simp (disch := first | decide | omega) only [up_k, up_j, up_s]
      · show (upI (upI (upI B 28 _ _) 40 fm _) 27 25 _).1 28 (18 * q) = 0
        simp (disch := first | decide | omega) only [up_k, up_j, up_s]
    · refine (hcr q hq).loc (fun k h1 h2 => ?_) (fun d hd => ?_) (fun d hd => ?_) (fun j hj => ?_)
      · show (upI (upI (upI (upI A 45 i _) 46 i _) 16 fm _) 14 4 _).1 (42 + k) q = A.1 (42 + k) q
        rw [up_k (by omega), up_k (by omega), up_e, up_e, if_neg (fun z => hqi z.2), if_neg (fun z => hqi z.2)]
      · show (upI (upI (upI (upI A 45 i _) 46 i _) 16 fm _) 14 4 _).1 54 _ = A.1 54 _
        simp (disch := first | decide | omega) only [up_k, up_j]
      · show (upI (upI (upI (upI A 45 i _) 46 i _) 16 fm _) 14 4 _).1 55 _ = A.1 55 _
        simp (disch := first | decide | omega) only [up_k, up_j]
      · show (upI (upI (upI B 28 _ _) 40 fm _) 27 25 _).1 28 _ = B.1 28 _
        simp (disch := first | decide | omega) only [up_k, up_j]
  · refine hp.loc ?_ (fun k q h1 h2 h3 => ?_) (fun j h1 h2 => ?_)
    · show (upI (upI (upI (upI A 45 i _) 46 i _) 16 fm _) 14 4 _).1 42 15 = A.1 42 15
      simp (disch := first | decide | omega) only [up_k, up_j]
    · show (upI (upI (upI (upI A 45 i _) 46 i _) 16 fm _) 14 4 _).1 (42 + k) q = A.1 (42 + k) q
      simp (disch := first | decide | omega) only [up_k, up_j]
    · show (upI (upI (upI B 28 _ _) 40 fm _) 27 25 _).1 28 j = B.1 28 j
      simp (disch := first | decide | omega) only [up_k, up_j]
  · rw [up_s]
  · rw [up_s]
  · by_cases hqf : q = fm
    · subst hqf
      exact ⟨o, ho, by rw [up_k (by decide), up_s], by rw [up_k (by decide), up_s]⟩
    · obtain ⟨d, d1, d2, d3⟩ := l3 q (by omega)
      refine ⟨d, d1, ?_, ?_⟩
      · rw [up_k (by decide), up_j hqf, up_k (by decide), up_k (by decide)]; exact d2
      · rw [up_k (by decide), up_j hqf, up_k (by decide)]; exact d3
  · rw [up_j (by decide), up_k (by decide), up_k (by decide)]
/-- a present call, side by side -/
theorem call_row {nc i : Nat} {A B : St} (h : TRn nc (cx A) (vr B)) (hi : i < 12) (e : B.1 28 (18 * i) = 1) : ∃ o, o < nc ∧ A.1 45 i = nI o ∧ B.1 28 (18 * i + 1) = nI o := by
  rcases h.2.1 i hi with ⟨-, -, z⟩ | ⟨-, ⟨o, o1, o2⟩, -, c1, -⟩
  · have z : B.1 28 (18 * i) = 0 := z
    rw [e] at z
    exact absurd z (by decide)
  · have c1 : A.1 45 i = B.1 28 (18 * i + 1) := c1
    have o2 : A.1 45 i = nI o := o2
    exact ⟨o, o1, o2, by rw [← c1]; exact o2⟩
theorem sim_ends (x : Int32) : Sim (f_X8_ends x) (f_X9_ends x) := by
  intro nc S hr
  obtain ⟨h1, h2, h3, h4, h5, h6, h7⟩ := id hr
  have hnc := h1.1
  rcases call_cases hnc h4 x with ⟨e1, e2⟩ | ⟨i, hi, rfl, ei, e1, e2⟩
  · refine ⟨-1, S, S, nc, ?_, ?_, hr⟩
    · unfold f_X8_ends
      rw [e1]
      rfl
    · unfold f_X9_ends
      rw [e2 S rfl]
      rfl
  · obtain ⟨v, Sa, Sb, Sc, Sd, a1, a2, a3, a4, a5, a6, a7⟩ := deed2 hr (F := f_X0_end (nI i)) (G := fun B => bdV (f_X9_leaves (nI i) (upI B 27 26 0)) fun S5 => bdV (f_X9_serves S5) fun S6 => some (S6.1 27 26, S6)) (fun A B b1 b2 b3 b4 t l => by
      have l' : LK nc 0 A (upI B 27 26 0) := by
        obtain ⟨r1, r2, r3, r4⟩ := l
        refine ⟨r1.congr (fun _ _ _ _ => rfl) (fun j hj => ?_), r2, ?_, fun j hj => absurd hj (by omega)⟩
        · show (upI B 27 26 0).1 28 j = B.1 28 j
          rw [up_k (by decide)]
        · rw [up_j (by decide)]; exact r3
      obtain ⟨o, o1, o2, o3⟩ := call_row l'.1 hi (by rw [up_k (by decide), b2 _ (by omega)]; exact ei)
      obtain ⟨A1, B1, v1, v2, v3, v4, v5, v6⟩ := vanish_ok hi o1 (by decide) l' o2 o3
      have fb0 : FB B (upI B 27 26 0) := ⟨fun k c1 c2 c3 => up_r c1, fun j hj => up_j (by omega), fun j hj => up_k (by decide)⟩
      obtain ⟨A2, B2, q, w1, w2, w3, w4, w5, w6⟩ := serve_ok hnc (by omega) (t.keep v3 (fb0.trans v4)) v5
      refine ⟨nI q, A2, B2, ?_, ?_, v3.trans w3, (fb0.trans v4).trans w4, w5⟩
      · unfold f_X0_end
        rw [v1, bdV_mk, w1, bd_mk]
      · show bdV (f_X9_leaves (nI i) (upI B 27 26 0)) (fun S5 => bdV (f_X9_serves S5) fun S6 => some (S6.1 27 26, S6)) = _
        rw [v2, bdV_mk, w2, bdV_mk, w6, v6, up_s, Int32.zero_add])
    refine ⟨v, Sb, Sd, nc, ?_, ?_, a7⟩
    · unfold f_X8_ends
      rw [e1, bd_mk, if10, a1, bdV_mk, a2, bd_mk]
    · unfold f_X9_ends
      rw [e2 Sb a6, bd_mk, if10, a3, bdV_mk, lt_mk]
      exact a4
