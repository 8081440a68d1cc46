theorem hear_val {nc d : Nat} (hnc : nc ≤ 4) (hd : d < 4) {y : Int32} (hy : y = nI d) {S : St} (h9 : S.1 9 0 = nI nc) (h8 : S.1 27 8 = nI nc) (x : Int32) : (f_X8_canHear y x S = some (0, S) ∧ ∀ S' : St, S'.1 27 8 = S.1 27 8 → f_X9_isValue y x S' = some (0, S')) ∨ ∃ v, v ≤ 100 ∧ (nc ≤ d → v = 0) ∧ x = nI v ∧ f_X8_canHear y x S = some (1, S) ∧ ∀ S' : St, S'.1 27 8 = S.1 27 8 → f_X9_isValue y x S' = some (1, S') := by
  subst hy
  unfold f_X8_canHear f_X8_canHear_19 f_X9_isValue f_X9_isValue_18
  by_cases hdn : d < nc
  · have e9 : ∀ S' : St, S'.1 27 8 = S.1 27 8 → ¬ S'.1 27 8 ≤ nI d := fun S' e => by rw [e, h8]; exact nI_ge (by omega) (by omega)
    rw [X6_has_n hnc hdn S h9, bd_mk, if10]
    rcases toInt_cases x 101 (by decide) with hx | ⟨v, hv, rfl⟩
    · refine Or.inl ⟨?_, fun S' e => ?_⟩
      · rw [X8_w0 (by rw [i32_0, i32_100]; omega), bd_mk, bz_0]
      · rw [if_neg (e9 S' e), X9_i0 (by rw [i64_0, i64_100]; omega), bd_mk, bz_0]
    · refine Or.inr ⟨v, by omega, fun z => absurd z (by omega), rfl, ?_, fun S' e => ?_⟩
      · rw [X8_w1 (by rw [i32_0, i32_100, nI_toInt (by omega)]; omega), bd_mk, bz_1]
      · rw [if_neg (e9 S' e), X9_i1 (by rw [i64_0, i64_100, nI_toInt (by omega)]; omega), bd_mk, bz_1]
  · have e9 : ∀ S' : St, S'.1 27 8 = S.1 27 8 → S'.1 27 8 ≤ nI d := fun S' e => by rw [e, h8]; exact nI_le (by omega) (by omega)
    rw [X6_has_bad hnc (x := nI d) (by rw [nI_toInt (by omega)]; omega) S h9, bd_mk, if00]
    rcases toInt_cases x 1 (by decide) with hx | ⟨v, hv, rfl⟩
    · refine Or.inl ⟨?_, fun S' e => ?_⟩
      · rw [X8_w0 (by rw [i32_0]; omega), bd_mk, bz_0]
      · rw [if_pos (e9 S' e), X9_i0 (by rw [i64_0]; omega), bd_mk, bz_0]
    · refine Or.inr ⟨v, by omega, fun z => by omega, rfl, ?_, fun S' e => ?_⟩
      · rw [X8_w1 (by rw [i32_0, nI_toInt (by omega)]; omega), bd_mk, bz_1]
      · rw [if_pos (e9 S' e), X9_i1 (by rw [i64_0, nI_toInt (by omega)]; omega), bd_mk, bz_1]
theorem sim_hears (x x2 x3 x4 x5 : Int32) : Sim (f_X8_hears x x2 x3 x4 x5) (f_X9_hears x x2 x3 x4 x5) := by
  intro nc S hr
  obtain ⟨h1, h2, h3, h4, h5, h6, h7⟩ := id hr
  have hnc := h1.1
  have bad : ∀ (P : f_X8_hears x x2 x3 x4 x5 S = f_X8_hears_49 S) (Q : f_X9_hears x x2 x3 x4 x5 S = f_X9_hears_46 S), ∃ (v : Int32) (S1 S2 : St) (nc' : Nat), f_X8_hears x x2 x3 x4 x5 S = some (v, S1) ∧ f_X9_hears x x2 x3 x4 x5 S1 = some (v, S2) ∧ Rl nc' S2.1 := fun P Q => ⟨-1, S, S, nc, by rw [P]; rfl, by rw [Q]; rfl, hr⟩
  rcases call_cases hnc h4 x with ⟨e1, e2⟩ | ⟨i, hi, rfl, ei, e1, e2⟩
  · exact bad (by unfold f_X8_hears; rw [e1, bd_mk, if00]) (by rw [hears_eq, e2 S rfl, bd_mk, if00])
  rcases hear_val hnc (d := 0) (y := 0) (by decide) rfl h1.2.1 h1.2.2.1 x2 with ⟨a1, a2⟩ | ⟨v0, a1, a2, rfl, a3, a4⟩
  · exact bad (by unfold f_X8_hears; rw [e1, bd_mk, if10, a1, bd_mk, if00]) (by rw [hears_eq, e2 S rfl, bd_mk, if10, a2 S rfl, bd_mk, if00])
  rcases hear_val hnc (d := 1) (y := 1) (by decide) rfl h1.2.1 h1.2.2.1 x3 with ⟨b1, b2⟩ | ⟨v1, b1, b2, rfl, b3, b4⟩
  · exact bad (by unfold f_X8_hears; rw [e1, bd_mk, if10, a3, bd_mk, if10, b1, bd_mk, if00]) (by rw [hears_eq, e2 S rfl, bd_mk, if10, a4 S rfl, bd_mk, if10, b2 S rfl, bd_mk, if00])
  rcases hear_val hnc (d := 2) (y := 2) (by decide) rfl h1.2.1 h1.2.2.1 x4 with ⟨c1, c2⟩ | ⟨v2, c1, c2, rfl, c3, c4⟩
  · exact bad (by unfold f_X8_hears; rw [e1, bd_mk, if10, a3, bd_mk, if10, b3, bd_mk, if10, c1, bd_mk, if00]) (by rw [hears_eq, e2 S rfl, bd_mk, if10, a4 S rfl, bd_mk, if10, b4 S rfl, bd_mk, if10, c2 S rfl, bd_mk, if00])
  rcases hear_val hnc (d := 3) (y := 3) (by decide) rfl h1.2.1 h1.2.2.1 x5 with ⟨d1, d2⟩ | ⟨v3, d1, d2, rfl, d3, d4⟩
  · exact bad (by unfold f_X8_hears; rw [e1, bd_mk, if10, a3, bd_mk, if10, b3, bd_mk, if10, c3, bd_mk, if10, d1, bd_mk, if00]) (by rw [hears_eq, e2 S rfl, bd_mk, if10, a4 S rfl, bd_mk, if10, b4 S rfl, bd_mk, if10, c4 S rfl, bd_mk, if10, d2 S rfl, bd_mk, if00])
  obtain ⟨va, z0, z1, z2, z3⟩ : ∃ va : Nat → Nat, va 0 = v0 ∧ va 1 = v1 ∧ va 2 = v2 ∧ va 3 = v3 := ⟨fun e => match e with | 0 => v0 | 1 => v1 | 2 => v2 | _ => v3, rfl, rfl, rfl, rfl⟩
  have hv : ∀ e, e < 4 → va e ≤ 100 ∧ (nc ≤ e → va e = 0) := fun e he => by
    match e, he with
    | 0, _ => rw [z0]; exact ⟨a1, a2⟩
    | 1, _ => rw [z1]; exact ⟨b1, b2⟩
    | 2, _ => rw [z2]; exact ⟨c1, c2⟩
    | 3, _ => rw [z3]; exact ⟨d1, d2⟩
  obtain ⟨v, Sa, Sb, Sc, Sd, k1, k2, k3, k4, k5, k6, k7⟩ := deed2 hr (F := fun A => bdV (f_X0_setValues (nI (va 0)) (nI (va 1)) (nI (va 2)) (nI (va 3)) A) fun S12 => bd (f_X0_hear (nI i) S12) fun v14 S13 => some (v14, S13)) (G := g_hears (nI i) (nI (va 0)) (nI (va 1)) (nI (va 2)) (nI (va 3))) (fun A B q1 q2 q3 q4 t l => hear_ok hnc hi hv t l (by rw [q2 _ (by omega)]; exact ei))
  rw [z0, z1, z2, z3] at k4
  have k2 : (bdV (f_X0_setValues (nI (va 0)) (nI (va 1)) (nI (va 2)) (nI (va 3)) Sa) fun S12 => bd (f_X0_hear (nI i) S12) fun v14 S13 => some (v14, S13)) = some (v, Sb) := k2
  rw [z0, z1, z2, z3] at k2
  have e8 : Sb.1 27 8 = S.1 27 8 := by rw [k5]
  refine ⟨v, Sb, Sd, nc, ?_, ?_, k7⟩
  · unfold f_X8_hears
    rw [e1, bd_mk, if10, a3, bd_mk, if10, b3, bd_mk, if10, c3, bd_mk, if10, d3, bd_mk, if10, k1, bdV_mk, k2]
  · rw [hears_eq, e2 Sb k6, bd_mk, if10, a4 Sb e8, bd_mk, if10, b4 Sb e8, bd_mk, if10, c4 Sb e8, bd_mk, if10, d4 Sb e8, bd_mk, if10, k3, bdV_mk, k4]
