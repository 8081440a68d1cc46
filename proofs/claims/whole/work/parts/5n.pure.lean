theorem cn_zero {p : Nat → Bool} : ∀ n, (∀ k, k < n → p k = false) → cn p n = 0
  | 0, _ => rfl
  | n + 1, h => by
    rw [cn_s, cn_zero n (fun k hk => h k (by omega)), h n (by omega)]
    rfl
theorem cn_pos {p : Nat → Bool} : ∀ n k, k < n → p k = true → 0 < cn p n
  | n + 1, k, hk, h => by
    rw [cn_s]
    by_cases hkn : k = n
    · subst hkn
      rw [h]
      simp
    · have := cn_pos n k (by omega) h
      omega
theorem X9_free2 {nc c : Nat} {S S' : St} (h1 : RTold nc S.1) (h4 : TR nc S.1 42 0) (hc : c < nc) (e : ∀ j, j < 220 → S'.1 28 j = S.1 28 j) (e2 : S'.1 33 = S.1 33) : f_X9_free (nI c) S' = some (fre S.1 c, S') := by
  have hnc := h1.1
  unfold f_X9_free fre
  rw [ck_n (show c < 4 by omega) (by decide), X9_busy, bd_mk, nI_clamp (by omega), e2, busy_eq hnc h4 hc, (h1.2.2.2.1 c hc).1]
  rw [cn_congr (p := fun k => decide (S'.1 28 (18 * k) = 1) && decide (S'.1 28 (18 * k + 1) = nI c)) (q := fun k => decide (S.1 28 (18 * k) = 1) && decide (S.1 28 (18 * k + 1) = nI c)) 12 (fun k hk => by rw [e _ (by omega), e _ (by omega)])]
theorem X9_chance2 {nc c : Nat} {S S' : St} (h1 : RTold nc S.1) (h4 : TR nc S.1 42 0) (hc : c < nc) (e : ∀ j, j < 220 → S'.1 28 j = S.1 28 j) (e2 : S'.1 33 = S.1 33) : f_X9_chance (nI c) S' = some (chn (10 * fre S.1 c - S.1 43 c), S') := by
  have hnc := h1.1
  unfold f_X9_chance
  rw [X9_free2 h1 h4 hc e e2, bd_mk, ix216, ck_n (by omega) (by decide), X9_chanceBy, bd_mk, nI_clamp (by omega), e _ (by omega), ← now_guard h4 (by omega) hc]
theorem off_take {c : Nat} {v ch : Int32} {w : Int32} (hch : ch = chn w) (U : St) : (if ch = 0 then f_X9_offers_69 U else (if 10 ≤ ch then f_X9_offers_72 (nI c) v U else (bd (f_X9_draw U) fun v12 S11 => if v12 < ch then f_X9_offers_72 (nI c) v S11 else f_X9_offers_69 S11))) = if (tkn ch (U.1 28 281)).1 = 0 then f_X9_offers_69 (upI U 28 281 (tkn ch (U.1 28 281)).2) else f_X9_offers_72 (nI c) v (upI U 28 281 (tkn ch (U.1 28 281)).2) := by
  subst hch
  unfold tkn
  rcases chn_cases w with h | h | ⟨h0, h1, h2⟩
  · rw [h, if_pos rfl, if_pos rfl, if_pos rfl, upI_self]
  · rw [h, if_neg (show ¬ (10 : Int32) = 0 from by decide), if_pos (show (10 : Int32) ≤ 10 from by decide), if_neg (show ¬ (10 : Int32) = 0 from by decide), if_pos (rfl : (10 : Int32) = 10), if_neg (show ¬ (1 : Int32) = 0 from by decide), upI_self]
  · rw [if_neg h0, if_neg h2, if_neg h0, if_neg h1, X9_draw, bd_mk]
    by_cases h3 : chn w ≤ drw (U.1 28 281 * 69069 + 1)
    · rw [if_neg (Int32.not_lt.mpr h3), if_pos h3, if_pos rfl]
    · rw [if_pos (Int32.not_le.mp h3), if_neg h3, if_neg (show ¬ (1 : Int32) = 0 from by decide)]
theorem sim_offers (x y : Int32) : Sim (f_X8_offers x y) (f_X9_offers x y) := by
  intro nc S hr
  obtain ⟨h1, h2, h3, h4, h5, h6, h7⟩ := id hr
  have hnc := h1.1
  rcases cell_cases h1 x with ⟨e1, e2⟩ | ⟨c, hc, hc4, rfl, e1, e2⟩
  · refine ⟨-1, S, S, nc, ?_, ?_, hr⟩
    · unfold f_X8_offers
      rw [e1]
      rfl
    · unfold f_X9_offers
      rw [e2 S rfl]
      rfl
  · rcases toInt_cases y 101 (by decide) with hy | ⟨val, hval, rfl⟩
    · refine ⟨-1, S, S, nc, ?_, ?_, hr⟩
      · unfold f_X8_offers f_X8_offers_21
        rw [e1, bd_mk, if10, X8_w0 (by rw [i32_0, i32_100]; omega)]
        rfl
      · unfold f_X9_offers f_X9_offers_20
        rw [e2 S rfl, bd_mk, if10, X9_i0 (by rw [i64_0, i64_100]; omega)]
        rfl
    · have hw := X8_w1 (x := nI val) (l := 0) (m := 100) (by rw [i32_0, i32_100, nI_toInt (by omega)]; omega)
      have hw9 := X9_i1 (x := nI val) (l := 0) (m := 100) (by rw [i64_0, i64_100, nI_toInt (by omega)]; omega)
      have hpe := present_eq hnc h4
      by_cases hfull : ∃ k, k < 12 ∧ S.1 45 k = -9
      · obtain ⟨i0, ⟨hi, ho⟩, hmin⟩ := pk_least _ hfull
        have hlt : ∀ j, j < i0 → ¬ S.1 45 j = -9 := fun j hj z => hmin j hj ⟨by omega, z⟩
        have hn12 : ¬ nI (cn (fun k => decide (S.1 28 (18 * k) = 1)) 12) = 12 := by
          intro z
          have hz := nI_inj (b := 12) (by have := cn_le (fun k => decide (S.1 28 (18 * k) = 1)) 12; omega) (by decide) z
          have := cn_pos (p := fun k => decide (S.1 45 k = -9)) 12 i0 hi (by simp [ho])
          omega
        have hi0 : ¬ nI i0 = -9 := neg9_ne (by omega)
        have w0 : S.1 28 (18 * i0) = 0 := (now_own hnc h4 hi).mp ho
        have w1 : ∀ j, j < i0 → S.1 28 (18 * j) = 1 := fun j hj => by
          rcases now_is h4 (show j < 12 by omega) with z | z
          · exact absurd ((now_own hnc h4 (by omega)).mpr z) (hlt j hj)
          · exact z
        obtain ⟨Sa, ra, rb⟩ := rem_ok h5
        have a : ∀ k, 18 ≤ k → k < 59 → Sa.1 k = S.1 k := fun k b1 b2 => rb k (by omega) (by omega)
        have a0 : ∀ k, k < 17 → Sa.1 k = S.1 k := fun k b1 => rb k (by omega) (by omega)
        obtain ⟨⟨ta1, ta2, ta3, ta4⟩, hcr, hp⟩ := now_of h4
        have ta1 : S.1 42 0 = S.1 28 281 := ta1
        have ta2 : S.1 42 1 = S.1 28 282 := ta2
        have ta3 : ∀ d, d < 4 → d < nc → S.1 43 d = S.1 28 (216 + d) := ta3
        have ta4 : ∀ d, d < 24 → S.1 44 d = S.1 28 (220 + d) := ta4
        generalize hT1 : upI Sa 44 (6 * c) (Sa.1 44 (6 * c) + 1) = T1
        have t1 : ∀ k, k ≠ 44 → T1.1 k = Sa.1 k := fun k b1 => by rw [← hT1, up_r b1]
        have t144 : ∀ j, T1.1 44 j = if j = 6 * c then S.1 44 (6 * c) + 1 else S.1 44 j := fun j => by rw [← hT1, up_e, a 44 (by decide) (by decide)]; simp
        have hch : f_X0_chanceOf (nI c) T1 = some (chn (10 * fre S.1 c - S.1 43 c), T1) := by
          rw [X0_chanceOf hc4]
          unfold fre
          rw [t1 10 (by decide), t1 45 (by decide), t1 43 (by decide), a0 10 (by decide), a 45 (by decide) (by decide), a 43 (by decide) (by decide)]
        generalize hce : chn (10 * fre S.1 c - S.1 43 c) = ch at hch
        have s42 : T1.1 42 0 = S.1 42 0 := by rw [t1 42 (by decide), a 42 (by decide) (by decide)]
        have hx0 : f_X8_offers (nI c) (nI val) S = bd (f_X0_offer (nI c) (nI val) Sa) fun v9 S8 => some (v9, S8) := by
          unfold f_X8_offers
          rw [e1, bd_mk, if10, hw, bd_mk, if10, X7_lowest hi S ho hlt, bd_mk, if_neg hi0, ra, bdV_mk]
        have hlow : f_X7_lowestAbsent T1 = some (nI i0, T1) := X7_lowest hi T1 (by rw [t1 45 (by decide), a 45 (by decide) (by decide)]; exact ho) (fun j hj => by rw [t1 45 (by decide), a 45 (by decide) (by decide)]; exact hlt j hj)
        have hx1 : f_X0_offer (nI c) (nI val) Sa = if (tkn ch (S.1 42 0)).1 = 0 then some (-9, upI T1 42 0 (tkn ch (S.1 42 0)).2) else (bdV (f_X7_tallyOne (nI c) 1 (upI T1 42 0 (tkn ch (S.1 42 0)).2)) fun S8 => bdV (f_X7_appear (nI i0) (nI c) (nI val) S8) fun S9 => some (nI i0, S9)) := by
          unfold f_X0_offer f_X0_offer_35
          rw [X7_tally (y := 0) hc4 (show 0 < 6 by decide) rfl, Nat.add_zero, hT1, bdV_mk, hlow, bd_mk, if_neg hi0, hch, bd_mk, X0_isTaken, bd_mk, s42]
        generalize hse : (tkn ch (S.1 42 0)).2 = s' at hx1
        have hm0 : ∀ Sb : St, (∀ k, (k < 14 ∨ (16 < k ∧ k < 42) ∨ 59 ≤ k) → Sb.1 k = Sa.1 k) → ∃ Sc, f_X9_minds Sb = some Sc ∧ (∀ k, k ≠ 28 → k ≠ 27 → Sc.1 k = Sb.1 k) ∧ (∀ j, j ≠ 2 → Sc.1 27 j = S.1 27 j) ∧ (∀ j, j < 849 → Sc.1 28 j = S.1 28 j) ∧ f_X9_offers (nI c) (nI val) Sb = if (tkn ch (S.1 42 0)).1 = 0 then some (-9, upI (upI Sc 28 (220 + 6 * c) (S.1 28 (220 + 6 * c) + 1)) 28 281 s') else f_X9_offers_72 (nI c) (nI val) (upI (upI Sc 28 (220 + 6 * c) (S.1 28 (220 + 6 * c) + 1)) 28 281 s') := by
          intro Sb xb
          have b27 : Sb.1 27 = S.1 27 := by rw [xb 27 (by omega), a 27 (by decide) (by decide)]
          have b28 : Sb.1 28 = S.1 28 := by rw [xb 28 (by omega), a 28 (by decide) (by decide)]
          have b33 : Sb.1 33 = S.1 33 := by rw [xb 33 (by omega), a 33 (by decide) (by decide)]
          obtain ⟨Sc, ma, mb, mc, md⟩ := minds_ok (Sb := Sb) h5 (by rw [b27])
          rw [b27] at mc
          rw [b28] at md
          refine ⟨Sc, ma, mb, mc, md, ?_⟩
          unfold f_X9_offers
          rw [e2 Sb (by rw [b27]), bd_mk, if10, hw9, bd_mk, if10, X9_calls_ok h4 b28, bd_mk, if_neg hn12, ma, bdV_mk, X9_counts (y := 6) hc4 (show 0 < 6 by decide) rfl, bdV_mk, Nat.add_zero, md _ (by omega)]
          rw [X9_chance2 h1 h4 hc (fun j hj => by rw [up_j (by omega), md j (by omega)]) (by rw [up_r (by decide), mb 33 (by decide) (by decide), b33]), bd_mk, hce, off_take hce.symm]
          have e281 : (upI Sc 28 (220 + 6 * c) (S.1 28 (220 + 6 * c) + 1)).1 28 281 = S.1 42 0 := by rw [up_j (by omega), md 281 (by omega), ta1]
          rw [e281, hse]
          rfl
        by_cases htk : (tkn ch (S.1 42 0)).1 = 0
        · rw [if_pos htk] at hx1
          have xb : ∀ k, (k < 14 ∨ (16 < k ∧ k < 42) ∨ 59 ≤ k) → (upI T1 42 0 s').1 k = Sa.1 k := fun k hk => by rw [up_r (by omega), t1 k (by omega)]
          obtain ⟨Sc, ma, mb, mc, md, hm⟩ := hm0 _ xb
          rw [if_pos htk] at hm
          refine ⟨-9, upI T1 42 0 s', _, nc, by rw [hx0, hx1, bd_mk], hm, ?_⟩
          refine deed hr ra rb xb (by rw [up_k (by decide), t1 14 (by decide), a0 14 (by decide)]; exact h7.1) ma (fun k b1 b2 b3 => by rw [up_r b2, up_r b2]) (fun j hj => by rw [up_k (by decide), up_k (by decide)]) (by rw [up_k (by decide), up_k (by decide), mc 25 (by decide)]; exact h7.2) (fun j hj => by rw [up_j (by omega), up_j (by omega)]) ?_
          generalize hD : upI (upI Sc 28 (220 + 6 * c) (S.1 28 (220 + 6 * c) + 1)) 28 281 s' = Sd
          have d28 : ∀ j, j < 283 → j ≠ 281 → j ≠ 220 + 6 * c → Sd.1 28 j = S.1 28 j := fun j b1 b2 b3 => by rw [← hD, up_j b2, up_j b3, md j (by omega)]
          have dx : ∀ k, 42 < k → k < 59 → k ≠ 44 → Sd.1 k = S.1 k := fun k b1 b2 b3 => by rw [← hD, up_r (by omega), up_r (by omega), mb k (by omega) (by omega), up_r (by omega), t1 k (by omega), a k (by omega) (by omega)]
          have d42 : ∀ j, j ≠ 0 → Sd.1 42 j = S.1 42 j := fun j b1 => by rw [← hD, up_k (by decide), up_k (by decide), mb 42 (by decide) (by decide), up_j b1, t1 42 (by decide), a 42 (by decide) (by decide)]
          have d44 : ∀ j, Sd.1 44 j = T1.1 44 j := fun j => by rw [← hD, up_k (by decide), up_k (by decide), mb 44 (by decide) (by decide), up_k (by decide)]
          refine ⟨⟨?_, ?_, fun d hd hd' => ?_, fun j hj => ?_⟩, fun i hi => (hcr i hi).loc (fun k b1 b2 => ?_) (fun d b1 => ?_) (fun d b1 => ?_) (fun j b1 => ?_), hp.loc ?_ (fun k i b1 b2 b3 => ?_) (fun j b1 b2 => ?_)⟩
          · show Sd.1 42 0 = Sd.1 28 (0 + 281)
            rw [← hD, up_s, up_k (by decide), up_k (by decide), mb 42 (by decide) (by decide), up_s]
          · show Sd.1 42 1 = Sd.1 28 (0 + 282)
            rw [d42 1 (by decide), d28 _ (by omega) (by omega) (by omega)]; exact ta2
          · show Sd.1 43 d = Sd.1 28 (0 + (216 + d))
            rw [dx 43 (by decide) (by decide) (by decide), Nat.zero_add, d28 _ (by omega) (by omega) (by omega)]; exact ta3 d hd hd'
          · show Sd.1 44 j = Sd.1 28 (0 + (220 + j))
            rw [d44, t144, Nat.zero_add]
            by_cases hjc : j = 6 * c
            · subst hjc
              rw [if_pos rfl, ← hD, up_j (by omega), up_s, ta4 _ hj]
            · rw [if_neg hjc, d28 _ (by omega) (by omega) (by omega)]; exact ta4 j hj
          · show Sd.1 (42 + k) i = S.1 (42 + k) i
            rw [dx _ (by omega) (by omega) (by omega)]
          · show Sd.1 54 _ = S.1 54 _
            rw [dx 54 (by decide) (by decide) (by decide)]
          · show Sd.1 55 _ = S.1 55 _
            rw [dx 55 (by decide) (by decide) (by decide)]
          · show Sd.1 28 (0 + _) = S.1 28 _
            rw [Nat.zero_add, d28 _ (by omega) (by omega) (by omega)]
          · exact d42 15 (by decide)
          · show Sd.1 (42 + k) i = S.1 (42 + k) i
            rw [dx _ (by omega) (by omega) (by omega)]
          · show Sd.1 28 (0 + j) = S.1 28 j
            rw [Nat.zero_add, d28 _ (by omega) (by omega) (by omega)]
        · rw [if_neg htk] at hx1
          have e1c : 6 * c + 1 ≠ 6 * c := by omega
          have t2v : (upI T1 42 0 s').1 44 (6 * c + 1) = S.1 44 (6 * c + 1) := by rw [up_k (by decide), t144, if_neg e1c]
          obtain ⟨T4, p1, p2, p3, ⟨q1, q2, q3, q4, q5, q6, q7, q8, q9⟩, p5, p6⟩ := X7_appear hi hc4 (nI val) (upI (upI T1 42 0 s') 44 (6 * c + 1) (S.1 44 (6 * c + 1) + 1))
          have u3 : ∀ k, k ≠ 42 → k ≠ 44 → (upI (upI T1 42 0 s') 44 (6 * c + 1) (S.1 44 (6 * c + 1) + 1)).1 k = Sa.1 k := fun k b1 b2 => by rw [up_r b2, up_r b1, t1 k b2]
          have xb : ∀ k, (k < 14 ∨ (16 < k ∧ k < 42) ∨ 59 ≤ k) → T4.1 k = Sa.1 k := fun k hk => by rw [p2 k (by omega), u3 k (by omega) (by omega)]
          obtain ⟨Sc, ma, mb, mc, md, hm⟩ := hm0 _ xb
          rw [if_neg htk] at hm
          generalize hU2 : upI (upI Sc 28 (220 + 6 * c) (S.1 28 (220 + 6 * c) + 1)) 28 281 s' = U2 at hm
          have hu28 : ∀ j, j < 283 → j ≠ 281 → j ≠ 220 + 6 * c → U2.1 28 j = S.1 28 j := fun j b1 b2 b3 => by rw [← hU2, up_j b2, up_j b3, md j (by omega)]
          obtain ⟨Sd, z1, z2, z3, z4⟩ := off_102 hi hc4 (nI val) 18 0 FU (upI U2 28 (220 + (6 * c + 1)) (S.1 28 (220 + (6 * c + 1)) + 1)) (by omega) (by decide)
          have z4 := z4 (fun j b1 b2 => absurd b2 (by omega))
          have hm2 : f_X9_offers (nI c) (nI val) T4 = some (nI i0, Sd) := by
            rw [hm]
            unfold f_X9_offers_72
            rw [X9_counts (y := 7) hc4 (show 1 < 6 by decide) rfl, bdV_mk, hu28 _ (by omega) (by omega) (by omega)]
            rw [show f_X9_offers_82 FU (nI c) (nI val) 0 (upI U2 28 (220 + (6 * c + 1)) (S.1 28 (220 + (6 * c + 1)) + 1)) = f_X9_offers_102 FU (nI c) (nI val) (nI i0) 0 (upI U2 28 (220 + (6 * c + 1)) (S.1 28 (220 + (6 * c + 1)) + 1)) from off_82 hi (nI val) _ (by rw [up_j (by omega), hu28 _ (by omega) (by omega) (by omega), w0]; exact ne01) (fun j hj => by rw [up_j (by omega), hu28 _ (by omega) (by omega) (by omega)]; exact w1 j hj) i0 0 FU (by omega) (by show i0 < 3000; omega)]
            exact z1
          refine ⟨nI i0, T4, Sd, nc, ?_, hm2, ?_⟩
          · rw [hx0, hx1, X7_tally (y := 1) hc4 (show 1 < 6 by decide) rfl, bdV_mk, t2v, p1, bdV_mk, bd_mk]
          · refine deed hr ra rb xb (by rw [p2 14 (by decide), u3 14 (by decide) (by decide), a0 14 (by decide)]; exact h7.1) ma (fun k b1 b2 b3 => by rw [z2 k b2, up_r b2, ← hU2, up_r b2, up_r b2]) (fun j hj => by rw [z2 27 (by decide), up_k (by decide), ← hU2, up_k (by decide), up_k (by decide)]) (by rw [z2 27 (by decide), up_k (by decide), ← hU2, up_k (by decide), up_k (by decide), mc 25 (by decide)]; exact h7.2) (fun j hj => by rw [z3 j (by omega), up_j (by omega), ← hU2, up_j (by omega), up_j (by omega)]) ?_
            have d28 : ∀ j, j < 283 → j ≠ 281 → j ≠ 220 + 6 * c → j ≠ 220 + (6 * c + 1) → (j < 18 * i0 ∨ 18 * i0 + 18 ≤ j) → Sd.1 28 j = S.1 28 j := fun j b1 b2 b3 b4 b5 => by rw [z3 j b5, up_j b4, hu28 j b1 b2 b3]
            have dT : ∀ k, k ≠ 27 → k ≠ 28 → Sd.1 k = T4.1 k := fun k b1 b2 => by rw [z2 k b2, up_r b2, ← hU2, up_r b2, up_r b2, mb k b2 b1]
            have dx : ∀ k, 55 < k → k < 59 → Sd.1 k = S.1 k := fun k b1 b2 => by rw [dT k (by omega) (by omega), p2 k (by omega), u3 k (by omega) (by omega), a k (by omega) (by omega)]
            have d42 : ∀ j, j ≠ 0 → Sd.1 42 j = S.1 42 j := fun j b1 => by rw [dT 42 (by decide) (by decide), p2 42 (by decide), up_k (by decide), up_j b1, t1 42 (by decide), a 42 (by decide) (by decide)]
            refine ⟨⟨?_, ?_, fun d hd hd' => ?_, fun j hj => ?_⟩, fun i hi' => ?_, hp.loc ?_ (fun k i b1 b2 b3 => ?_) (fun j b1 b2 => ?_)⟩
            · show Sd.1 42 0 = Sd.1 28 (0 + 281)
              rw [dT 42 (by decide) (by decide), p2 42 (by decide), up_k (by decide), up_s, z3 _ (by omega), up_j (by omega), ← hU2, up_s]
            · show Sd.1 42 1 = Sd.1 28 (0 + 282)
              rw [d42 1 (by decide), d28 _ (by omega) (by omega) (by omega) (by omega) (by omega)]; exact ta2
            · show Sd.1 43 d = Sd.1 28 (0 + (216 + d))
              rw [dT 43 (by decide) (by decide), p2 43 (by decide), u3 43 (by decide) (by decide), a 43 (by decide) (by decide), Nat.zero_add, d28 _ (by omega) (by omega) (by omega) (by omega) (by omega)]; exact ta3 d hd hd'
            · show Sd.1 44 j = Sd.1 28 (0 + (220 + j))
              rw [dT 44 (by decide) (by decide), p2 44 (by decide), Nat.zero_add, z3 _ (by omega)]
              by_cases hj1 : j = 6 * c + 1
              · subst hj1
                rw [up_s, up_s, ta4 _ hj]
              · rw [up_j hj1, up_j (by omega), up_k (by decide), t144]
                by_cases hjc : j = 6 * c
                · subst hjc
                  rw [if_pos rfl, ← hU2, up_j (by omega), up_s, ta4 _ hj]
                · rw [if_neg hjc, hu28 _ (by omega) (by omega) (by omega)]; exact ta4 j hj
            · by_cases hii : i = i0
              · subst hii
                refine Or.inr ⟨?_, ⟨c, hc, ?_⟩, Or.inl ?_, ?_, ?_, ?_, ?_, ?_, ?_, ?_, ?_, ?_, fun d hd => ⟨?_, ?_, fun hn => ?_⟩, fun d hd => ?_, ?_, ?_⟩
                · show Sd.1 28 (0 + 18 * i) = 1
                  rw [Nat.zero_add]; exact z4 0 (by omega)
                · show Sd.1 45 i = nI c
                  rw [dT 45 (by decide) (by decide), q1]
                · show Sd.1 46 i = -9
                  rw [dT 46 (by decide) (by decide), q2]
                · show Sd.1 45 i = Sd.1 28 (0 + (18 * i + 1))
                  rw [dT 45 (by decide) (by decide), q1, Nat.zero_add, z4 1 (by omega)]; rfl
                · show Sd.1 46 i = Sd.1 28 (0 + (18 * i + 2))
                  rw [dT 46 (by decide) (by decide), q2, Nat.zero_add, z4 2 (by omega)]; rfl
                · show Sd.1 47 i = Sd.1 28 (0 + (18 * i + 3))
                  rw [dT 47 (by decide) (by decide), q3, Nat.zero_add, z4 3 (by omega), if_neg (by omega), if_neg (by omega), if_neg (by omega), if_neg (by omega), if_neg (by omega)]
                · show Sd.1 48 i = Sd.1 28 (0 + (18 * i + 4))
                  rw [dT 48 (by decide) (by decide), q4, Nat.zero_add, z4 4 (by omega), if_neg (by omega), if_neg (by omega), if_neg (by omega), if_neg (by omega), if_neg (by omega)]
                · show Sd.1 49 i = Sd.1 28 (0 + (18 * i + 9))
                  rw [dT 49 (by decide) (by decide), q5, Nat.zero_add, z4 9 (by omega), if_neg (by omega), if_neg (by omega), if_neg (by omega), if_neg (by omega), if_neg (by omega)]
                · show Sd.1 50 i = Sd.1 28 (0 + (18 * i + 5))
                  rw [dT 50 (by decide) (by decide), q6, Nat.zero_add, z4 5 (by omega), if_neg (by omega), if_neg (by omega), if_neg (by omega), if_neg (by omega), if_neg (by omega)]
                · show Sd.1 51 i = Sd.1 28 (0 + (18 * i + 6))
                  rw [dT 51 (by decide) (by decide), q7, Nat.zero_add, z4 6 (by omega), if_neg (by omega), if_neg (by omega), if_neg (by omega), if_neg (by omega), if_neg (by omega)]
                · show Sd.1 52 i = Sd.1 28 (0 + (18 * i + 7))
                  rw [dT 52 (by decide) (by decide), q8, Nat.zero_add, z4 7 (by omega), if_neg (by omega), if_neg (by omega), if_neg (by omega), if_neg (by omega), if_neg (by omega)]
                · show Sd.1 53 i = Sd.1 28 (0 + (18 * i + 8))
                  rw [dT 53 (by decide) (by decide), q9, Nat.zero_add, z4 8 (by omega)]; rfl
                · show Sd.1 54 (4 * i + d) = Sd.1 28 (0 + (18 * i + 10 + d))
                  rw [dT 54 (by decide) (by decide), p5, if_pos (by omega), Nat.zero_add, Nat.add_assoc, z4 (10 + d) (by omega), if_neg (show ¬ 10 + d = 0 by omega), if_neg (show ¬ 10 + d = 1 by omega), if_neg (show ¬ 10 + d = 2 by omega), if_neg (show ¬ 10 + d = 8 by omega)]
                  by_cases hdc : d = c
                  · subst hdc
                    rw [if_pos rfl, if_pos rfl]
                  · rw [if_neg (show ¬ 4 * i + d = 4 * i + c by omega), if_neg (show ¬ 10 + d = 10 + c by omega)]
                · show ∃ l, l ≤ 6400 ∧ Sd.1 54 (4 * i + d) = nI l
                  rw [dT 54 (by decide) (by decide), p5, if_pos (by omega)]
                  by_cases hdc : d = c
                  · subst hdc
                    rw [if_pos rfl]
                    exact ⟨64 * val, by omega, by rw [show (64 : Int32) = nI 64 from rfl, pk_mul]⟩
                  · rw [if_neg (show ¬ 4 * i + d = 4 * i + c by omega)]
                    exact ⟨0, by omega, rfl⟩
                · show Sd.1 54 (4 * i + d) = 0
                  rw [dT 54 (by decide) (by decide), p5, if_pos (by omega), if_neg (show ¬ 4 * i + d = 4 * i + c by omega)]
                · show Sd.1 55 (4 * i + d) = Sd.1 28 (0 + (18 * i + 14 + d))
                  rw [dT 55 (by decide) (by decide), p6, if_pos (by omega), Nat.zero_add, Nat.add_assoc, z4 (14 + d) (by omega), if_neg (show ¬ 14 + d = 0 by omega), if_neg (show ¬ 14 + d = 1 by omega), if_neg (show ¬ 14 + d = 2 by omega), if_neg (show ¬ 14 + d = 8 by omega), if_neg (show ¬ 14 + d = 10 + c by omega)]
                · show -6400 ≤ (Sd.1 52 i).toInt
                  rw [dT 52 (by decide) (by decide), q8]; decide
                · show (Sd.1 52 i).toInt ≤ 6400
                  rw [dT 52 (by decide) (by decide), q8]; decide
              · refine (hcr i hi').loc (fun k b1 b2 => ?_) (fun d b1 => ?_) (fun d b1 => ?_) (fun j b1 => ?_)
                · show Sd.1 (42 + k) i = S.1 (42 + k) i
                  rw [dT _ (by omega) (by omega), p3 _ i (by omega) (by omega) hii, u3 _ (by omega) (by omega), a _ (by omega) (by omega)]
                · show Sd.1 54 (4 * i + d) = S.1 54 (4 * i + d)
                  rw [dT 54 (by decide) (by decide), p5, if_neg (by omega), u3 54 (by decide) (by decide), a 54 (by decide) (by decide)]
                · show Sd.1 55 (4 * i + d) = S.1 55 (4 * i + d)
                  rw [dT 55 (by decide) (by decide), p6, if_neg (by omega), u3 55 (by decide) (by decide), a 55 (by decide) (by decide)]
                · show Sd.1 28 (0 + _) = S.1 28 _
                  rw [Nat.zero_add, d28 _ (by omega) (by omega) (by omega) (by omega) (by omega)]
            · exact d42 15 (by decide)
            · show Sd.1 (42 + k) i = S.1 (42 + k) i
              rw [dx _ (by omega) (by omega)]
            · show Sd.1 28 (0 + j) = S.1 28 j
              rw [Nat.zero_add, d28 _ (by omega) (by omega) (by omega) (by omega) (by omega)]
      · have hl : ∀ j, j < 12 → ¬ S.1 45 j = -9 := fun j hj z => hfull ⟨j, hj, z⟩
        have hz := cn_zero (p := fun k => decide (S.1 45 k = -9)) 12 (fun k hk => by simp [hl k hk])
        refine ⟨-3, S, S, nc, ?_, ?_, hr⟩
        · unfold f_X8_offers
          rw [e1, bd_mk, if10, hw, bd_mk, if10, X7_lowest_none S hl, bd_mk, if_pos rfl]
        · unfold f_X9_offers
          rw [e2 S rfl, bd_mk, if10, hw9, bd_mk, if10, X9_calls_ok h4 rfl, bd_mk, show cn (fun k => decide (S.1 28 (18 * k) = 1)) 12 = 12 by omega, if_pos (show nI 12 = 12 from rfl)]
