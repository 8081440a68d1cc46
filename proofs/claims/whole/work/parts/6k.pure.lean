/-! ===== tells: the text read ===== -/
def JB (B B' : St) : Prop := (∀ k, k ≠ 27 → k < 36 ∨ 39 < k → B'.1 k = B.1 k) ∧ ∀ j, j < 12 ∨ 23 < j → B'.1 27 j = B.1 27 j
theorem IB.jb {B B' : St} (h : IB B B') : JB B B' := ⟨h.1, fun j hj => h.2 j (by omega)⟩
theorem JB.trans {A B C : St} (h : JB A B) (h' : JB B C) : JB A C := ⟨fun k hk hj => (h'.1 k hk hj).trans (h.1 k hk hj), fun j hj => (h'.2 j hj).trans (h.2 j hj)⟩
theorem JB.w (B : St) {j : Nat} (hj : 12 ≤ j ∧ j ≤ 23) (v : Int32) : JB B (upI B 27 j v) := ⟨fun k' h h' => up_r h, fun j' h => up_j (by omega)⟩
theorem JB.up (B : St) {k : Nat} (hk : 36 ≤ k ∧ k ≤ 39) (j : Nat) (v : Int32) : JB B (upI B k j v) := ⟨fun k' h h' => up_r (by omega), fun j' h => up_k (by omega)⟩
theorem TXr.jb {t : Nat → Int32} {len : Nat} {B B' : St} (h : TXr t len B) (n : JB B B') : TXr t len B' := ⟨by rw [n.2 7 (by omega)]; exact h.1, fun i hi => by rw [n.1 32 (by omega) (by omega)]; exact h.2 i hi⟩
theorem setting_some (x : Int32) (S : St) : ∃ v, f_X4_settingOf x S = some (v, S) := by
  rw [X4_settingOf]
  split
  · exact ⟨_, rfl⟩
  split
  · exact ⟨_, rfl⟩
  split
  · exact ⟨_, rfl⟩
  split
  · exact ⟨_, rfl⟩
  split
  · exact ⟨_, rfl⟩
  exact ⟨_, rfl⟩
theorem read_step (f : Nat) (x1 : Int32) (S : St) (h1 : S.1 1 6 = 1) (h2 : ¬ 120 ≤ x1) : f_X4_read_26 (f + 1) x1 S = bd (cItem S) fun v S9 => if v = 0 then some ((-10) - (S9.1 1 5), S9) else (bdV (f_X4_nextToken S9) fun S11 => f_X4_read_26 f (x1 + 1) S11) := by
  rw [f_X4_read_26, h1, if_neg (show ¬ (1 : Int32) = 0 by decide), if_neg h2, if_pos rfl]
  unfold cItem
  have e84 : ∀ T, f_X4_read_84 (f_X4_read_26 f) x1 T = some ((-10) - (T.1 1 5), T) := fun T => by rw [f_X4_read_84, f_X4_read_85, if00]
  have e80 : ∀ T, f_X4_read_80 (f_X4_read_26 f) x1 T = bdV (f_X4_nextToken T) fun S11 => f_X4_read_26 f (x1 + 1) S11 := fun T => by rw [f_X4_read_80, f_X4_read_85, if10]
  simp only [e84, e80]
  by_cases h : S.1 1 7 = 99
  · rw [if_pos h, if_pos h]
  · rw [if_neg h, if_neg h]
    obtain ⟨v, hv⟩ := setting_some (S.1 1 7) S
    rw [hv, bd_mk, bd_mk]
theorem read_loop {t : Nat → Int32} {len : Nat} (hl : len ≤ 120) : ∀ (m p it : Nat) (A B : St), p ≤ len → len - p ≤ m → it ≤ p → TXc t len A → TXr t len B → DR A B → B.1 27 16 = nI it → Tok len p A B →
    ∃ A' B', IA A A' ∧ JB B B' ∧ ((∃ q, q ≤ 120 ∧ (∀ f, m < f → f_X4_read_26 f (nI it) A = some ((-10) - nI q, A')) ∧ (∀ f, m < f → f_X9_reads_60 f B = some (0, B')) ∧ B'.1 27 13 = nI q) ∨ (∃ it', it' ≤ 120 ∧ (∀ f, m < f → f_X4_read_26 f (nI it) A = some (nI it', A')) ∧ (∀ f, m < f → f_X9_reads_60 f B = some (1, B')) ∧ B'.1 27 16 = nI it' ∧ DR A' B')) := by
  intro m
  induction m with
  | zero =>
    intro p it A B hp hm hit hx hy hd h16 ⟨q, p', k3, k4, k5, k6, k7, k8, k9⟩
    rcases k9 with ⟨c1, c2⟩ | ⟨cp, -⟩
    · refine ⟨A, B, IA.refl A, ⟨fun _ _ _ => rfl, fun _ _ => rfl⟩, Or.inr ⟨it, by omega, fun f hf => ?_, fun f hf => ?_, h16, hd⟩⟩
      · obtain ⟨f, rfl⟩ : ∃ g, f = g + 1 := ⟨f - 1, by omega⟩
        rw [f_X4_read_26, c1, if_pos rfl, f_X4_read_108]
      · obtain ⟨f, rfl⟩ : ∃ g, f = g + 1 := ⟨f - 1, by omega⟩
        rw [f_X9_reads_60, c2, if_pos rfl]
    · exact absurd k8 (by omega)
  | succ m ih =>
    intro p it A B hp hm hit hx hy hd h16 ⟨q, p', k3, k4, k5, k6, k7, k8, k9⟩
    rcases k9 with ⟨c1, c2⟩ | ⟨cp, c⟩
    · refine ⟨A, B, IA.refl A, ⟨fun _ _ _ => rfl, fun _ _ => rfl⟩, Or.inr ⟨it, by omega, fun f hf => ?_, fun f hf => ?_, h16, hd⟩⟩
      · obtain ⟨f, rfl⟩ : ∃ g, f = g + 1 := ⟨f - 1, by omega⟩
        rw [f_X4_read_26, c1, if_pos rfl, f_X4_read_108]
      · obtain ⟨f, rfl⟩ : ∃ g, f = g + 1 := ⟨f - 1, by omega⟩
        rw [f_X9_reads_60, c2, if_pos rfl]
    have h120 : ¬ (120 : Int32) ≤ nI it := nI_ge (b := 120) (by omega) (by decide)
    have bad : ¬ A.1 1 6 = 0 → ¬ A.1 1 6 = 1 → ¬ B.1 27 14 = -1 → (∀ S, f_X9_which (B.1 27 14) S = some (-9, S)) → ∃ A' B', IA A A' ∧ JB B B' ∧ ((∃ q, q ≤ 120 ∧ (∀ f, m + 1 < f → f_X4_read_26 f (nI it) A = some ((-10) - nI q, A')) ∧ (∀ f, m + 1 < f → f_X9_reads_60 f B = some (0, B')) ∧ B'.1 27 13 = nI q) ∨ (∃ it', it' ≤ 120 ∧ (∀ f, m + 1 < f → f_X4_read_26 f (nI it) A = some (nI it', A')) ∧ (∀ f, m + 1 < f → f_X9_reads_60 f B = some (1, B')) ∧ B'.1 27 16 = nI it' ∧ DR A' B')) := fun z1 z2 z3 z4 => by
      refine ⟨A, B, IA.refl A, ⟨fun _ _ _ => rfl, fun _ _ => rfl⟩, Or.inl ⟨q, k3, fun f hf => ?_, fun f hf => ?_, k5⟩⟩
      · obtain ⟨f, rfl⟩ : ∃ g, f = g + 1 := ⟨f - 1, by omega⟩
        rw [f_X4_read_26, if_neg z1, if_neg h120, if_neg z2, f_X4_read_84, f_X4_read_85, if00, k4]
      · obtain ⟨f, rfl⟩ : ∃ g, f = g + 1 := ⟨f - 1, by omega⟩
        rw [f_X9_reads_60, if_neg z3, item_eq, z4, bd_mk, if_pos (by decide), f_X9_readsItem_24, bd_mk, if00, f_X9_reads_84]
    rcases c with ⟨c1, c2, c3⟩ | ⟨c1, c2, -⟩ | ⟨c1, c2⟩ | ⟨c1, c2⟩
    · have h14 : ¬ B.1 27 14 = -1 := by
        rcases c3 with c3 | ⟨s, s1, s2⟩
        · rw [c3]; decide
        · rw [s2]
          match s, s1 with
          | 0, _ => decide
          | 1, _ => decide
          | 2, _ => decide
          | 3, _ => decide
          | 4, _ => decide
      rcases item_ok hl k8 k3 k6 k7 k4 k5 c2 c3 hx hy hd with ⟨A1, B1, q1, d1, d2, d3, d4, d5, d6, d7⟩ | ⟨A1, B1, p1, d1, d2, d3, d4, d5, d6, d7, d8, d9, d10⟩
      · refine ⟨A1, B1, d6, d7.jb, Or.inl ⟨q1, d2, fun f hf => ?_, fun f hf => ?_, d4⟩⟩
        · obtain ⟨f, rfl⟩ : ∃ g, f = g + 1 := ⟨f - 1, by omega⟩
          rw [read_step f _ A c1 h120, d1, bd_mk, if00, d3]
        · obtain ⟨f, rfl⟩ : ∃ g, f = g + 1 := ⟨f - 1, by omega⟩
          rw [f_X9_reads_60, if_neg h14]
          rcases d5 with d5 | ⟨d5, d5'⟩
          · rw [d5, bd_mk, if00, f_X9_reads_84]
          · rw [d5, bd_mk, if10, if_neg d5', f_X9_reads_84]
      · have ib2 : JB B (upI B1 27 16 (nI (it + 1))) := d9.jb.trans (JB.w B1 (by omega) _)
        obtain ⟨A2, B2, e1, e2, e3, e4, e5⟩ := tok (A := A1) (B := upI B1 27 16 (nI (it + 1))) hl d5 d6 (by rw [up_j (by decide)]; exact d7) (hx.ia d8) (hy.jb ib2)
        have hd2 : DR A2 B2 := by
          obtain ⟨k, m', ⟨g1, g2, g3, g4⟩, gs, ⟨g5, g6, g7, g8⟩⟩ := d10
          refine ⟨k, m', ⟨g1, ?_, ?_, fun c hc => ?_⟩, fun s hs => ?_, ⟨g5, ?_, g7, fun s hs => ?_⟩⟩
          · rw [e3.1 4 (by decide)]; exact g2
          · rw [e4.2 17 (by omega), up_j (by decide)]; exact g3
          · rw [e3.1 5 (by decide), e3.1 6 (by decide), e3.1 7 (by decide), e4.1 36 (by decide), e4.1 37 (by decide), e4.1 38 (by decide), up_r (by decide), up_r (by decide), up_r (by decide)]; exact g4 c hc
          · rw [e3.1 8 (by decide), e4.1 39 (by decide), up_r (by decide)]; exact gs s hs
          · rw [e4.2 18 (by omega), up_j (by decide)]; exact g6
          · rw [e3.1 3 (by decide)]; exact g8 s hs
        obtain ⟨A', B', r1, r2, r3⟩ := ih p1 (it + 1) A2 B2 d5 (by omega) (by omega) ((hx.ia d8).na e3) ((hy.jb ib2).nb e4) hd2 (by rw [e4.2 16 (by omega), up_s]) e5
        have cl : ∀ f, f_X4_read_26 (f + 1) (nI it) A = f_X4_read_26 f (nI (it + 1)) A2 := fun f => by
          rw [read_step f _ A c1 h120, d1, bd_mk, if10, e1, bdV_mk, nI_1]
        have rl : ∀ f, f_X9_reads_60 (f + 1) B = f_X9_reads_60 f B2 := fun f => by
          rw [f_X9_reads_60, if_neg h14, d2, bd_mk, if10, if_pos d3, lt_mk, show B1.1 27 16 = nI it by rw [d9.2 16 (by omega)]; exact h16, nI_1, e2, bdV_mk]
        refine ⟨A', B', (d8.trans e3.ia).trans r1, (ib2.trans e4.ib.jb).trans r2, ?_⟩
        rcases r3 with ⟨q2, w1, w2, w3, w4⟩ | ⟨it', w1, w2, w3, w4, w5⟩
        · refine Or.inl ⟨q2, w1, fun f hf => ?_, fun f hf => ?_, w4⟩
          · obtain ⟨f, rfl⟩ : ∃ g, f = g + 1 := ⟨f - 1, by omega⟩
            rw [cl, w2 f (by omega)]
          · obtain ⟨f, rfl⟩ : ∃ g, f = g + 1 := ⟨f - 1, by omega⟩
            rw [rl, w3 f (by omega)]
        · refine Or.inr ⟨it', w1, fun f hf => ?_, fun f hf => ?_, w4, w5⟩
          · obtain ⟨f, rfl⟩ : ∃ g, f = g + 1 := ⟨f - 1, by omega⟩
            rw [cl, w2 f (by omega)]
          · obtain ⟨f, rfl⟩ : ∃ g, f = g + 1 := ⟨f - 1, by omega⟩
            rw [rl, w3 f (by omega)]
    · exact bad (by rw [c1]; decide) (by rw [c1]; decide) (by rw [c2]; decide) (fun S => by rw [c2]; rfl)
    · exact bad (by rw [c1]; decide) (by rw [c1]; decide) (by rw [c2]; decide) (fun S => by rw [c2]; rfl)
    · exact bad (by rw [c1]; decide) (by rw [c1]; decide) (by rw [c2]; decide) (fun S => by rw [c2]; rfl)
theorem read_ok {t : Nat → Int32} {len : Nat} (hl : len ≤ 120) {A B : St} (hx : TXc t len A) (hy : TXr t len B) :
    ∃ A' B', IA A A' ∧ JB B B' ∧ ((∃ q, q ≤ 120 ∧ f_X4_read A = some ((-10) - nI q, A') ∧ f_X9_reads B = some (0, B') ∧ B'.1 27 13 = nI q) ∨ (∃ it, it ≤ 120 ∧ f_X4_read A = some (nI it, A') ∧ f_X9_reads B = some (1, B') ∧ B'.1 27 16 = nI it ∧ DR A' B')) := by
  obtain ⟨A1, hA1⟩ : ∃ A1, A1 = rwI (upI A 4 0 0) 8 (va_cpy tbFirst ((upI A 4 0 0).1 8) 0 0 5) := ⟨_, rfl⟩
  have c1 : f_X6_begin_4 A = some A1 := by
    unfold f_X6_begin_4
    rw [lt_mk, lt_mk, hA1]
  have ia1 : IA A A1 := by
    rw [hA1]
    exact ⟨fun k hk => by rw [rw_k (by omega), up_r (by omega)], fun j hj => by rw [rw_k (by decide), up_k (by decide)]⟩
  obtain ⟨A2, f1, f2, f3⟩ := fill_ok 3 5 0 (by decide) A1
  have ia2 : IA A1 A2 := ⟨fun k hk => by rw [f2 k (by omega)], fun j hj => by rw [f2 1 (by decide)]⟩
  obtain ⟨A3, hA3⟩ : ∃ A3, A3 = upI A2 1 4 0 := ⟨_, rfl⟩
  have ia3 : IA A A3 := by rw [hA3]; exact (ia1.trans ia2).trans (NA.up A2 (by omega) _).ia
  obtain ⟨B1, hB1⟩ : ∃ B1, B1 = upI (upI (upI (upI (upI (upI (upI (upI (upI B 27 12 0) 27 16 0) 27 17 0) 27 18 0) 39 1 3) 39 2 2) 39 3 1) 39 4 10) 39 5 3 := ⟨_, rfl⟩
  have jb1 : JB B B1 := by
    rw [hB1]
    exact ((((((((JB.w B (by omega) _).trans (JB.w _ (by omega) _)).trans (JB.w _ (by omega) _)).trans (JB.w _ (by omega) _)).trans (JB.up _ (by omega) _ _)).trans (JB.up _ (by omega) _ _)).trans (JB.up _ (by omega) _ _)).trans (JB.up _ (by omega) _ _)).trans (JB.up _ (by omega) _ _)
  obtain ⟨A4, B2, e1, e2, e3, e4, e5⟩ := tok (A := A3) (B := B1) (p := 0) hl (by omega) (by rw [hA3, up_s]; rfl) (by rw [hB1]; simp (disch := decide) only [up_k, up_j, up_s]; rfl) (hx.ia ia3) (hy.jb jb1)
  have hd : DR A4 B2 := by
    refine ⟨0, 0, ⟨by omega, ?_, ?_, fun c hc => absurd hc (by omega)⟩, fun s hs => ?_, ⟨by omega, ?_, by decide, fun s hs => ?_⟩⟩
    · rw [e3.1 4 (by decide), hA3, up_r (by decide), f2 4 (by decide), hA1, rw_k (by decide), up_s]; rfl
    · rw [e4.2 17 (by omega), hB1]; simp (disch := decide) only [up_k, up_j, up_s]; rfl
    · have h8 : A4.1 8 s = tbFirst s := by rw [e3.1 8 (by decide), hA3, up_r (by decide), f2 8 (by decide), hA1, rw_s, cpy_at hs]
      have h39 : B2.1 39 (s + 1) = tbFirst s := by
        rw [e4.1 39 (by decide), hB1]
        match s, hs with
        | 0, _ => simp (disch := decide) only [up_k, up_j, up_s]; rfl
        | 1, _ => simp (disch := decide) only [up_k, up_j, up_s]; rfl
        | 2, _ => simp (disch := decide) only [up_k, up_j, up_s]; rfl
        | 3, _ => simp (disch := decide) only [up_k, up_j, up_s]; rfl
        | 4, _ => simp (disch := decide) only [up_k, up_j, up_s]; rfl
      rw [h8, h39]
      match s, hs with
      | 0, _ => exact ⟨3, by decide, by decide, rfl, rfl⟩
      | 1, _ => exact ⟨2, by decide, by decide, rfl, rfl⟩
      | 2, _ => exact ⟨1, by decide, by decide, rfl, rfl⟩
      | 3, _ => exact ⟨10, by decide, by decide, rfl, rfl⟩
      | 4, _ => exact ⟨3, by decide, by decide, rfl, rfl⟩
    · rw [e4.2 18 (by omega), hB1]; simp (disch := decide) only [up_k, up_j, up_s]; rfl
    · rw [e3.1 3 (by decide), hA3, up_r (by decide), f3 s hs, Nat.zero_testBit]; rfl
  obtain ⟨A', B', r1, r2, r3⟩ := read_loop hl len 0 0 A4 B2 (by omega) (by omega) (by omega) ((hx.ia ia3).na e3) ((hy.jb jb1).nb e4) hd (by rw [e4.2 16 (by omega), hB1]; simp (disch := decide) only [up_k, up_j, up_s]; rfl) e5
  have cl : f_X4_read A = f_X4_read_26 FU (nI 0) A4 := by
    unfold f_X4_read
    rw [c1, bdV_mk, f1, bdV_mk, lt_mk, ← hA3, e1, bdV_mk]
    rfl
  have rl : f_X9_reads B = f_X9_reads_60 FU B2 := by
    unfold f_X9_reads
    rw [lt_mk, lt_mk, lt_mk, lt_mk, ck16, lt_mk, ck26, lt_mk, ck36, lt_mk, ck46, lt_mk, ck56, lt_mk, i32_1c, i32_2c, i32_3, i32_4, i32_5, ← hB1, e2, bdV_mk]
  refine ⟨A', B', (ia3.trans e3.ia).trans r1, (jb1.trans e4.ib.jb).trans r2, ?_⟩
  have hf : len < FU := by show len < 3000; omega
  rcases r3 with ⟨q2, w1, w2, w3, w4⟩ | ⟨it', w1, w2, w3, w4, w5⟩
  · exact Or.inl ⟨q2, w1, by rw [cl, w2 FU hf], by rw [rl, w3 FU hf], w4⟩
  · exact Or.inr ⟨it', w1, by rw [cl, w2 FU hf], by rw [rl, w3 FU hf], w4, w5⟩
