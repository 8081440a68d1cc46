/-! ===== the freed cells served, side by side ===== -/
theorem mgTR {nc : Nat} {A B : St} (h : TRn nc (cx A) (vr B)) : TR nc (mg A B).1 42 0 := TRn.congr (x := cx A) (v := vr B) (fun k j hk _ => show (mg A B).1 (42 + k) j = A.1 (42 + k) j by rw [mg_a (by omega)]) (fun i hi => show (mg A B).1 28 (0 + i) = B.1 28 i by rw [mg_b (by omega) (by omega), Nat.zero_add]) h
theorem wpl_congr {A A' : Nat → Nat → Int32} (c : Nat) (x : Int32) (h : ∀ k, k = 13 ∨ k = 45 ∨ k = 46 ∨ k = 47 ∨ k = 52 ∨ k = 54 → A' k = A k) : wpl A' c x = wpl A c x := by
  have hb : ∀ i j, bef A' i j = bef A i j := fun i j => by
    unfold bef lvl
    rw [h 13 (by omega), h 45 (by omega), h 47 (by omega), h 52 (by omega), h 54 (by omega)]
  have ha : ∀ i, ahd A' c i = ahd A c i := fun i => by
    funext k
    unfold ahd
    rw [hb, h 46 (by omega)]
  funext k
  unfold wpl
  rw [ha, h 46 (by omega)]
theorem mg_wpl {A B : St} (c : Nat) (x : Int32) : wpl (mg A B).1 c x = wpl A.1 c x := wpl_congr c x (fun k hk => mg_a (by omega))
theorem mg_fre {A B : St} (c : Nat) : fre (mg A B).1 c = fre A.1 c := by
  unfold fre
  rw [mg_a (by omega), mg_a (by omega)]
theorem mg_wok {A B : St} {i : Nat} (h : Wok (mg A B).1 i) : Wok A.1 i := by
  unfold Wok at h ⊢
  rw [mg_a (by omega), mg_a (by omega), mg_a (by omega)] at h
  exact h
theorem cn_drop {p q : Nat → Bool} {i : Nat} (hp : p i = true) (hq : ∀ k, q k = if k = i then false else p k) : ∀ n, i < n → cn q n + 1 = cn p n
  | 0, h => absurd h (by omega)
  | n + 1, h => by
    rw [cn_s, cn_s, hq n]
    by_cases hn : n = i
    · subst hn
      rw [if_pos rfl, hp, cn_congr n (fun k hk => by rw [hq k, if_neg (by omega)])]
      rfl
    · have := cn_drop hp hq n (by omega)
      rw [if_neg hn]
      omega
/-- a call that waits: where it is, and that it is elsewhere -/
theorem wait_own {nc c i : Nat} {A B : St} (hnc : nc ≤ 4) (h : TRn nc (cx A) (vr B)) (hi : i < 12) (hc : c < 4) (hw : A.1 46 i = nI c) : ∃ o, o < nc ∧ o ≠ c ∧ A.1 45 i = nI o := by
  have h4 := now_call (mgTR h) hi
  rw [mg_a (by omega), mg_a (by omega)] at h4
  rcases h4 with ⟨-, z, -⟩ | ⟨-, ⟨o, o1, o2⟩, z, -⟩
  · rw [hw] at z
    exact absurd z (neg9_ne (by omega))
  · rcases z with z | ⟨q, q1, q2, q3⟩
    · rw [hw] at z
      exact absurd z (neg9_ne (by omega))
    · refine ⟨o, o1, fun e => q3 ?_, o2⟩
      rw [hw] at q2
      rw [o2, e, q2]
theorem told_need {nc : Nat} {A B : St} (hT : TD nc A B) : ∃ m, m ≤ 60 ∧ A.1 13 3 = nI m ∧ B.1 35 4 = nI m := by
  obtain ⟨h, d, f, m, w, g1, g2, g3, g4, g5, g6, g7, g8, g9, g10, g11, g12⟩ := hT.2.2.2.2.2
  have g13 := hT.2.2.2.2.1 3 (by decide)
  rw [mg_a (by omega)] at g11
  rw [mg_a (by omega), mg_b (by omega) (by omega)] at g13
  exact ⟨m, g5, g11, by rw [← g13]; exact g11⟩
theorem serve_loop {nc : Nat} (hnc : nc ≤ 4) : ∀ (m fm sv st mv : Nat) (A B : St), TD nc A B → LK nc fm A B → sv ≤ fm → fm + cn (fun k => !decide (A.1 46 k = -9)) 12 ≤ 13 → st + (fm - sv) + 2 * cn (fun k => !decide (A.1 46 k = -9)) 12 ≤ 25 → (fm - sv) + 2 * cn (fun k => !decide (A.1 46 k = -9)) 12 ≤ m → m ≤ 1000 → ∃ (A' B' : St) (q : Nat), (∀ g, m < g → f_X0_serveFreed_6 g (nI mv) (nI sv) (nI st) A = some (nI (mv + q), A')) ∧ (∀ n, m < n → f_X9_serves_2 n (nI sv) B = some B') ∧ (sv < fm → ∀ n g c, c < 4 → A.1 16 sv = nI c → m ≤ n → m < g → f_X9_serves_24 (f_X9_serves_2 n) g (nI sv) (nI c) (wtr (wpl A.1 c 0) 12 0) B = some B') ∧ FA A A' ∧ FB B B' ∧ LK nc 0 A' B' ∧ B'.1 27 26 = B.1 27 26 + nI q := by
  intro m
  induction m with
  | zero =>
    intro fm sv st mv A B hT h h1 h2 h3 h4 h5
    obtain rfl : sv = fm := by omega
    obtain ⟨hR, l1, l2, l3⟩ := h
    refine ⟨upI A 14 4 0, upI B 27 25 0, 0, fun g hg => ?_, fun n hn => ?_, fun z => absurd z (by omega), fun k hk => up_r (by omega), ⟨fun k b1 b2 b3 => up_r b1, fun j hj => up_j (by omega), fun j hj => up_k (by decide)⟩, ⟨hR.congr (fun k j hk _ => ?_) (fun i hi => ?_), up_s, up_s, fun i hi => absurd hi (by omega)⟩, ?_⟩
    · obtain ⟨g, rfl⟩ : ∃ f, g = f + 1 := ⟨g - 1, by omega⟩
      rw [f_X0_serveFreed_6, f_X0_serveFreed_90, lt_mk, l1, if_pos (show nI sv ≤ nI sv from nI_le (by omega) (by omega)), Nat.add_zero]
      by_cases z : (24 : Int32) < nI st
      · rw [if_pos z]
      · rw [if_neg z]
    · obtain ⟨n, rfl⟩ : ∃ f, n = f + 1 := ⟨n - 1, by omega⟩
      rw [f_X9_serves_2, l2, if_pos (nI_le (by omega) (by omega)), lt_mk]
    · show (upI A 14 4 0).1 (42 + k) j = A.1 (42 + k) j
      rw [up_k (by omega)]
    · show (upI B 27 25 0).1 28 i = B.1 28 i
      rw [up_k (by decide)]
    · rw [up_j (by decide)]
      exact (Int32.add_zero _).symm
  | succ m ih =>
    intro fm sv st mv A B hT h h1 h2 h3 h4 h5
    obtain ⟨hR, l1, l2, l3⟩ := id h
    by_cases hs : sv = fm
    · subst hs
      refine ⟨upI A 14 4 0, upI B 27 25 0, 0, fun g hg => ?_, fun n hn => ?_, fun z => absurd z (by omega), fun k hk => up_r (by omega), ⟨fun k b1 b2 b3 => up_r b1, fun j hj => up_j (by omega), fun j hj => up_k (by decide)⟩, ⟨hR.congr (fun k j hk _ => ?_) (fun i hi => ?_), up_s, up_s, fun i hi => absurd hi (by omega)⟩, ?_⟩
      · obtain ⟨g, rfl⟩ : ∃ f, g = f + 1 := ⟨g - 1, by omega⟩
        rw [f_X0_serveFreed_6, f_X0_serveFreed_90, lt_mk, l1, if_pos (show nI sv ≤ nI sv from nI_le (by omega) (by omega)), Nat.add_zero]
        by_cases z : (24 : Int32) < nI st
        · rw [if_pos z]
        · rw [if_neg z]
      · obtain ⟨n, rfl⟩ : ∃ f, n = f + 1 := ⟨n - 1, by omega⟩
        rw [f_X9_serves_2, l2, if_pos (nI_le (by omega) (by omega)), lt_mk]
      · show (upI A 14 4 0).1 (42 + k) j = A.1 (42 + k) j
        rw [up_k (by omega)]
      · show (upI B 27 25 0).1 28 i = B.1 28 i
        rw [up_k (by decide)]
      · rw [up_j (by decide)]
        exact (Int32.add_zero _).symm
    · obtain ⟨c, c1, c2, c3⟩ := l3 sv (by omega)
      have hc4 : c < 4 := by omega
      obtain ⟨mm, n1, n2, n3⟩ := told_need hT
      have h4' := mgTR hR
      have hwok : ∀ k, k < 12 → A.1 46 k = nI c → Wok A.1 k := fun k hk z => mg_wok (now_wait hnc h4' hk (by rw [mg_a (by omega)]; exact z) hc4).2.1
      have xw := X0_waiter (c := c) 0 n1 n2 hwok
      have yw := X9_queuedAt (c := c) (S := mg A B) (T := B) 0 hnc h4' hc4 n1 (by rw [mg_a (by omega)]; exact n2) n3 (fun j hj => by rw [mg_b (by omega) (by omega)])
      rw [mg_wpl] at yw
      have xf := X0_free hc4 A
      have yf := X9_free (S' := B) hT h4' c1 (mg_b (by omega) (by omega)).symm (mg_b (by omega) (by omega)).symm
      rw [mg_fre] at yf
      -- the class's step
      have step : ∀ g, f_X0_serveFreed_6 (g + 1) (nI mv) (nI sv) (nI st) A = f_X0_serveFreed_58 (f_X0_serveFreed_6 g) (nI mv) (nI sv) (nI st) (nI c) (if fre A.1 c ≤ 0 then -9 else wtr (wpl A.1 c 0) 12 0) A := fun g => by
        rw [f_X0_serveFreed_6, if_neg (show ¬ (24 : Int32) < nI st from nI_nlt (b := st) (a := 24) (by omega) (by omega)), l1, if_neg (nI_ge (by omega) (by omega)), if_neg (show ¬ (13 : Int32) ≤ nI sv from nI_ge (b := 13) (by omega) (by omega)), ck_n (by omega) (by decide), lt_mk, nI_clamp (by omega), c2, xf, bd_mk, xw, bd_mk]
        by_cases z : fre A.1 c ≤ 0
        · rw [if_pos z, if_pos z]
        · rw [if_neg z, if_neg z]
      -- from serves_2 to serves_24
      have s224 : ∀ n, f_X9_serves_2 (n + 1) (nI sv) B = f_X9_serves_24 (f_X9_serves_2 n) FU (nI sv) (nI c) (wtr (wpl A.1 c 0) 12 0) B := fun n => by
        rw [f_X9_serves_2, l2, if_neg (nI_ge (by omega) (by omega)), ck_n (by omega) (by decide), lt_mk, nI_clamp (by omega), c3, yw, bd_mk]
      by_cases hx : fre A.1 c ≤ 0 ∨ wtr (wpl A.1 c 0) 12 0 = -9
      · obtain ⟨A', B', q, i1, i2, -, i4, i5, i6, i7⟩ := ih fm (sv + 1) (st + 1) mv A B hT h (by omega) h2 (by omega) (by omega) (by omega)
        have k24 : ∀ n g, m < n → 0 < g → f_X9_serves_24 (f_X9_serves_2 n) g (nI sv) (nI c) (wtr (wpl A.1 c 0) 12 0) B = some B' := fun n g b1 b2 => by
          obtain ⟨g, rfl⟩ : ∃ f, g = f + 1 := ⟨g - 1, by omega⟩
          rw [f_X9_serves_24, yf, bd_mk, f_X9_serves_54, nI_1, i2 n b1]
          by_cases z : fre A.1 c ≤ 0
          · rw [if_pos z]
          · rw [if_neg z, if_pos (hx.resolve_left z)]
        refine ⟨A', B', q, fun g hg => ?_, fun n hn => ?_, fun _ n g c' hc' e b1 b2 => ?_, i4, i5, i6, i7⟩
        · obtain ⟨g, rfl⟩ : ∃ f, g = f + 1 := ⟨g - 1, by omega⟩
          have e9 : (if fre A.1 c ≤ 0 then -9 else wtr (wpl A.1 c 0) 12 0) = -9 := by
            by_cases z : fre A.1 c ≤ 0
            · rw [if_pos z]
            · rw [if_neg z, hx.resolve_left z]
          rw [step, e9, f_X0_serveFreed_58, f_X0_serveFreed_84, if_pos rfl, nI_1, nI_1, i1 g (by omega)]
        · obtain ⟨n, rfl⟩ : ∃ f, n = f + 1 := ⟨n - 1, by omega⟩
          rw [s224, k24 n FU (by omega) (by decide)]
        · obtain rfl : c' = c := by
            rw [c2] at e
            exact (nI_inj (by omega) (by omega) e).symm
          exact k24 n g (by omega) (by omega)
      · have z1 : ¬ fre A.1 c ≤ 0 := fun z => hx (Or.inl z)
        have z2 : ¬ wtr (wpl A.1 c 0) 12 0 = -9 := fun z => hx (Or.inr z)
        rcases wtr_cases (wpl A.1 c 0) 12 0 with z | ⟨i, -, hi, hpi, ei⟩
        · exact absurd z z2
        · have hi : i < 12 := by omega
          have hwi : A.1 46 i = nI c := by
            unfold wpl at hpi
            simp at hpi
            exact hpi.1
          obtain ⟨o, o1, o2, o3⟩ := wait_own hnc hR hi hc4 hwi
          have hW : 0 < cn (fun k => !decide (A.1 46 k = -9)) 12 := cn_pos 12 i hi (by simp [hwi, neg9_ne (show c < 100 by omega)])
          obtain ⟨A1, B1, m1, m2, m3, m4, m5, m6, m7, m8⟩ := move_ok hnc hi o1 c1 o2 (by omega) hT h o3
          have hW1 := cn_drop (p := fun k => !decide (A.1 46 k = -9)) (q := fun k => !decide (A1.1 46 k = -9)) (i := i) (by simp [hwi, neg9_ne (show c < 100 by omega)]) (fun k => by rw [m7 k]; by_cases hk : k = i <;> simp [hk]) 12 hi
          obtain ⟨A', B', q, i1, i2, i3, i4, i5, i6, i7⟩ := ih (fm + 1) sv (st + 1) (mv + 1) A1 B1 (hT.keep m3 m4) m5 (by omega) (by omega) (by omega) (by omega) (by omega)
          obtain ⟨hR1, -, -, -⟩ := id m5
          have h4'' := mgTR hR1
          obtain ⟨mm1, n11, n12, n13⟩ := told_need (hT.keep m3 m4)
          have yw1 := X9_queuedAt (c := c) (S := mg A1 B1) (T := B1) 0 hnc h4'' hc4 n11 (by rw [mg_a (by omega)]; exact n12) n13 (fun j hj => by rw [mg_b (by omega) (by omega)])
          rw [mg_wpl] at yw1
          have k24 : ∀ n g, m ≤ n → m + 1 < g → f_X9_serves_24 (f_X9_serves_2 n) g (nI sv) (nI c) (wtr (wpl A.1 c 0) 12 0) B = some B' := fun n g b1 b2 => by
            obtain ⟨g, rfl⟩ : ∃ f, g = f + 1 := ⟨g - 1, by omega⟩
            rw [f_X9_serves_24, yf, bd_mk, if_neg z1, if_neg z2, ei, m2, bdV_mk, yw1, bd_mk]
            exact i3 (by omega) n g c hc4 (by rw [m8 sv (by omega)]; exact c2) b1 (by omega)
          refine ⟨A', B', q + 1, fun g hg => ?_, fun n hn => ?_, fun _ n g c' hc' e b1 b2 => ?_, m3.trans i4, m4.trans i5, i6, ?_⟩
          · obtain ⟨g, rfl⟩ : ∃ f, g = f + 1 := ⟨g - 1, by omega⟩
            rw [step, if_neg z1, f_X0_serveFreed_58, if_neg z2, ei, m1, bdV_mk, f_X0_serveFreed_84, nI_1, nI_1, i1 g (by omega), show mv + 1 + q = mv + (q + 1) by omega]
          · obtain ⟨n, rfl⟩ : ∃ f, n = f + 1 := ⟨n - 1, by omega⟩
            rw [s224, k24 n FU (by omega) (by show m + 1 < 3000; omega)]
          · obtain rfl : c' = c := by
              rw [c2] at e
              exact (nI_inj (by omega) (by omega) e).symm
            exact k24 n g (by omega) (by omega)
          · rw [i7, m6, Int32.add_assoc, show (1 : Int32) = nI 1 from rfl, nI_add, Nat.add_comm 1 q]
theorem serve_ok {nc fm : Nat} (hnc : nc ≤ 4) (hf : fm ≤ 1) {A B : St} (hT : TD nc A B) (h : LK nc fm A B) : ∃ (A' B' : St) (q : Nat), f_X0_serveFreed A = some (nI q, A') ∧ f_X9_serves B = some B' ∧ FA A A' ∧ FB B B' ∧ LK nc 0 A' B' ∧ B'.1 27 26 = B.1 27 26 + nI q := by
  have hW := cn_le (fun k => !decide (A.1 46 k = -9)) 12
  obtain ⟨A', B', q, i1, i2, -, i4, i5, i6, i7⟩ := serve_loop hnc 25 fm 0 0 0 A B hT h (by omega) (by omega) (by omega) (by omega) (by omega)
  refine ⟨A', B', q, ?_, ?_, i4, i5, i6, i7⟩
  · unfold f_X0_serveFreed
    rw [Nat.zero_add] at i1
    exact i1 FU (by decide)
  · unfold f_X9_serves
    exact i2 FU (by decide)
