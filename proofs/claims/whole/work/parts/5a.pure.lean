/-! ===== PURE: no machine from here on. The class's numbers against the reference's ===== -/
theorem bd_mk {α ρ : Type} (a : α) (S : St) (f : α → St → Option ρ) : bd (some (a, S)) f = f a S := rfl
theorem bdV_mk {ρ : Type} (S : St) (f : St → Option ρ) : bdV (some S) f = f S := rfl
theorem lt_mk {α β : Type} (a : α) (f : α → β) : lt a f = f a := rfl
theorem ck_in {ρ : Type} {i : Int32} {n : Nat} {X : Option ρ} (h : vp_in i n) : ck i n X = X := if_neg h
theorem ck_n {ρ : Type} {n N : Nat} {X : Option ρ} (h : n < N) (hN : N < 2 ^ 31) : ck (nI n) N X = X := ck_in (vp_in_nI h hN)
theorem bz_0 {ρ : Type} {X : Option ρ} : bz 0 X = X := if_pos (Or.inl rfl)
theorem bz_1 {ρ : Type} {X : Option ρ} : bz 1 X = X := if_pos (Or.inr rfl)
theorem nar_0 : vp_nar .boolean 0 = 0 := by decide
theorem nar_1 : vp_nar .boolean 1 = 1 := by decide
/-- reading behind writing -/
theorem up_s {S : St} {k j : Nat} {v : Int32} : (upI S k j v).1 k j = v := by simp [upI, rwI, upd]
theorem up_k {S : St} {k j k' j' : Nat} {v : Int32} (h : k' ≠ k) : (upI S k j v).1 k' j' = S.1 k' j' := by simp [upI, rwI, h]
theorem up_j {S : St} {k j j' : Nat} {v : Int32} (h : j' ≠ j) : (upI S k j v).1 k j' = S.1 k j' := by simp [upI, rwI, upd, h]
theorem up_r {S : St} {k j k' : Nat} {v : Int32} (h : k' ≠ k) : (upI S k j v).1 k' = S.1 k' := by simp [upI, rwI, h]
theorem up_e {S : St} {k j k' j' : Nat} {v : Int32} : (upI S k j v).1 k' j' = if k' = k ∧ j' = j then v else S.1 k' j' := by
  by_cases h : k' = k
  · subst h
    by_cases h2 : j' = j
    · subst h2
      simp [upI, rwI, upd]
    · simp [upI, rwI, upd, h2]
  · simp [upI, rwI, h]
theorem rw_s {S : St} {k : Nat} {f : Nat → Int32} : (rwI S k f).1 k = f := by simp [rwI]
theorem rw_k {S : St} {k k' : Nat} {f : Nat → Int32} (h : k' ≠ k) : (rwI S k f).1 k' = S.1 k' := by simp [rwI, h]
theorem neg9_ne {c : Nat} (h : c < 100) : ¬ nI c = -9 := by
  intro e
  have h1 := congrArg Int32.toInt e
  rw [nI_toInt (by omega)] at h1
  have h2 : (-9 : Int32).toInt = -9 := by decide
  rw [h2] at h1
  omega
theorem nI_inj {a b : Nat} (ha : a < 2 ^ 31) (hb : b < 2 ^ 31) (h : nI a = nI b) : a = b := (nI_eq ha hb).mp h
/-- one call's row -/
def CP (nc : Nat) (x : Nat → Nat → Int32) (v : Nat → Int32) (i : Nat) : Prop :=
  (∃ o, o < nc ∧ x 3 i = nI o) ∧ (x 4 i = -9 ∨ ∃ q, q < nc ∧ x 4 i = nI q ∧ ¬ x 3 i = nI q) ∧
  x 3 i = v (18 * i + 1) ∧ x 4 i = v (18 * i + 2) ∧ x 5 i = v (18 * i + 3) ∧ x 6 i = v (18 * i + 4) ∧ x 7 i = v (18 * i + 9) ∧ x 8 i = v (18 * i + 5) ∧ x 9 i = v (18 * i + 6) ∧ x 10 i = v (18 * i + 7) ∧ x 11 i = v (18 * i + 8) ∧
  (∀ c, c < 4 → x 12 (4 * i + c) = v (18 * i + 10 + c) ∧ (∃ l, l ≤ 6400 ∧ x 12 (4 * i + c) = nI l) ∧ (nc ≤ c → x 12 (4 * i + c) = 0)) ∧
  (∀ c, c < 4 → x 13 (4 * i + c) = v (18 * i + 14 + c)) ∧ -6400 ≤ (x 10 i).toInt ∧ (x 10 i).toInt ≤ 6400
def CRn (nc : Nat) (x : Nat → Nat → Int32) (v : Nat → Int32) (i : Nat) : Prop := (x 3 i = -9 ∧ x 4 i = -9 ∧ v (18 * i) = 0) ∨ (v (18 * i) = 1 ∧ CP nc x v i)
def TA (nc : Nat) (x : Nat → Nat → Int32) (v : Nat → Int32) : Prop := x 0 0 = v 281 ∧ x 0 1 = v 282 ∧ (∀ c, c < 4 → c < nc → x 1 c = v (216 + c)) ∧ ∀ i, i < 24 → x 2 i = v (220 + i)
def TPn (nc np : Nat) (x : Nat → Nat → Int32) (v : Nat → Int32) : Prop := np ≤ 12 ∧ x 0 15 = nI np ∧ v 244 = nI np ∧ (∀ i, i < np → x 14 i = v (245 + 3 * i) ∧ x 15 i = v (246 + 3 * i) ∧ x 16 i = v (247 + 3 * i) ∧ ∃ f t, f < nc ∧ t < nc ∧ f ≠ t ∧ x 14 i = nI f ∧ x 15 i = nI t) ∧ ∀ i j, i < j → j < np → ¬ (x 14 i = x 14 j ∧ x 15 i = x 15 j)
def TP (nc : Nat) (x : Nat → Nat → Int32) (v : Nat → Int32) : Prop := ∃ np, TPn nc np x v
/-- a Traffic x against a row v of the reference -/
def TRn (nc : Nat) (x : Nat → Nat → Int32) (v : Nat → Int32) : Prop := TA nc x v ∧ (∀ i, i < 12 → CRn nc x v i) ∧ TP nc x v
/-- a row's length in a Traffic -/
def tl (k : Nat) : Nat := match k with
  | 0 => 19
  | 1 => 4
  | 2 => 24
  | 12 => 48
  | 13 => 48
  | _ => 12
/-- the numbers of a Traffic that count -/
def tq (k j : Nat) : Prop := if k = 0 then j = 0 ∨ j = 1 ∨ j = 15 else j < tl k
theorem CRn.congr {nc : Nat} {x x' : Nat → Nat → Int32} {v v' : Nat → Int32} {i : Nat} (hi : i < 12) (hx : ∀ k j, k < 17 → tq k j → x' k j = x k j) (hv : ∀ i, i < 283 → v' i = v i) (h : CRn nc x v i) : CRn nc x' v' i := by
  have e : ∀ k, 3 ≤ k → k < 12 → x' k i = x k i := fun k h1 h2 => hx k i (by omega) (by
    match k, h1, h2 with
    | 3, _, _ => exact hi
    | 4, _, _ => exact hi
    | 5, _, _ => exact hi
    | 6, _, _ => exact hi
    | 7, _, _ => exact hi
    | 8, _, _ => exact hi
    | 9, _, _ => exact hi
    | 10, _, _ => exact hi
    | 11, _, _ => exact hi)
  rcases h with ⟨h1, h2, h3⟩ | ⟨h1, p1, p2, p3, p4, p5, p6, p7, p8, p9, p10, p11, p12, p13, p14⟩
  · exact Or.inl ⟨by rw [e 3 (by omega) (by omega), h1], by rw [e 4 (by omega) (by omega), h2], by rw [hv _ (by omega), h3]⟩
  · refine Or.inr ⟨by rw [hv _ (by omega), h1], ?_, ?_, ?_, ?_, ?_, ?_, ?_, ?_, ?_, ?_, ?_, fun c hc => ?_, fun c hc => ?_, ?_⟩
    · rw [e 3 (by omega) (by omega)]; exact p1
    · rw [e 3 (by omega) (by omega), e 4 (by omega) (by omega)]; exact p2
    · rw [e 3 (by omega) (by omega), hv _ (by omega)]; exact p3
    · rw [e 4 (by omega) (by omega), hv _ (by omega)]; exact p4
    · rw [e 5 (by omega) (by omega), hv _ (by omega)]; exact p5
    · rw [e 6 (by omega) (by omega), hv _ (by omega)]; exact p6
    · rw [e 7 (by omega) (by omega), hv _ (by omega)]; exact p7
    · rw [e 8 (by omega) (by omega), hv _ (by omega)]; exact p8
    · rw [e 9 (by omega) (by omega), hv _ (by omega)]; exact p9
    · rw [e 10 (by omega) (by omega), hv _ (by omega)]; exact p10
    · rw [e 11 (by omega) (by omega), hv _ (by omega)]; exact p11
    · rw [hx 12 _ (by omega) (by show _ < 48; omega), hv _ (by omega)]; exact p12 c hc
    · rw [hx 13 _ (by omega) (by show _ < 48; omega), hv _ (by omega)]; exact p13 c hc
    · rw [e 10 (by omega) (by omega)]; exact p14
theorem TRn.congr {nc : Nat} {x x' : Nat → Nat → Int32} {v v' : Nat → Int32} (hx : ∀ k j, k < 17 → tq k j → x' k j = x k j) (hv : ∀ i, i < 283 → v' i = v i) (h : TRn nc x v) : TRn nc x' v' := by
  obtain ⟨⟨a1, a2, a3, a4⟩, hc, np, b1, b2, b3, b4, b5⟩ := h
  refine ⟨⟨?_, ?_, fun c h h' => ?_, fun i h => ?_⟩, fun i hi => (hc i hi).congr hi hx hv, np, b1, ?_, ?_, fun i hi => ?_, fun i j h1 h2 => ?_⟩
  · rw [hx 0 0 (by omega) (Or.inl rfl), hv _ (by omega)]; exact a1
  · rw [hx 0 1 (by omega) (Or.inr (Or.inl rfl)), hv _ (by omega)]; exact a2
  · rw [hx 1 c (by omega) h, hv _ (by omega)]; exact a3 c h h'
  · rw [hx 2 i (by omega) h, hv _ (by omega)]; exact a4 i h
  · rw [hx 0 15 (by omega) (Or.inr (Or.inr rfl))]; exact b2
  · rw [hv _ (by omega)]; exact b3
  · have hi' : i < 12 := by omega
    rw [hx 14 i (by omega) hi', hx 15 i (by omega) hi', hx 16 i (by omega) hi', hv _ (by omega), hv _ (by omega), hv _ (by omega)]
    exact b4 i hi
  · have hi' : i < 12 := by omega
    have hj' : j < 12 := by omega
    rw [hx 14 i (by omega) hi', hx 15 i (by omega) hi', hx 14 j (by omega) hj', hx 15 j (by omega) hj']
    exact b5 i j h1 h2
/-- the Traffic at base b against the row from o on -/
def TR (nc : Nat) (A : Nat → Nat → Int32) (b o : Nat) : Prop := TRn nc (fun k j => A (b + k) j) (fun i => A 28 (o + i))
theorem TR.congr {nc : Nat} {A A' : Nat → Nat → Int32} {b b' o o' : Nat} (hx : ∀ k j, k < 17 → tq k j → A' (b' + k) j = A (b + k) j) (hv : ∀ i, i < 283 → A' 28 (o' + i) = A 28 (o + i)) (h : TR nc A b o) : TR nc A' b' o' := TRn.congr hx hv h
/-- which row of the ring the j-th known deed has -/
def slot (nx kn j : Nat) : Nat := (nx + 6 - kn + j) % 6
def RTold (nc : Nat) (A : Nat → Nat → Int32) : Prop := nc ≤ 4 ∧ A 9 0 = nI nc ∧ A 27 8 = nI nc ∧ (∀ c, c < nc → A 10 c = A 33 c ∧ (∃ ch, 1 ≤ ch ∧ ch ≤ 6 ∧ A 10 c = nI ch) ∧ A 12 c = A 34 c ∧ ∃ p, p ≤ 4 ∧ A 12 c = nI p) ∧ (∀ k, k < 5 → A 13 k = A 35 (k + 1)) ∧ (∃ h d f m w, h ≤ 20 ∧ 1 ≤ d ∧ d ≤ 5 ∧ f ≤ 3 ∧ m ≤ 60 ∧ 1 ≤ w ∧ w ≤ 9 ∧ A 13 0 = nI h ∧ A 13 1 = nI d ∧ A 13 2 = nI f ∧ A 13 3 = nI m ∧ A 13 4 = nI w)
def RText (A : Nat → Nat → Int32) : Prop := ∃ len, len ≤ 120 ∧ A 1 1 = nI len ∧ A 27 7 = nI len ∧ ∀ i, i < len → A 2 i = A 32 i
def RSeen (A : Nat → Nat → Int32) : Prop := ∃ sn, sn ≤ 6 ∧ A 24 0 = nI sn ∧ A 27 5 = nI sn ∧ ∀ i, i < sn → A 25 i = A 30 i ∧ A 26 i = A 31 i
def RHist (nc : Nat) (A : Nat → Nat → Int32) : Prop := ∃ kn nx, kn ≤ 6 ∧ nx < 6 ∧ A 17 2 = nI kn ∧ A 27 2 = nI kn ∧ A 17 1 = nI nx ∧ ∀ j, j < kn → TR nc A (59 + 17 * slot nx kn j) (849 + 283 * j)
def RImg (nc : Nat) (A : Nat → Nat → Int32) : Prop := ∀ i, i < 2 → A 21 i = A 29 i ∧ (A 21 i = 0 ∨ (A 21 i = 1 ∧ TR nc A (161 + 17 * i) (283 + 283 * i)))
def RFreed (A : Nat → Nat → Int32) : Prop := A 14 4 = 0 ∧ A 27 25 = 0
def Rl (nc : Nat) (A : Nat → Nat → Int32) : Prop := RTold nc A ∧ RText A ∧ RSeen A ∧ TR nc A 42 0 ∧ RHist nc A ∧ RImg nc A ∧ RFreed A
