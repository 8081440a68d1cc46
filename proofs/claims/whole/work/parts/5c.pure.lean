/-! ===== what a write leaves of the relation ===== -/
section KEEP
variable {nc b o : Nat} {A A' : Nat → Nat → Int32}
theorem TR.keep (hk : ∀ k, 42 ≤ k → A' k = A k) (h28 : A' 28 = A 28) (hb : 42 ≤ b) (h : TR nc A b o) : TR nc A' b o := h.congr (fun k j _ _ => by rw [hk _ (by omega)]) (fun i _ => by rw [h28])
theorem RHist.keep (hk : ∀ k, 42 ≤ k → A' k = A k) (h28 : A' 28 = A 28) (h17 : A' 17 = A 17) (h2 : A' 27 2 = A 27 2) (h : RHist nc A) : RHist nc A' := by
  obtain ⟨kn, nx, p1, p2, p3, p4, p5, p6⟩ := h
  exact ⟨kn, nx, p1, p2, by rw [h17]; exact p3, by rw [h2]; exact p4, by rw [h17]; exact p5, fun j hj => (p6 j hj).keep hk h28 (by omega)⟩
theorem RImg.keep (hk : ∀ k, 42 ≤ k → A' k = A k) (h28 : A' 28 = A 28) (h21 : A' 21 = A 21) (h29 : A' 29 = A 29) (h : RImg nc A) : RImg nc A' := by
  intro i hi
  obtain ⟨p1, p2⟩ := h i hi
  refine ⟨by rw [h21, h29]; exact p1, ?_⟩
  rw [h21]
  rcases p2 with p2 | ⟨p2, p3⟩
  · exact Or.inl p2
  · exact Or.inr ⟨p2, p3.keep hk h28 (by omega)⟩
theorem RTold.keep (h9 : A' 9 = A 9) (h10 : A' 10 = A 10) (h12 : A' 12 = A 12) (h13 : A' 13 = A 13) (h33 : A' 33 = A 33) (h34 : A' 34 = A 34) (h35 : A' 35 = A 35) (h8 : A' 27 8 = A 27 8) (h : RTold nc A) : RTold nc A' := by
  unfold RTold
  rw [h9, h10, h12, h13, h33, h34, h35, h8]
  exact h
theorem RText.keep (h1 : A' 1 1 = A 1 1) (h2 : A' 2 = A 2) (h32 : A' 32 = A 32) (h7 : A' 27 7 = A 27 7) (h : RText A) : RText A' := by
  unfold RText
  rw [h1, h2, h32, h7]
  exact h
theorem RSeen.keep (h24 : A' 24 = A 24) (h25 : A' 25 = A 25) (h26 : A' 26 = A 26) (h30 : A' 30 = A 30) (h31 : A' 31 = A 31) (h5 : A' 27 5 = A 27 5) (h : RSeen A) : RSeen A' := by
  unfold RSeen
  rw [h24, h25, h26, h30, h31, h5]
  exact h
theorem RFreed.keep (h1 : A' 14 4 = A 14 4) (h2 : A' 27 25 = A 27 25) (h : RFreed A) : RFreed A' := by
  unfold RFreed
  rw [h1, h2]
  exact h
end KEEP
/-- a method of the class beside the reference's -/
def Sim (f g : St → Option (Int32 × St)) : Prop := ∀ (nc : Nat) (S : St), Rl nc S.1 → ∃ (v : Int32) (S1 S2 : St) (nc' : Nat), f S = some (v, S1) ∧ g S1 = some (v, S2) ∧ Rl nc' S2.1
theorem nI_lit (n : Nat) : nI n = Int32.ofNat n := rfl
theorem nI_120 : (120 : Int32) = nI 120 := rfl
theorem sim_clear : Sim f_X8_clear f_X9_clear := by
  intro nc S ⟨h1, ⟨len, t1, t2, t3, t4⟩, h3, h4, h5, h6, h7⟩
  refine ⟨nI len, upI S 1 1 0, upI (upI S 1 1 0) 27 7 0, nc, ?_, ?_, ?_⟩
  · unfold f_X8_clear
    rw [lt_mk, lt_mk, t2]
  · unfold f_X9_clear
    rw [lt_mk, lt_mk, up_k (by decide), t3]
  · refine ⟨h1.keep ?_ ?_ ?_ ?_ ?_ ?_ ?_ ?_, ⟨0, by omega, ?_, ?_, fun i hi => absurd hi (by omega)⟩, h3.keep ?_ ?_ ?_ ?_ ?_ ?_, h4.keep (fun k hk => ?_) ?_ (by decide), h5.keep (fun k hk => ?_) ?_ ?_ ?_, h6.keep (fun k hk => ?_) ?_ ?_ ?_, h7.keep ?_ ?_⟩
    all_goals first | (simp (disch := first | decide | omega) only [up_r, up_k, up_j, up_s]; done) | rfl
theorem sim_type (x : Int32) : Sim (f_X8_type x) (f_X9_type x) := by
  intro nc S ⟨h1, ⟨len, t1, t2, t3, t4⟩, h3, h4, h5, h6, h7⟩
  have hW := X8_within x 0 255 S
  have hI := X9_in x 0 255
  have e0 : (0 : Int32).toInt = 0 := by decide
  have e1 : (255 : Int32).toInt = 255 := by decide
  have e2 : (0 : Int64).toInt = 0 := by decide
  have e3 : (255 : Int64).toInt = 255 := by decide
  rw [e0, e1] at hW
  by_cases hb : 0 ≤ x.toInt ∧ x.toInt ≤ 255
  · rw [if_pos hb] at hW
    by_cases hl : len < 120
    · refine ⟨nI (len + 1), upI (upI S 2 len x) 1 1 (nI (len + 1)), upI (upI (upI (upI S 2 len x) 1 1 (nI (len + 1))) 32 len x) 27 7 (nI (len + 1)), nc, ?_, ?_, ?_⟩
      · unfold f_X8_type f_X4_append f_X8_type_36
        rw [hW, bd_mk, if_neg (by decide), t2, if_pos (by rw [nI_120]; exact nI_lt hl (by omega)), ck_n hl (by decide), lt_mk, lt_mk, nI_clamp (by omega), up_k (by decide), t2, bd_mk, if_neg (by decide), up_s, nI_1]
      · unfold f_X9_type
        rw [hI, e2, e3, if_pos hb, bd_mk, if_neg (by decide)]
        have e27 : (upI (upI S 2 len x) 1 1 (nI (len + 1))).1 27 7 = nI len := by rw [up_k (by decide), up_k (by decide), t3]
        rw [e27, if_neg (by rw [nI_120]; intro e; exact absurd (nI_inj (by omega) (by decide) e) (by omega)), ck_n hl (by decide), lt_mk, lt_mk, nI_clamp (by omega), up_s, up_k (by decide), e27, nI_1]
      · refine ⟨h1.keep ?_ ?_ ?_ ?_ ?_ ?_ ?_ ?_, ⟨len + 1, by omega, ?_, ?_, fun i hi => ?_⟩, h3.keep ?_ ?_ ?_ ?_ ?_ ?_, h4.keep (fun k hk => ?_) ?_ (by decide), h5.keep (fun k hk => ?_) ?_ ?_ ?_, h6.keep (fun k hk => ?_) ?_ ?_ ?_, h7.keep ?_ ?_⟩
        case refine_11 =>
          by_cases hil : i = len
          · subst hil
            simp (disch := first | decide | omega) only [up_r, up_k, up_j, up_s]
          · simp (disch := first | decide | omega | assumption) only [up_r, up_k, up_j, up_s]
            exact t4 i (by omega)
        all_goals first | (simp (disch := first | decide | omega) only [up_r, up_k, up_j, up_s]; done) | rfl
    · have hl : len = 120 := by omega
      subst hl
      refine ⟨-3, S, S, nc, ?_, ?_, h1, ⟨120, t1, t2, t3, t4⟩, h3, h4, h5, h6, h7⟩
      · unfold f_X8_type f_X4_append f_X8_type_36
        rw [hW, bd_mk, if_neg (by decide), t2, if_neg (by rw [nI_120]; exact nI_nlt (by omega) (by omega)), bd_mk, if_pos rfl]
      · unfold f_X9_type
        rw [hI, e2, e3, if_pos hb, bd_mk, if_neg (by decide), t3, if_pos (show nI 120 = 120 from rfl)]
  · rw [if_neg hb] at hW
    refine ⟨-1, S, S, nc, ?_, ?_, h1, ⟨len, t1, t2, t3, t4⟩, h3, h4, h5, h6, h7⟩
    · unfold f_X8_type
      rw [hW, bd_mk, if_pos rfl]
    · unfold f_X9_type
      rw [hI, e2, e3, if_neg hb, bd_mk, if_pos rfl]
