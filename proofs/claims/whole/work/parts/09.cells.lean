/-- how often a loop may go round: more than any loop does -/
def FU : Nat := 3000
theorem kd_0 : kd 0 = (8, 0, [some 1, some 9, some 42, some 14, some 17, some 19, some 22, some 24]) := rfl
theorem kd_1 : kd 1 = (4, 0, [some 2, none, some 4, some 3, none, none, none, none]) := rfl
theorem kd_2 : kd 2 = (10, 120, []) := rfl
theorem kd_3 : kd 3 = (10, 5, []) := rfl
theorem kd_4 : kd 4 = (6, 0, [none, some 5, some 6, some 7, some 8]) := rfl
theorem kd_5 : kd 5 = (10, 4, []) := rfl
theorem kd_6 : kd 6 = (10, 4, []) := rfl
theorem kd_7 : kd 7 = (10, 4, []) := rfl
theorem kd_8 : kd 8 = (10, 5, []) := rfl
theorem kd_9 : kd 9 = (6, 0, [none, some 10, some 11, some 12, some 13]) := rfl
theorem kd_10 : kd 10 = (10, 4, []) := rfl
theorem kd_11 : kd 11 = (10, 4, []) := rfl
theorem kd_12 : kd 12 = (10, 4, []) := rfl
theorem kd_13 : kd 13 = (10, 5, []) := rfl
theorem kd_14 : kd 14 = (0, 0, [some 9, some 42, some 15, some 16, none]) := rfl
theorem kd_15 : kd 15 = (10, 4, []) := rfl
theorem kd_16 : kd 16 = (10, 13, []) := rfl
theorem kd_17 : kd 17 = (1, 0, [some 18, none, none]) := rfl
theorem kd_18 : kd 18 = (13, 6, [some 59, some 76, some 93, some 110, some 127, some 144]) := rfl
theorem kd_19 : kd 19 = (2, 0, [some 20, some 21]) := rfl
theorem kd_20 : kd 20 = (13, 2, [some 161, some 178]) := rfl
theorem kd_21 : kd 21 = (12, 2, []) := rfl
theorem kd_22 : kd 22 = (3, 0, [some 23, none, none]) := rfl
theorem kd_23 : kd 23 = (11, 7, []) := rfl
theorem kd_24 : kd 24 = (5, 0, [none, some 25, some 26]) := rfl
theorem kd_25 : kd 25 = (10, 6, []) := rfl
theorem kd_26 : kd 26 = (10, 6, []) := rfl
theorem kd_27 : kd 27 = (9, 0, [some 28, some 29, none, some 30, some 31, none, some 32, none, none, some 33, some 34, some 35, none, none, none, none, none, none, none, some 36, some 37, some 38, some 39, none, some 40, none, none, some 41]) := rfl
theorem kd_28 : kd 28 = (10, 2547, []) := rfl
theorem kd_29 : kd 29 = (12, 2, []) := rfl
theorem kd_30 : kd 30 = (10, 6, []) := rfl
theorem kd_31 : kd 31 = (10, 6, []) := rfl
theorem kd_32 : kd 32 = (10, 120, []) := rfl
theorem kd_33 : kd 33 = (10, 4, []) := rfl
theorem kd_34 : kd 34 = (10, 4, []) := rfl
theorem kd_35 : kd 35 = (10, 6, []) := rfl
theorem kd_36 : kd 36 = (10, 4, []) := rfl
theorem kd_37 : kd 37 = (10, 4, []) := rfl
theorem kd_38 : kd 38 = (10, 4, []) := rfl
theorem kd_39 : kd 39 = (10, 6, []) := rfl
theorem kd_40 : kd 40 = (10, 256, []) := rfl
theorem kd_41 : kd 41 = (11, 7, []) := rfl
theorem kd_42 : kd 42 = (7, 0, [none, none, some 43, some 44, some 45, some 46, some 47, some 48, some 49, some 50, some 51, some 52, some 53, some 54, some 55, none, some 56, some 57, some 58]) := rfl
theorem kd_43 : kd 43 = (10, 4, []) := rfl
theorem kd_44 : kd 44 = (10, 24, []) := rfl
theorem kd_45 : kd 45 = (10, 12, []) := rfl
theorem kd_46 : kd 46 = (10, 12, []) := rfl
theorem kd_47 : kd 47 = (10, 12, []) := rfl
theorem kd_48 : kd 48 = (10, 12, []) := rfl
theorem kd_49 : kd 49 = (10, 12, []) := rfl
theorem kd_50 : kd 50 = (10, 12, []) := rfl
theorem kd_51 : kd 51 = (10, 12, []) := rfl
theorem kd_52 : kd 52 = (10, 12, []) := rfl
theorem kd_53 : kd 53 = (10, 12, []) := rfl
theorem kd_54 : kd 54 = (10, 48, []) := rfl
theorem kd_55 : kd 55 = (10, 48, []) := rfl
theorem kd_56 : kd 56 = (10, 12, []) := rfl
theorem kd_57 : kd 57 = (10, 12, []) := rfl
theorem kd_58 : kd 58 = (10, 12, []) := rfl
def TrB (b : Nat) : Prop := ∃ j, j < 9 ∧ b = 42 + 17 * j
theorem kd_big {k : Nat} (h : 42 ≤ k) : kd k = kdT (42 + 17 * ((k - 42) / 17)) ((k - 42) % 17) := by
  obtain ⟨m, rfl⟩ : ∃ m, k = m + 42 := ⟨k - 42, by omega⟩
  rfl
theorem kd_tr {b : Nat} (h : TrB b) (o : Nat) (ho : o < 17) : kd (b + o) = kdT b o := by
  obtain ⟨j, hj, rfl⟩ := h
  rw [kd_big (by omega)]
  have e1 : (42 + 17 * j + o - 42) / 17 = j := by omega
  have e2 : (42 + 17 * j + o - 42) % 17 = o := by omega
  rw [e1, e2]
theorem tr_lt {b : Nat} (h : TrB b) (o : Nat) (ho : o < 17) : b + o < NC := by
  obtain ⟨j, hj, rfl⟩ := h
  show 42 + 17 * j + o < 195
  omega
theorem tr_0 {b : Nat} (h : TrB b) : kd b = (7, 0, [none, none, some (b+1), some (b+2), some (b+3), some (b+4), some (b+5), some (b+6), some (b+7), some (b+8), some (b+9), some (b+10), some (b+11), some (b+12), some (b+13), none, some (b+14), some (b+15), some (b+16)]) := kd_tr h 0 (by decide)
theorem tr_1 {b : Nat} (h : TrB b) : kd (b + 1) = (10, 4, []) := kd_tr h 1 (by decide)
theorem tr_2 {b : Nat} (h : TrB b) : kd (b + 2) = (10, 24, []) := kd_tr h 2 (by decide)
theorem tr_3 {b : Nat} (h : TrB b) : kd (b + 3) = (10, 12, []) := kd_tr h 3 (by decide)
theorem tr_4 {b : Nat} (h : TrB b) : kd (b + 4) = (10, 12, []) := kd_tr h 4 (by decide)
theorem tr_5 {b : Nat} (h : TrB b) : kd (b + 5) = (10, 12, []) := kd_tr h 5 (by decide)
theorem tr_6 {b : Nat} (h : TrB b) : kd (b + 6) = (10, 12, []) := kd_tr h 6 (by decide)
theorem tr_7 {b : Nat} (h : TrB b) : kd (b + 7) = (10, 12, []) := kd_tr h 7 (by decide)
theorem tr_8 {b : Nat} (h : TrB b) : kd (b + 8) = (10, 12, []) := kd_tr h 8 (by decide)
theorem tr_9 {b : Nat} (h : TrB b) : kd (b + 9) = (10, 12, []) := kd_tr h 9 (by decide)
theorem tr_10 {b : Nat} (h : TrB b) : kd (b + 10) = (10, 12, []) := kd_tr h 10 (by decide)
theorem tr_11 {b : Nat} (h : TrB b) : kd (b + 11) = (10, 12, []) := kd_tr h 11 (by decide)
theorem tr_12 {b : Nat} (h : TrB b) : kd (b + 12) = (10, 48, []) := kd_tr h 12 (by decide)
theorem tr_13 {b : Nat} (h : TrB b) : kd (b + 13) = (10, 48, []) := kd_tr h 13 (by decide)
theorem tr_14 {b : Nat} (h : TrB b) : kd (b + 14) = (10, 12, []) := kd_tr h 14 (by decide)
theorem tr_15 {b : Nat} (h : TrB b) : kd (b + 15) = (10, 12, []) := kd_tr h 15 (by decide)
theorem tr_16 {b : Nat} (h : TrB b) : kd (b + 16) = (10, 12, []) := kd_tr h 16 (by decide)
theorem trN : TrB 42 := ⟨0, by decide, rfl⟩
theorem trR_59 {i : Nat} (h : i < 6) : TrB (59 + 17 * i) := ⟨i + 1, by omega, by omega⟩
theorem trR_161 {i : Nat} (h : i < 2) : TrB (161 + 17 * i) := ⟨i + 7, by omega, by omega⟩
theorem j_start {ρ : Type} {K : Kt} {r : ρ} {X : Option ρ} {pc : Nat} {lv lv' : List (Nat × Value)} {st : List Value} {S : St} (e : lv = lv') (h : J K r X pc lv' st S) : J K r X pc lv st S := by rw [e]; exact h
theorem j_ite {ρ : Type} {K : Kt} {r : ρ} {c : Prop} {hc : Decidable c} {X Y : Option ρ} {pc : Nat} {lv : List (Nat × Value)} {st : List Value} {S : St} (h : c → J K r X pc lv st S) (h' : ¬ c → J K r Y pc lv st S) : J K r (if c then X else Y) pc lv st S := by
  intro hX
  by_cases h0 : c
  · rw [if_pos h0] at hX
    exact h h0 hX
  · rw [if_neg h0] at hX
    exact h' h0 hX
theorem lk_ne {x : Int32} {n : Int} {z : Int32} (hz : z.toInt = n) (h : ¬ x = z) : ¬ x.toInt = n := fun e => h (Int32.toInt_inj.mp (e.trans hz.symm))
theorem lk_none {x : Int32} (e0 : ¬ x = 99) (e1 : ¬ x = 100) (e2 : ¬ x = 104) (e3 : ¬ x = 107) (e4 : ¬ x = 109) (e5 : ¬ x = 119) : Op.lookupswitch.offset (#[(99, 59), (100, 63), (104, 61), (107, 65), (109, 67), (119, 69)] : Array (Int × Int)).toList 71 x.toInt = 71 := by
  have h0 := lk_ne (n := 99) (by decide) e0
  have h1 := lk_ne (n := 100) (by decide) e1
  have h2 := lk_ne (n := 104) (by decide) e2
  have h3 := lk_ne (n := 107) (by decide) e3
  have h4 := lk_ne (n := 109) (by decide) e4
  have h5 := lk_ne (n := 119) (by decide) e5
  simp [Op.lookupswitch.offset, h0, h1, h2, h3, h4, h5, Ne.symm h0, Ne.symm h1, Ne.symm h2, Ne.symm h3, Ne.symm h4, Ne.symm h5]
