/-! ===== the pure world: cells by number, what each holds; no method but the constructors makes a cell, no reference changes ===== -/
/-- the numbers of the world: rows of ints by cell (an object's row: its int fields by their place), rows of longs by cell -/
abbrev St : Type := (Nat → Nat → Int32) × (Nat → Nat → Int64)
def rwI (S : St) (k : Nat) (f : Nat → Int32) : St := (fun a => if a = k then f else S.1 a, S.2)
def rwL (S : St) (k : Nat) (f : Nat → Int64) : St := (S.1, fun a => if a = k then f else S.2 a)
def upI (S : St) (k j : Nat) (v : Int32) : St := rwI S k (upd (S.1 k) j v)
def upL (S : St) (k j : Nat) (v : Int64) : St := rwL S k (vp_updL (S.2 k) j v)
/-- a Traffic's cells, from its base on -/
def kdT (b o : Nat) : Nat × Nat × List (Option Nat) := match o with
  | 0 => (7, 0, [none, none, some (b+1), some (b+2), some (b+3), some (b+4), some (b+5), some (b+6), some (b+7), some (b+8), some (b+9), some (b+10), some (b+11), some (b+12), some (b+13), none, some (b+14), some (b+15), some (b+16)])
  | 1 => (10, 4, [])
  | 2 => (10, 24, [])
  | 12 => (10, 48, [])
  | 13 => (10, 48, [])
  | _ => (10, 12, [])
/-- the kind of a cell: its class (below 10), or 10 an int row, 11 a long row, 12 a boolean row, 13 a row of Traffics; a row's length; an object's fields: none a number, some a cell -/
def kd (k : Nat) : Nat × Nat × List (Option Nat) := match k with
  | 0 => (8, 0, [some 1, some 9, some 42, some 14, some 17, some 19, some 22, some 24])
  | 1 => (4, 0, [some 2, none, some 4, some 3, none, none, none, none])
  | 2 => (10, 120, [])
  | 3 => (10, 5, [])
  | 4 => (6, 0, [none, some 5, some 6, some 7, some 8])
  | 5 => (10, 4, [])
  | 6 => (10, 4, [])
  | 7 => (10, 4, [])
  | 8 => (10, 5, [])
  | 9 => (6, 0, [none, some 10, some 11, some 12, some 13])
  | 10 => (10, 4, [])
  | 11 => (10, 4, [])
  | 12 => (10, 4, [])
  | 13 => (10, 5, [])
  | 14 => (0, 0, [some 9, some 42, some 15, some 16, none])
  | 15 => (10, 4, [])
  | 16 => (10, 13, [])
  | 17 => (1, 0, [some 18, none, none])
  | 18 => (13, 6, [some 59, some 76, some 93, some 110, some 127, some 144])
  | 19 => (2, 0, [some 20, some 21])
  | 20 => (13, 2, [some 161, some 178])
  | 21 => (12, 2, [])
  | 22 => (3, 0, [some 23, none, none])
  | 23 => (11, 7, [])
  | 24 => (5, 0, [none, some 25, some 26])
  | 25 => (10, 6, [])
  | 26 => (10, 6, [])
  | 27 => (9, 0, [some 28, some 29, none, some 30, some 31, none, some 32, none, none, some 33, some 34, some 35, none, none, none, none, none, none, none, some 36, some 37, some 38, some 39, none, some 40, none, none, some 41])
  | 28 => (10, 2547, [])
  | 29 => (12, 2, [])
  | 30 => (10, 6, [])
  | 31 => (10, 6, [])
  | 32 => (10, 120, [])
  | 33 => (10, 4, [])
  | 34 => (10, 4, [])
  | 35 => (10, 6, [])
  | 36 => (10, 4, [])
  | 37 => (10, 4, [])
  | 38 => (10, 4, [])
  | 39 => (10, 6, [])
  | 40 => (10, 256, [])
  | 41 => (11, 7, [])
  | k => kdT (42 + 17 * ((k - 42) / 17)) ((k - 42) % 17)
abbrev NC : Nat := 195
abbrev vwCl : List vw_C := [(RX0, TX0, 5), (RX1, TX1, 3), (RX2, TX2, 2), (RX3, TX3, 3), (RX4, TX4, 8), (RX5, TX5, 3), (RX6, TX6, 5), (RX7, TX7, 19), (RX8, TX8, 8), (RX9, TX9, 28)]
def fsOf (adr : Nat → Nat) (f : Nat → Int32) : Nat → List (Option Nat) → List Value
  | _, [] => []
  | j, none :: r => .int (f j) :: fsOf adr f (j + 1) r
  | j, some q :: r => .ref (adr q) :: fsOf adr f (j + 1) r
def cellOf (cy : Nat → ClassId) (adr : Nat → Nat) (S : St) (k : Nat) : va_E :=
  if (kd k).1 < 10 then .inr ((kd k).1, fsOf adr (S.1 k) 0 (kd k).2.2)
  else if (kd k).1 = 10 then .inl (cy 0, (kd k).2.1, .inl (S.1 k))
  else if (kd k).1 = 11 then .inl (cy 1, (kd k).2.1, .inr (.inl (S.2 k)))
  else if (kd k).1 = 12 then .inl (cy 2, (kd k).2.1, .inl (S.1 k))
  else .inl (cy 3, (kd k).2.1, .inr (.inr (.inr (.inr (fun j => ((kd k).2.2.getD j none).map adr)))))
def wsOf (cy : Nat → ClassId) (adr : Nat → Nat) (S : St) : va_W := (List.range NC).map (fun k => (adr k, cellOf cy adr S k))
def tysOf (cy : Nat → ClassId) : List (ClassId × FieldType) := [(cy 0, .int), (cy 1, .long), (cy 2, .boolean), (cy 3, .object "GuardCells$Traffic")]
theorem fsOf_len (adr : Nat → Nat) (f : Nat → Int32) : ∀ (rs : List (Option Nat)) (j : Nat), (fsOf adr f j rs).length = rs.length
  | [], _ => rfl
  | none :: r, j => congrArg Nat.succ (fsOf_len adr f r (j + 1))
  | some _ :: r, j => congrArg Nat.succ (fsOf_len adr f r (j + 1))
theorem fsOf_num (adr : Nat → Nat) (f : Nat → Int32) : ∀ (rs : List (Option Nat)) (j i : Nat), rs[i]? = some none → (fsOf adr f j rs)[i]? = some (.int (f (j + i)))
  | [], _, i, h => by simp at h
  | none :: r, j, 0, _ => rfl
  | some q :: r, j, 0, h => by simp at h
  | none :: r, j, i + 1, h => by
    have := fsOf_num adr f r (j + 1) i (by simpa using h)
    simpa [fsOf, Nat.add_assoc, Nat.add_comm 1 i] using this
  | some q :: r, j, i + 1, h => by
    have := fsOf_num adr f r (j + 1) i (by simpa using h)
    simpa [fsOf, Nat.add_assoc, Nat.add_comm 1 i] using this
theorem fsOf_ref (adr : Nat → Nat) (f : Nat → Int32) : ∀ (rs : List (Option Nat)) (j i q : Nat), rs[i]? = some (some q) → (fsOf adr f j rs)[i]? = some (.ref (adr q))
  | [], _, i, q, h => by simp at h
  | none :: r, j, 0, q, h => by simp at h
  | some q' :: r, j, 0, q, h => by
    simp at h
    simp [fsOf, h]
  | none :: r, j, i + 1, q, h => by
    have := fsOf_ref adr f r (j + 1) i q (by simpa using h)
    simpa [fsOf] using this
  | some q' :: r, j, i + 1, q, h => by
    have := fsOf_ref adr f r (j + 1) i q (by simpa using h)
    simpa [fsOf] using this
theorem fsOf_out (adr : Nat → Nat) (f : Nat → Int32) (i : Nat) (v : Int32) : ∀ (rs : List (Option Nat)) (j : Nat), i < j → fsOf adr (upd f i v) j rs = fsOf adr f j rs
  | [], _, _ => rfl
  | none :: r, j, h => by
    have := fsOf_out adr f i v r (j + 1) (by omega)
    simp [fsOf, this, upd, show ¬ j = i by omega]
  | some q :: r, j, h => by
    have := fsOf_out adr f i v r (j + 1) (by omega)
    simp [fsOf, this]
theorem fsOf_set (adr : Nat → Nat) (f : Nat → Int32) (v : Int32) : ∀ (rs : List (Option Nat)) (j i : Nat), rs[i]? = some none → (fsOf adr f j rs).set i (.int v) = fsOf adr (upd f (j + i) v) j rs
  | [], _, i, h => by simp at h
  | none :: r, j, 0, _ => by
    simp [fsOf, upd, fsOf_out adr f j v r (j + 1) (by omega)]
  | some q :: r, j, 0, h => by simp at h
  | none :: r, j, i + 1, h => by
    have := fsOf_set adr f v r (j + 1) i (by simpa using h)
    rw [show j + 1 + i = j + (i + 1) by omega] at this
    simp [fsOf, this, upd, show ¬ j = j + (i + 1) by omega]
  | some q :: r, j, i + 1, h => by
    have := fsOf_set adr f v r (j + 1) i (by simpa using h)
    rw [show j + 1 + i = j + (i + 1) by omega] at this
    simp [fsOf, this]
theorem cellOf_obj {cy : Nat → ClassId} {adr : Nat → Nat} {S : St} {k t n : Nat} {rs : List (Option Nat)} (h : kd k = (t, n, rs)) (ht : t < 10) : cellOf cy adr S k = .inr (t, fsOf adr (S.1 k) 0 rs) := by
  simp [cellOf, h, ht]
theorem cellOf_int {cy : Nat → ClassId} {adr : Nat → Nat} {S : St} {k n : Nat} {rs : List (Option Nat)} (h : kd k = (10, n, rs)) : cellOf cy adr S k = .inl (cy 0, n, .inl (S.1 k)) := by
  simp [cellOf, h]
theorem cellOf_long {cy : Nat → ClassId} {adr : Nat → Nat} {S : St} {k n : Nat} {rs : List (Option Nat)} (h : kd k = (11, n, rs)) : cellOf cy adr S k = .inl (cy 1, n, .inr (.inl (S.2 k))) := by
  simp [cellOf, h]
theorem cellOf_bool {cy : Nat → ClassId} {adr : Nat → Nat} {S : St} {k n : Nat} {rs : List (Option Nat)} (h : kd k = (12, n, rs)) : cellOf cy adr S k = .inl (cy 2, n, .inl (S.1 k)) := by
  simp [cellOf, h]
theorem cellOf_refs {cy : Nat → ClassId} {adr : Nat → Nat} {S : St} {k n : Nat} {rs : List (Option Nat)} (h : kd k = (13, n, rs)) : cellOf cy adr S k = .inl (cy 3, n, .inr (.inr (.inr (.inr (fun j => (rs.getD j none).map adr))))) := by
  simp [cellOf, h]
theorem cellOf_neI {cy : Nat → ClassId} {adr : Nat → Nat} {S : St} {k k' : Nat} {f : Nat → Int32} (h : k' ≠ k) : cellOf cy adr (rwI S k f) k' = cellOf cy adr S k' := by
  simp [cellOf, rwI, h]
theorem cellOf_neL {cy : Nat → ClassId} {adr : Nat → Nat} {S : St} {k k' : Nat} {f : Nat → Int64} (h : k' ≠ k) : cellOf cy adr (rwL S k f) k' = cellOf cy adr S k' := by
  simp [cellOf, rwL, h]
theorem wsOf_get {cy : Nat → ClassId} {adr : Nat → Nat} {S : St} {k : Nat} (hk : k < NC) : (wsOf cy adr S)[k]? = some (adr k, cellOf cy adr S k) := by
  simp [wsOf, List.getElem?_map, List.getElem?_range hk]
theorem wsOf_len {cy : Nat → ClassId} {adr : Nat → Nat} {S : St} : (wsOf cy adr S).length = NC := by simp [wsOf]
theorem wsOf_at {cy : Nat → ClassId} {adr : Nat → Nat} {S : St} {k : Nat} {q : Nat × va_E} (h : (wsOf cy adr S)[k]? = some q) : k < NC ∧ q.1 = adr k := by
  have hl : k < NC := by
    have := (List.getElem?_eq_some_iff.mp h).1
    rwa [wsOf_len] at this
  rw [wsOf_get hl] at h
  cases h
  exact ⟨hl, rfl⟩
theorem wsOf_set {cy : Nat → ClassId} {adr : Nat → Nat} {S S' : St} {k : Nat} {e : va_E} (hk : k < NC) (he : cellOf cy adr S' k = e) (hne : ∀ k', k' ≠ k → cellOf cy adr S' k' = cellOf cy adr S k') : (wsOf cy adr S).set k (adr k, e) = wsOf cy adr S' := by
  apply List.ext_getElem?
  intro i
  by_cases hi : i = k
  · subst hi
    rw [List.getElem?_set_self (by rw [wsOf_len]; exact hk), wsOf_get hk, he]
  · rw [List.getElem?_set_ne (Ne.symm hi)]
    by_cases hl : i < NC
    · rw [wsOf_get hl, wsOf_get hl, hne i hi]
    · rw [List.getElem?_eq_none (by rw [wsOf_len]; omega), List.getElem?_eq_none (by rw [wsOf_len]; omega)]
/-- which cells the world may change -/
def Aw (adr : Nat → Nat) : Nat → Prop := fun q => ∃ k, k < NC ∧ q = adr k
theorem wsOf_D {cy : Nat → ClassId} {adr : Nat → Nat} {S : St} {A : Nat → Prop} (hi : ∀ i j, i < NC → j < NC → adr i = adr j → i = j) (hA : ∀ k, k < NC → A (adr k)) : va_D A (wsOf cy adr S) := by
  refine ⟨fun i j x y hx hy hxy => ?_, fun k q hq => ?_⟩
  · obtain ⟨h1, e1⟩ := wsOf_at hx
    obtain ⟨h2, e2⟩ := wsOf_at hy
    exact hi i j h1 h2 (by rw [← e1, ← e2]; exact hxy)
  · obtain ⟨h1, e1⟩ := wsOf_at hq
    rw [e1]
    exact hA k h1
