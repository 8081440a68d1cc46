/-! ===== the judgement J: a pure term X of the rest of a method; if X = some r, the machine goes on to the end that r tells ===== -/
def isNest : Cond → Bool
  | .fieldLinkNest _ _ _ _ _ _ => true
  | .methodLinkNest _ _ _ _ => true
  | _ => false
def lw_good : List Cond := lw_tbl.filter goodWord
def lw_nest : List Cond := lw_tbl.filter isNest
theorem gd_of {w : Cond} (h : w ∈ lw_tbl) (g : goodWord w = true) : w ∈ lw_good := List.mem_filter.mpr ⟨h, g⟩
theorem ne_of {w : Cond} (h : w ∈ lw_tbl) (g : isNest w = true) : w ∈ lw_nest := List.mem_filter.mpr ⟨h, g⟩
theorem gd_good {w : Cond} (h : w ∈ lw_good) : (w.onTables && w.keeps) = true ∨ ∃ ty, w = .arrayClass ty := good_of_word (List.mem_filter.mp h).2
theorem nest_warm {s U : State} (hW : s.WarmedH U.vm) (h : ∀ w ∈ lw_nest, va_Nw w s) : ∀ w ∈ lw_nest, va_Nw w U := by
  intro w hw
  have h1 := h w hw
  have hn := (List.mem_filter.mp hw).2
  cases w <;> first | (simp [isNest] at hn; done) | exact va_Nw.warmF hW h1 | exact va_Nw.warmM hW h1
theorem nest_same {s U : State} (hv : s.vm = U.vm) (h : ∀ w ∈ lw_nest, va_Nw w s) : ∀ w ∈ lw_nest, va_Nw w U := by
  intro w hw
  have h1 := h w hw
  have hn := (List.mem_filter.mp hw).2
  cases w <;> first | (simp [isNest] at hn; done) | exact va_Nw.same rfl hv h1
/-- the four static rows -/
def tbLetter : Nat → Int32 := fun j => [104, 100, 107, 109, 119].getD j 0
def tbLeast : Nat → Int32 := fun j => [0, 1, 0, 0, 1].getD j 0
def tbMost : Nat → Int32 := fun j => [20, 5, 3, 60, 9].getD j 0
def tbFirst : Nat → Int32 := fun j => [3, 2, 1, 10, 3].getD j 0
def Sta (n d : String) (ty : FieldType) (f : Nat → Int32) (A : Nat → Prop) (s : State) : Prop := ∃ t : Nat, va_Z RX8 n d (.ref t) A s s.heap ∧ va_T ty t 5 (fun j => .int (f j)) A s s.heap
def Stt (A : Nat → Prop) (s : State) : Prop := Sta "SETTING_LETTER" "[C" .char tbLetter A s ∧ Sta "SETTING_LEAST" "[I" .int tbLeast A s ∧ Sta "SETTING_MOST" "[I" .int tbMost A s ∧ Sta "SETTING_FIRST" "[I" .int tbFirst A s
theorem Sta.to {n d : String} {ty : FieldType} {f : Nat → Int32} {A B : Nat → Prop} {s U : State} {H : Heap} {locs : List Loc} (h : Sta n d ty f A s) (hS : va_S A s.heap H locs) (hAB : ∀ q, B q → A q) (hvm : s.vm.Alike U.vm) (hU : U.heap = H) : Sta n d ty f B U := by
  obtain ⟨t, h1, h2⟩ := h
  refine ⟨t, ?_, ?_⟩
  · rw [hU]; exact ((h1.kept hS.2.1).narrow hAB).moved hvm
  · rw [hU]; exact ((h2.kept hS.2.1).narrow hAB).moved hvm
theorem Stt.to {A B : Nat → Prop} {s U : State} {H : Heap} {locs : List Loc} (h : Stt A s) (hS : va_S A s.heap H locs) (hAB : ∀ q, B q → A q) (hvm : s.vm.Alike U.vm) (hU : U.heap = H) : Stt B U :=
  ⟨h.1.to hS hAB hvm hU, h.2.1.to hS hAB hvm hU, h.2.2.1.to hS hAB hvm hU, h.2.2.2.to hS hAB hvm hU⟩
/-- a state that holds the world S -/
def Wd (D : va_G) (cy : Nat → ClassId) (adr : Nat → Nat) (S : St) (U : State) : Prop :=
  va_P D vwCl (wsOf cy adr S) U.heap ∧ va_K D vwCl (tysOf cy) U ∧ (∀ i j, i < NC → j < NC → adr i = adr j → i = j) ∧ (∀ w ∈ lw_nest, va_Nw w U) ∧ Stt (Aw adr) U
theorem Wd.blind {D : va_G} {cy : Nat → ClassId} {adr : Nat → Nat} {S : St} {av : List Value} : FrameBlind (va_Pc av (Wd D cy adr S)) := by
  intro a U g mk q
  obtain ⟨q0, qP, qK, qI, qN, qS⟩ := q
  exact ⟨q0, qP, va_K.moved (u := U) (U := U.calling g mk a) (Vm.Alike.refl U.vm) qK, qI, nest_same (s := U) (U := U.calling g mk a) rfl qN, qS.to (U := U.calling g mk a) (H := U.heap) (locs := []) va_S.rf (fun _ h => h) (Vm.Alike.refl U.vm) rfl⟩
abbrev Kt : Type := Nat → List (Nat × Value) → List Value → St → Prop
def Gd (p : Program) (l : Launch) (e : Env) (R : Room) (s : State) (m : MethodId) (args : Array Value) (below : List Frame) (meth : Method) (c : Code) (nL : Nat) (D : va_G) (cy : Nat → ClassId) (adr : Nat → Nat) (A : Nat → Prop) (cN sN : Nat) (Q : State → Prop) : Kt := fun pc lv st S =>
  ∀ (H : Heap) (locs : List Loc) (ls : Array Slot), va_P D vwCl (wsOf cy adr S) H → va_S A s.heap H locs → lv_has ls nL lv → W p l e R s m args below meth c H locs cN sN Q (F0 m pc ls st)
/-- a method's body is walked: the machine, its code, the tables' words, the world's addresses -/
def Cx (K : Kt) (cc : ByteArray) (own : String) (nL : Nat) (adr : Nat → Nat) (R : Room) : Prop :=
  ∃ (p : Program) (l : Launch) (e : Env) (s : State) (m : MethodId) (args : Array Value) (below : List Frame) (meth : Method) (c : Code) (D : va_G) (cy : Nat → ClassId) (A : Nat → Prop) (cN sN : Nat) (Q : State → Prop),
    K = Gd p l e R s m args below meth c nL D cy adr A cN sN Q ∧ p.tables.exec = Jvm.exec ∧ c.code = cc ∧ c.maxLocals = nL ∧ s.vm.findClass own = some m.cls ∧ (∀ w ∈ lw_good, w.before args s = true) ∧ (∀ w ∈ lw_nest, va_Nw w s) ∧ va_K D vwCl (tysOf cy) s ∧ (∀ i j, i < NC → j < NC → adr i = adr j → i = j) ∧ (∀ k, k < NC → A (adr k)) ∧ Stt A s ∧ cN ≤ R.cells ∧ sN ≤ R.slots
def J {ρ : Type} (K : Kt) (r : ρ) (X : Option ρ) (pc : Nat) (lv : List (Nat × Value)) (st : List Value) (S : St) : Prop := X = some r → K pc lv st S
/-- an index is looked at; a divisor; a truth value -/
def ck {ρ : Type} (i : Int32) (n : Nat) (X : Option ρ) : Option ρ := if i < 0 ∨ n ≤ i.toNatClampNeg then none else X
def nz {ρ : Type} (y : Int32) (X : Option ρ) : Option ρ := if y = 0 then none else X
def nzL {ρ : Type} (y : Int64) (X : Option ρ) : Option ρ := if y = 0 then none else X
def lt {α β : Type} (a : α) (f : α → β) : β := f a
def bd {α ρ : Type} (m : Option (α × St)) (f : α → St → Option ρ) : Option ρ := m.bind (fun q => f q.1 q.2)
def bdV {ρ : Type} (m : Option St) (f : St → Option ρ) : Option ρ := m.bind f
def sw {ρ : Type} (x : Int32) (lo hi : Int) (X : Option ρ) (Y : Nat → Option ρ) : Option ρ := if x.toInt < lo ∨ hi < x.toInt then X else Y (x.toInt - lo).toNat
def bz {ρ : Type} (v : Int32) (X : Option ρ) : Option ρ := if v = 0 ∨ v = 1 then X else none
theorem ck_some {ρ : Type} {i : Int32} {n : Nat} {X : Option ρ} {r : ρ} (h : ck i n X = some r) : vp_in i n ∧ X = some r := by
  unfold ck at h
  split at h
  · cases h
  · rename_i hn
    exact ⟨hn, h⟩
theorem nz_some {ρ : Type} {y : Int32} {X : Option ρ} {r : ρ} (h : nz y X = some r) : ¬ y = 0 ∧ X = some r := by
  unfold nz at h
  split at h
  · cases h
  · rename_i hn
    exact ⟨hn, h⟩
theorem nzL_some {ρ : Type} {y : Int64} {X : Option ρ} {r : ρ} (h : nzL y X = some r) : ¬ y = 0 ∧ X = some r := by
  unfold nzL at h
  split at h
  · cases h
  · rename_i hn
    exact ⟨hn, h⟩
theorem bz_some {ρ : Type} {v : Int32} {X : Option ρ} {r : ρ} (h : bz v X = some r) : (v = 0 ∨ v = 1) ∧ X = some r := by
  unfold bz at h
  split at h
  · rename_i hn
    exact ⟨hn, h⟩
  · cases h
section JR
variable {ρ : Type} {K : Kt} {cc : ByteArray} {own : String} {nL : Nat} {adr : Nat → Nat} {R : Room} {r : ρ} {X Y : Option ρ} {pc : Nat} {lv : List (Nat × Value)} {st : List Value} {S : St}
theorem j_iadd (C : Cx K cc own nL adr R) {x y : Int32} (d : decode cc pc = .ok (.iadd, 1)) (h : J K r X (pc + 1) lv (.int (x + y) :: st) S) : J K r X pc lv (.int y :: .int x :: st) S := by
  obtain ⟨p, l, e, s, m, args, below, meth, c, D, cy, A, cN, sN, Q, rfl, hx, hb, hml, hown, hts, hnw, hK, hI, hA, hSt, hcN, hsN⟩ := C
  intro hX H locs ls hP hS hl
  exact lv_iadd hx hb d (h hX H locs ls hP hS hl)
theorem j_isub (C : Cx K cc own nL adr R) {x y : Int32} (d : decode cc pc = .ok (.isub, 1)) (h : J K r X (pc + 1) lv (.int (x - y) :: st) S) : J K r X pc lv (.int y :: .int x :: st) S := by
  obtain ⟨p, l, e, s, m, args, below, meth, c, D, cy, A, cN, sN, Q, rfl, hx, hb, hml, hown, hts, hnw, hK, hI, hA, hSt, hcN, hsN⟩ := C
  intro hX H locs ls hP hS hl
  exact lv_isub hx hb d (h hX H locs ls hP hS hl)
theorem j_imul (C : Cx K cc own nL adr R) {x y : Int32} (d : decode cc pc = .ok (.imul, 1)) (h : J K r X (pc + 1) lv (.int (x * y) :: st) S) : J K r X pc lv (.int y :: .int x :: st) S := by
  obtain ⟨p, l, e, s, m, args, below, meth, c, D, cy, A, cN, sN, Q, rfl, hx, hb, hml, hown, hts, hnw, hK, hI, hA, hSt, hcN, hsN⟩ := C
  intro hX H locs ls hP hS hl
  exact lv_imul hx hb d (h hX H locs ls hP hS hl)
theorem j_iand (C : Cx K cc own nL adr R) {x y : Int32} (d : decode cc pc = .ok (.iand, 1)) (h : J K r X (pc + 1) lv (.int (x &&& y) :: st) S) : J K r X pc lv (.int y :: .int x :: st) S := by
  obtain ⟨p, l, e, s, m, args, below, meth, c, D, cy, A, cN, sN, Q, rfl, hx, hb, hml, hown, hts, hnw, hK, hI, hA, hSt, hcN, hsN⟩ := C
  intro hX H locs ls hP hS hl
  exact lv_iand hx hb d (h hX H locs ls hP hS hl)
theorem j_ior (C : Cx K cc own nL adr R) {x y : Int32} (d : decode cc pc = .ok (.ior, 1)) (h : J K r X (pc + 1) lv (.int (x ||| y) :: st) S) : J K r X pc lv (.int y :: .int x :: st) S := by
  obtain ⟨p, l, e, s, m, args, below, meth, c, D, cy, A, cN, sN, Q, rfl, hx, hb, hml, hown, hts, hnw, hK, hI, hA, hSt, hcN, hsN⟩ := C
  intro hX H locs ls hP hS hl
  exact lv_ior hx hb d (h hX H locs ls hP hS hl)
theorem j_ishl (C : Cx K cc own nL adr R) {x y : Int32} (d : decode cc pc = .ok (.ishl, 1)) (h : J K r X (pc + 1) lv (.int (x <<< (y &&& 31)) :: st) S) : J K r X pc lv (.int y :: .int x :: st) S := by
  obtain ⟨p, l, e, s, m, args, below, meth, c, D, cy, A, cN, sN, Q, rfl, hx, hb, hml, hown, hts, hnw, hK, hI, hA, hSt, hcN, hsN⟩ := C
  intro hX H locs ls hP hS hl
  exact lv_ishl hx hb d (h hX H locs ls hP hS hl)
theorem j_ishr (C : Cx K cc own nL adr R) {x y : Int32} (d : decode cc pc = .ok (.ishr, 1)) (h : J K r X (pc + 1) lv (.int (x >>> (y &&& 31)) :: st) S) : J K r X pc lv (.int y :: .int x :: st) S := by
  obtain ⟨p, l, e, s, m, args, below, meth, c, D, cy, A, cN, sN, Q, rfl, hx, hb, hml, hown, hts, hnw, hK, hI, hA, hSt, hcN, hsN⟩ := C
  intro hX H locs ls hP hS hl
  exact lv_ishr hx hb d (h hX H locs ls hP hS hl)
theorem j_iushr (C : Cx K cc own nL adr R) {x y : Int32} (d : decode cc pc = .ok (.iushr, 1)) (h : J K r X (pc + 1) lv (.int (x.toUInt32 >>> (y.toUInt32 &&& Int32.toUInt32 31)).toInt32 :: st) S) : J K r X pc lv (.int y :: .int x :: st) S := by
  obtain ⟨p, l, e, s, m, args, below, meth, c, D, cy, A, cN, sN, Q, rfl, hx, hb, hml, hown, hts, hnw, hK, hI, hA, hSt, hcN, hsN⟩ := C
  intro hX H locs ls hP hS hl
  exact lv_iushr hx hb d rfl (h hX H locs ls hP hS hl)
theorem j_i2l (C : Cx K cc own nL adr R) {x : Int32} (d : decode cc pc = .ok (.i2l, 1)) (h : J K r X (pc + 1) lv (.long x.toInt64 :: st) S) : J K r X pc lv (.int x :: st) S := by
  obtain ⟨p, l, e, s, m, args, below, meth, c, D, cy, A, cN, sN, Q, rfl, hx, hb, hml, hown, hts, hnw, hK, hI, hA, hSt, hcN, hsN⟩ := C
  intro hX H locs ls hP hS hl
  exact lv_i2l hx hb d rfl (h hX H locs ls hP hS hl)
theorem j_ladd (C : Cx K cc own nL adr R) {x y : Int64} (d : decode cc pc = .ok (.ladd, 1)) (h : J K r X (pc + 1) lv (.long (x + y) :: st) S) : J K r X pc lv (.long y :: .long x :: st) S := by
  obtain ⟨p, l, e, s, m, args, below, meth, c, D, cy, A, cN, sN, Q, rfl, hx, hb, hml, hown, hts, hnw, hK, hI, hA, hSt, hcN, hsN⟩ := C
  intro hX H locs ls hP hS hl
  exact lv_ladd hx hb d (h hX H locs ls hP hS hl)
theorem j_lmul (C : Cx K cc own nL adr R) {x y : Int64} (d : decode cc pc = .ok (.lmul, 1)) (h : J K r X (pc + 1) lv (.long (x * y) :: st) S) : J K r X pc lv (.long y :: .long x :: st) S := by
  obtain ⟨p, l, e, s, m, args, below, meth, c, D, cy, A, cN, sN, Q, rfl, hx, hb, hml, hown, hts, hnw, hK, hI, hA, hSt, hcN, hsN⟩ := C
  intro hX H locs ls hP hS hl
  exact lv_lmul hx hb d (h hX H locs ls hP hS hl)
theorem j_lcmp (C : Cx K cc own nL adr R) {x y : Int64} (d : decode cc pc = .ok (.lcmp, 1)) (h : J K r X (pc + 1) lv (.int (lg_cmp x y) :: st) S) : J K r X pc lv (.long y :: .long x :: st) S := by
  obtain ⟨p, l, e, s, m, args, below, meth, c, D, cy, A, cN, sN, Q, rfl, hx, hb, hml, hown, hts, hnw, hK, hI, hA, hSt, hcN, hsN⟩ := C
  intro hX H locs ls hP hS hl
  exact W.lcmp hx hb d (h hX H locs ls hP hS hl)
theorem j_iconst (C : Cx K cc own nL adr R) {n : Int} {v : Int32} (d : decode cc pc = .ok (.iconst n, 1)) (hv : Int32.ofInt n = v) (h : J K r X (pc + 1) lv (.int v :: st) S) : J K r X pc lv (st) S := by
  obtain ⟨p, l, e, s, m, args, below, meth, c, D, cy, A, cN, sN, Q, rfl, hx, hb, hml, hown, hts, hnw, hK, hI, hA, hSt, hcN, hsN⟩ := C
  intro hX H locs ls hP hS hl
  exact lv_iconst hx hb d hv (h hX H locs ls hP hS hl)
theorem j_bipush (C : Cx K cc own nL adr R) {n : Int} {v : Int32} (d : decode cc pc = .ok (.bipush n, 2)) (hv : (Int8.ofInt n).toInt32 = v) (h : J K r X (pc + 2) lv (.int v :: st) S) : J K r X pc lv (st) S := by
  obtain ⟨p, l, e, s, m, args, below, meth, c, D, cy, A, cN, sN, Q, rfl, hx, hb, hml, hown, hts, hnw, hK, hI, hA, hSt, hcN, hsN⟩ := C
  intro hX H locs ls hP hS hl
  exact lv_bipush hx hb d hv (h hX H locs ls hP hS hl)
theorem j_sipush (C : Cx K cc own nL adr R) {n : Int} {v : Int32} (d : decode cc pc = .ok (.sipush n, 3)) (hv : (Int16.ofInt n).toInt32 = v) (h : J K r X (pc + 3) lv (.int v :: st) S) : J K r X pc lv (st) S := by
  obtain ⟨p, l, e, s, m, args, below, meth, c, D, cy, A, cN, sN, Q, rfl, hx, hb, hml, hown, hts, hnw, hK, hI, hA, hSt, hcN, hsN⟩ := C
  intro hX H locs ls hP hS hl
  exact lv_sipush hx hb d hv (h hX H locs ls hP hS hl)
theorem j_lconst (C : Cx K cc own nL adr R) {n : Fin 2} {v : Int64} (d : decode cc pc = .ok (.lconst n, 1)) (hv : Int64.ofNat (n : Nat) = v) (h : J K r X (pc + 1) lv (.long v :: st) S) : J K r X pc lv (st) S := by
  obtain ⟨p, l, e, s, m, args, below, meth, c, D, cy, A, cN, sN, Q, rfl, hx, hb, hml, hown, hts, hnw, hK, hI, hA, hSt, hcN, hsN⟩ := C
  intro hX H locs ls hP hS hl
  exact lv_lconst hx hb d hv (h hX H locs ls hP hS hl)
theorem j_ldc (C : Cx K cc own nL adr R) {idx : Nat} {v : Int32} (d : decode cc pc = .ok (.ldc idx, 2)) (hc : Cond.constant own idx v ∈ lw_good) (h : J K r X (pc + 2) lv (.int v :: st) S) : J K r X pc lv (st) S := by
  obtain ⟨p, l, e, s, m, args, below, meth, c, D, cy, A, cN, sN, Q, rfl, hx, hb, hml, hown, hts, hnw, hK, hI, hA, hSt, hcN, hsN⟩ := C
  intro hX H locs ls hP hS hl
  exact lv_ldc hx hb hown (hts _ hc) d (h hX H locs ls hP hS hl)
theorem j_ldc2 (C : Cx K cc own nL adr R) {idx : Nat} {v : Int64} (d : decode cc pc = .ok (.ldc2_w idx, 3)) (hc : Cond.constantLong own idx v ∈ lw_good) (h : J K r X (pc + 3) lv (.long v :: st) S) : J K r X pc lv (st) S := by
  obtain ⟨p, l, e, s, m, args, below, meth, c, D, cy, A, cN, sN, Q, rfl, hx, hb, hml, hown, hts, hnw, hK, hI, hA, hSt, hcN, hsN⟩ := C
  intro hX H locs ls hP hS hl
  exact lv_ldc2 hx hb hown (hts _ hc) d (h hX H locs ls hP hS hl)
theorem j_dup (C : Cx K cc own nL adr R) {va : Value} (d : decode cc pc = .ok (.dup, 1)) (hva : va.category = 1) (h : J K r X (pc + 1) lv (va :: va :: st) S) : J K r X pc lv (va :: st) S := by
  obtain ⟨p, l, e, s, m, args, below, meth, c, D, cy, A, cN, sN, Q, rfl, hx, hb, hml, hown, hts, hnw, hK, hI, hA, hSt, hcN, hsN⟩ := C
  intro hX H locs ls hP hS hl
  exact lv_dup hx hb d hva (h hX H locs ls hP hS hl)
theorem j_pop (C : Cx K cc own nL adr R) {va : Value} (d : decode cc pc = .ok (.pop, 1)) (hva : va.category = 1) (h : J K r X (pc + 1) lv (st) S) : J K r X pc lv (va :: st) S := by
  obtain ⟨p, l, e, s, m, args, below, meth, c, D, cy, A, cN, sN, Q, rfl, hx, hb, hml, hown, hts, hnw, hK, hI, hA, hSt, hcN, hsN⟩ := C
  intro hX H locs ls hP hS hl
  exact lv_pop hx hb d hva (h hX H locs ls hP hS hl)
theorem j_dup2 (C : Cx K cc own nL adr R) {va vb : Value} (d : decode cc pc = .ok (.dup2, 1)) (hva : va.category = 1) (hvb : vb.category = 1) (h : J K r X (pc + 1) lv (va :: vb :: va :: vb :: st) S) : J K r X pc lv (va :: vb :: st) S := by
  obtain ⟨p, l, e, s, m, args, below, meth, c, D, cy, A, cN, sN, Q, rfl, hx, hb, hml, hown, hts, hnw, hK, hI, hA, hSt, hcN, hsN⟩ := C
  intro hX H locs ls hP hS hl
  exact lv_dup2_11 hx hb d hva hvb (h hX H locs ls hP hS hl)
theorem j_iload_n (C : Cx K cc own nL adr R) {k : Fin 4} {i : Nat} {x : Int32} (d : decode cc pc = .ok (.iload_n k, 1)) (q : Nat) (hi : (k : Nat) = i) (hq : lv[q]? = some (i, .int x)) (h : J K r X (pc + 1) lv (.int x :: st) S) : J K r X pc lv (st) S := by
  obtain ⟨p, l, e, s, m, args, below, meth, c, D, cy, A, cN, sN, Q, rfl, hx, hb, hml, hown, hts, hnw, hK, hI, hA, hSt, hcN, hsN⟩ := C
  intro hX H locs ls hP hS hl
  exact lv_iload_n hx hb d hi (lv_at hl q hq) (h hX H locs ls hP hS hl)
theorem j_iload (C : Cx K cc own nL adr R) {i : Nat} {x : Int32} (d : decode cc pc = .ok (.iload i, 2)) (q : Nat) (hq : lv[q]? = some (i, .int x)) (h : J K r X (pc + 2) lv (.int x :: st) S) : J K r X pc lv (st) S := by
  obtain ⟨p, l, e, s, m, args, below, meth, c, D, cy, A, cN, sN, Q, rfl, hx, hb, hml, hown, hts, hnw, hK, hI, hA, hSt, hcN, hsN⟩ := C
  intro hX H locs ls hP hS hl
  exact lv_iload hx hb d (lv_at hl q hq) (h hX H locs ls hP hS hl)
theorem j_istore_n (C : Cx K cc own nL adr R) {k : Fin 4} {i : Nat} {x : Int32} {lv' : List (Nat × Value)} (d : decode cc pc = .ok (.istore_n k, 1)) (hi : (k : Nat) = i) (hn : i < nL) (hl' : (i, Value.int x) :: lv.filter (fun q => !(q.1 == i) && !(q.1 + 1 == i && q.2.category == 2)) = lv') (h : J K r X (pc + 1) lv' st S) : J K r X pc lv (.int x :: st) S := by
  obtain ⟨p, l, e, s, m, args, below, meth, c, D, cy, A, cN, sN, Q, rfl, hx, hb, hml, hown, hts, hnw, hK, hI, hA, hSt, hcN, hsN⟩ := C
  intro hX H locs ls hP hS hl
  exact lv_istore_n hx hb d hi hl hn hl' (fun ls' h' => h hX H locs ls' hP hS h')
theorem j_istore (C : Cx K cc own nL adr R) {i : Nat} {x : Int32} {lv' : List (Nat × Value)} (d : decode cc pc = .ok (.istore i, 2)) (hn : i < nL) (hl' : (i, Value.int x) :: lv.filter (fun q => !(q.1 == i) && !(q.1 + 1 == i && q.2.category == 2)) = lv') (h : J K r X (pc + 2) lv' st S) : J K r X pc lv (.int x :: st) S := by
  obtain ⟨p, l, e, s, m, args, below, meth, c, D, cy, A, cN, sN, Q, rfl, hx, hb, hml, hown, hts, hnw, hK, hI, hA, hSt, hcN, hsN⟩ := C
  intro hX H locs ls hP hS hl
  exact lv_istore hx hb d hl hn hl' (fun ls' h' => h hX H locs ls' hP hS h')
theorem j_lload_n (C : Cx K cc own nL adr R) {k : Fin 4} {i : Nat} {x : Int64} (d : decode cc pc = .ok (.lload_n k, 1)) (q : Nat) (hi : (k : Nat) = i) (hq : lv[q]? = some (i, .long x)) (h : J K r X (pc + 1) lv (.long x :: st) S) : J K r X pc lv (st) S := by
  obtain ⟨p, l, e, s, m, args, below, meth, c, D, cy, A, cN, sN, Q, rfl, hx, hb, hml, hown, hts, hnw, hK, hI, hA, hSt, hcN, hsN⟩ := C
  intro hX H locs ls hP hS hl
  exact lv_lload_n hx hb d hi (lv_at hl q hq) (h hX H locs ls hP hS hl)
theorem j_lload (C : Cx K cc own nL adr R) {i : Nat} {x : Int64} (d : decode cc pc = .ok (.lload i, 2)) (q : Nat) (hq : lv[q]? = some (i, .long x)) (h : J K r X (pc + 2) lv (.long x :: st) S) : J K r X pc lv (st) S := by
  obtain ⟨p, l, e, s, m, args, below, meth, c, D, cy, A, cN, sN, Q, rfl, hx, hb, hml, hown, hts, hnw, hK, hI, hA, hSt, hcN, hsN⟩ := C
  intro hX H locs ls hP hS hl
  exact lv_lload hx hb d (lv_at hl q hq) (h hX H locs ls hP hS hl)
theorem j_lstore_n (C : Cx K cc own nL adr R) {k : Fin 4} {i : Nat} {x : Int64} {lv' : List (Nat × Value)} (d : decode cc pc = .ok (.lstore_n k, 1)) (hi : (k : Nat) = i) (hn : i + 1 < nL) (hl' : (i, Value.long x) :: lv.filter (fun q => !(q.1 == i) && (!(q.1 == i + 1) && !(q.1 + 1 == i && q.2.category == 2))) = lv') (h : J K r X (pc + 1) lv' st S) : J K r X pc lv (.long x :: st) S := by
  obtain ⟨p, l, e, s, m, args, below, meth, c, D, cy, A, cN, sN, Q, rfl, hx, hb, hml, hown, hts, hnw, hK, hI, hA, hSt, hcN, hsN⟩ := C
  intro hX H locs ls hP hS hl
  exact lv_lstore_n hx hb d hi hl hn hl' (fun ls' h' => h hX H locs ls' hP hS h')
theorem j_lstore (C : Cx K cc own nL adr R) {i : Nat} {x : Int64} {lv' : List (Nat × Value)} (d : decode cc pc = .ok (.lstore i, 2)) (hn : i + 1 < nL) (hl' : (i, Value.long x) :: lv.filter (fun q => !(q.1 == i) && (!(q.1 == i + 1) && !(q.1 + 1 == i && q.2.category == 2))) = lv') (h : J K r X (pc + 2) lv' st S) : J K r X pc lv (.long x :: st) S := by
  obtain ⟨p, l, e, s, m, args, below, meth, c, D, cy, A, cN, sN, Q, rfl, hx, hb, hml, hown, hts, hnw, hK, hI, hA, hSt, hcN, hsN⟩ := C
  intro hX H locs ls hP hS hl
  exact lv_lstore hx hb d hl hn hl' (fun ls' h' => h hX H locs ls' hP hS h')
theorem j_aload_n (C : Cx K cc own nL adr R) {k : Fin 4} {i : Nat} {x : Nat} (d : decode cc pc = .ok (.aload_n k, 1)) (q : Nat) (hi : (k : Nat) = i) (hq : lv[q]? = some (i, .ref x)) (h : J K r X (pc + 1) lv (.ref x :: st) S) : J K r X pc lv (st) S := by
  obtain ⟨p, l, e, s, m, args, below, meth, c, D, cy, A, cN, sN, Q, rfl, hx, hb, hml, hown, hts, hnw, hK, hI, hA, hSt, hcN, hsN⟩ := C
  intro hX H locs ls hP hS hl
  exact lv_aload_n hx hb d hi (lv_at hl q hq) (h hX H locs ls hP hS hl)
theorem j_aload (C : Cx K cc own nL adr R) {i : Nat} {x : Nat} (d : decode cc pc = .ok (.aload i, 2)) (q : Nat) (hq : lv[q]? = some (i, .ref x)) (h : J K r X (pc + 2) lv (.ref x :: st) S) : J K r X pc lv (st) S := by
  obtain ⟨p, l, e, s, m, args, below, meth, c, D, cy, A, cN, sN, Q, rfl, hx, hb, hml, hown, hts, hnw, hK, hI, hA, hSt, hcN, hsN⟩ := C
  intro hX H locs ls hP hS hl
  exact lv_aload hx hb d (lv_at hl q hq) (h hX H locs ls hP hS hl)
theorem j_astore_n (C : Cx K cc own nL adr R) {k : Fin 4} {i : Nat} {x : Nat} {lv' : List (Nat × Value)} (d : decode cc pc = .ok (.astore_n k, 1)) (hi : (k : Nat) = i) (hn : i < nL) (hl' : (i, Value.ref x) :: lv.filter (fun q => !(q.1 == i) && !(q.1 + 1 == i && q.2.category == 2)) = lv') (h : J K r X (pc + 1) lv' st S) : J K r X pc lv (.ref x :: st) S := by
  obtain ⟨p, l, e, s, m, args, below, meth, c, D, cy, A, cN, sN, Q, rfl, hx, hb, hml, hown, hts, hnw, hK, hI, hA, hSt, hcN, hsN⟩ := C
  intro hX H locs ls hP hS hl
  exact lv_astore_n hx hb d hi hl hn hl' (fun ls' h' => h hX H locs ls' hP hS h')
theorem j_astore (C : Cx K cc own nL adr R) {i : Nat} {x : Nat} {lv' : List (Nat × Value)} (d : decode cc pc = .ok (.astore i, 2)) (hn : i < nL) (hl' : (i, Value.ref x) :: lv.filter (fun q => !(q.1 == i) && !(q.1 + 1 == i && q.2.category == 2)) = lv') (h : J K r X (pc + 2) lv' st S) : J K r X pc lv (.ref x :: st) S := by
  obtain ⟨p, l, e, s, m, args, below, meth, c, D, cy, A, cN, sN, Q, rfl, hx, hb, hml, hown, hts, hnw, hK, hI, hA, hSt, hcN, hsN⟩ := C
  intro hX H locs ls hP hS hl
  exact lv_astore hx hb d hl hn hl' (fun ls' h' => h hX H locs ls' hP hS h')
theorem j_iinc (C : Cx K cc own nL adr R) {i : Nat} {n : Int} {x : Int32} {v : Int32} {lv' : List (Nat × Value)} (d : decode cc pc = .ok (.iinc i n, 3)) (k : Nat) (hk : lv[k]? = some (i, .int x)) (hv : x + Int32.ofInt n = v) (hn : i < nL) (hl' : (i, Value.int v) :: lv.filter (fun q => !(q.1 == i) && !(q.1 + 1 == i && q.2.category == 2)) = lv') (h : J K r X (pc + 3) lv' st S) : J K r X pc lv st S := by
  obtain ⟨p, l, e, s, m, args, below, meth, c, D, cy, A, cN, sN, Q, rfl, hx, hb, hml, hown, hts, hnw, hK, hI, hA, hSt, hcN, hsN⟩ := C
  intro hX H locs ls hP hS hl
  exact lv_iinc hx hb d hl hk hv hn hl' (fun ls' h' => h hX H locs ls' hP hS h')
theorem j_idiv (C : Cx K cc own nL adr R) {x y : Int32} (d : decode cc pc = .ok (.idiv, 1)) (h : J K r X (pc + 1) lv (.int (x / y) :: st) S) : J K r (nz y X) pc lv (.int y :: .int x :: st) S := by
  obtain ⟨p, l, e, s, m, args, below, meth, c, D, cy, A, cN, sN, Q, rfl, hx, hb, hml, hown, hts, hnw, hK, hI, hA, hSt, hcN, hsN⟩ := C
  intro hX H locs ls hP hS hl
  obtain ⟨hy, hX⟩ := nz_some hX
  exact lv_idiv hx hb d hy (h hX H locs ls hP hS hl)
theorem j_irem (C : Cx K cc own nL adr R) {x y : Int32} (d : decode cc pc = .ok (.irem, 1)) (h : J K r X (pc + 1) lv (.int (x - x / y * y) :: st) S) : J K r (nz y X) pc lv (.int y :: .int x :: st) S := by
  obtain ⟨p, l, e, s, m, args, below, meth, c, D, cy, A, cN, sN, Q, rfl, hx, hb, hml, hown, hts, hnw, hK, hI, hA, hSt, hcN, hsN⟩ := C
  intro hX H locs ls hP hS hl
  obtain ⟨hy, hX⟩ := nz_some hX
  exact lv_irem hx hb d hy (h hX H locs ls hP hS hl)
theorem j_ldiv (C : Cx K cc own nL adr R) {x y : Int64} (d : decode cc pc = .ok (.ldiv, 1)) (h : J K r X (pc + 1) lv (.long (x / y) :: st) S) : J K r (nzL y X) pc lv (.long y :: .long x :: st) S := by
  obtain ⟨p, l, e, s, m, args, below, meth, c, D, cy, A, cN, sN, Q, rfl, hx, hb, hml, hown, hts, hnw, hK, hI, hA, hSt, hcN, hsN⟩ := C
  intro hX H locs ls hP hS hl
  obtain ⟨hy, hX⟩ := nzL_some hX
  exact lv_ldiv hx hb d hy (h hX H locs ls hP hS hl)
theorem j_lrem (C : Cx K cc own nL adr R) {x y : Int64} (d : decode cc pc = .ok (.lrem, 1)) (h : J K r X (pc + 1) lv (.long (x - x / y * y) :: st) S) : J K r (nzL y X) pc lv (.long y :: .long x :: st) S := by
  obtain ⟨p, l, e, s, m, args, below, meth, c, D, cy, A, cN, sN, Q, rfl, hx, hb, hml, hown, hts, hnw, hK, hI, hA, hSt, hcN, hsN⟩ := C
  intro hX H locs ls hP hS hl
  obtain ⟨hy, hX⟩ := nzL_some hX
  exact lv_lrem hx hb d hy (h hX H locs ls hP hS hl)
theorem j_icmp_eq (C : Cx K cc own nL adr R) {x y : Int32} {off : Int} (d : decode cc pc = .ok (.if_icmp .eq off, 3)) (tgt : Nat) (ht : (pc : Int) + off = (tgt : Int)) (h : J K r X tgt lv st S) (h' : J K r Y (pc + 3) lv st S) : J K r (if x = y then X else Y) pc lv (.int y :: .int x :: st) S := by
  obtain ⟨p, l, e, s, m, args, below, meth, c, D, cy, A, cN, sN, Q, rfl, hx, hb, hml, hown, hts, hnw, hK, hI, hA, hSt, hcN, hsN⟩ := C
  intro hX H locs ls hP hS hl
  exact lv_icmp_eq hx hb d ht (fun c1 => h (by rw [if_pos c1] at hX; exact hX) H locs ls hP hS hl) (fun c1 => h' (by rw [if_neg c1] at hX; exact hX) H locs ls hP hS hl)
theorem j_if_eq (C : Cx K cc own nL adr R) {x : Int32} {off : Int} (d : decode cc pc = .ok (.ifCond .eq off, 3)) (tgt : Nat) (ht : (pc : Int) + off = (tgt : Int)) (h : J K r X tgt lv st S) (h' : J K r Y (pc + 3) lv st S) : J K r (if x = 0 then X else Y) pc lv (.int x :: st) S := by
  obtain ⟨p, l, e, s, m, args, below, meth, c, D, cy, A, cN, sN, Q, rfl, hx, hb, hml, hown, hts, hnw, hK, hI, hA, hSt, hcN, hsN⟩ := C
  intro hX H locs ls hP hS hl
  exact lv_if_eq hx hb d ht (fun c1 => h (by rw [if_pos c1] at hX; exact hX) H locs ls hP hS hl) (fun c1 => h' (by rw [if_neg c1] at hX; exact hX) H locs ls hP hS hl)
theorem j_icmp_lt (C : Cx K cc own nL adr R) {x y : Int32} {off : Int} (d : decode cc pc = .ok (.if_icmp .lt off, 3)) (tgt : Nat) (ht : (pc : Int) + off = (tgt : Int)) (h : J K r X tgt lv st S) (h' : J K r Y (pc + 3) lv st S) : J K r (if x < y then X else Y) pc lv (.int y :: .int x :: st) S := by
  obtain ⟨p, l, e, s, m, args, below, meth, c, D, cy, A, cN, sN, Q, rfl, hx, hb, hml, hown, hts, hnw, hK, hI, hA, hSt, hcN, hsN⟩ := C
  intro hX H locs ls hP hS hl
  exact lv_icmp_lt hx hb d ht (fun c1 => h (by rw [if_pos c1] at hX; exact hX) H locs ls hP hS hl) (fun c1 => h' (by rw [if_neg c1] at hX; exact hX) H locs ls hP hS hl)
theorem j_if_lt (C : Cx K cc own nL adr R) {x : Int32} {off : Int} (d : decode cc pc = .ok (.ifCond .lt off, 3)) (tgt : Nat) (ht : (pc : Int) + off = (tgt : Int)) (h : J K r X tgt lv st S) (h' : J K r Y (pc + 3) lv st S) : J K r (if x < 0 then X else Y) pc lv (.int x :: st) S := by
  obtain ⟨p, l, e, s, m, args, below, meth, c, D, cy, A, cN, sN, Q, rfl, hx, hb, hml, hown, hts, hnw, hK, hI, hA, hSt, hcN, hsN⟩ := C
  intro hX H locs ls hP hS hl
  exact lv_if_lt hx hb d ht (fun c1 => h (by rw [if_pos c1] at hX; exact hX) H locs ls hP hS hl) (fun c1 => h' (by rw [if_neg c1] at hX; exact hX) H locs ls hP hS hl)
theorem j_icmp_ge (C : Cx K cc own nL adr R) {x y : Int32} {off : Int} (d : decode cc pc = .ok (.if_icmp .ge off, 3)) (tgt : Nat) (ht : (pc : Int) + off = (tgt : Int)) (h : J K r X tgt lv st S) (h' : J K r Y (pc + 3) lv st S) : J K r (if y ≤ x then X else Y) pc lv (.int y :: .int x :: st) S := by
  obtain ⟨p, l, e, s, m, args, below, meth, c, D, cy, A, cN, sN, Q, rfl, hx, hb, hml, hown, hts, hnw, hK, hI, hA, hSt, hcN, hsN⟩ := C
  intro hX H locs ls hP hS hl
  exact lv_icmp_ge hx hb d ht (fun c1 => h (by rw [if_pos c1] at hX; exact hX) H locs ls hP hS hl) (fun c1 => h' (by rw [if_neg c1] at hX; exact hX) H locs ls hP hS hl)
theorem j_if_ge (C : Cx K cc own nL adr R) {x : Int32} {off : Int} (d : decode cc pc = .ok (.ifCond .ge off, 3)) (tgt : Nat) (ht : (pc : Int) + off = (tgt : Int)) (h : J K r X tgt lv st S) (h' : J K r Y (pc + 3) lv st S) : J K r (if 0 ≤ x then X else Y) pc lv (.int x :: st) S := by
  obtain ⟨p, l, e, s, m, args, below, meth, c, D, cy, A, cN, sN, Q, rfl, hx, hb, hml, hown, hts, hnw, hK, hI, hA, hSt, hcN, hsN⟩ := C
  intro hX H locs ls hP hS hl
  exact lv_if_ge hx hb d ht (fun c1 => h (by rw [if_pos c1] at hX; exact hX) H locs ls hP hS hl) (fun c1 => h' (by rw [if_neg c1] at hX; exact hX) H locs ls hP hS hl)
theorem j_icmp_gt (C : Cx K cc own nL adr R) {x y : Int32} {off : Int} (d : decode cc pc = .ok (.if_icmp .gt off, 3)) (tgt : Nat) (ht : (pc : Int) + off = (tgt : Int)) (h : J K r X tgt lv st S) (h' : J K r Y (pc + 3) lv st S) : J K r (if y < x then X else Y) pc lv (.int y :: .int x :: st) S := by
  obtain ⟨p, l, e, s, m, args, below, meth, c, D, cy, A, cN, sN, Q, rfl, hx, hb, hml, hown, hts, hnw, hK, hI, hA, hSt, hcN, hsN⟩ := C
  intro hX H locs ls hP hS hl
  exact lv_icmp_gt hx hb d ht (fun c1 => h (by rw [if_pos c1] at hX; exact hX) H locs ls hP hS hl) (fun c1 => h' (by rw [if_neg c1] at hX; exact hX) H locs ls hP hS hl)
theorem j_if_gt (C : Cx K cc own nL adr R) {x : Int32} {off : Int} (d : decode cc pc = .ok (.ifCond .gt off, 3)) (tgt : Nat) (ht : (pc : Int) + off = (tgt : Int)) (h : J K r X tgt lv st S) (h' : J K r Y (pc + 3) lv st S) : J K r (if 0 < x then X else Y) pc lv (.int x :: st) S := by
  obtain ⟨p, l, e, s, m, args, below, meth, c, D, cy, A, cN, sN, Q, rfl, hx, hb, hml, hown, hts, hnw, hK, hI, hA, hSt, hcN, hsN⟩ := C
  intro hX H locs ls hP hS hl
  exact lv_if_gt hx hb d ht (fun c1 => h (by rw [if_pos c1] at hX; exact hX) H locs ls hP hS hl) (fun c1 => h' (by rw [if_neg c1] at hX; exact hX) H locs ls hP hS hl)
theorem j_icmp_le (C : Cx K cc own nL adr R) {x y : Int32} {off : Int} (d : decode cc pc = .ok (.if_icmp .le off, 3)) (tgt : Nat) (ht : (pc : Int) + off = (tgt : Int)) (h : J K r X tgt lv st S) (h' : J K r Y (pc + 3) lv st S) : J K r (if x ≤ y then X else Y) pc lv (.int y :: .int x :: st) S := by
  obtain ⟨p, l, e, s, m, args, below, meth, c, D, cy, A, cN, sN, Q, rfl, hx, hb, hml, hown, hts, hnw, hK, hI, hA, hSt, hcN, hsN⟩ := C
  intro hX H locs ls hP hS hl
  exact lv_icmp_le hx hb d ht (fun c1 => h (by rw [if_pos c1] at hX; exact hX) H locs ls hP hS hl) (fun c1 => h' (by rw [if_neg c1] at hX; exact hX) H locs ls hP hS hl)
theorem j_if_le (C : Cx K cc own nL adr R) {x : Int32} {off : Int} (d : decode cc pc = .ok (.ifCond .le off, 3)) (tgt : Nat) (ht : (pc : Int) + off = (tgt : Int)) (h : J K r X tgt lv st S) (h' : J K r Y (pc + 3) lv st S) : J K r (if x ≤ 0 then X else Y) pc lv (.int x :: st) S := by
  obtain ⟨p, l, e, s, m, args, below, meth, c, D, cy, A, cN, sN, Q, rfl, hx, hb, hml, hown, hts, hnw, hK, hI, hA, hSt, hcN, hsN⟩ := C
  intro hX H locs ls hP hS hl
  exact lv_if_le hx hb d ht (fun c1 => h (by rw [if_pos c1] at hX; exact hX) H locs ls hP hS hl) (fun c1 => h' (by rw [if_neg c1] at hX; exact hX) H locs ls hP hS hl)
theorem j_icmp_ne (C : Cx K cc own nL adr R) {x y : Int32} {off : Int} (d : decode cc pc = .ok (.if_icmp .ne off, 3)) (tgt : Nat) (ht : (pc : Int) + off = (tgt : Int)) (h : J K r Y tgt lv st S) (h' : J K r X (pc + 3) lv st S) : J K r (if x = y then X else Y) pc lv (.int y :: .int x :: st) S := by
  obtain ⟨p, l, e, s, m, args, below, meth, c, D, cy, A, cN, sN, Q, rfl, hx, hb, hml, hown, hts, hnw, hK, hI, hA, hSt, hcN, hsN⟩ := C
  intro hX H locs ls hP hS hl
  exact lv_icmp_ne hx hb d ht (fun c1 => h (by rw [if_neg c1] at hX; exact hX) H locs ls hP hS hl) (fun c1 => h' (by rw [if_pos c1] at hX; exact hX) H locs ls hP hS hl)
theorem j_if_ne (C : Cx K cc own nL adr R) {x : Int32} {off : Int} (d : decode cc pc = .ok (.ifCond .ne off, 3)) (tgt : Nat) (ht : (pc : Int) + off = (tgt : Int)) (h : J K r Y tgt lv st S) (h' : J K r X (pc + 3) lv st S) : J K r (if x = 0 then X else Y) pc lv (.int x :: st) S := by
  obtain ⟨p, l, e, s, m, args, below, meth, c, D, cy, A, cN, sN, Q, rfl, hx, hb, hml, hown, hts, hnw, hK, hI, hA, hSt, hcN, hsN⟩ := C
  intro hX H locs ls hP hS hl
  exact lv_if_ne hx hb d ht (fun c1 => h (by rw [if_neg c1] at hX; exact hX) H locs ls hP hS hl) (fun c1 => h' (by rw [if_pos c1] at hX; exact hX) H locs ls hP hS hl)
theorem j_goto (C : Cx K cc own nL adr R) {off : Int} (d : decode cc pc = .ok (.goto off, 3)) (tgt : Nat) (ht : (pc : Int) + off = (tgt : Int)) (h : J K r X tgt lv st S) : J K r X pc lv st S := by
  obtain ⟨p, l, e, s, m, args, below, meth, c, D, cy, A, cN, sN, Q, rfl, hx, hb, hml, hown, hts, hnw, hK, hI, hA, hSt, hcN, hsN⟩ := C
  intro hX H locs ls hP hS hl
  exact lv_goto hx hb d ht (h hX H locs ls hP hS hl)
theorem j_ifnonnull (C : Cx K cc own nL adr R) {q : Nat} {off : Int} (d : decode cc pc = .ok (.ifnonnull off, 3)) (tgt : Nat) (ht : (pc : Int) + off = (tgt : Int)) (h : J K r X tgt lv st S) : J K r X pc lv (.ref q :: st) S := by
  obtain ⟨p, l, e, s, m, args, below, meth, c, D, cy, A, cN, sN, Q, rfl, hx, hb, hml, hown, hts, hnw, hK, hI, hA, hSt, hcN, hsN⟩ := C
  intro hX H locs ls hP hS hl
  exact lv_ifnonnull hx hb d ht (h hX H locs ls hP hS hl)
theorem j_ifnull (C : Cx K cc own nL adr R) {q : Nat} {off : Int} (d : decode cc pc = .ok (.ifnull off, 3)) (h : J K r X (pc + 3) lv st S) : J K r X pc lv (.ref q :: st) S := by
  obtain ⟨p, l, e, s, m, args, below, meth, c, D, cy, A, cN, sN, Q, rfl, hx, hb, hml, hown, hts, hnw, hK, hI, hA, hSt, hcN, hsN⟩ := C
  intro hX H locs ls hP hS hl
  exact lv_ifnull hx hb d (h hX H locs ls hP hS hl)
theorem j_sub (C : Cx K cc own nL adr R) {lv' : List (Nat × Value)} (ks : List Nat) (hs : lv_pick lv ks = lv') (h : J K r X pc lv' st S) : J K r X pc lv st S := by
  obtain ⟨p, l, e, s, m, args, below, meth, c, D, cy, A, cN, sN, Q, rfl, hx, hb, hml, hown, hts, hnw, hK, hI, hA, hSt, hcN, hsN⟩ := C
  intro hX H locs ls hP hS hl
  exact h hX H locs ls hP hS (lv_sub hl ks hs)
theorem j_topi {e : Int32} {Z : Int32 → Option ρ} (h : ∀ x : Int32, J K r (Z x) pc lv (.int x :: st) S) : J K r (lt e Z) pc lv (.int e :: st) S := h e
theorem j_topl {e : Int64} {Z : Int64 → Option ρ} (h : ∀ x : Int64, J K r (Z x) pc lv (.long x :: st) S) : J K r (lt e Z) pc lv (.long e :: st) S := h e
theorem j_eq (he : X = Y) (h : J K r Y pc lv st S) : J K r X pc lv st S := by rw [he]; exact h
theorem j_table (C : Cx K cc own nL adr R) {x : Int32} {dflt lo hi : Int} {offs : Array Int} {len : Nat} {Y' : Nat → Option ρ} (d : decode cc pc = .ok (.tableswitch dflt lo hi offs, len)) (tgt : Nat) (ht : (pc : Int) + dflt = (tgt : Int)) (h : J K r X tgt lv st S) (h' : ∀ i : Nat, (i : Int) ≤ hi - lo → ∃ (off : Int) (tg : Nat), offs[i]? = some off ∧ (pc : Int) + off = (tg : Int) ∧ J K r (Y' i) tg lv st S) : J K r (sw x lo hi X Y') pc lv (.int x :: st) S := by
  obtain ⟨p, l, e, s, m, args, below, meth, c, D, cy, A, cN, sN, Q, rfl, hx, hb, hml, hown, hts, hnw, hK, hI, hA, hSt, hcN, hsN⟩ := C
  intro hX H locs ls hP hS hl
  unfold sw at hX
  by_cases h0 : x.toInt < lo ∨ hi < x.toInt
  · rw [if_pos h0] at hX
    exact lv_tableOut hx hb d h0 ht (h hX H locs ls hP hS hl)
  · rw [if_neg h0] at hX
    obtain ⟨off, tg, ho, hg, hj⟩ := h' (x.toInt - lo).toNat (by omega)
    exact lv_tableIn hx hb d (fun q => h0 (Or.inl q)) (fun q => h0 (Or.inr q)) ho hg (hj hX H locs ls hP hS hl)
theorem j_lookup (C : Cx K cc own nL adr R) {x : Int32} {dflt : Int} {ps : Array (Int × Int)} {len : Nat} {off : Int} {tgt : Nat} (d : decode cc pc = .ok (.lookupswitch dflt ps, len)) (hp : (ps.toList.zip (ps.toList.drop 1)).all (fun (a, next) => a.1 < next.1) = true) (ho : Op.lookupswitch.offset ps.toList dflt x.toInt = off) (ht : (pc : Int) + off = (tgt : Int)) (h : J K r X tgt lv st S) : J K r X pc lv (.int x :: st) S := by
  obtain ⟨p, l, e, s, m, args, below, meth, c, D, cy, A, cN, sN, Q, rfl, hx, hb, hml, hown, hts, hnw, hK, hI, hA, hSt, hcN, hsN⟩ := C
  intro hX H locs ls hP hS hl
  exact lv_lookup hx hb d hp ho ht (h hX H locs ls hP hS hl)
/-- a field's link out of the class 'own': the class number ci, the field's place j -/
def Fl (own : String) (idx ci j : Nat) : Prop := ∃ (C : String) (T : u_T) (N : Nat) (ty0 : Nat → FieldType), vwCl[ci]? = some (C, T, N) ∧ j < N ∧ (∀ w ∈ u_ws C T N, w ∈ lw_good) ∧ (∀ k, k < N → parseFieldDescriptor (T k).2.2.1 = some (ty0 k)) ∧ (∀ a, a < N → ∀ b, b < N → a ≠ b → (T a).2.1 ≠ (T b).2.1) ∧ (T j).1 = C ∧ (Cond.fieldLink own idx C (T j).2.1 (T j).2.2.1 ∈ lw_good ∨ Cond.fieldLinkNest own idx C (T j).2.1 (T j).2.2.1 RX8 ∈ lw_nest)
/-- an int field that may be written -/
def Fi (ci j : Nat) : Prop := ∀ (C : String) (T : u_T) (N : Nat), vwCl[ci]? = some (C, T, N) → (T j).2.2.2 = false ∧ parseFieldDescriptor (T j).2.2.1 = some .int
theorem j_get (C : Cx K cc own nL adr R) {idx ci j k n : Nat} {rs : List (Option Nat)} {v : Value} (d : decode cc pc = .ok (.getfield idx, 3)) (f : Fl own idx ci j) (hk : kd k = (ci, n, rs)) (hci : ci < 10) (hkN : k < NC) (hv : (fsOf adr (S.1 k) 0 rs)[j]? = some v) (h : J K r X (pc + 3) lv (v :: st) S) : J K r X pc lv (.ref (adr k) :: st) S := by
  obtain ⟨p, l, e, s, m, args, below, meth, c, D, cy, A, cN, sN, Q, rfl, hx, hb, hml, hown, hts, hnw, hK, hI, hA, hSt, hcN, hsN⟩ := C
  intro hX H locs ls hP hS hl
  obtain ⟨Cn, T, N, ty0, hc, hj, hin, hty, hnm, hT, hlk⟩ := f
  have he : (wsOf cy adr S)[k]? = some (adr k, .inr (ci, fsOf adr (S.1 k) 0 rs)) := by rw [wsOf_get hkN, cellOf_obj hk hci]
  rcases hlk with hlk | hlk
  · exact va_get (C := Cn) (T := T) (N := N) hx hb hts hin hown hK hP k he hc j hj (hts _ hlk) (by rw [hT]; exact fun _ q => q) hv d (h hX H locs ls hP hS hl)
  · exact va_getN (C := Cn) (T := T) (N := N) hx hb hts hin hown hK hP k he hc j hj (va_Nw.use rfl (hnw _ hlk)) (by rw [hT]; exact fun _ q => q) hv d (h hX H locs ls hP hS hl)
theorem j_geti (C : Cx K cc own nL adr R) {idx ci j k n : Nat} {rs : List (Option Nat)} (d : decode cc pc = .ok (.getfield idx, 3)) (f : Fl own idx ci j) (hk : kd k = (ci, n, rs)) (hci : ci < 10) (hkN : k < NC) (hr : rs[j]? = some none) (h : J K r X (pc + 3) lv (.int (S.1 k j) :: st) S) : J K r X pc lv (.ref (adr k) :: st) S := j_get C d f hk hci hkN (by rw [fsOf_num adr (S.1 k) rs 0 j hr, Nat.zero_add]) h
theorem j_getr (C : Cx K cc own nL adr R) {idx ci j k n q : Nat} {rs : List (Option Nat)} (d : decode cc pc = .ok (.getfield idx, 3)) (f : Fl own idx ci j) (hk : kd k = (ci, n, rs)) (hci : ci < 10) (hkN : k < NC) (hr : rs[j]? = some (some q)) (h : J K r X (pc + 3) lv (.ref (adr q) :: st) S) : J K r X pc lv (.ref (adr k) :: st) S := j_get C d f hk hci hkN (fsOf_ref adr (S.1 k) rs 0 j q hr) h
theorem j_puti (C : Cx K cc own nL adr R) {idx ci j k n : Nat} {rs : List (Option Nat)} {v : Int32} {Z : St → Option ρ} (d : decode cc pc = .ok (.putfield idx, 3)) (f : Fl own idx ci j) (fi : Fi ci j) (hk : kd k = (ci, n, rs)) (hci : ci < 10) (hkN : k < NC) (hr : rs[j]? = some none) (h : ∀ S' : St, J K r (Z S') (pc + 3) lv st S') : J K r (lt (upI S k j v) Z) pc lv (.int v :: .ref (adr k) :: st) S := by
  obtain ⟨p, l, e, s, m, args, below, meth, c, D, cy, A, cN, sN, Q, rfl, hx, hb, hml, hown, hts, hnw, hK, hI, hA, hSt, hcN, hsN⟩ := C
  intro hX H locs ls hP hS hl
  obtain ⟨Cn, T, N, ty0, hc, hj, hin, hty, hnm, hT, hlk⟩ := f
  obtain ⟨hfin, hd⟩ := fi Cn T N hc
  have he : (wsOf cy adr S)[k]? = some (adr k, .inr (ci, fsOf adr (S.1 k) 0 rs)) := by rw [wsOf_get hkN, cellOf_obj hk hci]
  have hD : va_D A (wsOf cy adr S) := wsOf_D hI hA
  have hset : (wsOf cy adr S).set k (adr k, .inr (ci, (fsOf adr (S.1 k) 0 rs).set j (.int v))) = wsOf cy adr (upI S k j v) := by
    refine wsOf_set hkN ?_ (fun k' hk' => cellOf_neI hk')
    rw [cellOf_obj hk hci, fsOf_set adr (S.1 k) v rs 0 j hr, Nat.zero_add]
    simp [upI, rwI]
  have hjl : j < (fsOf adr (S.1 k) 0 rs).length := by
    rw [fsOf_len]
    exact (List.getElem?_eq_some_iff.mp hr).1
  rcases hlk with hlk | hlk
  · exact va_put (C := Cn) (T := T) (N := N) (v := .int v) (ty := .int) hx hb hts hin ty0 hty hnm hown hK hP hD hS k he hc j hj (hts _ hlk) (by rw [hT]; exact fun _ q => q) hfin hd rfl rfl hjl d (fun H1 locs1 hP1 _ hS1 => h _ hX H1 locs1 ls (by rw [← hset]; exact hP1) hS1 hl)
  · exact va_putN (C := Cn) (T := T) (N := N) (v := .int v) (ty := .int) hx hb hts hin ty0 hty hnm hown hK hP hD hS k he hc j hj (va_Nw.use rfl (hnw _ hlk)) (by rw [hT]; exact fun _ q => q) hfin hd rfl rfl hjl d (fun H1 locs1 hP1 _ hS1 => h _ hX H1 locs1 ls (by rw [← hset]; exact hP1) hS1 hl)
theorem j_iald (C : Cx K cc own nL adr R) {k n : Nat} {rs : List (Option Nat)} {i : Int32} (d : decode cc pc = .ok (.iaload, 1)) (hk : kd k = (10, n, rs)) (hkN : k < NC) (h : J K r X (pc + 1) lv (.int (S.1 k i.toNatClampNeg) :: st) S) : J K r (ck i n X) pc lv (.int i :: .ref (adr k) :: st) S := by
  obtain ⟨p, l, e, s, m, args, below, meth, c, D, cy, A, cN, sN, Q, rfl, hx, hb, hml, hown, hts, hnw, hK, hI, hA, hSt, hcN, hsN⟩ := C
  intro hX H locs ls hP hS hl
  obtain ⟨hin, hX⟩ := ck_some hX
  exact va_iald hx hb hK hP k 0 (by rw [wsOf_get hkN, cellOf_int hk]) rfl hin d (h hX H locs ls hP hS hl)
theorem j_zald (C : Cx K cc own nL adr R) {k n : Nat} {rs : List (Option Nat)} {i : Int32} (d : decode cc pc = .ok (.baload, 1)) (hk : kd k = (12, n, rs)) (hkN : k < NC) (h : J K r X (pc + 1) lv (.int (S.1 k i.toNatClampNeg) :: st) S) : J K r (ck i n X) pc lv (.int i :: .ref (adr k) :: st) S := by
  obtain ⟨p, l, e, s, m, args, below, meth, c, D, cy, A, cN, sN, Q, rfl, hx, hb, hml, hown, hts, hnw, hK, hI, hA, hSt, hcN, hsN⟩ := C
  intro hX H locs ls hP hS hl
  obtain ⟨hin, hX⟩ := ck_some hX
  exact va_zald hx hb hK hP k 2 (by rw [wsOf_get hkN, cellOf_bool hk]) rfl hin d (h hX H locs ls hP hS hl)
theorem j_lald (C : Cx K cc own nL adr R) {k n : Nat} {rs : List (Option Nat)} {i : Int32} (d : decode cc pc = .ok (.laload, 1)) (hk : kd k = (11, n, rs)) (hkN : k < NC) (h : J K r X (pc + 1) lv (.long (S.2 k i.toNatClampNeg) :: st) S) : J K r (ck i n X) pc lv (.int i :: .ref (adr k) :: st) S := by
  obtain ⟨p, l, e, s, m, args, below, meth, c, D, cy, A, cN, sN, Q, rfl, hx, hb, hml, hown, hts, hnw, hK, hI, hA, hSt, hcN, hsN⟩ := C
  intro hX H locs ls hP hS hl
  obtain ⟨hin, hX⟩ := ck_some hX
  exact va_lald hx hb hK hP k 1 (by rw [wsOf_get hkN, cellOf_long hk]) rfl hin d (h hX H locs ls hP hS hl)
theorem j_iast (C : Cx K cc own nL adr R) {k n : Nat} {rs : List (Option Nat)} {i : Int32} {x : Int32} {Z : St → Option ρ} (d : decode cc pc = .ok (.iastore, 1)) (hk : kd k = (10, n, rs)) (hkN : k < NC) (h : ∀ S' : St, J K r (Z S') (pc + 1) lv st S') : J K r (ck i n (lt (upI S k i.toNatClampNeg x) Z)) pc lv (.int x :: .int i :: .ref (adr k) :: st) S := by
  obtain ⟨p, l, e, s, m, args, below, meth, c, D, cy, A, cN, sN, Q, rfl, hx, hb, hml, hown, hts, hnw, hK, hI, hA, hSt, hcN, hsN⟩ := C
  intro hX H locs ls hP hS hl
  obtain ⟨hin, hX⟩ := ck_some hX
  refine va_iast hx hb hK hP (wsOf_D hI hA) hS k 0 (by rw [wsOf_get hkN, cellOf_int hk]) rfl hin d (fun H1 locs1 hP1 _ hS1 => h _ hX H1 locs1 ls ?_ hS1 hl)
  rw [wsOf_set (S' := upI S k i.toNatClampNeg x) hkN (by rw [cellOf_int hk]; simp [upI, rwI]) (fun k' hk' => cellOf_neI hk')] at hP1
  exact hP1
theorem j_last (C : Cx K cc own nL adr R) {k n : Nat} {rs : List (Option Nat)} {i : Int32} {x : Int64} {Z : St → Option ρ} (d : decode cc pc = .ok (.lastore, 1)) (hk : kd k = (11, n, rs)) (hkN : k < NC) (h : ∀ S' : St, J K r (Z S') (pc + 1) lv st S') : J K r (ck i n (lt (upL S k i.toNatClampNeg x) Z)) pc lv (.long x :: .int i :: .ref (adr k) :: st) S := by
  obtain ⟨p, l, e, s, m, args, below, meth, c, D, cy, A, cN, sN, Q, rfl, hx, hb, hml, hown, hts, hnw, hK, hI, hA, hSt, hcN, hsN⟩ := C
  intro hX H locs ls hP hS hl
  obtain ⟨hin, hX⟩ := ck_some hX
  refine va_last hx hb hK hP (wsOf_D hI hA) hS k 1 (by rw [wsOf_get hkN, cellOf_long hk]) rfl hin d (fun H1 locs1 hP1 _ hS1 => h _ hX H1 locs1 ls ?_ hS1 hl)
  rw [wsOf_set (S' := upL S k i.toNatClampNeg x) hkN (by rw [cellOf_long hk]; simp [upL, rwL]) (fun k' hk' => cellOf_neL hk')] at hP1
  exact hP1
theorem j_zast (C : Cx K cc own nL adr R) {k n : Nat} {rs : List (Option Nat)} {i : Int32} {x : Int32} {Z : St → Option ρ} (d : decode cc pc = .ok (.bastore, 1)) (hk : kd k = (12, n, rs)) (hkN : k < NC) (h : ∀ S' : St, J K r (Z S') (pc + 1) lv st S') : J K r (ck i n (lt (upI S k i.toNatClampNeg (vp_nar .boolean x)) Z)) pc lv (.int x :: .int i :: .ref (adr k) :: st) S := by
  obtain ⟨p, l, e, s, m, args, below, meth, c, D, cy, A, cN, sN, Q, rfl, hx, hb, hml, hown, hts, hnw, hK, hI, hA, hSt, hcN, hsN⟩ := C
  intro hX H locs ls hP hS hl
  obtain ⟨hin, hX⟩ := ck_some hX
  refine va_zast hx hb hK hP (wsOf_D hI hA) hS k 2 (by rw [wsOf_get hkN, cellOf_bool hk]) rfl hin d (fun H1 locs1 hP1 _ hS1 => h _ hX H1 locs1 ls ?_ hS1 hl)
  rw [wsOf_set (S' := upI S k i.toNatClampNeg (vp_nar .boolean x)) hkN (by rw [cellOf_bool hk]; simp [upI, rwI]) (fun k' hk' => cellOf_neI hk')] at hP1
  exact hP1
theorem j_alen (C : Cx K cc own nL adr R) {k n : Nat} {rs : List (Option Nat)} {v : Int32} (d : decode cc pc = .ok (.arraylength, 1)) (hk : kd k = (10, n, rs)) (hkN : k < NC) (hv : Int32.ofNat n = v) (h : J K r X (pc + 1) lv (.int v :: st) S) : J K r X pc lv (.ref (adr k) :: st) S := by
  obtain ⟨p, l, e, s, m, args, below, meth, c, D, cy, A, cN, sN, Q, rfl, hx, hb, hml, hown, hts, hnw, hK, hI, hA, hSt, hcN, hsN⟩ := C
  intro hX H locs ls hP hS hl
  exact va_alen hx hb hK hP k 0 (by rw [wsOf_get hkN, cellOf_int hk]) rfl hv d (h hX H locs ls hP hS hl)
theorem j_aald (C : Cx K cc own nL adr R) {k n b0 : Nat} {rs : List (Option Nat)} {i : Int32} (d : decode cc pc = .ok (.aaload, 1)) (hk : kd k = (13, n, rs)) (hkN : k < NC) (hb0 : ∀ j, j < n → rs.getD j none = some (b0 + 17 * j)) (h : i.toNatClampNeg < n → J K r X (pc + 1) lv (.ref (adr (b0 + 17 * i.toNatClampNeg)) :: st) S) : J K r (ck i n X) pc lv (.int i :: .ref (adr k) :: st) S := by
  obtain ⟨p, l, e, s, m, args, below, meth, c, D, cy, A, cN, sN, Q, rfl, hx, hb, hml, hown, hts, hnw, hK, hI, hA, hSt, hcN, hsN⟩ := C
  intro hX H locs ls hP hS hl
  obtain ⟨hin, hX⟩ := ck_some hX
  have hlt : i.toNatClampNeg < n := Nat.not_le.mp fun q => hin (Or.inr q)
  refine va_aldq hx hb hK hP k 3 (by rw [wsOf_get hkN, cellOf_refs hk]) rfl hin d ?_
  show W _ _ _ _ _ _ _ _ _ _ _ _ _ _ _ (F0 m (pc + 1) ls (va_rf ((rs.getD i.toNatClampNeg none).map adr) :: st))
  rw [hb0 _ hlt]
  exact h hlt hX H locs ls hP hS hl
/-- getstatic SETTING_LETTER, the index by iload_n, the load: three instructions -/
theorem j_stLetter (C : Cx K cc own nL adr R) {idx q : Nat} {kk : Fin 4} {i : Int32} (d : decode cc pc = .ok (.getstatic idx, 3)) (d2 : decode cc (pc + 3) = .ok (.iload_n kk, 1)) (d3 : decode cc (pc + 4) = .ok (.caload, 1)) (hi : lv[q]? = some ((kk : Nat), .int i)) (hlk : Cond.fieldLinkNest own idx RX8 "SETTING_LETTER" "[C" RX8 ∈ lw_nest) (h : J K r X (pc + 5) lv (.int (tbLetter i.toNatClampNeg) :: st) S) : J K r (ck i 5 X) pc lv st S := by
  obtain ⟨p, l, e, s, m, args, below, meth, c, D, cy, A, cN, sN, Q, rfl, hx, hb, hml, hown, hts, hnw, hK, hI, hA, hSt, hcN, hsN⟩ := C
  intro hX H locs ls hP hS hl
  obtain ⟨hin, hX⟩ := ck_some hX
  obtain ⟨t, hZ, hT⟩ := hSt.1
  refine va_getsN hx hb hZ hS hown (va_Nw.use rfl (hnw _ hlk)) (fun _ z => z) d ?_
  refine lv_iload_n hx hb d2 rfl (lv_at hl q hi) ?_
  exact va_tc hx hb hT hS hin rfl d3 (h hX H locs ls hP hS hl)
/-- getstatic SETTING_LEAST, the index by iload_n, the load: three instructions -/
theorem j_stLeast (C : Cx K cc own nL adr R) {idx q : Nat} {kk : Fin 4} {i : Int32} (d : decode cc pc = .ok (.getstatic idx, 3)) (d2 : decode cc (pc + 3) = .ok (.iload_n kk, 1)) (d3 : decode cc (pc + 4) = .ok (.iaload, 1)) (hi : lv[q]? = some ((kk : Nat), .int i)) (hlk : Cond.fieldLinkNest own idx RX8 "SETTING_LEAST" "[I" RX8 ∈ lw_nest) (h : J K r X (pc + 5) lv (.int (tbLeast i.toNatClampNeg) :: st) S) : J K r (ck i 5 X) pc lv st S := by
  obtain ⟨p, l, e, s, m, args, below, meth, c, D, cy, A, cN, sN, Q, rfl, hx, hb, hml, hown, hts, hnw, hK, hI, hA, hSt, hcN, hsN⟩ := C
  intro hX H locs ls hP hS hl
  obtain ⟨hin, hX⟩ := ck_some hX
  obtain ⟨t, hZ, hT⟩ := hSt.2.1
  refine va_getsN hx hb hZ hS hown (va_Nw.use rfl (hnw _ hlk)) (fun _ z => z) d ?_
  refine lv_iload_n hx hb d2 rfl (lv_at hl q hi) ?_
  exact va_ti hx hb hT hS hin rfl d3 (h hX H locs ls hP hS hl)
/-- getstatic SETTING_MOST, the index by iload_n, the load: three instructions -/
theorem j_stMost (C : Cx K cc own nL adr R) {idx q : Nat} {kk : Fin 4} {i : Int32} (d : decode cc pc = .ok (.getstatic idx, 3)) (d2 : decode cc (pc + 3) = .ok (.iload_n kk, 1)) (d3 : decode cc (pc + 4) = .ok (.iaload, 1)) (hi : lv[q]? = some ((kk : Nat), .int i)) (hlk : Cond.fieldLinkNest own idx RX8 "SETTING_MOST" "[I" RX8 ∈ lw_nest) (h : J K r X (pc + 5) lv (.int (tbMost i.toNatClampNeg) :: st) S) : J K r (ck i 5 X) pc lv st S := by
  obtain ⟨p, l, e, s, m, args, below, meth, c, D, cy, A, cN, sN, Q, rfl, hx, hb, hml, hown, hts, hnw, hK, hI, hA, hSt, hcN, hsN⟩ := C
  intro hX H locs ls hP hS hl
  obtain ⟨hin, hX⟩ := ck_some hX
  obtain ⟨t, hZ, hT⟩ := hSt.2.2.1
  refine va_getsN hx hb hZ hS hown (va_Nw.use rfl (hnw _ hlk)) (fun _ z => z) d ?_
  refine lv_iload_n hx hb d2 rfl (lv_at hl q hi) ?_
  exact va_ti hx hb hT hS hin rfl d3 (h hX H locs ls hP hS hl)
theorem j_mmax (C : Cx K cc own nL adr R) {idx : Nat} {x y : Int32} (d : decode cc pc = .ok (.invokestatic idx, 3)) (hlk : Cond.methodLink own idx Lib.Math.max.name ∈ lw_good) (hs1 : Cond.static Lib.Math.max.name ∈ lw_good) (hs2 : Cond.initialized "java/lang/Math" ∈ lw_good) (hs3 : Cond.code Lib.Math.max.name Lib.Math.max.code 2 (some .int) ∈ lw_good) (hR : 1 ≤ R.frames ∧ (st.map fun v => v.category).sum + 13 ≤ R.locals) (h : J K r X (pc + 3) lv (.int (if x < y then y else x) :: st) S) : J K r X pc lv (.int y :: .int x :: st) S := by
  obtain ⟨p, l, e, s, m, args, below, meth, c, D, cy, A, cN, sN, Q, rfl, hx, hb, hml, hown, hts, hnw, hK, hI, hA, hSt, hcN, hsN⟩ := C
  intro hX H locs ls hP hS hl
  exact va_mmax hx hb (by rw [hml]; exact hl.1.symm) hown (hts _ hlk) (hts _ hs1) (hts _ hs2) (hts _ hs3) hR.1 hR.2 hcN hsN d (h hX H locs ls hP hS hl)
theorem j_mmin (C : Cx K cc own nL adr R) {idx : Nat} {x y : Int32} (d : decode cc pc = .ok (.invokestatic idx, 3)) (hlk : Cond.methodLink own idx Lib.Math.min.name ∈ lw_good) (hs1 : Cond.static Lib.Math.min.name ∈ lw_good) (hs2 : Cond.initialized "java/lang/Math" ∈ lw_good) (hs3 : Cond.code Lib.Math.min.name Lib.Math.min.code 2 (some .int) ∈ lw_good) (hR : 1 ≤ R.frames ∧ (st.map fun v => v.category).sum + 13 ≤ R.locals) (h : J K r X (pc + 3) lv (.int (if y < x then y else x) :: st) S) : J K r X pc lv (.int y :: .int x :: st) S := by
  obtain ⟨p, l, e, s, m, args, below, meth, c, D, cy, A, cN, sN, Q, rfl, hx, hb, hml, hown, hts, hnw, hK, hI, hA, hSt, hcN, hsN⟩ := C
  intro hX H locs ls hP hS hl
  exact va_mmin hx hb (by rw [hml]; exact hl.1.symm) hown (hts _ hlk) (hts _ hs1) (hts _ hs2) (hts _ hs3) hR.1 hR.2 hcN hsN d (h hX H locs ls hP hS hl)
theorem j_copy (C : Cx K cc own nL adr R) {idx k k' n n' : Nat} {rs rs' : List (Option Nat)} {v : Int32} {Z : St → Option ρ} (d : decode cc pc = .ok (.invokestatic idx, 3)) (hk : kd k = (10, n, rs)) (hkN : k < NC) (hk' : kd k' = (10, n', rs')) (hkN' : k' < NC) (hv : ¬ v < 0) (h4 : v.toNatClampNeg ≤ n) (h5 : v.toNatClampNeg ≤ n') (hlk : Cond.methodLink own idx arraycopyName ∈ lw_good) (hs0 : Cond.native arraycopyName ∈ lw_good) (hs1 : Cond.static arraycopyName ∈ lw_good) (hs2 : Cond.initialized "java/lang/System" ∈ lw_good) (hR : 1 ≤ R.frames ∧ (st.map fun v => v.category).sum + (nativeFrameWords "java/lang/System" "arraycopy" 5 + 11) ≤ R.locals) (h : ∀ S' : St, J K r (Z S') (pc + 3) lv st S') : J K r (lt (rwI S k' (va_cpy (S.1 k) (S.1 k') 0 0 v.toNatClampNeg)) Z) pc lv (.int v :: .int 0 :: .ref (adr k') :: .int 0 :: .ref (adr k) :: st) S := by
  obtain ⟨p, l, e, s, m, args, below, meth, c, D, cy, A, cN, sN, Q, rfl, hx, hb, hml, hown, hts, hnw, hK, hI, hA, hSt, hcN, hsN⟩ := C
  intro hX H locs ls hP hS hl
  refine va_copyi hx hb (by rw [hml]; exact hl.1.symm) hown (hts _ hlk) (hts _ hs0) (hts _ hs1) (hts _ hs2) hK hP (wsOf_D hI hA) hS k k' 0 0 (ty := .int) (by rw [wsOf_get hkN, cellOf_int hk]) (by rw [wsOf_get hkN', cellOf_int hk']) rfl rfl rfl (by decide) (by decide) hv (by simpa using h4) (by simpa using h5) (fun _ _ => rfl) hR.1 hR.2 d (fun H1 locs1 hP1 _ hS1 => h _ hX H1 locs1 ls ?_ hS1 hl)
  rw [wsOf_set (S' := rwI S k' (va_cpy (S.1 k) (S.1 k') 0 0 v.toNatClampNeg)) hkN' (by rw [cellOf_int hk']; simp [rwI]) (fun k' hk' => cellOf_neI hk')] at hP1
  exact hP1
theorem j_iret {r : Int32 × St} {v : Int32} (hR : ∀ (pc : Nat) (lv : List (Nat × Value)), decode cc pc = .ok (.ireturn, 1) → K pc lv [.int r.1] r.2) (d : decode cc pc = .ok (.ireturn, 1)) : J K r (some (v, S)) pc lv [.int v] S := fun h => by cases h; exact hR pc lv d
theorem j_zret {r : Int32 × St} {v : Int32} (hR : ∀ (pc : Nat) (lv : List (Nat × Value)), (r.1 = 0 ∨ r.1 = 1) → decode cc pc = .ok (.ireturn, 1) → K pc lv [.int r.1] r.2) (hv : v = 0 ∨ v = 1) (d : decode cc pc = .ok (.ireturn, 1)) : J K r (some (v, S)) pc lv [.int v] S := fun h => by cases h; exact hR pc lv hv d
theorem j_zretv {r : Int32 × St} {v : Int32} (hR : ∀ (pc : Nat) (lv : List (Nat × Value)), (r.1 = 0 ∨ r.1 = 1) → decode cc pc = .ok (.ireturn, 1) → K pc lv [.int r.1] r.2) (d : decode cc pc = .ok (.ireturn, 1)) : J K r (bz v (some (v, S))) pc lv [.int v] S := fun h => by
  obtain ⟨hv, h⟩ := bz_some h
  cases h
  exact hR pc lv hv d
theorem j_lret {r : Int64 × St} {v : Int64} (hR : ∀ (pc : Nat) (lv : List (Nat × Value)), decode cc pc = .ok (.lreturn, 1) → K pc lv [.long r.1] r.2) (d : decode cc pc = .ok (.lreturn, 1)) : J K r (some (v, S)) pc lv [.long v] S := fun h => by cases h; exact hR pc lv d
theorem j_vret {r : St} (hR : ∀ (pc : Nat) (lv : List (Nat × Value)), decode cc pc = .ok (.return_, 1) → K pc lv [] r) (d : decode cc pc = .ok (.return_, 1)) : J K r (some S) pc lv [] S := fun h => by cases h; exact hR pc lv d
end JR
