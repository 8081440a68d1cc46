/-! ===== constructors: the world is a list that grows ===== -/
abbrev TrN : String := "GuardCells$Traffic"
abbrev Kc : Type := Nat → List (Nat × Value) → List Value → va_W → Nat → Nat → Prop
def Gc (p : Program) (l : Launch) (e : Env) (R : Room) (s : State) (m : MethodId) (args : Array Value) (below : List Frame) (meth : Method) (c : Code) (nL : Nat) (D : va_G) (A : Nat → Prop) (Q : State → Prop) : Kc := fun pc lv st ws cN sN =>
  ∀ (H : Heap) (locs : List Loc) (ls : Array Slot), va_P D vwCl ws H → va_D A ws → va_S A s.heap H locs → lv_has ls nL lv → W p l e R s m args below meth c H locs cN sN Q (F0 m pc ls st)
def Cc (K : Kc) (cc : ByteArray) (own : String) (nL : Nat) (R : Room) (cy : Nat → ClassId) (nm : String) : Prop :=
  ∃ (p : Program) (l : Launch) (e : Env) (s : State) (m : MethodId) (args : Array Value) (below : List Frame) (meth : Method) (c : Code) (D : va_G) (A : Nat → Prop) (Q : State → Prop),
    K = Gc p l e R s m args below meth c nL D A Q ∧ p.tables.exec = Jvm.exec ∧ c.code = cc ∧ c.maxLocals = nL ∧ s.vm.findClass own = some m.cls ∧ (∀ w ∈ lw_good, w.before args s = true) ∧ (∀ w ∈ lw_nest, va_Nw w s) ∧ va_K D vwCl (tysOf cy) s ∧ (∀ q, s.heap.size ≤ q → A q) ∧ Stt A s ∧ va_AO TrN s ∧ meth.name = nm
/-- a state that holds a list of cells, the heap of size sz -/
def Wc (D : va_G) (cy : Nat → ClassId) (ws : va_W) (sz : Nat) (U : State) : Prop :=
  U.heap.size = sz ∧ va_P D vwCl ws U.heap ∧ va_K D vwCl (tysOf cy) U ∧ va_D (fun _ => True) ws ∧ (∀ w ∈ lw_nest, va_Nw w U) ∧ Stt (va_A ws sz) U ∧ va_AO TrN U
theorem Wc.blind {D : va_G} {cy : Nat → ClassId} {ws : va_W} {sz : Nat} {av : List Value} : FrameBlind (va_Pc av (Wc D cy ws sz)) := by
  intro a U g mk q
  obtain ⟨q0, qz, qP, qK, qD, qN, qS, qA⟩ := q
  exact ⟨q0, qz, qP, va_K.moved (u := U) (U := U.calling g mk a) (Vm.Alike.refl U.vm) qK, qD, nest_same (s := U) (U := U.calling g mk a) rfl qN, qS.to (U := U.calling g mk a) (H := U.heap) (locs := []) va_S.rf (fun _ h => h) (Vm.Alike.refl U.vm) rfl, va_AO.moved (u := U) (U := U.calling g mk a) (Vm.Alike.refl U.vm) qA⟩
/-- a constructor's (or its helper's) contract: out of the cells ws0 come cells that Post tells; mc cells of ms slots are made -/
def Ct (y : MethodName) (b : ByteArray) (n : Nat) (rm : Room) (av : List Value) (cy : Nat → ClassId) (ws0 : va_W) (Post : va_W → Prop) (mc ms : Nat) : Prop :=
  ∀ (l : Launch) (D : va_G) (sz : Nat), Met l y (Cond.code y b n none :: lw_good) rm (va_Pc av (Wc D cy ws0 sz)) (va_Qv (fun (w : va_W) => Post w) (fun w t => va_P D vwCl w t.heap ∧ va_D (va_A ws0 sz) w) (va_A ws0 sz)) mc ms (va_A ws0 sz)
def MWi (y : MethodName) (b : ByteArray) (n : Nat) (np : Nat) : Prop := MWb y b n none np ∧ y.name = "<init>" ∧ Cond.instanceMethod y ∈ lw_good
def Rc (rm : Room) (n : Nat) (R : Room) (mc ms : Nat) : Prop := rm.cells = mc ∧ rm.slots = ms ∧ rm.frames + 1 ≤ R.frames ∧ 8 + (n + 11) + rm.locals ≤ R.locals
/-- a final field of the own class that holds a reference -/
def Fo (own : String) (idx ci j : Nat) : Prop := ∃ (T : u_T) (N : Nat) (ty0 : Nat → FieldType) (ty : FieldType), vwCl[ci]? = some (own, T, N) ∧ j < N ∧ (∀ w ∈ u_ws own T N, w ∈ lw_good) ∧ (∀ k, k < N → parseFieldDescriptor (T k).2.2.1 = some (ty0 k)) ∧ (∀ a, a < N → ∀ b, b < N → a ≠ b → (T a).2.1 ≠ (T b).2.1) ∧ (T j).1 = own ∧ Cond.fieldLink own idx own (T j).2.1 (T j).2.2.1 ∈ lw_good ∧ (T j).2.2.2 = true ∧ parseFieldDescriptor (T j).2.2.1 = some ty ∧ ∀ a, narrow ty (.ref a) = .ref a ∧ fits ty (.ref a) = true
theorem pick_of {α : Type} {ws wc : List α} (is : List Nat) (h : is.map (fun i => ws[i]?) = wc.map some) : is.filterMap (fun i => ws[i]?) = wc := by
  have e : is.filterMap (fun i => ws[i]?) = (is.map (fun i => ws[i]?)).filterMap id := by rw [List.filterMap_map]; rfl
  rw [e, h, List.filterMap_map]
  induction wc with
  | nil => rfl
  | cons a t ih => simp
section CR
variable {K : Kc} {cc b : ByteArray} {own nm : String} {nL : Nat} {R : Room} {cy : Nat → ClassId} {pc : Nat} {lv : List (Nat × Value)} {st : List Value} {ws ws' : va_W} {cN sN : Nat}
theorem c_iconst (C : Cc K cc own nL R cy nm) {n : Int} {v : Int32} (d : decode cc pc = .ok (.iconst n, 1)) (hv : Int32.ofInt n = v) (h : K (pc + 1) lv (.int v :: st) ws cN sN) : K pc lv (st) ws cN sN := by
  obtain ⟨p, l, e, s, m, args, below, meth, c, D, A, Q, rfl, hx, hb, hml, hown, hts, hnw, hK, hA, hSt, hAO, hnm⟩ := C
  intro H locs ls hP hD hS hl
  exact lv_iconst hx hb d hv (h H locs ls hP hD hS hl)
theorem c_bipush (C : Cc K cc own nL R cy nm) {n : Int} {v : Int32} (d : decode cc pc = .ok (.bipush n, 2)) (hv : (Int8.ofInt n).toInt32 = v) (h : K (pc + 2) lv (.int v :: st) ws cN sN) : K pc lv (st) ws cN sN := by
  obtain ⟨p, l, e, s, m, args, below, meth, c, D, A, Q, rfl, hx, hb, hml, hown, hts, hnw, hK, hA, hSt, hAO, hnm⟩ := C
  intro H locs ls hP hD hS hl
  exact lv_bipush hx hb d hv (h H locs ls hP hD hS hl)
theorem c_sipush (C : Cc K cc own nL R cy nm) {n : Int} {v : Int32} (d : decode cc pc = .ok (.sipush n, 3)) (hv : (Int16.ofInt n).toInt32 = v) (h : K (pc + 3) lv (.int v :: st) ws cN sN) : K pc lv (st) ws cN sN := by
  obtain ⟨p, l, e, s, m, args, below, meth, c, D, A, Q, rfl, hx, hb, hml, hown, hts, hnw, hK, hA, hSt, hAO, hnm⟩ := C
  intro H locs ls hP hD hS hl
  exact lv_sipush hx hb d hv (h H locs ls hP hD hS hl)
theorem c_dup (C : Cc K cc own nL R cy nm) {va : Value} (d : decode cc pc = .ok (.dup, 1)) (hva : va.category = 1) (h : K (pc + 1) lv (va :: va :: st) ws cN sN) : K pc lv (va :: st) ws cN sN := by
  obtain ⟨p, l, e, s, m, args, below, meth, c, D, A, Q, rfl, hx, hb, hml, hown, hts, hnw, hK, hA, hSt, hAO, hnm⟩ := C
  intro H locs ls hP hD hS hl
  exact lv_dup hx hb d hva (h H locs ls hP hD hS hl)
theorem c_iload_n (C : Cc K cc own nL R cy nm) {k : Fin 4} {i : Nat} {x : Int32} (d : decode cc pc = .ok (.iload_n k, 1)) (q : Nat) (hi : (k : Nat) = i) (hq : lv[q]? = some (i, .int x)) (h : K (pc + 1) lv (.int x :: st) ws cN sN) : K pc lv (st) ws cN sN := by
  obtain ⟨p, l, e, s, m, args, below, meth, c, D, A, Q, rfl, hx, hb, hml, hown, hts, hnw, hK, hA, hSt, hAO, hnm⟩ := C
  intro H locs ls hP hD hS hl
  exact lv_iload_n hx hb d hi (lv_at hl q hq) (h H locs ls hP hD hS hl)
theorem c_istore_n (C : Cc K cc own nL R cy nm) {k : Fin 4} {i : Nat} {x : Int32} {lv' : List (Nat × Value)} (d : decode cc pc = .ok (.istore_n k, 1)) (hi : (k : Nat) = i) (hn : i < nL) (hl' : (i, Value.int x) :: lv.filter (fun q => !(q.1 == i) && !(q.1 + 1 == i && q.2.category == 2)) = lv') (h : K (pc + 1) lv' st ws cN sN) : K pc lv (.int x :: st) ws cN sN := by
  obtain ⟨p, l, e, s, m, args, below, meth, c, D, A, Q, rfl, hx, hb, hml, hown, hts, hnw, hK, hA, hSt, hAO, hnm⟩ := C
  intro H locs ls hP hD hS hl
  exact lv_istore_n hx hb d hi hl hn hl' (fun ls' h' => h H locs ls' hP hD hS h')
theorem c_aload_n (C : Cc K cc own nL R cy nm) {k : Fin 4} {i : Nat} {x : Nat} (d : decode cc pc = .ok (.aload_n k, 1)) (q : Nat) (hi : (k : Nat) = i) (hq : lv[q]? = some (i, .ref x)) (h : K (pc + 1) lv (.ref x :: st) ws cN sN) : K pc lv (st) ws cN sN := by
  obtain ⟨p, l, e, s, m, args, below, meth, c, D, A, Q, rfl, hx, hb, hml, hown, hts, hnw, hK, hA, hSt, hAO, hnm⟩ := C
  intro H locs ls hP hD hS hl
  exact lv_aload_n hx hb d hi (lv_at hl q hq) (h H locs ls hP hD hS hl)
theorem c_astore_n (C : Cc K cc own nL R cy nm) {k : Fin 4} {i : Nat} {x : Nat} {lv' : List (Nat × Value)} (d : decode cc pc = .ok (.astore_n k, 1)) (hi : (k : Nat) = i) (hn : i < nL) (hl' : (i, Value.ref x) :: lv.filter (fun q => !(q.1 == i) && !(q.1 + 1 == i && q.2.category == 2)) = lv') (h : K (pc + 1) lv' st ws cN sN) : K pc lv (.ref x :: st) ws cN sN := by
  obtain ⟨p, l, e, s, m, args, below, meth, c, D, A, Q, rfl, hx, hb, hml, hown, hts, hnw, hK, hA, hSt, hAO, hnm⟩ := C
  intro H locs ls hP hD hS hl
  exact lv_astore_n hx hb d hi hl hn hl' (fun ls' h' => h H locs ls' hP hD hS h')
theorem c_iinc (C : Cc K cc own nL R cy nm) {i : Nat} {n : Int} {x v : Int32} {lv' : List (Nat × Value)} (d : decode cc pc = .ok (.iinc i n, 3)) (k : Nat) (hk : lv[k]? = some (i, .int x)) (hv : x + Int32.ofInt n = v) (hn : i < nL) (hl' : (i, Value.int v) :: lv.filter (fun q => !(q.1 == i) && !(q.1 + 1 == i && q.2.category == 2)) = lv') (h : K (pc + 3) lv' st ws cN sN) : K pc lv st ws cN sN := by
  obtain ⟨p, l, e, s, m, args, below, meth, c, D, A, Q, rfl, hx, hb, hml, hown, hts, hnw, hK, hA, hSt, hAO, hnm⟩ := C
  intro H locs ls hP hD hS hl
  exact lv_iinc hx hb d hl hk hv hn hl' (fun ls' h' => h H locs ls' hP hD hS h')
theorem c_goto (C : Cc K cc own nL R cy nm) {off : Int} (d : decode cc pc = .ok (.goto off, 3)) (tgt : Nat) (ht : (pc : Int) + off = (tgt : Int)) (h : K tgt lv st ws cN sN) : K pc lv st ws cN sN := by
  obtain ⟨p, l, e, s, m, args, below, meth, c, D, A, Q, rfl, hx, hb, hml, hown, hts, hnw, hK, hA, hSt, hAO, hnm⟩ := C
  intro H locs ls hP hD hS hl
  exact lv_goto hx hb d ht (h H locs ls hP hD hS hl)
theorem c_ge (C : Cc K cc own nL R cy nm) {x y : Int32} {off : Int} (d : decode cc pc = .ok (.if_icmp .ge off, 3)) (tgt : Nat) (ht : (pc : Int) + off = (tgt : Int)) (h : y ≤ x → K tgt lv st ws cN sN) (h' : ¬ y ≤ x → K (pc + 3) lv st ws cN sN) : K pc lv (.int y :: .int x :: st) ws cN sN := by
  obtain ⟨p, l, e, s, m, args, below, meth, c, D, A, Q, rfl, hx, hb, hml, hown, hts, hnw, hK, hA, hSt, hAO, hnm⟩ := C
  intro H locs ls hP hD hS hl
  exact lv_icmp_ge hx hb d ht (fun q => h q H locs ls hP hD hS hl) (fun q => h' q H locs ls hP hD hS hl)
theorem c_sub (C : Cc K cc own nL R cy nm) {lv' : List (Nat × Value)} (ks : List Nat) (hs : lv_pick lv ks = lv') (h : K pc lv' st ws cN sN) : K pc lv st ws cN sN := by
  obtain ⟨p, l, e, s, m, args, below, meth, c, D, A, Q, rfl, hx, hb, hml, hown, hts, hnw, hK, hA, hSt, hAO, hnm⟩ := C
  intro H locs ls hP hD hS hl
  exact h H locs ls hP hD hS (lv_sub hl ks hs)
theorem c_obj (C : Cc K cc own nL R cy nm) {idx a : Nat} (d : decode cc pc = .ok (.invokespecial idx, 3)) (h1 : Cond.methodLink own idx Lib.objectInit ∈ lw_good) (h2 : Cond.instanceMethod Lib.objectInit ∈ lw_good) (h3 : Cond.code Lib.objectInit ⟨#[0xb1]⟩ 1 none ∈ lw_good) (hR : 1 ≤ R.frames ∧ (st.map fun v => v.category).sum + 12 ≤ R.locals) (h : K (pc + 3) lv st ws cN sN) : K pc lv (.ref a :: st) ws cN sN := by
  obtain ⟨p, l, e, s, m, args, below, meth, c, D, A, Q, rfl, hx, hb, hml, hown, hts, hnw, hK, hA, hSt, hAO, hnm⟩ := C
  intro H locs ls hP hD hS hl
  refine W.objInit hx hb hown (hts _ h1) (hts _ h2) (hts _ h3) rfl (by rw [hml]; exact hl.1) rfl d hR.1 (by show 2 * 0 + _ + 12 ≤ _; have := hR.2; omega) ?_
  exact h H locs ls hP hD hS hl
theorem c_newI (C : Cc K cc own nL R cy nm) {n : Int32} {N' : Nat} (d : decode cc pc = .ok (.newarray .int, 2)) (hw : Cond.arrayClass .int ∈ lw_good) (hn : ¬ n < 0) (hN : n.toNatClampNeg = N') (hbytes : N' * componentBytes .int ≤ 536870912) (hr : cN + 1 ≤ R.cells ∧ sN + N' ≤ R.slots) (h : ∀ q, K (pc + 2) lv (.ref q :: st) (ws ++ [(q, .inl (cy 0, N', .inl (fun _ => 0)))]) (cN + 1) (sN + N')) : K pc lv (.int n :: st) ws cN sN := by
  obtain ⟨p, l, e, s, m, args, below, meth, c, D, A, Q, rfl, hx, hb, hml, hown, hts, hnw, hK, hA, hSt, hAO, hnm⟩ := C
  intro H locs ls hP hD hS hl
  refine va_newa (atype := .int) (ty := .int) hx hb (hts _ hw) rfl hK hP hD hS hA (a0 := (N', .inl (fun _ => 0))) (fun _ => rfl) hn hN hbytes hr.1 hr.2 d (fun q cA H1 hK1 hP1 hD1 hS1 => ?_)
  have e1 : s.vm.findClass _ = some cA := (hK1.2 4 _ rfl).2
  have e2 : s.vm.findClass _ = some (cy 0) := (hK1.2 0 _ rfl).2
  have e : cA = cy 0 := Option.some.inj (e1.symm.trans e2)
  subst e
  exact h q H1 locs ls hP1 hD1 hS1 hl
theorem c_newJ (C : Cc K cc own nL R cy nm) {n : Int32} {N' : Nat} (d : decode cc pc = .ok (.newarray .long, 2)) (hw : Cond.arrayClass .long ∈ lw_good) (hn : ¬ n < 0) (hN : n.toNatClampNeg = N') (hbytes : N' * componentBytes .long ≤ 536870912) (hr : cN + 1 ≤ R.cells ∧ sN + N' ≤ R.slots) (h : ∀ q, K (pc + 2) lv (.ref q :: st) (ws ++ [(q, .inl (cy 1, N', .inr (.inl (fun _ => 0))))]) (cN + 1) (sN + N')) : K pc lv (.int n :: st) ws cN sN := by
  obtain ⟨p, l, e, s, m, args, below, meth, c, D, A, Q, rfl, hx, hb, hml, hown, hts, hnw, hK, hA, hSt, hAO, hnm⟩ := C
  intro H locs ls hP hD hS hl
  refine va_newa (atype := .long) (ty := .long) hx hb (hts _ hw) rfl hK hP hD hS hA (a0 := (N', .inr (.inl (fun _ => 0)))) (fun _ => rfl) hn hN hbytes hr.1 hr.2 d (fun q cA H1 hK1 hP1 hD1 hS1 => ?_)
  have e1 : s.vm.findClass _ = some cA := (hK1.2 4 _ rfl).2
  have e2 : s.vm.findClass _ = some (cy 1) := (hK1.2 1 _ rfl).2
  have e : cA = cy 1 := Option.some.inj (e1.symm.trans e2)
  subst e
  exact h q H1 locs ls hP1 hD1 hS1 hl
theorem c_newZ (C : Cc K cc own nL R cy nm) {n : Int32} {N' : Nat} (d : decode cc pc = .ok (.newarray .boolean, 2)) (hw : Cond.arrayClass .boolean ∈ lw_good) (hn : ¬ n < 0) (hN : n.toNatClampNeg = N') (hbytes : N' * componentBytes .boolean ≤ 536870912) (hr : cN + 1 ≤ R.cells ∧ sN + N' ≤ R.slots) (h : ∀ q, K (pc + 2) lv (.ref q :: st) (ws ++ [(q, .inl (cy 2, N', .inl (fun _ => 0)))]) (cN + 1) (sN + N')) : K pc lv (.int n :: st) ws cN sN := by
  obtain ⟨p, l, e, s, m, args, below, meth, c, D, A, Q, rfl, hx, hb, hml, hown, hts, hnw, hK, hA, hSt, hAO, hnm⟩ := C
  intro H locs ls hP hD hS hl
  refine va_newa (atype := .boolean) (ty := .boolean) hx hb (hts _ hw) rfl hK hP hD hS hA (a0 := (N', .inl (fun _ => 0))) (fun _ => rfl) hn hN hbytes hr.1 hr.2 d (fun q cA H1 hK1 hP1 hD1 hS1 => ?_)
  have e1 : s.vm.findClass _ = some cA := (hK1.2 4 _ rfl).2
  have e2 : s.vm.findClass _ = some (cy 2) := (hK1.2 2 _ rfl).2
  have e : cA = cy 2 := Option.some.inj (e1.symm.trans e2)
  subst e
  exact h q H1 locs ls hP1 hD1 hS1 hl
theorem c_newq (C : Cc K cc own nL R cy nm) {idx : Nat} {n : Int32} {N' : Nat} (d : decode cc pc = .ok (.anewarray idx, 3)) (hw : Cond.classLink own idx TrN ∈ lw_good) (hn : ¬ n < 0) (hN : n.toNatClampNeg = N') (hbytes : N' * 4 ≤ 536870912) (hr : cN + 1 ≤ R.cells ∧ sN + N' ≤ R.slots) (h : ∀ q, K (pc + 3) lv (.ref q :: st) (ws ++ [(q, .inl (cy 3, N', .inr (.inr (.inr (.inr (fun _ => none))))))]) (cN + 1) (sN + N')) : K pc lv (.int n :: st) ws cN sN := by
  obtain ⟨p, l, e, s, m, args, below, meth, c, D, A, Q, rfl, hx, hb, hml, hown, hts, hnw, hK, hA, hSt, hAO, hnm⟩ := C
  intro H locs ls hP hD hS hl
  refine va_newq (C := TrN) hx hb hown (hts _ hw) hAO hK hP hD hS hA hn hN hbytes hr.1 hr.2 d (fun q cA H1 hK1 hP1 hD1 hS1 => ?_)
  obtain ⟨k1, m1, -, -, -, e1⟩ := (hK1.2 4 _ rfl).2
  obtain ⟨k2, m2, -, -, -, e2⟩ := (hK1.2 3 _ rfl).2
  have e : cA = cy 3 := Option.some.inj (e1.symm.trans e2)
  subst e
  exact h q H1 locs ls hP1 hD1 hS1 hl
theorem c_new (C : Cc K cc own nL R cy nm) {idx ci N : Nat} {Cn : String} {T : u_T} {fs : List Value} (d : decode cc pc = .ok (.new idx, 3)) (hw : Cond.classLink own idx Cn ∈ lw_good) (hw2 : Cond.instantiable Cn N ∈ lw_good) (hw3 : Cond.initialized Cn ∈ lw_good) (hin : ∀ w ∈ u_ws Cn T N, w ∈ lw_good) (ty : Nat → FieldType) (hty : ∀ k, k < N → parseFieldDescriptor (T k).2.2.1 = some (ty k)) (hc : vwCl[ci]? = some (Cn, T, N)) (hfs : ∀ j, j < N → defaultValue (ty j) = vp_V fs j) (hr : cN + 1 ≤ R.cells ∧ sN + N ≤ R.slots) (h : ∀ q, K (pc + 3) lv (.ref q :: st) (ws ++ [(q, .inr (ci, fs))]) (cN + 1) (sN + N)) : K pc lv st ws cN sN := by
  obtain ⟨p, l, e, s, m, args, below, meth, c, D, A, Q, rfl, hx, hb, hml, hown, hts, hnw, hK, hA, hSt, hAO, hnm⟩ := C
  intro H locs ls hP hD hS hl
  exact va_new hx hb hts hin ty hty hown (hts _ hw) (hts _ hw2) (hts _ hw3) hK hP hD hS hA hc hfs hr.1 hr.2 d (fun q H1 hP1 hD1 hS1 => h q H1 locs ls hP1 hD1 hS1 hl)
theorem c_put (C : Cc K cc own nL R cy "<init>") {idx ci j a v : Nat} {fs : List Value} (d : decode cc pc = .ok (.putfield idx, 3)) (f : Fo own idx ci j) (p0 : Nat) (he : ws[p0]? = some (a, .inr (ci, fs))) (hj : j < fs.length) (hw : ws.set p0 (a, .inr (ci, fs.set j (.ref v))) = ws') (h : K (pc + 3) lv st ws' cN sN) : K pc lv (.ref v :: .ref a :: st) ws cN sN := by
  obtain ⟨p, l, e, s, m, args, below, meth, c, D, A, Q, rfl, hx, hb, hml, hown, hts, hnw, hK, hA, hSt, hAO, hnm⟩ := C
  intro H locs ls hP hD hS hl
  obtain ⟨T, N, ty0, ty, hc, hjN, hin, hty, hnmf, hT, hlk, hfin, hd, hf⟩ := f
  refine va_putF (C := own) (T := T) (N := N) (v := .ref v) (ty := ty) hx hb hts hin ty0 hty hnmf hown hK hP hD hS p0 he hc j hjN (hts _ hlk) (by rw [hT]; exact fun _ q => q) hfin hnm hT hd (hf v).1 (hf v).2 hj d (fun H1 locs1 hP1 hD1 hS1 => ?_)
  rw [hw] at hP1 hD1
  exact h H1 locs1 ls hP1 hD1 hS1 hl
theorem c_puti (C : Cc K cc own nL R cy nm) {idx ci j a : Nat} {v : Int32} {fs : List Value} (d : decode cc pc = .ok (.putfield idx, 3)) (f : Fl own idx ci j) (fi : Fi ci j) (p0 : Nat) (he : ws[p0]? = some (a, .inr (ci, fs))) (hj : j < fs.length) (hw : ws.set p0 (a, .inr (ci, fs.set j (.int v))) = ws') (h : K (pc + 3) lv st ws' cN sN) : K pc lv (.int v :: .ref a :: st) ws cN sN := by
  obtain ⟨p, l, e, s, m, args, below, meth, c, D, A, Q, rfl, hx, hb, hml, hown, hts, hnw, hK, hA, hSt, hAO, hnm⟩ := C
  intro H locs ls hP hD hS hl
  obtain ⟨Cn, T, N, ty0, hc, hjN, hin, hty, hnmf, hT, hlk⟩ := f
  obtain ⟨hfin, hd⟩ := fi Cn T N hc
  rcases hlk with hlk | hlk
  · refine va_put (C := Cn) (T := T) (N := N) (v := .int v) (ty := .int) hx hb hts hin ty0 hty hnmf hown hK hP hD hS p0 he hc j hjN (hts _ hlk) (by rw [hT]; exact fun _ q => q) hfin hd rfl rfl hj d (fun H1 locs1 hP1 hD1 hS1 => ?_)
    rw [hw] at hP1 hD1
    exact h H1 locs1 ls hP1 hD1 hS1 hl
  · refine va_putN (C := Cn) (T := T) (N := N) (v := .int v) (ty := .int) hx hb hts hin ty0 hty hnmf hown hK hP hD hS p0 he hc j hjN (va_Nw.use rfl (hnw _ hlk)) (by rw [hT]; exact fun _ q => q) hfin hd rfl rfl hj d (fun H1 locs1 hP1 hD1 hS1 => ?_)
    rw [hw] at hP1 hD1
    exact h H1 locs1 ls hP1 hD1 hS1 hl
theorem c_get (C : Cc K cc own nL R cy nm) {idx ci j a : Nat} {v : Value} {fs : List Value} (d : decode cc pc = .ok (.getfield idx, 3)) (f : Fl own idx ci j) (p0 : Nat) (he : ws[p0]? = some (a, .inr (ci, fs))) (hv : fs[j]? = some v) (h : K (pc + 3) lv (v :: st) ws cN sN) : K pc lv (.ref a :: st) ws cN sN := by
  obtain ⟨p, l, e, s, m, args, below, meth, c, D, A, Q, rfl, hx, hb, hml, hown, hts, hnw, hK, hA, hSt, hAO, hnm⟩ := C
  intro H locs ls hP hD hS hl
  obtain ⟨Cn, T, N, ty0, hc, hj, hin, hty, hnmf, hT, hlk⟩ := f
  rcases hlk with hlk | hlk
  · exact va_get (C := Cn) (T := T) (N := N) hx hb hts hin hown hK hP p0 he hc j hj (hts _ hlk) (by rw [hT]; exact fun _ q => q) hv d (h H locs ls hP hD hS hl)
  · exact va_getN (C := Cn) (T := T) (N := N) hx hb hts hin hown hK hP p0 he hc j hj (va_Nw.use rfl (hnw _ hlk)) (by rw [hT]; exact fun _ q => q) hv d (h H locs ls hP hD hS hl)
theorem c_iast (C : Cc K cc own nL R cy nm) {n a : Nat} {i x : Int32} {f : Nat → Int32} (d : decode cc pc = .ok (.iastore, 1)) (p0 : Nat) (he : ws[p0]? = some (a, .inl (cy 0, n, .inl f))) (hin : vp_in i n) (hw : ws.set p0 (a, .inl (cy 0, n, .inl (upd f i.toNatClampNeg x))) = ws') (h : K (pc + 1) lv st ws' cN sN) : K pc lv (.int x :: .int i :: .ref a :: st) ws cN sN := by
  obtain ⟨p, l, e, s, m, args, below, meth, c, D, A, Q, rfl, hx, hb, hml, hown, hts, hnw, hK, hA, hSt, hAO, hnm⟩ := C
  intro H locs ls hP hD hS hl
  refine va_iast hx hb hK hP hD hS p0 0 he rfl hin d (fun H1 locs1 hP1 hD1 hS1 => ?_)
  rw [hw] at hP1 hD1
  exact h H1 locs1 ls hP1 hD1 hS1 hl
theorem c_alen (C : Cc K cc own nL R cy nm) {n a : Nat} {v : Int32} {f : Nat → Int32} (d : decode cc pc = .ok (.arraylength, 1)) (p0 : Nat) (he : ws[p0]? = some (a, .inl (cy 0, n, .inl f))) (hv : Int32.ofNat n = v) (h : K (pc + 1) lv (.int v :: st) ws cN sN) : K pc lv (.ref a :: st) ws cN sN := by
  obtain ⟨p, l, e, s, m, args, below, meth, c, D, A, Q, rfl, hx, hb, hml, hown, hts, hnw, hK, hA, hSt, hAO, hnm⟩ := C
  intro H locs ls hP hD hS hl
  exact va_alen hx hb hK hP p0 0 he rfl hv d (h H locs ls hP hD hS hl)
theorem c_aast (C : Cc K cc own nL R cy nm) {n a v : Nat} {i : Int32} {f : Nat → Option Nat} {vs : List Value} (d : decode cc pc = .ok (.aastore, 1)) (p0 p1 : Nat) (he : ws[p0]? = some (a, .inl (cy 3, n, .inr (.inr (.inr (.inr f)))))) (hv : ws[p1]? = some (v, .inr (7, vs))) (hin : vp_in i n) (hw : ws.set p0 (a, .inl (cy 3, n, .inr (.inr (.inr (.inr (va_up f i.toNatClampNeg (some v))))))) = ws') (h : K (pc + 1) lv st ws' cN sN) : K pc lv (.ref v :: .int i :: .ref a :: st) ws cN sN := by
  obtain ⟨p, l, e, s, m, args, below, meth, c, D, A, Q, rfl, hx, hb, hml, hown, hts, hnw, hK, hA, hSt, hAO, hnm⟩ := C
  intro H locs ls hP hD hS hl
  refine va_astq hx hb hK hP hD hS p0 3 p1 7 (r := (RX7, TX7, 19)) he rfl hv rfl hin d (fun H1 locs1 hP1 hD1 hS1 => ?_)
  rw [hw] at hP1 hD1
  exact h H1 locs1 ls hP1 hD1 hS1 hl
theorem c_firstcp (C : Cc K cc own nL R cy nm) {idx idx2 idx3 a a4 : Nat} {f : Nat → Int32} {fs : List Value} (p0 p4 : Nat) (hlk : Cond.fieldLinkNest own idx RX8 "SETTING_FIRST" "[I" RX8 ∈ lw_nest) (hq : lv[0]? = some (0, .ref a)) (he : ws[p0]? = some (a, .inr (6, fs))) (fl : Fl own idx2 6 4) (hv : fs[4]? = some (.ref a4)) (he4 : ws[p4]? = some (a4, .inl (cy 0, 5, .inl f))) (hcl : Cond.methodLink own idx3 arraycopyName ∈ lw_good) (hR : 1 ≤ R.frames ∧ 18 ≤ R.locals)
    (d : decode cc pc = .ok (.getstatic idx, 3)) (d1 : decode cc (pc + 3) = .ok (.iconst 0, 1)) (d2 : decode cc (pc + 4) = .ok (.aload_n 0, 1)) (d3 : decode cc (pc + 5) = .ok (.getfield idx2, 3)) (d4 : decode cc (pc + 8) = .ok (.iconst 0, 1)) (d5 : decode cc (pc + 9) = .ok (.iconst 5, 1)) (d6 : decode cc (pc + 10) = .ok (.invokestatic idx3, 3))
    (hw : ws.set p4 (a4, .inl (cy 0, 5, .inl (va_cpy tbFirst f 0 0 5))) = ws') (h : K (pc + 13) lv [] ws' cN sN) : K pc lv [] ws cN sN := by
  have C' := C
  obtain ⟨p, l, e, s, m, args, below, meth, c, D, A, Q, rfl, hx, hb, hml, hown, hts, hnw, hK, hA, hSt, hAO, hnm⟩ := C
  intro H locs ls hP hD hS hl
  obtain ⟨t, hZ, hT⟩ := hSt.2.2.2
  refine va_getsN hx hb hZ hS hown (va_Nw.use rfl (hnw _ hlk)) (fun _ z => z) d ?_
  refine lv_iconst hx hb d1 (v := 0) rfl ?_
  refine lv_aload_n hx hb d2 rfl (lv_at hl 0 hq) ?_
  obtain ⟨Cn, T, N, ty0, hc, hj, hin, hty, hnmf, hTT, hlk2⟩ := fl
  have rest : W p l e R s m args below meth c H locs cN sN Q (F0 m (pc + 8) ls [.ref a4, .int 0, .ref t]) := by
    refine lv_iconst hx hb d4 (v := 0) rfl ?_
    refine lv_iconst hx hb d5 (v := 5) rfl ?_
    refine w_copyT hx hb (by rw [hml]; exact hl.1.symm) hown (hts _ hcl) (hts _ ms_cp_0) (hts _ ms_cp_1) (hts _ ms_cp_2) hK hP hD hS p4 0 hT he4 rfl hR.1 (by simpa [nativeFrameWords] using hR.2) d6 (fun H1 locs1 hP1 hD1 hS1 => ?_)
    rw [hw] at hP1 hD1
    exact h H1 locs1 ls hP1 hD1 hS1 hl
  rcases hlk2 with hlk2 | hlk2
  · exact va_get (C := Cn) (T := T) (N := N) hx hb hts hin hown hK hP p0 he hc 4 hj (hts _ hlk2) (by rw [hTT]; exact fun _ q => q) hv d3 rest
  · exact va_getN (C := Cn) (T := T) (N := N) hx hb hts hin hown hK hP p0 he hc 4 hj (va_Nw.use rfl (hnw _ hlk2)) (by rw [hTT]; exact fun _ q => q) hv d3 rest
theorem c_callI (C : Cc K cc own nL R cy nm) {q : Nat} {idx n np mc ms : Nat} {y : MethodName} {rm : Room} {As st0 : List Value} {wc wr : va_W} {Post : va_W → Prop} (d : decode cc pc = .ok (.invokespecial idx, 3)) (hlk : Lk own idx y) (mw : MWi y b n np) (hM : Ct y b n rm (.ref q :: As) cy wc Post mc ms) (hrm : Rc rm n R mc ms) (isC isR : List Nat) (hC : isC.map (fun i => ws[i]?) = wc.map some) (hR : isR.map (fun i => ws[i]?) = wr.map some) (hnC : va_nd isC = true) (hnR : va_nd isR = true) (hdis : ∀ i ∈ isR, i ∉ isC) (hn : As.length = np) (hst : st0 = As.reverse ++ .ref q :: st) (hroom : (st.map fun v => v.category).sum ≤ 8) (hcs : cN + mc ≤ R.cells ∧ sN + ms ≤ R.slots) (h : ∀ w, Post w → K (pc + 3) lv st (wr ++ w) (cN + mc) (sN + ms)) : K pc lv st0 ws cN sN := by
  obtain ⟨p, l, e, s, m, args, below, meth, c, D, A, Q, rfl, hx, hb, hml, hown, hts, hnw, hK, hA, hSt, hAO, hnm⟩ := C
  intro H locs ls hP hD hS hl
  obtain ⟨r1, r2, r3, r4⟩ := hrm
  have hPc : va_P D vwCl wc H := hP.sub isC (pick_of isC hC)
  have hDc := hD.sub isC hnC hC
  have hFc := va_free (wc := wc) hD hS hA isC hC
  have hpre : ∀ (av : List Value), ∀ U : State, U.heap = H → s.WarmedH U.vm → va_Pc av (Wc D cy wc H.size) av.toArray U := fun av U hU hW => ⟨rfl, by rw [hU], by rw [hU]; exact hPc, va_K.moved hW.alike hK, hDc.weaken (fun _ _ _ _ => trivial), nest_warm hW hnw, hSt.to hS hFc hW.alike hU, va_AO.moved hW.alike hAO⟩
  obtain ⟨⟨hini, hcode, hd⟩, hy1, hin⟩ := mw
  have hrun : va_Run p l e R s m args below meth c H locs cN sN mc ms (F0 m pc ls st0) st (va_Qv (fun (w : va_W) => Post w) (fun w t => va_P D vwCl w t.heap ∧ va_D (va_A wc H.size) w) (va_A wc H.size) (Value.ref q :: As).toArray) (va_A wc H.size) := by
    rcases hlk with hlk | hlk
    · exact va_runI (n := np) (maxL := n) (bytes := b) ⟨hx, hb, hml, hown, hts⟩ (hM l D H.size) ⟨callB_of np hts (goodIn_m hcode) rfl r1 r2 (hts _ hini) (hts _ hlk) hd ⟨r3, r4⟩, hy1, hts _ hin⟩ ⟨Wc.blind, hpre _⟩ rfl hn hl.1 hst (lv_room hroom) d hcs
    · exact va_runIN (n := np) (maxL := n) (bytes := b) ⟨hx, hb, hml, hown, hts⟩ (hM l D H.size) ⟨va_cnB np hts (goodIn_m hcode) rfl r1 r2 (hnw _ hlk) (hts _ hini) hd ⟨r3, r4⟩, hy1, hts _ hin⟩ ⟨Wc.blind, hpre _⟩ rfl hn hl.1 hst (lv_room hroom) d hcs
  refine va_callv hrun hS (fun q _ h => hFc q h) hFc (fun u t H1 locs1 ht hvm hw hB hz hk1 hS1 => ?_)
  obtain ⟨hP1, hD1⟩ := hB
  rw [ht] at hP1
  obtain ⟨hP2, hD2⟩ := va_join (wr := wr) (w1 := u) hP hD isC isR hC hR hnR hdis hk1 hFc hP1 hD1
  exact h u hw H1 locs1 ls hP2 hD2 hS1 hl
theorem c_callV (C : Cc K cc own nL R cy nm) {q : Nat} {idx n np mc ms : Nat} {y : MethodName} {rm : Room} {As st0 : List Value} {wc wr : va_W} {Post : va_W → Prop} (d : decode cc pc = .ok (.invokevirtual idx, 3)) (hlk : Lk own idx y) (mw : MWv y b n none np) {ci : Nat} {T : u_T} {N pq : Nat} {fsq : List Value} (hq : ws[pq]? = some (q, .inr (ci, fsq))) (hc : vwCl[ci]? = some (y.cls, T, N)) (hM : Ct y b n rm (.ref q :: As) cy wc Post mc ms) (hrm : Rc rm n R mc ms) (isC isR : List Nat) (hC : isC.map (fun i => ws[i]?) = wc.map some) (hR : isR.map (fun i => ws[i]?) = wr.map some) (hnC : va_nd isC = true) (hnR : va_nd isR = true) (hdis : ∀ i ∈ isR, i ∉ isC) (hn : As.length = np) (hst : st0 = As.reverse ++ .ref q :: st) (hroom : (st.map fun v => v.category).sum ≤ 8) (hcs : cN + mc ≤ R.cells ∧ sN + ms ≤ R.slots) (h : ∀ w, Post w → K (pc + 3) lv st (wr ++ w) (cN + mc) (sN + ms)) : K pc lv st0 ws cN sN := by
  obtain ⟨p, l, e, s, m, args, below, meth, c, D, A, Q, rfl, hx, hb, hml, hown, hts, hnw, hK, hA, hSt, hAO, hnm⟩ := C
  intro H locs ls hP hD hS hl
  obtain ⟨r1, r2, r3, r4⟩ := hrm
  have hPc : va_P D vwCl wc H := hP.sub isC (pick_of isC hC)
  have hDc := hD.sub isC hnC hC
  have hFc := va_free (wc := wc) hD hS hA isC hC
  have hpre : ∀ (av : List Value), ∀ U : State, U.heap = H → s.WarmedH U.vm → va_Pc av (Wc D cy wc H.size) av.toArray U := fun av U hU hW => ⟨rfl, by rw [hU], by rw [hU]; exact hPc, va_K.moved hW.alike hK, hDc.weaken (fun _ _ _ _ => trivial), nest_warm hW hnw, hSt.to hS hFc hW.alike hU, va_AO.moved hW.alike hAO⟩
  obtain ⟨⟨hini, hcode, hd⟩, hin, hse⟩ := mw
  have hrun : va_Run p l e R s m args below meth c H locs cN sN mc ms (F0 m pc ls st0) st (va_Qv (fun (w : va_W) => Post w) (fun w t => va_P D vwCl w t.heap ∧ va_D (va_A wc H.size) w) (va_A wc H.size) (Value.ref q :: As).toArray) (va_A wc H.size) := by
    rcases hlk with hlk | hlk
    · exact va_runV (C := y.cls) (n := np) (maxL := n) (bytes := b) (ret := none) ⟨hx, hb, hml, hown, hts⟩ (hM l D H.size) ⟨callB_of np hts (goodIn_m hcode) rfl r1 r2 (hts _ hini) (hts _ hlk) hd ⟨r3, r4⟩, hts _ hin, hts _ hse⟩ ⟨Wc.blind, va_recv hK hP hc hq, hpre _⟩ rfl hn hl.1 hst (lv_room hroom) d hcs
    · exact va_runVN (C := y.cls) (n := np) (maxL := n) (bytes := b) (ret := none) ⟨hx, hb, hml, hown, hts⟩ (hM l D H.size) ⟨va_cnB np hts (goodIn_m hcode) rfl r1 r2 (hnw _ hlk) (hts _ hini) hd ⟨r3, r4⟩, hts _ hin, hts _ hse⟩ ⟨Wc.blind, va_recv hK hP hc hq, hpre _⟩ rfl hn hl.1 hst (lv_room hroom) d hcs
  refine va_callv hrun hS (fun q _ h => hFc q h) hFc (fun u t H1 locs1 ht hvm hw hB hz hk1 hS1 => ?_)
  obtain ⟨hP1, hD1⟩ := hB
  rw [ht] at hP1
  obtain ⟨hP2, hD2⟩ := va_join (wr := wr) (w1 := u) hP hD isC isR hC hR hnR hdis hk1 hFc hP1 hD1
  exact h u hw H1 locs1 ls hP2 hD2 hS1 hl
theorem c_callS (C : Cc K cc own nL R cy nm) {idx n np mc ms : Nat} {y : MethodName} {rm : Room} {As st0 : List Value} {wc wr : va_W} {Post : va_W → Prop} (d : decode cc pc = .ok (.invokestatic idx, 3)) (hlk : Lk own idx y) (mw : MWs y b n none np) (hM : Ct y b n rm As cy wc Post mc ms) (hrm : Rc rm n R mc ms) (isC isR : List Nat) (hC : isC.map (fun i => ws[i]?) = wc.map some) (hR : isR.map (fun i => ws[i]?) = wr.map some) (hnC : va_nd isC = true) (hnR : va_nd isR = true) (hdis : ∀ i ∈ isR, i ∉ isC) (hn : As.length = np) (hst : st0 = As.reverse ++ st) (hroom : (st.map fun v => v.category).sum ≤ 8) (hcs : cN + mc ≤ R.cells ∧ sN + ms ≤ R.slots) (h : ∀ w, Post w → K (pc + 3) lv st (wr ++ w) (cN + mc) (sN + ms)) : K pc lv st0 ws cN sN := by
  obtain ⟨p, l, e, s, m, args, below, meth, c, D, A, Q, rfl, hx, hb, hml, hown, hts, hnw, hK, hA, hSt, hAO, hnm⟩ := C
  intro H locs ls hP hD hS hl
  obtain ⟨r1, r2, r3, r4⟩ := hrm
  have hPc : va_P D vwCl wc H := hP.sub isC (pick_of isC hC)
  have hDc := hD.sub isC hnC hC
  have hFc := va_free (wc := wc) hD hS hA isC hC
  have hpre : ∀ (av : List Value), ∀ U : State, U.heap = H → s.WarmedH U.vm → va_Pc av (Wc D cy wc H.size) av.toArray U := fun av U hU hW => ⟨rfl, by rw [hU], by rw [hU]; exact hPc, va_K.moved hW.alike hK, hDc.weaken (fun _ _ _ _ => trivial), nest_warm hW hnw, hSt.to hS hFc hW.alike hU, va_AO.moved hW.alike hAO⟩
  obtain ⟨⟨hini, hcode, hd⟩, hstt⟩ := mw
  have hrun : va_Run p l e R s m args below meth c H locs cN sN mc ms (F0 m pc ls st0) st (va_Qv (fun (w : va_W) => Post w) (fun w t => va_P D vwCl w t.heap ∧ va_D (va_A wc H.size) w) (va_A wc H.size) As.toArray) (va_A wc H.size) := by
    rcases hlk with hlk | hlk
    · exact va_runS (n := np) (maxL := n) (bytes := b) (ret := none) ⟨hx, hb, hml, hown, hts⟩ (hM l D H.size) ⟨callB_of np hts (goodIn_m hcode) rfl r1 r2 (hts _ hini) (hts _ hlk) hd ⟨r3, r4⟩, hts _ hstt⟩ ⟨Wc.blind, hpre _⟩ rfl hn hl.1 hst (lv_room hroom) d hcs
    · exact va_runSN (n := np) (maxL := n) (bytes := b) (ret := none) ⟨hx, hb, hml, hown, hts⟩ (hM l D H.size) ⟨va_cnB np hts (goodIn_m hcode) rfl r1 r2 (hnw _ hlk) (hts _ hini) hd ⟨r3, r4⟩, hts _ hstt, trivial⟩ ⟨Wc.blind, hpre _⟩ rfl hn hl.1 hst (lv_room hroom) d hcs
  refine va_callv hrun hS (fun q _ h => hFc q h) hFc (fun u t H1 locs1 ht hvm hw hB hz hk1 hS1 => ?_)
  obtain ⟨hP1, hD1⟩ := hB
  rw [ht] at hP1
  obtain ⟨hP2, hD2⟩ := va_join (wr := wr) (w1 := u) hP hD isC isR hC hR hnR hdis hk1 hFc hP1 hD1
  exact h u hw H1 locs1 ls hP2 hD2 hS1 hl
theorem Ct.of {y : MethodName} {n : Nat} {rm : Room} {av : List Value} {ws0 : va_W} {Post : va_W → Prop} {mc ms : Nat} (hy : plainName y.cls = true) (hlen : (lg_sl av).length ≤ n)
    (body : ∀ (K : Kc), Cc K b y.cls n rm cy y.name → (∀ (pc : Nat) (lv : List (Nat × Value)) (w : va_W), decode b pc = .ok (.return_, 1) → Post w → K pc lv [] w mc ms) → K 0 (lv_args 0 av) [] ws0 0 0) : Ct y b n rm av cy ws0 Post mc ms := by
  intro l D sz
  refine Met.ofW (cc := b) (maxL := n) (ret := none) hy rfl ?_
  intro p e s m args below meth c s₁ B hml hv
  obtain ⟨rfl, hsz, hP, hK, hD0, hN, hSt, hAO⟩ := hv
  have hx := B.exec
  have hb := B.bytes
  have hr := B.returns
  have hlocks := B.notSynchronized
  have hts := atoms_spec (ws := Cond.code y b n none :: lw_good) B.pre
  have hown : s.vm.findClass y.cls = some m.cls := findClass_of_methodNamed B.named
  have hin : meth.name = y.name := (name_of_methodNamed B.named B.method).1
  subst hsz
  have hD := hD0.self (sz := s.heap.size)
  have hA : ∀ q : Nat, s.heap.size ≤ q → va_A ws0 s.heap.size q := fun q h => Or.inr h
  rw [lg_entry_eq]
  refine body (Gc p l e rm s m av.toArray below meth c n D (va_A ws0 s.heap.size) _) ⟨p, l, e, s, m, av.toArray, below, meth, c, D, va_A ws0 s.heap.size, _, rfl, hx, hb, hml, hown, fun w hw => hts w (List.mem_cons_of_mem _ hw), hN, hK, hA, hSt, hAO, hin⟩ ?_ s.heap [] _ hP hD va_S.rf (lv_entry av hlen)
  intro pc lv w d hPost H locs ls hP' hD' hS' hl'
  exact W.vret hx hb hr (fun t ht hW => ⟨⟨w, rfl, hPost, by show va_P _ _ _ t.heap; rw [ht]; exact hP', hD'⟩, hS'.F ht⟩) hS'.2.2 d
end CR
