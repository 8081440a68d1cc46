/-! ===== contracts of methods that make no cell: the pure term F gives answer and new world ===== -/
def MtI (y : MethodName) (b : ByteArray) (n : Nat) (rt : Option FieldType) (rm : Room) (adr : Nat → Nat) (av : List Value) (F : St → Option (Int32 × St)) : Prop :=
  ∀ (l : Launch) (D : va_G) (cy : Nat → ClassId) (S : St) (r : Int32 × St), F S = some r → Met l y (Cond.code y b n rt :: lw_good) rm (va_Pc av (Wd D cy adr S)) (va_Qi (fun (v : Int32) (S' : St) => (v, S') = r) (fun S' t => va_P D vwCl (wsOf cy adr S') t.heap) (Aw adr)) 0 0 (Aw adr)
def MtL (y : MethodName) (b : ByteArray) (n : Nat) (rt : Option FieldType) (rm : Room) (adr : Nat → Nat) (av : List Value) (F : St → Option (Int64 × St)) : Prop :=
  ∀ (l : Launch) (D : va_G) (cy : Nat → ClassId) (S : St) (r : Int64 × St), F S = some r → Met l y (Cond.code y b n rt :: lw_good) rm (va_Pc av (Wd D cy adr S)) (va_Ql (fun (v : Int64) (S' : St) => (v, S') = r) (fun S' t => va_P D vwCl (wsOf cy adr S') t.heap) (Aw adr)) 0 0 (Aw adr)
def MtV (y : MethodName) (b : ByteArray) (n : Nat) (rt : Option FieldType) (rm : Room) (adr : Nat → Nat) (av : List Value) (F : St → Option St) : Prop :=
  ∀ (l : Launch) (D : va_G) (cy : Nat → ClassId) (S r : St), F S = some r → Met l y (Cond.code y b n rt :: lw_good) rm (va_Pc av (Wd D cy adr S)) (va_Qv (fun (S' : St) => S' = r) (fun S' t => va_P D vwCl (wsOf cy adr S') t.heap) (Aw adr)) 0 0 (Aw adr)
/-- what the tables say of a method -/
def MWb (y : MethodName) (b : ByteArray) (n : Nat) (rt : Option FieldType) (np : Nat) : Prop := Cond.initialized y.cls ∈ lw_good ∧ Cond.code y b n rt ∈ lw_good ∧ (y.cls ≠ "java/lang/invoke/MethodHandle" ∧ y.cls ≠ "java/lang/invoke/VarHandle" ∧ (parseMethodDescriptor y.desc).map (fun d => d.parameters.length) = some np)
def MWv (y : MethodName) (b : ByteArray) (n : Nat) (rt : Option FieldType) (np : Nat) : Prop := MWb y b n rt np ∧ Cond.instanceMethod y ∈ lw_good ∧ Cond.selects y.cls y y ∈ lw_good
def MWs (y : MethodName) (b : ByteArray) (n : Nat) (rt : Option FieldType) (np : Nat) : Prop := MWb y b n rt np ∧ Cond.static y ∈ lw_good
def Lk (own : String) (idx : Nat) (y : MethodName) : Prop := Cond.methodLink own idx y ∈ lw_good ∨ Cond.methodLinkNest own idx y RX8 ∈ lw_nest
/-- the room that a callee needs in its caller's -/
def Rf (rm : Room) (n : Nat) (R : Room) : Prop := rm.cells = 0 ∧ rm.slots = 0 ∧ rm.frames + 1 ≤ R.frames ∧ 8 + (n + 11) + rm.locals ≤ R.locals
theorem goodIn_m {c : Cond} (h : c ∈ lw_good) : GoodIn lw_good (c :: lw_good) := fun w hw => by
  rcases List.mem_cons.mp hw with rfl | hw
  · exact ⟨h, gd_good h⟩
  · exact ⟨hw, gd_good hw⟩
section JC
variable {p : Program} {l : Launch} {e : Env} {R : Room} {s : State} {m : MethodId} {args : Array Value} {below : List Frame} {meth : Method} {c : Code} {H : Heap} {locs : List Loc} {cN sN : Nat}
  {D : va_G} {cy : Nat → ClassId} {adr : Nat → Nat} {A : Nat → Prop} {S : St} {cc b : ByteArray} {own : String} {nL n np idx pc : Nat} {ls : Array Slot} {st st0 As : List Value} {y : MethodName} {rt : Option FieldType} {rm : Room} {Qc : Array Value → State → Outcome → State → Prop}
theorem wd_pre (hP : va_P D vwCl (wsOf cy adr S) H) (hK : va_K D vwCl (tysOf cy) s) (hI : ∀ i j, i < NC → j < NC → adr i = adr j → i = j) (hnw : ∀ w ∈ lw_nest, va_Nw w s) (hSt : Stt A s) (hA : ∀ k, k < NC → A (adr k)) (hS : va_S A s.heap H locs) (av : List Value) : ∀ U : State, U.heap = H → s.WarmedH U.vm → va_Pc av (Wd D cy adr S) av.toArray U := by
  intro U hU hW
  refine ⟨rfl, by rw [hU]; exact hP, va_K.moved hW.alike hK, hI, nest_warm hW hnw, hSt.to hS ?_ hW.alike hU⟩
  rintro q ⟨k, hk, rfl⟩
  exact hA k hk
theorem run_v (Fx : CallFix p m c cc nL s args lw_good own) (hlk : Lk own idx y) (mw : MWv y b n rt np) {q ci n' N : Nat} {rs : List (Option Nat)} {T : u_T} (hM : Met l y (Cond.code y b n rt :: lw_good) rm (va_Pc (.ref (adr q) :: As) (Wd D cy adr S)) Qc 0 0 (Aw adr)) (hrm : Rf rm n R) (hP : va_P D vwCl (wsOf cy adr S) H) (hK : va_K D vwCl (tysOf cy) s) (hI : ∀ i j, i < NC → j < NC → adr i = adr j → i = j) (hnw : ∀ w ∈ lw_nest, va_Nw w s) (hSt : Stt A s) (hA : ∀ k, k < NC → A (adr k)) (hS : va_S A s.heap H locs)
    (hk : kd q = (ci, n', rs)) (hci : ci < 10) (hq : q < NC) (hc : vwCl[ci]? = some (y.cls, T, N)) (hn : As.length = np) (hsz : ls.size = nL) (hst : st0 = As.reverse ++ .ref (adr q) :: st) (hroom : (st.map fun v => v.category).sum ≤ 8) (d : decode cc pc = .ok (.invokevirtual idx, 3)) (hcN : cN ≤ R.cells) (hsN : sN ≤ R.slots) :
    va_Run p l e R s m args below meth c H locs cN sN 0 0 (F0 m pc ls st0) st (Qc (Value.ref (adr q) :: As).toArray) (Aw adr) := by
  obtain ⟨⟨hini, hcode, hd⟩, hin, hse⟩ := mw
  obtain ⟨r1, r2, r3, r4⟩ := hrm
  have hts := Fx.2.2.2.2
  have hpre : PreV s H y.cls (adr q) (va_Pc (.ref (adr q) :: As) (Wd D cy adr S)) As := ⟨Wd.blind, va_recv hK hP hc (by rw [wsOf_get hq, cellOf_obj hk hci]), wd_pre hP hK hI hnw hSt hA hS _⟩
  rcases hlk with hlk | hlk
  · exact va_runV (C := y.cls) (n := np) (maxL := n) (bytes := b) (ret := rt) Fx hM ⟨callB_of np hts (goodIn_m hcode) rfl r1 r2 (hts _ hini) (hts _ hlk) hd ⟨r3, r4⟩, hts _ hin, hts _ hse⟩ hpre rfl hn hsz hst (lv_room hroom) d ⟨hcN, hsN⟩
  · exact va_runVN (C := y.cls) (n := np) (maxL := n) (bytes := b) (ret := rt) Fx hM ⟨va_cnB np hts (goodIn_m hcode) rfl r1 r2 (hnw _ hlk) (hts _ hini) hd ⟨r3, r4⟩, hts _ hin, hts _ hse⟩ hpre rfl hn hsz hst (lv_room hroom) d ⟨hcN, hsN⟩
theorem run_s (Fx : CallFix p m c cc nL s args lw_good own) (hlk : Lk own idx y) (mw : MWs y b n rt np) (hM : Met l y (Cond.code y b n rt :: lw_good) rm (va_Pc As (Wd D cy adr S)) Qc 0 0 (Aw adr)) (hrm : Rf rm n R) (hP : va_P D vwCl (wsOf cy adr S) H) (hK : va_K D vwCl (tysOf cy) s) (hI : ∀ i j, i < NC → j < NC → adr i = adr j → i = j) (hnw : ∀ w ∈ lw_nest, va_Nw w s) (hSt : Stt A s) (hA : ∀ k, k < NC → A (adr k)) (hS : va_S A s.heap H locs)
    (hn : As.length = np) (hsz : ls.size = nL) (hst : st0 = As.reverse ++ st) (hroom : (st.map fun v => v.category).sum ≤ 8) (d : decode cc pc = .ok (.invokestatic idx, 3)) (hcN : cN ≤ R.cells) (hsN : sN ≤ R.slots) :
    va_Run p l e R s m args below meth c H locs cN sN 0 0 (F0 m pc ls st0) st (Qc As.toArray) (Aw adr) := by
  obtain ⟨⟨hini, hcode, hd⟩, hstt⟩ := mw
  obtain ⟨r1, r2, r3, r4⟩ := hrm
  have hts := Fx.2.2.2.2
  have hpre : PreS s H (va_Pc As (Wd D cy adr S)) As := ⟨Wd.blind, wd_pre hP hK hI hnw hSt hA hS _⟩
  rcases hlk with hlk | hlk
  · exact va_runS (n := np) (maxL := n) (bytes := b) (ret := rt) Fx hM ⟨callB_of np hts (goodIn_m hcode) rfl r1 r2 (hts _ hini) (hts _ hlk) hd ⟨r3, r4⟩, hts _ hstt⟩ hpre rfl hn hsz hst (lv_room hroom) d ⟨hcN, hsN⟩
  · exact va_runSN (n := np) (maxL := n) (bytes := b) (ret := rt) Fx hM ⟨va_cnB np hts (goodIn_m hcode) rfl r1 r2 (hnw _ hlk) (hts _ hini) hd ⟨r3, r4⟩, hts _ hstt, trivial⟩ hpre rfl hn hsz hst (lv_room hroom) d ⟨hcN, hsN⟩
end JC
section JD
variable {ρ : Type} {K : Kt} {cc b : ByteArray} {own : String} {nL n np idx : Nat} {adr : Nat → Nat} {R rm : Room} {r : ρ} {pc : Nat} {lv : List (Nat × Value)} {st st0 As : List Value} {S : St} {y : MethodName} {rt : Option FieldType}
theorem j_cvi (C : Cx K cc own nL adr R) {F : St → Option (Int32 × St)} {X : Int32 → St → Option ρ} {q ci n' N : Nat} {rs : List (Option Nat)} {T : u_T} (d : decode cc pc = .ok (.invokevirtual idx, 3)) (hlk : Lk own idx y) (mw : MWv y b n rt np) (hM : MtI y b n rt rm adr (.ref (adr q) :: As) F) (hrm : Rf rm n R) (hk : kd q = (ci, n', rs)) (hci : ci < 10) (hq : q < NC) (hc : vwCl[ci]? = some (y.cls, T, N)) (hn : As.length = np) (hst : st0 = As.reverse ++ .ref (adr q) :: st) (hroom : (st.map fun v => v.category).sum ≤ 8) (h : ∀ (v : Int32) (S' : St), J K r (X v S') (pc + 3) lv (.int v :: st) S') : J K r (bd (F S) X) pc lv st0 S := by
  obtain ⟨p, l, e, s, m, args, below, meth, c, D, cy, A, cN, sN, Q, rfl, hx, hb, hml, hown, hts, hnw, hK, hI, hA, hSt, hcN, hsN⟩ := C
  intro hX H locs ls hP hS hl
  obtain ⟨q1, hF, hG⟩ := Option.bind_eq_some_iff.mp hX
  refine va_calli (run_v ⟨hx, hb, hml, hown, hts⟩ hlk mw (hM l D cy S q1 hF) hrm hP hK hI hnw hSt hA hS hk hci hq hc hn hl.1 hst hroom d hcN hsN) hS (fun q9 _ h9 => ?_) (fun q9 h9 => ?_) (fun r1 u t H1 locs1 ht hvm hw hB hz hk1 hS1 => ?_)
  · obtain ⟨k9, hk9, rfl⟩ := h9
    exact hA k9 hk9
  · obtain ⟨k9, hk9, rfl⟩ := h9
    exact hA k9 hk9
  · cases hw
    exact h r1 u hG H1 locs1 ls (by rw [← ht]; exact hB) hS1 hl
theorem j_csi (C : Cx K cc own nL adr R) {F : St → Option (Int32 × St)} {X : Int32 → St → Option ρ} (d : decode cc pc = .ok (.invokestatic idx, 3)) (hlk : Lk own idx y) (mw : MWs y b n rt np) (hM : MtI y b n rt rm adr As F) (hrm : Rf rm n R) (hn : As.length = np) (hst : st0 = As.reverse ++ st) (hroom : (st.map fun v => v.category).sum ≤ 8) (h : ∀ (v : Int32) (S' : St), J K r (X v S') (pc + 3) lv (.int v :: st) S') : J K r (bd (F S) X) pc lv st0 S := by
  obtain ⟨p, l, e, s, m, args, below, meth, c, D, cy, A, cN, sN, Q, rfl, hx, hb, hml, hown, hts, hnw, hK, hI, hA, hSt, hcN, hsN⟩ := C
  intro hX H locs ls hP hS hl
  obtain ⟨q1, hF, hG⟩ := Option.bind_eq_some_iff.mp hX
  refine va_calli (run_s ⟨hx, hb, hml, hown, hts⟩ hlk mw (hM l D cy S q1 hF) hrm hP hK hI hnw hSt hA hS hn hl.1 hst hroom d hcN hsN) hS (fun q9 _ h9 => ?_) (fun q9 h9 => ?_) (fun r1 u t H1 locs1 ht hvm hw hB hz hk1 hS1 => ?_)
  · obtain ⟨k9, hk9, rfl⟩ := h9
    exact hA k9 hk9
  · obtain ⟨k9, hk9, rfl⟩ := h9
    exact hA k9 hk9
  · cases hw
    exact h r1 u hG H1 locs1 ls (by rw [← ht]; exact hB) hS1 hl
theorem j_cvl (C : Cx K cc own nL adr R) {F : St → Option (Int64 × St)} {X : Int64 → St → Option ρ} {q ci n' N : Nat} {rs : List (Option Nat)} {T : u_T} (d : decode cc pc = .ok (.invokevirtual idx, 3)) (hlk : Lk own idx y) (mw : MWv y b n rt np) (hM : MtL y b n rt rm adr (.ref (adr q) :: As) F) (hrm : Rf rm n R) (hk : kd q = (ci, n', rs)) (hci : ci < 10) (hq : q < NC) (hc : vwCl[ci]? = some (y.cls, T, N)) (hn : As.length = np) (hst : st0 = As.reverse ++ .ref (adr q) :: st) (hroom : (st.map fun v => v.category).sum ≤ 8) (h : ∀ (v : Int64) (S' : St), J K r (X v S') (pc + 3) lv (.long v :: st) S') : J K r (bd (F S) X) pc lv st0 S := by
  obtain ⟨p, l, e, s, m, args, below, meth, c, D, cy, A, cN, sN, Q, rfl, hx, hb, hml, hown, hts, hnw, hK, hI, hA, hSt, hcN, hsN⟩ := C
  intro hX H locs ls hP hS hl
  obtain ⟨q1, hF, hG⟩ := Option.bind_eq_some_iff.mp hX
  refine va_calll (run_v ⟨hx, hb, hml, hown, hts⟩ hlk mw (hM l D cy S q1 hF) hrm hP hK hI hnw hSt hA hS hk hci hq hc hn hl.1 hst hroom d hcN hsN) hS (fun q9 _ h9 => ?_) (fun q9 h9 => ?_) (fun r1 u t H1 locs1 ht hvm hw hB hz hk1 hS1 => ?_)
  · obtain ⟨k9, hk9, rfl⟩ := h9
    exact hA k9 hk9
  · obtain ⟨k9, hk9, rfl⟩ := h9
    exact hA k9 hk9
  · cases hw
    exact h r1 u hG H1 locs1 ls (by rw [← ht]; exact hB) hS1 hl
theorem j_csl (C : Cx K cc own nL adr R) {F : St → Option (Int64 × St)} {X : Int64 → St → Option ρ} (d : decode cc pc = .ok (.invokestatic idx, 3)) (hlk : Lk own idx y) (mw : MWs y b n rt np) (hM : MtL y b n rt rm adr As F) (hrm : Rf rm n R) (hn : As.length = np) (hst : st0 = As.reverse ++ st) (hroom : (st.map fun v => v.category).sum ≤ 8) (h : ∀ (v : Int64) (S' : St), J K r (X v S') (pc + 3) lv (.long v :: st) S') : J K r (bd (F S) X) pc lv st0 S := by
  obtain ⟨p, l, e, s, m, args, below, meth, c, D, cy, A, cN, sN, Q, rfl, hx, hb, hml, hown, hts, hnw, hK, hI, hA, hSt, hcN, hsN⟩ := C
  intro hX H locs ls hP hS hl
  obtain ⟨q1, hF, hG⟩ := Option.bind_eq_some_iff.mp hX
  refine va_calll (run_s ⟨hx, hb, hml, hown, hts⟩ hlk mw (hM l D cy S q1 hF) hrm hP hK hI hnw hSt hA hS hn hl.1 hst hroom d hcN hsN) hS (fun q9 _ h9 => ?_) (fun q9 h9 => ?_) (fun r1 u t H1 locs1 ht hvm hw hB hz hk1 hS1 => ?_)
  · obtain ⟨k9, hk9, rfl⟩ := h9
    exact hA k9 hk9
  · obtain ⟨k9, hk9, rfl⟩ := h9
    exact hA k9 hk9
  · cases hw
    exact h r1 u hG H1 locs1 ls (by rw [← ht]; exact hB) hS1 hl
theorem j_cvv (C : Cx K cc own nL adr R) {F : St → Option St} {X : St → Option ρ} {q ci n' N : Nat} {rs : List (Option Nat)} {T : u_T} (d : decode cc pc = .ok (.invokevirtual idx, 3)) (hlk : Lk own idx y) (mw : MWv y b n rt np) (hM : MtV y b n rt rm adr (.ref (adr q) :: As) F) (hrm : Rf rm n R) (hk : kd q = (ci, n', rs)) (hci : ci < 10) (hq : q < NC) (hc : vwCl[ci]? = some (y.cls, T, N)) (hn : As.length = np) (hst : st0 = As.reverse ++ .ref (adr q) :: st) (hroom : (st.map fun v => v.category).sum ≤ 8) (h : ∀ (S' : St), J K r (X S') (pc + 3) lv st S') : J K r (bdV (F S) X) pc lv st0 S := by
  obtain ⟨p, l, e, s, m, args, below, meth, c, D, cy, A, cN, sN, Q, rfl, hx, hb, hml, hown, hts, hnw, hK, hI, hA, hSt, hcN, hsN⟩ := C
  intro hX H locs ls hP hS hl
  obtain ⟨q1, hF, hG⟩ := Option.bind_eq_some_iff.mp hX
  refine va_callv (run_v ⟨hx, hb, hml, hown, hts⟩ hlk mw (hM l D cy S q1 hF) hrm hP hK hI hnw hSt hA hS hk hci hq hc hn hl.1 hst hroom d hcN hsN) hS (fun q9 _ h9 => ?_) (fun q9 h9 => ?_) (fun u t H1 locs1 ht hvm hw hB hz hk1 hS1 => ?_)
  · obtain ⟨k9, hk9, rfl⟩ := h9
    exact hA k9 hk9
  · obtain ⟨k9, hk9, rfl⟩ := h9
    exact hA k9 hk9
  · have hw : u = q1 := hw
    subst hw
    exact h u hG H1 locs1 ls (by rw [← ht]; exact hB) hS1 hl
theorem j_csv (C : Cx K cc own nL adr R) {F : St → Option St} {X : St → Option ρ} (d : decode cc pc = .ok (.invokestatic idx, 3)) (hlk : Lk own idx y) (mw : MWs y b n rt np) (hM : MtV y b n rt rm adr As F) (hrm : Rf rm n R) (hn : As.length = np) (hst : st0 = As.reverse ++ st) (hroom : (st.map fun v => v.category).sum ≤ 8) (h : ∀ (S' : St), J K r (X S') (pc + 3) lv st S') : J K r (bdV (F S) X) pc lv st0 S := by
  obtain ⟨p, l, e, s, m, args, below, meth, c, D, cy, A, cN, sN, Q, rfl, hx, hb, hml, hown, hts, hnw, hK, hI, hA, hSt, hcN, hsN⟩ := C
  intro hX H locs ls hP hS hl
  obtain ⟨q1, hF, hG⟩ := Option.bind_eq_some_iff.mp hX
  refine va_callv (run_s ⟨hx, hb, hml, hown, hts⟩ hlk mw (hM l D cy S q1 hF) hrm hP hK hI hnw hSt hA hS hn hl.1 hst hroom d hcN hsN) hS (fun q9 _ h9 => ?_) (fun q9 h9 => ?_) (fun u t H1 locs1 ht hvm hw hB hz hk1 hS1 => ?_)
  · obtain ⟨k9, hk9, rfl⟩ := h9
    exact hA k9 hk9
  · obtain ⟨k9, hk9, rfl⟩ := h9
    exact hA k9 hk9
  · have hw : u = q1 := hw
    subst hw
    exact h u hG H1 locs1 ls (by rw [← ht]; exact hB) hS1 hl
theorem MtI.of {av : List Value} {F : St → Option (Int32 × St)} (hy : plainName y.cls = true) (hlen : (lg_sl av).length ≤ n)
    (body : ∀ (K : Kt) (r : Int32 × St) (S : St), Cx K b y.cls n adr rm → (∀ (pc : Nat) (lv : List (Nat × Value)), decode b pc = .ok (.ireturn, 1) → K pc lv [.int r.1] r.2) → J K r (F S) 0 (lv_args 0 av) [] S) : MtI y b n (some .int) rm adr av F := by
  intro l D cy S r hF
  refine Met.ofW (cc := b) (maxL := n) (ret := (some .int)) hy rfl ?_
  intro p e s m args below meth c s₁ B hml hv
  obtain ⟨rfl, hP, hK, hI, hN, hSt⟩ := hv
  have hx := B.exec
  have hb := B.bytes
  have hr := B.returns
  have hlocks := B.notSynchronized
  have hts := atoms_spec (ws := Cond.code y b n (some .int) :: lw_good) B.pre
  have hown : s.vm.findClass y.cls = some m.cls := findClass_of_methodNamed B.named
  rw [lg_entry_eq]
  have hA : ∀ k, k < NC → Aw adr (adr k) := fun k hk => ⟨k, hk, rfl⟩
  refine body (Gd p l e rm s m av.toArray below meth c n D cy adr (Aw adr) 0 0 _) r S ⟨p, l, e, s, m, av.toArray, below, meth, c, D, cy, Aw adr, 0, 0, _, rfl, hx, hb, hml, hown, fun w hw => hts w (List.mem_cons_of_mem _ hw), hN, hK, hI, hA, hSt, Nat.zero_le _, Nat.zero_le _⟩ ?_ hF s.heap [] _ hP va_S.rf (lv_entry av hlen)
  intro pc lv d H locs ls hP' hS' hl'
  exact W.iret (v := r.1) hx hb hr (fun t ht hW => ⟨⟨r.1, r.2, rfl, rfl, by show va_P _ _ _ t.heap; rw [ht]; exact hP'⟩, hS'.F ht⟩) hS'.2.2 d
theorem MtI.ofZ {av : List Value} {F : St → Option (Int32 × St)} (hy : plainName y.cls = true) (hlen : (lg_sl av).length ≤ n)
    (body : ∀ (K : Kt) (r : Int32 × St) (S : St), Cx K b y.cls n adr rm → (∀ (pc : Nat) (lv : List (Nat × Value)), (r.1 = 0 ∨ r.1 = 1) → decode b pc = .ok (.ireturn, 1) → K pc lv [.int r.1] r.2) → J K r (F S) 0 (lv_args 0 av) [] S) : MtI y b n (some .boolean) rm adr av F := by
  intro l D cy S r hF
  refine Met.ofW (cc := b) (maxL := n) (ret := (some .boolean)) hy rfl ?_
  intro p e s m args below meth c s₁ B hml hv
  obtain ⟨rfl, hP, hK, hI, hN, hSt⟩ := hv
  have hx := B.exec
  have hb := B.bytes
  have hr := B.returns
  have hlocks := B.notSynchronized
  have hts := atoms_spec (ws := Cond.code y b n (some .boolean) :: lw_good) B.pre
  have hown : s.vm.findClass y.cls = some m.cls := findClass_of_methodNamed B.named
  rw [lg_entry_eq]
  have hA : ∀ k, k < NC → Aw adr (adr k) := fun k hk => ⟨k, hk, rfl⟩
  refine body (Gd p l e rm s m av.toArray below meth c n D cy adr (Aw adr) 0 0 _) r S ⟨p, l, e, s, m, av.toArray, below, meth, c, D, cy, Aw adr, 0, 0, _, rfl, hx, hb, hml, hown, fun w hw => hts w (List.mem_cons_of_mem _ hw), hN, hK, hI, hA, hSt, Nat.zero_le _, Nat.zero_le _⟩ ?_ hF s.heap [] _ hP va_S.rf (lv_entry av hlen)
  intro pc lv hz d H locs ls hP' hS' hl'
  exact W.zret (v := r.1) (ty := .boolean) hx hb hr (by rcases hz with h | h <;> rw [h] <;> rfl) (fun t ht hW => ⟨⟨r.1, r.2, rfl, rfl, by show va_P _ _ _ t.heap; rw [ht]; exact hP'⟩, hS'.F ht⟩) hS'.2.2 d
theorem MtL.of {av : List Value} {F : St → Option (Int64 × St)} (hy : plainName y.cls = true) (hlen : (lg_sl av).length ≤ n)
    (body : ∀ (K : Kt) (r : Int64 × St) (S : St), Cx K b y.cls n adr rm → (∀ (pc : Nat) (lv : List (Nat × Value)), decode b pc = .ok (.lreturn, 1) → K pc lv [.long r.1] r.2) → J K r (F S) 0 (lv_args 0 av) [] S) : MtL y b n (some .long) rm adr av F := by
  intro l D cy S r hF
  refine Met.ofW (cc := b) (maxL := n) (ret := (some .long)) hy rfl ?_
  intro p e s m args below meth c s₁ B hml hv
  obtain ⟨rfl, hP, hK, hI, hN, hSt⟩ := hv
  have hx := B.exec
  have hb := B.bytes
  have hr := B.returns
  have hlocks := B.notSynchronized
  have hts := atoms_spec (ws := Cond.code y b n (some .long) :: lw_good) B.pre
  have hown : s.vm.findClass y.cls = some m.cls := findClass_of_methodNamed B.named
  rw [lg_entry_eq]
  have hA : ∀ k, k < NC → Aw adr (adr k) := fun k hk => ⟨k, hk, rfl⟩
  refine body (Gd p l e rm s m av.toArray below meth c n D cy adr (Aw adr) 0 0 _) r S ⟨p, l, e, s, m, av.toArray, below, meth, c, D, cy, Aw adr, 0, 0, _, rfl, hx, hb, hml, hown, fun w hw => hts w (List.mem_cons_of_mem _ hw), hN, hK, hI, hA, hSt, Nat.zero_le _, Nat.zero_le _⟩ ?_ hF s.heap [] _ hP va_S.rf (lv_entry av hlen)
  intro pc lv d H locs ls hP' hS' hl'
  exact W.lret (v := r.1) hx hb hr (fun t ht hW => ⟨⟨r.1, r.2, rfl, rfl, by show va_P _ _ _ t.heap; rw [ht]; exact hP'⟩, hS'.F ht⟩) hS'.2.2 d
theorem MtV.of {av : List Value} {F : St → Option (St)} (hy : plainName y.cls = true) (hlen : (lg_sl av).length ≤ n)
    (body : ∀ (K : Kt) (r : St) (S : St), Cx K b y.cls n adr rm → (∀ (pc : Nat) (lv : List (Nat × Value)), decode b pc = .ok (.return_, 1) → K pc lv [] r) → J K r (F S) 0 (lv_args 0 av) [] S) : MtV y b n none rm adr av F := by
  intro l D cy S r hF
  refine Met.ofW (cc := b) (maxL := n) (ret := none) hy rfl ?_
  intro p e s m args below meth c s₁ B hml hv
  obtain ⟨rfl, hP, hK, hI, hN, hSt⟩ := hv
  have hx := B.exec
  have hb := B.bytes
  have hr := B.returns
  have hlocks := B.notSynchronized
  have hts := atoms_spec (ws := Cond.code y b n none :: lw_good) B.pre
  have hown : s.vm.findClass y.cls = some m.cls := findClass_of_methodNamed B.named
  rw [lg_entry_eq]
  have hA : ∀ k, k < NC → Aw adr (adr k) := fun k hk => ⟨k, hk, rfl⟩
  refine body (Gd p l e rm s m av.toArray below meth c n D cy adr (Aw adr) 0 0 _) r S ⟨p, l, e, s, m, av.toArray, below, meth, c, D, cy, Aw adr, 0, 0, _, rfl, hx, hb, hml, hown, fun w hw => hts w (List.mem_cons_of_mem _ hw), hN, hK, hI, hA, hSt, Nat.zero_le _, Nat.zero_le _⟩ ?_ hF s.heap [] _ hP va_S.rf (lv_entry av hlen)
  intro pc lv d H locs ls hP' hS' hl'
  exact W.vret hx hb hr (fun t ht hW => ⟨⟨r, rfl, rfl, by show va_P _ _ _ t.heap; rw [ht]; exact hP'⟩, hS'.F ht⟩) hS'.2.2 d
end JD
