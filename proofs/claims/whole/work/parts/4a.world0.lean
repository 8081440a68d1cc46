/-! THE CLAIM OUT OF ONE WALK OF THE LAW'S BODY. Your part is whole_start (and what it stands on); all else here is the same for every law, but numbers. -/
def R_law : String := "GuardCellsLaw"
def lw_P (b : Addr) (xs : List Int32) (args : Array Value) (s : State) : Prop := args = #[.ref b] ∧ s.IntsAt b xs ∧ xs.length ≤ 3584 ∧ (Jvm.Cond.and given_1 narrow_1).before args s = true
def lw_Q (_ : Array Value) (s : State) (o : Outcome) (t : State) : Prop := o = .returned (some (.int 1)) ∧ Framed s o t [] 600000 7302250
def lw_Z (below : List Frame) (a : Array Value) (s : State) : State → Prop := fun t => ∃ o, t.status = .running ∧ Ended t below o ∧ lw_Q a s o t
/-- the law's own end, with 1 on the stack, nothing written that was there before, its room as the claim has it -/
theorem lw_ret {p : Program} {l : Launch} {e : Env} {s : State} {m : MethodId} {below : List Frame} {meth : Method} {c : Code} {b : Nat} (hx : p.tables.exec = Jvm.exec) (hb : c.code = code) (hr : meth.sig.returnType = ret) (hlocks : meth.locks = false) {pc : Nat} {H : Heap} {ls : Array Slot} (hdg : decode code pc = .ok (.ireturn, 1)) : W p l e room_1 s m #[Value.ref b] below meth c H [] 600000 7302250 (lw_Z below #[Value.ref b] s) (F0 m pc ls [.int 1]) := by
  intro T hT X
  obtain ⟨fs, hret, hrun, hended, hW, hframe⟩ := X.leave (v := some (.int 1)) (hlocks := hlocks) (fun h => by rw [hr] at h; cases h)
  have hmeth' : T.vm.method? m = some meth := X.method'
  refine ⟨T.setFrames fs, ?_, .returned (some (.int 1)), hrun, hended, rfl, ⟨_, rfl⟩, hW, hframe⟩
  jvm_step X.here [X.here.top, hx, hb, hdg, hmeth', hr, ret, narrow_b1]
  (try refine ⟨rfl, ?_⟩); (try refine ⟨rfl, ?_⟩)
  first | (intro acts; rw [hret _ acts rfl rfl rfl]) | rw [hret _ _ rfl rfl rfl]
  exact Steps.refl _
/-- what holds at the law's entry: the machine, the code, the tables' words (any of lw_tbl by 'hts w (by decide +kernel)'), the script of L ints xs at the cell b, what the Statement gives of the start (any of its parts by flat_of_before) -/
def lw_At (p : Program) (s : State) (m : MethodId) (meth : Method) (c : Code) (b L : Nat) (xs : Nat → Int32) : Prop :=
  p.tables.exec = Jvm.exec ∧ c.code = code ∧ meth.sig.returnType = ret ∧ c.maxLocals = 4 ∧ s.vm.findClass R_law = some m.cls ∧ (∀ w ∈ lw_tbl, w.before #[Value.ref b] s = true) ∧ va_X b L xs s s.heap ∧ b < s.heap.size ∧ meth.locks = false ∧ (Jvm.Cond.and given_1 narrow_1).before #[Value.ref b] s = true
/-! ===== the world, put together behind the constructors ===== -/
def adrOf (h0 : Nat) (aR bR aT aN aE aH : Nat → Nat) (tH : Nat → Nat → Nat) (aI : Nat → Nat) (tI : Nat → Nat → Nat) (aL aS aM : Nat → Nat) : Nat → Nat := fun k => match k with
  | 0 => h0
  | 1 => aR 0
  | 2 => aR 1
  | 3 => aR 2
  | 4 => bR 0
  | 5 => bR 1
  | 6 => bR 2
  | 7 => bR 3
  | 8 => bR 4
  | 9 => aT 0
  | 10 => aT 1
  | 11 => aT 2
  | 12 => aT 3
  | 13 => aT 4
  | 14 => aE 0
  | 15 => aE 1
  | 16 => aE 2
  | 17 => aH 0
  | 18 => aH 1
  | 19 => aI 0
  | 20 => aI 1
  | 21 => aI 2
  | 22 => aL 0
  | 23 => aL 1
  | 24 => aS 0
  | 25 => aS 1
  | 26 => aS 2
  | 27 => aM 0
  | 28 => aM 1
  | 29 => aM 2
  | 30 => aM 3
  | 31 => aM 4
  | 32 => aM 5
  | 33 => aM 6
  | 34 => aM 7
  | 35 => aM 8
  | 36 => aM 9
  | 37 => aM 10
  | 38 => aM 11
  | 39 => aM 12
  | 40 => aM 13
  | 41 => aM 14
  | k => if k < 59 then aN (k - 42) else if k < 161 then tH ((k - 59) / 17) ((k - 59) % 17) else tI ((k - 161) / 17) ((k - 161) % 17)
def tfOf (f g : Nat → Int32) (o : Nat) : Nat → Int32 := if o = 3 then f else if o = 4 then g else fun _ => 0
def tell0 : Nat → Int32 := (upd (upd (upd (upd (upd (upd (fun _ => 0) (0 : Int32).toNatClampNeg 0) (1 : Int32).toNatClampNeg 3) (2 : Int32).toNatClampNeg 2) (3 : Int32).toNatClampNeg 1) (4 : Int32).toNatClampNeg 10) (5 : Int32).toNatClampNeg 3)
def stOf (fN gN : Nat → Int32) (fH gH fI gI : Nat → Nat → Int32) : St := (fun k => if k = 8 then va_cpy tbFirst (fun _ => 0) 0 0 5 else if k = 13 then va_cpy tbFirst (fun _ => 0) 0 0 5 else if k = 35 then tell0 else if k < 42 then fun _ => 0 else if k < 59 then tfOf fN gN (k - 42) else if k < 161 then tfOf (fH ((k - 59) / 17)) (gH ((k - 59) / 17)) ((k - 59) % 17) else tfOf (fI ((k - 161) / 17)) (gI ((k - 161) / 17)) ((k - 161) % 17), fun _ _ => 0)
/-- what the world is at first -/
def Init (S : St) : Prop := (∀ k j, k < 42 → k ≠ 8 → k ≠ 13 → k ≠ 35 → S.1 k j = 0) ∧ (∀ j, j < 5 → S.1 8 j = tbFirst j ∧ S.1 13 j = tbFirst j) ∧ (S.1 35 0 = 0 ∧ S.1 35 1 = 3 ∧ S.1 35 2 = 2 ∧ S.1 35 3 = 1 ∧ S.1 35 4 = 10 ∧ S.1 35 5 = 3) ∧ (∀ b, TrB b → (∀ o j, o < 17 → o ≠ 3 → o ≠ 4 → S.1 (b + o) j = 0) ∧ ∀ j, j < 12 → S.1 (b + 3) j = -9 ∧ S.1 (b + 4) j = -9)
def posL : List Nat := [0, 1, 2, 8, 6, 3, 4, 5, 7, 12, 9, 10, 11, 13, 31, 32, 33, 34, 35, 138, 139, 140, 175, 176, 177, 178, 179, 180, 181, 182, 183, 184, 185, 186, 187, 188, 189, 190, 191, 192, 193, 194, 28, 14, 15, 29, 30, 16, 17, 18, 19, 20, 21, 22, 23, 24, 25, 26, 27, 50, 36, 37, 51, 52, 38, 39, 40, 41, 42, 43, 44, 45, 46, 47, 48, 49, 67, 53, 54, 68, 69, 55, 56, 57, 58, 59, 60, 61, 62, 63, 64, 65, 66, 84, 70, 71, 85, 86, 72, 73, 74, 75, 76, 77, 78, 79, 80, 81, 82, 83, 101, 87, 88, 102, 103, 89, 90, 91, 92, 93, 94, 95, 96, 97, 98, 99, 100, 118, 104, 105, 119, 120, 106, 107, 108, 109, 110, 111, 112, 113, 114, 115, 116, 117, 135, 121, 122, 136, 137, 123, 124, 125, 126, 127, 128, 129, 130, 131, 132, 133, 134, 155, 141, 142, 156, 157, 143, 144, 145, 146, 147, 148, 149, 150, 151, 152, 153, 154, 172, 158, 159, 173, 174, 160, 161, 162, 163, 164, 165, 166, 167, 168, 169, 170, 171]
def invL : List Nat := [0, 1, 2, 5, 6, 7, 4, 8, 3, 10, 11, 12, 9, 13, 43, 44, 47, 48, 49, 50, 51, 52, 53, 54, 55, 56, 57, 58, 42, 45, 46, 14, 15, 16, 17, 18, 60, 61, 64, 65, 66, 67, 68, 69, 70, 71, 72, 73, 74, 75, 59, 62, 63, 77, 78, 81, 82, 83, 84, 85, 86, 87, 88, 89, 90, 91, 92, 76, 79, 80, 94, 95, 98, 99, 100, 101, 102, 103, 104, 105, 106, 107, 108, 109, 93, 96, 97, 111, 112, 115, 116, 117, 118, 119, 120, 121, 122, 123, 124, 125, 126, 110, 113, 114, 128, 129, 132, 133, 134, 135, 136, 137, 138, 139, 140, 141, 142, 143, 127, 130, 131, 145, 146, 149, 150, 151, 152, 153, 154, 155, 156, 157, 158, 159, 160, 144, 147, 148, 19, 20, 21, 162, 163, 166, 167, 168, 169, 170, 171, 172, 173, 174, 175, 176, 177, 161, 164, 165, 179, 180, 183, 184, 185, 186, 187, 188, 189, 190, 191, 192, 193, 194, 178, 181, 182, 22, 23, 24, 25, 26, 27, 28, 29, 30, 31, 32, 33, 34, 35, 36, 37, 38, 39, 40, 41]
set_option maxRecDepth 10000 in
theorem pos_inv : ∀ k, k < 195 → invL.getD (posL.getD k 0) 0 = k := by decide +kernel
theorem ring6 (adr : Nat → Nat) : (va_up (va_up (va_up (va_up (va_up (va_up (fun _ => none) (0 : Int32).toNatClampNeg (some (adr 59))) (1 : Int32).toNatClampNeg (some (adr 76))) (2 : Int32).toNatClampNeg (some (adr 93))) (3 : Int32).toNatClampNeg (some (adr 110))) (4 : Int32).toNatClampNeg (some (adr 127))) (5 : Int32).toNatClampNeg (some (adr 144))) = (fun j => (([some 59, some 76, some 93, some 110, some 127, some 144] : List (Option Nat)).getD j none).map adr) := by
  funext j
  match j with
  | 0 => rfl
  | 1 => rfl
  | 2 => rfl
  | 3 => rfl
  | 4 => rfl
  | 5 => rfl
  | j + 6 => rfl
theorem ring2 (adr : Nat → Nat) : (va_up (va_up (fun _ => none) (0 : Int32).toNatClampNeg (some (adr 161))) (1 : Int32).toNatClampNeg (some (adr 178))) = (fun j => (([some 161, some 178] : List (Option Nat)).getD j none).map adr) := by
  funext j
  match j with
  | 0 => rfl
  | 1 => rfl
  | j + 2 => rfl
set_option maxHeartbeats 8000000 in
set_option maxRecDepth 20000 in
theorem asm_at (cy : Nat → ClassId) (h0 : Nat) (aR bR aT aN : Nat → Nat) (fN gN : Nat → Int32) (aE aH : Nat → Nat) (tH : Nat → Nat → Nat) (fH gH : Nat → Nat → Int32) (aI : Nat → Nat) (tI : Nat → Nat → Nat) (fI gI : Nat → Nat → Int32) (aL aS aM : Nat → Nat) : ∀ k, k < 195 → (blk8 cy h0 aR bR aT aN fN gN aE aH tH fH gH aI tI fI gI aL aS ++ blk9 cy aM)[posL.getD k 0]? = some ((adrOf h0 aR bR aT aN aE aH tH aI tI aL aS aM) k, cellOf cy (adrOf h0 aR bR aT aN aE aH tH aI tI aL aS aM) (stOf fN gN fH gH fI gI) k) := fun k hk => match k, hk with
  | 0, _ => rfl
  | 1, _ => rfl
  | 2, _ => rfl
  | 3, _ => rfl
  | 4, _ => rfl
  | 5, _ => rfl
  | 6, _ => rfl
  | 7, _ => rfl
  | 8, _ => rfl
  | 9, _ => rfl
  | 10, _ => rfl
  | 11, _ => rfl
  | 12, _ => rfl
  | 13, _ => rfl
  | 14, _ => rfl
  | 15, _ => rfl
  | 16, _ => rfl
  | 17, _ => rfl
  | 18, _ => (congrArg (fun f => some ((adrOf h0 aR bR aT aN aE aH tH aI tI aL aS aM) 18, (Sum.inl (cy 3, 6, .inr (.inr (.inr (.inr f)))) : va_E))) (ring6 (adrOf h0 aR bR aT aN aE aH tH aI tI aL aS aM)))
  | 19, _ => rfl
  | 20, _ => (congrArg (fun f => some ((adrOf h0 aR bR aT aN aE aH tH aI tI aL aS aM) 20, (Sum.inl (cy 3, 2, .inr (.inr (.inr (.inr f)))) : va_E))) (ring2 (adrOf h0 aR bR aT aN aE aH tH aI tI aL aS aM)))
  | 21, _ => rfl
  | 22, _ => rfl
  | 23, _ => rfl
  | 24, _ => rfl
  | 25, _ => rfl
  | 26, _ => rfl
  | 27, _ => rfl
  | 28, _ => rfl
  | 29, _ => rfl
  | 30, _ => rfl
  | 31, _ => rfl
  | 32, _ => rfl
  | 33, _ => rfl
  | 34, _ => rfl
  | 35, _ => rfl
  | 36, _ => rfl
  | 37, _ => rfl
  | 38, _ => rfl
  | 39, _ => rfl
  | 40, _ => rfl
  | 41, _ => rfl
  | 42, _ => rfl
  | 43, _ => rfl
  | 44, _ => rfl
  | 45, _ => rfl
  | 46, _ => rfl
  | 47, _ => rfl
  | 48, _ => rfl
  | 49, _ => rfl
  | 50, _ => rfl
  | 51, _ => rfl
  | 52, _ => rfl
  | 53, _ => rfl
  | 54, _ => rfl
  | 55, _ => rfl
  | 56, _ => rfl
  | 57, _ => rfl
  | 58, _ => rfl
  | 59, _ => rfl
  | 60, _ => rfl
  | 61, _ => rfl
  | 62, _ => rfl
  | 63, _ => rfl
  | 64, _ => rfl
  | 65, _ => rfl
  | 66, _ => rfl
  | 67, _ => rfl
  | 68, _ => rfl
  | 69, _ => rfl
  | 70, _ => rfl
  | 71, _ => rfl
  | 72, _ => rfl
  | 73, _ => rfl
  | 74, _ => rfl
  | 75, _ => rfl
  | 76, _ => rfl
  | 77, _ => rfl
  | 78, _ => rfl
  | 79, _ => rfl
  | 80, _ => rfl
  | 81, _ => rfl
  | 82, _ => rfl
  | 83, _ => rfl
  | 84, _ => rfl
  | 85, _ => rfl
  | 86, _ => rfl
  | 87, _ => rfl
  | 88, _ => rfl
  | 89, _ => rfl
  | 90, _ => rfl
  | 91, _ => rfl
  | 92, _ => rfl
  | 93, _ => rfl
  | 94, _ => rfl
  | 95, _ => rfl
  | 96, _ => rfl
  | 97, _ => rfl
  | 98, _ => rfl
  | 99, _ => rfl
  | 100, _ => rfl
  | 101, _ => rfl
  | 102, _ => rfl
  | 103, _ => rfl
  | 104, _ => rfl
  | 105, _ => rfl
  | 106, _ => rfl
  | 107, _ => rfl
  | 108, _ => rfl
  | 109, _ => rfl
  | 110, _ => rfl
  | 111, _ => rfl
  | 112, _ => rfl
  | 113, _ => rfl
  | 114, _ => rfl
  | 115, _ => rfl
  | 116, _ => rfl
  | 117, _ => rfl
  | 118, _ => rfl
  | 119, _ => rfl
  | 120, _ => rfl
  | 121, _ => rfl
  | 122, _ => rfl
  | 123, _ => rfl
  | 124, _ => rfl
  | 125, _ => rfl
  | 126, _ => rfl
  | 127, _ => rfl
  | 128, _ => rfl
  | 129, _ => rfl
  | 130, _ => rfl
  | 131, _ => rfl
  | 132, _ => rfl
  | 133, _ => rfl
  | 134, _ => rfl
  | 135, _ => rfl
  | 136, _ => rfl
  | 137, _ => rfl
  | 138, _ => rfl
  | 139, _ => rfl
  | 140, _ => rfl
  | 141, _ => rfl
  | 142, _ => rfl
  | 143, _ => rfl
  | 144, _ => rfl
  | 145, _ => rfl
  | 146, _ => rfl
  | 147, _ => rfl
  | 148, _ => rfl
  | 149, _ => rfl
  | 150, _ => rfl
  | 151, _ => rfl
  | 152, _ => rfl
  | 153, _ => rfl
  | 154, _ => rfl
  | 155, _ => rfl
  | 156, _ => rfl
  | 157, _ => rfl
  | 158, _ => rfl
  | 159, _ => rfl
  | 160, _ => rfl
  | 161, _ => rfl
  | 162, _ => rfl
  | 163, _ => rfl
  | 164, _ => rfl
  | 165, _ => rfl
  | 166, _ => rfl
  | 167, _ => rfl
  | 168, _ => rfl
  | 169, _ => rfl
  | 170, _ => rfl
  | 171, _ => rfl
  | 172, _ => rfl
  | 173, _ => rfl
  | 174, _ => rfl
  | 175, _ => rfl
  | 176, _ => rfl
  | 177, _ => rfl
  | 178, _ => rfl
  | 179, _ => rfl
  | 180, _ => rfl
  | 181, _ => rfl
  | 182, _ => rfl
  | 183, _ => rfl
  | 184, _ => rfl
  | 185, _ => rfl
  | 186, _ => rfl
  | 187, _ => rfl
  | 188, _ => rfl
  | 189, _ => rfl
  | 190, _ => rfl
  | 191, _ => rfl
  | 192, _ => rfl
  | 193, _ => rfl
  | 194, _ => rfl
  | k + 195, h => absurd h (by omega)
theorem asm_init {fN gN : Nat → Int32} {fH gH fI gI : Nat → Nat → Int32} (h1 : (∀ j, j < 12 → fN j = -9) ∧ (∀ j, j < 12 → gN j = -9)) (h2 : ∀ i, i < 6 → (∀ j, j < 12 → fH i j = -9) ∧ (∀ j, j < 12 → gH i j = -9)) (h3 : ∀ i, i < 2 → (∀ j, j < 12 → fI i j = -9) ∧ (∀ j, j < 12 → gI i j = -9)) : Init (stOf fN gN fH gH fI gI) := by
  refine ⟨fun k j hk h8 h13 h35 => ?_, fun j hj => ?_, ⟨rfl, rfl, rfl, rfl, rfl, rfl⟩, fun b hb => ?_⟩
  · simp only [stOf, if_neg h8, if_neg h13, if_neg h35, if_pos hk]
  · match j, hj with
    | 0, _ => exact ⟨rfl, rfl⟩
    | 1, _ => exact ⟨rfl, rfl⟩
    | 2, _ => exact ⟨rfl, rfl⟩
    | 3, _ => exact ⟨rfl, rfl⟩
    | 4, _ => exact ⟨rfl, rfl⟩
    | j + 5, h => exact absurd h (by omega)
  · obtain ⟨i, hi, rfl⟩ := hb
    have key : ∀ o, o < 17 → ∃ f g : Nat → Int32, (∀ j, j < 12 → f j = -9) ∧ (∀ j, j < 12 → g j = -9) ∧ (stOf fN gN fH gH fI gI).1 (42 + 17 * i + o) = tfOf f g o := by
      intro o ho
      by_cases c1 : i = 0
      · refine ⟨fN, gN, h1.1, h1.2, ?_⟩
        subst c1
        simp only [stOf]
        rw [if_neg (by omega), if_neg (by omega), if_neg (by omega), if_neg (by omega), if_pos (by omega)]
        congr 1
        omega
      · by_cases c2 : i < 7
        · refine ⟨fH (i - 1), gH (i - 1), (h2 (i - 1) (by omega)).1, (h2 (i - 1) (by omega)).2, ?_⟩
          simp only [stOf]
          rw [if_neg (by omega), if_neg (by omega), if_neg (by omega), if_neg (by omega), if_neg (by omega), if_pos (by omega)]
          rw [show (42 + 17 * i + o - 59) / 17 = i - 1 by omega, show (42 + 17 * i + o - 59) % 17 = o by omega]
        · refine ⟨fI (i - 7), gI (i - 7), (h3 (i - 7) (by omega)).1, (h3 (i - 7) (by omega)).2, ?_⟩
          simp only [stOf]
          rw [if_neg (by omega), if_neg (by omega), if_neg (by omega), if_neg (by omega), if_neg (by omega), if_neg (by omega)]
          rw [show (42 + 17 * i + o - 161) / 17 = i - 7 by omega, show (42 + 17 * i + o - 161) % 17 = o by omega]
    refine ⟨fun o j ho h3 h4 => ?_, fun j hj => ⟨?_, ?_⟩⟩
    · obtain ⟨f, g, -, -, e⟩ := key o ho
      rw [e]
      simp only [tfOf, if_neg h3, if_neg h4]
    · obtain ⟨f, g, hf, -, e⟩ := key 3 (by decide)
      rw [e]
      exact hf j hj
    · obtain ⟨f, g, -, hg, e⟩ := key 4 (by decide)
      rw [e]
      exact hg j hj
