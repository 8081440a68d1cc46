/-! ===== Told.begin: a static row is copied into a row of the world ===== -/
section CPT
variable {p : Program} {l : Launch} {e : Env} {R : Room} {s : State} {m : MethodId} {args : Array Value} {below : List Frame} {meth : Method} {c : Code} {H : Heap} {locs : List Loc} {cells slots : Nat} {Q : State → Prop}
variable {cc : ByteArray} {pc : Nat} {ls : Array Slot} {rest : List Value} {D : va_G} {cl : List vw_C} {A : Nat → Prop} {a : Nat} {tys : List (ClassId × FieldType)} {ws : va_W}
theorem w_copyT (hexec : p.tables.exec = Jvm.exec) (hb : c.code = cc) (hml : c.maxLocals = ls.size) {own : String} {index : Nat} (hown : s.vm.findClass own = some m.cls) (hlink : (Cond.methodLink own index arraycopyName).before args s = true) (hnat : (Cond.native arraycopyName).before args s = true) (hstat : (Cond.static arraycopyName).before args s = true) (hini : (Cond.initialized "java/lang/System").before args s = true)
    (hK : va_K D cl tys s) (hP : va_P D cl ws H) (hD : va_D A ws) (hS : va_S A s.heap H locs) (q1 t1 : Nat) {t : Nat} {c1 : ClassId} {f g : Nat → Int32} (hT0 : va_T .int t 5 (fun j => .int (f j)) A s s.heap) (ha1 : ws[q1]? = some (a, .inl (c1, 5, .inl g))) (ht1 : tys[t1]? = some (c1, .int))
    (hframes : 1 ≤ R.frames) (hlocals : (rest.map fun v => v.category).sum + (nativeFrameWords "java/lang/System" "arraycopy" 5 + 11) ≤ R.locals) (hdg : decode cc pc = .ok (.invokestatic index, 3))
    (kk : ∀ (H1 : Heap) (locs1 : List Loc), va_P D cl (ws.set q1 (a, .inl (c1, 5, .inl (va_cpy f g 0 0 5)))) H1 → va_D A (ws.set q1 (a, .inl (c1, 5, .inl (va_cpy f g 0 0 5)))) → va_S A s.heap H1 locs1 → W p l e R s m args below meth c H1 locs1 cells slots Q (F0 m (pc + 3) ls rest)) : W p l e R s m args below meth c H locs cells slots Q (F0 m pc ls (.int 5 :: .int 0 :: .ref a :: .int 0 :: .ref t :: rest)) := by
  intro T hT X
  obtain ⟨cell, z1, z2, z3, z4, z5, z6, z7⟩ := hT0
  have hc0 : H[t]? = some cell := by rw [hS.2.1 t (Array.getElem?_eq_some_iff.mp z1).1 z7]; exact z1
  have hc1 : H[a]? = some (vp_cell c1 (5, .inl g)) := hP q1 _ ha1
  obtain ⟨z20, k0, hk0, cm0, hkk0⟩ := z2
  obtain ⟨-, k1, hk1, cm1, hkk1⟩ := (hK.2 t1 _ ht1).1 5 (fun j => .int (g j))
  have hget : ∀ i, i < 5 → cell.slots.getD i .null = .int (f i) := fun i hi => by
    rw [Array.getD_eq_getD_getElem?, z6 i hi]
    rfl
  obtain ⟨vm', X', step⟩ := X.arraycopy hexec hown hlink hnat hstat hini (src := t) (dst := a) (cs := cell) (cd := vp_cell c1 (5, .inl g)) (srcPos := 0) (destPos := 0) (n := 5) (by rw [hT]; exact hc0) (by rw [hT]; exact hc1)
    z20 (fun _ h => by cases h) z3 (fun h => by cases h) hk0 hk1 hkk0 hkk1 rfl (by decide) (by decide) (by decide)
    (by show ¬ (0 : Int) + 5 > (cell.slots.size : Int); omega)
    (by show ¬ (0 : Int) + 5 > ((arrV c1 5 (fun j => .int (g j))).slots.size : Int); rw [arrV_size]; omega)
    (fun vm₁ _ i hi => by
      have hi' : i < 5 := hi
      have e : cell.slots.getD ((0 : Int32).toNatClampNeg + i) .null = .int (f i) := by
        show cell.slots.getD (0 + i) .null = _
        rw [Nat.zero_add]
        exact hget i hi'
      refine ⟨?_, ?_⟩
      · rw [e]
        rfl
      · rw [e]
        exact trivial)
    (g := F0 m pc ls (.int 5 :: .int 0 :: .ref a :: .int 0 :: .ref t :: rest)) rfl (by rw [hml]) (rest := rest) rfl (by rw [hb]; exact hdg) hframes (by show 2 * 0 + _ + _ ≤ _; omega)
  have est : cell.stretch 0 5 = (arrV c1 5 (fun j => .int (f j))).stretch 0 5 := by
    unfold Cell.stretch
    apply List.map_congr_left
    intro i hi
    have hi' := List.mem_range.mp hi
    rw [Nat.zero_add, hget i hi', Array.getD_eq_getD_getElem?, arrV_read _ _ hi']
    rfl
  have e1 : copied cell (vp_cell c1 (5, .inl g)) 0 0 5 = vp_cell c1 (5, .inl (va_cpy f g 0 0 5)) := by
    have e2 : copied (arrV c1 5 (fun j => .int (f j))) (arrV c1 5 (fun j => .int (g j))) 0 0 5 = arrV c1 5 (fun j => .int (va_cpy f g 0 0 5 j)) := va_copied (fun z => .int z) c1 c1 f g (by decide)
    have e3 : copied cell (vp_cell c1 (5, .inl g)) 0 0 5 = copied (arrV c1 5 (fun j => .int (f j))) (arrV c1 5 (fun j => .int (g j))) 0 0 5 := by
      show (arrV c1 5 (fun j => .int (g j))).storeRun 0 (cell.stretch 0 5) = (arrV c1 5 (fun j => .int (g j))).storeRun 0 ((arrV c1 5 (fun j => .int (f j))).stretch 0 5)
      rw [est]
    rw [e3, e2]
    rfl
  rw [e1] at X' step
  have hl : a < H.size := (Array.getElem?_eq_some_iff.mp hc1).1
  have hheap : ((T.setVm vm').setCell a (vp_cell c1 (5, .inl (va_cpy f g 0 0 5)))).heap = H.setIfInBounds a (vp_cell c1 (5, .inl (va_cpy f g 0 0 5))) := by rw [← hT]; rfl
  have oq : ∀ q : Nat, q ≠ a → (H.setIfInBounds a (vp_cell c1 (5, .inl (va_cpy f g 0 0 5))))[q]? = H[q]? := fun q hq => by simp [Array.getElem?_setIfInBounds, Ne.symm hq]
  obtain ⟨t2, a1, b1⟩ := kk _ _ (hP.set hD ha1 (show (H.setIfInBounds a _)[a]? = some _ by simp [Array.getElem?_setIfInBounds, hl]) oq) (hD.set ha1) ⟨by simp; exact hS.1, fun q g1 g2 => by
      rw [oq q (fun e => g2 (by rw [e]; exact hD.2 q1 _ ha1))]
      exact hS.2.1 q g1 g2, fun q hq => by
      rcases List.mem_append.mp hq with h | h
      · exact hS.2.2 q h
      · obtain ⟨z, -, hz⟩ := List.mem_map.mp h
        rw [← hz]
        exact hD.2 q1 _ ha1⟩ _ hheap X'
  exact ⟨t2, step t2 a1, b1⟩
end CPT
/-- the copy of SETTING_FIRST, at whatever address it lies -/
def CpF (K : Kt) (cc : ByteArray) (own : String) (adr : Nat → Nat) (R : Room) (t : Nat) : Prop := ∀ (idx pc k' : Nat) (lv : List (Nat × Value)) (S : St), decode cc pc = .ok (.invokestatic idx, 3) → kd k' = (10, 5, []) → k' < NC → Cond.methodLink own idx arraycopyName ∈ lw_good → 1 ≤ R.frames → 18 ≤ R.locals → K (pc + 3) lv [] (rwI S k' (va_cpy tbFirst (S.1 k') 0 0 5)) → K pc lv [.int 5, .int 0, .ref (adr k'), .int 0, .ref t] S
theorem j_stFirst {ρ : Type} {K : Kt} {cc : ByteArray} {own : String} {nL : Nat} {adr : Nat → Nat} {R : Room} {r : ρ} {X : Option ρ} {pc : Nat} {lv : List (Nat × Value)} {st : List Value} {S : St} (C : Cx K cc own nL adr R) {idx : Nat} (d : decode cc pc = .ok (.getstatic idx, 3)) (hlk : Cond.fieldLinkNest own idx RX8 "SETTING_FIRST" "[I" RX8 ∈ lw_nest) (h : ∀ t, CpF K cc own adr R t → J K r X (pc + 3) lv (.ref t :: st) S) : J K r X pc lv st S := by
  obtain ⟨p, l, e, s, m, args, below, meth, c, D, cy, A, cN, sN, Q, rfl, hx, hb, hml, hown, hts, hnw, hK, hI, hA, hSt, hcN, hsN⟩ := C
  intro hX H locs ls hP hS hl
  obtain ⟨t, hZ, hT⟩ := hSt.2.2.2
  refine va_getsN hx hb hZ hS hown (va_Nw.use rfl (hnw _ hlk)) (fun _ z => z) d ?_
  refine h t ?_ hX H locs ls hP hS hl
  intro idx pc k' lv S d hk' hkN' hlk h1 h2 hG H locs ls hP hS hl
  refine w_copyT hx hb (by rw [hml]; exact hl.1.symm) hown (hts _ hlk) (hts _ ms_cp_0) (hts _ ms_cp_1) (hts _ ms_cp_2) hK hP (wsOf_D hI hA) hS k' 0 hT (by rw [wsOf_get hkN', cellOf_int hk']) rfl h1 (by simpa [nativeFrameWords] using h2) d (fun H1 locs1 hP1 _ hS1 => hG H1 locs1 ls ?_ hS1 hl)
  rw [wsOf_set (S' := rwI S k' (va_cpy tbFirst (S.1 k') 0 0 5)) hkN' (by rw [cellOf_int hk']; simp [rwI]) (fun k' hk' => cellOf_neI hk')] at hP1
  exact hP1
abbrev rm_X6_begin_4 : Room := { frames := 1, cells := 0, slots := 0, locals := 18 }
def f_X6_begin_4 (S : St) : Option St := lt (upI S 4 0 0) fun S1 => lt (rwI S1 8 (va_cpy tbFirst (S1.1 8) 0 0 5)) fun S2 => some S2
theorem m_X6_begin_4 (adr : Nat → Nat) : MtV yX6_begin cX6_begin 1 none rm_X6_begin_4 adr [.ref (adr 4)] (f_X6_begin_4) := by
  refine MtV.of (by decide +kernel) (Nat.le_of_ble_eq_true rfl) (fun K r S C hR => ?_)
  refine j_start (lv' := [(0, .ref (adr 4))]) rfl ?_
  unfold f_X6_begin_4
  refine j_aload_n C dX6_begin_0 0 rfl rfl ?_
  refine j_iconst C dX6_begin_1 (v := 0) rfl ?_
  refine j_puti C dX6_begin_2 fl_X6_27 fi_X6_0 kd_4 (by decide) (Nat.le_of_ble_eq_true rfl) rfl (fun S1 => ?_)
  refine j_stFirst C dX6_begin_5 fs_X6_31 (fun t ht => ?_)
  refine j_iconst C dX6_begin_8 (v := 0) rfl ?_
  refine j_aload_n C dX6_begin_9 0 rfl rfl ?_
  refine j_getr C dX6_begin_10 fl_X6_21 kd_4 (by decide) (Nat.le_of_ble_eq_true rfl) rfl ?_
  refine j_iconst C dX6_begin_13 (v := 0) rfl ?_
  refine j_iconst C dX6_begin_14 (v := 5) rfl ?_
  intro hX
  exact ht _ _ 8 _ S1 dX6_begin_15 kd_8 (by decide) lm_X6_34 (by decide) (by decide) (j_vret (S := rwI S1 8 (va_cpy tbFirst (S1.1 8) 0 0 5)) hR dX6_begin_18 hX)
