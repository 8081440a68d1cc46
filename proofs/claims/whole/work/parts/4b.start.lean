/-! ===== the start ===== -/
theorem tb_at {f : Nat → Int32} {args : Array Value} {s : State} {n d : String} {ty : FieldType} {A : Nat → Prop} (hl : (Cond.laysStatic RX8 n d).before args s = true) (hini : (Cond.initialized RX8).before args s = true) (harr : (Cond.arrayOf (.static RX8 n d) ty).before args s = true) (hlen : (Cond.eq (.length (.static RX8 n d)) (.int 5)).before args s = true) (hel : ∀ j : Nat, j < 5 → (Cond.eq (.elem (.static RX8 n d) (.int (Int32.ofNat j))) (.int (f j))).before args s = true) (hA : ∀ a : Nat, a < s.heap.size → ¬ A a) : Sta n d ty f A s := by
  obtain ⟨t, ht, hT⟩ := va_Tof (N := 5) (f := fun j => .int (f j)) (A := A) (by decide) harr (va_eqt hlen) (fun j hj => va_eqt (hel j hj)) hA
  exact ⟨t, va_Zref hl hini ht hA, hT⟩
theorem nest_of {b : Addr} {s : State} (hts : ∀ w ∈ lw_tbl, w.before #[Value.ref b] s = true) : ∀ w ∈ lw_nest, va_Nw w s := by
  intro w hw
  have h1 := hts w (List.mem_filter.mp hw).1
  have hn := (List.mem_filter.mp hw).2
  cases w <;> first | (simp [isNest] at hn; done) | exact va_Nw.of rfl h1
theorem arr_of {ty : FieldType} {args : Array Value} {s : State} (h : (Cond.arrayClass ty).before args s = true) : ∃ cA : ClassId, ArrOfT s cA ty ∧ s.vm.findClass ("[" ++ ty.toString) = some cA := by
  obtain ⟨c, k, comp, h1, h2, h3⟩ := Cond.arrayClass_spec h
  exact ⟨c, fun n z => ⟨fun k h => (by cases h), k, h2, comp, h3⟩, h1⟩
set_option maxHeartbeats 8000000 in
set_option maxRecDepth 20000 in
theorem start_of {p : Program} {e : Env} {s : State} {m : MethodId} {below : List Frame} {meth : Method} {c : Code} (l : Launch) {b L : Nat} {xs : Nat → Int32} (hpure : ∀ S, Init S → f_L_18 L xs FU 0 S = some ()) (C0 : lw_At p s m meth c b L xs) : W p l e room_1 s m #[Value.ref b] below meth c s.heap [] 0 0 (lw_Z below #[Value.ref b] s) (entryFrame m ([Value.ref b] : List Value).toArray 4) := by
  obtain ⟨hx, hb, hr, hml, hown, hts, hX, hbl, hlocks, hgv⟩ := C0
  have htg : ∀ w ∈ lw_good, w.before #[Value.ref b] s = true := fun w hw => hts w (List.mem_filter.mp hw).1
  have hnw := nest_of hts
  have hs := flat_of_before _ hgv
  have hA0 : ∀ a : Nat, a < s.heap.size → ¬ (fun q : Nat => s.heap.size ≤ q) a := fun a h => Nat.not_le.mpr h
  have hA : ∀ q : Nat, s.heap.size ≤ q → (fun q : Nat => s.heap.size ≤ q) q := fun _ h => h
  have hSt : Stt (fun q : Nat => s.heap.size ≤ q) s := ⟨tb_at (hts _ (List.mem_of_getElem? (i := 461) (by decide +kernel))) (htg _ ki_X8) (hs _ (by decide +kernel)) (hs _ (by decide +kernel)) (fun j hj => match j, hj with | 0, _ => hs _ (by decide +kernel) | 1, _ => hs _ (by decide +kernel) | 2, _ => hs _ (by decide +kernel) | 3, _ => hs _ (by decide +kernel) | 4, _ => hs _ (by decide +kernel) | j + 5, h => absurd h (by omega)) hA0,
    tb_at (hts _ (List.mem_of_getElem? (i := 484) (by decide +kernel))) (htg _ ki_X8) (hs _ (by decide +kernel)) (hs _ (by decide +kernel)) (fun j hj => match j, hj with | 0, _ => hs _ (by decide +kernel) | 1, _ => hs _ (by decide +kernel) | 2, _ => hs _ (by decide +kernel) | 3, _ => hs _ (by decide +kernel) | 4, _ => hs _ (by decide +kernel) | j + 5, h => absurd h (by omega)) hA0,
    tb_at (hts _ (List.mem_of_getElem? (i := 486) (by decide +kernel))) (htg _ ki_X8) (hs _ (by decide +kernel)) (hs _ (by decide +kernel)) (fun j hj => match j, hj with | 0, _ => hs _ (by decide +kernel) | 1, _ => hs _ (by decide +kernel) | 2, _ => hs _ (by decide +kernel) | 3, _ => hs _ (by decide +kernel) | 4, _ => hs _ (by decide +kernel) | j + 5, h => absurd h (by omega)) hA0,
    tb_at (hts _ (List.mem_of_getElem? (i := 134) (by decide +kernel))) (htg _ ki_X8) (hs _ (by decide +kernel)) (hs _ (by decide +kernel)) (fun j hj => match j, hj with | 0, _ => hs _ (by decide +kernel) | 1, _ => hs _ (by decide +kernel) | 2, _ => hs _ (by decide +kernel) | 3, _ => hs _ (by decide +kernel) | 4, _ => hs _ (by decide +kernel) | j + 5, h => absurd h (by omega)) hA0⟩
  have hAO : va_AO TrN s := va_AO.of (hts _ (List.mem_of_getElem? (i := 327) (by decide +kernel)))
  obtain ⟨c0, iS0, hKn0⟩ := u_known (C := RX0) (T := TX0) (N := 5) (n := 5) htg in_X0 (htg _ kn_X0)
  obtain ⟨c1, iS1, hKn1⟩ := u_known (C := RX1) (T := TX1) (N := 3) (n := 3) htg in_X1 (htg _ kn_X1)
  obtain ⟨c2, iS2, hKn2⟩ := u_known (C := RX2) (T := TX2) (N := 2) (n := 2) htg in_X2 (htg _ kn_X2)
  obtain ⟨c3, iS3, hKn3⟩ := u_known (C := RX3) (T := TX3) (N := 3) (n := 3) htg in_X3 (htg _ kn_X3)
  obtain ⟨c4, iS4, hKn4⟩ := u_known (C := RX4) (T := TX4) (N := 8) (n := 8) htg in_X4 (htg _ kn_X4)
  obtain ⟨c5, iS5, hKn5⟩ := u_known (C := RX5) (T := TX5) (N := 3) (n := 3) htg in_X5 (htg _ kn_X5)
  obtain ⟨c6, iS6, hKn6⟩ := u_known (C := RX6) (T := TX6) (N := 5) (n := 5) htg in_X6 (htg _ kn_X6)
  obtain ⟨c7, iS7, hKn7⟩ := u_known (C := RX7) (T := TX7) (N := 19) (n := 19) htg in_X7 (htg _ kn_X7)
  obtain ⟨c8, iS8, hKn8⟩ := u_known (C := RX8) (T := TX8) (N := 8) (n := 8) htg in_X8 (htg _ kn_X8)
  obtain ⟨c9, iS9, hKn9⟩ := u_known (C := RX9) (T := TX9) (N := 28) (n := 28) htg in_X9 (htg _ kn_X9)
  obtain ⟨dC, dI, hKc⟩ : ∃ (dC : Nat → ClassId) (dI : Nat → Nat → Nat), ∀ (k : Nat) (q : vw_C), vwCl[k]? = some q → u_Kn s q.1 q.2.1 q.2.2 (dC k) (dI k) := by
    refine ⟨fun k => if k = 0 then c0 else if k = 1 then c1 else if k = 2 then c2 else if k = 3 then c3 else if k = 4 then c4 else if k = 5 then c5 else if k = 6 then c6 else if k = 7 then c7 else if k = 8 then c8 else c9, fun k => if k = 0 then iS0 else if k = 1 then iS1 else if k = 2 then iS2 else if k = 3 then iS3 else if k = 4 then iS4 else if k = 5 then iS5 else if k = 6 then iS6 else if k = 7 then iS7 else if k = 8 then iS8 else iS9, ?_⟩
    intro k q hq
    match k, hq with
    | 0, hq => cases hq; exact hKn0
    | 1, hq => cases hq; exact hKn1
    | 2, hq => cases hq; exact hKn2
    | 3, hq => cases hq; exact hKn3
    | 4, hq => cases hq; exact hKn4
    | 5, hq => cases hq; exact hKn5
    | 6, hq => cases hq; exact hKn6
    | 7, hq => cases hq; exact hKn7
    | 8, hq => cases hq; exact hKn8
    | 9, hq => cases hq; exact hKn9
    | k + 10, hq => simp [vwCl] at hq
  obtain ⟨y0, a0, n0⟩ := arr_of (htg _ ka_int)
  obtain ⟨y1, a1, n1⟩ := arr_of (htg _ ka_long)
  obtain ⟨y2, a2, n2⟩ := arr_of (htg _ ka_boolean)
  obtain ⟨comp, y3, k3, f1, f2, f3, f4, f5⟩ := Cond.arrayOver_spec (va_AO.use (A := #[Value.ref b]) hAO)
  obtain ⟨cy, e0, e1, e2, e3⟩ : ∃ cy : Nat → ClassId, cy 0 = y0 ∧ cy 1 = y1 ∧ cy 2 = y2 ∧ cy 3 = y3 := ⟨fun k => if k = 0 then y0 else if k = 1 then y1 else if k = 2 then y2 else y3, rfl, rfl, rfl, rfl⟩
  subst e0; subst e1; subst e2; subst e3
  have hK : va_K (dC, dI) vwCl (tysOf cy) s := ⟨hKc, fun k q h => by
    match k, h with
    | 0, h => cases h; exact ⟨a0, n0⟩
    | 1, h => cases h; exact ⟨a1, n1⟩
    | 2, h => cases h; exact ⟨a2, n2⟩
    | 3, h => cases h; exact ⟨fun N z => ⟨(fun k h => by cases h), k3, f3, comp, f4⟩, k3, comp, f3, f4, f1, f5⟩
    | k + 4, h => simp [tysOf] at h⟩
  rw [lg_entry_eq]
  have hl0 : lv_has ((lg_sl ([.ref b]) ++ List.replicate (4 - (lg_sl ([.ref b])).length) Slot.unset).toArray) 4 [(0, .ref b)] := lv_entry ([.ref b]) (n := 4) (Nat.le_of_ble_eq_true rfl)
  have hP0 : va_P (dC, dI) vwCl [] s.heap := fun k q h => by simp at h
  have hD0 : va_D (fun q : Nat => s.heap.size ≤ q) [] := ⟨fun i j p q h => by simp at h, fun k q h => by simp at h⟩
  have C : Cc (Gc p l e room_1 s m #[Value.ref b] below meth c 4 (dC, dI) (fun q : Nat => s.heap.size ≤ q) (lw_Z below #[Value.ref b] s)) code RL 4 room_1 cy meth.name := ⟨p, l, e, s, m, #[Value.ref b], below, meth, c, (dC, dI), _, _, rfl, hx, hb, hml, hown, htg, hnw, hK, hA, hSt, hAO, rfl⟩
  refine (?_ : Gc p l e room_1 s m #[Value.ref b] below meth c 4 (dC, dI) (fun q : Nat => s.heap.size ≤ q) (lw_Z below #[Value.ref b] s) 0 [(0, .ref b)] [] [] 0 0) s.heap [] _ hP0 hD0 va_S.rf hl0
  refine c_new C dL_law_0 kl_L_7 kn_X8 ki_X8 in_X8 tyX8 tyX8_ok (ci := 8) rfl dv_X8 ⟨Nat.le_of_ble_eq_true rfl, Nat.le_of_ble_eq_true rfl⟩ (fun h0 => ?_)
  refine c_dup C dL_law_3 rfl ?_
  refine c_callL C (cN := 1) (sN := 8) (ws := []) (As := []) (st := [.ref h0]) dL_law_4 lk_L_9 mw_X8_init (ct_X8 cy h0) ⟨rfl, rfl, Nat.le_of_ble_eq_true rfl, Nat.le_of_ble_eq_true rfl⟩ rfl rfl (Nat.le_of_ble_eq_true rfl) ⟨Nat.le_of_ble_eq_true rfl, Nat.le_of_ble_eq_true rfl⟩ (fun w hw => ?_)
  obtain ⟨aR, bR, aT, aN, fN, gN, aE, aH, tH, fH, gH, aI, tI, fI, gI, aL, aS, hi1, hi2, hi3, rfl⟩ := hw
  refine c_astore_n C dL_law_7 (x := h0) rfl (by decide) rfl ?_
  refine c_new C dL_law_8 kl_L_10 kn_X9 ki_X9 in_X9 tyX9 tyX9_ok (ci := 9) rfl dv_X9 ⟨Nat.le_of_ble_eq_true rfl, Nat.le_of_ble_eq_true rfl⟩ (fun m0 => ?_)
  refine c_dup C dL_law_11 rfl ?_
  refine c_callL C (cN := 181) (sN := 2858) (ws := [] ++ blk8 cy h0 aR bR aT aN fN gN aE aH tH fH gH aI tI fI gI aL aS) (As := []) (st := [.ref m0]) dL_law_12 lk_L_12 mw_X9_init (ct_X9 cy m0) ⟨rfl, rfl, Nat.le_of_ble_eq_true rfl, Nat.le_of_ble_eq_true rfl⟩ rfl rfl (Nat.le_of_ble_eq_true rfl) ⟨Nat.le_of_ble_eq_true rfl, Nat.le_of_ble_eq_true rfl⟩ (fun w hw => ?_)
  obtain ⟨aM, rfl, rfl⟩ := hw
  refine c_astore_n C dL_law_15 (x := aM 0) rfl (by decide) rfl ?_
  refine c_iconst C dL_law_16 (v := 0) rfl ?_
  refine c_istore_n C dL_law_17 rfl (by decide) rfl ?_
  refine c_sub C [3, 2, 1, 0] rfl ?_
  intro H locs ls hP hD hS hl
  have hat := asm_at cy h0 aR bR aT aN fN gN aE aH tH fH gH aI tI fI gI aL aS aM
  generalize hws : ([] ++ blk8 cy h0 aR bR aT aN fN gN aE aH tH fH gH aI tI fI gI aL aS ++ blk9 cy aM) = ws at hP hD
  have hws' : (blk8 cy h0 aR bR aT aN fN gN aE aH tH fH gH aI tI fI gI aL aS ++ blk9 cy aM) = ws := hws
  rw [hws'] at hat
  have e1 : (adrOf h0 aR bR aT aN aE aH tH aI tI aL aS aM) 0 = h0 := rfl
  have e2 : (adrOf h0 aR bR aT aN aE aH tH aI tI aL aS aM) 27 = aM 0 := rfl
  have hl : lv_has ls 4 [(0, .ref b), (1, .ref ((adrOf h0 aR bR aT aN aE aH tH aI tI aL aS aM) 0)), (2, .ref ((adrOf h0 aR bR aT aN aE aH tH aI tI aL aS aM) 27)), (3, .int 0)] := hl
  have hInit := asm_init hi1 hi2 hi3
  generalize (adrOf h0 aR bR aT aN aE aH tH aI tI aL aS aM) = adr at hat hl
  generalize (stOf fN gN fH gH fI gI) = S at hat hInit
  have hP2 : va_P (dC, dI) vwCl (wsOf cy adr S) H := by
    intro k q hq
    obtain ⟨hk, -⟩ := wsOf_at hq
    rw [wsOf_get hk] at hq
    cases hq
    exact hP _ _ (hat k hk)
  have hI : ∀ i j, i < NC → j < NC → adr i = adr j → i = j := by
    intro i j hi hj hij
    have h1 := hD.1 _ _ _ _ (hat i hi) (hat j hj) hij
    rw [← pos_inv i hi, ← pos_inv j hj, h1]
  have hAd : ∀ k, k < NC → s.heap.size ≤ adr k := fun k hk => hD.2 _ _ (hat k hk)
  have hbA : ¬ (fun q : Nat => s.heap.size ≤ q) b := Nat.not_le.mpr hbl
  refine b_L_18 (K := Gd p l e room_1 s m #[Value.ref b] below meth c 4 (dC, dI) cy adr (fun q : Nat => s.heap.size ≤ q) 195 5834 (lw_Z below #[Value.ref b] s)) (r := ()) ⟨p, l, e, s, m, #[Value.ref b], below, meth, c, (dC, dI), cy, _, 195, 5834, _, rfl, hx, hb, hml, hown, htg, hnw, hK, hI, hAd, hSt, Nat.le_of_ble_eq_true rfl, Nat.le_of_ble_eq_true rfl⟩ ?_ L xs b ?_ FU 0 S (hpure S hInit) H locs ls hP2 hS hl
  · intro pc lv S d H locs ls hP hS hl
    refine va_forget (fun q hq => hS.2.2 q hq) ?_
    refine W.widen (k := 600000) (n := 7302250) (Nat.le_of_ble_eq_true rfl) (Nat.le_of_ble_eq_true rfl) ?_
    exact lw_ret hx hb hr hlocks d
  · refine ⟨fun pc lv st S d h H locs ls hP hS hl => ?_, fun pc lv st S i d hin h H locs ls hP hS hl => ?_⟩
    · exact va_slen hx hb hX hbl hbA hS d (h H locs ls hP hS hl)
    · exact va_sld hx hb hX hbl hbA hS hin d (h H locs ls hP hS hl)
