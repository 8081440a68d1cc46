abbrev rc_fill : Room := { frames := 0, cells := 0, slots := 0, locals := 0 }
def PoFill (cy : Nat → ClassId) (a n : Nat) (v : Int32) (w : va_W) : Prop := ∃ g : Nat → Int32, (∀ j, j < n → g j = v) ∧ w = [(a, .inl (cy 0, n, .inl g))]
theorem ct_fill_loop {K : Kc} {cy : Nat → ClassId} {a n : Nat} {v : Int32} (hn : n < 2 ^ 31) (C : Cc K cJ7_fill_53178 RJ7 4 rc_fill cy "fill") (hR : ∀ (pc : Nat) (lv : List (Nat × Value)) (w : va_W), decode cJ7_fill_53178 pc = .ok (.return_, 1) → PoFill cy a n v w → K pc lv [] w 0 0) : ∀ (m i : Nat) (f : Nat → Int32), i + m = n → (∀ j, j < i → f j = v) → K 5 [(0, .ref a), (1, .int v), (2, .int (nI i)), (3, .int (nI n))] [] [(a, .inl (cy 0, n, .inl f))] 0 0 := by
  intro m
  induction m with
  | zero =>
    intro i f hi hf
    refine c_iload_n C dJ7_fill_53178_5 2 rfl rfl ?_
    refine c_iload_n C dJ7_fill_53178_6 3 rfl rfl ?_
    refine c_ge C dJ7_fill_53178_7 (tgt := 20) (by decide) (fun _ => ?_) (fun h => ?_)
    · exact hR _ _ _ dJ7_fill_53178_20 ⟨f, fun j hj => hf j (by omega), rfl⟩
    · exact absurd (nI_le (by omega) (by omega)) h
  | succ m ih =>
    intro i f hi hf
    refine c_iload_n C dJ7_fill_53178_5 2 rfl rfl ?_
    refine c_iload_n C dJ7_fill_53178_6 3 rfl rfl ?_
    refine c_ge C dJ7_fill_53178_7 (tgt := 20) (by decide) (fun h => ?_) (fun _ => ?_)
    · exact absurd h (nI_ge (by omega) hn)
    · refine c_aload_n C dJ7_fill_53178_10 0 rfl rfl ?_
      refine c_iload_n C dJ7_fill_53178_11 2 rfl rfl ?_
      refine c_iload_n C dJ7_fill_53178_12 1 rfl rfl ?_
      refine c_iast C dJ7_fill_53178_13 0 rfl (vp_in_nI (by omega) hn) rfl ?_
      refine c_iinc C dJ7_fill_53178_14 (v := nI (i + 1)) 2 rfl (nI_1 i) (by decide) rfl ?_
      refine c_goto C dJ7_fill_53178_17 (tgt := 5) (by decide) ?_
      refine c_sub C [1, 2, 0, 3] rfl ?_
      refine ih (i + 1) _ (by omega) (fun j hj => ?_)
      rw [nI_clamp (by omega)]
      by_cases hji : j = i
      · subst hji
        simp [upd]
      · simp only [upd, if_neg hji]
        exact hf j (by omega)
theorem ct_fill (cy : Nat → ClassId) (a n : Nat) (hn : n < 2 ^ 31) (v : Int32) (f : Nat → Int32) : Ct yJ7_fill_53178 cJ7_fill_53178 4 rc_fill [.ref a, .int v] cy [(a, .inl (cy 0, n, .inl f))] (PoFill cy a n v) 0 0 := by
  refine Ct.of (by decide +kernel) (Nat.le_of_ble_eq_true rfl) (fun K C hR => ?_)
  show K 0 [(0, .ref a), (1, .int v)] [] _ 0 0
  refine c_iconst C dJ7_fill_53178_0 (v := 0) rfl ?_
  refine c_istore_n C dJ7_fill_53178_1 rfl (by decide) rfl ?_
  refine c_aload_n C dJ7_fill_53178_2 1 rfl rfl ?_
  refine c_alen C dJ7_fill_53178_3 0 rfl (v := nI n) rfl ?_
  refine c_istore_n C dJ7_fill_53178_4 rfl (by decide) rfl ?_
  refine c_sub C [2, 3, 1, 0] rfl ?_
  exact ct_fill_loop hn C hR n 0 f (by omega) (fun j hj => absurd hj (by omega))
abbrev rc_clear : Room := { frames := 1, cells := 0, slots := 0, locals := 23 }
def PoClear (cy : Nat → ClassId) (h0 a3 a4 : Nat) (fs : List Value) (w : va_W) : Prop := ∃ f g : Nat → Int32, (∀ j, j < 12 → f j = -9) ∧ (∀ j, j < 12 → g j = -9) ∧ w = [(h0, .inr (7, fs)), (a3, .inl (cy 0, 12, .inl f)), (a4, .inl (cy 0, 12, .inl g))]
theorem ct_clear (cy : Nat → ClassId) (h0 a3 a4 : Nat) (fs : List Value) (f g : Nat → Int32) (h4 : fs[4]? = some (.ref a3)) (h5 : fs[5]? = some (.ref a4)) : Ct yX7_clearCalls cX7_clearCalls 1 rc_clear [.ref h0] cy [(h0, .inr (7, fs)), (a3, .inl (cy 0, 12, .inl f)), (a4, .inl (cy 0, 12, .inl g))] (PoClear cy h0 a3 a4 fs) 0 0 := by
  refine Ct.of (by decide +kernel) (Nat.le_of_ble_eq_true rfl) (fun K C hR => ?_)
  show K 0 [(0, .ref h0)] [] _ 0 0
  refine c_aload_n C dX7_clearCalls_0 0 rfl rfl ?_
  refine c_get C dX7_clearCalls_1 fl_X7_18 0 rfl h4 ?_
  refine c_bipush C dX7_clearCalls_4 (v := -9) rfl ?_
  refine c_callS C (As := [.ref a3, .int (-9)]) (st := []) dX7_clearCalls_6 lk_X7_82 mw_J7_fill_53178 (ct_fill cy a3 12 (by decide) (-9) f) ⟨rfl, rfl, Nat.le_of_ble_eq_true rfl, Nat.le_of_ble_eq_true rfl⟩ [1] [0, 2] rfl (wr := [(h0, .inr (7, fs)), (a4, .inl (cy 0, 12, .inl g))]) rfl rfl rfl (by decide) rfl rfl (Nat.le_of_ble_eq_true rfl) ⟨Nat.le_refl _, Nat.le_refl _⟩ (fun w hw => ?_)
  obtain ⟨f', hf', rfl⟩ := hw
  refine c_aload_n C dX7_clearCalls_9 0 rfl rfl ?_
  refine c_get C dX7_clearCalls_10 fl_X7_21 0 rfl h5 ?_
  refine c_bipush C dX7_clearCalls_13 (v := -9) rfl ?_
  refine c_callS C (As := [.ref a4, .int (-9)]) (st := []) dX7_clearCalls_15 lk_X7_82 mw_J7_fill_53178 (ct_fill cy a4 12 (by decide) (-9) g) ⟨rfl, rfl, Nat.le_of_ble_eq_true rfl, Nat.le_of_ble_eq_true rfl⟩ [1] [0, 2] rfl (wr := [(h0, .inr (7, fs)), (a3, .inl (cy 0, 12, .inl f'))]) rfl rfl rfl (by decide) rfl rfl (Nat.le_of_ble_eq_true rfl) ⟨Nat.le_refl _, Nat.le_refl _⟩ (fun w hw => ?_)
  obtain ⟨g', hg', rfl⟩ := hw
  exact hR _ _ _ dX7_clearCalls_18 ⟨f', g', hf', hg', rfl⟩
abbrev rc_begin : Room := { frames := 1, cells := 0, slots := 0, locals := 18 }
theorem ct_begin (cy : Nat → ClassId) (h0 a4 : Nat) (c0 : Int32) (v1 v2 v3 : Value) (f : Nat → Int32) : Ct yX6_begin cX6_begin 1 rc_begin [.ref h0] cy [(h0, .inr (6, [.int c0, v1, v2, v3, .ref a4])), (a4, .inl (cy 0, 5, .inl f))] (fun w => w = [(h0, .inr (6, [.int 0, v1, v2, v3, .ref a4])), (a4, .inl (cy 0, 5, .inl (va_cpy tbFirst f 0 0 5)))]) 0 0 := by
  refine Ct.of (by decide +kernel) (Nat.le_of_ble_eq_true rfl) (fun K C hR => ?_)
  show K 0 [(0, .ref h0)] [] _ 0 0
  refine c_aload_n C dX6_begin_0 0 rfl rfl ?_
  refine c_iconst C dX6_begin_1 (v := 0) rfl ?_
  refine c_puti C dX6_begin_2 fl_X6_27 fi_X6_0 0 rfl (Nat.le_of_ble_eq_true rfl) rfl ?_
  refine c_firstcp C 0 1 fs_X6_31 rfl rfl fl_X6_21 rfl rfl lm_X6_34 ⟨Nat.le_of_ble_eq_true rfl, Nat.le_of_ble_eq_true rfl⟩ dX6_begin_5 dX6_begin_8 dX6_begin_9 dX6_begin_10 dX6_begin_13 dX6_begin_14 dX6_begin_15 rfl ?_
  exact hR _ _ _ dX6_begin_18 rfl
abbrev rc_X7 : Room := { frames := 2, cells := 16, slots := 268, locals := 43 }
def blkT (cy : Nat → ClassId) (a : Nat → Nat) (f g : Nat → Int32) : va_W := [((a 1), .inl (cy 0, 4, .inl (fun _ => 0))), ((a 2), .inl (cy 0, 24, .inl (fun _ => 0))), ((a 5), .inl (cy 0, 12, .inl (fun _ => 0))), ((a 6), .inl (cy 0, 12, .inl (fun _ => 0))), ((a 7), .inl (cy 0, 12, .inl (fun _ => 0))), ((a 8), .inl (cy 0, 12, .inl (fun _ => 0))), ((a 9), .inl (cy 0, 12, .inl (fun _ => 0))), ((a 10), .inl (cy 0, 12, .inl (fun _ => 0))), ((a 11), .inl (cy 0, 12, .inl (fun _ => 0))), ((a 12), .inl (cy 0, 48, .inl (fun _ => 0))), ((a 13), .inl (cy 0, 48, .inl (fun _ => 0))), ((a 14), .inl (cy 0, 12, .inl (fun _ => 0))), ((a 15), .inl (cy 0, 12, .inl (fun _ => 0))), ((a 16), .inl (cy 0, 12, .inl (fun _ => 0))), ((a 0), .inr (7, [.int 0, .int 0, .ref (a 1), .ref (a 2), .ref (a 3), .ref (a 4), .ref (a 5), .ref (a 6), .ref (a 7), .ref (a 8), .ref (a 9), .ref (a 10), .ref (a 11), .ref (a 12), .ref (a 13), .int 0, .ref (a 14), .ref (a 15), .ref (a 16)])), ((a 3), .inl (cy 0, 12, .inl f)), ((a 4), .inl (cy 0, 12, .inl g))]
def PoT (cy : Nat → ClassId) (h0 : Nat) (w : va_W) : Prop := ∃ (a : Nat → Nat) (f g : Nat → Int32), a 0 = h0 ∧ (∀ j, j < 12 → f j = -9) ∧ (∀ j, j < 12 → g j = -9) ∧ w = blkT cy a f g
set_option maxHeartbeats 4000000 in
theorem ct_X7 (cy : Nat → ClassId) (h0 : Nat) : Ct yX7_init cX7_init 1 rc_X7 [.ref h0] cy [(h0, .inr (7, [.int 0, .int 0, .null, .null, .null, .null, .null, .null, .null, .null, .null, .null, .null, .null, .null, .int 0, .null, .null, .null]))] (PoT cy h0) 16 268 := by
  refine Ct.of (by decide +kernel) (Nat.le_of_ble_eq_true rfl) (fun K C hR => ?_)
  show K 0 [(0, .ref h0)] [] _ 0 0
  refine c_aload_n C dX7_init_0 0 rfl rfl ?_
  refine c_obj C dX7_init_1 lo_X7_3 oi_2 oi_3 ⟨Nat.le_of_ble_eq_true rfl, Nat.le_of_ble_eq_true rfl⟩ ?_
  refine c_aload_n C dX7_init_4 0 rfl rfl ?_
  refine c_iconst C dX7_init_5 (v := 4) rfl ?_
  refine c_newI C dX7_init_6 ka_int (N' := 4) (by decide) (by decide) (Nat.le_of_ble_eq_true rfl) ⟨Nat.le_of_ble_eq_true rfl, Nat.le_of_ble_eq_true rfl⟩ (fun q1 => ?_)
  refine c_ws ([(h0, .inr (7, [.int 0, .int 0, .null, .null, .null, .null, .null, .null, .null, .null, .null, .null, .null, .null, .null, .int 0, .null, .null, .null])), (q1, .inl (cy 0, 4, .inl (fun _ => 0)))]) rfl ?_
  refine c_put C dX7_init_8 fo_X7_9 0 rfl (Nat.le_of_ble_eq_true rfl) (ws' := [(h0, .inr (7, [.int 0, .int 0, .ref q1, .null, .null, .null, .null, .null, .null, .null, .null, .null, .null, .null, .null, .int 0, .null, .null, .null])), (q1, .inl (cy 0, 4, .inl (fun _ => 0)))]) rfl ?_
  refine c_aload_n C dX7_init_11 0 rfl rfl ?_
  refine c_bipush C dX7_init_12 (v := 24) rfl ?_
  refine c_newI C dX7_init_14 ka_int (N' := 24) (by decide) (by decide) (Nat.le_of_ble_eq_true rfl) ⟨Nat.le_of_ble_eq_true rfl, Nat.le_of_ble_eq_true rfl⟩ (fun q2 => ?_)
  refine c_ws ([(h0, .inr (7, [.int 0, .int 0, .ref q1, .null, .null, .null, .null, .null, .null, .null, .null, .null, .null, .null, .null, .int 0, .null, .null, .null])), (q1, .inl (cy 0, 4, .inl (fun _ => 0))), (q2, .inl (cy 0, 24, .inl (fun _ => 0)))]) rfl ?_
  refine c_put C dX7_init_16 fo_X7_15 0 rfl (Nat.le_of_ble_eq_true rfl) (ws' := [(h0, .inr (7, [.int 0, .int 0, .ref q1, .ref q2, .null, .null, .null, .null, .null, .null, .null, .null, .null, .null, .null, .int 0, .null, .null, .null])), (q1, .inl (cy 0, 4, .inl (fun _ => 0))), (q2, .inl (cy 0, 24, .inl (fun _ => 0)))]) rfl ?_
  refine c_aload_n C dX7_init_19 0 rfl rfl ?_
  refine c_bipush C dX7_init_20 (v := 12) rfl ?_
  refine c_newI C dX7_init_22 ka_int (N' := 12) (by decide) (by decide) (Nat.le_of_ble_eq_true rfl) ⟨Nat.le_of_ble_eq_true rfl, Nat.le_of_ble_eq_true rfl⟩ (fun q3 => ?_)
  refine c_ws ([(h0, .inr (7, [.int 0, .int 0, .ref q1, .ref q2, .null, .null, .null, .null, .null, .null, .null, .null, .null, .null, .null, .int 0, .null, .null, .null])), (q1, .inl (cy 0, 4, .inl (fun _ => 0))), (q2, .inl (cy 0, 24, .inl (fun _ => 0))), (q3, .inl (cy 0, 12, .inl (fun _ => 0)))]) rfl ?_
  refine c_put C dX7_init_24 fo_X7_18 0 rfl (Nat.le_of_ble_eq_true rfl) (ws' := [(h0, .inr (7, [.int 0, .int 0, .ref q1, .ref q2, .ref q3, .null, .null, .null, .null, .null, .null, .null, .null, .null, .null, .int 0, .null, .null, .null])), (q1, .inl (cy 0, 4, .inl (fun _ => 0))), (q2, .inl (cy 0, 24, .inl (fun _ => 0))), (q3, .inl (cy 0, 12, .inl (fun _ => 0)))]) rfl ?_
  refine c_aload_n C dX7_init_27 0 rfl rfl ?_
  refine c_bipush C dX7_init_28 (v := 12) rfl ?_
  refine c_newI C dX7_init_30 ka_int (N' := 12) (by decide) (by decide) (Nat.le_of_ble_eq_true rfl) ⟨Nat.le_of_ble_eq_true rfl, Nat.le_of_ble_eq_true rfl⟩ (fun q4 => ?_)
  refine c_ws ([(h0, .inr (7, [.int 0, .int 0, .ref q1, .ref q2, .ref q3, .null, .null, .null, .null, .null, .null, .null, .null, .null, .null, .int 0, .null, .null, .null])), (q1, .inl (cy 0, 4, .inl (fun _ => 0))), (q2, .inl (cy 0, 24, .inl (fun _ => 0))), (q3, .inl (cy 0, 12, .inl (fun _ => 0))), (q4, .inl (cy 0, 12, .inl (fun _ => 0)))]) rfl ?_
  refine c_put C dX7_init_32 fo_X7_21 0 rfl (Nat.le_of_ble_eq_true rfl) (ws' := [(h0, .inr (7, [.int 0, .int 0, .ref q1, .ref q2, .ref q3, .ref q4, .null, .null, .null, .null, .null, .null, .null, .null, .null, .int 0, .null, .null, .null])), (q1, .inl (cy 0, 4, .inl (fun _ => 0))), (q2, .inl (cy 0, 24, .inl (fun _ => 0))), (q3, .inl (cy 0, 12, .inl (fun _ => 0))), (q4, .inl (cy 0, 12, .inl (fun _ => 0)))]) rfl ?_
  refine c_aload_n C dX7_init_35 0 rfl rfl ?_
  refine c_bipush C dX7_init_36 (v := 12) rfl ?_
  refine c_newI C dX7_init_38 ka_int (N' := 12) (by decide) (by decide) (Nat.le_of_ble_eq_true rfl) ⟨Nat.le_of_ble_eq_true rfl, Nat.le_of_ble_eq_true rfl⟩ (fun q5 => ?_)
  refine c_ws ([(h0, .inr (7, [.int 0, .int 0, .ref q1, .ref q2, .ref q3, .ref q4, .null, .null, .null, .null, .null, .null, .null, .null, .null, .int 0, .null, .null, .null])), (q1, .inl (cy 0, 4, .inl (fun _ => 0))), (q2, .inl (cy 0, 24, .inl (fun _ => 0))), (q3, .inl (cy 0, 12, .inl (fun _ => 0))), (q4, .inl (cy 0, 12, .inl (fun _ => 0))), (q5, .inl (cy 0, 12, .inl (fun _ => 0)))]) rfl ?_
  refine c_put C dX7_init_40 fo_X7_24 0 rfl (Nat.le_of_ble_eq_true rfl) (ws' := [(h0, .inr (7, [.int 0, .int 0, .ref q1, .ref q2, .ref q3, .ref q4, .ref q5, .null, .null, .null, .null, .null, .null, .null, .null, .int 0, .null, .null, .null])), (q1, .inl (cy 0, 4, .inl (fun _ => 0))), (q2, .inl (cy 0, 24, .inl (fun _ => 0))), (q3, .inl (cy 0, 12, .inl (fun _ => 0))), (q4, .inl (cy 0, 12, .inl (fun _ => 0))), (q5, .inl (cy 0, 12, .inl (fun _ => 0)))]) rfl ?_
  refine c_aload_n C dX7_init_43 0 rfl rfl ?_
  refine c_bipush C dX7_init_44 (v := 12) rfl ?_
  refine c_newI C dX7_init_46 ka_int (N' := 12) (by decide) (by decide) (Nat.le_of_ble_eq_true rfl) ⟨Nat.le_of_ble_eq_true rfl, Nat.le_of_ble_eq_true rfl⟩ (fun q6 => ?_)
  refine c_ws ([(h0, .inr (7, [.int 0, .int 0, .ref q1, .ref q2, .ref q3, .ref q4, .ref q5, .null, .null, .null, .null, .null, .null, .null, .null, .int 0, .null, .null, .null])), (q1, .inl (cy 0, 4, .inl (fun _ => 0))), (q2, .inl (cy 0, 24, .inl (fun _ => 0))), (q3, .inl (cy 0, 12, .inl (fun _ => 0))), (q4, .inl (cy 0, 12, .inl (fun _ => 0))), (q5, .inl (cy 0, 12, .inl (fun _ => 0))), (q6, .inl (cy 0, 12, .inl (fun _ => 0)))]) rfl ?_
  refine c_put C dX7_init_48 fo_X7_27 0 rfl (Nat.le_of_ble_eq_true rfl) (ws' := [(h0, .inr (7, [.int 0, .int 0, .ref q1, .ref q2, .ref q3, .ref q4, .ref q5, .ref q6, .null, .null, .null, .null, .null, .null, .null, .int 0, .null, .null, .null])), (q1, .inl (cy 0, 4, .inl (fun _ => 0))), (q2, .inl (cy 0, 24, .inl (fun _ => 0))), (q3, .inl (cy 0, 12, .inl (fun _ => 0))), (q4, .inl (cy 0, 12, .inl (fun _ => 0))), (q5, .inl (cy 0, 12, .inl (fun _ => 0))), (q6, .inl (cy 0, 12, .inl (fun _ => 0)))]) rfl ?_
  refine c_aload_n C dX7_init_51 0 rfl rfl ?_
  refine c_bipush C dX7_init_52 (v := 12) rfl ?_
  refine c_newI C dX7_init_54 ka_int (N' := 12) (by decide) (by decide) (Nat.le_of_ble_eq_true rfl) ⟨Nat.le_of_ble_eq_true rfl, Nat.le_of_ble_eq_true rfl⟩ (fun q7 => ?_)
  refine c_ws ([(h0, .inr (7, [.int 0, .int 0, .ref q1, .ref q2, .ref q3, .ref q4, .ref q5, .ref q6, .null, .null, .null, .null, .null, .null, .null, .int 0, .null, .null, .null])), (q1, .inl (cy 0, 4, .inl (fun _ => 0))), (q2, .inl (cy 0, 24, .inl (fun _ => 0))), (q3, .inl (cy 0, 12, .inl (fun _ => 0))), (q4, .inl (cy 0, 12, .inl (fun _ => 0))), (q5, .inl (cy 0, 12, .inl (fun _ => 0))), (q6, .inl (cy 0, 12, .inl (fun _ => 0))), (q7, .inl (cy 0, 12, .inl (fun _ => 0)))]) rfl ?_
  refine c_put C dX7_init_56 fo_X7_30 0 rfl (Nat.le_of_ble_eq_true rfl) (ws' := [(h0, .inr (7, [.int 0, .int 0, .ref q1, .ref q2, .ref q3, .ref q4, .ref q5, .ref q6, .ref q7, .null, .null, .null, .null, .null, .null, .int 0, .null, .null, .null])), (q1, .inl (cy 0, 4, .inl (fun _ => 0))), (q2, .inl (cy 0, 24, .inl (fun _ => 0))), (q3, .inl (cy 0, 12, .inl (fun _ => 0))), (q4, .inl (cy 0, 12, .inl (fun _ => 0))), (q5, .inl (cy 0, 12, .inl (fun _ => 0))), (q6, .inl (cy 0, 12, .inl (fun _ => 0))), (q7, .inl (cy 0, 12, .inl (fun _ => 0)))]) rfl ?_
  refine c_aload_n C dX7_init_59 0 rfl rfl ?_
  refine c_bipush C dX7_init_60 (v := 12) rfl ?_
  refine c_newI C dX7_init_62 ka_int (N' := 12) (by decide) (by decide) (Nat.le_of_ble_eq_true rfl) ⟨Nat.le_of_ble_eq_true rfl, Nat.le_of_ble_eq_true rfl⟩ (fun q8 => ?_)
  refine c_ws ([(h0, .inr (7, [.int 0, .int 0, .ref q1, .ref q2, .ref q3, .ref q4, .ref q5, .ref q6, .ref q7, .null, .null, .null, .null, .null, .null, .int 0, .null, .null, .null])), (q1, .inl (cy 0, 4, .inl (fun _ => 0))), (q2, .inl (cy 0, 24, .inl (fun _ => 0))), (q3, .inl (cy 0, 12, .inl (fun _ => 0))), (q4, .inl (cy 0, 12, .inl (fun _ => 0))), (q5, .inl (cy 0, 12, .inl (fun _ => 0))), (q6, .inl (cy 0, 12, .inl (fun _ => 0))), (q7, .inl (cy 0, 12, .inl (fun _ => 0))), (q8, .inl (cy 0, 12, .inl (fun _ => 0)))]) rfl ?_
  refine c_put C dX7_init_64 fo_X7_33 0 rfl (Nat.le_of_ble_eq_true rfl) (ws' := [(h0, .inr (7, [.int 0, .int 0, .ref q1, .ref q2, .ref q3, .ref q4, .ref q5, .ref q6, .ref q7, .ref q8, .null, .null, .null, .null, .null, .int 0, .null, .null, .null])), (q1, .inl (cy 0, 4, .inl (fun _ => 0))), (q2, .inl (cy 0, 24, .inl (fun _ => 0))), (q3, .inl (cy 0, 12, .inl (fun _ => 0))), (q4, .inl (cy 0, 12, .inl (fun _ => 0))), (q5, .inl (cy 0, 12, .inl (fun _ => 0))), (q6, .inl (cy 0, 12, .inl (fun _ => 0))), (q7, .inl (cy 0, 12, .inl (fun _ => 0))), (q8, .inl (cy 0, 12, .inl (fun _ => 0)))]) rfl ?_
  refine c_aload_n C dX7_init_67 0 rfl rfl ?_
  refine c_bipush C dX7_init_68 (v := 12) rfl ?_
  refine c_newI C dX7_init_70 ka_int (N' := 12) (by decide) (by decide) (Nat.le_of_ble_eq_true rfl) ⟨Nat.le_of_ble_eq_true rfl, Nat.le_of_ble_eq_true rfl⟩ (fun q9 => ?_)
  refine c_ws ([(h0, .inr (7, [.int 0, .int 0, .ref q1, .ref q2, .ref q3, .ref q4, .ref q5, .ref q6, .ref q7, .ref q8, .null, .null, .null, .null, .null, .int 0, .null, .null, .null])), (q1, .inl (cy 0, 4, .inl (fun _ => 0))), (q2, .inl (cy 0, 24, .inl (fun _ => 0))), (q3, .inl (cy 0, 12, .inl (fun _ => 0))), (q4, .inl (cy 0, 12, .inl (fun _ => 0))), (q5, .inl (cy 0, 12, .inl (fun _ => 0))), (q6, .inl (cy 0, 12, .inl (fun _ => 0))), (q7, .inl (cy 0, 12, .inl (fun _ => 0))), (q8, .inl (cy 0, 12, .inl (fun _ => 0))), (q9, .inl (cy 0, 12, .inl (fun _ => 0)))]) rfl ?_
  refine c_put C dX7_init_72 fo_X7_36 0 rfl (Nat.le_of_ble_eq_true rfl) (ws' := [(h0, .inr (7, [.int 0, .int 0, .ref q1, .ref q2, .ref q3, .ref q4, .ref q5, .ref q6, .ref q7, .ref q8, .ref q9, .null, .null, .null, .null, .int 0, .null, .null, .null])), (q1, .inl (cy 0, 4, .inl (fun _ => 0))), (q2, .inl (cy 0, 24, .inl (fun _ => 0))), (q3, .inl (cy 0, 12, .inl (fun _ => 0))), (q4, .inl (cy 0, 12, .inl (fun _ => 0))), (q5, .inl (cy 0, 12, .inl (fun _ => 0))), (q6, .inl (cy 0, 12, .inl (fun _ => 0))), (q7, .inl (cy 0, 12, .inl (fun _ => 0))), (q8, .inl (cy 0, 12, .inl (fun _ => 0))), (q9, .inl (cy 0, 12, .inl (fun _ => 0)))]) rfl ?_
  refine c_aload_n C dX7_init_75 0 rfl rfl ?_
  refine c_bipush C dX7_init_76 (v := 12) rfl ?_
  refine c_newI C dX7_init_78 ka_int (N' := 12) (by decide) (by decide) (Nat.le_of_ble_eq_true rfl) ⟨Nat.le_of_ble_eq_true rfl, Nat.le_of_ble_eq_true rfl⟩ (fun q10 => ?_)
  refine c_ws ([(h0, .inr (7, [.int 0, .int 0, .ref q1, .ref q2, .ref q3, .ref q4, .ref q5, .ref q6, .ref q7, .ref q8, .ref q9, .null, .null, .null, .null, .int 0, .null, .null, .null])), (q1, .inl (cy 0, 4, .inl (fun _ => 0))), (q2, .inl (cy 0, 24, .inl (fun _ => 0))), (q3, .inl (cy 0, 12, .inl (fun _ => 0))), (q4, .inl (cy 0, 12, .inl (fun _ => 0))), (q5, .inl (cy 0, 12, .inl (fun _ => 0))), (q6, .inl (cy 0, 12, .inl (fun _ => 0))), (q7, .inl (cy 0, 12, .inl (fun _ => 0))), (q8, .inl (cy 0, 12, .inl (fun _ => 0))), (q9, .inl (cy 0, 12, .inl (fun _ => 0))), (q10, .inl (cy 0, 12, .inl (fun _ => 0)))]) rfl ?_
  refine c_put C dX7_init_80 fo_X7_39 0 rfl (Nat.le_of_ble_eq_true rfl) (ws' := [(h0, .inr (7, [.int 0, .int 0, .ref q1, .ref q2, .ref q3, .ref q4, .ref q5, .ref q6, .ref q7, .ref q8, .ref q9, .ref q10, .null, .null, .null, .int 0, .null, .null, .null])), (q1, .inl (cy 0, 4, .inl (fun _ => 0))), (q2, .inl (cy 0, 24, .inl (fun _ => 0))), (q3, .inl (cy 0, 12, .inl (fun _ => 0))), (q4, .inl (cy 0, 12, .inl (fun _ => 0))), (q5, .inl (cy 0, 12, .inl (fun _ => 0))), (q6, .inl (cy 0, 12, .inl (fun _ => 0))), (q7, .inl (cy 0, 12, .inl (fun _ => 0))), (q8, .inl (cy 0, 12, .inl (fun _ => 0))), (q9, .inl (cy 0, 12, .inl (fun _ => 0))), (q10, .inl (cy 0, 12, .inl (fun _ => 0)))]) rfl ?_
  refine c_aload_n C dX7_init_83 0 rfl rfl ?_
  refine c_bipush C dX7_init_84 (v := 12) rfl ?_
  refine c_newI C dX7_init_86 ka_int (N' := 12) (by decide) (by decide) (Nat.le_of_ble_eq_true rfl) ⟨Nat.le_of_ble_eq_true rfl, Nat.le_of_ble_eq_true rfl⟩ (fun q11 => ?_)
  refine c_ws ([(h0, .inr (7, [.int 0, .int 0, .ref q1, .ref q2, .ref q3, .ref q4, .ref q5, .ref q6, .ref q7, .ref q8, .ref q9, .ref q10, .null, .null, .null, .int 0, .null, .null, .null])), (q1, .inl (cy 0, 4, .inl (fun _ => 0))), (q2, .inl (cy 0, 24, .inl (fun _ => 0))), (q3, .inl (cy 0, 12, .inl (fun _ => 0))), (q4, .inl (cy 0, 12, .inl (fun _ => 0))), (q5, .inl (cy 0, 12, .inl (fun _ => 0))), (q6, .inl (cy 0, 12, .inl (fun _ => 0))), (q7, .inl (cy 0, 12, .inl (fun _ => 0))), (q8, .inl (cy 0, 12, .inl (fun _ => 0))), (q9, .inl (cy 0, 12, .inl (fun _ => 0))), (q10, .inl (cy 0, 12, .inl (fun _ => 0))), (q11, .inl (cy 0, 12, .inl (fun _ => 0)))]) rfl ?_
  refine c_put C dX7_init_88 fo_X7_42 0 rfl (Nat.le_of_ble_eq_true rfl) (ws' := [(h0, .inr (7, [.int 0, .int 0, .ref q1, .ref q2, .ref q3, .ref q4, .ref q5, .ref q6, .ref q7, .ref q8, .ref q9, .ref q10, .ref q11, .null, .null, .int 0, .null, .null, .null])), (q1, .inl (cy 0, 4, .inl (fun _ => 0))), (q2, .inl (cy 0, 24, .inl (fun _ => 0))), (q3, .inl (cy 0, 12, .inl (fun _ => 0))), (q4, .inl (cy 0, 12, .inl (fun _ => 0))), (q5, .inl (cy 0, 12, .inl (fun _ => 0))), (q6, .inl (cy 0, 12, .inl (fun _ => 0))), (q7, .inl (cy 0, 12, .inl (fun _ => 0))), (q8, .inl (cy 0, 12, .inl (fun _ => 0))), (q9, .inl (cy 0, 12, .inl (fun _ => 0))), (q10, .inl (cy 0, 12, .inl (fun _ => 0))), (q11, .inl (cy 0, 12, .inl (fun _ => 0)))]) rfl ?_
  refine c_aload_n C dX7_init_91 0 rfl rfl ?_
  refine c_bipush C dX7_init_92 (v := 48) rfl ?_
  refine c_newI C dX7_init_94 ka_int (N' := 48) (by decide) (by decide) (Nat.le_of_ble_eq_true rfl) ⟨Nat.le_of_ble_eq_true rfl, Nat.le_of_ble_eq_true rfl⟩ (fun q12 => ?_)
  refine c_ws ([(h0, .inr (7, [.int 0, .int 0, .ref q1, .ref q2, .ref q3, .ref q4, .ref q5, .ref q6, .ref q7, .ref q8, .ref q9, .ref q10, .ref q11, .null, .null, .int 0, .null, .null, .null])), (q1, .inl (cy 0, 4, .inl (fun _ => 0))), (q2, .inl (cy 0, 24, .inl (fun _ => 0))), (q3, .inl (cy 0, 12, .inl (fun _ => 0))), (q4, .inl (cy 0, 12, .inl (fun _ => 0))), (q5, .inl (cy 0, 12, .inl (fun _ => 0))), (q6, .inl (cy 0, 12, .inl (fun _ => 0))), (q7, .inl (cy 0, 12, .inl (fun _ => 0))), (q8, .inl (cy 0, 12, .inl (fun _ => 0))), (q9, .inl (cy 0, 12, .inl (fun _ => 0))), (q10, .inl (cy 0, 12, .inl (fun _ => 0))), (q11, .inl (cy 0, 12, .inl (fun _ => 0))), (q12, .inl (cy 0, 48, .inl (fun _ => 0)))]) rfl ?_
  refine c_put C dX7_init_96 fo_X7_45 0 rfl (Nat.le_of_ble_eq_true rfl) (ws' := [(h0, .inr (7, [.int 0, .int 0, .ref q1, .ref q2, .ref q3, .ref q4, .ref q5, .ref q6, .ref q7, .ref q8, .ref q9, .ref q10, .ref q11, .ref q12, .null, .int 0, .null, .null, .null])), (q1, .inl (cy 0, 4, .inl (fun _ => 0))), (q2, .inl (cy 0, 24, .inl (fun _ => 0))), (q3, .inl (cy 0, 12, .inl (fun _ => 0))), (q4, .inl (cy 0, 12, .inl (fun _ => 0))), (q5, .inl (cy 0, 12, .inl (fun _ => 0))), (q6, .inl (cy 0, 12, .inl (fun _ => 0))), (q7, .inl (cy 0, 12, .inl (fun _ => 0))), (q8, .inl (cy 0, 12, .inl (fun _ => 0))), (q9, .inl (cy 0, 12, .inl (fun _ => 0))), (q10, .inl (cy 0, 12, .inl (fun _ => 0))), (q11, .inl (cy 0, 12, .inl (fun _ => 0))), (q12, .inl (cy 0, 48, .inl (fun _ => 0)))]) rfl ?_
  refine c_aload_n C dX7_init_99 0 rfl rfl ?_
  refine c_bipush C dX7_init_100 (v := 48) rfl ?_
  refine c_newI C dX7_init_102 ka_int (N' := 48) (by decide) (by decide) (Nat.le_of_ble_eq_true rfl) ⟨Nat.le_of_ble_eq_true rfl, Nat.le_of_ble_eq_true rfl⟩ (fun q13 => ?_)
  refine c_ws ([(h0, .inr (7, [.int 0, .int 0, .ref q1, .ref q2, .ref q3, .ref q4, .ref q5, .ref q6, .ref q7, .ref q8, .ref q9, .ref q10, .ref q11, .ref q12, .null, .int 0, .null, .null, .null])), (q1, .inl (cy 0, 4, .inl (fun _ => 0))), (q2, .inl (cy 0, 24, .inl (fun _ => 0))), (q3, .inl (cy 0, 12, .inl (fun _ => 0))), (q4, .inl (cy 0, 12, .inl (fun _ => 0))), (q5, .inl (cy 0, 12, .inl (fun _ => 0))), (q6, .inl (cy 0, 12, .inl (fun _ => 0))), (q7, .inl (cy 0, 12, .inl (fun _ => 0))), (q8, .inl (cy 0, 12, .inl (fun _ => 0))), (q9, .inl (cy 0, 12, .inl (fun _ => 0))), (q10, .inl (cy 0, 12, .inl (fun _ => 0))), (q11, .inl (cy 0, 12, .inl (fun _ => 0))), (q12, .inl (cy 0, 48, .inl (fun _ => 0))), (q13, .inl (cy 0, 48, .inl (fun _ => 0)))]) rfl ?_
  refine c_put C dX7_init_104 fo_X7_48 0 rfl (Nat.le_of_ble_eq_true rfl) (ws' := [(h0, .inr (7, [.int 0, .int 0, .ref q1, .ref q2, .ref q3, .ref q4, .ref q5, .ref q6, .ref q7, .ref q8, .ref q9, .ref q10, .ref q11, .ref q12, .ref q13, .int 0, .null, .null, .null])), (q1, .inl (cy 0, 4, .inl (fun _ => 0))), (q2, .inl (cy 0, 24, .inl (fun _ => 0))), (q3, .inl (cy 0, 12, .inl (fun _ => 0))), (q4, .inl (cy 0, 12, .inl (fun _ => 0))), (q5, .inl (cy 0, 12, .inl (fun _ => 0))), (q6, .inl (cy 0, 12, .inl (fun _ => 0))), (q7, .inl (cy 0, 12, .inl (fun _ => 0))), (q8, .inl (cy 0, 12, .inl (fun _ => 0))), (q9, .inl (cy 0, 12, .inl (fun _ => 0))), (q10, .inl (cy 0, 12, .inl (fun _ => 0))), (q11, .inl (cy 0, 12, .inl (fun _ => 0))), (q12, .inl (cy 0, 48, .inl (fun _ => 0))), (q13, .inl (cy 0, 48, .inl (fun _ => 0)))]) rfl ?_
  refine c_aload_n C dX7_init_107 0 rfl rfl ?_
  refine c_bipush C dX7_init_108 (v := 12) rfl ?_
  refine c_newI C dX7_init_110 ka_int (N' := 12) (by decide) (by decide) (Nat.le_of_ble_eq_true rfl) ⟨Nat.le_of_ble_eq_true rfl, Nat.le_of_ble_eq_true rfl⟩ (fun q14 => ?_)
  refine c_ws ([(h0, .inr (7, [.int 0, .int 0, .ref q1, .ref q2, .ref q3, .ref q4, .ref q5, .ref q6, .ref q7, .ref q8, .ref q9, .ref q10, .ref q11, .ref q12, .ref q13, .int 0, .null, .null, .null])), (q1, .inl (cy 0, 4, .inl (fun _ => 0))), (q2, .inl (cy 0, 24, .inl (fun _ => 0))), (q3, .inl (cy 0, 12, .inl (fun _ => 0))), (q4, .inl (cy 0, 12, .inl (fun _ => 0))), (q5, .inl (cy 0, 12, .inl (fun _ => 0))), (q6, .inl (cy 0, 12, .inl (fun _ => 0))), (q7, .inl (cy 0, 12, .inl (fun _ => 0))), (q8, .inl (cy 0, 12, .inl (fun _ => 0))), (q9, .inl (cy 0, 12, .inl (fun _ => 0))), (q10, .inl (cy 0, 12, .inl (fun _ => 0))), (q11, .inl (cy 0, 12, .inl (fun _ => 0))), (q12, .inl (cy 0, 48, .inl (fun _ => 0))), (q13, .inl (cy 0, 48, .inl (fun _ => 0))), (q14, .inl (cy 0, 12, .inl (fun _ => 0)))]) rfl ?_
  refine c_put C dX7_init_112 fo_X7_51 0 rfl (Nat.le_of_ble_eq_true rfl) (ws' := [(h0, .inr (7, [.int 0, .int 0, .ref q1, .ref q2, .ref q3, .ref q4, .ref q5, .ref q6, .ref q7, .ref q8, .ref q9, .ref q10, .ref q11, .ref q12, .ref q13, .int 0, .ref q14, .null, .null])), (q1, .inl (cy 0, 4, .inl (fun _ => 0))), (q2, .inl (cy 0, 24, .inl (fun _ => 0))), (q3, .inl (cy 0, 12, .inl (fun _ => 0))), (q4, .inl (cy 0, 12, .inl (fun _ => 0))), (q5, .inl (cy 0, 12, .inl (fun _ => 0))), (q6, .inl (cy 0, 12, .inl (fun _ => 0))), (q7, .inl (cy 0, 12, .inl (fun _ => 0))), (q8, .inl (cy 0, 12, .inl (fun _ => 0))), (q9, .inl (cy 0, 12, .inl (fun _ => 0))), (q10, .inl (cy 0, 12, .inl (fun _ => 0))), (q11, .inl (cy 0, 12, .inl (fun _ => 0))), (q12, .inl (cy 0, 48, .inl (fun _ => 0))), (q13, .inl (cy 0, 48, .inl (fun _ => 0))), (q14, .inl (cy 0, 12, .inl (fun _ => 0)))]) rfl ?_
  refine c_aload_n C dX7_init_115 0 rfl rfl ?_
  refine c_bipush C dX7_init_116 (v := 12) rfl ?_
  refine c_newI C dX7_init_118 ka_int (N' := 12) (by decide) (by decide) (Nat.le_of_ble_eq_true rfl) ⟨Nat.le_of_ble_eq_true rfl, Nat.le_of_ble_eq_true rfl⟩ (fun q15 => ?_)
  refine c_ws ([(h0, .inr (7, [.int 0, .int 0, .ref q1, .ref q2, .ref q3, .ref q4, .ref q5, .ref q6, .ref q7, .ref q8, .ref q9, .ref q10, .ref q11, .ref q12, .ref q13, .int 0, .ref q14, .null, .null])), (q1, .inl (cy 0, 4, .inl (fun _ => 0))), (q2, .inl (cy 0, 24, .inl (fun _ => 0))), (q3, .inl (cy 0, 12, .inl (fun _ => 0))), (q4, .inl (cy 0, 12, .inl (fun _ => 0))), (q5, .inl (cy 0, 12, .inl (fun _ => 0))), (q6, .inl (cy 0, 12, .inl (fun _ => 0))), (q7, .inl (cy 0, 12, .inl (fun _ => 0))), (q8, .inl (cy 0, 12, .inl (fun _ => 0))), (q9, .inl (cy 0, 12, .inl (fun _ => 0))), (q10, .inl (cy 0, 12, .inl (fun _ => 0))), (q11, .inl (cy 0, 12, .inl (fun _ => 0))), (q12, .inl (cy 0, 48, .inl (fun _ => 0))), (q13, .inl (cy 0, 48, .inl (fun _ => 0))), (q14, .inl (cy 0, 12, .inl (fun _ => 0))), (q15, .inl (cy 0, 12, .inl (fun _ => 0)))]) rfl ?_
  refine c_put C dX7_init_120 fo_X7_54 0 rfl (Nat.le_of_ble_eq_true rfl) (ws' := [(h0, .inr (7, [.int 0, .int 0, .ref q1, .ref q2, .ref q3, .ref q4, .ref q5, .ref q6, .ref q7, .ref q8, .ref q9, .ref q10, .ref q11, .ref q12, .ref q13, .int 0, .ref q14, .ref q15, .null])), (q1, .inl (cy 0, 4, .inl (fun _ => 0))), (q2, .inl (cy 0, 24, .inl (fun _ => 0))), (q3, .inl (cy 0, 12, .inl (fun _ => 0))), (q4, .inl (cy 0, 12, .inl (fun _ => 0))), (q5, .inl (cy 0, 12, .inl (fun _ => 0))), (q6, .inl (cy 0, 12, .inl (fun _ => 0))), (q7, .inl (cy 0, 12, .inl (fun _ => 0))), (q8, .inl (cy 0, 12, .inl (fun _ => 0))), (q9, .inl (cy 0, 12, .inl (fun _ => 0))), (q10, .inl (cy 0, 12, .inl (fun _ => 0))), (q11, .inl (cy 0, 12, .inl (fun _ => 0))), (q12, .inl (cy 0, 48, .inl (fun _ => 0))), (q13, .inl (cy 0, 48, .inl (fun _ => 0))), (q14, .inl (cy 0, 12, .inl (fun _ => 0))), (q15, .inl (cy 0, 12, .inl (fun _ => 0)))]) rfl ?_
  refine c_aload_n C dX7_init_123 0 rfl rfl ?_
  refine c_bipush C dX7_init_124 (v := 12) rfl ?_
  refine c_newI C dX7_init_126 ka_int (N' := 12) (by decide) (by decide) (Nat.le_of_ble_eq_true rfl) ⟨Nat.le_of_ble_eq_true rfl, Nat.le_of_ble_eq_true rfl⟩ (fun q16 => ?_)
  refine c_ws ([(h0, .inr (7, [.int 0, .int 0, .ref q1, .ref q2, .ref q3, .ref q4, .ref q5, .ref q6, .ref q7, .ref q8, .ref q9, .ref q10, .ref q11, .ref q12, .ref q13, .int 0, .ref q14, .ref q15, .null])), (q1, .inl (cy 0, 4, .inl (fun _ => 0))), (q2, .inl (cy 0, 24, .inl (fun _ => 0))), (q3, .inl (cy 0, 12, .inl (fun _ => 0))), (q4, .inl (cy 0, 12, .inl (fun _ => 0))), (q5, .inl (cy 0, 12, .inl (fun _ => 0))), (q6, .inl (cy 0, 12, .inl (fun _ => 0))), (q7, .inl (cy 0, 12, .inl (fun _ => 0))), (q8, .inl (cy 0, 12, .inl (fun _ => 0))), (q9, .inl (cy 0, 12, .inl (fun _ => 0))), (q10, .inl (cy 0, 12, .inl (fun _ => 0))), (q11, .inl (cy 0, 12, .inl (fun _ => 0))), (q12, .inl (cy 0, 48, .inl (fun _ => 0))), (q13, .inl (cy 0, 48, .inl (fun _ => 0))), (q14, .inl (cy 0, 12, .inl (fun _ => 0))), (q15, .inl (cy 0, 12, .inl (fun _ => 0))), (q16, .inl (cy 0, 12, .inl (fun _ => 0)))]) rfl ?_
  refine c_put C dX7_init_128 fo_X7_57 0 rfl (Nat.le_of_ble_eq_true rfl) (ws' := [(h0, .inr (7, [.int 0, .int 0, .ref q1, .ref q2, .ref q3, .ref q4, .ref q5, .ref q6, .ref q7, .ref q8, .ref q9, .ref q10, .ref q11, .ref q12, .ref q13, .int 0, .ref q14, .ref q15, .ref q16])), (q1, .inl (cy 0, 4, .inl (fun _ => 0))), (q2, .inl (cy 0, 24, .inl (fun _ => 0))), (q3, .inl (cy 0, 12, .inl (fun _ => 0))), (q4, .inl (cy 0, 12, .inl (fun _ => 0))), (q5, .inl (cy 0, 12, .inl (fun _ => 0))), (q6, .inl (cy 0, 12, .inl (fun _ => 0))), (q7, .inl (cy 0, 12, .inl (fun _ => 0))), (q8, .inl (cy 0, 12, .inl (fun _ => 0))), (q9, .inl (cy 0, 12, .inl (fun _ => 0))), (q10, .inl (cy 0, 12, .inl (fun _ => 0))), (q11, .inl (cy 0, 12, .inl (fun _ => 0))), (q12, .inl (cy 0, 48, .inl (fun _ => 0))), (q13, .inl (cy 0, 48, .inl (fun _ => 0))), (q14, .inl (cy 0, 12, .inl (fun _ => 0))), (q15, .inl (cy 0, 12, .inl (fun _ => 0))), (q16, .inl (cy 0, 12, .inl (fun _ => 0)))]) rfl ?_
  refine c_aload_n C dX7_init_131 0 rfl rfl ?_
  refine c_callV C (As := []) (st := []) dX7_init_132 lk_X7_60 mw_X7_clearCalls (pq := 0) (ci := 7) rfl rfl (ct_clear cy h0 q3 q4 [.int 0, .int 0, .ref q1, .ref q2, .ref q3, .ref q4, .ref q5, .ref q6, .ref q7, .ref q8, .ref q9, .ref q10, .ref q11, .ref q12, .ref q13, .int 0, .ref q14, .ref q15, .ref q16] (fun _ => 0) (fun _ => 0) rfl rfl) ⟨rfl, rfl, Nat.le_of_ble_eq_true rfl, Nat.le_of_ble_eq_true rfl⟩ [0, 3, 4] [1, 2, 5, 6, 7, 8, 9, 10, 11, 12, 13, 14, 15, 16] rfl (wr := [(q1, .inl (cy 0, 4, .inl (fun _ => 0))), (q2, .inl (cy 0, 24, .inl (fun _ => 0))), (q5, .inl (cy 0, 12, .inl (fun _ => 0))), (q6, .inl (cy 0, 12, .inl (fun _ => 0))), (q7, .inl (cy 0, 12, .inl (fun _ => 0))), (q8, .inl (cy 0, 12, .inl (fun _ => 0))), (q9, .inl (cy 0, 12, .inl (fun _ => 0))), (q10, .inl (cy 0, 12, .inl (fun _ => 0))), (q11, .inl (cy 0, 12, .inl (fun _ => 0))), (q12, .inl (cy 0, 48, .inl (fun _ => 0))), (q13, .inl (cy 0, 48, .inl (fun _ => 0))), (q14, .inl (cy 0, 12, .inl (fun _ => 0))), (q15, .inl (cy 0, 12, .inl (fun _ => 0))), (q16, .inl (cy 0, 12, .inl (fun _ => 0)))]) rfl rfl rfl (by decide) rfl rfl (Nat.le_of_ble_eq_true rfl) ⟨Nat.le_of_ble_eq_true rfl, Nat.le_of_ble_eq_true rfl⟩ (fun w hw => ?_)
  obtain ⟨f, g, hf, hg, rfl⟩ := hw
  exact hR _ _ _ dX7_init_135 ⟨(fun k => match k with | 0 => h0 | 1 => q1 | 2 => q2 | 3 => q3 | 4 => q4 | 5 => q5 | 6 => q6 | 7 => q7 | 8 => q8 | 9 => q9 | 10 => q10 | 11 => q11 | 12 => q12 | 13 => q13 | 14 => q14 | 15 => q15 | 16 => q16 | _ => 0), f, g, rfl, hf, hg, rfl⟩
abbrev rc_X6 : Room := { frames := 2, cells := 4, slots := 17, locals := 38 }
def blk6 (cy : Nat → ClassId) (a : Nat → Nat) : va_W := [((a 1), .inl (cy 0, 4, .inl (fun _ => 0))), ((a 2), .inl (cy 0, 4, .inl (fun _ => 0))), ((a 3), .inl (cy 0, 4, .inl (fun _ => 0))), ((a 0), .inr (6, [.int 0, .ref (a 1), .ref (a 2), .ref (a 3), .ref (a 4)])), ((a 4), .inl (cy 0, 5, .inl (va_cpy tbFirst (fun _ => 0) 0 0 5)))]
def Po6 (cy : Nat → ClassId) (h0 : Nat) (w : va_W) : Prop := ∃ (a : Nat → Nat), a 0 = h0 ∧ w = blk6 cy a
set_option maxHeartbeats 4000000 in
theorem ct_X6 (cy : Nat → ClassId) (h0 : Nat) : Ct yX6_init cX6_init 1 rc_X6 [.ref h0] cy [(h0, .inr (6, [.int 0, .null, .null, .null, .null]))] (Po6 cy h0) 4 17 := by
  refine Ct.of (by decide +kernel) (Nat.le_of_ble_eq_true rfl) (fun K C hR => ?_)
  show K 0 [(0, .ref h0)] [] _ 0 0
  refine c_aload_n C dX6_init_0 0 rfl rfl ?_
  refine c_obj C dX6_init_1 lo_X6_3 oi_2 oi_3 ⟨Nat.le_of_ble_eq_true rfl, Nat.le_of_ble_eq_true rfl⟩ ?_
  refine c_aload_n C dX6_init_4 0 rfl rfl ?_
  refine c_iconst C dX6_init_5 (v := 4) rfl ?_
  refine c_newI C dX6_init_6 ka_int (N' := 4) (by decide) (by decide) (Nat.le_of_ble_eq_true rfl) ⟨Nat.le_of_ble_eq_true rfl, Nat.le_of_ble_eq_true rfl⟩ (fun q1 => ?_)
  refine c_ws ([(h0, .inr (6, [.int 0, .null, .null, .null, .null])), (q1, .inl (cy 0, 4, .inl (fun _ => 0)))]) rfl ?_
  refine c_put C dX6_init_8 fo_X6_9 0 rfl (Nat.le_of_ble_eq_true rfl) (ws' := [(h0, .inr (6, [.int 0, .ref q1, .null, .null, .null])), (q1, .inl (cy 0, 4, .inl (fun _ => 0)))]) rfl ?_
  refine c_aload_n C dX6_init_11 0 rfl rfl ?_
  refine c_iconst C dX6_init_12 (v := 4) rfl ?_
  refine c_newI C dX6_init_13 ka_int (N' := 4) (by decide) (by decide) (Nat.le_of_ble_eq_true rfl) ⟨Nat.le_of_ble_eq_true rfl, Nat.le_of_ble_eq_true rfl⟩ (fun q2 => ?_)
  refine c_ws ([(h0, .inr (6, [.int 0, .ref q1, .null, .null, .null])), (q1, .inl (cy 0, 4, .inl (fun _ => 0))), (q2, .inl (cy 0, 4, .inl (fun _ => 0)))]) rfl ?_
  refine c_put C dX6_init_15 fo_X6_15 0 rfl (Nat.le_of_ble_eq_true rfl) (ws' := [(h0, .inr (6, [.int 0, .ref q1, .ref q2, .null, .null])), (q1, .inl (cy 0, 4, .inl (fun _ => 0))), (q2, .inl (cy 0, 4, .inl (fun _ => 0)))]) rfl ?_
  refine c_aload_n C dX6_init_18 0 rfl rfl ?_
  refine c_iconst C dX6_init_19 (v := 4) rfl ?_
  refine c_newI C dX6_init_20 ka_int (N' := 4) (by decide) (by decide) (Nat.le_of_ble_eq_true rfl) ⟨Nat.le_of_ble_eq_true rfl, Nat.le_of_ble_eq_true rfl⟩ (fun q3 => ?_)
  refine c_ws ([(h0, .inr (6, [.int 0, .ref q1, .ref q2, .null, .null])), (q1, .inl (cy 0, 4, .inl (fun _ => 0))), (q2, .inl (cy 0, 4, .inl (fun _ => 0))), (q3, .inl (cy 0, 4, .inl (fun _ => 0)))]) rfl ?_
  refine c_put C dX6_init_22 fo_X6_18 0 rfl (Nat.le_of_ble_eq_true rfl) (ws' := [(h0, .inr (6, [.int 0, .ref q1, .ref q2, .ref q3, .null])), (q1, .inl (cy 0, 4, .inl (fun _ => 0))), (q2, .inl (cy 0, 4, .inl (fun _ => 0))), (q3, .inl (cy 0, 4, .inl (fun _ => 0)))]) rfl ?_
  refine c_aload_n C dX6_init_25 0 rfl rfl ?_
  refine c_iconst C dX6_init_26 (v := 5) rfl ?_
  refine c_newI C dX6_init_27 ka_int (N' := 5) (by decide) (by decide) (Nat.le_of_ble_eq_true rfl) ⟨Nat.le_of_ble_eq_true rfl, Nat.le_of_ble_eq_true rfl⟩ (fun q4 => ?_)
  refine c_ws ([(h0, .inr (6, [.int 0, .ref q1, .ref q2, .ref q3, .null])), (q1, .inl (cy 0, 4, .inl (fun _ => 0))), (q2, .inl (cy 0, 4, .inl (fun _ => 0))), (q3, .inl (cy 0, 4, .inl (fun _ => 0))), (q4, .inl (cy 0, 5, .inl (fun _ => 0)))]) rfl ?_
  refine c_put C dX6_init_29 fo_X6_21 0 rfl (Nat.le_of_ble_eq_true rfl) (ws' := [(h0, .inr (6, [.int 0, .ref q1, .ref q2, .ref q3, .ref q4])), (q1, .inl (cy 0, 4, .inl (fun _ => 0))), (q2, .inl (cy 0, 4, .inl (fun _ => 0))), (q3, .inl (cy 0, 4, .inl (fun _ => 0))), (q4, .inl (cy 0, 5, .inl (fun _ => 0)))]) rfl ?_
  refine c_aload_n C dX6_init_32 0 rfl rfl ?_
  refine c_callV C (As := []) (st := []) dX6_init_33 lk_X6_24 mw_X6_begin (pq := 0) (ci := 6) rfl rfl (ct_begin cy h0 q4 0 (.ref q1) (.ref q2) (.ref q3) (fun _ => 0)) ⟨rfl, rfl, Nat.le_of_ble_eq_true rfl, Nat.le_of_ble_eq_true rfl⟩ [0, 4] [1, 2, 3] rfl (wr := [(q1, .inl (cy 0, 4, .inl (fun _ => 0))), (q2, .inl (cy 0, 4, .inl (fun _ => 0))), (q3, .inl (cy 0, 4, .inl (fun _ => 0)))]) rfl rfl rfl (by decide) rfl rfl (Nat.le_of_ble_eq_true rfl) ⟨Nat.le_of_ble_eq_true rfl, Nat.le_of_ble_eq_true rfl⟩ (fun w hw => ?_)
  obtain rfl := hw
  exact hR _ _ _ dX6_init_36 ⟨(fun k => match k with | 0 => h0 | 1 => q1 | 2 => q2 | 3 => q3 | 4 => q4 | _ => 0), rfl, rfl⟩
abbrev rc_X0 : Room := { frames := 1, cells := 2, slots := 17, locals := 12 }
def blk0 (cy : Nat → ClassId) (a : Nat → Nat) (t1 t2 : Nat) : va_W := [((a 0), .inr (0, [.ref t1, .ref t2, .ref (a 1), .ref (a 2), .int 0])), ((a 1), .inl (cy 0, 4, .inl (fun _ => 0))), ((a 2), .inl (cy 0, 13, .inl (fun _ => 0)))]
def Po0 (cy : Nat → ClassId) (h0 t1 t2 : Nat) (w : va_W) : Prop := ∃ (a : Nat → Nat), a 0 = h0 ∧ w = blk0 cy a t1 t2
set_option maxHeartbeats 4000000 in
theorem ct_X0 (cy : Nat → ClassId) (h0 t1 t2 : Nat) : Ct yX0_init cX0_init 3 rc_X0 [.ref h0, .ref t1, .ref t2] cy [(h0, .inr (0, [.null, .null, .null, .null, .int 0]))] (Po0 cy h0 t1 t2) 2 17 := by
  refine Ct.of (by decide +kernel) (Nat.le_of_ble_eq_true rfl) (fun K C hR => ?_)
  show K 0 [(0, .ref h0), (1, .ref t1), (2, .ref t2)] [] _ 0 0
  refine c_aload_n C dX0_init_0 0 rfl rfl ?_
  refine c_obj C dX0_init_1 lo_X0_3 oi_2 oi_3 ⟨Nat.le_of_ble_eq_true rfl, Nat.le_of_ble_eq_true rfl⟩ ?_
  refine c_aload_n C dX0_init_4 0 rfl rfl ?_
  refine c_iconst C dX0_init_5 (v := 4) rfl ?_
  refine c_newI C dX0_init_6 ka_int (N' := 4) (by decide) (by decide) (Nat.le_of_ble_eq_true rfl) ⟨Nat.le_of_ble_eq_true rfl, Nat.le_of_ble_eq_true rfl⟩ (fun q1 => ?_)
  refine c_ws ([(h0, .inr (0, [.null, .null, .null, .null, .int 0])), (q1, .inl (cy 0, 4, .inl (fun _ => 0)))]) rfl ?_
  refine c_put C dX0_init_8 fo_X0_9 0 rfl (Nat.le_of_ble_eq_true rfl) (ws' := [(h0, .inr (0, [.null, .null, .ref q1, .null, .int 0])), (q1, .inl (cy 0, 4, .inl (fun _ => 0)))]) rfl ?_
  refine c_aload_n C dX0_init_11 0 rfl rfl ?_
  refine c_bipush C dX0_init_12 (v := 13) rfl ?_
  refine c_newI C dX0_init_14 ka_int (N' := 13) (by decide) (by decide) (Nat.le_of_ble_eq_true rfl) ⟨Nat.le_of_ble_eq_true rfl, Nat.le_of_ble_eq_true rfl⟩ (fun q2 => ?_)
  refine c_ws ([(h0, .inr (0, [.null, .null, .ref q1, .null, .int 0])), (q1, .inl (cy 0, 4, .inl (fun _ => 0))), (q2, .inl (cy 0, 13, .inl (fun _ => 0)))]) rfl ?_
  refine c_put C dX0_init_16 fo_X0_15 0 rfl (Nat.le_of_ble_eq_true rfl) (ws' := [(h0, .inr (0, [.null, .null, .ref q1, .ref q2, .int 0])), (q1, .inl (cy 0, 4, .inl (fun _ => 0))), (q2, .inl (cy 0, 13, .inl (fun _ => 0)))]) rfl ?_
  refine c_aload_n C dX0_init_19 0 rfl rfl ?_
  refine c_aload_n C dX0_init_20 1 rfl rfl ?_
  refine c_put C dX0_init_21 fo_X0_18 0 rfl (Nat.le_of_ble_eq_true rfl) (ws' := [(h0, .inr (0, [.ref t1, .null, .ref q1, .ref q2, .int 0])), (q1, .inl (cy 0, 4, .inl (fun _ => 0))), (q2, .inl (cy 0, 13, .inl (fun _ => 0)))]) rfl ?_
  refine c_aload_n C dX0_init_24 0 rfl rfl ?_
  refine c_aload_n C dX0_init_25 2 rfl rfl ?_
  refine c_put C dX0_init_26 fo_X0_22 0 rfl (Nat.le_of_ble_eq_true rfl) (ws' := [(h0, .inr (0, [.ref t1, .ref t2, .ref q1, .ref q2, .int 0])), (q1, .inl (cy 0, 4, .inl (fun _ => 0))), (q2, .inl (cy 0, 13, .inl (fun _ => 0)))]) rfl ?_
  exact hR _ _ _ dX0_init_29 ⟨(fun k => match k with | 0 => h0 | 1 => q1 | 2 => q2 | _ => 0), rfl, rfl⟩
abbrev rc_X3 : Room := { frames := 1, cells := 1, slots := 7, locals := 12 }
def blk3 (cy : Nat → ClassId) (a : Nat → Nat) : va_W := [((a 0), .inr (3, [.ref (a 1), .int 0, .int 0])), ((a 1), .inl (cy 1, 7, .inr (.inl (fun _ => 0))))]
def Po3 (cy : Nat → ClassId) (h0 : Nat) (w : va_W) : Prop := ∃ (a : Nat → Nat), a 0 = h0 ∧ w = blk3 cy a
set_option maxHeartbeats 4000000 in
theorem ct_X3 (cy : Nat → ClassId) (h0 : Nat) : Ct yX3_init cX3_init 1 rc_X3 [.ref h0] cy [(h0, .inr (3, [.null, .int 0, .int 0]))] (Po3 cy h0) 1 7 := by
  refine Ct.of (by decide +kernel) (Nat.le_of_ble_eq_true rfl) (fun K C hR => ?_)
  show K 0 [(0, .ref h0)] [] _ 0 0
  refine c_aload_n C dX3_init_0 0 rfl rfl ?_
  refine c_obj C dX3_init_1 lo_X3_3 oi_2 oi_3 ⟨Nat.le_of_ble_eq_true rfl, Nat.le_of_ble_eq_true rfl⟩ ?_
  refine c_aload_n C dX3_init_4 0 rfl rfl ?_
  refine c_bipush C dX3_init_5 (v := 7) rfl ?_
  refine c_newJ C dX3_init_7 ka_long (N' := 7) (by decide) (by decide) (Nat.le_of_ble_eq_true rfl) ⟨Nat.le_of_ble_eq_true rfl, Nat.le_of_ble_eq_true rfl⟩ (fun q1 => ?_)
  refine c_ws ([(h0, .inr (3, [.null, .int 0, .int 0])), (q1, .inl (cy 1, 7, .inr (.inl (fun _ => 0))))]) rfl ?_
  refine c_put C dX3_init_9 fo_X3_9 0 rfl (Nat.le_of_ble_eq_true rfl) (ws' := [(h0, .inr (3, [.ref q1, .int 0, .int 0])), (q1, .inl (cy 1, 7, .inr (.inl (fun _ => 0))))]) rfl ?_
  exact hR _ _ _ dX3_init_12 ⟨(fun k => match k with | 0 => h0 | 1 => q1 | _ => 0), rfl, rfl⟩
abbrev rc_X5 : Room := { frames := 1, cells := 2, slots := 12, locals := 12 }
def blk5 (cy : Nat → ClassId) (a : Nat → Nat) : va_W := [((a 0), .inr (5, [.int 0, .ref (a 1), .ref (a 2)])), ((a 1), .inl (cy 0, 6, .inl (fun _ => 0))), ((a 2), .inl (cy 0, 6, .inl (fun _ => 0)))]
def Po5 (cy : Nat → ClassId) (h0 : Nat) (w : va_W) : Prop := ∃ (a : Nat → Nat), a 0 = h0 ∧ w = blk5 cy a
set_option maxHeartbeats 4000000 in
theorem ct_X5 (cy : Nat → ClassId) (h0 : Nat) : Ct yX5_init cX5_init 1 rc_X5 [.ref h0] cy [(h0, .inr (5, [.int 0, .null, .null]))] (Po5 cy h0) 2 12 := by
  refine Ct.of (by decide +kernel) (Nat.le_of_ble_eq_true rfl) (fun K C hR => ?_)
  show K 0 [(0, .ref h0)] [] _ 0 0
  refine c_aload_n C dX5_init_0 0 rfl rfl ?_
  refine c_obj C dX5_init_1 lo_X5_3 oi_2 oi_3 ⟨Nat.le_of_ble_eq_true rfl, Nat.le_of_ble_eq_true rfl⟩ ?_
  refine c_aload_n C dX5_init_4 0 rfl rfl ?_
  refine c_bipush C dX5_init_5 (v := 6) rfl ?_
  refine c_newI C dX5_init_7 ka_int (N' := 6) (by decide) (by decide) (Nat.le_of_ble_eq_true rfl) ⟨Nat.le_of_ble_eq_true rfl, Nat.le_of_ble_eq_true rfl⟩ (fun q1 => ?_)
  refine c_ws ([(h0, .inr (5, [.int 0, .null, .null])), (q1, .inl (cy 0, 6, .inl (fun _ => 0)))]) rfl ?_
  refine c_put C dX5_init_9 fo_X5_9 0 rfl (Nat.le_of_ble_eq_true rfl) (ws' := [(h0, .inr (5, [.int 0, .ref q1, .null])), (q1, .inl (cy 0, 6, .inl (fun _ => 0)))]) rfl ?_
  refine c_aload_n C dX5_init_12 0 rfl rfl ?_
  refine c_bipush C dX5_init_13 (v := 6) rfl ?_
  refine c_newI C dX5_init_15 ka_int (N' := 6) (by decide) (by decide) (Nat.le_of_ble_eq_true rfl) ⟨Nat.le_of_ble_eq_true rfl, Nat.le_of_ble_eq_true rfl⟩ (fun q2 => ?_)
  refine c_ws ([(h0, .inr (5, [.int 0, .ref q1, .null])), (q1, .inl (cy 0, 6, .inl (fun _ => 0))), (q2, .inl (cy 0, 6, .inl (fun _ => 0)))]) rfl ?_
  refine c_put C dX5_init_17 fo_X5_15 0 rfl (Nat.le_of_ble_eq_true rfl) (ws' := [(h0, .inr (5, [.int 0, .ref q1, .ref q2])), (q1, .inl (cy 0, 6, .inl (fun _ => 0))), (q2, .inl (cy 0, 6, .inl (fun _ => 0)))]) rfl ?_
  exact hR _ _ _ dX5_init_20 ⟨(fun k => match k with | 0 => h0 | 1 => q1 | 2 => q2 | _ => 0), rfl, rfl⟩
abbrev rc_X9 : Room := { frames := 1, cells := 14, slots := 2976, locals := 12 }
def blk9 (cy : Nat → ClassId) (a : Nat → Nat) : va_W := [((a 0), .inr (9, [.ref (a 1), .ref (a 2), .int 0, .ref (a 3), .ref (a 4), .int 0, .ref (a 5), .int 0, .int 0, .ref (a 6), .ref (a 7), .ref (a 8), .int 0, .int 0, .int 0, .int 0, .int 0, .int 0, .int 0, .ref (a 9), .ref (a 10), .ref (a 11), .ref (a 12), .int 0, .ref (a 13), .int 0, .int 0, .ref (a 14)])), ((a 1), .inl (cy 0, 2547, .inl (fun _ => 0))), ((a 2), .inl (cy 2, 2, .inl (fun _ => 0))), ((a 3), .inl (cy 0, 6, .inl (fun _ => 0))), ((a 4), .inl (cy 0, 6, .inl (fun _ => 0))), ((a 5), .inl (cy 0, 120, .inl (fun _ => 0))), ((a 6), .inl (cy 0, 4, .inl (fun _ => 0))), ((a 7), .inl (cy 0, 4, .inl (fun _ => 0))), ((a 8), .inl (cy 0, 6, .inl (upd (upd (upd (upd (upd (upd (fun _ => 0) (0 : Int32).toNatClampNeg 0) (1 : Int32).toNatClampNeg 3) (2 : Int32).toNatClampNeg 2) (3 : Int32).toNatClampNeg 1) (4 : Int32).toNatClampNeg 10) (5 : Int32).toNatClampNeg 3))), ((a 9), .inl (cy 0, 4, .inl (fun _ => 0))), ((a 10), .inl (cy 0, 4, .inl (fun _ => 0))), ((a 11), .inl (cy 0, 4, .inl (fun _ => 0))), ((a 12), .inl (cy 0, 6, .inl (fun _ => 0))), ((a 13), .inl (cy 0, 256, .inl (fun _ => 0))), ((a 14), .inl (cy 1, 7, .inr (.inl (fun _ => 0))))]
def Po9 (cy : Nat → ClassId) (h0 : Nat) (w : va_W) : Prop := ∃ (a : Nat → Nat), a 0 = h0 ∧ w = blk9 cy a
set_option maxHeartbeats 4000000 in
theorem ct_X9 (cy : Nat → ClassId) (h0 : Nat) : Ct yX9_init cX9_init 1 rc_X9 [.ref h0] cy [(h0, .inr (9, [.null, .null, .int 0, .null, .null, .int 0, .null, .int 0, .int 0, .null, .null, .null, .int 0, .int 0, .int 0, .int 0, .int 0, .int 0, .int 0, .null, .null, .null, .null, .int 0, .null, .int 0, .int 0, .null]))] (Po9 cy h0) 14 2976 := by
  refine Ct.of (by decide +kernel) (Nat.le_of_ble_eq_true rfl) (fun K C hR => ?_)
  show K 0 [(0, .ref h0)] [] _ 0 0
  refine c_aload_n C dX9_init_0 0 rfl rfl ?_
  refine c_obj C dX9_init_1 lo_X9_1 oi_2 oi_3 ⟨Nat.le_of_ble_eq_true rfl, Nat.le_of_ble_eq_true rfl⟩ ?_
  refine c_aload_n C dX9_init_4 0 rfl rfl ?_
  refine c_sipush C dX9_init_5 (v := 2547) rfl ?_
  refine c_newI C dX9_init_8 ka_int (N' := 2547) (by decide) (by decide) (Nat.le_of_ble_eq_true rfl) ⟨Nat.le_of_ble_eq_true rfl, Nat.le_of_ble_eq_true rfl⟩ (fun q1 => ?_)
  refine c_ws ([(h0, .inr (9, [.null, .null, .int 0, .null, .null, .int 0, .null, .int 0, .int 0, .null, .null, .null, .int 0, .int 0, .int 0, .int 0, .int 0, .int 0, .int 0, .null, .null, .null, .null, .int 0, .null, .int 0, .int 0, .null])), (q1, .inl (cy 0, 2547, .inl (fun _ => 0)))]) rfl ?_
  refine c_put C dX9_init_10 fo_X9_7 0 rfl (Nat.le_of_ble_eq_true rfl) (ws' := [(h0, .inr (9, [.ref q1, .null, .int 0, .null, .null, .int 0, .null, .int 0, .int 0, .null, .null, .null, .int 0, .int 0, .int 0, .int 0, .int 0, .int 0, .int 0, .null, .null, .null, .null, .int 0, .null, .int 0, .int 0, .null])), (q1, .inl (cy 0, 2547, .inl (fun _ => 0)))]) rfl ?_
  refine c_aload_n C dX9_init_13 0 rfl rfl ?_
  refine c_iconst C dX9_init_14 (v := 2) rfl ?_
  refine c_newZ C dX9_init_15 ka_boolean (N' := 2) (by decide) (by decide) (Nat.le_of_ble_eq_true rfl) ⟨Nat.le_of_ble_eq_true rfl, Nat.le_of_ble_eq_true rfl⟩ (fun q2 => ?_)
  refine c_ws ([(h0, .inr (9, [.ref q1, .null, .int 0, .null, .null, .int 0, .null, .int 0, .int 0, .null, .null, .null, .int 0, .int 0, .int 0, .int 0, .int 0, .int 0, .int 0, .null, .null, .null, .null, .int 0, .null, .int 0, .int 0, .null])), (q1, .inl (cy 0, 2547, .inl (fun _ => 0))), (q2, .inl (cy 2, 2, .inl (fun _ => 0)))]) rfl ?_
  refine c_put C dX9_init_17 fo_X9_13 0 rfl (Nat.le_of_ble_eq_true rfl) (ws' := [(h0, .inr (9, [.ref q1, .ref q2, .int 0, .null, .null, .int 0, .null, .int 0, .int 0, .null, .null, .null, .int 0, .int 0, .int 0, .int 0, .int 0, .int 0, .int 0, .null, .null, .null, .null, .int 0, .null, .int 0, .int 0, .null])), (q1, .inl (cy 0, 2547, .inl (fun _ => 0))), (q2, .inl (cy 2, 2, .inl (fun _ => 0)))]) rfl ?_
  refine c_aload_n C dX9_init_20 0 rfl rfl ?_
  refine c_bipush C dX9_init_21 (v := 6) rfl ?_
  refine c_newI C dX9_init_23 ka_int (N' := 6) (by decide) (by decide) (Nat.le_of_ble_eq_true rfl) ⟨Nat.le_of_ble_eq_true rfl, Nat.le_of_ble_eq_true rfl⟩ (fun q3 => ?_)
  refine c_ws ([(h0, .inr (9, [.ref q1, .ref q2, .int 0, .null, .null, .int 0, .null, .int 0, .int 0, .null, .null, .null, .int 0, .int 0, .int 0, .int 0, .int 0, .int 0, .int 0, .null, .null, .null, .null, .int 0, .null, .int 0, .int 0, .null])), (q1, .inl (cy 0, 2547, .inl (fun _ => 0))), (q2, .inl (cy 2, 2, .inl (fun _ => 0))), (q3, .inl (cy 0, 6, .inl (fun _ => 0)))]) rfl ?_
  refine c_put C dX9_init_25 fo_X9_17 0 rfl (Nat.le_of_ble_eq_true rfl) (ws' := [(h0, .inr (9, [.ref q1, .ref q2, .int 0, .ref q3, .null, .int 0, .null, .int 0, .int 0, .null, .null, .null, .int 0, .int 0, .int 0, .int 0, .int 0, .int 0, .int 0, .null, .null, .null, .null, .int 0, .null, .int 0, .int 0, .null])), (q1, .inl (cy 0, 2547, .inl (fun _ => 0))), (q2, .inl (cy 2, 2, .inl (fun _ => 0))), (q3, .inl (cy 0, 6, .inl (fun _ => 0)))]) rfl ?_
  refine c_aload_n C dX9_init_28 0 rfl rfl ?_
  refine c_bipush C dX9_init_29 (v := 6) rfl ?_
  refine c_newI C dX9_init_31 ka_int (N' := 6) (by decide) (by decide) (Nat.le_of_ble_eq_true rfl) ⟨Nat.le_of_ble_eq_true rfl, Nat.le_of_ble_eq_true rfl⟩ (fun q4 => ?_)
  refine c_ws ([(h0, .inr (9, [.ref q1, .ref q2, .int 0, .ref q3, .null, .int 0, .null, .int 0, .int 0, .null, .null, .null, .int 0, .int 0, .int 0, .int 0, .int 0, .int 0, .int 0, .null, .null, .null, .null, .int 0, .null, .int 0, .int 0, .null])), (q1, .inl (cy 0, 2547, .inl (fun _ => 0))), (q2, .inl (cy 2, 2, .inl (fun _ => 0))), (q3, .inl (cy 0, 6, .inl (fun _ => 0))), (q4, .inl (cy 0, 6, .inl (fun _ => 0)))]) rfl ?_
  refine c_put C dX9_init_33 fo_X9_20 0 rfl (Nat.le_of_ble_eq_true rfl) (ws' := [(h0, .inr (9, [.ref q1, .ref q2, .int 0, .ref q3, .ref q4, .int 0, .null, .int 0, .int 0, .null, .null, .null, .int 0, .int 0, .int 0, .int 0, .int 0, .int 0, .int 0, .null, .null, .null, .null, .int 0, .null, .int 0, .int 0, .null])), (q1, .inl (cy 0, 2547, .inl (fun _ => 0))), (q2, .inl (cy 2, 2, .inl (fun _ => 0))), (q3, .inl (cy 0, 6, .inl (fun _ => 0))), (q4, .inl (cy 0, 6, .inl (fun _ => 0)))]) rfl ?_
  refine c_aload_n C dX9_init_36 0 rfl rfl ?_
  refine c_bipush C dX9_init_37 (v := 120) rfl ?_
  refine c_newI C dX9_init_39 ka_int (N' := 120) (by decide) (by decide) (Nat.le_of_ble_eq_true rfl) ⟨Nat.le_of_ble_eq_true rfl, Nat.le_of_ble_eq_true rfl⟩ (fun q5 => ?_)
  refine c_ws ([(h0, .inr (9, [.ref q1, .ref q2, .int 0, .ref q3, .ref q4, .int 0, .null, .int 0, .int 0, .null, .null, .null, .int 0, .int 0, .int 0, .int 0, .int 0, .int 0, .int 0, .null, .null, .null, .null, .int 0, .null, .int 0, .int 0, .null])), (q1, .inl (cy 0, 2547, .inl (fun _ => 0))), (q2, .inl (cy 2, 2, .inl (fun _ => 0))), (q3, .inl (cy 0, 6, .inl (fun _ => 0))), (q4, .inl (cy 0, 6, .inl (fun _ => 0))), (q5, .inl (cy 0, 120, .inl (fun _ => 0)))]) rfl ?_
  refine c_put C dX9_init_41 fo_X9_23 0 rfl (Nat.le_of_ble_eq_true rfl) (ws' := [(h0, .inr (9, [.ref q1, .ref q2, .int 0, .ref q3, .ref q4, .int 0, .ref q5, .int 0, .int 0, .null, .null, .null, .int 0, .int 0, .int 0, .int 0, .int 0, .int 0, .int 0, .null, .null, .null, .null, .int 0, .null, .int 0, .int 0, .null])), (q1, .inl (cy 0, 2547, .inl (fun _ => 0))), (q2, .inl (cy 2, 2, .inl (fun _ => 0))), (q3, .inl (cy 0, 6, .inl (fun _ => 0))), (q4, .inl (cy 0, 6, .inl (fun _ => 0))), (q5, .inl (cy 0, 120, .inl (fun _ => 0)))]) rfl ?_
  refine c_aload_n C dX9_init_44 0 rfl rfl ?_
  refine c_iconst C dX9_init_45 (v := 4) rfl ?_
  refine c_newI C dX9_init_46 ka_int (N' := 4) (by decide) (by decide) (Nat.le_of_ble_eq_true rfl) ⟨Nat.le_of_ble_eq_true rfl, Nat.le_of_ble_eq_true rfl⟩ (fun q6 => ?_)
  refine c_ws ([(h0, .inr (9, [.ref q1, .ref q2, .int 0, .ref q3, .ref q4, .int 0, .ref q5, .int 0, .int 0, .null, .null, .null, .int 0, .int 0, .int 0, .int 0, .int 0, .int 0, .int 0, .null, .null, .null, .null, .int 0, .null, .int 0, .int 0, .null])), (q1, .inl (cy 0, 2547, .inl (fun _ => 0))), (q2, .inl (cy 2, 2, .inl (fun _ => 0))), (q3, .inl (cy 0, 6, .inl (fun _ => 0))), (q4, .inl (cy 0, 6, .inl (fun _ => 0))), (q5, .inl (cy 0, 120, .inl (fun _ => 0))), (q6, .inl (cy 0, 4, .inl (fun _ => 0)))]) rfl ?_
  refine c_put C dX9_init_48 fo_X9_26 0 rfl (Nat.le_of_ble_eq_true rfl) (ws' := [(h0, .inr (9, [.ref q1, .ref q2, .int 0, .ref q3, .ref q4, .int 0, .ref q5, .int 0, .int 0, .ref q6, .null, .null, .int 0, .int 0, .int 0, .int 0, .int 0, .int 0, .int 0, .null, .null, .null, .null, .int 0, .null, .int 0, .int 0, .null])), (q1, .inl (cy 0, 2547, .inl (fun _ => 0))), (q2, .inl (cy 2, 2, .inl (fun _ => 0))), (q3, .inl (cy 0, 6, .inl (fun _ => 0))), (q4, .inl (cy 0, 6, .inl (fun _ => 0))), (q5, .inl (cy 0, 120, .inl (fun _ => 0))), (q6, .inl (cy 0, 4, .inl (fun _ => 0)))]) rfl ?_
  refine c_aload_n C dX9_init_51 0 rfl rfl ?_
  refine c_iconst C dX9_init_52 (v := 4) rfl ?_
  refine c_newI C dX9_init_53 ka_int (N' := 4) (by decide) (by decide) (Nat.le_of_ble_eq_true rfl) ⟨Nat.le_of_ble_eq_true rfl, Nat.le_of_ble_eq_true rfl⟩ (fun q7 => ?_)
  refine c_ws ([(h0, .inr (9, [.ref q1, .ref q2, .int 0, .ref q3, .ref q4, .int 0, .ref q5, .int 0, .int 0, .ref q6, .null, .null, .int 0, .int 0, .int 0, .int 0, .int 0, .int 0, .int 0, .null, .null, .null, .null, .int 0, .null, .int 0, .int 0, .null])), (q1, .inl (cy 0, 2547, .inl (fun _ => 0))), (q2, .inl (cy 2, 2, .inl (fun _ => 0))), (q3, .inl (cy 0, 6, .inl (fun _ => 0))), (q4, .inl (cy 0, 6, .inl (fun _ => 0))), (q5, .inl (cy 0, 120, .inl (fun _ => 0))), (q6, .inl (cy 0, 4, .inl (fun _ => 0))), (q7, .inl (cy 0, 4, .inl (fun _ => 0)))]) rfl ?_
  refine c_put C dX9_init_55 fo_X9_29 0 rfl (Nat.le_of_ble_eq_true rfl) (ws' := [(h0, .inr (9, [.ref q1, .ref q2, .int 0, .ref q3, .ref q4, .int 0, .ref q5, .int 0, .int 0, .ref q6, .ref q7, .null, .int 0, .int 0, .int 0, .int 0, .int 0, .int 0, .int 0, .null, .null, .null, .null, .int 0, .null, .int 0, .int 0, .null])), (q1, .inl (cy 0, 2547, .inl (fun _ => 0))), (q2, .inl (cy 2, 2, .inl (fun _ => 0))), (q3, .inl (cy 0, 6, .inl (fun _ => 0))), (q4, .inl (cy 0, 6, .inl (fun _ => 0))), (q5, .inl (cy 0, 120, .inl (fun _ => 0))), (q6, .inl (cy 0, 4, .inl (fun _ => 0))), (q7, .inl (cy 0, 4, .inl (fun _ => 0)))]) rfl ?_
  refine c_aload_n C dX9_init_58 0 rfl rfl ?_
  refine c_bipush C dX9_init_59 (v := 6) rfl ?_
  refine c_newI C dX9_init_61 ka_int (N' := 6) (by decide) (by decide) (Nat.le_of_ble_eq_true rfl) ⟨Nat.le_of_ble_eq_true rfl, Nat.le_of_ble_eq_true rfl⟩ (fun q8 => ?_)
  refine c_ws ([(h0, .inr (9, [.ref q1, .ref q2, .int 0, .ref q3, .ref q4, .int 0, .ref q5, .int 0, .int 0, .ref q6, .ref q7, .null, .int 0, .int 0, .int 0, .int 0, .int 0, .int 0, .int 0, .null, .null, .null, .null, .int 0, .null, .int 0, .int 0, .null])), (q1, .inl (cy 0, 2547, .inl (fun _ => 0))), (q2, .inl (cy 2, 2, .inl (fun _ => 0))), (q3, .inl (cy 0, 6, .inl (fun _ => 0))), (q4, .inl (cy 0, 6, .inl (fun _ => 0))), (q5, .inl (cy 0, 120, .inl (fun _ => 0))), (q6, .inl (cy 0, 4, .inl (fun _ => 0))), (q7, .inl (cy 0, 4, .inl (fun _ => 0))), (q8, .inl (cy 0, 6, .inl (fun _ => 0)))]) rfl ?_
  refine c_dup C dX9_init_63 rfl ?_
  refine c_iconst C dX9_init_64 (v := 0) rfl ?_
  refine c_iconst C dX9_init_65 (v := 0) rfl ?_
  refine c_iast C dX9_init_66 8 rfl (by unfold vp_in; decide) (ws' := [(h0, .inr (9, [.ref q1, .ref q2, .int 0, .ref q3, .ref q4, .int 0, .ref q5, .int 0, .int 0, .ref q6, .ref q7, .null, .int 0, .int 0, .int 0, .int 0, .int 0, .int 0, .int 0, .null, .null, .null, .null, .int 0, .null, .int 0, .int 0, .null])), (q1, .inl (cy 0, 2547, .inl (fun _ => 0))), (q2, .inl (cy 2, 2, .inl (fun _ => 0))), (q3, .inl (cy 0, 6, .inl (fun _ => 0))), (q4, .inl (cy 0, 6, .inl (fun _ => 0))), (q5, .inl (cy 0, 120, .inl (fun _ => 0))), (q6, .inl (cy 0, 4, .inl (fun _ => 0))), (q7, .inl (cy 0, 4, .inl (fun _ => 0))), (q8, .inl (cy 0, 6, .inl (upd (fun _ => 0) (0 : Int32).toNatClampNeg 0)))]) rfl ?_
  refine c_dup C dX9_init_67 rfl ?_
  refine c_iconst C dX9_init_68 (v := 1) rfl ?_
  refine c_iconst C dX9_init_69 (v := 3) rfl ?_
  refine c_iast C dX9_init_70 8 rfl (by unfold vp_in; decide) (ws' := [(h0, .inr (9, [.ref q1, .ref q2, .int 0, .ref q3, .ref q4, .int 0, .ref q5, .int 0, .int 0, .ref q6, .ref q7, .null, .int 0, .int 0, .int 0, .int 0, .int 0, .int 0, .int 0, .null, .null, .null, .null, .int 0, .null, .int 0, .int 0, .null])), (q1, .inl (cy 0, 2547, .inl (fun _ => 0))), (q2, .inl (cy 2, 2, .inl (fun _ => 0))), (q3, .inl (cy 0, 6, .inl (fun _ => 0))), (q4, .inl (cy 0, 6, .inl (fun _ => 0))), (q5, .inl (cy 0, 120, .inl (fun _ => 0))), (q6, .inl (cy 0, 4, .inl (fun _ => 0))), (q7, .inl (cy 0, 4, .inl (fun _ => 0))), (q8, .inl (cy 0, 6, .inl (upd (upd (fun _ => 0) (0 : Int32).toNatClampNeg 0) (1 : Int32).toNatClampNeg 3)))]) rfl ?_
  refine c_dup C dX9_init_71 rfl ?_
  refine c_iconst C dX9_init_72 (v := 2) rfl ?_
  refine c_iconst C dX9_init_73 (v := 2) rfl ?_
  refine c_iast C dX9_init_74 8 rfl (by unfold vp_in; decide) (ws' := [(h0, .inr (9, [.ref q1, .ref q2, .int 0, .ref q3, .ref q4, .int 0, .ref q5, .int 0, .int 0, .ref q6, .ref q7, .null, .int 0, .int 0, .int 0, .int 0, .int 0, .int 0, .int 0, .null, .null, .null, .null, .int 0, .null, .int 0, .int 0, .null])), (q1, .inl (cy 0, 2547, .inl (fun _ => 0))), (q2, .inl (cy 2, 2, .inl (fun _ => 0))), (q3, .inl (cy 0, 6, .inl (fun _ => 0))), (q4, .inl (cy 0, 6, .inl (fun _ => 0))), (q5, .inl (cy 0, 120, .inl (fun _ => 0))), (q6, .inl (cy 0, 4, .inl (fun _ => 0))), (q7, .inl (cy 0, 4, .inl (fun _ => 0))), (q8, .inl (cy 0, 6, .inl (upd (upd (upd (fun _ => 0) (0 : Int32).toNatClampNeg 0) (1 : Int32).toNatClampNeg 3) (2 : Int32).toNatClampNeg 2)))]) rfl ?_
  refine c_dup C dX9_init_75 rfl ?_
  refine c_iconst C dX9_init_76 (v := 3) rfl ?_
  refine c_iconst C dX9_init_77 (v := 1) rfl ?_
  refine c_iast C dX9_init_78 8 rfl (by unfold vp_in; decide) (ws' := [(h0, .inr (9, [.ref q1, .ref q2, .int 0, .ref q3, .ref q4, .int 0, .ref q5, .int 0, .int 0, .ref q6, .ref q7, .null, .int 0, .int 0, .int 0, .int 0, .int 0, .int 0, .int 0, .null, .null, .null, .null, .int 0, .null, .int 0, .int 0, .null])), (q1, .inl (cy 0, 2547, .inl (fun _ => 0))), (q2, .inl (cy 2, 2, .inl (fun _ => 0))), (q3, .inl (cy 0, 6, .inl (fun _ => 0))), (q4, .inl (cy 0, 6, .inl (fun _ => 0))), (q5, .inl (cy 0, 120, .inl (fun _ => 0))), (q6, .inl (cy 0, 4, .inl (fun _ => 0))), (q7, .inl (cy 0, 4, .inl (fun _ => 0))), (q8, .inl (cy 0, 6, .inl (upd (upd (upd (upd (fun _ => 0) (0 : Int32).toNatClampNeg 0) (1 : Int32).toNatClampNeg 3) (2 : Int32).toNatClampNeg 2) (3 : Int32).toNatClampNeg 1)))]) rfl ?_
  refine c_dup C dX9_init_79 rfl ?_
  refine c_iconst C dX9_init_80 (v := 4) rfl ?_
  refine c_bipush C dX9_init_81 (v := 10) rfl ?_
  refine c_iast C dX9_init_83 8 rfl (by unfold vp_in; decide) (ws' := [(h0, .inr (9, [.ref q1, .ref q2, .int 0, .ref q3, .ref q4, .int 0, .ref q5, .int 0, .int 0, .ref q6, .ref q7, .null, .int 0, .int 0, .int 0, .int 0, .int 0, .int 0, .int 0, .null, .null, .null, .null, .int 0, .null, .int 0, .int 0, .null])), (q1, .inl (cy 0, 2547, .inl (fun _ => 0))), (q2, .inl (cy 2, 2, .inl (fun _ => 0))), (q3, .inl (cy 0, 6, .inl (fun _ => 0))), (q4, .inl (cy 0, 6, .inl (fun _ => 0))), (q5, .inl (cy 0, 120, .inl (fun _ => 0))), (q6, .inl (cy 0, 4, .inl (fun _ => 0))), (q7, .inl (cy 0, 4, .inl (fun _ => 0))), (q8, .inl (cy 0, 6, .inl (upd (upd (upd (upd (upd (fun _ => 0) (0 : Int32).toNatClampNeg 0) (1 : Int32).toNatClampNeg 3) (2 : Int32).toNatClampNeg 2) (3 : Int32).toNatClampNeg 1) (4 : Int32).toNatClampNeg 10)))]) rfl ?_
  refine c_dup C dX9_init_84 rfl ?_
  refine c_iconst C dX9_init_85 (v := 5) rfl ?_
  refine c_iconst C dX9_init_86 (v := 3) rfl ?_
  refine c_iast C dX9_init_87 8 rfl (by unfold vp_in; decide) (ws' := [(h0, .inr (9, [.ref q1, .ref q2, .int 0, .ref q3, .ref q4, .int 0, .ref q5, .int 0, .int 0, .ref q6, .ref q7, .null, .int 0, .int 0, .int 0, .int 0, .int 0, .int 0, .int 0, .null, .null, .null, .null, .int 0, .null, .int 0, .int 0, .null])), (q1, .inl (cy 0, 2547, .inl (fun _ => 0))), (q2, .inl (cy 2, 2, .inl (fun _ => 0))), (q3, .inl (cy 0, 6, .inl (fun _ => 0))), (q4, .inl (cy 0, 6, .inl (fun _ => 0))), (q5, .inl (cy 0, 120, .inl (fun _ => 0))), (q6, .inl (cy 0, 4, .inl (fun _ => 0))), (q7, .inl (cy 0, 4, .inl (fun _ => 0))), (q8, .inl (cy 0, 6, .inl (upd (upd (upd (upd (upd (upd (fun _ => 0) (0 : Int32).toNatClampNeg 0) (1 : Int32).toNatClampNeg 3) (2 : Int32).toNatClampNeg 2) (3 : Int32).toNatClampNeg 1) (4 : Int32).toNatClampNeg 10) (5 : Int32).toNatClampNeg 3)))]) rfl ?_
  refine c_put C dX9_init_88 fo_X9_32 0 rfl (Nat.le_of_ble_eq_true rfl) (ws' := [(h0, .inr (9, [.ref q1, .ref q2, .int 0, .ref q3, .ref q4, .int 0, .ref q5, .int 0, .int 0, .ref q6, .ref q7, .ref q8, .int 0, .int 0, .int 0, .int 0, .int 0, .int 0, .int 0, .null, .null, .null, .null, .int 0, .null, .int 0, .int 0, .null])), (q1, .inl (cy 0, 2547, .inl (fun _ => 0))), (q2, .inl (cy 2, 2, .inl (fun _ => 0))), (q3, .inl (cy 0, 6, .inl (fun _ => 0))), (q4, .inl (cy 0, 6, .inl (fun _ => 0))), (q5, .inl (cy 0, 120, .inl (fun _ => 0))), (q6, .inl (cy 0, 4, .inl (fun _ => 0))), (q7, .inl (cy 0, 4, .inl (fun _ => 0))), (q8, .inl (cy 0, 6, .inl (upd (upd (upd (upd (upd (upd (fun _ => 0) (0 : Int32).toNatClampNeg 0) (1 : Int32).toNatClampNeg 3) (2 : Int32).toNatClampNeg 2) (3 : Int32).toNatClampNeg 1) (4 : Int32).toNatClampNeg 10) (5 : Int32).toNatClampNeg 3)))]) rfl ?_
  refine c_aload_n C dX9_init_91 0 rfl rfl ?_
  refine c_iconst C dX9_init_92 (v := 4) rfl ?_
  refine c_newI C dX9_init_93 ka_int (N' := 4) (by decide) (by decide) (Nat.le_of_ble_eq_true rfl) ⟨Nat.le_of_ble_eq_true rfl, Nat.le_of_ble_eq_true rfl⟩ (fun q9 => ?_)
  refine c_ws ([(h0, .inr (9, [.ref q1, .ref q2, .int 0, .ref q3, .ref q4, .int 0, .ref q5, .int 0, .int 0, .ref q6, .ref q7, .ref q8, .int 0, .int 0, .int 0, .int 0, .int 0, .int 0, .int 0, .null, .null, .null, .null, .int 0, .null, .int 0, .int 0, .null])), (q1, .inl (cy 0, 2547, .inl (fun _ => 0))), (q2, .inl (cy 2, 2, .inl (fun _ => 0))), (q3, .inl (cy 0, 6, .inl (fun _ => 0))), (q4, .inl (cy 0, 6, .inl (fun _ => 0))), (q5, .inl (cy 0, 120, .inl (fun _ => 0))), (q6, .inl (cy 0, 4, .inl (fun _ => 0))), (q7, .inl (cy 0, 4, .inl (fun _ => 0))), (q8, .inl (cy 0, 6, .inl (upd (upd (upd (upd (upd (upd (fun _ => 0) (0 : Int32).toNatClampNeg 0) (1 : Int32).toNatClampNeg 3) (2 : Int32).toNatClampNeg 2) (3 : Int32).toNatClampNeg 1) (4 : Int32).toNatClampNeg 10) (5 : Int32).toNatClampNeg 3))), (q9, .inl (cy 0, 4, .inl (fun _ => 0)))]) rfl ?_
  refine c_put C dX9_init_95 fo_X9_35 0 rfl (Nat.le_of_ble_eq_true rfl) (ws' := [(h0, .inr (9, [.ref q1, .ref q2, .int 0, .ref q3, .ref q4, .int 0, .ref q5, .int 0, .int 0, .ref q6, .ref q7, .ref q8, .int 0, .int 0, .int 0, .int 0, .int 0, .int 0, .int 0, .ref q9, .null, .null, .null, .int 0, .null, .int 0, .int 0, .null])), (q1, .inl (cy 0, 2547, .inl (fun _ => 0))), (q2, .inl (cy 2, 2, .inl (fun _ => 0))), (q3, .inl (cy 0, 6, .inl (fun _ => 0))), (q4, .inl (cy 0, 6, .inl (fun _ => 0))), (q5, .inl (cy 0, 120, .inl (fun _ => 0))), (q6, .inl (cy 0, 4, .inl (fun _ => 0))), (q7, .inl (cy 0, 4, .inl (fun _ => 0))), (q8, .inl (cy 0, 6, .inl (upd (upd (upd (upd (upd (upd (fun _ => 0) (0 : Int32).toNatClampNeg 0) (1 : Int32).toNatClampNeg 3) (2 : Int32).toNatClampNeg 2) (3 : Int32).toNatClampNeg 1) (4 : Int32).toNatClampNeg 10) (5 : Int32).toNatClampNeg 3))), (q9, .inl (cy 0, 4, .inl (fun _ => 0)))]) rfl ?_
  refine c_aload_n C dX9_init_98 0 rfl rfl ?_
  refine c_iconst C dX9_init_99 (v := 4) rfl ?_
  refine c_newI C dX9_init_100 ka_int (N' := 4) (by decide) (by decide) (Nat.le_of_ble_eq_true rfl) ⟨Nat.le_of_ble_eq_true rfl, Nat.le_of_ble_eq_true rfl⟩ (fun q10 => ?_)
  refine c_ws ([(h0, .inr (9, [.ref q1, .ref q2, .int 0, .ref q3, .ref q4, .int 0, .ref q5, .int 0, .int 0, .ref q6, .ref q7, .ref q8, .int 0, .int 0, .int 0, .int 0, .int 0, .int 0, .int 0, .ref q9, .null, .null, .null, .int 0, .null, .int 0, .int 0, .null])), (q1, .inl (cy 0, 2547, .inl (fun _ => 0))), (q2, .inl (cy 2, 2, .inl (fun _ => 0))), (q3, .inl (cy 0, 6, .inl (fun _ => 0))), (q4, .inl (cy 0, 6, .inl (fun _ => 0))), (q5, .inl (cy 0, 120, .inl (fun _ => 0))), (q6, .inl (cy 0, 4, .inl (fun _ => 0))), (q7, .inl (cy 0, 4, .inl (fun _ => 0))), (q8, .inl (cy 0, 6, .inl (upd (upd (upd (upd (upd (upd (fun _ => 0) (0 : Int32).toNatClampNeg 0) (1 : Int32).toNatClampNeg 3) (2 : Int32).toNatClampNeg 2) (3 : Int32).toNatClampNeg 1) (4 : Int32).toNatClampNeg 10) (5 : Int32).toNatClampNeg 3))), (q9, .inl (cy 0, 4, .inl (fun _ => 0))), (q10, .inl (cy 0, 4, .inl (fun _ => 0)))]) rfl ?_
  refine c_put C dX9_init_102 fo_X9_38 0 rfl (Nat.le_of_ble_eq_true rfl) (ws' := [(h0, .inr (9, [.ref q1, .ref q2, .int 0, .ref q3, .ref q4, .int 0, .ref q5, .int 0, .int 0, .ref q6, .ref q7, .ref q8, .int 0, .int 0, .int 0, .int 0, .int 0, .int 0, .int 0, .ref q9, .ref q10, .null, .null, .int 0, .null, .int 0, .int 0, .null])), (q1, .inl (cy 0, 2547, .inl (fun _ => 0))), (q2, .inl (cy 2, 2, .inl (fun _ => 0))), (q3, .inl (cy 0, 6, .inl (fun _ => 0))), (q4, .inl (cy 0, 6, .inl (fun _ => 0))), (q5, .inl (cy 0, 120, .inl (fun _ => 0))), (q6, .inl (cy 0, 4, .inl (fun _ => 0))), (q7, .inl (cy 0, 4, .inl (fun _ => 0))), (q8, .inl (cy 0, 6, .inl (upd (upd (upd (upd (upd (upd (fun _ => 0) (0 : Int32).toNatClampNeg 0) (1 : Int32).toNatClampNeg 3) (2 : Int32).toNatClampNeg 2) (3 : Int32).toNatClampNeg 1) (4 : Int32).toNatClampNeg 10) (5 : Int32).toNatClampNeg 3))), (q9, .inl (cy 0, 4, .inl (fun _ => 0))), (q10, .inl (cy 0, 4, .inl (fun _ => 0)))]) rfl ?_
  refine c_aload_n C dX9_init_105 0 rfl rfl ?_
  refine c_iconst C dX9_init_106 (v := 4) rfl ?_
  refine c_newI C dX9_init_107 ka_int (N' := 4) (by decide) (by decide) (Nat.le_of_ble_eq_true rfl) ⟨Nat.le_of_ble_eq_true rfl, Nat.le_of_ble_eq_true rfl⟩ (fun q11 => ?_)
  refine c_ws ([(h0, .inr (9, [.ref q1, .ref q2, .int 0, .ref q3, .ref q4, .int 0, .ref q5, .int 0, .int 0, .ref q6, .ref q7, .ref q8, .int 0, .int 0, .int 0, .int 0, .int 0, .int 0, .int 0, .ref q9, .ref q10, .null, .null, .int 0, .null, .int 0, .int 0, .null])), (q1, .inl (cy 0, 2547, .inl (fun _ => 0))), (q2, .inl (cy 2, 2, .inl (fun _ => 0))), (q3, .inl (cy 0, 6, .inl (fun _ => 0))), (q4, .inl (cy 0, 6, .inl (fun _ => 0))), (q5, .inl (cy 0, 120, .inl (fun _ => 0))), (q6, .inl (cy 0, 4, .inl (fun _ => 0))), (q7, .inl (cy 0, 4, .inl (fun _ => 0))), (q8, .inl (cy 0, 6, .inl (upd (upd (upd (upd (upd (upd (fun _ => 0) (0 : Int32).toNatClampNeg 0) (1 : Int32).toNatClampNeg 3) (2 : Int32).toNatClampNeg 2) (3 : Int32).toNatClampNeg 1) (4 : Int32).toNatClampNeg 10) (5 : Int32).toNatClampNeg 3))), (q9, .inl (cy 0, 4, .inl (fun _ => 0))), (q10, .inl (cy 0, 4, .inl (fun _ => 0))), (q11, .inl (cy 0, 4, .inl (fun _ => 0)))]) rfl ?_
  refine c_put C dX9_init_109 fo_X9_41 0 rfl (Nat.le_of_ble_eq_true rfl) (ws' := [(h0, .inr (9, [.ref q1, .ref q2, .int 0, .ref q3, .ref q4, .int 0, .ref q5, .int 0, .int 0, .ref q6, .ref q7, .ref q8, .int 0, .int 0, .int 0, .int 0, .int 0, .int 0, .int 0, .ref q9, .ref q10, .ref q11, .null, .int 0, .null, .int 0, .int 0, .null])), (q1, .inl (cy 0, 2547, .inl (fun _ => 0))), (q2, .inl (cy 2, 2, .inl (fun _ => 0))), (q3, .inl (cy 0, 6, .inl (fun _ => 0))), (q4, .inl (cy 0, 6, .inl (fun _ => 0))), (q5, .inl (cy 0, 120, .inl (fun _ => 0))), (q6, .inl (cy 0, 4, .inl (fun _ => 0))), (q7, .inl (cy 0, 4, .inl (fun _ => 0))), (q8, .inl (cy 0, 6, .inl (upd (upd (upd (upd (upd (upd (fun _ => 0) (0 : Int32).toNatClampNeg 0) (1 : Int32).toNatClampNeg 3) (2 : Int32).toNatClampNeg 2) (3 : Int32).toNatClampNeg 1) (4 : Int32).toNatClampNeg 10) (5 : Int32).toNatClampNeg 3))), (q9, .inl (cy 0, 4, .inl (fun _ => 0))), (q10, .inl (cy 0, 4, .inl (fun _ => 0))), (q11, .inl (cy 0, 4, .inl (fun _ => 0)))]) rfl ?_
  refine c_aload_n C dX9_init_112 0 rfl rfl ?_
  refine c_bipush C dX9_init_113 (v := 6) rfl ?_
  refine c_newI C dX9_init_115 ka_int (N' := 6) (by decide) (by decide) (Nat.le_of_ble_eq_true rfl) ⟨Nat.le_of_ble_eq_true rfl, Nat.le_of_ble_eq_true rfl⟩ (fun q12 => ?_)
  refine c_ws ([(h0, .inr (9, [.ref q1, .ref q2, .int 0, .ref q3, .ref q4, .int 0, .ref q5, .int 0, .int 0, .ref q6, .ref q7, .ref q8, .int 0, .int 0, .int 0, .int 0, .int 0, .int 0, .int 0, .ref q9, .ref q10, .ref q11, .null, .int 0, .null, .int 0, .int 0, .null])), (q1, .inl (cy 0, 2547, .inl (fun _ => 0))), (q2, .inl (cy 2, 2, .inl (fun _ => 0))), (q3, .inl (cy 0, 6, .inl (fun _ => 0))), (q4, .inl (cy 0, 6, .inl (fun _ => 0))), (q5, .inl (cy 0, 120, .inl (fun _ => 0))), (q6, .inl (cy 0, 4, .inl (fun _ => 0))), (q7, .inl (cy 0, 4, .inl (fun _ => 0))), (q8, .inl (cy 0, 6, .inl (upd (upd (upd (upd (upd (upd (fun _ => 0) (0 : Int32).toNatClampNeg 0) (1 : Int32).toNatClampNeg 3) (2 : Int32).toNatClampNeg 2) (3 : Int32).toNatClampNeg 1) (4 : Int32).toNatClampNeg 10) (5 : Int32).toNatClampNeg 3))), (q9, .inl (cy 0, 4, .inl (fun _ => 0))), (q10, .inl (cy 0, 4, .inl (fun _ => 0))), (q11, .inl (cy 0, 4, .inl (fun _ => 0))), (q12, .inl (cy 0, 6, .inl (fun _ => 0)))]) rfl ?_
  refine c_put C dX9_init_117 fo_X9_44 0 rfl (Nat.le_of_ble_eq_true rfl) (ws' := [(h0, .inr (9, [.ref q1, .ref q2, .int 0, .ref q3, .ref q4, .int 0, .ref q5, .int 0, .int 0, .ref q6, .ref q7, .ref q8, .int 0, .int 0, .int 0, .int 0, .int 0, .int 0, .int 0, .ref q9, .ref q10, .ref q11, .ref q12, .int 0, .null, .int 0, .int 0, .null])), (q1, .inl (cy 0, 2547, .inl (fun _ => 0))), (q2, .inl (cy 2, 2, .inl (fun _ => 0))), (q3, .inl (cy 0, 6, .inl (fun _ => 0))), (q4, .inl (cy 0, 6, .inl (fun _ => 0))), (q5, .inl (cy 0, 120, .inl (fun _ => 0))), (q6, .inl (cy 0, 4, .inl (fun _ => 0))), (q7, .inl (cy 0, 4, .inl (fun _ => 0))), (q8, .inl (cy 0, 6, .inl (upd (upd (upd (upd (upd (upd (fun _ => 0) (0 : Int32).toNatClampNeg 0) (1 : Int32).toNatClampNeg 3) (2 : Int32).toNatClampNeg 2) (3 : Int32).toNatClampNeg 1) (4 : Int32).toNatClampNeg 10) (5 : Int32).toNatClampNeg 3))), (q9, .inl (cy 0, 4, .inl (fun _ => 0))), (q10, .inl (cy 0, 4, .inl (fun _ => 0))), (q11, .inl (cy 0, 4, .inl (fun _ => 0))), (q12, .inl (cy 0, 6, .inl (fun _ => 0)))]) rfl ?_
  refine c_aload_n C dX9_init_120 0 rfl rfl ?_
  refine c_sipush C dX9_init_121 (v := 256) rfl ?_
  refine c_newI C dX9_init_124 ka_int (N' := 256) (by decide) (by decide) (Nat.le_of_ble_eq_true rfl) ⟨Nat.le_of_ble_eq_true rfl, Nat.le_of_ble_eq_true rfl⟩ (fun q13 => ?_)
  refine c_ws ([(h0, .inr (9, [.ref q1, .ref q2, .int 0, .ref q3, .ref q4, .int 0, .ref q5, .int 0, .int 0, .ref q6, .ref q7, .ref q8, .int 0, .int 0, .int 0, .int 0, .int 0, .int 0, .int 0, .ref q9, .ref q10, .ref q11, .ref q12, .int 0, .null, .int 0, .int 0, .null])), (q1, .inl (cy 0, 2547, .inl (fun _ => 0))), (q2, .inl (cy 2, 2, .inl (fun _ => 0))), (q3, .inl (cy 0, 6, .inl (fun _ => 0))), (q4, .inl (cy 0, 6, .inl (fun _ => 0))), (q5, .inl (cy 0, 120, .inl (fun _ => 0))), (q6, .inl (cy 0, 4, .inl (fun _ => 0))), (q7, .inl (cy 0, 4, .inl (fun _ => 0))), (q8, .inl (cy 0, 6, .inl (upd (upd (upd (upd (upd (upd (fun _ => 0) (0 : Int32).toNatClampNeg 0) (1 : Int32).toNatClampNeg 3) (2 : Int32).toNatClampNeg 2) (3 : Int32).toNatClampNeg 1) (4 : Int32).toNatClampNeg 10) (5 : Int32).toNatClampNeg 3))), (q9, .inl (cy 0, 4, .inl (fun _ => 0))), (q10, .inl (cy 0, 4, .inl (fun _ => 0))), (q11, .inl (cy 0, 4, .inl (fun _ => 0))), (q12, .inl (cy 0, 6, .inl (fun _ => 0))), (q13, .inl (cy 0, 256, .inl (fun _ => 0)))]) rfl ?_
  refine c_put C dX9_init_126 fo_X9_47 0 rfl (Nat.le_of_ble_eq_true rfl) (ws' := [(h0, .inr (9, [.ref q1, .ref q2, .int 0, .ref q3, .ref q4, .int 0, .ref q5, .int 0, .int 0, .ref q6, .ref q7, .ref q8, .int 0, .int 0, .int 0, .int 0, .int 0, .int 0, .int 0, .ref q9, .ref q10, .ref q11, .ref q12, .int 0, .ref q13, .int 0, .int 0, .null])), (q1, .inl (cy 0, 2547, .inl (fun _ => 0))), (q2, .inl (cy 2, 2, .inl (fun _ => 0))), (q3, .inl (cy 0, 6, .inl (fun _ => 0))), (q4, .inl (cy 0, 6, .inl (fun _ => 0))), (q5, .inl (cy 0, 120, .inl (fun _ => 0))), (q6, .inl (cy 0, 4, .inl (fun _ => 0))), (q7, .inl (cy 0, 4, .inl (fun _ => 0))), (q8, .inl (cy 0, 6, .inl (upd (upd (upd (upd (upd (upd (fun _ => 0) (0 : Int32).toNatClampNeg 0) (1 : Int32).toNatClampNeg 3) (2 : Int32).toNatClampNeg 2) (3 : Int32).toNatClampNeg 1) (4 : Int32).toNatClampNeg 10) (5 : Int32).toNatClampNeg 3))), (q9, .inl (cy 0, 4, .inl (fun _ => 0))), (q10, .inl (cy 0, 4, .inl (fun _ => 0))), (q11, .inl (cy 0, 4, .inl (fun _ => 0))), (q12, .inl (cy 0, 6, .inl (fun _ => 0))), (q13, .inl (cy 0, 256, .inl (fun _ => 0)))]) rfl ?_
  refine c_aload_n C dX9_init_129 0 rfl rfl ?_
  refine c_bipush C dX9_init_130 (v := 7) rfl ?_
  refine c_newJ C dX9_init_132 ka_long (N' := 7) (by decide) (by decide) (Nat.le_of_ble_eq_true rfl) ⟨Nat.le_of_ble_eq_true rfl, Nat.le_of_ble_eq_true rfl⟩ (fun q14 => ?_)
  refine c_ws ([(h0, .inr (9, [.ref q1, .ref q2, .int 0, .ref q3, .ref q4, .int 0, .ref q5, .int 0, .int 0, .ref q6, .ref q7, .ref q8, .int 0, .int 0, .int 0, .int 0, .int 0, .int 0, .int 0, .ref q9, .ref q10, .ref q11, .ref q12, .int 0, .ref q13, .int 0, .int 0, .null])), (q1, .inl (cy 0, 2547, .inl (fun _ => 0))), (q2, .inl (cy 2, 2, .inl (fun _ => 0))), (q3, .inl (cy 0, 6, .inl (fun _ => 0))), (q4, .inl (cy 0, 6, .inl (fun _ => 0))), (q5, .inl (cy 0, 120, .inl (fun _ => 0))), (q6, .inl (cy 0, 4, .inl (fun _ => 0))), (q7, .inl (cy 0, 4, .inl (fun _ => 0))), (q8, .inl (cy 0, 6, .inl (upd (upd (upd (upd (upd (upd (fun _ => 0) (0 : Int32).toNatClampNeg 0) (1 : Int32).toNatClampNeg 3) (2 : Int32).toNatClampNeg 2) (3 : Int32).toNatClampNeg 1) (4 : Int32).toNatClampNeg 10) (5 : Int32).toNatClampNeg 3))), (q9, .inl (cy 0, 4, .inl (fun _ => 0))), (q10, .inl (cy 0, 4, .inl (fun _ => 0))), (q11, .inl (cy 0, 4, .inl (fun _ => 0))), (q12, .inl (cy 0, 6, .inl (fun _ => 0))), (q13, .inl (cy 0, 256, .inl (fun _ => 0))), (q14, .inl (cy 1, 7, .inr (.inl (fun _ => 0))))]) rfl ?_
  refine c_put C dX9_init_134 fo_X9_50 0 rfl (Nat.le_of_ble_eq_true rfl) (ws' := [(h0, .inr (9, [.ref q1, .ref q2, .int 0, .ref q3, .ref q4, .int 0, .ref q5, .int 0, .int 0, .ref q6, .ref q7, .ref q8, .int 0, .int 0, .int 0, .int 0, .int 0, .int 0, .int 0, .ref q9, .ref q10, .ref q11, .ref q12, .int 0, .ref q13, .int 0, .int 0, .ref q14])), (q1, .inl (cy 0, 2547, .inl (fun _ => 0))), (q2, .inl (cy 2, 2, .inl (fun _ => 0))), (q3, .inl (cy 0, 6, .inl (fun _ => 0))), (q4, .inl (cy 0, 6, .inl (fun _ => 0))), (q5, .inl (cy 0, 120, .inl (fun _ => 0))), (q6, .inl (cy 0, 4, .inl (fun _ => 0))), (q7, .inl (cy 0, 4, .inl (fun _ => 0))), (q8, .inl (cy 0, 6, .inl (upd (upd (upd (upd (upd (upd (fun _ => 0) (0 : Int32).toNatClampNeg 0) (1 : Int32).toNatClampNeg 3) (2 : Int32).toNatClampNeg 2) (3 : Int32).toNatClampNeg 1) (4 : Int32).toNatClampNeg 10) (5 : Int32).toNatClampNeg 3))), (q9, .inl (cy 0, 4, .inl (fun _ => 0))), (q10, .inl (cy 0, 4, .inl (fun _ => 0))), (q11, .inl (cy 0, 4, .inl (fun _ => 0))), (q12, .inl (cy 0, 6, .inl (fun _ => 0))), (q13, .inl (cy 0, 256, .inl (fun _ => 0))), (q14, .inl (cy 1, 7, .inr (.inl (fun _ => 0))))]) rfl ?_
  exact hR _ _ _ dX9_init_137 ⟨(fun k => match k with | 0 => h0 | 1 => q1 | 2 => q2 | 3 => q3 | 4 => q4 | 5 => q5 | 6 => q6 | 7 => q7 | 8 => q8 | 9 => q9 | 10 => q10 | 11 => q11 | 12 => q12 | 13 => q13 | 14 => q14 | _ => 0), rfl, rfl⟩
abbrev rc_X4 : Room := { frames := 3, cells := 7, slots := 147, locals := 58 }
def blk4 (cy : Nat → ClassId) (a b : Nat → Nat) : va_W := [((a 0), .inr (4, [.ref (a 1), .int 0, .ref (b 0), .ref (a 2), .int 0, .int 0, .int 0, .int 0])), ((a 1), .inl (cy 0, 120, .inl (fun _ => 0)))] ++ blk6 cy b ++ [((a 2), .inl (cy 0, 5, .inl (fun _ => 0)))]
def Po4 (cy : Nat → ClassId) (h0 : Nat) (w : va_W) : Prop := ∃ (a b : Nat → Nat), a 0 = h0 ∧ w = blk4 cy a b
set_option maxHeartbeats 4000000 in
theorem ct_X4 (cy : Nat → ClassId) (h0 : Nat) : Ct yX4_init cX4_init 1 rc_X4 [.ref h0] cy [(h0, .inr (4, [.null, .int 0, .null, .null, .int 0, .int 0, .int 0, .int 0]))] (Po4 cy h0) 7 147 := by
  refine Ct.of (by decide +kernel) (Nat.le_of_ble_eq_true rfl) (fun K C hR => ?_)
  show K 0 [(0, .ref h0)] [] _ 0 0
  refine c_aload_n C dX4_init_0 0 rfl rfl ?_
  refine c_obj C dX4_init_1 lo_X4_3 oi_2 oi_3 ⟨Nat.le_of_ble_eq_true rfl, Nat.le_of_ble_eq_true rfl⟩ ?_
  refine c_aload_n C dX4_init_4 0 rfl rfl ?_
  refine c_bipush C dX4_init_5 (v := 120) rfl ?_
  refine c_newI C dX4_init_7 ka_int (N' := 120) (by decide) (by decide) (Nat.le_of_ble_eq_true rfl) ⟨Nat.le_of_ble_eq_true rfl, Nat.le_of_ble_eq_true rfl⟩ (fun q1 => ?_)
  refine c_ws ([(h0, .inr (4, [.null, .int 0, .null, .null, .int 0, .int 0, .int 0, .int 0])), (q1, .inl (cy 0, 120, .inl (fun _ => 0)))]) rfl ?_
  refine c_put C dX4_init_9 fo_X4_9 0 rfl (Nat.le_of_ble_eq_true rfl) (ws' := [(h0, .inr (4, [.ref q1, .int 0, .null, .null, .int 0, .int 0, .int 0, .int 0])), (q1, .inl (cy 0, 120, .inl (fun _ => 0)))]) rfl ?_
  refine c_aload_n C dX4_init_12 0 rfl rfl ?_
  refine c_new C dX4_init_13 kl_X4_15 kn_X6 ki_X6 in_X6 tyX6 tyX6_ok (ci := 6) rfl dv_X6 ⟨Nat.le_of_ble_eq_true rfl, Nat.le_of_ble_eq_true rfl⟩ (fun q2 => ?_)
  refine c_dup C dX4_init_16 rfl ?_
  refine c_callL C (cN := 2) (sN := 125) (ws := [(h0, .inr (4, [.ref q1, .int 0, .null, .null, .int 0, .int 0, .int 0, .int 0])), (q1, .inl (cy 0, 120, .inl (fun _ => 0)))]) (As := []) (st := [.ref q2, .ref h0]) dX4_init_17 lk_X4_17 mw_X6_init (ct_X6 cy q2) ⟨rfl, rfl, Nat.le_of_ble_eq_true rfl, Nat.le_of_ble_eq_true rfl⟩ rfl rfl (Nat.le_of_ble_eq_true rfl) ⟨Nat.le_of_ble_eq_true rfl, Nat.le_of_ble_eq_true rfl⟩ (fun w3 hw3 => ?_)
  obtain ⟨a4, rfl, rfl⟩ := hw3
  refine c_put C dX4_init_20 fo_X4_18 0 rfl (Nat.le_of_ble_eq_true rfl) (ws' := [(h0, .inr (4, [.ref q1, .int 0, .ref (a4 0), .null, .int 0, .int 0, .int 0, .int 0])), (q1, .inl (cy 0, 120, .inl (fun _ => 0)))] ++ blk6 cy a4) rfl ?_
  refine c_aload_n C dX4_init_23 0 rfl rfl ?_
  refine c_iconst C dX4_init_24 (v := 5) rfl ?_
  refine c_newI C dX4_init_25 ka_int (N' := 5) (by decide) (by decide) (Nat.le_of_ble_eq_true rfl) ⟨Nat.le_of_ble_eq_true rfl, Nat.le_of_ble_eq_true rfl⟩ (fun q5 => ?_)
  refine c_ws ([(h0, .inr (4, [.ref q1, .int 0, .ref (a4 0), .null, .int 0, .int 0, .int 0, .int 0])), (q1, .inl (cy 0, 120, .inl (fun _ => 0)))] ++ blk6 cy a4 ++ [(q5, .inl (cy 0, 5, .inl (fun _ => 0)))]) rfl ?_
  refine c_put C dX4_init_27 fo_X4_22 0 rfl (Nat.le_of_ble_eq_true rfl) (ws' := [(h0, .inr (4, [.ref q1, .int 0, .ref (a4 0), .ref q5, .int 0, .int 0, .int 0, .int 0])), (q1, .inl (cy 0, 120, .inl (fun _ => 0)))] ++ blk6 cy a4 ++ [(q5, .inl (cy 0, 5, .inl (fun _ => 0)))]) rfl ?_
  exact hR _ _ _ dX4_init_30 ⟨(fun k => match k with | 0 => h0 | 1 => q1 | 2 => q5 | _ => 0), a4, rfl, rfl⟩
abbrev rc_X1 : Room := { frames := 3, cells := 103, slots := 1728, locals := 63 }
def blk1 (cy : Nat → ClassId) (a : Nat → Nat) (t : Nat → Nat → Nat) (f g : Nat → Nat → Int32) : va_W := [((a 0), .inr (1, [.ref (a 1), .int 0, .int 0])), ((a 1), .inl (cy 3, 6, .inr (.inr (.inr (.inr (va_up (va_up (va_up (va_up (va_up (va_up (fun _ => none) (0 : Int32).toNatClampNeg (some (t 0 0))) (1 : Int32).toNatClampNeg (some (t 1 0))) (2 : Int32).toNatClampNeg (some (t 2 0))) (3 : Int32).toNatClampNeg (some (t 3 0))) (4 : Int32).toNatClampNeg (some (t 4 0))) (5 : Int32).toNatClampNeg (some (t 5 0))))))))] ++ blkT cy (t 0) (f 0) (g 0) ++ blkT cy (t 1) (f 1) (g 1) ++ blkT cy (t 2) (f 2) (g 2) ++ blkT cy (t 3) (f 3) (g 3) ++ blkT cy (t 4) (f 4) (g 4) ++ blkT cy (t 5) (f 5) (g 5)
def Po1 (cy : Nat → ClassId) (h0 : Nat) (w : va_W) : Prop := ∃ (a : Nat → Nat) (t : Nat → Nat → Nat) (f g : Nat → Nat → Int32), a 0 = h0 ∧ (∀ i, i < 6 → (∀ j, j < 12 → f i j = -9) ∧ (∀ j, j < 12 → g i j = -9)) ∧ w = blk1 cy a t f g
set_option maxHeartbeats 4000000 in
theorem ct_X1 (cy : Nat → ClassId) (h0 : Nat) : Ct yX1_init cX1_init 2 rc_X1 [.ref h0] cy [(h0, .inr (1, [.null, .int 0, .int 0]))] (Po1 cy h0) 103 1728 := by
  refine Ct.of (by decide +kernel) (Nat.le_of_ble_eq_true rfl) (fun K C hR => ?_)
  show K 0 [(0, .ref h0)] [] _ 0 0
  refine c_aload_n C dX1_init_0 0 rfl rfl ?_
  refine c_obj C dX1_init_1 lo_X1_3 oi_2 oi_3 ⟨Nat.le_of_ble_eq_true rfl, Nat.le_of_ble_eq_true rfl⟩ ?_
  refine c_aload_n C dX1_init_4 0 rfl rfl ?_
  refine c_bipush C dX1_init_5 (v := 6) rfl ?_
  refine c_newq C dX1_init_7 kl_X1_9 (N' := 6) (by decide) (by decide) (Nat.le_of_ble_eq_true rfl) ⟨Nat.le_of_ble_eq_true rfl, Nat.le_of_ble_eq_true rfl⟩ (fun q1 => ?_)
  refine c_ws ([(h0, .inr (1, [.null, .int 0, .int 0])), (q1, .inl (cy 3, 6, .inr (.inr (.inr (.inr (fun _ => none))))))]) rfl ?_
  refine c_put C dX1_init_10 fo_X1_11 0 rfl (Nat.le_of_ble_eq_true rfl) (ws' := [(h0, .inr (1, [.ref q1, .int 0, .int 0])), (q1, .inl (cy 3, 6, .inr (.inr (.inr (.inr (fun _ => none))))))]) rfl ?_
  refine c_iconst C dX1_init_13 (v := 0) rfl ?_
  refine c_istore_n C dX1_init_14 rfl (by decide) rfl ?_
  refine c_iload_n C dX1_init_15 0 rfl rfl ?_
  refine c_bipush C dX1_init_16 (v := 6) rfl ?_
  refine c_ge C dX1_init_18 (tgt := 40) (by decide) (fun h => absurd h (by decide)) (fun _ => ?_)
  refine c_aload_n C dX1_init_21 1 rfl rfl ?_
  refine c_get C dX1_init_22 fl_X1_11 0 rfl rfl ?_
  refine c_iload_n C dX1_init_25 0 rfl rfl ?_
  refine c_new C dX1_init_26 kl_X1_9 kn_X7 ki_X7 in_X7 tyX7 tyX7_ok (ci := 7) rfl dv_X7 ⟨Nat.le_of_ble_eq_true rfl, Nat.le_of_ble_eq_true rfl⟩ (fun q2 => ?_)
  refine c_dup C dX1_init_29 rfl ?_
  refine c_callL C (cN := 2) (sN := 25) (ws := [(h0, .inr (1, [.ref q1, .int 0, .int 0])), (q1, .inl (cy 3, 6, .inr (.inr (.inr (.inr (fun _ => none))))))]) (As := []) (st := [.ref q2, .int 0, .ref q1]) dX1_init_30 lk_X1_17 mw_X7_init (ct_X7 cy q2) ⟨rfl, rfl, Nat.le_of_ble_eq_true rfl, Nat.le_of_ble_eq_true rfl⟩ rfl rfl (Nat.le_of_ble_eq_true rfl) ⟨Nat.le_of_ble_eq_true rfl, Nat.le_of_ble_eq_true rfl⟩ (fun w3 hw3 => ?_)
  obtain ⟨a4, f4, g4, rfl, hf4, hg4, rfl⟩ := hw3
  refine c_aast C dX1_init_33 1 16 rfl rfl (by unfold vp_in; decide) (ws' := [(h0, .inr (1, [.ref q1, .int 0, .int 0])), (q1, .inl (cy 3, 6, .inr (.inr (.inr (.inr (va_up (fun _ => none) (0 : Int32).toNatClampNeg (some (a4 0))))))))] ++ blkT cy a4 f4 g4) rfl ?_
  refine c_iinc C dX1_init_34 (v := 1) 0 rfl rfl (by decide) rfl ?_
  refine c_goto C dX1_init_37 (tgt := 15) (by decide) ?_
  refine c_iload_n C dX1_init_15 0 rfl rfl ?_
  refine c_bipush C dX1_init_16 (v := 6) rfl ?_
  refine c_ge C dX1_init_18 (tgt := 40) (by decide) (fun h => absurd h (by decide)) (fun _ => ?_)
  refine c_aload_n C dX1_init_21 1 rfl rfl ?_
  refine c_get C dX1_init_22 fl_X1_11 0 rfl rfl ?_
  refine c_iload_n C dX1_init_25 0 rfl rfl ?_
  refine c_new C dX1_init_26 kl_X1_9 kn_X7 ki_X7 in_X7 tyX7 tyX7_ok (ci := 7) rfl dv_X7 ⟨Nat.le_of_ble_eq_true rfl, Nat.le_of_ble_eq_true rfl⟩ (fun q5 => ?_)
  refine c_dup C dX1_init_29 rfl ?_
  refine c_callL C (cN := 19) (sN := 312) (ws := [(h0, .inr (1, [.ref q1, .int 0, .int 0])), (q1, .inl (cy 3, 6, .inr (.inr (.inr (.inr (va_up (fun _ => none) (0 : Int32).toNatClampNeg (some (a4 0))))))))] ++ blkT cy a4 f4 g4) (As := []) (st := [.ref q5, .int 1, .ref q1]) dX1_init_30 lk_X1_17 mw_X7_init (ct_X7 cy q5) ⟨rfl, rfl, Nat.le_of_ble_eq_true rfl, Nat.le_of_ble_eq_true rfl⟩ rfl rfl (Nat.le_of_ble_eq_true rfl) ⟨Nat.le_of_ble_eq_true rfl, Nat.le_of_ble_eq_true rfl⟩ (fun w6 hw6 => ?_)
  obtain ⟨a7, f7, g7, rfl, hf7, hg7, rfl⟩ := hw6
  refine c_aast C dX1_init_33 1 33 rfl rfl (by unfold vp_in; decide) (ws' := [(h0, .inr (1, [.ref q1, .int 0, .int 0])), (q1, .inl (cy 3, 6, .inr (.inr (.inr (.inr (va_up (va_up (fun _ => none) (0 : Int32).toNatClampNeg (some (a4 0))) (1 : Int32).toNatClampNeg (some (a7 0))))))))] ++ blkT cy a4 f4 g4 ++ blkT cy a7 f7 g7) rfl ?_
  refine c_iinc C dX1_init_34 (v := 2) 0 rfl rfl (by decide) rfl ?_
  refine c_goto C dX1_init_37 (tgt := 15) (by decide) ?_
  refine c_iload_n C dX1_init_15 0 rfl rfl ?_
  refine c_bipush C dX1_init_16 (v := 6) rfl ?_
  refine c_ge C dX1_init_18 (tgt := 40) (by decide) (fun h => absurd h (by decide)) (fun _ => ?_)
  refine c_aload_n C dX1_init_21 1 rfl rfl ?_
  refine c_get C dX1_init_22 fl_X1_11 0 rfl rfl ?_
  refine c_iload_n C dX1_init_25 0 rfl rfl ?_
  refine c_new C dX1_init_26 kl_X1_9 kn_X7 ki_X7 in_X7 tyX7 tyX7_ok (ci := 7) rfl dv_X7 ⟨Nat.le_of_ble_eq_true rfl, Nat.le_of_ble_eq_true rfl⟩ (fun q8 => ?_)
  refine c_dup C dX1_init_29 rfl ?_
  refine c_callL C (cN := 36) (sN := 599) (ws := [(h0, .inr (1, [.ref q1, .int 0, .int 0])), (q1, .inl (cy 3, 6, .inr (.inr (.inr (.inr (va_up (va_up (fun _ => none) (0 : Int32).toNatClampNeg (some (a4 0))) (1 : Int32).toNatClampNeg (some (a7 0))))))))] ++ blkT cy a4 f4 g4 ++ blkT cy a7 f7 g7) (As := []) (st := [.ref q8, .int 2, .ref q1]) dX1_init_30 lk_X1_17 mw_X7_init (ct_X7 cy q8) ⟨rfl, rfl, Nat.le_of_ble_eq_true rfl, Nat.le_of_ble_eq_true rfl⟩ rfl rfl (Nat.le_of_ble_eq_true rfl) ⟨Nat.le_of_ble_eq_true rfl, Nat.le_of_ble_eq_true rfl⟩ (fun w9 hw9 => ?_)
  obtain ⟨a10, f10, g10, rfl, hf10, hg10, rfl⟩ := hw9
  refine c_aast C dX1_init_33 1 50 rfl rfl (by unfold vp_in; decide) (ws' := [(h0, .inr (1, [.ref q1, .int 0, .int 0])), (q1, .inl (cy 3, 6, .inr (.inr (.inr (.inr (va_up (va_up (va_up (fun _ => none) (0 : Int32).toNatClampNeg (some (a4 0))) (1 : Int32).toNatClampNeg (some (a7 0))) (2 : Int32).toNatClampNeg (some (a10 0))))))))] ++ blkT cy a4 f4 g4 ++ blkT cy a7 f7 g7 ++ blkT cy a10 f10 g10) rfl ?_
  refine c_iinc C dX1_init_34 (v := 3) 0 rfl rfl (by decide) rfl ?_
  refine c_goto C dX1_init_37 (tgt := 15) (by decide) ?_
  refine c_iload_n C dX1_init_15 0 rfl rfl ?_
  refine c_bipush C dX1_init_16 (v := 6) rfl ?_
  refine c_ge C dX1_init_18 (tgt := 40) (by decide) (fun h => absurd h (by decide)) (fun _ => ?_)
  refine c_aload_n C dX1_init_21 1 rfl rfl ?_
  refine c_get C dX1_init_22 fl_X1_11 0 rfl rfl ?_
  refine c_iload_n C dX1_init_25 0 rfl rfl ?_
  refine c_new C dX1_init_26 kl_X1_9 kn_X7 ki_X7 in_X7 tyX7 tyX7_ok (ci := 7) rfl dv_X7 ⟨Nat.le_of_ble_eq_true rfl, Nat.le_of_ble_eq_true rfl⟩ (fun q11 => ?_)
  refine c_dup C dX1_init_29 rfl ?_
  refine c_callL C (cN := 53) (sN := 886) (ws := [(h0, .inr (1, [.ref q1, .int 0, .int 0])), (q1, .inl (cy 3, 6, .inr (.inr (.inr (.inr (va_up (va_up (va_up (fun _ => none) (0 : Int32).toNatClampNeg (some (a4 0))) (1 : Int32).toNatClampNeg (some (a7 0))) (2 : Int32).toNatClampNeg (some (a10 0))))))))] ++ blkT cy a4 f4 g4 ++ blkT cy a7 f7 g7 ++ blkT cy a10 f10 g10) (As := []) (st := [.ref q11, .int 3, .ref q1]) dX1_init_30 lk_X1_17 mw_X7_init (ct_X7 cy q11) ⟨rfl, rfl, Nat.le_of_ble_eq_true rfl, Nat.le_of_ble_eq_true rfl⟩ rfl rfl (Nat.le_of_ble_eq_true rfl) ⟨Nat.le_of_ble_eq_true rfl, Nat.le_of_ble_eq_true rfl⟩ (fun w12 hw12 => ?_)
  obtain ⟨a13, f13, g13, rfl, hf13, hg13, rfl⟩ := hw12
  refine c_aast C dX1_init_33 1 67 rfl rfl (by unfold vp_in; decide) (ws' := [(h0, .inr (1, [.ref q1, .int 0, .int 0])), (q1, .inl (cy 3, 6, .inr (.inr (.inr (.inr (va_up (va_up (va_up (va_up (fun _ => none) (0 : Int32).toNatClampNeg (some (a4 0))) (1 : Int32).toNatClampNeg (some (a7 0))) (2 : Int32).toNatClampNeg (some (a10 0))) (3 : Int32).toNatClampNeg (some (a13 0))))))))] ++ blkT cy a4 f4 g4 ++ blkT cy a7 f7 g7 ++ blkT cy a10 f10 g10 ++ blkT cy a13 f13 g13) rfl ?_
  refine c_iinc C dX1_init_34 (v := 4) 0 rfl rfl (by decide) rfl ?_
  refine c_goto C dX1_init_37 (tgt := 15) (by decide) ?_
  refine c_iload_n C dX1_init_15 0 rfl rfl ?_
  refine c_bipush C dX1_init_16 (v := 6) rfl ?_
  refine c_ge C dX1_init_18 (tgt := 40) (by decide) (fun h => absurd h (by decide)) (fun _ => ?_)
  refine c_aload_n C dX1_init_21 1 rfl rfl ?_
  refine c_get C dX1_init_22 fl_X1_11 0 rfl rfl ?_
  refine c_iload_n C dX1_init_25 0 rfl rfl ?_
  refine c_new C dX1_init_26 kl_X1_9 kn_X7 ki_X7 in_X7 tyX7 tyX7_ok (ci := 7) rfl dv_X7 ⟨Nat.le_of_ble_eq_true rfl, Nat.le_of_ble_eq_true rfl⟩ (fun q14 => ?_)
  refine c_dup C dX1_init_29 rfl ?_
  refine c_callL C (cN := 70) (sN := 1173) (ws := [(h0, .inr (1, [.ref q1, .int 0, .int 0])), (q1, .inl (cy 3, 6, .inr (.inr (.inr (.inr (va_up (va_up (va_up (va_up (fun _ => none) (0 : Int32).toNatClampNeg (some (a4 0))) (1 : Int32).toNatClampNeg (some (a7 0))) (2 : Int32).toNatClampNeg (some (a10 0))) (3 : Int32).toNatClampNeg (some (a13 0))))))))] ++ blkT cy a4 f4 g4 ++ blkT cy a7 f7 g7 ++ blkT cy a10 f10 g10 ++ blkT cy a13 f13 g13) (As := []) (st := [.ref q14, .int 4, .ref q1]) dX1_init_30 lk_X1_17 mw_X7_init (ct_X7 cy q14) ⟨rfl, rfl, Nat.le_of_ble_eq_true rfl, Nat.le_of_ble_eq_true rfl⟩ rfl rfl (Nat.le_of_ble_eq_true rfl) ⟨Nat.le_of_ble_eq_true rfl, Nat.le_of_ble_eq_true rfl⟩ (fun w15 hw15 => ?_)
  obtain ⟨a16, f16, g16, rfl, hf16, hg16, rfl⟩ := hw15
  refine c_aast C dX1_init_33 1 84 rfl rfl (by unfold vp_in; decide) (ws' := [(h0, .inr (1, [.ref q1, .int 0, .int 0])), (q1, .inl (cy 3, 6, .inr (.inr (.inr (.inr (va_up (va_up (va_up (va_up (va_up (fun _ => none) (0 : Int32).toNatClampNeg (some (a4 0))) (1 : Int32).toNatClampNeg (some (a7 0))) (2 : Int32).toNatClampNeg (some (a10 0))) (3 : Int32).toNatClampNeg (some (a13 0))) (4 : Int32).toNatClampNeg (some (a16 0))))))))] ++ blkT cy a4 f4 g4 ++ blkT cy a7 f7 g7 ++ blkT cy a10 f10 g10 ++ blkT cy a13 f13 g13 ++ blkT cy a16 f16 g16) rfl ?_
  refine c_iinc C dX1_init_34 (v := 5) 0 rfl rfl (by decide) rfl ?_
  refine c_goto C dX1_init_37 (tgt := 15) (by decide) ?_
  refine c_iload_n C dX1_init_15 0 rfl rfl ?_
  refine c_bipush C dX1_init_16 (v := 6) rfl ?_
  refine c_ge C dX1_init_18 (tgt := 40) (by decide) (fun h => absurd h (by decide)) (fun _ => ?_)
  refine c_aload_n C dX1_init_21 1 rfl rfl ?_
  refine c_get C dX1_init_22 fl_X1_11 0 rfl rfl ?_
  refine c_iload_n C dX1_init_25 0 rfl rfl ?_
  refine c_new C dX1_init_26 kl_X1_9 kn_X7 ki_X7 in_X7 tyX7 tyX7_ok (ci := 7) rfl dv_X7 ⟨Nat.le_of_ble_eq_true rfl, Nat.le_of_ble_eq_true rfl⟩ (fun q17 => ?_)
  refine c_dup C dX1_init_29 rfl ?_
  refine c_callL C (cN := 87) (sN := 1460) (ws := [(h0, .inr (1, [.ref q1, .int 0, .int 0])), (q1, .inl (cy 3, 6, .inr (.inr (.inr (.inr (va_up (va_up (va_up (va_up (va_up (fun _ => none) (0 : Int32).toNatClampNeg (some (a4 0))) (1 : Int32).toNatClampNeg (some (a7 0))) (2 : Int32).toNatClampNeg (some (a10 0))) (3 : Int32).toNatClampNeg (some (a13 0))) (4 : Int32).toNatClampNeg (some (a16 0))))))))] ++ blkT cy a4 f4 g4 ++ blkT cy a7 f7 g7 ++ blkT cy a10 f10 g10 ++ blkT cy a13 f13 g13 ++ blkT cy a16 f16 g16) (As := []) (st := [.ref q17, .int 5, .ref q1]) dX1_init_30 lk_X1_17 mw_X7_init (ct_X7 cy q17) ⟨rfl, rfl, Nat.le_of_ble_eq_true rfl, Nat.le_of_ble_eq_true rfl⟩ rfl rfl (Nat.le_of_ble_eq_true rfl) ⟨Nat.le_of_ble_eq_true rfl, Nat.le_of_ble_eq_true rfl⟩ (fun w18 hw18 => ?_)
  obtain ⟨a19, f19, g19, rfl, hf19, hg19, rfl⟩ := hw18
  refine c_aast C dX1_init_33 1 101 rfl rfl (by unfold vp_in; decide) (ws' := [(h0, .inr (1, [.ref q1, .int 0, .int 0])), (q1, .inl (cy 3, 6, .inr (.inr (.inr (.inr (va_up (va_up (va_up (va_up (va_up (va_up (fun _ => none) (0 : Int32).toNatClampNeg (some (a4 0))) (1 : Int32).toNatClampNeg (some (a7 0))) (2 : Int32).toNatClampNeg (some (a10 0))) (3 : Int32).toNatClampNeg (some (a13 0))) (4 : Int32).toNatClampNeg (some (a16 0))) (5 : Int32).toNatClampNeg (some (a19 0))))))))] ++ blkT cy a4 f4 g4 ++ blkT cy a7 f7 g7 ++ blkT cy a10 f10 g10 ++ blkT cy a13 f13 g13 ++ blkT cy a16 f16 g16 ++ blkT cy a19 f19 g19) rfl ?_
  refine c_iinc C dX1_init_34 (v := 6) 0 rfl rfl (by decide) rfl ?_
  refine c_goto C dX1_init_37 (tgt := 15) (by decide) ?_
  refine c_iload_n C dX1_init_15 0 rfl rfl ?_
  refine c_bipush C dX1_init_16 (v := 6) rfl ?_
  refine c_ge C dX1_init_18 (tgt := 40) (by decide) (fun _ => ?_) (fun h => absurd (by decide) h)
  exact hR _ _ _ dX1_init_40 ⟨(fun k => match k with | 0 => h0 | 1 => q1 | _ => 0), (fun k => match k with | 0 => a4 | 1 => a7 | 2 => a10 | 3 => a13 | 4 => a16 | 5 => a19 | _ => fun _ => 0), (fun k => match k with | 0 => f4 | 1 => f7 | 2 => f10 | 3 => f13 | 4 => f16 | 5 => f19 | _ => fun _ => 0), (fun k => match k with | 0 => g4 | 1 => g7 | 2 => g10 | 3 => g13 | 4 => g16 | 5 => g19 | _ => fun _ => 0), rfl, (fun i hi => match i, hi with | 0, _ => ⟨hf4, hg4⟩ | 1, _ => ⟨hf7, hg7⟩ | 2, _ => ⟨hf10, hg10⟩ | 3, _ => ⟨hf13, hg13⟩ | 4, _ => ⟨hf16, hg16⟩ | 5, _ => ⟨hf19, hg19⟩ | i + 6, hi => absurd hi (by omega)), rfl⟩
abbrev rc_X2 : Room := { frames := 3, cells := 36, slots := 578, locals := 63 }
def blk2 (cy : Nat → ClassId) (a : Nat → Nat) (t : Nat → Nat → Nat) (f g : Nat → Nat → Int32) : va_W := [((a 0), .inr (2, [.ref (a 1), .ref (a 2)])), ((a 1), .inl (cy 3, 2, .inr (.inr (.inr (.inr (va_up (va_up (fun _ => none) (0 : Int32).toNatClampNeg (some (t 0 0))) (1 : Int32).toNatClampNeg (some (t 1 0)))))))), ((a 2), .inl (cy 2, 2, .inl (fun _ => 0)))] ++ blkT cy (t 0) (f 0) (g 0) ++ blkT cy (t 1) (f 1) (g 1)
def Po2 (cy : Nat → ClassId) (h0 : Nat) (w : va_W) : Prop := ∃ (a : Nat → Nat) (t : Nat → Nat → Nat) (f g : Nat → Nat → Int32), a 0 = h0 ∧ (∀ i, i < 2 → (∀ j, j < 12 → f i j = -9) ∧ (∀ j, j < 12 → g i j = -9)) ∧ w = blk2 cy a t f g
set_option maxHeartbeats 4000000 in
theorem ct_X2 (cy : Nat → ClassId) (h0 : Nat) : Ct yX2_init cX2_init 2 rc_X2 [.ref h0] cy [(h0, .inr (2, [.null, .null]))] (Po2 cy h0) 36 578 := by
  refine Ct.of (by decide +kernel) (Nat.le_of_ble_eq_true rfl) (fun K C hR => ?_)
  show K 0 [(0, .ref h0)] [] _ 0 0
  refine c_aload_n C dX2_init_0 0 rfl rfl ?_
  refine c_obj C dX2_init_1 lo_X2_3 oi_2 oi_3 ⟨Nat.le_of_ble_eq_true rfl, Nat.le_of_ble_eq_true rfl⟩ ?_
  refine c_aload_n C dX2_init_4 0 rfl rfl ?_
  refine c_iconst C dX2_init_5 (v := 2) rfl ?_
  refine c_newq C dX2_init_6 kl_X2_9 (N' := 2) (by decide) (by decide) (Nat.le_of_ble_eq_true rfl) ⟨Nat.le_of_ble_eq_true rfl, Nat.le_of_ble_eq_true rfl⟩ (fun q1 => ?_)
  refine c_ws ([(h0, .inr (2, [.null, .null])), (q1, .inl (cy 3, 2, .inr (.inr (.inr (.inr (fun _ => none))))))]) rfl ?_
  refine c_put C dX2_init_9 fo_X2_11 0 rfl (Nat.le_of_ble_eq_true rfl) (ws' := [(h0, .inr (2, [.ref q1, .null])), (q1, .inl (cy 3, 2, .inr (.inr (.inr (.inr (fun _ => none))))))]) rfl ?_
  refine c_aload_n C dX2_init_12 0 rfl rfl ?_
  refine c_iconst C dX2_init_13 (v := 2) rfl ?_
  refine c_newZ C dX2_init_14 ka_boolean (N' := 2) (by decide) (by decide) (Nat.le_of_ble_eq_true rfl) ⟨Nat.le_of_ble_eq_true rfl, Nat.le_of_ble_eq_true rfl⟩ (fun q2 => ?_)
  refine c_ws ([(h0, .inr (2, [.ref q1, .null])), (q1, .inl (cy 3, 2, .inr (.inr (.inr (.inr (fun _ => none)))))), (q2, .inl (cy 2, 2, .inl (fun _ => 0)))]) rfl ?_
  refine c_put C dX2_init_16 fo_X2_17 0 rfl (Nat.le_of_ble_eq_true rfl) (ws' := [(h0, .inr (2, [.ref q1, .ref q2])), (q1, .inl (cy 3, 2, .inr (.inr (.inr (.inr (fun _ => none)))))), (q2, .inl (cy 2, 2, .inl (fun _ => 0)))]) rfl ?_
  refine c_iconst C dX2_init_19 (v := 0) rfl ?_
  refine c_istore_n C dX2_init_20 rfl (by decide) rfl ?_
  refine c_iload_n C dX2_init_21 0 rfl rfl ?_
  refine c_iconst C dX2_init_22 (v := 2) rfl ?_
  refine c_ge C dX2_init_23 (tgt := 45) (by decide) (fun h => absurd h (by decide)) (fun _ => ?_)
  refine c_aload_n C dX2_init_26 1 rfl rfl ?_
  refine c_get C dX2_init_27 fl_X2_11 0 rfl rfl ?_
  refine c_iload_n C dX2_init_30 0 rfl rfl ?_
  refine c_new C dX2_init_31 kl_X2_9 kn_X7 ki_X7 in_X7 tyX7 tyX7_ok (ci := 7) rfl dv_X7 ⟨Nat.le_of_ble_eq_true rfl, Nat.le_of_ble_eq_true rfl⟩ (fun q3 => ?_)
  refine c_dup C dX2_init_34 rfl ?_
  refine c_callL C (cN := 3) (sN := 23) (ws := [(h0, .inr (2, [.ref q1, .ref q2])), (q1, .inl (cy 3, 2, .inr (.inr (.inr (.inr (fun _ => none)))))), (q2, .inl (cy 2, 2, .inl (fun _ => 0)))]) (As := []) (st := [.ref q3, .int 0, .ref q1]) dX2_init_35 lk_X2_21 mw_X7_init (ct_X7 cy q3) ⟨rfl, rfl, Nat.le_of_ble_eq_true rfl, Nat.le_of_ble_eq_true rfl⟩ rfl rfl (Nat.le_of_ble_eq_true rfl) ⟨Nat.le_of_ble_eq_true rfl, Nat.le_of_ble_eq_true rfl⟩ (fun w4 hw4 => ?_)
  obtain ⟨a5, f5, g5, rfl, hf5, hg5, rfl⟩ := hw4
  refine c_aast C dX2_init_38 1 17 rfl rfl (by unfold vp_in; decide) (ws' := [(h0, .inr (2, [.ref q1, .ref q2])), (q1, .inl (cy 3, 2, .inr (.inr (.inr (.inr (va_up (fun _ => none) (0 : Int32).toNatClampNeg (some (a5 0)))))))), (q2, .inl (cy 2, 2, .inl (fun _ => 0)))] ++ blkT cy a5 f5 g5) rfl ?_
  refine c_iinc C dX2_init_39 (v := 1) 0 rfl rfl (by decide) rfl ?_
  refine c_goto C dX2_init_42 (tgt := 21) (by decide) ?_
  refine c_iload_n C dX2_init_21 0 rfl rfl ?_
  refine c_iconst C dX2_init_22 (v := 2) rfl ?_
  refine c_ge C dX2_init_23 (tgt := 45) (by decide) (fun h => absurd h (by decide)) (fun _ => ?_)
  refine c_aload_n C dX2_init_26 1 rfl rfl ?_
  refine c_get C dX2_init_27 fl_X2_11 0 rfl rfl ?_
  refine c_iload_n C dX2_init_30 0 rfl rfl ?_
  refine c_new C dX2_init_31 kl_X2_9 kn_X7 ki_X7 in_X7 tyX7 tyX7_ok (ci := 7) rfl dv_X7 ⟨Nat.le_of_ble_eq_true rfl, Nat.le_of_ble_eq_true rfl⟩ (fun q6 => ?_)
  refine c_dup C dX2_init_34 rfl ?_
  refine c_callL C (cN := 20) (sN := 310) (ws := [(h0, .inr (2, [.ref q1, .ref q2])), (q1, .inl (cy 3, 2, .inr (.inr (.inr (.inr (va_up (fun _ => none) (0 : Int32).toNatClampNeg (some (a5 0)))))))), (q2, .inl (cy 2, 2, .inl (fun _ => 0)))] ++ blkT cy a5 f5 g5) (As := []) (st := [.ref q6, .int 1, .ref q1]) dX2_init_35 lk_X2_21 mw_X7_init (ct_X7 cy q6) ⟨rfl, rfl, Nat.le_of_ble_eq_true rfl, Nat.le_of_ble_eq_true rfl⟩ rfl rfl (Nat.le_of_ble_eq_true rfl) ⟨Nat.le_of_ble_eq_true rfl, Nat.le_of_ble_eq_true rfl⟩ (fun w7 hw7 => ?_)
  obtain ⟨a8, f8, g8, rfl, hf8, hg8, rfl⟩ := hw7
  refine c_aast C dX2_init_38 1 34 rfl rfl (by unfold vp_in; decide) (ws' := [(h0, .inr (2, [.ref q1, .ref q2])), (q1, .inl (cy 3, 2, .inr (.inr (.inr (.inr (va_up (va_up (fun _ => none) (0 : Int32).toNatClampNeg (some (a5 0))) (1 : Int32).toNatClampNeg (some (a8 0)))))))), (q2, .inl (cy 2, 2, .inl (fun _ => 0)))] ++ blkT cy a5 f5 g5 ++ blkT cy a8 f8 g8) rfl ?_
  refine c_iinc C dX2_init_39 (v := 2) 0 rfl rfl (by decide) rfl ?_
  refine c_goto C dX2_init_42 (tgt := 21) (by decide) ?_
  refine c_iload_n C dX2_init_21 0 rfl rfl ?_
  refine c_iconst C dX2_init_22 (v := 2) rfl ?_
  refine c_ge C dX2_init_23 (tgt := 45) (by decide) (fun _ => ?_) (fun h => absurd (by decide) h)
  exact hR _ _ _ dX2_init_45 ⟨(fun k => match k with | 0 => h0 | 1 => q1 | 2 => q2 | _ => 0), (fun k => match k with | 0 => a5 | 1 => a8 | _ => fun _ => 0), (fun k => match k with | 0 => f5 | 1 => f8 | _ => fun _ => 0), (fun k => match k with | 0 => g5 | 1 => g8 | _ => fun _ => 0), rfl, (fun i hi => match i, hi with | 0, _ => ⟨hf5, hg5⟩ | 1, _ => ⟨hf8, hg8⟩ | i + 2, hi => absurd hi (by omega)), rfl⟩
abbrev rc_X8 : Room := { frames := 4, cells := 179, slots := 2822, locals := 84 }
def blk8 (cy : Nat → ClassId) (h0 : Nat) (aR bR aT aN : Nat → Nat) (fN gN : Nat → Int32) (aE aH : Nat → Nat) (tH : Nat → Nat → Nat) (fH gH : Nat → Nat → Int32) (aI : Nat → Nat) (tI : Nat → Nat → Nat) (fI gI : Nat → Nat → Int32) (aL aS : Nat → Nat) : va_W := [(h0, .inr (8, [.ref (aR 0), .ref (aT 0), .ref (aN 0), .ref (aE 0), .ref (aH 0), .ref (aI 0), .ref (aL 0), .ref (aS 0)]))] ++ blk4 cy aR bR ++ blk6 cy aT ++ blkT cy aN fN gN ++ blk0 cy aE (aT 0) (aN 0) ++ blk1 cy aH tH fH gH ++ blk2 cy aI tI fI gI ++ blk3 cy aL ++ blk5 cy aS
def Po8 (cy : Nat → ClassId) (h0 : Nat) (w : va_W) : Prop := ∃ (aR bR aT aN : Nat → Nat) (fN gN : Nat → Int32) (aE aH : Nat → Nat) (tH : Nat → Nat → Nat) (fH gH : Nat → Nat → Int32) (aI : Nat → Nat) (tI : Nat → Nat → Nat) (fI gI : Nat → Nat → Int32) (aL aS : Nat → Nat), ((∀ j, j < 12 → fN j = -9) ∧ (∀ j, j < 12 → gN j = -9)) ∧ (∀ i, i < 6 → (∀ j, j < 12 → fH i j = -9) ∧ (∀ j, j < 12 → gH i j = -9)) ∧ (∀ i, i < 2 → (∀ j, j < 12 → fI i j = -9) ∧ (∀ j, j < 12 → gI i j = -9)) ∧ w = blk8 cy h0 aR bR aT aN fN gN aE aH tH fH gH aI tI fI gI aL aS
set_option maxHeartbeats 4000000 in
theorem ct_X8 (cy : Nat → ClassId) (h0 : Nat) : Ct yX8_init cX8_init 1 rc_X8 [.ref h0] cy [(h0, .inr (8, [.null, .null, .null, .null, .null, .null, .null, .null]))] (Po8 cy h0) 179 2822 := by
  refine Ct.of (by decide +kernel) (Nat.le_of_ble_eq_true rfl) (fun K C hR => ?_)
  show K 0 [(0, .ref h0)] [] _ 0 0
  refine c_aload_n C dX8_init_0 0 rfl rfl ?_
  refine c_obj C dX8_init_1 lo_X8_1 oi_2 oi_3 ⟨Nat.le_of_ble_eq_true rfl, Nat.le_of_ble_eq_true rfl⟩ ?_
  refine c_aload_n C dX8_init_4 0 rfl rfl ?_
  refine c_new C dX8_init_5 kl_X8_7 kn_X4 ki_X4 in_X4 tyX4 tyX4_ok (ci := 4) rfl dv_X4 ⟨Nat.le_of_ble_eq_true rfl, Nat.le_of_ble_eq_true rfl⟩ (fun q1 => ?_)
  refine c_dup C dX8_init_8 rfl ?_
  refine c_callL C (cN := 1) (sN := 8) (ws := [(h0, .inr (8, [.null, .null, .null, .null, .null, .null, .null, .null]))]) (As := []) (st := [.ref q1, .ref h0]) dX8_init_9 lk_X8_9 mw_X4_init (ct_X4 cy q1) ⟨rfl, rfl, Nat.le_of_ble_eq_true rfl, Nat.le_of_ble_eq_true rfl⟩ rfl rfl (Nat.le_of_ble_eq_true rfl) ⟨Nat.le_of_ble_eq_true rfl, Nat.le_of_ble_eq_true rfl⟩ (fun w2 hw2 => ?_)
  obtain ⟨a3, b3, rfl, rfl⟩ := hw2
  refine c_put C dX8_init_12 fo_X8_10 0 rfl (Nat.le_of_ble_eq_true rfl) (ws' := [(h0, .inr (8, [.ref (a3 0), .null, .null, .null, .null, .null, .null, .null]))] ++ blk4 cy a3 b3) rfl ?_
  refine c_aload_n C dX8_init_15 0 rfl rfl ?_
  refine c_new C dX8_init_16 kl_X8_16 kn_X6 ki_X6 in_X6 tyX6 tyX6_ok (ci := 6) rfl dv_X6 ⟨Nat.le_of_ble_eq_true rfl, Nat.le_of_ble_eq_true rfl⟩ (fun q4 => ?_)
  refine c_dup C dX8_init_19 rfl ?_
  refine c_callL C (cN := 9) (sN := 160) (ws := [(h0, .inr (8, [.ref (a3 0), .null, .null, .null, .null, .null, .null, .null]))] ++ blk4 cy a3 b3) (As := []) (st := [.ref q4, .ref h0]) dX8_init_20 lk_X8_18 mw_X6_init (ct_X6 cy q4) ⟨rfl, rfl, Nat.le_of_ble_eq_true rfl, Nat.le_of_ble_eq_true rfl⟩ rfl rfl (Nat.le_of_ble_eq_true rfl) ⟨Nat.le_of_ble_eq_true rfl, Nat.le_of_ble_eq_true rfl⟩ (fun w5 hw5 => ?_)
  obtain ⟨a6, rfl, rfl⟩ := hw5
  refine c_put C dX8_init_23 fo_X8_19 0 rfl (Nat.le_of_ble_eq_true rfl) (ws' := [(h0, .inr (8, [.ref (a3 0), .ref (a6 0), .null, .null, .null, .null, .null, .null]))] ++ blk4 cy a3 b3 ++ blk6 cy a6) rfl ?_
  refine c_aload_n C dX8_init_26 0 rfl rfl ?_
  refine c_new C dX8_init_27 kl_X8_23 kn_X7 ki_X7 in_X7 tyX7 tyX7_ok (ci := 7) rfl dv_X7 ⟨Nat.le_of_ble_eq_true rfl, Nat.le_of_ble_eq_true rfl⟩ (fun q7 => ?_)
  refine c_dup C dX8_init_30 rfl ?_
  refine c_callL C (cN := 14) (sN := 196) (ws := [(h0, .inr (8, [.ref (a3 0), .ref (a6 0), .null, .null, .null, .null, .null, .null]))] ++ blk4 cy a3 b3 ++ blk6 cy a6) (As := []) (st := [.ref q7, .ref h0]) dX8_init_31 lk_X8_25 mw_X7_init (ct_X7 cy q7) ⟨rfl, rfl, Nat.le_of_ble_eq_true rfl, Nat.le_of_ble_eq_true rfl⟩ rfl rfl (Nat.le_of_ble_eq_true rfl) ⟨Nat.le_of_ble_eq_true rfl, Nat.le_of_ble_eq_true rfl⟩ (fun w8 hw8 => ?_)
  obtain ⟨a9, f9, g9, rfl, hf9, hg9, rfl⟩ := hw8
  refine c_put C dX8_init_34 fo_X8_26 0 rfl (Nat.le_of_ble_eq_true rfl) (ws' := [(h0, .inr (8, [.ref (a3 0), .ref (a6 0), .ref (a9 0), .null, .null, .null, .null, .null]))] ++ blk4 cy a3 b3 ++ blk6 cy a6 ++ blkT cy a9 f9 g9) rfl ?_
  refine c_aload_n C dX8_init_37 0 rfl rfl ?_
  refine c_new C dX8_init_38 kl_X8_30 kn_X0 ki_X0 in_X0 tyX0 tyX0_ok (ci := 0) rfl dv_X0 ⟨Nat.le_of_ble_eq_true rfl, Nat.le_of_ble_eq_true rfl⟩ (fun q10 => ?_)
  refine c_dup C dX8_init_41 rfl ?_
  refine c_aload_n C dX8_init_42 0 rfl rfl ?_
  refine c_get C dX8_init_43 fl_X8_19 0 rfl rfl ?_
  refine c_aload_n C dX8_init_46 0 rfl rfl ?_
  refine c_get C dX8_init_47 fl_X8_26 0 rfl rfl ?_
  refine c_callL C (cN := 31) (sN := 469) (ws := [(h0, .inr (8, [.ref (a3 0), .ref (a6 0), .ref (a9 0), .null, .null, .null, .null, .null]))] ++ blk4 cy a3 b3 ++ blk6 cy a6 ++ blkT cy a9 f9 g9) (As := [.ref (a6 0), .ref (a9 0)]) (st := [.ref q10, .ref h0]) dX8_init_50 lk_X8_32 mw_X0_init (ct_X0 cy q10 (a6 0) (a9 0)) ⟨rfl, rfl, Nat.le_of_ble_eq_true rfl, Nat.le_of_ble_eq_true rfl⟩ rfl rfl (Nat.le_of_ble_eq_true rfl) ⟨Nat.le_of_ble_eq_true rfl, Nat.le_of_ble_eq_true rfl⟩ (fun w11 hw11 => ?_)
  obtain ⟨a12, rfl, rfl⟩ := hw11
  refine c_put C dX8_init_53 fo_X8_35 0 rfl (Nat.le_of_ble_eq_true rfl) (ws' := [(h0, .inr (8, [.ref (a3 0), .ref (a6 0), .ref (a9 0), .ref (a12 0), .null, .null, .null, .null]))] ++ blk4 cy a3 b3 ++ blk6 cy a6 ++ blkT cy a9 f9 g9 ++ blk0 cy a12 (a6 0) (a9 0)) rfl ?_
  refine c_aload_n C dX8_init_56 0 rfl rfl ?_
  refine c_new C dX8_init_57 kl_X8_39 kn_X1 ki_X1 in_X1 tyX1 tyX1_ok (ci := 1) rfl dv_X1 ⟨Nat.le_of_ble_eq_true rfl, Nat.le_of_ble_eq_true rfl⟩ (fun q13 => ?_)
  refine c_dup C dX8_init_60 rfl ?_
  refine c_callL C (cN := 34) (sN := 489) (ws := [(h0, .inr (8, [.ref (a3 0), .ref (a6 0), .ref (a9 0), .ref (a12 0), .null, .null, .null, .null]))] ++ blk4 cy a3 b3 ++ blk6 cy a6 ++ blkT cy a9 f9 g9 ++ blk0 cy a12 (a6 0) (a9 0)) (As := []) (st := [.ref q13, .ref h0]) dX8_init_61 lk_X8_41 mw_X1_init (ct_X1 cy q13) ⟨rfl, rfl, Nat.le_of_ble_eq_true rfl, Nat.le_of_ble_eq_true rfl⟩ rfl rfl (Nat.le_of_ble_eq_true rfl) ⟨Nat.le_of_ble_eq_true rfl, Nat.le_of_ble_eq_true rfl⟩ (fun w14 hw14 => ?_)
  obtain ⟨a15, t15, f15, g15, rfl, hf15, rfl⟩ := hw14
  refine c_put C dX8_init_64 fo_X8_42 0 rfl (Nat.le_of_ble_eq_true rfl) (ws' := [(h0, .inr (8, [.ref (a3 0), .ref (a6 0), .ref (a9 0), .ref (a12 0), .ref (a15 0), .null, .null, .null]))] ++ blk4 cy a3 b3 ++ blk6 cy a6 ++ blkT cy a9 f9 g9 ++ blk0 cy a12 (a6 0) (a9 0) ++ blk1 cy a15 t15 f15 g15) rfl ?_
  refine c_aload_n C dX8_init_67 0 rfl rfl ?_
  refine c_new C dX8_init_68 kl_X8_46 kn_X2 ki_X2 in_X2 tyX2 tyX2_ok (ci := 2) rfl dv_X2 ⟨Nat.le_of_ble_eq_true rfl, Nat.le_of_ble_eq_true rfl⟩ (fun q16 => ?_)
  refine c_dup C dX8_init_71 rfl ?_
  refine c_callL C (cN := 138) (sN := 2219) (ws := [(h0, .inr (8, [.ref (a3 0), .ref (a6 0), .ref (a9 0), .ref (a12 0), .ref (a15 0), .null, .null, .null]))] ++ blk4 cy a3 b3 ++ blk6 cy a6 ++ blkT cy a9 f9 g9 ++ blk0 cy a12 (a6 0) (a9 0) ++ blk1 cy a15 t15 f15 g15) (As := []) (st := [.ref q16, .ref h0]) dX8_init_72 lk_X8_48 mw_X2_init (ct_X2 cy q16) ⟨rfl, rfl, Nat.le_of_ble_eq_true rfl, Nat.le_of_ble_eq_true rfl⟩ rfl rfl (Nat.le_of_ble_eq_true rfl) ⟨Nat.le_of_ble_eq_true rfl, Nat.le_of_ble_eq_true rfl⟩ (fun w17 hw17 => ?_)
  obtain ⟨a18, t18, f18, g18, rfl, hf18, rfl⟩ := hw17
  refine c_put C dX8_init_75 fo_X8_49 0 rfl (Nat.le_of_ble_eq_true rfl) (ws' := [(h0, .inr (8, [.ref (a3 0), .ref (a6 0), .ref (a9 0), .ref (a12 0), .ref (a15 0), .ref (a18 0), .null, .null]))] ++ blk4 cy a3 b3 ++ blk6 cy a6 ++ blkT cy a9 f9 g9 ++ blk0 cy a12 (a6 0) (a9 0) ++ blk1 cy a15 t15 f15 g15 ++ blk2 cy a18 t18 f18 g18) rfl ?_
  refine c_aload_n C dX8_init_78 0 rfl rfl ?_
  refine c_new C dX8_init_79 kl_X8_53 kn_X3 ki_X3 in_X3 tyX3 tyX3_ok (ci := 3) rfl dv_X3 ⟨Nat.le_of_ble_eq_true rfl, Nat.le_of_ble_eq_true rfl⟩ (fun q19 => ?_)
  refine c_dup C dX8_init_82 rfl ?_
  refine c_callL C (cN := 175) (sN := 2800) (ws := [(h0, .inr (8, [.ref (a3 0), .ref (a6 0), .ref (a9 0), .ref (a12 0), .ref (a15 0), .ref (a18 0), .null, .null]))] ++ blk4 cy a3 b3 ++ blk6 cy a6 ++ blkT cy a9 f9 g9 ++ blk0 cy a12 (a6 0) (a9 0) ++ blk1 cy a15 t15 f15 g15 ++ blk2 cy a18 t18 f18 g18) (As := []) (st := [.ref q19, .ref h0]) dX8_init_83 lk_X8_55 mw_X3_init (ct_X3 cy q19) ⟨rfl, rfl, Nat.le_of_ble_eq_true rfl, Nat.le_of_ble_eq_true rfl⟩ rfl rfl (Nat.le_of_ble_eq_true rfl) ⟨Nat.le_of_ble_eq_true rfl, Nat.le_of_ble_eq_true rfl⟩ (fun w20 hw20 => ?_)
  obtain ⟨a21, rfl, rfl⟩ := hw20
  refine c_put C dX8_init_86 fo_X8_56 0 rfl (Nat.le_of_ble_eq_true rfl) (ws' := [(h0, .inr (8, [.ref (a3 0), .ref (a6 0), .ref (a9 0), .ref (a12 0), .ref (a15 0), .ref (a18 0), .ref (a21 0), .null]))] ++ blk4 cy a3 b3 ++ blk6 cy a6 ++ blkT cy a9 f9 g9 ++ blk0 cy a12 (a6 0) (a9 0) ++ blk1 cy a15 t15 f15 g15 ++ blk2 cy a18 t18 f18 g18 ++ blk3 cy a21) rfl ?_
  refine c_aload_n C dX8_init_89 0 rfl rfl ?_
  refine c_new C dX8_init_90 kl_X8_60 kn_X5 ki_X5 in_X5 tyX5 tyX5_ok (ci := 5) rfl dv_X5 ⟨Nat.le_of_ble_eq_true rfl, Nat.le_of_ble_eq_true rfl⟩ (fun q22 => ?_)
  refine c_dup C dX8_init_93 rfl ?_
  refine c_callL C (cN := 177) (sN := 2810) (ws := [(h0, .inr (8, [.ref (a3 0), .ref (a6 0), .ref (a9 0), .ref (a12 0), .ref (a15 0), .ref (a18 0), .ref (a21 0), .null]))] ++ blk4 cy a3 b3 ++ blk6 cy a6 ++ blkT cy a9 f9 g9 ++ blk0 cy a12 (a6 0) (a9 0) ++ blk1 cy a15 t15 f15 g15 ++ blk2 cy a18 t18 f18 g18 ++ blk3 cy a21) (As := []) (st := [.ref q22, .ref h0]) dX8_init_94 lk_X8_62 mw_X5_init (ct_X5 cy q22) ⟨rfl, rfl, Nat.le_of_ble_eq_true rfl, Nat.le_of_ble_eq_true rfl⟩ rfl rfl (Nat.le_of_ble_eq_true rfl) ⟨Nat.le_of_ble_eq_true rfl, Nat.le_of_ble_eq_true rfl⟩ (fun w23 hw23 => ?_)
  obtain ⟨a24, rfl, rfl⟩ := hw23
  refine c_put C dX8_init_97 fo_X8_63 0 rfl (Nat.le_of_ble_eq_true rfl) (ws' := [(h0, .inr (8, [.ref (a3 0), .ref (a6 0), .ref (a9 0), .ref (a12 0), .ref (a15 0), .ref (a18 0), .ref (a21 0), .ref (a24 0)]))] ++ blk4 cy a3 b3 ++ blk6 cy a6 ++ blkT cy a9 f9 g9 ++ blk0 cy a12 (a6 0) (a9 0) ++ blk1 cy a15 t15 f15 g15 ++ blk2 cy a18 t18 f18 g18 ++ blk3 cy a21 ++ blk5 cy a24) rfl ?_
  exact hR _ _ _ dX8_init_100 ⟨a3, b3, a6, a9, f9, g9, a12, a15, t15, f15, g15, a18, t18, f18, g18, a21, a24, ⟨hf9, hg9⟩, hf15, hf18, rfl⟩
