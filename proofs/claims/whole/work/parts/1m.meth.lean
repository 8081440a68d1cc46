-- X9_chanceBy
abbrev rm_X9_chanceBy : Room := { frames := 1, cells := 0, slots := 0, locals := 21 }
def f_X9_chanceBy_21 (s0 : Int32) (S : St) : Option (Int32 × St) :=
    some (s0, S)
set_option maxHeartbeats 1000000 in
theorem b_X9_chanceBy_21 {K : Kt} {adr : Nat → Nat} {r : Int32 × St} (C : Cx K cX9_chanceBy RX9 3 adr rm_X9_chanceBy) (hR : ∀ (pc : Nat) (lv : List (Nat × Value)), decode cX9_chanceBy pc = .ok (.ireturn, 1) → K pc lv [.int r.1] r.2) (s0 : Int32) (S : St) : J K r (f_X9_chanceBy_21 s0 S) 21 [] [.int s0] S := by
    unfold f_X9_chanceBy_21
    exact j_iret hR dX9_chanceBy_21
def f_X9_chanceBy (x0 : Int32) (x1 : Int32) (S : St) : Option (Int32 × St) :=
  lt ((10 * x0) - x1) fun v1 =>
  if 0 ≤ v1 then (bd (f_X9_lesser v1 10 S) fun v3 S2 =>
    f_X9_chanceBy_21 v3 S2)
  else (f_X9_chanceBy_21 0 S)
set_option maxHeartbeats 1000000 in
theorem m_X9_chanceBy (adr : Nat → Nat) (x0 : Int32) (x1 : Int32) : MtI yX9_chanceBy cX9_chanceBy 3 (some .int) rm_X9_chanceBy adr [.int x0, .int x1] (f_X9_chanceBy x0 x1) := by
  refine MtI.of (by decide +kernel) (Nat.le_of_ble_eq_true rfl) (fun K r S C hR => ?_)
  refine j_start (lv' := [(0, .int x0), (1, .int x1)]) rfl ?_
  unfold f_X9_chanceBy
  refine j_bipush C dX9_chanceBy_0 (v := 10) rfl ?_
  refine j_iload_n C dX9_chanceBy_2 0 rfl rfl ?_
  refine j_imul C dX9_chanceBy_3 ?_
  refine j_iload_n C dX9_chanceBy_4 1 rfl rfl ?_
  refine j_isub C dX9_chanceBy_5 ?_
  refine j_topi (fun v1 => ?_)
  refine j_istore_n C dX9_chanceBy_6 rfl (by decide) rfl ?_
  refine j_iload_n C dX9_chanceBy_7 0 rfl rfl ?_
  refine j_if_ge C dX9_chanceBy_8 (tgt := 15) (by decide) ?_ ?_
  · refine j_iload_n C dX9_chanceBy_15 0 rfl rfl ?_
    refine j_bipush C dX9_chanceBy_16 (v := 10) rfl ?_
    refine j_csi C dX9_chanceBy_18 lk_X9_148 mw_X9_lesser (m_X9_lesser adr v1 10) ⟨rfl, rfl, Nat.le_of_ble_eq_true rfl, Nat.le_of_ble_eq_true rfl⟩ rfl (st := []) (st0 := [.int 10, .int v1]) rfl (Nat.le_of_ble_eq_true rfl) (fun v3 S2 => ?_)
    refine j_sub C [] rfl ?_
    exact b_X9_chanceBy_21 C hR v3 S2
  · refine j_iconst C dX9_chanceBy_11 (v := 0) rfl ?_
    refine j_goto C dX9_chanceBy_12 (tgt := 21) (by decide) ?_
    refine j_sub C [] rfl ?_
    exact b_X9_chanceBy_21 C hR 0 S
-- X9_chance
abbrev rm_X9_chance : Room := { frames := 3, cells := 0, slots := 0, locals := 66 }
def f_X9_chance (x1 : Int32) (S : St) : Option (Int32 × St) :=
  bd (f_X9_free x1 S) fun v2 S1 =>
  ck (216 + x1) 2547 (bd (f_X9_chanceBy v2 (S1.1 28 (216 + x1).toNatClampNeg) S1) fun v4 S3 =>
  some (v4, S3))
set_option maxHeartbeats 1000000 in
theorem m_X9_chance (adr : Nat → Nat) (x1 : Int32) : MtI yX9_chance cX9_chance 2 (some .int) rm_X9_chance adr [.ref (adr 27), .int x1] (f_X9_chance x1) := by
  refine MtI.of (by decide +kernel) (Nat.le_of_ble_eq_true rfl) (fun K r S C hR => ?_)
  refine j_start (lv' := [(0, .ref (adr 27)), (1, .int x1)]) rfl ?_
  unfold f_X9_chance
  refine j_aload_n C dX9_chance_0 0 rfl rfl ?_
  refine j_iload_n C dX9_chance_1 1 rfl rfl ?_
  refine j_cvi C dX9_chance_2 lk_X9_151 mw_X9_free (m_X9_free adr x1) ⟨rfl, rfl, Nat.le_of_ble_eq_true rfl, Nat.le_of_ble_eq_true rfl⟩ kd_27 (by decide) (Nat.le_of_ble_eq_true rfl) rfl rfl (st := []) (st0 := [.int x1, .ref (adr 27)]) rfl (Nat.le_of_ble_eq_true rfl) (fun v2 S1 => ?_)
  refine j_aload_n C dX9_chance_5 0 rfl rfl ?_
  refine j_getr C dX9_chance_6 fl_X9_7 kd_27 (by decide) (Nat.le_of_ble_eq_true rfl) rfl ?_
  refine j_sipush C dX9_chance_9 (v := 216) rfl ?_
  refine j_iload_n C dX9_chance_12 1 rfl rfl ?_
  refine j_iadd C dX9_chance_13 ?_
  refine j_iald C dX9_chance_14 kd_28 (Nat.le_of_ble_eq_true rfl) ?_
  refine j_csi C dX9_chance_15 lk_X9_154 mw_X9_chanceBy (m_X9_chanceBy adr v2 (S1.1 28 (216 + x1).toNatClampNeg)) ⟨rfl, rfl, Nat.le_of_ble_eq_true rfl, Nat.le_of_ble_eq_true rfl⟩ rfl (st := []) (st0 := [.int (S1.1 28 (216 + x1).toNatClampNeg), .int v2]) rfl (Nat.le_of_ble_eq_true rfl) (fun v4 S3 => ?_)
  exact j_iret hR dX9_chance_18
-- X9_counts
abbrev rm_X9_counts : Room := { frames := 0, cells := 0, slots := 0, locals := 0 }
def f_X9_counts (x1 : Int32) (x2 : Int32) (S : St) : Option (St) :=
  ck (((220 + (6 * x1)) + x2) - 6) 2547 (ck (((220 + (6 * x1)) + x2) - 6) 2547 (lt (upI S 28 (((220 + (6 * x1)) + x2) - 6).toNatClampNeg ((S.1 28 (((220 + (6 * x1)) + x2) - 6).toNatClampNeg) + 1)) fun S1 =>
  some S1))
set_option maxHeartbeats 1000000 in
theorem m_X9_counts (adr : Nat → Nat) (x1 : Int32) (x2 : Int32) : MtV yX9_counts cX9_counts 3 none rm_X9_counts adr [.ref (adr 27), .int x1, .int x2] (f_X9_counts x1 x2) := by
  refine MtV.of (by decide +kernel) (Nat.le_of_ble_eq_true rfl) (fun K r S C hR => ?_)
  refine j_start (lv' := [(0, .ref (adr 27)), (1, .int x1), (2, .int x2)]) rfl ?_
  unfold f_X9_counts
  refine j_aload_n C dX9_counts_0 0 rfl rfl ?_
  refine j_getr C dX9_counts_1 fl_X9_7 kd_27 (by decide) (Nat.le_of_ble_eq_true rfl) rfl ?_
  refine j_sipush C dX9_counts_4 (v := 220) rfl ?_
  refine j_bipush C dX9_counts_7 (v := 6) rfl ?_
  refine j_iload_n C dX9_counts_9 1 rfl rfl ?_
  refine j_imul C dX9_counts_10 ?_
  refine j_iadd C dX9_counts_11 ?_
  refine j_iload_n C dX9_counts_12 2 rfl rfl ?_
  refine j_iadd C dX9_counts_13 ?_
  refine j_bipush C dX9_counts_14 (v := 6) rfl ?_
  refine j_isub C dX9_counts_16 ?_
  refine j_dup2 C dX9_counts_17 rfl rfl ?_
  refine j_iald C dX9_counts_18 kd_28 (Nat.le_of_ble_eq_true rfl) ?_
  refine j_iconst C dX9_counts_19 (v := 1) rfl ?_
  refine j_iadd C dX9_counts_20 ?_
  refine j_iast C dX9_counts_21 kd_28 (Nat.le_of_ble_eq_true rfl) (fun S1 => ?_)
  exact j_vret hR dX9_counts_22
-- X9_draw
abbrev rm_X9_draw : Room := { frames := 0, cells := 0, slots := 0, locals := 0 }
def f_X9_draw  (S : St) : Option (Int32 × St) :=
  ck 281 2547 (ck 281 2547 (lt (upI S 28 (281 : Int32).toNatClampNeg (((S.1 28 (281 : Int32).toNatClampNeg) * 69069) + 1)) fun S1 =>
  ck 281 2547 (lt (((S1.1 28 (281 : Int32).toNatClampNeg).toUInt32 >>> ((16 : Int32).toUInt32 &&& Int32.toUInt32 31)).toInt32) fun v2 =>
  nz 10 (some (v2 - v2 / 10 * 10, S1)))))
set_option maxHeartbeats 1000000 in
theorem m_X9_draw (adr : Nat → Nat)  : MtI yX9_draw cX9_draw 1 (some .int) rm_X9_draw adr [.ref (adr 27)] (f_X9_draw ) := by
  refine MtI.of (by decide +kernel) (Nat.le_of_ble_eq_true rfl) (fun K r S C hR => ?_)
  refine j_start (lv' := [(0, .ref (adr 27))]) rfl ?_
  unfold f_X9_draw
  refine j_aload_n C dX9_draw_0 0 rfl rfl ?_
  refine j_getr C dX9_draw_1 fl_X9_7 kd_27 (by decide) (Nat.le_of_ble_eq_true rfl) rfl ?_
  refine j_sipush C dX9_draw_4 (v := 281) rfl ?_
  refine j_aload_n C dX9_draw_7 0 rfl rfl ?_
  refine j_getr C dX9_draw_8 fl_X9_7 kd_27 (by decide) (Nat.le_of_ble_eq_true rfl) rfl ?_
  refine j_sipush C dX9_draw_11 (v := 281) rfl ?_
  refine j_iald C dX9_draw_14 kd_28 (Nat.le_of_ble_eq_true rfl) ?_
  refine j_ldc C dX9_draw_15 kc_X9_157 ?_
  refine j_imul C dX9_draw_17 ?_
  refine j_iconst C dX9_draw_18 (v := 1) rfl ?_
  refine j_iadd C dX9_draw_19 ?_
  refine j_iast C dX9_draw_20 kd_28 (Nat.le_of_ble_eq_true rfl) (fun S1 => ?_)
  refine j_aload_n C dX9_draw_21 0 rfl rfl ?_
  refine j_getr C dX9_draw_22 fl_X9_7 kd_27 (by decide) (Nat.le_of_ble_eq_true rfl) rfl ?_
  refine j_sipush C dX9_draw_25 (v := 281) rfl ?_
  refine j_iald C dX9_draw_28 kd_28 (Nat.le_of_ble_eq_true rfl) ?_
  refine j_bipush C dX9_draw_29 (v := 16) rfl ?_
  refine j_iushr C dX9_draw_31 ?_
  refine j_topi (fun v2 => ?_)
  refine j_bipush C dX9_draw_32 (v := 10) rfl ?_
  refine j_irem C dX9_draw_34 ?_
  exact j_iret hR dX9_draw_35
-- X9_offers
abbrev rm_X9_offers : Room := { frames := 4, cells := 0, slots := 0, locals := 87 }
def f_X9_offers_102 : Nat → Int32 → Int32 → Int32 → Int32 → St → Option (Int32 × St)
  | 0, _, _, _, _, _ => none
  | n + 1, x1, x2, x4, x5, S =>
    if 18 ≤ x5 then (bdV (f_X9_set x4 0 1 S) fun S16 =>
      bdV (f_X9_set x4 1 x1 S16) fun S17 =>
      bdV (f_X9_set x4 2 (-9) S17) fun S18 =>
      bdV (f_X9_set x4 8 (-9) S18) fun S19 =>
      bdV (f_X9_set x4 (10 + x1) (64 * x2) S19) fun S20 =>
      some (x4, S20))
    else (bdV (f_X9_set x4 x5 0 S) fun S21 =>
      (f_X9_offers_102 n) x1 x2 x4 (x5 + 1) S21)
set_option maxHeartbeats 1000000 in
theorem b_X9_offers_102 {K : Kt} {adr : Nat → Nat} {r : Int32 × St} (C : Cx K cX9_offers RX9 6 adr rm_X9_offers) (hR : ∀ (pc : Nat) (lv : List (Nat × Value)), decode cX9_offers pc = .ok (.ireturn, 1) → K pc lv [.int r.1] r.2) : ∀ (n : Nat) (x1 : Int32) (x2 : Int32) (x4 : Int32) (x5 : Int32) (S : St), J K r (f_X9_offers_102 n x1 x2 x4 x5 S) 102 [(0, .ref (adr 27)), (1, .int x1), (2, .int x2), (4, .int x4), (5, .int x5)] [] S := by
  intro n
  induction n with
  | zero => intro x1 x2 x4 x5 S h; cases h
  | succ n ih =>
    intro x1 x2 x4 x5 S
    unfold f_X9_offers_102
    refine j_iload C dX9_offers_102 4 rfl ?_
    refine j_bipush C dX9_offers_104 (v := 18) rfl ?_
    refine j_icmp_ge C dX9_offers_106 (tgt := 124) (by decide) ?_ ?_
    · refine j_aload_n C dX9_offers_124 0 rfl rfl ?_
      refine j_iload C dX9_offers_125 3 rfl ?_
      refine j_iconst C dX9_offers_127 (v := 0) rfl ?_
      refine j_iconst C dX9_offers_128 (v := 1) rfl ?_
      refine j_cvv C dX9_offers_129 lk_X9_179 mw_X9_set (m_X9_set adr x4 0 1) ⟨rfl, rfl, Nat.le_of_ble_eq_true rfl, Nat.le_of_ble_eq_true rfl⟩ kd_27 (by decide) (Nat.le_of_ble_eq_true rfl) rfl rfl (st := []) (st0 := [.int 1, .int 0, .int x4, .ref (adr 27)]) rfl (Nat.le_of_ble_eq_true rfl) (fun S16 => ?_)
      refine j_aload_n C dX9_offers_132 0 rfl rfl ?_
      refine j_iload C dX9_offers_133 3 rfl ?_
      refine j_iconst C dX9_offers_135 (v := 1) rfl ?_
      refine j_iload_n C dX9_offers_136 1 rfl rfl ?_
      refine j_cvv C dX9_offers_137 lk_X9_179 mw_X9_set (m_X9_set adr x4 1 x1) ⟨rfl, rfl, Nat.le_of_ble_eq_true rfl, Nat.le_of_ble_eq_true rfl⟩ kd_27 (by decide) (Nat.le_of_ble_eq_true rfl) rfl rfl (st := []) (st0 := [.int x1, .int 1, .int x4, .ref (adr 27)]) rfl (Nat.le_of_ble_eq_true rfl) (fun S17 => ?_)
      refine j_aload_n C dX9_offers_140 0 rfl rfl ?_
      refine j_iload C dX9_offers_141 3 rfl ?_
      refine j_iconst C dX9_offers_143 (v := 2) rfl ?_
      refine j_bipush C dX9_offers_144 (v := -9) rfl ?_
      refine j_cvv C dX9_offers_146 lk_X9_179 mw_X9_set (m_X9_set adr x4 2 (-9)) ⟨rfl, rfl, Nat.le_of_ble_eq_true rfl, Nat.le_of_ble_eq_true rfl⟩ kd_27 (by decide) (Nat.le_of_ble_eq_true rfl) rfl rfl (st := []) (st0 := [.int (-9), .int 2, .int x4, .ref (adr 27)]) rfl (Nat.le_of_ble_eq_true rfl) (fun S18 => ?_)
      refine j_aload_n C dX9_offers_149 0 rfl rfl ?_
      refine j_iload C dX9_offers_150 3 rfl ?_
      refine j_bipush C dX9_offers_152 (v := 8) rfl ?_
      refine j_bipush C dX9_offers_154 (v := -9) rfl ?_
      refine j_cvv C dX9_offers_156 lk_X9_179 mw_X9_set (m_X9_set adr x4 8 (-9)) ⟨rfl, rfl, Nat.le_of_ble_eq_true rfl, Nat.le_of_ble_eq_true rfl⟩ kd_27 (by decide) (Nat.le_of_ble_eq_true rfl) rfl rfl (st := []) (st0 := [.int (-9), .int 8, .int x4, .ref (adr 27)]) rfl (Nat.le_of_ble_eq_true rfl) (fun S19 => ?_)
      refine j_aload_n C dX9_offers_159 0 rfl rfl ?_
      refine j_iload C dX9_offers_160 3 rfl ?_
      refine j_bipush C dX9_offers_162 (v := 10) rfl ?_
      refine j_iload_n C dX9_offers_164 1 rfl rfl ?_
      refine j_iadd C dX9_offers_165 ?_
      refine j_bipush C dX9_offers_166 (v := 64) rfl ?_
      refine j_iload_n C dX9_offers_168 2 rfl rfl ?_
      refine j_imul C dX9_offers_169 ?_
      refine j_cvv C dX9_offers_170 lk_X9_179 mw_X9_set (m_X9_set adr x4 (10 + x1) (64 * x2)) ⟨rfl, rfl, Nat.le_of_ble_eq_true rfl, Nat.le_of_ble_eq_true rfl⟩ kd_27 (by decide) (Nat.le_of_ble_eq_true rfl) rfl rfl (st := []) (st0 := [.int (64 * x2), .int (10 + x1), .int x4, .ref (adr 27)]) rfl (Nat.le_of_ble_eq_true rfl) (fun S20 => ?_)
      refine j_iload C dX9_offers_173 3 rfl ?_
      exact j_iret hR dX9_offers_175
    · refine j_aload_n C dX9_offers_109 0 rfl rfl ?_
      refine j_iload C dX9_offers_110 3 rfl ?_
      refine j_iload C dX9_offers_112 4 rfl ?_
      refine j_iconst C dX9_offers_114 (v := 0) rfl ?_
      refine j_cvv C dX9_offers_115 lk_X9_179 mw_X9_set (m_X9_set adr x4 x5 0) ⟨rfl, rfl, Nat.le_of_ble_eq_true rfl, Nat.le_of_ble_eq_true rfl⟩ kd_27 (by decide) (Nat.le_of_ble_eq_true rfl) rfl rfl (st := []) (st0 := [.int 0, .int x5, .int x4, .ref (adr 27)]) rfl (Nat.le_of_ble_eq_true rfl) (fun S21 => ?_)
      refine j_iinc C dX9_offers_118 (v := x5 + 1) 4 rfl rfl (by decide) rfl ?_
      refine j_goto C dX9_offers_121 (tgt := 102) (by decide) ?_
      refine j_sub C [1, 2, 3, 4, 0] rfl ?_
      exact ih x1 x2 x4 (x5 + 1) S21
def f_X9_offers_82 : Nat → Int32 → Int32 → Int32 → St → Option (Int32 × St)
  | 0, _, _, _, _ => none
  | n + 1, x1, x2, x4, S =>
    bd (f_X9_get x4 0 S) fun v15 S14 =>
    if v15 = 1 then ((f_X9_offers_82 n) x1 x2 (x4 + 1) S14)
    else (f_X9_offers_102 FU x1 x2 x4 0 S14)
set_option maxHeartbeats 1000000 in
theorem b_X9_offers_82 {K : Kt} {adr : Nat → Nat} {r : Int32 × St} (C : Cx K cX9_offers RX9 6 adr rm_X9_offers) (hR : ∀ (pc : Nat) (lv : List (Nat × Value)), decode cX9_offers pc = .ok (.ireturn, 1) → K pc lv [.int r.1] r.2) : ∀ (n : Nat) (x1 : Int32) (x2 : Int32) (x4 : Int32) (S : St), J K r (f_X9_offers_82 n x1 x2 x4 S) 82 [(0, .ref (adr 27)), (1, .int x1), (2, .int x2), (4, .int x4)] [] S := by
  intro n
  induction n with
  | zero => intro x1 x2 x4 S h; cases h
  | succ n ih =>
    intro x1 x2 x4 S
    unfold f_X9_offers_82
    refine j_aload_n C dX9_offers_82 0 rfl rfl ?_
    refine j_iload C dX9_offers_83 3 rfl ?_
    refine j_iconst C dX9_offers_85 (v := 0) rfl ?_
    refine j_cvi C dX9_offers_86 lk_X9_141 mw_X9_get (m_X9_get adr x4 0) ⟨rfl, rfl, Nat.le_of_ble_eq_true rfl, Nat.le_of_ble_eq_true rfl⟩ kd_27 (by decide) (Nat.le_of_ble_eq_true rfl) rfl rfl (st := []) (st0 := [.int 0, .int x4, .ref (adr 27)]) rfl (Nat.le_of_ble_eq_true rfl) (fun v15 S14 => ?_)
    refine j_iconst C dX9_offers_89 (v := 1) rfl ?_
    refine j_icmp_ne C dX9_offers_90 (tgt := 99) (by decide) ?_ ?_
    · refine j_iconst C dX9_offers_99 (v := 0) rfl ?_
      refine j_istore C dX9_offers_100 (by decide) rfl ?_
      refine j_sub C [1, 2, 3, 4, 0] rfl ?_
      exact b_X9_offers_102 C hR FU x1 x2 x4 0 S14
    · refine j_iinc C dX9_offers_93 (v := x4 + 1) 3 rfl rfl (by decide) rfl ?_
      refine j_goto C dX9_offers_96 (tgt := 82) (by decide) ?_
      refine j_sub C [1, 2, 3, 0] rfl ?_
      exact ih x1 x2 (x4 + 1) S14
def f_X9_offers_72 (x1 : Int32) (x2 : Int32) (S : St) : Option (Int32 × St) :=
    bdV (f_X9_counts x1 7 S) fun S13 =>
    f_X9_offers_82 FU x1 x2 0 S13
set_option maxHeartbeats 1000000 in
theorem b_X9_offers_72 {K : Kt} {adr : Nat → Nat} {r : Int32 × St} (C : Cx K cX9_offers RX9 6 adr rm_X9_offers) (hR : ∀ (pc : Nat) (lv : List (Nat × Value)), decode cX9_offers pc = .ok (.ireturn, 1) → K pc lv [.int r.1] r.2) (x1 : Int32) (x2 : Int32) (S : St) : J K r (f_X9_offers_72 x1 x2 S) 72 [(0, .ref (adr 27)), (1, .int x1), (2, .int x2)] [] S := by
    unfold f_X9_offers_72
    refine j_aload_n C dX9_offers_72 0 rfl rfl ?_
    refine j_iload_n C dX9_offers_73 1 rfl rfl ?_
    refine j_bipush C dX9_offers_74 (v := 7) rfl ?_
    refine j_cvv C dX9_offers_76 lk_X9_170 mw_X9_counts (m_X9_counts adr x1 7) ⟨rfl, rfl, Nat.le_of_ble_eq_true rfl, Nat.le_of_ble_eq_true rfl⟩ kd_27 (by decide) (Nat.le_of_ble_eq_true rfl) rfl rfl (st := []) (st0 := [.int 7, .int x1, .ref (adr 27)]) rfl (Nat.le_of_ble_eq_true rfl) (fun S13 => ?_)
    refine j_iconst C dX9_offers_79 (v := 0) rfl ?_
    refine j_istore C dX9_offers_80 (by decide) rfl ?_
    refine j_sub C [1, 2, 3, 0] rfl ?_
    exact b_X9_offers_82 C hR FU x1 x2 0 S13
def f_X9_offers_69  (S : St) : Option (Int32 × St) :=
    some ((-9), S)
set_option maxHeartbeats 1000000 in
theorem b_X9_offers_69 {K : Kt} {adr : Nat → Nat} {r : Int32 × St} (C : Cx K cX9_offers RX9 6 adr rm_X9_offers) (hR : ∀ (pc : Nat) (lv : List (Nat × Value)), decode cX9_offers pc = .ok (.ireturn, 1) → K pc lv [.int r.1] r.2)  (S : St) : J K r (f_X9_offers_69  S) 69 [] [] S := by
    unfold f_X9_offers_69
    refine j_bipush C dX9_offers_69 (v := -9) rfl ?_
    exact j_iret hR dX9_offers_71
def f_X9_offers_20  (S : St) : Option (Int32 × St) :=
    some ((-1), S)
set_option maxHeartbeats 1000000 in
theorem b_X9_offers_20 {K : Kt} {adr : Nat → Nat} {r : Int32 × St} (C : Cx K cX9_offers RX9 6 adr rm_X9_offers) (hR : ∀ (pc : Nat) (lv : List (Nat × Value)), decode cX9_offers pc = .ok (.ireturn, 1) → K pc lv [.int r.1] r.2)  (S : St) : J K r (f_X9_offers_20  S) 20 [] [] S := by
    unfold f_X9_offers_20
    refine j_iconst C dX9_offers_20 (v := -1) rfl ?_
    exact j_iret hR dX9_offers_21
def f_X9_offers (x1 : Int32) (x2 : Int32) (S : St) : Option (Int32 × St) :=
  bd (f_X9_isCell x1 S) fun v2 S1 =>
  if v2 = 0 then (f_X9_offers_20 S1)
  else (bd (f_X9_in x2.toInt64 0 100 S1) fun v4 S3 =>
    if v4 = 0 then (f_X9_offers_20 S3)
    else (bd (f_X9_calls S3) fun v6 S5 =>
      if v6 = 12 then (some ((-3), S5))
      else (bdV (f_X9_minds S5) fun S7 =>
        bdV (f_X9_counts x1 6 S7) fun S8 =>
        bd (f_X9_chance x1 S8) fun v10 S9 =>
        if v10 = 0 then (f_X9_offers_69 S9)
        else (if 10 ≤ v10 then (f_X9_offers_72 x1 x2 S9)
          else (bd (f_X9_draw S9) fun v12 S11 =>
            if v12 < v10 then (f_X9_offers_72 x1 x2 S11)
            else (f_X9_offers_69 S11))))))
set_option maxHeartbeats 1000000 in
theorem m_X9_offers (adr : Nat → Nat) (x1 : Int32) (x2 : Int32) : MtI yX9_offers cX9_offers 6 (some .int) rm_X9_offers adr [.ref (adr 27), .int x1, .int x2] (f_X9_offers x1 x2) := by
  refine MtI.of (by decide +kernel) (Nat.le_of_ble_eq_true rfl) (fun K r S C hR => ?_)
  refine j_start (lv' := [(0, .ref (adr 27)), (1, .int x1), (2, .int x2)]) rfl ?_
  unfold f_X9_offers
  refine j_aload_n C dX9_offers_0 0 rfl rfl ?_
  refine j_iload_n C dX9_offers_1 1 rfl rfl ?_
  refine j_cvi C dX9_offers_2 lk_X9_158 mw_X9_isCell (m_X9_isCell adr x1) ⟨rfl, rfl, Nat.le_of_ble_eq_true rfl, Nat.le_of_ble_eq_true rfl⟩ kd_27 (by decide) (Nat.le_of_ble_eq_true rfl) rfl rfl (st := []) (st0 := [.int x1, .ref (adr 27)]) rfl (Nat.le_of_ble_eq_true rfl) (fun v2 S1 => ?_)
  refine j_if_eq C dX9_offers_5 (tgt := 20) (by decide) ?_ ?_
  · refine j_sub C [] rfl ?_
    exact b_X9_offers_20 C hR S1
  · refine j_iload_n C dX9_offers_8 2 rfl rfl ?_
    refine j_i2l C dX9_offers_9 ?_
    refine j_lconst C dX9_offers_10 (v := 0) rfl ?_
    refine j_ldc2 C dX9_offers_11 kc_X9_161 ?_
    refine j_csi C dX9_offers_14 lk_X9_66 mw_X9_in (m_X9_in adr x2.toInt64 0 100) ⟨rfl, rfl, Nat.le_of_ble_eq_true rfl, Nat.le_of_ble_eq_true rfl⟩ rfl (st := []) (st0 := [.long 100, .long 0, .long x2.toInt64]) rfl (Nat.le_of_ble_eq_true rfl) (fun v4 S3 => ?_)
    refine j_if_ne C dX9_offers_17 (tgt := 22) (by decide) ?_ ?_
    · refine j_aload_n C dX9_offers_22 0 rfl rfl ?_
      refine j_cvi C dX9_offers_23 lk_X9_163 mw_X9_calls (m_X9_calls adr ) ⟨rfl, rfl, Nat.le_of_ble_eq_true rfl, Nat.le_of_ble_eq_true rfl⟩ kd_27 (by decide) (Nat.le_of_ble_eq_true rfl) rfl rfl (st := []) (st0 := [.ref (adr 27)]) rfl (Nat.le_of_ble_eq_true rfl) (fun v6 S5 => ?_)
      refine j_bipush C dX9_offers_26 (v := 12) rfl ?_
      refine j_icmp_ne C dX9_offers_28 (tgt := 34) (by decide) ?_ ?_
      · refine j_aload_n C dX9_offers_34 0 rfl rfl ?_
        refine j_cvv C dX9_offers_35 lk_X9_167 mw_X9_minds (m_X9_minds adr ) ⟨rfl, rfl, Nat.le_of_ble_eq_true rfl, Nat.le_of_ble_eq_true rfl⟩ kd_27 (by decide) (Nat.le_of_ble_eq_true rfl) rfl rfl (st := []) (st0 := [.ref (adr 27)]) rfl (Nat.le_of_ble_eq_true rfl) (fun S7 => ?_)
        refine j_aload_n C dX9_offers_38 0 rfl rfl ?_
        refine j_iload_n C dX9_offers_39 1 rfl rfl ?_
        refine j_bipush C dX9_offers_40 (v := 6) rfl ?_
        refine j_cvv C dX9_offers_42 lk_X9_170 mw_X9_counts (m_X9_counts adr x1 6) ⟨rfl, rfl, Nat.le_of_ble_eq_true rfl, Nat.le_of_ble_eq_true rfl⟩ kd_27 (by decide) (Nat.le_of_ble_eq_true rfl) rfl rfl (st := []) (st0 := [.int 6, .int x1, .ref (adr 27)]) rfl (Nat.le_of_ble_eq_true rfl) (fun S8 => ?_)
        refine j_aload_n C dX9_offers_45 0 rfl rfl ?_
        refine j_iload_n C dX9_offers_46 1 rfl rfl ?_
        refine j_cvi C dX9_offers_47 lk_X9_173 mw_X9_chance (m_X9_chance adr x1) ⟨rfl, rfl, Nat.le_of_ble_eq_true rfl, Nat.le_of_ble_eq_true rfl⟩ kd_27 (by decide) (Nat.le_of_ble_eq_true rfl) rfl rfl (st := []) (st0 := [.int x1, .ref (adr 27)]) rfl (Nat.le_of_ble_eq_true rfl) (fun v10 S9 => ?_)
        refine j_istore_n C dX9_offers_50 rfl (by decide) rfl ?_
        refine j_iload_n C dX9_offers_51 0 rfl rfl ?_
        refine j_if_eq C dX9_offers_52 (tgt := 69) (by decide) ?_ ?_
        · refine j_sub C [] rfl ?_
          exact b_X9_offers_69 C hR S9
        · refine j_iload_n C dX9_offers_55 0 rfl rfl ?_
          refine j_bipush C dX9_offers_56 (v := 10) rfl ?_
          refine j_icmp_ge C dX9_offers_58 (tgt := 72) (by decide) ?_ ?_
          · refine j_sub C [1, 2, 3] rfl ?_
            exact b_X9_offers_72 C hR x1 x2 S9
          · refine j_aload_n C dX9_offers_61 1 rfl rfl ?_
            refine j_cvi C dX9_offers_62 lk_X9_176 mw_X9_draw (m_X9_draw adr ) ⟨rfl, rfl, Nat.le_of_ble_eq_true rfl, Nat.le_of_ble_eq_true rfl⟩ kd_27 (by decide) (Nat.le_of_ble_eq_true rfl) rfl rfl (st := []) (st0 := [.ref (adr 27)]) rfl (Nat.le_of_ble_eq_true rfl) (fun v12 S11 => ?_)
            refine j_iload_n C dX9_offers_65 0 rfl rfl ?_
            refine j_icmp_lt C dX9_offers_66 (tgt := 72) (by decide) ?_ ?_
            · refine j_sub C [1, 2, 3] rfl ?_
              exact b_X9_offers_72 C hR x1 x2 S11
            · refine j_sub C [] rfl ?_
              exact b_X9_offers_69 C hR S11
      · refine j_bipush C dX9_offers_31 (v := -3) rfl ?_
        exact j_iret hR dX9_offers_33
    · refine j_sub C [] rfl ?_
      exact b_X9_offers_20 C hR S3
-- X9_pairs
abbrev rm_X9_pairs : Room := { frames := 0, cells := 0, slots := 0, locals := 0 }
def f_X9_pairs_121 (x3 : Int32) (S : St) : Option (St) :=
    ck ((245 + (3 * x3)) + 2) 2547 (ck ((245 + (3 * x3)) + 2) 2547 (lt (upI S 28 ((245 + (3 * x3)) + 2).toNatClampNeg ((S.1 28 ((245 + (3 * x3)) + 2).toNatClampNeg) + 1)) fun S5 =>
    some S5))
set_option maxHeartbeats 1000000 in
theorem b_X9_pairs_121 {K : Kt} {adr : Nat → Nat} {r : St} (C : Cx K cX9_pairs RX9 4 adr rm_X9_pairs) (hR : ∀ (pc : Nat) (lv : List (Nat × Value)), decode cX9_pairs pc = .ok (.return_, 1) → K pc lv [] r) (x3 : Int32) (S : St) : J K r (f_X9_pairs_121 x3 S) 121 [(0, .ref (adr 27)), (3, .int x3)] [] S := by
    unfold f_X9_pairs_121
    refine j_aload_n C dX9_pairs_121 0 rfl rfl ?_
    refine j_getr C dX9_pairs_122 fl_X9_7 kd_27 (by decide) (Nat.le_of_ble_eq_true rfl) rfl ?_
    refine j_sipush C dX9_pairs_125 (v := 245) rfl ?_
    refine j_iconst C dX9_pairs_128 (v := 3) rfl ?_
    refine j_iload_n C dX9_pairs_129 1 rfl rfl ?_
    refine j_imul C dX9_pairs_130 ?_
    refine j_iadd C dX9_pairs_131 ?_
    refine j_iconst C dX9_pairs_132 (v := 2) rfl ?_
    refine j_iadd C dX9_pairs_133 ?_
    refine j_dup2 C dX9_pairs_134 rfl rfl ?_
    refine j_iald C dX9_pairs_135 kd_28 (Nat.le_of_ble_eq_true rfl) ?_
    refine j_iconst C dX9_pairs_136 (v := 1) rfl ?_
    refine j_iadd C dX9_pairs_137 ?_
    refine j_iast C dX9_pairs_138 kd_28 (Nat.le_of_ble_eq_true rfl) (fun S5 => ?_)
    exact j_vret hR dX9_pairs_139
def f_X9_pairs_54 (x1 : Int32) (x2 : Int32) (x3 : Int32) (S : St) : Option (St) :=
    ck 244 2547 (if x3 = (S.1 28 (244 : Int32).toNatClampNeg) then (ck (245 + (3 * x3)) 2547 (lt (upI S 28 (245 + (3 * x3)).toNatClampNeg x1) fun S1 =>
      ck ((245 + (3 * x3)) + 1) 2547 (lt (upI S1 28 ((245 + (3 * x3)) + 1).toNatClampNeg x2) fun S2 =>
      ck ((245 + (3 * x3)) + 2) 2547 (lt (upI S2 28 ((245 + (3 * x3)) + 2).toNatClampNeg 0) fun S3 =>
      ck 244 2547 (ck 244 2547 (lt (upI S3 28 (244 : Int32).toNatClampNeg ((S3.1 28 (244 : Int32).toNatClampNeg) + 1)) fun S4 =>
      f_X9_pairs_121 x3 S4))))))
    else (f_X9_pairs_121 x3 S))
set_option maxHeartbeats 1000000 in
theorem b_X9_pairs_54 {K : Kt} {adr : Nat → Nat} {r : St} (C : Cx K cX9_pairs RX9 4 adr rm_X9_pairs) (hR : ∀ (pc : Nat) (lv : List (Nat × Value)), decode cX9_pairs pc = .ok (.return_, 1) → K pc lv [] r) (x1 : Int32) (x2 : Int32) (x3 : Int32) (S : St) : J K r (f_X9_pairs_54 x1 x2 x3 S) 54 [(0, .ref (adr 27)), (1, .int x1), (2, .int x2), (3, .int x3)] [] S := by
    unfold f_X9_pairs_54
    refine j_iload_n C dX9_pairs_54 3 rfl rfl ?_
    refine j_aload_n C dX9_pairs_55 0 rfl rfl ?_
    refine j_getr C dX9_pairs_56 fl_X9_7 kd_27 (by decide) (Nat.le_of_ble_eq_true rfl) rfl ?_
    refine j_sipush C dX9_pairs_59 (v := 244) rfl ?_
    refine j_iald C dX9_pairs_62 kd_28 (Nat.le_of_ble_eq_true rfl) ?_
    refine j_icmp_ne C dX9_pairs_63 (tgt := 121) (by decide) ?_ ?_
    · refine j_sub C [0, 3] rfl ?_
      exact b_X9_pairs_121 C hR x3 S
    · refine j_aload_n C dX9_pairs_66 0 rfl rfl ?_
      refine j_getr C dX9_pairs_67 fl_X9_7 kd_27 (by decide) (Nat.le_of_ble_eq_true rfl) rfl ?_
      refine j_sipush C dX9_pairs_70 (v := 245) rfl ?_
      refine j_iconst C dX9_pairs_73 (v := 3) rfl ?_
      refine j_iload_n C dX9_pairs_74 3 rfl rfl ?_
      refine j_imul C dX9_pairs_75 ?_
      refine j_iadd C dX9_pairs_76 ?_
      refine j_iload_n C dX9_pairs_77 1 rfl rfl ?_
      refine j_iast C dX9_pairs_78 kd_28 (Nat.le_of_ble_eq_true rfl) (fun S1 => ?_)
      refine j_aload_n C dX9_pairs_79 0 rfl rfl ?_
      refine j_getr C dX9_pairs_80 fl_X9_7 kd_27 (by decide) (Nat.le_of_ble_eq_true rfl) rfl ?_
      refine j_sipush C dX9_pairs_83 (v := 245) rfl ?_
      refine j_iconst C dX9_pairs_86 (v := 3) rfl ?_
      refine j_iload_n C dX9_pairs_87 3 rfl rfl ?_
      refine j_imul C dX9_pairs_88 ?_
      refine j_iadd C dX9_pairs_89 ?_
      refine j_iconst C dX9_pairs_90 (v := 1) rfl ?_
      refine j_iadd C dX9_pairs_91 ?_
      refine j_iload_n C dX9_pairs_92 2 rfl rfl ?_
      refine j_iast C dX9_pairs_93 kd_28 (Nat.le_of_ble_eq_true rfl) (fun S2 => ?_)
      refine j_aload_n C dX9_pairs_94 0 rfl rfl ?_
      refine j_getr C dX9_pairs_95 fl_X9_7 kd_27 (by decide) (Nat.le_of_ble_eq_true rfl) rfl ?_
      refine j_sipush C dX9_pairs_98 (v := 245) rfl ?_
      refine j_iconst C dX9_pairs_101 (v := 3) rfl ?_
      refine j_iload_n C dX9_pairs_102 3 rfl rfl ?_
      refine j_imul C dX9_pairs_103 ?_
      refine j_iadd C dX9_pairs_104 ?_
      refine j_iconst C dX9_pairs_105 (v := 2) rfl ?_
      refine j_iadd C dX9_pairs_106 ?_
      refine j_iconst C dX9_pairs_107 (v := 0) rfl ?_
      refine j_iast C dX9_pairs_108 kd_28 (Nat.le_of_ble_eq_true rfl) (fun S3 => ?_)
      refine j_aload_n C dX9_pairs_109 0 rfl rfl ?_
      refine j_getr C dX9_pairs_110 fl_X9_7 kd_27 (by decide) (Nat.le_of_ble_eq_true rfl) rfl ?_
      refine j_sipush C dX9_pairs_113 (v := 244) rfl ?_
      refine j_dup2 C dX9_pairs_116 rfl rfl ?_
      refine j_iald C dX9_pairs_117 kd_28 (Nat.le_of_ble_eq_true rfl) ?_
      refine j_iconst C dX9_pairs_118 (v := 1) rfl ?_
      refine j_iadd C dX9_pairs_119 ?_
      refine j_iast C dX9_pairs_120 kd_28 (Nat.le_of_ble_eq_true rfl) (fun S4 => ?_)
      refine j_sub C [0, 3] rfl ?_
      exact b_X9_pairs_121 C hR x3 S4
def f_X9_pairs_48 (k2 : Int32 → Int32 → Int32 → St → Option (St)) (x1 : Int32) (x2 : Int32) (x3 : Int32) (S : St) : Option (St) :=
    k2 x1 x2 (x3 + 1) S
set_option maxHeartbeats 1000000 in
theorem b_X9_pairs_48 {K : Kt} {adr : Nat → Nat} {r : St} (C : Cx K cX9_pairs RX9 4 adr rm_X9_pairs) (hR : ∀ (pc : Nat) (lv : List (Nat × Value)), decode cX9_pairs pc = .ok (.return_, 1) → K pc lv [] r) (k2 : Int32 → Int32 → Int32 → St → Option (St)) (h2 : ∀ (x1 : Int32) (x2 : Int32) (x3 : Int32) (S : St), J K r (k2 x1 x2 x3 S) 2 [(0, .ref (adr 27)), (1, .int x1), (2, .int x2), (3, .int x3)] [] S) (x1 : Int32) (x2 : Int32) (x3 : Int32) (S : St) : J K r (f_X9_pairs_48 k2 x1 x2 x3 S) 48 [(0, .ref (adr 27)), (1, .int x1), (2, .int x2), (3, .int x3)] [] S := by
    unfold f_X9_pairs_48
    refine j_iinc C dX9_pairs_48 (v := x3 + 1) 3 rfl rfl (by decide) rfl ?_
    refine j_goto C dX9_pairs_51 (tgt := 2) (by decide) ?_
    refine j_sub C [1, 2, 3, 0] rfl ?_
    exact h2 x1 x2 (x3 + 1) S
def f_X9_pairs_2 : Nat → Int32 → Int32 → Int32 → St → Option (St)
  | 0, _, _, _, _ => none
  | n + 1, x1, x2, x3, S =>
    ck 244 2547 (if (S.1 28 (244 : Int32).toNatClampNeg) ≤ x3 then (f_X9_pairs_54 x1 x2 x3 S)
    else (ck (245 + (3 * x3)) 2547 (if (S.1 28 (245 + (3 * x3)).toNatClampNeg) = x1 then (ck ((245 + (3 * x3)) + 1) 2547 (if (S.1 28 ((245 + (3 * x3)) + 1).toNatClampNeg) = x2 then (f_X9_pairs_54 x1 x2 x3 S)
        else (f_X9_pairs_48 (f_X9_pairs_2 n) x1 x2 x3 S)))
      else (f_X9_pairs_48 (f_X9_pairs_2 n) x1 x2 x3 S))))
set_option maxHeartbeats 1000000 in
theorem b_X9_pairs_2 {K : Kt} {adr : Nat → Nat} {r : St} (C : Cx K cX9_pairs RX9 4 adr rm_X9_pairs) (hR : ∀ (pc : Nat) (lv : List (Nat × Value)), decode cX9_pairs pc = .ok (.return_, 1) → K pc lv [] r) : ∀ (n : Nat) (x1 : Int32) (x2 : Int32) (x3 : Int32) (S : St), J K r (f_X9_pairs_2 n x1 x2 x3 S) 2 [(0, .ref (adr 27)), (1, .int x1), (2, .int x2), (3, .int x3)] [] S := by
  intro n
  induction n with
  | zero => intro x1 x2 x3 S h; cases h
  | succ n ih =>
    intro x1 x2 x3 S
    unfold f_X9_pairs_2
    refine j_iload_n C dX9_pairs_2 3 rfl rfl ?_
    refine j_aload_n C dX9_pairs_3 0 rfl rfl ?_
    refine j_getr C dX9_pairs_4 fl_X9_7 kd_27 (by decide) (Nat.le_of_ble_eq_true rfl) rfl ?_
    refine j_sipush C dX9_pairs_7 (v := 244) rfl ?_
    refine j_iald C dX9_pairs_10 kd_28 (Nat.le_of_ble_eq_true rfl) ?_
    refine j_icmp_ge C dX9_pairs_11 (tgt := 54) (by decide) ?_ ?_
    · exact b_X9_pairs_54 C hR x1 x2 x3 S
    · refine j_aload_n C dX9_pairs_14 0 rfl rfl ?_
      refine j_getr C dX9_pairs_15 fl_X9_7 kd_27 (by decide) (Nat.le_of_ble_eq_true rfl) rfl ?_
      refine j_sipush C dX9_pairs_18 (v := 245) rfl ?_
      refine j_iconst C dX9_pairs_21 (v := 3) rfl ?_
      refine j_iload_n C dX9_pairs_22 3 rfl rfl ?_
      refine j_imul C dX9_pairs_23 ?_
      refine j_iadd C dX9_pairs_24 ?_
      refine j_iald C dX9_pairs_25 kd_28 (Nat.le_of_ble_eq_true rfl) ?_
      refine j_iload_n C dX9_pairs_26 1 rfl rfl ?_
      refine j_icmp_ne C dX9_pairs_27 (tgt := 48) (by decide) ?_ ?_
      · exact b_X9_pairs_48 C hR (f_X9_pairs_2 n) ih x1 x2 x3 S
      · refine j_aload_n C dX9_pairs_30 0 rfl rfl ?_
        refine j_getr C dX9_pairs_31 fl_X9_7 kd_27 (by decide) (Nat.le_of_ble_eq_true rfl) rfl ?_
        refine j_sipush C dX9_pairs_34 (v := 245) rfl ?_
        refine j_iconst C dX9_pairs_37 (v := 3) rfl ?_
        refine j_iload_n C dX9_pairs_38 3 rfl rfl ?_
        refine j_imul C dX9_pairs_39 ?_
        refine j_iadd C dX9_pairs_40 ?_
        refine j_iconst C dX9_pairs_41 (v := 1) rfl ?_
        refine j_iadd C dX9_pairs_42 ?_
        refine j_iald C dX9_pairs_43 kd_28 (Nat.le_of_ble_eq_true rfl) ?_
        refine j_iload_n C dX9_pairs_44 2 rfl rfl ?_
        refine j_icmp_eq C dX9_pairs_45 (tgt := 54) (by decide) ?_ ?_
        · exact b_X9_pairs_54 C hR x1 x2 x3 S
        · exact b_X9_pairs_48 C hR (f_X9_pairs_2 n) ih x1 x2 x3 S
def f_X9_pairs (x1 : Int32) (x2 : Int32) (S : St) : Option (St) :=
  f_X9_pairs_2 FU x1 x2 0 S
set_option maxHeartbeats 1000000 in
theorem m_X9_pairs (adr : Nat → Nat) (x1 : Int32) (x2 : Int32) : MtV yX9_pairs cX9_pairs 4 none rm_X9_pairs adr [.ref (adr 27), .int x1, .int x2] (f_X9_pairs x1 x2) := by
  refine MtV.of (by decide +kernel) (Nat.le_of_ble_eq_true rfl) (fun K r S C hR => ?_)
  refine j_start (lv' := [(0, .ref (adr 27)), (1, .int x1), (2, .int x2)]) rfl ?_
  unfold f_X9_pairs
  refine j_iconst C dX9_pairs_0 (v := 0) rfl ?_
  refine j_istore_n C dX9_pairs_1 rfl (by decide) rfl ?_
  refine j_sub C [1, 2, 3, 0] rfl ?_
  exact b_X9_pairs_2 C hR FU x1 x2 0 S
-- X9_frees
abbrev rm_X9_frees : Room := { frames := 0, cells := 0, slots := 0, locals := 0 }
def f_X9_frees (x1 : Int32) (S : St) : Option (St) :=
  ck (S.1 27 25) 256 (lt (upI S 40 (S.1 27 25).toNatClampNeg x1) fun S1 =>
  lt (upI S1 27 25 ((S1.1 27 25) + 1)) fun S2 =>
  some S2)
set_option maxHeartbeats 1000000 in
theorem m_X9_frees (adr : Nat → Nat) (x1 : Int32) : MtV yX9_frees cX9_frees 2 none rm_X9_frees adr [.ref (adr 27), .int x1] (f_X9_frees x1) := by
  refine MtV.of (by decide +kernel) (Nat.le_of_ble_eq_true rfl) (fun K r S C hR => ?_)
  refine j_start (lv' := [(0, .ref (adr 27)), (1, .int x1)]) rfl ?_
  unfold f_X9_frees
  refine j_aload_n C dX9_frees_0 0 rfl rfl ?_
  refine j_getr C dX9_frees_1 fl_X9_47 kd_27 (by decide) (Nat.le_of_ble_eq_true rfl) rfl ?_
  refine j_aload_n C dX9_frees_4 0 rfl rfl ?_
  refine j_geti C dX9_frees_5 fl_X9_183 kd_27 (by decide) (Nat.le_of_ble_eq_true rfl) rfl ?_
  refine j_iload_n C dX9_frees_8 1 rfl rfl ?_
  refine j_iast C dX9_frees_9 kd_40 (Nat.le_of_ble_eq_true rfl) (fun S1 => ?_)
  refine j_aload_n C dX9_frees_10 0 rfl rfl ?_
  refine j_dup C dX9_frees_11 rfl ?_
  refine j_geti C dX9_frees_12 fl_X9_183 kd_27 (by decide) (Nat.le_of_ble_eq_true rfl) rfl ?_
  refine j_iconst C dX9_frees_15 (v := 1) rfl ?_
  refine j_iadd C dX9_frees_16 ?_
  refine j_puti C dX9_frees_17 fl_X9_183 fi_X9_25 kd_27 (by decide) (Nat.le_of_ble_eq_true rfl) rfl (fun S2 => ?_)
  exact j_vret hR dX9_frees_20
