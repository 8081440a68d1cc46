-- X9_moves
abbrev rm_X9_moves : Room := { frames := 1, cells := 0, slots := 0, locals := 23 }
def f_X9_moves_122 : Nat → Int32 → Int32 → Int32 → Int32 → St → Option (St)
  | 0, _, _, _, _, _ => none
  | n + 1, x1, x2, x3, x5, S =>
    if 4 ≤ x5 then (bdV (f_X9_counts x2 10 S) fun S18 =>
      bdV (f_X9_pairs x3 x2 S18) fun S19 =>
      lt (upI S19 27 26 ((S19.1 27 26) + 1)) fun S20 =>
      bdV (f_X9_frees x3 S20) fun S21 =>
      some S21)
    else (bdV (f_X9_set x1 (14 + x5) 0 S) fun S22 =>
      (f_X9_moves_122 n) x1 x2 x3 (x5 + 1) S22)
set_option maxHeartbeats 1000000 in
theorem b_X9_moves_122 {K : Kt} {adr : Nat → Nat} {r : St} (C : Cx K cX9_moves RX9 6 adr rm_X9_moves) (hR : ∀ (pc : Nat) (lv : List (Nat × Value)), decode cX9_moves pc = .ok (.return_, 1) → K pc lv [] r) : ∀ (n : Nat) (x1 : Int32) (x2 : Int32) (x3 : Int32) (x5 : Int32) (S : St), J K r (f_X9_moves_122 n x1 x2 x3 x5 S) 122 [(0, .ref (adr 27)), (1, .int x1), (2, .int x2), (3, .int x3), (5, .int x5)] [] S := by
  intro n
  induction n with
  | zero => intro x1 x2 x3 x5 S h; cases h
  | succ n ih =>
    intro x1 x2 x3 x5 S
    unfold f_X9_moves_122
    refine j_iload C dX9_moves_122 4 rfl ?_
    refine j_iconst C dX9_moves_124 (v := 4) rfl ?_
    refine j_icmp_ge C dX9_moves_125 (tgt := 145) (by decide) ?_ ?_
    · refine j_aload_n C dX9_moves_145 0 rfl rfl ?_
      refine j_iload_n C dX9_moves_146 2 rfl rfl ?_
      refine j_bipush C dX9_moves_147 (v := 10) rfl ?_
      refine j_cvv C dX9_moves_149 lk_X9_170 mw_X9_counts (m_X9_counts adr x2 10) ⟨rfl, rfl, Nat.le_of_ble_eq_true rfl, Nat.le_of_ble_eq_true rfl⟩ kd_27 (by decide) (Nat.le_of_ble_eq_true rfl) rfl rfl (st := []) (st0 := [.int 10, .int x2, .ref (adr 27)]) rfl (Nat.le_of_ble_eq_true rfl) (fun S18 => ?_)
      refine j_aload_n C dX9_moves_152 0 rfl rfl ?_
      refine j_iload_n C dX9_moves_153 3 rfl rfl ?_
      refine j_iload_n C dX9_moves_154 2 rfl rfl ?_
      refine j_cvv C dX9_moves_155 lk_X9_186 mw_X9_pairs (m_X9_pairs adr x3 x2) ⟨rfl, rfl, Nat.le_of_ble_eq_true rfl, Nat.le_of_ble_eq_true rfl⟩ kd_27 (by decide) (Nat.le_of_ble_eq_true rfl) rfl rfl (st := []) (st0 := [.int x2, .int x3, .ref (adr 27)]) rfl (Nat.le_of_ble_eq_true rfl) (fun S19 => ?_)
      refine j_aload_n C dX9_moves_158 0 rfl rfl ?_
      refine j_dup C dX9_moves_159 rfl ?_
      refine j_geti C dX9_moves_160 fl_X9_189 kd_27 (by decide) (Nat.le_of_ble_eq_true rfl) rfl ?_
      refine j_iconst C dX9_moves_163 (v := 1) rfl ?_
      refine j_iadd C dX9_moves_164 ?_
      refine j_puti C dX9_moves_165 fl_X9_189 fi_X9_26 kd_27 (by decide) (Nat.le_of_ble_eq_true rfl) rfl (fun S20 => ?_)
      refine j_aload_n C dX9_moves_168 0 rfl rfl ?_
      refine j_iload_n C dX9_moves_169 3 rfl rfl ?_
      refine j_cvv C dX9_moves_170 lk_X9_192 mw_X9_frees (m_X9_frees adr x3) ⟨rfl, rfl, Nat.le_of_ble_eq_true rfl, Nat.le_of_ble_eq_true rfl⟩ kd_27 (by decide) (Nat.le_of_ble_eq_true rfl) rfl rfl (st := []) (st0 := [.int x3, .ref (adr 27)]) rfl (Nat.le_of_ble_eq_true rfl) (fun S21 => ?_)
      exact j_vret hR dX9_moves_173
    · refine j_aload_n C dX9_moves_128 0 rfl rfl ?_
      refine j_iload_n C dX9_moves_129 1 rfl rfl ?_
      refine j_bipush C dX9_moves_130 (v := 14) rfl ?_
      refine j_iload C dX9_moves_132 4 rfl ?_
      refine j_iadd C dX9_moves_134 ?_
      refine j_iconst C dX9_moves_135 (v := 0) rfl ?_
      refine j_cvv C dX9_moves_136 lk_X9_179 mw_X9_set (m_X9_set adr x1 (14 + x5) 0) ⟨rfl, rfl, Nat.le_of_ble_eq_true rfl, Nat.le_of_ble_eq_true rfl⟩ kd_27 (by decide) (Nat.le_of_ble_eq_true rfl) rfl rfl (st := []) (st0 := [.int 0, .int (14 + x5), .int x1, .ref (adr 27)]) rfl (Nat.le_of_ble_eq_true rfl) (fun S22 => ?_)
      refine j_iinc C dX9_moves_139 (v := x5 + 1) 4 rfl rfl (by decide) rfl ?_
      refine j_goto C dX9_moves_142 (tgt := 122) (by decide) ?_
      refine j_sub C [1, 2, 3, 4, 0] rfl ?_
      exact ih x1 x2 x3 (x5 + 1) S22
def f_X9_moves_62 (x1 : Int32) (x2 : Int32) (x3 : Int32) (s0 : Int32) (s1 : Int32) (s2 : Int32) (s3 : Int32) (S : St) : Option (St) :=
    bdV (f_X9_set s3 s2 (s1 + s0) S) fun S9 =>
    bd (f_X9_get x1 5 S9) fun v11 S10 =>
    bdV (f_X9_set x1 5 (v11 + 1) S10) fun S12 =>
    bdV (f_X9_set x1 8 x3 S12) fun S13 =>
    bdV (f_X9_set x1 9 0 S13) fun S14 =>
    bdV (f_X9_set x1 1 x2 S14) fun S15 =>
    bdV (f_X9_set x1 2 (-9) S15) fun S16 =>
    bdV (f_X9_set x1 7 0 S16) fun S17 =>
    f_X9_moves_122 FU x1 x2 x3 0 S17
set_option maxHeartbeats 1000000 in
theorem b_X9_moves_62 {K : Kt} {adr : Nat → Nat} {r : St} (C : Cx K cX9_moves RX9 6 adr rm_X9_moves) (hR : ∀ (pc : Nat) (lv : List (Nat × Value)), decode cX9_moves pc = .ok (.return_, 1) → K pc lv [] r) (x1 : Int32) (x2 : Int32) (x3 : Int32) (s0 : Int32) (s1 : Int32) (s2 : Int32) (s3 : Int32) (S : St) : J K r (f_X9_moves_62 x1 x2 x3 s0 s1 s2 s3 S) 62 [(0, .ref (adr 27)), (1, .int x1), (2, .int x2), (3, .int x3)] [.int s0, .int s1, .int s2, .int s3, .ref (adr 27)] S := by
    unfold f_X9_moves_62
    refine j_iadd C dX9_moves_62 ?_
    refine j_cvv C dX9_moves_63 lk_X9_179 mw_X9_set (m_X9_set adr s3 s2 (s1 + s0)) ⟨rfl, rfl, Nat.le_of_ble_eq_true rfl, Nat.le_of_ble_eq_true rfl⟩ kd_27 (by decide) (Nat.le_of_ble_eq_true rfl) rfl rfl (st := []) (st0 := [.int (s1 + s0), .int s2, .int s3, .ref (adr 27)]) rfl (Nat.le_of_ble_eq_true rfl) (fun S9 => ?_)
    refine j_aload_n C dX9_moves_66 0 rfl rfl ?_
    refine j_iload_n C dX9_moves_67 1 rfl rfl ?_
    refine j_iconst C dX9_moves_68 (v := 5) rfl ?_
    refine j_aload_n C dX9_moves_69 0 rfl rfl ?_
    refine j_iload_n C dX9_moves_70 1 rfl rfl ?_
    refine j_iconst C dX9_moves_71 (v := 5) rfl ?_
    refine j_cvi C dX9_moves_72 lk_X9_141 mw_X9_get (m_X9_get adr x1 5) ⟨rfl, rfl, Nat.le_of_ble_eq_true rfl, Nat.le_of_ble_eq_true rfl⟩ kd_27 (by decide) (Nat.le_of_ble_eq_true rfl) rfl rfl (st := [.int 5, .int x1, .ref (adr 27)]) (st0 := [.int 5, .int x1, .ref (adr 27), .int 5, .int x1, .ref (adr 27)]) rfl (Nat.le_of_ble_eq_true rfl) (fun v11 S10 => ?_)
    refine j_iconst C dX9_moves_75 (v := 1) rfl ?_
    refine j_iadd C dX9_moves_76 ?_
    refine j_cvv C dX9_moves_77 lk_X9_179 mw_X9_set (m_X9_set adr x1 5 (v11 + 1)) ⟨rfl, rfl, Nat.le_of_ble_eq_true rfl, Nat.le_of_ble_eq_true rfl⟩ kd_27 (by decide) (Nat.le_of_ble_eq_true rfl) rfl rfl (st := []) (st0 := [.int (v11 + 1), .int 5, .int x1, .ref (adr 27)]) rfl (Nat.le_of_ble_eq_true rfl) (fun S12 => ?_)
    refine j_aload_n C dX9_moves_80 0 rfl rfl ?_
    refine j_iload_n C dX9_moves_81 1 rfl rfl ?_
    refine j_bipush C dX9_moves_82 (v := 8) rfl ?_
    refine j_iload_n C dX9_moves_84 3 rfl rfl ?_
    refine j_cvv C dX9_moves_85 lk_X9_179 mw_X9_set (m_X9_set adr x1 8 x3) ⟨rfl, rfl, Nat.le_of_ble_eq_true rfl, Nat.le_of_ble_eq_true rfl⟩ kd_27 (by decide) (Nat.le_of_ble_eq_true rfl) rfl rfl (st := []) (st0 := [.int x3, .int 8, .int x1, .ref (adr 27)]) rfl (Nat.le_of_ble_eq_true rfl) (fun S13 => ?_)
    refine j_aload_n C dX9_moves_88 0 rfl rfl ?_
    refine j_iload_n C dX9_moves_89 1 rfl rfl ?_
    refine j_bipush C dX9_moves_90 (v := 9) rfl ?_
    refine j_iconst C dX9_moves_92 (v := 0) rfl ?_
    refine j_cvv C dX9_moves_93 lk_X9_179 mw_X9_set (m_X9_set adr x1 9 0) ⟨rfl, rfl, Nat.le_of_ble_eq_true rfl, Nat.le_of_ble_eq_true rfl⟩ kd_27 (by decide) (Nat.le_of_ble_eq_true rfl) rfl rfl (st := []) (st0 := [.int 0, .int 9, .int x1, .ref (adr 27)]) rfl (Nat.le_of_ble_eq_true rfl) (fun S14 => ?_)
    refine j_aload_n C dX9_moves_96 0 rfl rfl ?_
    refine j_iload_n C dX9_moves_97 1 rfl rfl ?_
    refine j_iconst C dX9_moves_98 (v := 1) rfl ?_
    refine j_iload_n C dX9_moves_99 2 rfl rfl ?_
    refine j_cvv C dX9_moves_100 lk_X9_179 mw_X9_set (m_X9_set adr x1 1 x2) ⟨rfl, rfl, Nat.le_of_ble_eq_true rfl, Nat.le_of_ble_eq_true rfl⟩ kd_27 (by decide) (Nat.le_of_ble_eq_true rfl) rfl rfl (st := []) (st0 := [.int x2, .int 1, .int x1, .ref (adr 27)]) rfl (Nat.le_of_ble_eq_true rfl) (fun S15 => ?_)
    refine j_aload_n C dX9_moves_103 0 rfl rfl ?_
    refine j_iload_n C dX9_moves_104 1 rfl rfl ?_
    refine j_iconst C dX9_moves_105 (v := 2) rfl ?_
    refine j_bipush C dX9_moves_106 (v := -9) rfl ?_
    refine j_cvv C dX9_moves_108 lk_X9_179 mw_X9_set (m_X9_set adr x1 2 (-9)) ⟨rfl, rfl, Nat.le_of_ble_eq_true rfl, Nat.le_of_ble_eq_true rfl⟩ kd_27 (by decide) (Nat.le_of_ble_eq_true rfl) rfl rfl (st := []) (st0 := [.int (-9), .int 2, .int x1, .ref (adr 27)]) rfl (Nat.le_of_ble_eq_true rfl) (fun S16 => ?_)
    refine j_aload_n C dX9_moves_111 0 rfl rfl ?_
    refine j_iload_n C dX9_moves_112 1 rfl rfl ?_
    refine j_bipush C dX9_moves_113 (v := 7) rfl ?_
    refine j_iconst C dX9_moves_115 (v := 0) rfl ?_
    refine j_cvv C dX9_moves_116 lk_X9_179 mw_X9_set (m_X9_set adr x1 7 0) ⟨rfl, rfl, Nat.le_of_ble_eq_true rfl, Nat.le_of_ble_eq_true rfl⟩ kd_27 (by decide) (Nat.le_of_ble_eq_true rfl) rfl rfl (st := []) (st0 := [.int 0, .int 7, .int x1, .ref (adr 27)]) rfl (Nat.le_of_ble_eq_true rfl) (fun S17 => ?_)
    refine j_iconst C dX9_moves_119 (v := 0) rfl ?_
    refine j_istore C dX9_moves_120 (by decide) rfl ?_
    refine j_sub C [1, 2, 3, 4, 0] rfl ?_
    exact b_X9_moves_122 C hR FU x1 x2 x3 0 S17
def f_X9_moves_39 (x1 : Int32) (x2 : Int32) (x3 : Int32) (s0 : Int32) (S : St) : Option (St) :=
    bd (f_X9_get x1 6 S) fun v8 S7 =>
    if s0 = 0 then (f_X9_moves_62 x1 x2 x3 0 v8 6 x1 S7)
    else (f_X9_moves_62 x1 x2 x3 1 v8 6 x1 S7)
set_option maxHeartbeats 1000000 in
theorem b_X9_moves_39 {K : Kt} {adr : Nat → Nat} {r : St} (C : Cx K cX9_moves RX9 6 adr rm_X9_moves) (hR : ∀ (pc : Nat) (lv : List (Nat × Value)), decode cX9_moves pc = .ok (.return_, 1) → K pc lv [] r) (x1 : Int32) (x2 : Int32) (x3 : Int32) (s0 : Int32) (S : St) : J K r (f_X9_moves_39 x1 x2 x3 s0 S) 39 [(0, .ref (adr 27)), (1, .int x1), (2, .int x2), (3, .int x3)] [.int s0] S := by
    unfold f_X9_moves_39
    refine j_istore C dX9_moves_39 (by decide) rfl ?_
    refine j_aload_n C dX9_moves_41 1 rfl rfl ?_
    refine j_iload_n C dX9_moves_42 2 rfl rfl ?_
    refine j_bipush C dX9_moves_43 (v := 6) rfl ?_
    refine j_aload_n C dX9_moves_45 1 rfl rfl ?_
    refine j_iload_n C dX9_moves_46 2 rfl rfl ?_
    refine j_bipush C dX9_moves_47 (v := 6) rfl ?_
    refine j_cvi C dX9_moves_49 lk_X9_141 mw_X9_get (m_X9_get adr x1 6) ⟨rfl, rfl, Nat.le_of_ble_eq_true rfl, Nat.le_of_ble_eq_true rfl⟩ kd_27 (by decide) (Nat.le_of_ble_eq_true rfl) rfl rfl (st := [.int 6, .int x1, .ref (adr 27)]) (st0 := [.int 6, .int x1, .ref (adr 27), .int 6, .int x1, .ref (adr 27)]) rfl (Nat.le_of_ble_eq_true rfl) (fun v8 S7 => ?_)
    refine j_iload C dX9_moves_52 0 rfl ?_
    refine j_if_eq C dX9_moves_54 (tgt := 61) (by decide) ?_ ?_
    · refine j_iconst C dX9_moves_61 (v := 0) rfl ?_
      refine j_sub C [1, 2, 3, 4] rfl ?_
      exact b_X9_moves_62 C hR x1 x2 x3 0 v8 6 x1 S7
    · refine j_iconst C dX9_moves_57 (v := 1) rfl ?_
      refine j_goto C dX9_moves_58 (tgt := 62) (by decide) ?_
      refine j_sub C [1, 2, 3, 4] rfl ?_
      exact b_X9_moves_62 C hR x1 x2 x3 1 v8 6 x1 S7
def f_X9_moves_38 (x1 : Int32) (x2 : Int32) (x3 : Int32) (S : St) : Option (St) :=
    f_X9_moves_39 x1 x2 x3 0 S
set_option maxHeartbeats 1000000 in
theorem b_X9_moves_38 {K : Kt} {adr : Nat → Nat} {r : St} (C : Cx K cX9_moves RX9 6 adr rm_X9_moves) (hR : ∀ (pc : Nat) (lv : List (Nat × Value)), decode cX9_moves pc = .ok (.return_, 1) → K pc lv [] r) (x1 : Int32) (x2 : Int32) (x3 : Int32) (S : St) : J K r (f_X9_moves_38 x1 x2 x3 S) 38 [(0, .ref (adr 27)), (1, .int x1), (2, .int x2), (3, .int x3)] [] S := by
    unfold f_X9_moves_38
    refine j_iconst C dX9_moves_38 (v := 0) rfl ?_
    exact b_X9_moves_39 C hR x1 x2 x3 0 S
def f_X9_moves (x1 : Int32) (x2 : Int32) (S : St) : Option (St) :=
  bd (f_X9_get x1 1 S) fun v2 S1 =>
  bd (f_X9_get x1 8 S1) fun v4 S3 =>
  if v4 = x2 then (bd (f_X9_get x1 9 S3) fun v6 S5 =>
    ck 5 6 (if (S5.1 35 (5 : Int32).toNatClampNeg) < v6 then (f_X9_moves_38 x1 x2 v2 S5)
    else (f_X9_moves_39 x1 x2 v2 1 S5)))
  else (f_X9_moves_38 x1 x2 v2 S3)
set_option maxHeartbeats 1000000 in
theorem m_X9_moves (adr : Nat → Nat) (x1 : Int32) (x2 : Int32) : MtV yX9_moves cX9_moves 6 none rm_X9_moves adr [.ref (adr 27), .int x1, .int x2] (f_X9_moves x1 x2) := by
  refine MtV.of (by decide +kernel) (Nat.le_of_ble_eq_true rfl) (fun K r S C hR => ?_)
  refine j_start (lv' := [(0, .ref (adr 27)), (1, .int x1), (2, .int x2)]) rfl ?_
  unfold f_X9_moves
  refine j_aload_n C dX9_moves_0 0 rfl rfl ?_
  refine j_iload_n C dX9_moves_1 1 rfl rfl ?_
  refine j_iconst C dX9_moves_2 (v := 1) rfl ?_
  refine j_cvi C dX9_moves_3 lk_X9_141 mw_X9_get (m_X9_get adr x1 1) ⟨rfl, rfl, Nat.le_of_ble_eq_true rfl, Nat.le_of_ble_eq_true rfl⟩ kd_27 (by decide) (Nat.le_of_ble_eq_true rfl) rfl rfl (st := []) (st0 := [.int 1, .int x1, .ref (adr 27)]) rfl (Nat.le_of_ble_eq_true rfl) (fun v2 S1 => ?_)
  refine j_istore_n C dX9_moves_6 rfl (by decide) rfl ?_
  refine j_aload_n C dX9_moves_7 1 rfl rfl ?_
  refine j_iload_n C dX9_moves_8 2 rfl rfl ?_
  refine j_bipush C dX9_moves_9 (v := 8) rfl ?_
  refine j_cvi C dX9_moves_11 lk_X9_141 mw_X9_get (m_X9_get adr x1 8) ⟨rfl, rfl, Nat.le_of_ble_eq_true rfl, Nat.le_of_ble_eq_true rfl⟩ kd_27 (by decide) (Nat.le_of_ble_eq_true rfl) rfl rfl (st := []) (st0 := [.int 8, .int x1, .ref (adr 27)]) rfl (Nat.le_of_ble_eq_true rfl) (fun v4 S3 => ?_)
  refine j_iload_n C dX9_moves_14 3 rfl rfl ?_
  refine j_icmp_ne C dX9_moves_15 (tgt := 38) (by decide) ?_ ?_
  · refine j_sub C [1, 2, 3, 0] rfl ?_
    exact b_X9_moves_38 C hR x1 x2 v2 S3
  · refine j_aload_n C dX9_moves_18 1 rfl rfl ?_
    refine j_iload_n C dX9_moves_19 2 rfl rfl ?_
    refine j_bipush C dX9_moves_20 (v := 9) rfl ?_
    refine j_cvi C dX9_moves_22 lk_X9_141 mw_X9_get (m_X9_get adr x1 9) ⟨rfl, rfl, Nat.le_of_ble_eq_true rfl, Nat.le_of_ble_eq_true rfl⟩ kd_27 (by decide) (Nat.le_of_ble_eq_true rfl) rfl rfl (st := []) (st0 := [.int 9, .int x1, .ref (adr 27)]) rfl (Nat.le_of_ble_eq_true rfl) (fun v6 S5 => ?_)
    refine j_aload_n C dX9_moves_25 1 rfl rfl ?_
    refine j_getr C dX9_moves_26 fl_X9_32 kd_27 (by decide) (Nat.le_of_ble_eq_true rfl) rfl ?_
    refine j_iconst C dX9_moves_29 (v := 5) rfl ?_
    refine j_iald C dX9_moves_30 kd_35 (Nat.le_of_ble_eq_true rfl) ?_
    refine j_icmp_gt C dX9_moves_31 (tgt := 38) (by decide) ?_ ?_
    · refine j_sub C [1, 2, 3, 0] rfl ?_
      exact b_X9_moves_38 C hR x1 x2 v2 S5
    · refine j_iconst C dX9_moves_34 (v := 1) rfl ?_
      refine j_goto C dX9_moves_35 (tgt := 39) (by decide) ?_
      refine j_sub C [1, 2, 3, 0] rfl ?_
      exact b_X9_moves_39 C hR x1 x2 v2 1 S5
-- X9_isAhead
abbrev rm_X9_isAhead : Room := { frames := 1, cells := 0, slots := 0, locals := 22 }
def f_X9_isAhead_155 (s0 : Int32) (S : St) : Option (Int32 × St) :=
    bz s0 (some (s0, S))
set_option maxHeartbeats 1000000 in
theorem b_X9_isAhead_155 {K : Kt} {adr : Nat → Nat} {r : Int32 × St} (C : Cx K cX9_isAhead RX9 10 adr rm_X9_isAhead) (hR : ∀ (pc : Nat) (lv : List (Nat × Value)), (r.1 = 0 ∨ r.1 = 1) → decode cX9_isAhead pc = .ok (.ireturn, 1) → K pc lv [.int r.1] r.2) (s0 : Int32) (S : St) : J K r (f_X9_isAhead_155 s0 S) 155 [] [.int s0] S := by
    unfold f_X9_isAhead_155
    exact j_zretv hR dX9_isAhead_155
def f_X9_isAhead_154  (S : St) : Option (Int32 × St) :=
    f_X9_isAhead_155 0 S
set_option maxHeartbeats 1000000 in
theorem b_X9_isAhead_154 {K : Kt} {adr : Nat → Nat} {r : Int32 × St} (C : Cx K cX9_isAhead RX9 10 adr rm_X9_isAhead) (hR : ∀ (pc : Nat) (lv : List (Nat × Value)), (r.1 = 0 ∨ r.1 = 1) → decode cX9_isAhead pc = .ok (.ireturn, 1) → K pc lv [.int r.1] r.2)  (S : St) : J K r (f_X9_isAhead_154  S) 154 [] [] S := by
    unfold f_X9_isAhead_154
    refine j_iconst C dX9_isAhead_154 (v := 0) rfl ?_
    exact b_X9_isAhead_155 C hR 0 S
def f_X9_isAhead_150  (S : St) : Option (Int32 × St) :=
    f_X9_isAhead_155 1 S
set_option maxHeartbeats 1000000 in
theorem b_X9_isAhead_150 {K : Kt} {adr : Nat → Nat} {r : Int32 × St} (C : Cx K cX9_isAhead RX9 10 adr rm_X9_isAhead) (hR : ∀ (pc : Nat) (lv : List (Nat × Value)), (r.1 = 0 ∨ r.1 = 1) → decode cX9_isAhead pc = .ok (.ireturn, 1) → K pc lv [.int r.1] r.2)  (S : St) : J K r (f_X9_isAhead_150  S) 150 [] [] S := by
    unfold f_X9_isAhead_150
    refine j_iconst C dX9_isAhead_150 (v := 1) rfl ?_
    refine j_goto C dX9_isAhead_151 (tgt := 155) (by decide) ?_
    exact b_X9_isAhead_155 C hR 1 S
def f_X9_isAhead_67 (s0 : Int32) (S : St) : Option (Int32 × St) :=
    bz s0 (some (s0, S))
set_option maxHeartbeats 1000000 in
theorem b_X9_isAhead_67 {K : Kt} {adr : Nat → Nat} {r : Int32 × St} (C : Cx K cX9_isAhead RX9 10 adr rm_X9_isAhead) (hR : ∀ (pc : Nat) (lv : List (Nat × Value)), (r.1 = 0 ∨ r.1 = 1) → decode cX9_isAhead pc = .ok (.ireturn, 1) → K pc lv [.int r.1] r.2) (s0 : Int32) (S : St) : J K r (f_X9_isAhead_67 s0 S) 67 [] [.int s0] S := by
    unfold f_X9_isAhead_67
    exact j_zretv hR dX9_isAhead_67
def f_X9_isAhead_66  (S : St) : Option (Int32 × St) :=
    f_X9_isAhead_67 0 S
set_option maxHeartbeats 1000000 in
theorem b_X9_isAhead_66 {K : Kt} {adr : Nat → Nat} {r : Int32 × St} (C : Cx K cX9_isAhead RX9 10 adr rm_X9_isAhead) (hR : ∀ (pc : Nat) (lv : List (Nat × Value)), (r.1 = 0 ∨ r.1 = 1) → decode cX9_isAhead pc = .ok (.ireturn, 1) → K pc lv [.int r.1] r.2)  (S : St) : J K r (f_X9_isAhead_66  S) 66 [] [] S := by
    unfold f_X9_isAhead_66
    refine j_iconst C dX9_isAhead_66 (v := 0) rfl ?_
    exact b_X9_isAhead_67 C hR 0 S
def f_X9_isAhead_62  (S : St) : Option (Int32 × St) :=
    f_X9_isAhead_67 1 S
set_option maxHeartbeats 1000000 in
theorem b_X9_isAhead_62 {K : Kt} {adr : Nat → Nat} {r : Int32 × St} (C : Cx K cX9_isAhead RX9 10 adr rm_X9_isAhead) (hR : ∀ (pc : Nat) (lv : List (Nat × Value)), (r.1 = 0 ∨ r.1 = 1) → decode cX9_isAhead pc = .ok (.ireturn, 1) → K pc lv [.int r.1] r.2)  (S : St) : J K r (f_X9_isAhead_62  S) 62 [] [] S := by
    unfold f_X9_isAhead_62
    refine j_iconst C dX9_isAhead_62 (v := 1) rfl ?_
    refine j_goto C dX9_isAhead_63 (tgt := 67) (by decide) ?_
    exact b_X9_isAhead_67 C hR 1 S
def f_X9_isAhead_48 (x3 : Int32) (x4 : Int32) (x5 : Int32) (S : St) : Option (Int32 × St) :=
    if 0 < x3 then (f_X9_isAhead_62 S)
    else (if 0 < x4 then (f_X9_isAhead_66 S)
      else (if x5 = 0 then (f_X9_isAhead_66 S)
        else (f_X9_isAhead_62 S)))
set_option maxHeartbeats 1000000 in
theorem b_X9_isAhead_48 {K : Kt} {adr : Nat → Nat} {r : Int32 × St} (C : Cx K cX9_isAhead RX9 10 adr rm_X9_isAhead) (hR : ∀ (pc : Nat) (lv : List (Nat × Value)), (r.1 = 0 ∨ r.1 = 1) → decode cX9_isAhead pc = .ok (.ireturn, 1) → K pc lv [.int r.1] r.2) (x3 : Int32) (x4 : Int32) (x5 : Int32) (S : St) : J K r (f_X9_isAhead_48 x3 x4 x5 S) 48 [(3, .int x3), (4, .int x4), (5, .int x5)] [] S := by
    unfold f_X9_isAhead_48
    refine j_iload_n C dX9_isAhead_48 0 rfl rfl ?_
    refine j_if_gt C dX9_isAhead_49 (tgt := 62) (by decide) ?_ ?_
    · refine j_sub C [] rfl ?_
      exact b_X9_isAhead_62 C hR S
    · refine j_iload C dX9_isAhead_52 1 rfl ?_
      refine j_if_gt C dX9_isAhead_54 (tgt := 66) (by decide) ?_ ?_
      · refine j_sub C [] rfl ?_
        exact b_X9_isAhead_66 C hR S
      · refine j_iload C dX9_isAhead_57 2 rfl ?_
        refine j_if_eq C dX9_isAhead_59 (tgt := 66) (by decide) ?_ ?_
        · refine j_sub C [] rfl ?_
          exact b_X9_isAhead_66 C hR S
        · refine j_sub C [] rfl ?_
          exact b_X9_isAhead_62 C hR S
def f_X9_isAhead_37 (x1 : Int32) (x2 : Int32) (x3 : Int32) (x4 : Int32) (s0 : Int32) (S : St) : Option (Int32 × St) :=
    if x3 ≤ 0 then (f_X9_isAhead_48 x3 x4 s0 S)
    else (if 0 < x4 then (bd (f_X9_get x1 1 S) fun v10 S9 =>
        bd (f_X9_get x1 (10 + v10) S9) fun v12 S11 =>
        ck 4 6 (lt (((v12 - (64 * (S11.1 35 (4 : Int32).toNatClampNeg))).toInt64) * x4.toInt64) fun v13 =>
        bd (f_X9_get x2 1 S11) fun v15 S14 =>
        bd (f_X9_get x2 (10 + v15) S14) fun v17 S16 =>
        ck 4 6 (lt (((v17 - (64 * (S16.1 35 (4 : Int32).toNatClampNeg))).toInt64) * x3.toInt64) fun v18 =>
        if (lg_cmp v13 v18) < 0 then (f_X9_isAhead_150 S16)
        else (if (lg_cmp v13 v18) = 0 then (if s0 = 0 then (f_X9_isAhead_154 S16)
            else (f_X9_isAhead_150 S16))
          else (f_X9_isAhead_154 S16)))))
      else (f_X9_isAhead_48 x3 x4 s0 S))
set_option maxHeartbeats 1000000 in
theorem b_X9_isAhead_37 {K : Kt} {adr : Nat → Nat} {r : Int32 × St} (C : Cx K cX9_isAhead RX9 10 adr rm_X9_isAhead) (hR : ∀ (pc : Nat) (lv : List (Nat × Value)), (r.1 = 0 ∨ r.1 = 1) → decode cX9_isAhead pc = .ok (.ireturn, 1) → K pc lv [.int r.1] r.2) (x1 : Int32) (x2 : Int32) (x3 : Int32) (x4 : Int32) (s0 : Int32) (S : St) : J K r (f_X9_isAhead_37 x1 x2 x3 x4 s0 S) 37 [(0, .ref (adr 27)), (1, .int x1), (2, .int x2), (3, .int x3), (4, .int x4)] [.int s0] S := by
    unfold f_X9_isAhead_37
    refine j_istore C dX9_isAhead_37 (by decide) rfl ?_
    refine j_iload_n C dX9_isAhead_39 4 rfl rfl ?_
    refine j_if_le C dX9_isAhead_40 (tgt := 48) (by decide) ?_ ?_
    · refine j_sub C [4, 5, 0] rfl ?_
      exact b_X9_isAhead_48 C hR x3 x4 s0 S
    · refine j_iload C dX9_isAhead_43 5 rfl ?_
      refine j_if_gt C dX9_isAhead_45 (tgt := 68) (by decide) ?_ ?_
      · refine j_aload_n C dX9_isAhead_68 1 rfl rfl ?_
        refine j_iload_n C dX9_isAhead_69 2 rfl rfl ?_
        refine j_bipush C dX9_isAhead_70 (v := 10) rfl ?_
        refine j_aload_n C dX9_isAhead_72 1 rfl rfl ?_
        refine j_iload_n C dX9_isAhead_73 2 rfl rfl ?_
        refine j_iconst C dX9_isAhead_74 (v := 1) rfl ?_
        refine j_cvi C dX9_isAhead_75 lk_X9_141 mw_X9_get (m_X9_get adr x1 1) ⟨rfl, rfl, Nat.le_of_ble_eq_true rfl, Nat.le_of_ble_eq_true rfl⟩ kd_27 (by decide) (Nat.le_of_ble_eq_true rfl) rfl rfl (st := [.int 10, .int x1, .ref (adr 27)]) (st0 := [.int 1, .int x1, .ref (adr 27), .int 10, .int x1, .ref (adr 27)]) rfl (Nat.le_of_ble_eq_true rfl) (fun v10 S9 => ?_)
        refine j_iadd C dX9_isAhead_78 ?_
        refine j_cvi C dX9_isAhead_79 lk_X9_141 mw_X9_get (m_X9_get adr x1 (10 + v10)) ⟨rfl, rfl, Nat.le_of_ble_eq_true rfl, Nat.le_of_ble_eq_true rfl⟩ kd_27 (by decide) (Nat.le_of_ble_eq_true rfl) rfl rfl (st := []) (st0 := [.int (10 + v10), .int x1, .ref (adr 27)]) rfl (Nat.le_of_ble_eq_true rfl) (fun v12 S11 => ?_)
        refine j_bipush C dX9_isAhead_82 (v := 64) rfl ?_
        refine j_aload_n C dX9_isAhead_84 1 rfl rfl ?_
        refine j_getr C dX9_isAhead_85 fl_X9_32 kd_27 (by decide) (Nat.le_of_ble_eq_true rfl) rfl ?_
        refine j_iconst C dX9_isAhead_88 (v := 4) rfl ?_
        refine j_iald C dX9_isAhead_89 kd_35 (Nat.le_of_ble_eq_true rfl) ?_
        refine j_imul C dX9_isAhead_90 ?_
        refine j_isub C dX9_isAhead_91 ?_
        refine j_i2l C dX9_isAhead_92 ?_
        refine j_iload C dX9_isAhead_93 5 rfl ?_
        refine j_i2l C dX9_isAhead_95 ?_
        refine j_lmul C dX9_isAhead_96 ?_
        refine j_topl (fun v13 => ?_)
        refine j_lstore C dX9_isAhead_97 (by decide) rfl ?_
        refine j_aload_n C dX9_isAhead_99 2 rfl rfl ?_
        refine j_iload_n C dX9_isAhead_100 4 rfl rfl ?_
        refine j_bipush C dX9_isAhead_101 (v := 10) rfl ?_
        refine j_aload_n C dX9_isAhead_103 2 rfl rfl ?_
        refine j_iload_n C dX9_isAhead_104 4 rfl rfl ?_
        refine j_iconst C dX9_isAhead_105 (v := 1) rfl ?_
        refine j_cvi C dX9_isAhead_106 lk_X9_141 mw_X9_get (m_X9_get adr x2 1) ⟨rfl, rfl, Nat.le_of_ble_eq_true rfl, Nat.le_of_ble_eq_true rfl⟩ kd_27 (by decide) (Nat.le_of_ble_eq_true rfl) rfl rfl (st := [.int 10, .int x2, .ref (adr 27)]) (st0 := [.int 1, .int x2, .ref (adr 27), .int 10, .int x2, .ref (adr 27)]) rfl (Nat.le_of_ble_eq_true rfl) (fun v15 S14 => ?_)
        refine j_iadd C dX9_isAhead_109 ?_
        refine j_cvi C dX9_isAhead_110 lk_X9_141 mw_X9_get (m_X9_get adr x2 (10 + v15)) ⟨rfl, rfl, Nat.le_of_ble_eq_true rfl, Nat.le_of_ble_eq_true rfl⟩ kd_27 (by decide) (Nat.le_of_ble_eq_true rfl) rfl rfl (st := []) (st0 := [.int (10 + v15), .int x2, .ref (adr 27)]) rfl (Nat.le_of_ble_eq_true rfl) (fun v17 S16 => ?_)
        refine j_bipush C dX9_isAhead_113 (v := 64) rfl ?_
        refine j_aload_n C dX9_isAhead_115 2 rfl rfl ?_
        refine j_getr C dX9_isAhead_116 fl_X9_32 kd_27 (by decide) (Nat.le_of_ble_eq_true rfl) rfl ?_
        refine j_iconst C dX9_isAhead_119 (v := 4) rfl ?_
        refine j_iald C dX9_isAhead_120 kd_35 (Nat.le_of_ble_eq_true rfl) ?_
        refine j_imul C dX9_isAhead_121 ?_
        refine j_isub C dX9_isAhead_122 ?_
        refine j_i2l C dX9_isAhead_123 ?_
        refine j_iload_n C dX9_isAhead_124 5 rfl rfl ?_
        refine j_i2l C dX9_isAhead_125 ?_
        refine j_lmul C dX9_isAhead_126 ?_
        refine j_topl (fun v18 => ?_)
        refine j_lstore C dX9_isAhead_127 (by decide) rfl ?_
        refine j_lload C dX9_isAhead_129 1 rfl ?_
        refine j_lload C dX9_isAhead_131 0 rfl ?_
        refine j_lcmp C dX9_isAhead_133 ?_
        refine j_if_lt C dX9_isAhead_134 (tgt := 150) (by decide) ?_ ?_
        · refine j_sub C [] rfl ?_
          exact b_X9_isAhead_150 C hR S16
        · refine j_lload C dX9_isAhead_137 1 rfl ?_
          refine j_lload C dX9_isAhead_139 0 rfl ?_
          refine j_lcmp C dX9_isAhead_141 ?_
          refine j_if_ne C dX9_isAhead_142 (tgt := 154) (by decide) ?_ ?_
          · refine j_sub C [] rfl ?_
            exact b_X9_isAhead_154 C hR S16
          · refine j_iload C dX9_isAhead_145 2 rfl ?_
            refine j_if_eq C dX9_isAhead_147 (tgt := 154) (by decide) ?_ ?_
            · refine j_sub C [] rfl ?_
              exact b_X9_isAhead_154 C hR S16
            · refine j_sub C [] rfl ?_
              exact b_X9_isAhead_150 C hR S16
      · refine j_sub C [4, 5, 0] rfl ?_
        exact b_X9_isAhead_48 C hR x3 x4 s0 S
def f_X9_isAhead (x1 : Int32) (x2 : Int32) (S : St) : Option (Int32 × St) :=
  bd (f_X9_get x1 7 S) fun v2 S1 =>
  bd (f_X9_get x2 7 S1) fun v4 S3 =>
  bd (f_X9_get x1 3 S3) fun v6 S5 =>
  bd (f_X9_get x2 3 S5) fun v8 S7 =>
  if v8 ≤ v6 then (f_X9_isAhead_37 x1 x2 v2 v4 0 S7)
  else (f_X9_isAhead_37 x1 x2 v2 v4 1 S7)
set_option maxHeartbeats 1000000 in
theorem m_X9_isAhead (adr : Nat → Nat) (x1 : Int32) (x2 : Int32) : MtI yX9_isAhead cX9_isAhead 10 (some .boolean) rm_X9_isAhead adr [.ref (adr 27), .int x1, .int x2] (f_X9_isAhead x1 x2) := by
  refine MtI.ofZ (by decide +kernel) (Nat.le_of_ble_eq_true rfl) (fun K r S C hR => ?_)
  refine j_start (lv' := [(0, .ref (adr 27)), (1, .int x1), (2, .int x2)]) rfl ?_
  unfold f_X9_isAhead
  refine j_aload_n C dX9_isAhead_0 0 rfl rfl ?_
  refine j_iload_n C dX9_isAhead_1 1 rfl rfl ?_
  refine j_bipush C dX9_isAhead_2 (v := 7) rfl ?_
  refine j_cvi C dX9_isAhead_4 lk_X9_141 mw_X9_get (m_X9_get adr x1 7) ⟨rfl, rfl, Nat.le_of_ble_eq_true rfl, Nat.le_of_ble_eq_true rfl⟩ kd_27 (by decide) (Nat.le_of_ble_eq_true rfl) rfl rfl (st := []) (st0 := [.int 7, .int x1, .ref (adr 27)]) rfl (Nat.le_of_ble_eq_true rfl) (fun v2 S1 => ?_)
  refine j_istore_n C dX9_isAhead_7 rfl (by decide) rfl ?_
  refine j_aload_n C dX9_isAhead_8 1 rfl rfl ?_
  refine j_iload_n C dX9_isAhead_9 3 rfl rfl ?_
  refine j_bipush C dX9_isAhead_10 (v := 7) rfl ?_
  refine j_cvi C dX9_isAhead_12 lk_X9_141 mw_X9_get (m_X9_get adr x2 7) ⟨rfl, rfl, Nat.le_of_ble_eq_true rfl, Nat.le_of_ble_eq_true rfl⟩ kd_27 (by decide) (Nat.le_of_ble_eq_true rfl) rfl rfl (st := []) (st0 := [.int 7, .int x2, .ref (adr 27)]) rfl (Nat.le_of_ble_eq_true rfl) (fun v4 S3 => ?_)
  refine j_istore C dX9_isAhead_15 (by decide) rfl ?_
  refine j_aload_n C dX9_isAhead_17 2 rfl rfl ?_
  refine j_iload_n C dX9_isAhead_18 3 rfl rfl ?_
  refine j_iconst C dX9_isAhead_19 (v := 3) rfl ?_
  refine j_cvi C dX9_isAhead_20 lk_X9_141 mw_X9_get (m_X9_get adr x1 3) ⟨rfl, rfl, Nat.le_of_ble_eq_true rfl, Nat.le_of_ble_eq_true rfl⟩ kd_27 (by decide) (Nat.le_of_ble_eq_true rfl) rfl rfl (st := []) (st0 := [.int 3, .int x1, .ref (adr 27)]) rfl (Nat.le_of_ble_eq_true rfl) (fun v6 S5 => ?_)
  refine j_aload_n C dX9_isAhead_23 2 rfl rfl ?_
  refine j_iload_n C dX9_isAhead_24 4 rfl rfl ?_
  refine j_iconst C dX9_isAhead_25 (v := 3) rfl ?_
  refine j_cvi C dX9_isAhead_26 lk_X9_141 mw_X9_get (m_X9_get adr x2 3) ⟨rfl, rfl, Nat.le_of_ble_eq_true rfl, Nat.le_of_ble_eq_true rfl⟩ kd_27 (by decide) (Nat.le_of_ble_eq_true rfl) rfl rfl (st := [.int v6]) (st0 := [.int 3, .int x2, .ref (adr 27), .int v6]) rfl (Nat.le_of_ble_eq_true rfl) (fun v8 S7 => ?_)
  refine j_icmp_ge C dX9_isAhead_29 (tgt := 36) (by decide) ?_ ?_
  · refine j_iconst C dX9_isAhead_36 (v := 0) rfl ?_
    refine j_sub C [2, 3, 4, 1, 0] rfl ?_
    exact b_X9_isAhead_37 C hR x1 x2 v2 v4 0 S7
  · refine j_iconst C dX9_isAhead_32 (v := 1) rfl ?_
    refine j_goto C dX9_isAhead_33 (tgt := 37) (by decide) ?_
    refine j_sub C [2, 3, 4, 1, 0] rfl ?_
    exact b_X9_isAhead_37 C hR x1 x2 v2 v4 1 S7
-- X9_queuedAt
abbrev rm_X9_queuedAt : Room := { frames := 2, cells := 0, slots := 0, locals := 51 }
def f_X9_queuedAt_115 (k2 : Int32 → Int32 → Int32 → St → Option (Int32 × St)) (x1 : Int32) (x2 : Int32) (x3 : Int32) (S : St) : Option (Int32 × St) :=
    k2 x1 x2 (x3 + 1) S
set_option maxHeartbeats 1000000 in
theorem b_X9_queuedAt_115 {K : Kt} {adr : Nat → Nat} {r : Int32 × St} (C : Cx K cX9_queuedAt RX9 7 adr rm_X9_queuedAt) (hR : ∀ (pc : Nat) (lv : List (Nat × Value)), decode cX9_queuedAt pc = .ok (.ireturn, 1) → K pc lv [.int r.1] r.2) (k2 : Int32 → Int32 → Int32 → St → Option (Int32 × St)) (h2 : ∀ (x1 : Int32) (x2 : Int32) (x3 : Int32) (S : St), J K r (k2 x1 x2 x3 S) 2 [(0, .ref (adr 27)), (1, .int x1), (2, .int x2), (3, .int x3)] [] S) (x1 : Int32) (x2 : Int32) (x3 : Int32) (S : St) : J K r (f_X9_queuedAt_115 k2 x1 x2 x3 S) 115 [(0, .ref (adr 27)), (1, .int x1), (2, .int x2), (3, .int x3)] [] S := by
    unfold f_X9_queuedAt_115
    refine j_iinc C dX9_queuedAt_115 (v := x3 + 1) 3 rfl rfl (by decide) rfl ?_
    refine j_goto C dX9_queuedAt_118 (tgt := 2) (by decide) ?_
    refine j_sub C [1, 2, 3, 0] rfl ?_
    exact h2 x1 x2 (x3 + 1) S
def f_X9_queuedAt_98 (k2 : Int32 → Int32 → Int32 → St → Option (Int32 × St)) (k34 : Int32 → Int32 → Int32 → Int32 → Int32 → St → Option (Int32 × St)) (x1 : Int32) (x2 : Int32) (x3 : Int32) (x5 : Int32) (s0 : Int32) (s1 : Int32) (S : St) : Option (Int32 × St) :=
    lt (s1 + s0) fun v11 =>
    k34 x1 x2 x3 v11 (x5 + 1) S
set_option maxHeartbeats 1000000 in
theorem b_X9_queuedAt_98 {K : Kt} {adr : Nat → Nat} {r : Int32 × St} (C : Cx K cX9_queuedAt RX9 7 adr rm_X9_queuedAt) (hR : ∀ (pc : Nat) (lv : List (Nat × Value)), decode cX9_queuedAt pc = .ok (.ireturn, 1) → K pc lv [.int r.1] r.2) (k2 : Int32 → Int32 → Int32 → St → Option (Int32 × St)) (h2 : ∀ (x1 : Int32) (x2 : Int32) (x3 : Int32) (S : St), J K r (k2 x1 x2 x3 S) 2 [(0, .ref (adr 27)), (1, .int x1), (2, .int x2), (3, .int x3)] [] S) (k34 : Int32 → Int32 → Int32 → Int32 → Int32 → St → Option (Int32 × St)) (h34 : ∀ (x1 : Int32) (x2 : Int32) (x3 : Int32) (x4 : Int32) (x5 : Int32) (S : St), J K r (k34 x1 x2 x3 x4 x5 S) 34 [(0, .ref (adr 27)), (1, .int x1), (2, .int x2), (3, .int x3), (4, .int x4), (5, .int x5)] [] S) (x1 : Int32) (x2 : Int32) (x3 : Int32) (x5 : Int32) (s0 : Int32) (s1 : Int32) (S : St) : J K r (f_X9_queuedAt_98 k2 k34 x1 x2 x3 x5 s0 s1 S) 98 [(0, .ref (adr 27)), (1, .int x1), (2, .int x2), (3, .int x3), (5, .int x5)] [.int s0, .int s1] S := by
    unfold f_X9_queuedAt_98
    refine j_iadd C dX9_queuedAt_98 ?_
    refine j_topi (fun v11 => ?_)
    refine j_istore C dX9_queuedAt_99 (by decide) rfl ?_
    refine j_iinc C dX9_queuedAt_101 (v := x5 + 1) 5 rfl rfl (by decide) rfl ?_
    refine j_goto C dX9_queuedAt_104 (tgt := 34) (by decide) ?_
    refine j_sub C [2, 3, 4, 5, 1, 0] rfl ?_
    exact h34 x1 x2 x3 v11 (x5 + 1) S
def f_X9_queuedAt_97 (k2 : Int32 → Int32 → Int32 → St → Option (Int32 × St)) (k34 : Int32 → Int32 → Int32 → Int32 → Int32 → St → Option (Int32 × St)) (x1 : Int32) (x2 : Int32) (x3 : Int32) (x5 : Int32) (s0 : Int32) (S : St) : Option (Int32 × St) :=
    f_X9_queuedAt_98 k2 k34 x1 x2 x3 x5 0 s0 S
set_option maxHeartbeats 1000000 in
theorem b_X9_queuedAt_97 {K : Kt} {adr : Nat → Nat} {r : Int32 × St} (C : Cx K cX9_queuedAt RX9 7 adr rm_X9_queuedAt) (hR : ∀ (pc : Nat) (lv : List (Nat × Value)), decode cX9_queuedAt pc = .ok (.ireturn, 1) → K pc lv [.int r.1] r.2) (k2 : Int32 → Int32 → Int32 → St → Option (Int32 × St)) (h2 : ∀ (x1 : Int32) (x2 : Int32) (x3 : Int32) (S : St), J K r (k2 x1 x2 x3 S) 2 [(0, .ref (adr 27)), (1, .int x1), (2, .int x2), (3, .int x3)] [] S) (k34 : Int32 → Int32 → Int32 → Int32 → Int32 → St → Option (Int32 × St)) (h34 : ∀ (x1 : Int32) (x2 : Int32) (x3 : Int32) (x4 : Int32) (x5 : Int32) (S : St), J K r (k34 x1 x2 x3 x4 x5 S) 34 [(0, .ref (adr 27)), (1, .int x1), (2, .int x2), (3, .int x3), (4, .int x4), (5, .int x5)] [] S) (x1 : Int32) (x2 : Int32) (x3 : Int32) (x5 : Int32) (s0 : Int32) (S : St) : J K r (f_X9_queuedAt_97 k2 k34 x1 x2 x3 x5 s0 S) 97 [(0, .ref (adr 27)), (1, .int x1), (2, .int x2), (3, .int x3), (5, .int x5)] [.int s0] S := by
    unfold f_X9_queuedAt_97
    refine j_iconst C dX9_queuedAt_97 (v := 0) rfl ?_
    exact b_X9_queuedAt_98 C hR k2 h2 k34 h34 x1 x2 x3 x5 0 s0 S
def f_X9_queuedAt_74 (k2 : Int32 → Int32 → Int32 → St → Option (Int32 × St)) (k34 : Int32 → Int32 → Int32 → Int32 → Int32 → St → Option (Int32 × St)) (x1 : Int32) (x2 : Int32) (x3 : Int32) (x4 : Int32) (x5 : Int32) (s0 : Int32) (S : St) : Option (Int32 × St) :=
    if s0 = 0 then (f_X9_queuedAt_97 k2 k34 x1 x2 x3 x5 x4 S)
    else (bd (f_X9_isAhead x5 x3 S) fun v10 S9 =>
      if v10 = 0 then (f_X9_queuedAt_97 k2 k34 x1 x2 x3 x5 x4 S9)
      else (f_X9_queuedAt_98 k2 k34 x1 x2 x3 x5 1 x4 S9))
set_option maxHeartbeats 1000000 in
theorem b_X9_queuedAt_74 {K : Kt} {adr : Nat → Nat} {r : Int32 × St} (C : Cx K cX9_queuedAt RX9 7 adr rm_X9_queuedAt) (hR : ∀ (pc : Nat) (lv : List (Nat × Value)), decode cX9_queuedAt pc = .ok (.ireturn, 1) → K pc lv [.int r.1] r.2) (k2 : Int32 → Int32 → Int32 → St → Option (Int32 × St)) (h2 : ∀ (x1 : Int32) (x2 : Int32) (x3 : Int32) (S : St), J K r (k2 x1 x2 x3 S) 2 [(0, .ref (adr 27)), (1, .int x1), (2, .int x2), (3, .int x3)] [] S) (k34 : Int32 → Int32 → Int32 → Int32 → Int32 → St → Option (Int32 × St)) (h34 : ∀ (x1 : Int32) (x2 : Int32) (x3 : Int32) (x4 : Int32) (x5 : Int32) (S : St), J K r (k34 x1 x2 x3 x4 x5 S) 34 [(0, .ref (adr 27)), (1, .int x1), (2, .int x2), (3, .int x3), (4, .int x4), (5, .int x5)] [] S) (x1 : Int32) (x2 : Int32) (x3 : Int32) (x4 : Int32) (x5 : Int32) (s0 : Int32) (S : St) : J K r (f_X9_queuedAt_74 k2 k34 x1 x2 x3 x4 x5 s0 S) 74 [(0, .ref (adr 27)), (1, .int x1), (2, .int x2), (3, .int x3), (4, .int x4), (5, .int x5)] [.int s0] S := by
    unfold f_X9_queuedAt_74
    refine j_istore C dX9_queuedAt_74 (by decide) rfl ?_
    refine j_iload C dX9_queuedAt_76 5 rfl ?_
    refine j_iload C dX9_queuedAt_78 0 rfl ?_
    refine j_if_eq C dX9_queuedAt_80 (tgt := 97) (by decide) ?_ ?_
    · refine j_sub C [1, 2, 3, 4, 6] rfl ?_
      exact b_X9_queuedAt_97 C hR k2 h2 k34 h34 x1 x2 x3 x5 x4 S
    · refine j_aload_n C dX9_queuedAt_83 1 rfl rfl ?_
      refine j_iload C dX9_queuedAt_84 6 rfl ?_
      refine j_iload_n C dX9_queuedAt_86 4 rfl rfl ?_
      refine j_cvi C dX9_queuedAt_87 lk_X9_196 mw_X9_isAhead (m_X9_isAhead adr x5 x3) ⟨rfl, rfl, Nat.le_of_ble_eq_true rfl, Nat.le_of_ble_eq_true rfl⟩ kd_27 (by decide) (Nat.le_of_ble_eq_true rfl) rfl rfl (st := [.int x4]) (st0 := [.int x3, .int x5, .ref (adr 27), .int x4]) rfl (Nat.le_of_ble_eq_true rfl) (fun v10 S9 => ?_)
      refine j_if_eq C dX9_queuedAt_90 (tgt := 97) (by decide) ?_ ?_
      · refine j_sub C [1, 2, 3, 4, 6] rfl ?_
        exact b_X9_queuedAt_97 C hR k2 h2 k34 h34 x1 x2 x3 x5 x4 S9
      · refine j_iconst C dX9_queuedAt_93 (v := 1) rfl ?_
        refine j_goto C dX9_queuedAt_94 (tgt := 98) (by decide) ?_
        refine j_sub C [1, 2, 3, 4, 6] rfl ?_
        exact b_X9_queuedAt_98 C hR k2 h2 k34 h34 x1 x2 x3 x5 1 x4 S9
def f_X9_queuedAt_73 (k2 : Int32 → Int32 → Int32 → St → Option (Int32 × St)) (k34 : Int32 → Int32 → Int32 → Int32 → Int32 → St → Option (Int32 × St)) (x1 : Int32) (x2 : Int32) (x3 : Int32) (x4 : Int32) (x5 : Int32) (S : St) : Option (Int32 × St) :=
    f_X9_queuedAt_74 k2 k34 x1 x2 x3 x4 x5 0 S
set_option maxHeartbeats 1000000 in
theorem b_X9_queuedAt_73 {K : Kt} {adr : Nat → Nat} {r : Int32 × St} (C : Cx K cX9_queuedAt RX9 7 adr rm_X9_queuedAt) (hR : ∀ (pc : Nat) (lv : List (Nat × Value)), decode cX9_queuedAt pc = .ok (.ireturn, 1) → K pc lv [.int r.1] r.2) (k2 : Int32 → Int32 → Int32 → St → Option (Int32 × St)) (h2 : ∀ (x1 : Int32) (x2 : Int32) (x3 : Int32) (S : St), J K r (k2 x1 x2 x3 S) 2 [(0, .ref (adr 27)), (1, .int x1), (2, .int x2), (3, .int x3)] [] S) (k34 : Int32 → Int32 → Int32 → Int32 → Int32 → St → Option (Int32 × St)) (h34 : ∀ (x1 : Int32) (x2 : Int32) (x3 : Int32) (x4 : Int32) (x5 : Int32) (S : St), J K r (k34 x1 x2 x3 x4 x5 S) 34 [(0, .ref (adr 27)), (1, .int x1), (2, .int x2), (3, .int x3), (4, .int x4), (5, .int x5)] [] S) (x1 : Int32) (x2 : Int32) (x3 : Int32) (x4 : Int32) (x5 : Int32) (S : St) : J K r (f_X9_queuedAt_73 k2 k34 x1 x2 x3 x4 x5 S) 73 [(0, .ref (adr 27)), (1, .int x1), (2, .int x2), (3, .int x3), (4, .int x4), (5, .int x5)] [] S := by
    unfold f_X9_queuedAt_73
    refine j_iconst C dX9_queuedAt_73 (v := 0) rfl ?_
    exact b_X9_queuedAt_74 C hR k2 h2 k34 h34 x1 x2 x3 x4 x5 0 S
def f_X9_queuedAt_34 (k2 : Int32 → Int32 → Int32 → St → Option (Int32 × St)) : Nat → Int32 → Int32 → Int32 → Int32 → Int32 → St → Option (Int32 × St)
  | 0, _, _, _, _, _, _ => none
  | n + 1, x1, x2, x3, x4, x5, S =>
    if 12 ≤ x5 then (if x4 = x2 then (some (x3, S))
      else (f_X9_queuedAt_115 k2 x1 x2 x3 S))
    else (if x5 = x3 then (f_X9_queuedAt_73 k2 (f_X9_queuedAt_34 k2 n) x1 x2 x3 x4 x5 S)
      else (bd (f_X9_get x5 0 S) fun v6 S5 =>
        if v6 = 1 then (bd (f_X9_get x5 2 S5) fun v8 S7 =>
          if v8 = x1 then (f_X9_queuedAt_74 k2 (f_X9_queuedAt_34 k2 n) x1 x2 x3 x4 x5 1 S7)
          else (f_X9_queuedAt_73 k2 (f_X9_queuedAt_34 k2 n) x1 x2 x3 x4 x5 S7))
        else (f_X9_queuedAt_73 k2 (f_X9_queuedAt_34 k2 n) x1 x2 x3 x4 x5 S5)))
set_option maxHeartbeats 1000000 in
theorem b_X9_queuedAt_34 {K : Kt} {adr : Nat → Nat} {r : Int32 × St} (C : Cx K cX9_queuedAt RX9 7 adr rm_X9_queuedAt) (hR : ∀ (pc : Nat) (lv : List (Nat × Value)), decode cX9_queuedAt pc = .ok (.ireturn, 1) → K pc lv [.int r.1] r.2) (k2 : Int32 → Int32 → Int32 → St → Option (Int32 × St)) (h2 : ∀ (x1 : Int32) (x2 : Int32) (x3 : Int32) (S : St), J K r (k2 x1 x2 x3 S) 2 [(0, .ref (adr 27)), (1, .int x1), (2, .int x2), (3, .int x3)] [] S) : ∀ (n : Nat) (x1 : Int32) (x2 : Int32) (x3 : Int32) (x4 : Int32) (x5 : Int32) (S : St), J K r (f_X9_queuedAt_34 k2 n x1 x2 x3 x4 x5 S) 34 [(0, .ref (adr 27)), (1, .int x1), (2, .int x2), (3, .int x3), (4, .int x4), (5, .int x5)] [] S := by
  intro n
  induction n with
  | zero => intro x1 x2 x3 x4 x5 S h; cases h
  | succ n ih =>
    intro x1 x2 x3 x4 x5 S
    unfold f_X9_queuedAt_34
    refine j_iload C dX9_queuedAt_34 5 rfl ?_
    refine j_bipush C dX9_queuedAt_36 (v := 12) rfl ?_
    refine j_icmp_ge C dX9_queuedAt_38 (tgt := 107) (by decide) ?_ ?_
    · refine j_iload C dX9_queuedAt_107 4 rfl ?_
      refine j_iload_n C dX9_queuedAt_109 2 rfl rfl ?_
      refine j_icmp_ne C dX9_queuedAt_110 (tgt := 115) (by decide) ?_ ?_
      · refine j_sub C [0, 1, 2, 3] rfl ?_
        exact b_X9_queuedAt_115 C hR k2 h2 x1 x2 x3 S
      · refine j_iload_n C dX9_queuedAt_113 3 rfl rfl ?_
        exact j_iret hR dX9_queuedAt_114
    · refine j_iload C dX9_queuedAt_41 5 rfl ?_
      refine j_iload_n C dX9_queuedAt_43 3 rfl rfl ?_
      refine j_icmp_eq C dX9_queuedAt_44 (tgt := 73) (by decide) ?_ ?_
      · exact b_X9_queuedAt_73 C hR k2 h2 (f_X9_queuedAt_34 k2 n) ih x1 x2 x3 x4 x5 S
      · refine j_aload_n C dX9_queuedAt_47 0 rfl rfl ?_
        refine j_iload C dX9_queuedAt_48 5 rfl ?_
        refine j_iconst C dX9_queuedAt_50 (v := 0) rfl ?_
        refine j_cvi C dX9_queuedAt_51 lk_X9_141 mw_X9_get (m_X9_get adr x5 0) ⟨rfl, rfl, Nat.le_of_ble_eq_true rfl, Nat.le_of_ble_eq_true rfl⟩ kd_27 (by decide) (Nat.le_of_ble_eq_true rfl) rfl rfl (st := []) (st0 := [.int 0, .int x5, .ref (adr 27)]) rfl (Nat.le_of_ble_eq_true rfl) (fun v6 S5 => ?_)
        refine j_iconst C dX9_queuedAt_54 (v := 1) rfl ?_
        refine j_icmp_ne C dX9_queuedAt_55 (tgt := 73) (by decide) ?_ ?_
        · exact b_X9_queuedAt_73 C hR k2 h2 (f_X9_queuedAt_34 k2 n) ih x1 x2 x3 x4 x5 S5
        · refine j_aload_n C dX9_queuedAt_58 0 rfl rfl ?_
          refine j_iload C dX9_queuedAt_59 5 rfl ?_
          refine j_iconst C dX9_queuedAt_61 (v := 2) rfl ?_
          refine j_cvi C dX9_queuedAt_62 lk_X9_141 mw_X9_get (m_X9_get adr x5 2) ⟨rfl, rfl, Nat.le_of_ble_eq_true rfl, Nat.le_of_ble_eq_true rfl⟩ kd_27 (by decide) (Nat.le_of_ble_eq_true rfl) rfl rfl (st := []) (st0 := [.int 2, .int x5, .ref (adr 27)]) rfl (Nat.le_of_ble_eq_true rfl) (fun v8 S7 => ?_)
          refine j_iload_n C dX9_queuedAt_65 1 rfl rfl ?_
          refine j_icmp_ne C dX9_queuedAt_66 (tgt := 73) (by decide) ?_ ?_
          · exact b_X9_queuedAt_73 C hR k2 h2 (f_X9_queuedAt_34 k2 n) ih x1 x2 x3 x4 x5 S7
          · refine j_iconst C dX9_queuedAt_69 (v := 1) rfl ?_
            refine j_goto C dX9_queuedAt_70 (tgt := 74) (by decide) ?_
            exact b_X9_queuedAt_74 C hR k2 h2 (f_X9_queuedAt_34 k2 n) ih x1 x2 x3 x4 x5 1 S7
def f_X9_queuedAt_2 : Nat → Int32 → Int32 → Int32 → St → Option (Int32 × St)
  | 0, _, _, _, _ => none
  | n + 1, x1, x2, x3, S =>
    if 12 ≤ x3 then (some ((-9), S))
    else (bd (f_X9_get x3 0 S) fun v2 S1 =>
      if v2 = 1 then (bd (f_X9_get x3 2 S1) fun v4 S3 =>
        if v4 = x1 then (f_X9_queuedAt_34 (f_X9_queuedAt_2 n) FU x1 x2 x3 0 0 S3)
        else (f_X9_queuedAt_115 (f_X9_queuedAt_2 n) x1 x2 x3 S3))
      else (f_X9_queuedAt_115 (f_X9_queuedAt_2 n) x1 x2 x3 S1))
set_option maxHeartbeats 1000000 in
theorem b_X9_queuedAt_2 {K : Kt} {adr : Nat → Nat} {r : Int32 × St} (C : Cx K cX9_queuedAt RX9 7 adr rm_X9_queuedAt) (hR : ∀ (pc : Nat) (lv : List (Nat × Value)), decode cX9_queuedAt pc = .ok (.ireturn, 1) → K pc lv [.int r.1] r.2) : ∀ (n : Nat) (x1 : Int32) (x2 : Int32) (x3 : Int32) (S : St), J K r (f_X9_queuedAt_2 n x1 x2 x3 S) 2 [(0, .ref (adr 27)), (1, .int x1), (2, .int x2), (3, .int x3)] [] S := by
  intro n
  induction n with
  | zero => intro x1 x2 x3 S h; cases h
  | succ n ih =>
    intro x1 x2 x3 S
    unfold f_X9_queuedAt_2
    refine j_iload_n C dX9_queuedAt_2 3 rfl rfl ?_
    refine j_bipush C dX9_queuedAt_3 (v := 12) rfl ?_
    refine j_icmp_ge C dX9_queuedAt_5 (tgt := 121) (by decide) ?_ ?_
    · refine j_bipush C dX9_queuedAt_121 (v := -9) rfl ?_
      exact j_iret hR dX9_queuedAt_123
    · refine j_aload_n C dX9_queuedAt_8 0 rfl rfl ?_
      refine j_iload_n C dX9_queuedAt_9 3 rfl rfl ?_
      refine j_iconst C dX9_queuedAt_10 (v := 0) rfl ?_
      refine j_cvi C dX9_queuedAt_11 lk_X9_141 mw_X9_get (m_X9_get adr x3 0) ⟨rfl, rfl, Nat.le_of_ble_eq_true rfl, Nat.le_of_ble_eq_true rfl⟩ kd_27 (by decide) (Nat.le_of_ble_eq_true rfl) rfl rfl (st := []) (st0 := [.int 0, .int x3, .ref (adr 27)]) rfl (Nat.le_of_ble_eq_true rfl) (fun v2 S1 => ?_)
      refine j_iconst C dX9_queuedAt_14 (v := 1) rfl ?_
      refine j_icmp_ne C dX9_queuedAt_15 (tgt := 115) (by decide) ?_ ?_
      · exact b_X9_queuedAt_115 C hR (f_X9_queuedAt_2 n) ih x1 x2 x3 S1
      · refine j_aload_n C dX9_queuedAt_18 0 rfl rfl ?_
        refine j_iload_n C dX9_queuedAt_19 3 rfl rfl ?_
        refine j_iconst C dX9_queuedAt_20 (v := 2) rfl ?_
        refine j_cvi C dX9_queuedAt_21 lk_X9_141 mw_X9_get (m_X9_get adr x3 2) ⟨rfl, rfl, Nat.le_of_ble_eq_true rfl, Nat.le_of_ble_eq_true rfl⟩ kd_27 (by decide) (Nat.le_of_ble_eq_true rfl) rfl rfl (st := []) (st0 := [.int 2, .int x3, .ref (adr 27)]) rfl (Nat.le_of_ble_eq_true rfl) (fun v4 S3 => ?_)
        refine j_iload_n C dX9_queuedAt_24 1 rfl rfl ?_
        refine j_icmp_ne C dX9_queuedAt_25 (tgt := 115) (by decide) ?_ ?_
        · exact b_X9_queuedAt_115 C hR (f_X9_queuedAt_2 n) ih x1 x2 x3 S3
        · refine j_iconst C dX9_queuedAt_28 (v := 0) rfl ?_
          refine j_istore C dX9_queuedAt_29 (by decide) rfl ?_
          refine j_iconst C dX9_queuedAt_31 (v := 0) rfl ?_
          refine j_istore C dX9_queuedAt_32 (by decide) rfl ?_
          refine j_sub C [2, 3, 4, 5, 1, 0] rfl ?_
          exact b_X9_queuedAt_34 C hR (f_X9_queuedAt_2 n) ih FU x1 x2 x3 0 0 S3
def f_X9_queuedAt (x1 : Int32) (x2 : Int32) (S : St) : Option (Int32 × St) :=
  f_X9_queuedAt_2 FU x1 x2 0 S
set_option maxHeartbeats 1000000 in
theorem m_X9_queuedAt (adr : Nat → Nat) (x1 : Int32) (x2 : Int32) : MtI yX9_queuedAt cX9_queuedAt 7 (some .int) rm_X9_queuedAt adr [.ref (adr 27), .int x1, .int x2] (f_X9_queuedAt x1 x2) := by
  refine MtI.of (by decide +kernel) (Nat.le_of_ble_eq_true rfl) (fun K r S C hR => ?_)
  refine j_start (lv' := [(0, .ref (adr 27)), (1, .int x1), (2, .int x2)]) rfl ?_
  unfold f_X9_queuedAt
  refine j_iconst C dX9_queuedAt_0 (v := 0) rfl ?_
  refine j_istore_n C dX9_queuedAt_1 rfl (by decide) rfl ?_
  refine j_sub C [1, 2, 3, 0] rfl ?_
  exact b_X9_queuedAt_2 C hR FU x1 x2 0 S
