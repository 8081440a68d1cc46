-- X9_keep
abbrev rm_X9_keep : Room := { frames := 2, cells := 0, slots := 0, locals := 44 }
def f_X9_keep (x1 : Int32) (S : St) : Option (Int32 × St) :=
  bd (f_X9_in x1.toInt64 0 1 S) fun v2 S1 =>
  if v2 = 0 then (some ((-1), S1))
  else (bdV (f_X9_copy 0 (283 + (283 * x1)) S1) fun S3 =>
    ck x1 2 (lt (upI S3 29 x1.toNatClampNeg (vp_nar .boolean 1)) fun S4 =>
    bd (f_X9_calls S4) fun v6 S5 =>
    some (v6, S5)))
set_option maxHeartbeats 1000000 in
theorem m_X9_keep (adr : Nat → Nat) (x1 : Int32) : MtI yX9_keep cX9_keep 2 (some .int) rm_X9_keep adr [.ref (adr 27), .int x1] (f_X9_keep x1) := by
  refine MtI.of (by decide +kernel) (Nat.le_of_ble_eq_true rfl) (fun K r S C hR => ?_)
  refine j_start (lv' := [(0, .ref (adr 27)), (1, .int x1)]) rfl ?_
  unfold f_X9_keep
  refine j_iload_n C dX9_keep_0 1 rfl rfl ?_
  refine j_i2l C dX9_keep_1 ?_
  refine j_lconst C dX9_keep_2 (v := 0) rfl ?_
  refine j_lconst C dX9_keep_3 (v := 1) rfl ?_
  refine j_csi C dX9_keep_4 lk_X9_66 mw_X9_in (m_X9_in adr x1.toInt64 0 1) ⟨rfl, rfl, Nat.le_of_ble_eq_true rfl, Nat.le_of_ble_eq_true rfl⟩ rfl (st := []) (st0 := [.long 1, .long 0, .long x1.toInt64]) rfl (Nat.le_of_ble_eq_true rfl) (fun v2 S1 => ?_)
  refine j_if_ne C dX9_keep_7 (tgt := 12) (by decide) ?_ ?_
  · refine j_aload_n C dX9_keep_12 0 rfl rfl ?_
    refine j_iconst C dX9_keep_13 (v := 0) rfl ?_
    refine j_sipush C dX9_keep_14 (v := 283) rfl ?_
    refine j_sipush C dX9_keep_17 (v := 283) rfl ?_
    refine j_iload_n C dX9_keep_20 1 rfl rfl ?_
    refine j_imul C dX9_keep_21 ?_
    refine j_iadd C dX9_keep_22 ?_
    refine j_cvv C dX9_keep_23 lk_X9_58 mw_X9_copy (m_X9_copy adr 0 (283 + (283 * x1))) ⟨rfl, rfl, Nat.le_of_ble_eq_true rfl, Nat.le_of_ble_eq_true rfl⟩ kd_27 (by decide) (Nat.le_of_ble_eq_true rfl) rfl rfl (st := []) (st0 := [.int (283 + (283 * x1)), .int 0, .ref (adr 27)]) rfl (Nat.le_of_ble_eq_true rfl) (fun S3 => ?_)
    refine j_aload_n C dX9_keep_26 0 rfl rfl ?_
    refine j_getr C dX9_keep_27 fl_X9_13 kd_27 (by decide) (Nat.le_of_ble_eq_true rfl) rfl ?_
    refine j_iload_n C dX9_keep_30 1 rfl rfl ?_
    refine j_iconst C dX9_keep_31 (v := 1) rfl ?_
    refine j_zast C dX9_keep_32 kd_29 (Nat.le_of_ble_eq_true rfl) (fun S4 => ?_)
    refine j_aload_n C dX9_keep_33 0 rfl rfl ?_
    refine j_cvi C dX9_keep_34 lk_X9_163 mw_X9_calls (m_X9_calls adr ) ⟨rfl, rfl, Nat.le_of_ble_eq_true rfl, Nat.le_of_ble_eq_true rfl⟩ kd_27 (by decide) (Nat.le_of_ble_eq_true rfl) rfl rfl (st := []) (st0 := [.ref (adr 27)]) rfl (Nat.le_of_ble_eq_true rfl) (fun v6 S5 => ?_)
    exact j_iret hR dX9_keep_37
  · refine j_iconst C dX9_keep_10 (v := -1) rfl ?_
    exact j_iret hR dX9_keep_11
-- X9_back
abbrev rm_X9_back : Room := { frames := 2, cells := 0, slots := 0, locals := 44 }
def f_X9_back (x1 : Int32) (S : St) : Option (Int32 × St) :=
  bd (f_X9_in x1.toInt64 0 1 S) fun v2 S1 =>
  if v2 = 0 then (some ((-1), S1))
  else (ck x1 2 (if (S1.1 29 x1.toNatClampNeg) = 0 then (some ((-2), S1))
    else (bdV (f_X9_copy (283 + (283 * x1)) 0 S1) fun S3 =>
      lt (upI S3 27 2 0) fun S4 =>
      bd (f_X9_calls S4) fun v6 S5 =>
      some (v6, S5))))
set_option maxHeartbeats 1000000 in
theorem m_X9_back (adr : Nat → Nat) (x1 : Int32) : MtI yX9_back cX9_back 2 (some .int) rm_X9_back adr [.ref (adr 27), .int x1] (f_X9_back x1) := by
  refine MtI.of (by decide +kernel) (Nat.le_of_ble_eq_true rfl) (fun K r S C hR => ?_)
  refine j_start (lv' := [(0, .ref (adr 27)), (1, .int x1)]) rfl ?_
  unfold f_X9_back
  refine j_iload_n C dX9_back_0 1 rfl rfl ?_
  refine j_i2l C dX9_back_1 ?_
  refine j_lconst C dX9_back_2 (v := 0) rfl ?_
  refine j_lconst C dX9_back_3 (v := 1) rfl ?_
  refine j_csi C dX9_back_4 lk_X9_66 mw_X9_in (m_X9_in adr x1.toInt64 0 1) ⟨rfl, rfl, Nat.le_of_ble_eq_true rfl, Nat.le_of_ble_eq_true rfl⟩ rfl (st := []) (st0 := [.long 1, .long 0, .long x1.toInt64]) rfl (Nat.le_of_ble_eq_true rfl) (fun v2 S1 => ?_)
  refine j_if_ne C dX9_back_7 (tgt := 12) (by decide) ?_ ?_
  · refine j_aload_n C dX9_back_12 0 rfl rfl ?_
    refine j_getr C dX9_back_13 fl_X9_13 kd_27 (by decide) (Nat.le_of_ble_eq_true rfl) rfl ?_
    refine j_iload_n C dX9_back_16 1 rfl rfl ?_
    refine j_zald C dX9_back_17 kd_29 (Nat.le_of_ble_eq_true rfl) ?_
    refine j_if_ne C dX9_back_18 (tgt := 24) (by decide) ?_ ?_
    · refine j_aload_n C dX9_back_24 0 rfl rfl ?_
      refine j_sipush C dX9_back_25 (v := 283) rfl ?_
      refine j_sipush C dX9_back_28 (v := 283) rfl ?_
      refine j_iload_n C dX9_back_31 1 rfl rfl ?_
      refine j_imul C dX9_back_32 ?_
      refine j_iadd C dX9_back_33 ?_
      refine j_iconst C dX9_back_34 (v := 0) rfl ?_
      refine j_cvv C dX9_back_35 lk_X9_58 mw_X9_copy (m_X9_copy adr (283 + (283 * x1)) 0) ⟨rfl, rfl, Nat.le_of_ble_eq_true rfl, Nat.le_of_ble_eq_true rfl⟩ kd_27 (by decide) (Nat.le_of_ble_eq_true rfl) rfl rfl (st := []) (st0 := [.int 0, .int (283 + (283 * x1)), .ref (adr 27)]) rfl (Nat.le_of_ble_eq_true rfl) (fun S3 => ?_)
      refine j_aload_n C dX9_back_38 0 rfl rfl ?_
      refine j_iconst C dX9_back_39 (v := 0) rfl ?_
      refine j_puti C dX9_back_40 fl_X9_54 fi_X9_2 kd_27 (by decide) (Nat.le_of_ble_eq_true rfl) rfl (fun S4 => ?_)
      refine j_aload_n C dX9_back_43 0 rfl rfl ?_
      refine j_cvi C dX9_back_44 lk_X9_163 mw_X9_calls (m_X9_calls adr ) ⟨rfl, rfl, Nat.le_of_ble_eq_true rfl, Nat.le_of_ble_eq_true rfl⟩ kd_27 (by decide) (Nat.le_of_ble_eq_true rfl) rfl rfl (st := []) (st0 := [.ref (adr 27)]) rfl (Nat.le_of_ble_eq_true rfl) (fun v6 S5 => ?_)
      exact j_iret hR dX9_back_47
    · refine j_bipush C dX9_back_21 (v := -2) rfl ?_
      exact j_iret hR dX9_back_23
  · refine j_iconst C dX9_back_10 (v := -1) rfl ?_
    exact j_iret hR dX9_back_11
-- X9_count
abbrev rm_X9_count : Room := { frames := 2, cells := 0, slots := 0, locals := 44 }
def f_X9_count_74 (x1 : Int32) (S : St) : Option (Int32 × St) :=
    ck (x1 - 1) 6 (some (S.1 35 (x1 - 1).toNatClampNeg, S))
set_option maxHeartbeats 1000000 in
theorem b_X9_count_74 {K : Kt} {adr : Nat → Nat} {r : Int32 × St} (C : Cx K cX9_count RX9 2 adr rm_X9_count) (hR : ∀ (pc : Nat) (lv : List (Nat × Value)), decode cX9_count pc = .ok (.ireturn, 1) → K pc lv [.int r.1] r.2) (x1 : Int32) (S : St) : J K r (f_X9_count_74 x1 S) 74 [(0, .ref (adr 27)), (1, .int x1)] [] S := by
    unfold f_X9_count_74
    refine j_aload_n C dX9_count_74 0 rfl rfl ?_
    refine j_getr C dX9_count_75 fl_X9_32 kd_27 (by decide) (Nat.le_of_ble_eq_true rfl) rfl ?_
    refine j_iload_n C dX9_count_78 1 rfl rfl ?_
    refine j_iconst C dX9_count_79 (v := 1) rfl ?_
    refine j_isub C dX9_count_80 ?_
    refine j_iald C dX9_count_81 kd_35 (Nat.le_of_ble_eq_true rfl) ?_
    exact j_iret hR dX9_count_82
def f_X9_count (x1 : Int32) (S : St) : Option (Int32 × St) :=
  sw x1 0 11 (some ((-1000000), S)) fun i => match i with
    | 0 => some (S.1 27 8, S)
    | 1 => bd (f_X9_calls S) fun v2 S1 =>
      some (v2, S1)
    | 2 => f_X9_count_74 x1 S
    | 3 => f_X9_count_74 x1 S
    | 4 => f_X9_count_74 x1 S
    | 5 => f_X9_count_74 x1 S
    | 6 => f_X9_count_74 x1 S
    | 7 => ck 281 2547 (some (S.1 28 (281 : Int32).toNatClampNeg, S))
    | 8 => some (S.1 27 5, S)
    | 9 => some (S.1 27 7, S)
    | 10 => some (S.1 27 2, S)
    | 11 => ck 244 2547 (some (S.1 28 (244 : Int32).toNatClampNeg, S))
    | _ => none
set_option maxHeartbeats 1000000 in
theorem m_X9_count (adr : Nat → Nat) (x1 : Int32) : MtI yX9_count cX9_count 2 (some .int) rm_X9_count adr [.ref (adr 27), .int x1] (f_X9_count x1) := by
  refine MtI.of (by decide +kernel) (Nat.le_of_ble_eq_true rfl) (fun K r S C hR => ?_)
  refine j_start (lv' := [(0, .ref (adr 27)), (1, .int x1)]) rfl ?_
  unfold f_X9_count
  refine j_iload_n C dX9_count_0 1 rfl rfl ?_
  refine j_table C dX9_count_1 (tgt := 116) (by decide) ?_ ?_
  · refine j_ldc C dX9_count_116 kc_X9_234 ?_
    exact j_iret hR dX9_count_118
  · intro i hi
    exact match i, hi with
    | 0, _ => ⟨_, 64, rfl, by decide, by
      refine j_aload_n C dX9_count_64 0 rfl rfl ?_
      refine j_geti C dX9_count_65 fl_X9_133 kd_27 (by decide) (Nat.le_of_ble_eq_true rfl) rfl ?_
      exact j_iret hR dX9_count_68⟩
    | 1, _ => ⟨_, 69, rfl, by decide, by
      refine j_aload_n C dX9_count_69 0 rfl rfl ?_
      refine j_cvi C dX9_count_70 lk_X9_163 mw_X9_calls (m_X9_calls adr ) ⟨rfl, rfl, Nat.le_of_ble_eq_true rfl, Nat.le_of_ble_eq_true rfl⟩ kd_27 (by decide) (Nat.le_of_ble_eq_true rfl) rfl rfl (st := []) (st0 := [.ref (adr 27)]) rfl (Nat.le_of_ble_eq_true rfl) (fun v2 S1 => ?_)
      exact j_iret hR dX9_count_73⟩
    | 2, _ => ⟨_, 74, rfl, by decide, by
      exact b_X9_count_74 C hR x1 S⟩
    | 3, _ => ⟨_, 74, rfl, by decide, by
      exact b_X9_count_74 C hR x1 S⟩
    | 4, _ => ⟨_, 74, rfl, by decide, by
      exact b_X9_count_74 C hR x1 S⟩
    | 5, _ => ⟨_, 74, rfl, by decide, by
      exact b_X9_count_74 C hR x1 S⟩
    | 6, _ => ⟨_, 74, rfl, by decide, by
      exact b_X9_count_74 C hR x1 S⟩
    | 7, _ => ⟨_, 83, rfl, by decide, by
      refine j_aload_n C dX9_count_83 0 rfl rfl ?_
      refine j_getr C dX9_count_84 fl_X9_7 kd_27 (by decide) (Nat.le_of_ble_eq_true rfl) rfl ?_
      refine j_sipush C dX9_count_87 (v := 281) rfl ?_
      refine j_iald C dX9_count_90 kd_28 (Nat.le_of_ble_eq_true rfl) ?_
      exact j_iret hR dX9_count_91⟩
    | 8, _ => ⟨_, 92, rfl, by decide, by
      refine j_aload_n C dX9_count_92 0 rfl rfl ?_
      refine j_geti C dX9_count_93 fl_X9_136 kd_27 (by decide) (Nat.le_of_ble_eq_true rfl) rfl ?_
      exact j_iret hR dX9_count_96⟩
    | 9, _ => ⟨_, 97, rfl, by decide, by
      refine j_aload_n C dX9_count_97 0 rfl rfl ?_
      refine j_geti C dX9_count_98 fl_X9_73 kd_27 (by decide) (Nat.le_of_ble_eq_true rfl) rfl ?_
      exact j_iret hR dX9_count_101⟩
    | 10, _ => ⟨_, 102, rfl, by decide, by
      refine j_aload_n C dX9_count_102 0 rfl rfl ?_
      refine j_geti C dX9_count_103 fl_X9_54 kd_27 (by decide) (Nat.le_of_ble_eq_true rfl) rfl ?_
      exact j_iret hR dX9_count_106⟩
    | 11, _ => ⟨_, 107, rfl, by decide, by
      refine j_aload_n C dX9_count_107 0 rfl rfl ?_
      refine j_getr C dX9_count_108 fl_X9_7 kd_27 (by decide) (Nat.le_of_ble_eq_true rfl) rfl ?_
      refine j_sipush C dX9_count_111 (v := 244) rfl ?_
      refine j_iald C dX9_count_114 kd_28 (Nat.le_of_ble_eq_true rfl) ?_
      exact j_iret hR dX9_count_115⟩
    | i + 12, hi => absurd hi (by omega)
