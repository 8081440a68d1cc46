-- X2_store
abbrev rm_X2_store : Room := { frames := 2, cells := 0, slots := 0, locals := 39 }
def f_X2_store (x1 : Int32) (S : St) : Option (St) :=
  ck x1 2 (bdV (f_X7_copyFrom (161 + 17 * x1.toNatClampNeg) 42 S) fun S2 =>
  ck x1 2 (lt (upI S2 21 x1.toNatClampNeg (vp_nar .boolean 1)) fun S3 =>
  some S3))
set_option maxHeartbeats 1000000 in
theorem m_X2_store (adr : Nat → Nat) (x1 : Int32) : MtV yX2_store cX2_store 4 none rm_X2_store adr [.ref (adr 19), .int x1, .ref (adr 42)] (f_X2_store x1) := by
  refine MtV.of (by decide +kernel) (Nat.le_of_ble_eq_true rfl) (fun K r S C hR => ?_)
  refine j_start (lv' := [(0, .ref (adr 19)), (1, .int x1), (2, .ref (adr 42))]) rfl ?_
  unfold f_X2_store
  refine j_aload_n C dX2_store_0 0 rfl rfl ?_
  refine j_getr C dX2_store_1 fl_X2_11 kd_19 (by decide) (Nat.le_of_ble_eq_true rfl) rfl ?_
  refine j_iload_n C dX2_store_4 1 rfl rfl ?_
  refine j_aald C dX2_store_5 kd_20 (Nat.le_of_ble_eq_true rfl) (b0 := 161) (by decide) (fun hN1 => ?_)
  refine j_astore_n C dX2_store_6 rfl (by decide) rfl ?_
  refine j_aload_n C dX2_store_7 0 rfl rfl ?_
  refine j_ifnull C dX2_store_8 ?_
  refine j_aload_n C dX2_store_11 0 rfl rfl ?_
  refine j_aload_n C dX2_store_12 3 rfl rfl ?_
  refine j_cvv C dX2_store_13 lk_X2_22 mw_X7_copyFrom (m_X7_copyFrom adr (161 + 17 * x1.toNatClampNeg) 42 (trR_161 hN1) trN ) ⟨rfl, rfl, Nat.le_of_ble_eq_true rfl, Nat.le_of_ble_eq_true rfl⟩ (tr_0 (trR_161 hN1)) (by decide) (tr_lt (trR_161 hN1) 0 (by decide)) rfl rfl (st := []) (st0 := [.ref (adr 42), .ref (adr (161 + 17 * x1.toNatClampNeg))]) rfl (Nat.le_of_ble_eq_true rfl) (fun S2 => ?_)
  refine j_aload_n C dX2_store_16 1 rfl rfl ?_
  refine j_getr C dX2_store_17 fl_X2_17 kd_19 (by decide) (Nat.le_of_ble_eq_true rfl) rfl ?_
  refine j_iload_n C dX2_store_20 2 rfl rfl ?_
  refine j_iconst C dX2_store_21 (v := 1) rfl ?_
  refine j_zast C dX2_store_22 kd_21 (Nat.le_of_ble_eq_true rfl) (fun S3 => ?_)
  exact j_vret hR dX2_store_23
-- X7_present
abbrev rm_X7_present : Room := { frames := 1, cells := 0, slots := 0, locals := 23 }
def f_X7_present  (S : St) : Option (Int32 × St) :=
  bd (f_X7_callsOf 45 12 (-9) S) fun v2 S1 =>
  some (12 - v2, S1)
set_option maxHeartbeats 1000000 in
theorem m_X7_present (adr : Nat → Nat)  : MtI yX7_present cX7_present 1 (some .int) rm_X7_present adr [.ref (adr 42)] (f_X7_present ) := by
  refine MtI.of (by decide +kernel) (Nat.le_of_ble_eq_true rfl) (fun K r S C hR => ?_)
  refine j_start (lv' := [(0, .ref (adr 42))]) rfl ?_
  unfold f_X7_present
  refine j_bipush C dX7_present_0 (v := 12) rfl ?_
  refine j_aload_n C dX7_present_2 0 rfl rfl ?_
  refine j_getr C dX7_present_3 fl_X7_18 kd_42 (by decide) (Nat.le_of_ble_eq_true rfl) rfl ?_
  refine j_bipush C dX7_present_6 (v := -9) rfl ?_
  refine j_csi C dX7_present_8 lk_X7_88 mw_X7_callsOf (m_X7_callsOf adr 45 12 kd_45 (Nat.le_of_ble_eq_true rfl) (-9)) ⟨rfl, rfl, Nat.le_of_ble_eq_true rfl, Nat.le_of_ble_eq_true rfl⟩ rfl (st := [.int 12]) (st0 := [.int (-9), .ref (adr 45), .int 12]) rfl (Nat.le_of_ble_eq_true rfl) (fun v2 S1 => ?_)
  refine j_isub C dX7_present_11 ?_
  exact j_iret hR dX7_present_12
-- X8_keep
abbrev rm_X8_keep : Room := { frames := 3, cells := 0, slots := 0, locals := 62 }
def f_X8_keep (x1 : Int32) (S : St) : Option (Int32 × St) :=
  bd (f_X8_within x1 0 1 S) fun v2 S1 =>
  if v2 = 0 then (some ((-1), S1))
  else (bdV (f_X2_store x1 S1) fun S3 =>
    bd (f_X7_present S3) fun v5 S4 =>
    some (v5, S4))
set_option maxHeartbeats 1000000 in
theorem m_X8_keep (adr : Nat → Nat) (x1 : Int32) : MtI yX8_keep cX8_keep 2 (some .int) rm_X8_keep adr [.ref (adr 0), .int x1] (f_X8_keep x1) := by
  refine MtI.of (by decide +kernel) (Nat.le_of_ble_eq_true rfl) (fun K r S C hR => ?_)
  refine j_start (lv' := [(0, .ref (adr 0)), (1, .int x1)]) rfl ?_
  unfold f_X8_keep
  refine j_iload_n C dX8_keep_0 1 rfl rfl ?_
  refine j_iconst C dX8_keep_1 (v := 0) rfl ?_
  refine j_iconst C dX8_keep_2 (v := 1) rfl ?_
  refine j_csi C dX8_keep_3 lk_X8_67 mw_X8_within (m_X8_within adr x1 0 1) ⟨rfl, rfl, Nat.le_of_ble_eq_true rfl, Nat.le_of_ble_eq_true rfl⟩ rfl (st := []) (st0 := [.int 1, .int 0, .int x1]) rfl (Nat.le_of_ble_eq_true rfl) (fun v2 S1 => ?_)
  refine j_if_ne C dX8_keep_6 (tgt := 11) (by decide) ?_ ?_
  · refine j_aload_n C dX8_keep_11 0 rfl rfl ?_
    refine j_getr C dX8_keep_12 fl_X8_49 kd_0 (by decide) (Nat.le_of_ble_eq_true rfl) rfl ?_
    refine j_iload_n C dX8_keep_15 1 rfl rfl ?_
    refine j_aload_n C dX8_keep_16 0 rfl rfl ?_
    refine j_getr C dX8_keep_17 fl_X8_26 kd_0 (by decide) (Nat.le_of_ble_eq_true rfl) rfl ?_
    refine j_cvv C dX8_keep_20 lk_X8_237 mw_X2_store (m_X2_store adr x1) ⟨rfl, rfl, Nat.le_of_ble_eq_true rfl, Nat.le_of_ble_eq_true rfl⟩ kd_19 (by decide) (Nat.le_of_ble_eq_true rfl) rfl rfl (st := []) (st0 := [.ref (adr 42), .int x1, .ref (adr 19)]) rfl (Nat.le_of_ble_eq_true rfl) (fun S3 => ?_)
    refine j_aload_n C dX8_keep_23 0 rfl rfl ?_
    refine j_getr C dX8_keep_24 fl_X8_26 kd_0 (by decide) (Nat.le_of_ble_eq_true rfl) rfl ?_
    refine j_cvi C dX8_keep_27 lk_X8_241 mw_X7_present (m_X7_present adr ) ⟨rfl, rfl, Nat.le_of_ble_eq_true rfl, Nat.le_of_ble_eq_true rfl⟩ kd_42 (by decide) (Nat.le_of_ble_eq_true rfl) rfl rfl (st := []) (st0 := [.ref (adr 42)]) rfl (Nat.le_of_ble_eq_true rfl) (fun v5 S4 => ?_)
    exact j_iret hR dX8_keep_30
  · refine j_iconst C dX8_keep_9 (v := -1) rfl ?_
    exact j_iret hR dX8_keep_10
-- X2_bringBack
abbrev rm_X2_bringBack : Room := { frames := 2, cells := 0, slots := 0, locals := 39 }
def f_X2_bringBack (x1 : Int32) (S : St) : Option (Int32 × St) :=
  ck x1 2 (ck x1 2 (if (S.1 21 x1.toNatClampNeg) = 0 then (some (0, S))
  else (bdV (f_X7_copyFrom 42 (161 + 17 * x1.toNatClampNeg) S) fun S2 =>
    some (1, S2))))
set_option maxHeartbeats 1000000 in
theorem m_X2_bringBack (adr : Nat → Nat) (x1 : Int32) : MtI yX2_bringBack cX2_bringBack 4 (some .boolean) rm_X2_bringBack adr [.ref (adr 19), .int x1, .ref (adr 42)] (f_X2_bringBack x1) := by
  refine MtI.ofZ (by decide +kernel) (Nat.le_of_ble_eq_true rfl) (fun K r S C hR => ?_)
  refine j_start (lv' := [(0, .ref (adr 19)), (1, .int x1), (2, .ref (adr 42))]) rfl ?_
  unfold f_X2_bringBack
  refine j_aload_n C dX2_bringBack_0 0 rfl rfl ?_
  refine j_getr C dX2_bringBack_1 fl_X2_11 kd_19 (by decide) (Nat.le_of_ble_eq_true rfl) rfl ?_
  refine j_iload_n C dX2_bringBack_4 1 rfl rfl ?_
  refine j_aald C dX2_bringBack_5 kd_20 (Nat.le_of_ble_eq_true rfl) (b0 := 161) (by decide) (fun hN1 => ?_)
  refine j_astore_n C dX2_bringBack_6 rfl (by decide) rfl ?_
  refine j_aload_n C dX2_bringBack_7 1 rfl rfl ?_
  refine j_getr C dX2_bringBack_8 fl_X2_17 kd_19 (by decide) (Nat.le_of_ble_eq_true rfl) rfl ?_
  refine j_iload_n C dX2_bringBack_11 2 rfl rfl ?_
  refine j_zald C dX2_bringBack_12 kd_21 (Nat.le_of_ble_eq_true rfl) ?_
  refine j_if_eq C dX2_bringBack_13 (tgt := 20) (by decide) ?_ ?_
  · refine j_iconst C dX2_bringBack_20 (v := 0) rfl ?_
    exact j_zret hR (by decide) dX2_bringBack_21
  · refine j_aload_n C dX2_bringBack_16 0 rfl rfl ?_
    refine j_ifnonnull C dX2_bringBack_17 (tgt := 22) (by decide) ?_
    refine j_aload_n C dX2_bringBack_22 3 rfl rfl ?_
    refine j_aload_n C dX2_bringBack_23 0 rfl rfl ?_
    refine j_cvv C dX2_bringBack_24 lk_X2_22 mw_X7_copyFrom (m_X7_copyFrom adr 42 (161 + 17 * x1.toNatClampNeg) trN (trR_161 hN1) ) ⟨rfl, rfl, Nat.le_of_ble_eq_true rfl, Nat.le_of_ble_eq_true rfl⟩ kd_42 (by decide) (Nat.le_of_ble_eq_true rfl) rfl rfl (st := []) (st0 := [.ref (adr (161 + 17 * x1.toNatClampNeg)), .ref (adr 42)]) rfl (Nat.le_of_ble_eq_true rfl) (fun S2 => ?_)
    refine j_iconst C dX2_bringBack_27 (v := 1) rfl ?_
    exact j_zret hR (by decide) dX2_bringBack_28
-- X8_back
abbrev rm_X8_back : Room := { frames := 3, cells := 0, slots := 0, locals := 62 }
def f_X8_back (x1 : Int32) (S : St) : Option (Int32 × St) :=
  bd (f_X8_within x1 0 1 S) fun v2 S1 =>
  if v2 = 0 then (some ((-1), S1))
  else (bd (f_X2_bringBack x1 S1) fun v4 S3 =>
    if v4 = 0 then (some ((-2), S3))
    else (bdV (f_X1_forgetAll S3) fun S5 =>
      bd (f_X7_present S5) fun v7 S6 =>
      some (v7, S6)))
set_option maxHeartbeats 1000000 in
theorem m_X8_back (adr : Nat → Nat) (x1 : Int32) : MtI yX8_back cX8_back 2 (some .int) rm_X8_back adr [.ref (adr 0), .int x1] (f_X8_back x1) := by
  refine MtI.of (by decide +kernel) (Nat.le_of_ble_eq_true rfl) (fun K r S C hR => ?_)
  refine j_start (lv' := [(0, .ref (adr 0)), (1, .int x1)]) rfl ?_
  unfold f_X8_back
  refine j_iload_n C dX8_back_0 1 rfl rfl ?_
  refine j_iconst C dX8_back_1 (v := 0) rfl ?_
  refine j_iconst C dX8_back_2 (v := 1) rfl ?_
  refine j_csi C dX8_back_3 lk_X8_67 mw_X8_within (m_X8_within adr x1 0 1) ⟨rfl, rfl, Nat.le_of_ble_eq_true rfl, Nat.le_of_ble_eq_true rfl⟩ rfl (st := []) (st0 := [.int 1, .int 0, .int x1]) rfl (Nat.le_of_ble_eq_true rfl) (fun v2 S1 => ?_)
  refine j_if_ne C dX8_back_6 (tgt := 11) (by decide) ?_ ?_
  · refine j_aload_n C dX8_back_11 0 rfl rfl ?_
    refine j_getr C dX8_back_12 fl_X8_49 kd_0 (by decide) (Nat.le_of_ble_eq_true rfl) rfl ?_
    refine j_iload_n C dX8_back_15 1 rfl rfl ?_
    refine j_aload_n C dX8_back_16 0 rfl rfl ?_
    refine j_getr C dX8_back_17 fl_X8_26 kd_0 (by decide) (Nat.le_of_ble_eq_true rfl) rfl ?_
    refine j_cvi C dX8_back_20 lk_X8_244 mw_X2_bringBack (m_X2_bringBack adr x1) ⟨rfl, rfl, Nat.le_of_ble_eq_true rfl, Nat.le_of_ble_eq_true rfl⟩ kd_19 (by decide) (Nat.le_of_ble_eq_true rfl) rfl rfl (st := []) (st0 := [.ref (adr 42), .int x1, .ref (adr 19)]) rfl (Nat.le_of_ble_eq_true rfl) (fun v4 S3 => ?_)
    refine j_if_ne C dX8_back_23 (tgt := 29) (by decide) ?_ ?_
    · refine j_aload_n C dX8_back_29 0 rfl rfl ?_
      refine j_getr C dX8_back_30 fl_X8_42 kd_0 (by decide) (Nat.le_of_ble_eq_true rfl) rfl ?_
      refine j_cvv C dX8_back_33 lk_X8_93 mw_X1_forgetAll (m_X1_forgetAll adr ) ⟨rfl, rfl, Nat.le_of_ble_eq_true rfl, Nat.le_of_ble_eq_true rfl⟩ kd_17 (by decide) (Nat.le_of_ble_eq_true rfl) rfl rfl (st := []) (st0 := [.ref (adr 17)]) rfl (Nat.le_of_ble_eq_true rfl) (fun S5 => ?_)
      refine j_aload_n C dX8_back_36 0 rfl rfl ?_
      refine j_getr C dX8_back_37 fl_X8_26 kd_0 (by decide) (Nat.le_of_ble_eq_true rfl) rfl ?_
      refine j_cvi C dX8_back_40 lk_X8_241 mw_X7_present (m_X7_present adr ) ⟨rfl, rfl, Nat.le_of_ble_eq_true rfl, Nat.le_of_ble_eq_true rfl⟩ kd_42 (by decide) (Nat.le_of_ble_eq_true rfl) rfl rfl (st := []) (st0 := [.ref (adr 42)]) rfl (Nat.le_of_ble_eq_true rfl) (fun v7 S6 => ?_)
      exact j_iret hR dX8_back_43
    · refine j_bipush C dX8_back_26 (v := -2) rfl ?_
      exact j_iret hR dX8_back_28
  · refine j_iconst C dX8_back_9 (v := -1) rfl ?_
    exact j_iret hR dX8_back_10
-- X8_count
abbrev rm_X8_count : Room := { frames := 2, cells := 0, slots := 0, locals := 43 }
def f_X8_count_146 (s0 : Int32) (S : St) : Option (Int32 × St) :=
    some (s0, S)
set_option maxHeartbeats 1000000 in
theorem b_X8_count_146 {K : Kt} {adr : Nat → Nat} {r : Int32 × St} (C : Cx K cX8_count RX8 2 adr rm_X8_count) (hR : ∀ (pc : Nat) (lv : List (Nat × Value)), decode cX8_count pc = .ok (.ireturn, 1) → K pc lv [.int r.1] r.2) (s0 : Int32) (S : St) : J K r (f_X8_count_146 s0 S) 146 [] [.int s0] S := by
    unfold f_X8_count_146
    exact j_iret hR dX8_count_146
def f_X8_count_120 (x1 : Int32) (S : St) : Option (Int32 × St) :=
    bd (f_X8_within x1 2 6 S) fun v4 S3 =>
    if v4 = 0 then (f_X8_count_146 (-1000000) S3)
    else (ck (x1 - 2) 5 (f_X8_count_146 (S3.1 13 (x1 - 2).toNatClampNeg) S3))
set_option maxHeartbeats 1000000 in
theorem b_X8_count_120 {K : Kt} {adr : Nat → Nat} {r : Int32 × St} (C : Cx K cX8_count RX8 2 adr rm_X8_count) (hR : ∀ (pc : Nat) (lv : List (Nat × Value)), decode cX8_count pc = .ok (.ireturn, 1) → K pc lv [.int r.1] r.2) (x1 : Int32) (S : St) : J K r (f_X8_count_120 x1 S) 120 [(0, .ref (adr 0)), (1, .int x1)] [] S := by
    unfold f_X8_count_120
    refine j_iload_n C dX8_count_120 1 rfl rfl ?_
    refine j_iconst C dX8_count_121 (v := 2) rfl ?_
    refine j_bipush C dX8_count_122 (v := 6) rfl ?_
    refine j_csi C dX8_count_124 lk_X8_67 mw_X8_within (m_X8_within adr x1 2 6) ⟨rfl, rfl, Nat.le_of_ble_eq_true rfl, Nat.le_of_ble_eq_true rfl⟩ rfl (st := []) (st0 := [.int 6, .int 2, .int x1]) rfl (Nat.le_of_ble_eq_true rfl) (fun v4 S3 => ?_)
    refine j_if_eq C dX8_count_127 (tgt := 144) (by decide) ?_ ?_
    · refine j_ldc C dX8_count_144 kc_X8_165 ?_
      refine j_sub C [] rfl ?_
      exact b_X8_count_146 C hR (-1000000) S3
    · refine j_aload_n C dX8_count_130 0 rfl rfl ?_
      refine j_getr C dX8_count_131 fl_X8_19 kd_0 (by decide) (Nat.le_of_ble_eq_true rfl) rfl ?_
      refine j_getr C dX8_count_134 fl_X8_250 kd_9 (by decide) (Nat.le_of_ble_eq_true rfl) rfl ?_
      refine j_iload_n C dX8_count_137 1 rfl rfl ?_
      refine j_iconst C dX8_count_138 (v := 2) rfl ?_
      refine j_isub C dX8_count_139 ?_
      refine j_iald C dX8_count_140 kd_13 (Nat.le_of_ble_eq_true rfl) ?_
      refine j_goto C dX8_count_141 (tgt := 146) (by decide) ?_
      refine j_sub C [] rfl ?_
      exact b_X8_count_146 C hR (S3.1 13 (x1 - 2).toNatClampNeg) S3
def f_X8_count (x1 : Int32) (S : St) : Option (Int32 × St) :=
  sw x1 0 11 (f_X8_count_120 x1 S) fun i => match i with
    | 0 => some (S.1 9 0, S)
    | 1 => bd (f_X7_present S) fun v2 S1 =>
      some (v2, S1)
    | 2 => f_X8_count_120 x1 S
    | 3 => f_X8_count_120 x1 S
    | 4 => f_X8_count_120 x1 S
    | 5 => f_X8_count_120 x1 S
    | 6 => f_X8_count_120 x1 S
    | 7 => some (S.1 42 0, S)
    | 8 => some (S.1 24 0, S)
    | 9 => some (S.1 1 1, S)
    | 10 => some (S.1 17 2, S)
    | 11 => some (S.1 42 15, S)
    | _ => none
set_option maxHeartbeats 1000000 in
theorem m_X8_count (adr : Nat → Nat) (x1 : Int32) : MtI yX8_count cX8_count 2 (some .int) rm_X8_count adr [.ref (adr 0), .int x1] (f_X8_count x1) := by
  refine MtI.of (by decide +kernel) (Nat.le_of_ble_eq_true rfl) (fun K r S C hR => ?_)
  refine j_start (lv' := [(0, .ref (adr 0)), (1, .int x1)]) rfl ?_
  unfold f_X8_count
  refine j_iload_n C dX8_count_0 1 rfl rfl ?_
  refine j_table C dX8_count_1 (tgt := 120) (by decide) ?_ ?_
  · exact b_X8_count_120 C hR x1 S
  · intro i hi
    exact match i, hi with
    | 0, _ => ⟨_, 64, rfl, by decide, by
      refine j_aload_n C dX8_count_64 0 rfl rfl ?_
      refine j_getr C dX8_count_65 fl_X8_19 kd_0 (by decide) (Nat.le_of_ble_eq_true rfl) rfl ?_
      refine j_geti C dX8_count_68 fl_X8_247 kd_9 (by decide) (Nat.le_of_ble_eq_true rfl) rfl ?_
      exact j_iret hR dX8_count_71⟩
    | 1, _ => ⟨_, 72, rfl, by decide, by
      refine j_aload_n C dX8_count_72 0 rfl rfl ?_
      refine j_getr C dX8_count_73 fl_X8_26 kd_0 (by decide) (Nat.le_of_ble_eq_true rfl) rfl ?_
      refine j_cvi C dX8_count_76 lk_X8_241 mw_X7_present (m_X7_present adr ) ⟨rfl, rfl, Nat.le_of_ble_eq_true rfl, Nat.le_of_ble_eq_true rfl⟩ kd_42 (by decide) (Nat.le_of_ble_eq_true rfl) rfl rfl (st := []) (st0 := [.ref (adr 42)]) rfl (Nat.le_of_ble_eq_true rfl) (fun v2 S1 => ?_)
      exact j_iret hR dX8_count_79⟩
    | 2, _ => ⟨_, 120, rfl, by decide, by
      exact b_X8_count_120 C hR x1 S⟩
    | 3, _ => ⟨_, 120, rfl, by decide, by
      exact b_X8_count_120 C hR x1 S⟩
    | 4, _ => ⟨_, 120, rfl, by decide, by
      exact b_X8_count_120 C hR x1 S⟩
    | 5, _ => ⟨_, 120, rfl, by decide, by
      exact b_X8_count_120 C hR x1 S⟩
    | 6, _ => ⟨_, 120, rfl, by decide, by
      exact b_X8_count_120 C hR x1 S⟩
    | 7, _ => ⟨_, 80, rfl, by decide, by
      refine j_aload_n C dX8_count_80 0 rfl rfl ?_
      refine j_getr C dX8_count_81 fl_X8_26 kd_0 (by decide) (Nat.le_of_ble_eq_true rfl) rfl ?_
      refine j_geti C dX8_count_84 fl_X8_137 kd_42 (by decide) (Nat.le_of_ble_eq_true rfl) rfl ?_
      exact j_iret hR dX8_count_87⟩
    | 8, _ => ⟨_, 88, rfl, by decide, by
      refine j_aload_n C dX8_count_88 0 rfl rfl ?_
      refine j_getr C dX8_count_89 fl_X8_63 kd_0 (by decide) (Nat.le_of_ble_eq_true rfl) rfl ?_
      refine j_geti C dX8_count_92 fl_X8_97 kd_24 (by decide) (Nat.le_of_ble_eq_true rfl) rfl ?_
      exact j_iret hR dX8_count_95⟩
    | 9, _ => ⟨_, 96, rfl, by decide, by
      refine j_aload_n C dX8_count_96 0 rfl rfl ?_
      refine j_getr C dX8_count_97 fl_X8_10 kd_0 (by decide) (Nat.le_of_ble_eq_true rfl) rfl ?_
      refine j_geti C dX8_count_100 fl_X8_75 kd_1 (by decide) (Nat.le_of_ble_eq_true rfl) rfl ?_
      exact j_iret hR dX8_count_103⟩
    | 10, _ => ⟨_, 104, rfl, by decide, by
      refine j_aload_n C dX8_count_104 0 rfl rfl ?_
      refine j_getr C dX8_count_105 fl_X8_42 kd_0 (by decide) (Nat.le_of_ble_eq_true rfl) rfl ?_
      refine j_geti C dX8_count_108 fl_X8_144 kd_17 (by decide) (Nat.le_of_ble_eq_true rfl) rfl ?_
      exact j_iret hR dX8_count_111⟩
    | 11, _ => ⟨_, 112, rfl, by decide, by
      refine j_aload_n C dX8_count_112 0 rfl rfl ?_
      refine j_getr C dX8_count_113 fl_X8_26 kd_0 (by decide) (Nat.le_of_ble_eq_true rfl) rfl ?_
      refine j_geti C dX8_count_116 fl_X8_196 kd_42 (by decide) (Nat.le_of_ble_eq_true rfl) rfl ?_
      exact j_iret hR dX8_count_119⟩
    | i + 12, hi => absurd hi (by omega)
-- X9_in
abbrev rm_X9_in : Room := { frames := 0, cells := 0, slots := 0, locals := 0 }
def f_X9_in_18 (s0 : Int32) (S : St) : Option (Int32 × St) :=
    bz s0 (some (s0, S))
set_option maxHeartbeats 1000000 in
theorem b_X9_in_18 {K : Kt} {adr : Nat → Nat} {r : Int32 × St} (C : Cx K cX9_in RX9 6 adr rm_X9_in) (hR : ∀ (pc : Nat) (lv : List (Nat × Value)), (r.1 = 0 ∨ r.1 = 1) → decode cX9_in pc = .ok (.ireturn, 1) → K pc lv [.int r.1] r.2) (s0 : Int32) (S : St) : J K r (f_X9_in_18 s0 S) 18 [] [.int s0] S := by
    unfold f_X9_in_18
    exact j_zretv hR dX9_in_18
def f_X9_in_17  (S : St) : Option (Int32 × St) :=
    f_X9_in_18 0 S
set_option maxHeartbeats 1000000 in
theorem b_X9_in_17 {K : Kt} {adr : Nat → Nat} {r : Int32 × St} (C : Cx K cX9_in RX9 6 adr rm_X9_in) (hR : ∀ (pc : Nat) (lv : List (Nat × Value)), (r.1 = 0 ∨ r.1 = 1) → decode cX9_in pc = .ok (.ireturn, 1) → K pc lv [.int r.1] r.2)  (S : St) : J K r (f_X9_in_17  S) 17 [] [] S := by
    unfold f_X9_in_17
    refine j_iconst C dX9_in_17 (v := 0) rfl ?_
    exact b_X9_in_18 C hR 0 S
def f_X9_in (x0 : Int64) (x2 : Int64) (x4 : Int64) (S : St) : Option (Int32 × St) :=
  if (lg_cmp x0 x2) < 0 then (f_X9_in_17 S)
  else (if 0 < (lg_cmp x0 x4) then (f_X9_in_17 S)
    else (f_X9_in_18 1 S))
set_option maxHeartbeats 1000000 in
theorem m_X9_in (adr : Nat → Nat) (x0 : Int64) (x2 : Int64) (x4 : Int64) : MtI yX9_in cX9_in 6 (some .boolean) rm_X9_in adr [.long x0, .long x2, .long x4] (f_X9_in x0 x2 x4) := by
  refine MtI.ofZ (by decide +kernel) (Nat.le_of_ble_eq_true rfl) (fun K r S C hR => ?_)
  refine j_start (lv' := [(0, .long x0), (2, .long x2), (4, .long x4)]) rfl ?_
  unfold f_X9_in
  refine j_lload_n C dX9_in_0 0 rfl rfl ?_
  refine j_lload_n C dX9_in_1 1 rfl rfl ?_
  refine j_lcmp C dX9_in_2 ?_
  refine j_if_lt C dX9_in_3 (tgt := 17) (by decide) ?_ ?_
  · refine j_sub C [] rfl ?_
    exact b_X9_in_17 C hR S
  · refine j_lload_n C dX9_in_6 0 rfl rfl ?_
    refine j_lload C dX9_in_7 2 rfl ?_
    refine j_lcmp C dX9_in_9 ?_
    refine j_if_gt C dX9_in_10 (tgt := 17) (by decide) ?_ ?_
    · refine j_sub C [] rfl ?_
      exact b_X9_in_17 C hR S
    · refine j_iconst C dX9_in_13 (v := 1) rfl ?_
      refine j_goto C dX9_in_14 (tgt := 18) (by decide) ?_
      refine j_sub C [] rfl ?_
      exact b_X9_in_18 C hR 1 S
-- X9_lesser
abbrev rm_X9_lesser : Room := { frames := 0, cells := 0, slots := 0, locals := 0 }
def f_X9_lesser_10 (s0 : Int32) (S : St) : Option (Int32 × St) :=
    some (s0, S)
set_option maxHeartbeats 1000000 in
theorem b_X9_lesser_10 {K : Kt} {adr : Nat → Nat} {r : Int32 × St} (C : Cx K cX9_lesser RX9 2 adr rm_X9_lesser) (hR : ∀ (pc : Nat) (lv : List (Nat × Value)), decode cX9_lesser pc = .ok (.ireturn, 1) → K pc lv [.int r.1] r.2) (s0 : Int32) (S : St) : J K r (f_X9_lesser_10 s0 S) 10 [] [.int s0] S := by
    unfold f_X9_lesser_10
    exact j_iret hR dX9_lesser_10
def f_X9_lesser (x0 : Int32) (x1 : Int32) (S : St) : Option (Int32 × St) :=
  if x1 ≤ x0 then (f_X9_lesser_10 x1 S)
  else (f_X9_lesser_10 x0 S)
set_option maxHeartbeats 1000000 in
theorem m_X9_lesser (adr : Nat → Nat) (x0 : Int32) (x1 : Int32) : MtI yX9_lesser cX9_lesser 2 (some .int) rm_X9_lesser adr [.int x0, .int x1] (f_X9_lesser x0 x1) := by
  refine MtI.of (by decide +kernel) (Nat.le_of_ble_eq_true rfl) (fun K r S C hR => ?_)
  refine j_start (lv' := [(0, .int x0), (1, .int x1)]) rfl ?_
  unfold f_X9_lesser
  refine j_iload_n C dX9_lesser_0 0 rfl rfl ?_
  refine j_iload_n C dX9_lesser_1 1 rfl rfl ?_
  refine j_icmp_ge C dX9_lesser_2 (tgt := 9) (by decide) ?_ ?_
  · refine j_iload_n C dX9_lesser_9 1 rfl rfl ?_
    refine j_sub C [] rfl ?_
    exact b_X9_lesser_10 C hR x1 S
  · refine j_iload_n C dX9_lesser_5 0 rfl rfl ?_
    refine j_goto C dX9_lesser_6 (tgt := 10) (by decide) ?_
    refine j_sub C [] rfl ?_
    exact b_X9_lesser_10 C hR x0 S
-- X9_copy
abbrev rm_X9_copy : Room := { frames := 0, cells := 0, slots := 0, locals := 0 }
def f_X9_copy_2 : Nat → Int32 → Int32 → Int32 → St → Option (St)
  | 0, _, _, _, _ => none
  | n + 1, x1, x2, x3, S =>
    if 283 ≤ x3 then (some S)
    else (ck (x1 + x3) 2547 (ck (x2 + x3) 2547 (lt (upI S 28 (x2 + x3).toNatClampNeg (S.1 28 (x1 + x3).toNatClampNeg)) fun S1 =>
      (f_X9_copy_2 n) x1 x2 (x3 + 1) S1)))
set_option maxHeartbeats 1000000 in
theorem b_X9_copy_2 {K : Kt} {adr : Nat → Nat} {r : St} (C : Cx K cX9_copy RX9 4 adr rm_X9_copy) (hR : ∀ (pc : Nat) (lv : List (Nat × Value)), decode cX9_copy pc = .ok (.return_, 1) → K pc lv [] r) : ∀ (n : Nat) (x1 : Int32) (x2 : Int32) (x3 : Int32) (S : St), J K r (f_X9_copy_2 n x1 x2 x3 S) 2 [(0, .ref (adr 27)), (1, .int x1), (2, .int x2), (3, .int x3)] [] S := by
  intro n
  induction n with
  | zero => intro x1 x2 x3 S h; cases h
  | succ n ih =>
    intro x1 x2 x3 S
    unfold f_X9_copy_2
    refine j_iload_n C dX9_copy_2 3 rfl rfl ?_
    refine j_sipush C dX9_copy_3 (v := 283) rfl ?_
    refine j_icmp_ge C dX9_copy_6 (tgt := 31) (by decide) ?_ ?_
    · exact j_vret hR dX9_copy_31
    · refine j_aload_n C dX9_copy_9 0 rfl rfl ?_
      refine j_getr C dX9_copy_10 fl_X9_7 kd_27 (by decide) (Nat.le_of_ble_eq_true rfl) rfl ?_
      refine j_iload_n C dX9_copy_13 2 rfl rfl ?_
      refine j_iload_n C dX9_copy_14 3 rfl rfl ?_
      refine j_iadd C dX9_copy_15 ?_
      refine j_aload_n C dX9_copy_16 0 rfl rfl ?_
      refine j_getr C dX9_copy_17 fl_X9_7 kd_27 (by decide) (Nat.le_of_ble_eq_true rfl) rfl ?_
      refine j_iload_n C dX9_copy_20 1 rfl rfl ?_
      refine j_iload_n C dX9_copy_21 3 rfl rfl ?_
      refine j_iadd C dX9_copy_22 ?_
      refine j_iald C dX9_copy_23 kd_28 (Nat.le_of_ble_eq_true rfl) ?_
      refine j_iast C dX9_copy_24 kd_28 (Nat.le_of_ble_eq_true rfl) (fun S1 => ?_)
      refine j_iinc C dX9_copy_25 (v := x3 + 1) 3 rfl rfl (by decide) rfl ?_
      refine j_goto C dX9_copy_28 (tgt := 2) (by decide) ?_
      refine j_sub C [1, 2, 3, 0] rfl ?_
      exact ih x1 x2 (x3 + 1) S1
def f_X9_copy (x1 : Int32) (x2 : Int32) (S : St) : Option (St) :=
  f_X9_copy_2 FU x1 x2 0 S
set_option maxHeartbeats 1000000 in
theorem m_X9_copy (adr : Nat → Nat) (x1 : Int32) (x2 : Int32) : MtV yX9_copy cX9_copy 4 none rm_X9_copy adr [.ref (adr 27), .int x1, .int x2] (f_X9_copy x1 x2) := by
  refine MtV.of (by decide +kernel) (Nat.le_of_ble_eq_true rfl) (fun K r S C hR => ?_)
  refine j_start (lv' := [(0, .ref (adr 27)), (1, .int x1), (2, .int x2)]) rfl ?_
  unfold f_X9_copy
  refine j_iconst C dX9_copy_0 (v := 0) rfl ?_
  refine j_istore_n C dX9_copy_1 rfl (by decide) rfl ?_
  refine j_sub C [1, 2, 3, 0] rfl ?_
  exact b_X9_copy_2 C hR FU x1 x2 0 S
-- X9_minds
abbrev rm_X9_minds : Room := { frames := 1, cells := 0, slots := 0, locals := 23 }
def f_X9_minds_54  (S : St) : Option (St) :=
    bdV (f_X9_copy 0 (849 + (283 * (S.1 27 2))) S) fun S1 =>
    lt (upI S1 27 2 ((S1.1 27 2) + 1)) fun S2 =>
    some S2
set_option maxHeartbeats 1000000 in
theorem b_X9_minds_54 {K : Kt} {adr : Nat → Nat} {r : St} (C : Cx K cX9_minds RX9 2 adr rm_X9_minds) (hR : ∀ (pc : Nat) (lv : List (Nat × Value)), decode cX9_minds pc = .ok (.return_, 1) → K pc lv [] r)  (S : St) : J K r (f_X9_minds_54  S) 54 [(0, .ref (adr 27))] [] S := by
    unfold f_X9_minds_54
    refine j_aload_n C dX9_minds_54 0 rfl rfl ?_
    refine j_iconst C dX9_minds_55 (v := 0) rfl ?_
    refine j_sipush C dX9_minds_56 (v := 849) rfl ?_
    refine j_sipush C dX9_minds_59 (v := 283) rfl ?_
    refine j_aload_n C dX9_minds_62 0 rfl rfl ?_
    refine j_geti C dX9_minds_63 fl_X9_54 kd_27 (by decide) (Nat.le_of_ble_eq_true rfl) rfl ?_
    refine j_imul C dX9_minds_66 ?_
    refine j_iadd C dX9_minds_67 ?_
    refine j_cvv C dX9_minds_68 lk_X9_58 mw_X9_copy (m_X9_copy adr 0 (849 + (283 * (S.1 27 2)))) ⟨rfl, rfl, Nat.le_of_ble_eq_true rfl, Nat.le_of_ble_eq_true rfl⟩ kd_27 (by decide) (Nat.le_of_ble_eq_true rfl) rfl rfl (st := []) (st0 := [.int (849 + (283 * (S.1 27 2))), .int 0, .ref (adr 27)]) rfl (Nat.le_of_ble_eq_true rfl) (fun S1 => ?_)
    refine j_aload_n C dX9_minds_71 0 rfl rfl ?_
    refine j_dup C dX9_minds_72 rfl ?_
    refine j_geti C dX9_minds_73 fl_X9_54 kd_27 (by decide) (Nat.le_of_ble_eq_true rfl) rfl ?_
    refine j_iconst C dX9_minds_76 (v := 1) rfl ?_
    refine j_iadd C dX9_minds_77 ?_
    refine j_puti C dX9_minds_78 fl_X9_54 fi_X9_2 kd_27 (by decide) (Nat.le_of_ble_eq_true rfl) rfl (fun S2 => ?_)
    exact j_vret hR dX9_minds_81
def f_X9_minds_11 : Nat → Int32 → St → Option (St)
  | 0, _, _ => none
  | n + 1, x1, S =>
    if 1415 ≤ x1 then (lt (upI S 27 2 ((S.1 27 2) - 1)) fun S3 =>
      f_X9_minds_54 S3)
    else (ck (1132 + x1) 2547 (ck (849 + x1) 2547 (lt (upI S 28 (849 + x1).toNatClampNeg (S.1 28 (1132 + x1).toNatClampNeg)) fun S4 =>
      (f_X9_minds_11 n) (x1 + 1) S4)))
set_option maxHeartbeats 1000000 in
theorem b_X9_minds_11 {K : Kt} {adr : Nat → Nat} {r : St} (C : Cx K cX9_minds RX9 2 adr rm_X9_minds) (hR : ∀ (pc : Nat) (lv : List (Nat × Value)), decode cX9_minds pc = .ok (.return_, 1) → K pc lv [] r) : ∀ (n : Nat) (x1 : Int32) (S : St), J K r (f_X9_minds_11 n x1 S) 11 [(0, .ref (adr 27)), (1, .int x1)] [] S := by
  intro n
  induction n with
  | zero => intro x1 S h; cases h
  | succ n ih =>
    intro x1 S
    unfold f_X9_minds_11
    refine j_iload_n C dX9_minds_11 1 rfl rfl ?_
    refine j_sipush C dX9_minds_12 (v := 1415) rfl ?_
    refine j_icmp_ge C dX9_minds_15 (tgt := 44) (by decide) ?_ ?_
    · refine j_aload_n C dX9_minds_44 0 rfl rfl ?_
      refine j_dup C dX9_minds_45 rfl ?_
      refine j_geti C dX9_minds_46 fl_X9_54 kd_27 (by decide) (Nat.le_of_ble_eq_true rfl) rfl ?_
      refine j_iconst C dX9_minds_49 (v := 1) rfl ?_
      refine j_isub C dX9_minds_50 ?_
      refine j_puti C dX9_minds_51 fl_X9_54 fi_X9_2 kd_27 (by decide) (Nat.le_of_ble_eq_true rfl) rfl (fun S3 => ?_)
      refine j_sub C [0] rfl ?_
      exact b_X9_minds_54 C hR S3
    · refine j_aload_n C dX9_minds_18 0 rfl rfl ?_
      refine j_getr C dX9_minds_19 fl_X9_7 kd_27 (by decide) (Nat.le_of_ble_eq_true rfl) rfl ?_
      refine j_sipush C dX9_minds_22 (v := 849) rfl ?_
      refine j_iload_n C dX9_minds_25 1 rfl rfl ?_
      refine j_iadd C dX9_minds_26 ?_
      refine j_aload_n C dX9_minds_27 0 rfl rfl ?_
      refine j_getr C dX9_minds_28 fl_X9_7 kd_27 (by decide) (Nat.le_of_ble_eq_true rfl) rfl ?_
      refine j_sipush C dX9_minds_31 (v := 1132) rfl ?_
      refine j_iload_n C dX9_minds_34 1 rfl rfl ?_
      refine j_iadd C dX9_minds_35 ?_
      refine j_iald C dX9_minds_36 kd_28 (Nat.le_of_ble_eq_true rfl) ?_
      refine j_iast C dX9_minds_37 kd_28 (Nat.le_of_ble_eq_true rfl) (fun S4 => ?_)
      refine j_iinc C dX9_minds_38 (v := x1 + 1) 1 rfl rfl (by decide) rfl ?_
      refine j_goto C dX9_minds_41 (tgt := 11) (by decide) ?_
      refine j_sub C [1, 0] rfl ?_
      exact ih (x1 + 1) S4
def f_X9_minds  (S : St) : Option (St) :=
  if (S.1 27 2) = 6 then (f_X9_minds_11 FU 0 S)
  else (f_X9_minds_54 S)
set_option maxHeartbeats 1000000 in
theorem m_X9_minds (adr : Nat → Nat)  : MtV yX9_minds cX9_minds 2 none rm_X9_minds adr [.ref (adr 27)] (f_X9_minds ) := by
  refine MtV.of (by decide +kernel) (Nat.le_of_ble_eq_true rfl) (fun K r S C hR => ?_)
  refine j_start (lv' := [(0, .ref (adr 27))]) rfl ?_
  unfold f_X9_minds
  refine j_aload_n C dX9_minds_0 0 rfl rfl ?_
  refine j_geti C dX9_minds_1 fl_X9_54 kd_27 (by decide) (Nat.le_of_ble_eq_true rfl) rfl ?_
  refine j_bipush C dX9_minds_4 (v := 6) rfl ?_
  refine j_icmp_ne C dX9_minds_6 (tgt := 54) (by decide) ?_ ?_
  · exact b_X9_minds_54 C hR S
  · refine j_iconst C dX9_minds_9 (v := 0) rfl ?_
    refine j_istore_n C dX9_minds_10 rfl (by decide) rfl ?_
    refine j_sub C [1, 0] rfl ?_
    exact b_X9_minds_11 C hR FU 0 S
-- X9_isFigure
abbrev rm_X9_isFigure : Room := { frames := 1, cells := 0, slots := 0, locals := 25 }
def f_X9_isFigure (x0 : Int32) (S : St) : Option (Int32 × St) :=
  bd (f_X9_in x0.toInt64 48 57 S) fun v2 S1 =>
  bz v2 (some (v2, S1))
set_option maxHeartbeats 1000000 in
theorem m_X9_isFigure (adr : Nat → Nat) (x0 : Int32) : MtI yX9_isFigure cX9_isFigure 1 (some .boolean) rm_X9_isFigure adr [.int x0] (f_X9_isFigure x0) := by
  refine MtI.ofZ (by decide +kernel) (Nat.le_of_ble_eq_true rfl) (fun K r S C hR => ?_)
  refine j_start (lv' := [(0, .int x0)]) rfl ?_
  unfold f_X9_isFigure
  refine j_iload_n C dX9_isFigure_0 0 rfl rfl ?_
  refine j_i2l C dX9_isFigure_1 ?_
  refine j_ldc2 C dX9_isFigure_2 kc_X9_62 ?_
  refine j_ldc2 C dX9_isFigure_5 kc_X9_64 ?_
  refine j_csi C dX9_isFigure_8 lk_X9_66 mw_X9_in (m_X9_in adr x0.toInt64 48 57) ⟨rfl, rfl, Nat.le_of_ble_eq_true rfl, Nat.le_of_ble_eq_true rfl⟩ rfl (st := []) (st0 := [.long 57, .long 48, .long x0.toInt64]) rfl (Nat.le_of_ble_eq_true rfl) (fun v2 S1 => ?_)
  exact j_zretv hR dX9_isFigure_11
-- X9_which
abbrev rm_X9_which : Room := { frames := 0, cells := 0, slots := 0, locals := 0 }
def f_X9_which (x0 : Int32) (S : St) : Option (Int32 × St) :=
  if x0 = 99 then (some (0, S))
  else (if x0 = 100 then (some (2, S))
  else (if x0 = 104 then (some (1, S))
  else (if x0 = 107 then (some (3, S))
  else (if x0 = 109 then (some (4, S))
  else (if x0 = 119 then (some (5, S))
  else (some ((-9), S)))))))
set_option maxHeartbeats 1000000 in
theorem m_X9_which (adr : Nat → Nat) (x0 : Int32) : MtI yX9_which cX9_which 1 (some .int) rm_X9_which adr [.int x0] (f_X9_which x0) := by
  refine MtI.of (by decide +kernel) (Nat.le_of_ble_eq_true rfl) (fun K r S C hR => ?_)
  refine j_start (lv' := [(0, .int x0)]) rfl ?_
  unfold f_X9_which
  refine j_iload_n C dX9_which_0 0 rfl rfl ?_
  refine j_ite (fun e => ?_) (fun e99 => ?_)
  · subst e
    refine j_lookup C dX9_which_1 (by decide) rfl (tgt := 60) (by decide) ?_
    refine j_iconst C dX9_which_60 (v := 0) rfl ?_
    exact j_iret hR dX9_which_61
  refine j_ite (fun e => ?_) (fun e100 => ?_)
  · subst e
    refine j_lookup C dX9_which_1 (by decide) rfl (tgt := 64) (by decide) ?_
    refine j_iconst C dX9_which_64 (v := 2) rfl ?_
    exact j_iret hR dX9_which_65
  refine j_ite (fun e => ?_) (fun e104 => ?_)
  · subst e
    refine j_lookup C dX9_which_1 (by decide) rfl (tgt := 62) (by decide) ?_
    refine j_iconst C dX9_which_62 (v := 1) rfl ?_
    exact j_iret hR dX9_which_63
  refine j_ite (fun e => ?_) (fun e107 => ?_)
  · subst e
    refine j_lookup C dX9_which_1 (by decide) rfl (tgt := 66) (by decide) ?_
    refine j_iconst C dX9_which_66 (v := 3) rfl ?_
    exact j_iret hR dX9_which_67
  refine j_ite (fun e => ?_) (fun e109 => ?_)
  · subst e
    refine j_lookup C dX9_which_1 (by decide) rfl (tgt := 68) (by decide) ?_
    refine j_iconst C dX9_which_68 (v := 4) rfl ?_
    exact j_iret hR dX9_which_69
  refine j_ite (fun e => ?_) (fun e119 => ?_)
  · subst e
    refine j_lookup C dX9_which_1 (by decide) rfl (tgt := 70) (by decide) ?_
    refine j_iconst C dX9_which_70 (v := 5) rfl ?_
    exact j_iret hR dX9_which_71
  refine j_lookup C dX9_which_1 (by decide) (lk_none e99 e100 e104 e107 e109 e119) (tgt := 72) (by decide) ?_
  refine j_bipush C dX9_which_72 (v := -9) rfl ?_
  exact j_iret hR dX9_which_74
