-- X8_level
abbrev rm_X8_level : Room := { frames := 1, cells := 0, slots := 0, locals := 22 }
def f_X8_level_67 (s0 : Int32) (S : St) : Option (Int32 × St) :=
    some (s0, S)
set_option maxHeartbeats 1000000 in
theorem b_X8_level_67 {K : Kt} {adr : Nat → Nat} {r : Int32 × St} (C : Cx K cX8_level RX8 5 adr rm_X8_level) (hR : ∀ (pc : Nat) (lv : List (Nat × Value)), decode cX8_level pc = .ok (.ireturn, 1) → K pc lv [.int r.1] r.2) (s0 : Int32) (S : St) : J K r (f_X8_level_67 s0 S) 67 [] [.int s0] S := by
    unfold f_X8_level_67
    exact j_iret hR dX8_level_67
def f_X8_level_31  (S : St) : Option (Int32 × St) :=
    some ((-1), S)
set_option maxHeartbeats 1000000 in
theorem b_X8_level_31 {K : Kt} {adr : Nat → Nat} {r : Int32 × St} (C : Cx K cX8_level RX8 5 adr rm_X8_level) (hR : ∀ (pc : Nat) (lv : List (Nat × Value)), decode cX8_level pc = .ok (.ireturn, 1) → K pc lv [.int r.1] r.2)  (S : St) : J K r (f_X8_level_31  S) 31 [] [] S := by
    unfold f_X8_level_31
    refine j_iconst C dX8_level_31 (v := -1) rfl ?_
    exact j_iret hR dX8_level_32
def f_X8_level (x1 : Int32) (x2 : Int32) (x3 : Int32) (S : St) : Option (Int32 × St) :=
  bd (f_X7_has x1 S) fun v2 S1 =>
  if v2 = 0 then (f_X8_level_31 S1)
  else (bd (f_X6_has_9 x2 S1) fun v4 S3 =>
    if v4 = 0 then (f_X8_level_31 S3)
    else (bd (f_X8_within x3 0 1 S3) fun v6 S5 =>
      if v6 = 0 then (f_X8_level_31 S5)
      else (lt ((x1 * 4) + x2) fun v7 =>
        if x3 = 0 then (ck v7 48 (f_X8_level_67 (S5.1 54 v7.toNatClampNeg) S5))
        else (ck v7 48 (f_X8_level_67 (S5.1 55 v7.toNatClampNeg) S5)))))
set_option maxHeartbeats 1000000 in
theorem m_X8_level (adr : Nat → Nat) (x1 : Int32) (x2 : Int32) (x3 : Int32) : MtI yX8_level cX8_level 5 (some .int) rm_X8_level adr [.ref (adr 0), .int x1, .int x2, .int x3] (f_X8_level x1 x2 x3) := by
  refine MtI.of (by decide +kernel) (Nat.le_of_ble_eq_true rfl) (fun K r S C hR => ?_)
  refine j_start (lv' := [(0, .ref (adr 0)), (1, .int x1), (2, .int x2), (3, .int x3)]) rfl ?_
  unfold f_X8_level
  refine j_aload_n C dX8_level_0 0 rfl rfl ?_
  refine j_getr C dX8_level_1 fl_X8_26 kd_0 (by decide) (Nat.le_of_ble_eq_true rfl) rfl ?_
  refine j_iload_n C dX8_level_4 1 rfl rfl ?_
  refine j_cvi C dX8_level_5 lk_X8_114 mw_X7_has (m_X7_has adr x1) ⟨rfl, rfl, Nat.le_of_ble_eq_true rfl, Nat.le_of_ble_eq_true rfl⟩ kd_42 (by decide) (Nat.le_of_ble_eq_true rfl) rfl rfl (st := []) (st0 := [.int x1, .ref (adr 42)]) rfl (Nat.le_of_ble_eq_true rfl) (fun v2 S1 => ?_)
  refine j_if_eq C dX8_level_8 (tgt := 31) (by decide) ?_ ?_
  · refine j_sub C [] rfl ?_
    exact b_X8_level_31 C hR S1
  · refine j_aload_n C dX8_level_11 0 rfl rfl ?_
    refine j_getr C dX8_level_12 fl_X8_19 kd_0 (by decide) (Nat.le_of_ble_eq_true rfl) rfl ?_
    refine j_iload_n C dX8_level_15 2 rfl rfl ?_
    refine j_cvi C dX8_level_16 lk_X8_100 mw_X6_has (m_X6_has_9 adr x2) ⟨rfl, rfl, Nat.le_of_ble_eq_true rfl, Nat.le_of_ble_eq_true rfl⟩ kd_9 (by decide) (Nat.le_of_ble_eq_true rfl) rfl rfl (st := []) (st0 := [.int x2, .ref (adr 9)]) rfl (Nat.le_of_ble_eq_true rfl) (fun v4 S3 => ?_)
    refine j_if_eq C dX8_level_19 (tgt := 31) (by decide) ?_ ?_
    · refine j_sub C [] rfl ?_
      exact b_X8_level_31 C hR S3
    · refine j_iload_n C dX8_level_22 3 rfl rfl ?_
      refine j_iconst C dX8_level_23 (v := 0) rfl ?_
      refine j_iconst C dX8_level_24 (v := 1) rfl ?_
      refine j_csi C dX8_level_25 lk_X8_67 mw_X8_within (m_X8_within adr x3 0 1) ⟨rfl, rfl, Nat.le_of_ble_eq_true rfl, Nat.le_of_ble_eq_true rfl⟩ rfl (st := []) (st0 := [.int 1, .int 0, .int x3]) rfl (Nat.le_of_ble_eq_true rfl) (fun v6 S5 => ?_)
      refine j_if_ne C dX8_level_28 (tgt := 33) (by decide) ?_ ?_
      · refine j_iload_n C dX8_level_33 1 rfl rfl ?_
        refine j_iconst C dX8_level_34 (v := 4) rfl ?_
        refine j_imul C dX8_level_35 ?_
        refine j_iload_n C dX8_level_36 2 rfl rfl ?_
        refine j_iadd C dX8_level_37 ?_
        refine j_topi (fun v7 => ?_)
        refine j_istore C dX8_level_38 (by decide) rfl ?_
        refine j_iload_n C dX8_level_40 4 rfl rfl ?_
        refine j_if_ne C dX8_level_41 (tgt := 57) (by decide) ?_ ?_
        · refine j_aload_n C dX8_level_57 1 rfl rfl ?_
          refine j_getr C dX8_level_58 fl_X8_26 kd_0 (by decide) (Nat.le_of_ble_eq_true rfl) rfl ?_
          refine j_getr C dX8_level_61 fl_X8_190 kd_42 (by decide) (Nat.le_of_ble_eq_true rfl) rfl ?_
          refine j_iload C dX8_level_64 0 rfl ?_
          refine j_iald C dX8_level_66 kd_55 (Nat.le_of_ble_eq_true rfl) ?_
          refine j_sub C [] rfl ?_
          exact b_X8_level_67 C hR (S5.1 55 v7.toNatClampNeg) S5
        · refine j_aload_n C dX8_level_44 1 rfl rfl ?_
          refine j_getr C dX8_level_45 fl_X8_26 kd_0 (by decide) (Nat.le_of_ble_eq_true rfl) rfl ?_
          refine j_getr C dX8_level_48 fl_X8_187 kd_42 (by decide) (Nat.le_of_ble_eq_true rfl) rfl ?_
          refine j_iload C dX8_level_51 0 rfl ?_
          refine j_iald C dX8_level_53 kd_54 (Nat.le_of_ble_eq_true rfl) ?_
          refine j_goto C dX8_level_54 (tgt := 67) (by decide) ?_
          refine j_sub C [] rfl ?_
          exact b_X8_level_67 C hR (S5.1 54 v7.toNatClampNeg) S5
      · refine j_sub C [] rfl ?_
        exact b_X8_level_31 C hR S5
-- X8_queued
abbrev rm_X8_queued : Room := { frames := 4, cells := 0, slots := 0, locals := 96 }
def f_X8_queued_15  (S : St) : Option (Int32 × St) :=
    some ((-1), S)
set_option maxHeartbeats 1000000 in
theorem b_X8_queued_15 {K : Kt} {adr : Nat → Nat} {r : Int32 × St} (C : Cx K cX8_queued RX8 3 adr rm_X8_queued) (hR : ∀ (pc : Nat) (lv : List (Nat × Value)), decode cX8_queued pc = .ok (.ireturn, 1) → K pc lv [.int r.1] r.2)  (S : St) : J K r (f_X8_queued_15  S) 15 [] [] S := by
    unfold f_X8_queued_15
    refine j_iconst C dX8_queued_15 (v := -1) rfl ?_
    exact j_iret hR dX8_queued_16
def f_X8_queued (x1 : Int32) (x2 : Int32) (S : St) : Option (Int32 × St) :=
  bd (f_X6_has_9 x1 S) fun v2 S1 =>
  if v2 = 0 then (f_X8_queued_15 S1)
  else (if 0 ≤ x2 then (bd (f_X0_waiter x1 x2 S1) fun v4 S3 =>
      some (v4, S3))
    else (f_X8_queued_15 S1))
set_option maxHeartbeats 1000000 in
theorem m_X8_queued (adr : Nat → Nat) (x1 : Int32) (x2 : Int32) : MtI yX8_queued cX8_queued 3 (some .int) rm_X8_queued adr [.ref (adr 0), .int x1, .int x2] (f_X8_queued x1 x2) := by
  refine MtI.of (by decide +kernel) (Nat.le_of_ble_eq_true rfl) (fun K r S C hR => ?_)
  refine j_start (lv' := [(0, .ref (adr 0)), (1, .int x1), (2, .int x2)]) rfl ?_
  unfold f_X8_queued
  refine j_aload_n C dX8_queued_0 0 rfl rfl ?_
  refine j_getr C dX8_queued_1 fl_X8_19 kd_0 (by decide) (Nat.le_of_ble_eq_true rfl) rfl ?_
  refine j_iload_n C dX8_queued_4 1 rfl rfl ?_
  refine j_cvi C dX8_queued_5 lk_X8_100 mw_X6_has (m_X6_has_9 adr x1) ⟨rfl, rfl, Nat.le_of_ble_eq_true rfl, Nat.le_of_ble_eq_true rfl⟩ kd_9 (by decide) (Nat.le_of_ble_eq_true rfl) rfl rfl (st := []) (st0 := [.int x1, .ref (adr 9)]) rfl (Nat.le_of_ble_eq_true rfl) (fun v2 S1 => ?_)
  refine j_if_eq C dX8_queued_8 (tgt := 15) (by decide) ?_ ?_
  · refine j_sub C [] rfl ?_
    exact b_X8_queued_15 C hR S1
  · refine j_iload_n C dX8_queued_11 2 rfl rfl ?_
    refine j_if_ge C dX8_queued_12 (tgt := 17) (by decide) ?_ ?_
    · refine j_aload_n C dX8_queued_17 0 rfl rfl ?_
      refine j_getr C dX8_queued_18 fl_X8_35 kd_0 (by decide) (Nat.le_of_ble_eq_true rfl) rfl ?_
      refine j_iload_n C dX8_queued_21 1 rfl rfl ?_
      refine j_iload_n C dX8_queued_22 2 rfl rfl ?_
      refine j_cvi C dX8_queued_23 lk_X8_193 mw_X0_waiter (m_X0_waiter adr x1 x2) ⟨rfl, rfl, Nat.le_of_ble_eq_true rfl, Nat.le_of_ble_eq_true rfl⟩ kd_14 (by decide) (Nat.le_of_ble_eq_true rfl) rfl rfl (st := []) (st0 := [.int x2, .int x1, .ref (adr 14)]) rfl (Nat.le_of_ble_eq_true rfl) (fun v4 S3 => ?_)
      exact j_iret hR dX8_queued_26
    · refine j_sub C [] rfl ?_
      exact b_X8_queued_15 C hR S1
-- X8_pair
abbrev rm_X8_pair : Room := { frames := 1, cells := 0, slots := 0, locals := 22 }
def f_X8_pair_75 (s0 : Int32) (S : St) : Option (Int32 × St) :=
    some (s0, S)
set_option maxHeartbeats 1000000 in
theorem b_X8_pair_75 {K : Kt} {adr : Nat → Nat} {r : Int32 × St} (C : Cx K cX8_pair RX8 3 adr rm_X8_pair) (hR : ∀ (pc : Nat) (lv : List (Nat × Value)), decode cX8_pair pc = .ok (.ireturn, 1) → K pc lv [.int r.1] r.2) (s0 : Int32) (S : St) : J K r (f_X8_pair_75 s0 S) 75 [] [.int s0] S := by
    unfold f_X8_pair_75
    exact j_iret hR dX8_pair_75
def f_X8_pair_32  (S : St) : Option (Int32 × St) :=
    some ((-9), S)
set_option maxHeartbeats 1000000 in
theorem b_X8_pair_32 {K : Kt} {adr : Nat → Nat} {r : Int32 × St} (C : Cx K cX8_pair RX8 3 adr rm_X8_pair) (hR : ∀ (pc : Nat) (lv : List (Nat × Value)), decode cX8_pair pc = .ok (.ireturn, 1) → K pc lv [.int r.1] r.2)  (S : St) : J K r (f_X8_pair_32  S) 32 [] [] S := by
    unfold f_X8_pair_32
    refine j_bipush C dX8_pair_32 (v := -9) rfl ?_
    exact j_iret hR dX8_pair_34
def f_X8_pair_13  (S : St) : Option (Int32 × St) :=
    some ((-1), S)
set_option maxHeartbeats 1000000 in
theorem b_X8_pair_13 {K : Kt} {adr : Nat → Nat} {r : Int32 × St} (C : Cx K cX8_pair RX8 3 adr rm_X8_pair) (hR : ∀ (pc : Nat) (lv : List (Nat × Value)), decode cX8_pair pc = .ok (.ireturn, 1) → K pc lv [.int r.1] r.2)  (S : St) : J K r (f_X8_pair_13  S) 13 [] [] S := by
    unfold f_X8_pair_13
    refine j_iconst C dX8_pair_13 (v := -1) rfl ?_
    exact j_iret hR dX8_pair_14
def f_X8_pair (x1 : Int32) (x2 : Int32) (S : St) : Option (Int32 × St) :=
  if x1 < 0 then (f_X8_pair_13 S)
  else (bd (f_X8_within x2 0 2 S) fun v2 S1 =>
    if v2 = 0 then (f_X8_pair_13 S1)
    else (if (S1.1 42 15) ≤ x1 then (f_X8_pair_32 S1)
      else (if x1 < 12 then (if x2 = 0 then (ck x1 12 (some (S1.1 56 x1.toNatClampNeg, S1)))
          else (if x2 = 1 then (ck x1 12 (f_X8_pair_75 (S1.1 57 x1.toNatClampNeg) S1))
            else (ck x1 12 (f_X8_pair_75 (S1.1 58 x1.toNatClampNeg) S1))))
        else (f_X8_pair_32 S1))))
set_option maxHeartbeats 1000000 in
theorem m_X8_pair (adr : Nat → Nat) (x1 : Int32) (x2 : Int32) : MtI yX8_pair cX8_pair 3 (some .int) rm_X8_pair adr [.ref (adr 0), .int x1, .int x2] (f_X8_pair x1 x2) := by
  refine MtI.of (by decide +kernel) (Nat.le_of_ble_eq_true rfl) (fun K r S C hR => ?_)
  refine j_start (lv' := [(0, .ref (adr 0)), (1, .int x1), (2, .int x2)]) rfl ?_
  unfold f_X8_pair
  refine j_iload_n C dX8_pair_0 1 rfl rfl ?_
  refine j_if_lt C dX8_pair_1 (tgt := 13) (by decide) ?_ ?_
  · refine j_sub C [] rfl ?_
    exact b_X8_pair_13 C hR S
  · refine j_iload_n C dX8_pair_4 2 rfl rfl ?_
    refine j_iconst C dX8_pair_5 (v := 0) rfl ?_
    refine j_iconst C dX8_pair_6 (v := 2) rfl ?_
    refine j_csi C dX8_pair_7 lk_X8_67 mw_X8_within (m_X8_within adr x2 0 2) ⟨rfl, rfl, Nat.le_of_ble_eq_true rfl, Nat.le_of_ble_eq_true rfl⟩ rfl (st := []) (st0 := [.int 2, .int 0, .int x2]) rfl (Nat.le_of_ble_eq_true rfl) (fun v2 S1 => ?_)
    refine j_if_ne C dX8_pair_10 (tgt := 15) (by decide) ?_ ?_
    · refine j_iload_n C dX8_pair_15 1 rfl rfl ?_
      refine j_aload_n C dX8_pair_16 0 rfl rfl ?_
      refine j_getr C dX8_pair_17 fl_X8_26 kd_0 (by decide) (Nat.le_of_ble_eq_true rfl) rfl ?_
      refine j_geti C dX8_pair_20 fl_X8_196 kd_42 (by decide) (Nat.le_of_ble_eq_true rfl) rfl ?_
      refine j_icmp_ge C dX8_pair_23 (tgt := 32) (by decide) ?_ ?_
      · refine j_sub C [] rfl ?_
        exact b_X8_pair_32 C hR S1
      · refine j_iload_n C dX8_pair_26 1 rfl rfl ?_
        refine j_bipush C dX8_pair_27 (v := 12) rfl ?_
        refine j_icmp_lt C dX8_pair_29 (tgt := 35) (by decide) ?_ ?_
        · refine j_iload_n C dX8_pair_35 2 rfl rfl ?_
          refine j_if_ne C dX8_pair_36 (tgt := 49) (by decide) ?_ ?_
          · refine j_iload_n C dX8_pair_49 2 rfl rfl ?_
            refine j_iconst C dX8_pair_50 (v := 1) rfl ?_
            refine j_icmp_ne C dX8_pair_51 (tgt := 66) (by decide) ?_ ?_
            · refine j_aload_n C dX8_pair_66 0 rfl rfl ?_
              refine j_getr C dX8_pair_67 fl_X8_26 kd_0 (by decide) (Nat.le_of_ble_eq_true rfl) rfl ?_
              refine j_getr C dX8_pair_70 fl_X8_205 kd_42 (by decide) (Nat.le_of_ble_eq_true rfl) rfl ?_
              refine j_iload_n C dX8_pair_73 1 rfl rfl ?_
              refine j_iald C dX8_pair_74 kd_58 (Nat.le_of_ble_eq_true rfl) ?_
              refine j_sub C [] rfl ?_
              exact b_X8_pair_75 C hR (S1.1 58 x1.toNatClampNeg) S1
            · refine j_aload_n C dX8_pair_54 0 rfl rfl ?_
              refine j_getr C dX8_pair_55 fl_X8_26 kd_0 (by decide) (Nat.le_of_ble_eq_true rfl) rfl ?_
              refine j_getr C dX8_pair_58 fl_X8_202 kd_42 (by decide) (Nat.le_of_ble_eq_true rfl) rfl ?_
              refine j_iload_n C dX8_pair_61 1 rfl rfl ?_
              refine j_iald C dX8_pair_62 kd_57 (Nat.le_of_ble_eq_true rfl) ?_
              refine j_goto C dX8_pair_63 (tgt := 75) (by decide) ?_
              refine j_sub C [] rfl ?_
              exact b_X8_pair_75 C hR (S1.1 57 x1.toNatClampNeg) S1
          · refine j_aload_n C dX8_pair_39 0 rfl rfl ?_
            refine j_getr C dX8_pair_40 fl_X8_26 kd_0 (by decide) (Nat.le_of_ble_eq_true rfl) rfl ?_
            refine j_getr C dX8_pair_43 fl_X8_199 kd_42 (by decide) (Nat.le_of_ble_eq_true rfl) rfl ?_
            refine j_iload_n C dX8_pair_46 1 rfl rfl ?_
            refine j_iald C dX8_pair_47 kd_56 (Nat.le_of_ble_eq_true rfl) ?_
            exact j_iret hR dX8_pair_48
        · refine j_sub C [] rfl ?_
          exact b_X8_pair_32 C hR S1
    · refine j_sub C [] rfl ?_
      exact b_X8_pair_13 C hR S1
-- X8_areRates
abbrev rm_X8_areRates : Room := { frames := 1, cells := 0, slots := 0, locals := 22 }
def f_X8_areRates_35 (s0 : Int32) (S : St) : Option (Int32 × St) :=
    bz s0 (some (s0, S))
set_option maxHeartbeats 1000000 in
theorem b_X8_areRates_35 {K : Kt} {adr : Nat → Nat} {r : Int32 × St} (C : Cx K cX8_areRates RX8 3 adr rm_X8_areRates) (hR : ∀ (pc : Nat) (lv : List (Nat × Value)), (r.1 = 0 ∨ r.1 = 1) → decode cX8_areRates pc = .ok (.ireturn, 1) → K pc lv [.int r.1] r.2) (s0 : Int32) (S : St) : J K r (f_X8_areRates_35 s0 S) 35 [] [.int s0] S := by
    unfold f_X8_areRates_35
    exact j_zretv hR dX8_areRates_35
def f_X8_areRates_34  (S : St) : Option (Int32 × St) :=
    f_X8_areRates_35 0 S
set_option maxHeartbeats 1000000 in
theorem b_X8_areRates_34 {K : Kt} {adr : Nat → Nat} {r : Int32 × St} (C : Cx K cX8_areRates RX8 3 adr rm_X8_areRates) (hR : ∀ (pc : Nat) (lv : List (Nat × Value)), (r.1 = 0 ∨ r.1 = 1) → decode cX8_areRates pc = .ok (.ireturn, 1) → K pc lv [.int r.1] r.2)  (S : St) : J K r (f_X8_areRates_34  S) 34 [] [] S := by
    unfold f_X8_areRates_34
    refine j_iconst C dX8_areRates_34 (v := 0) rfl ?_
    exact b_X8_areRates_35 C hR 0 S
def f_X8_areRates (x0 : Int32) (x1 : Int32) (x2 : Int32) (S : St) : Option (Int32 × St) :=
  bd (f_X8_within x0 0 9 S) fun v2 S1 =>
  if v2 = 0 then (f_X8_areRates_34 S1)
  else (bd (f_X8_within x1 0 9 S1) fun v4 S3 =>
    if v4 = 0 then (f_X8_areRates_34 S3)
    else (bd (f_X8_within x2 1 9 S3) fun v6 S5 =>
      if v6 = 0 then (f_X8_areRates_34 S5)
      else (f_X8_areRates_35 1 S5)))
set_option maxHeartbeats 1000000 in
theorem m_X8_areRates (adr : Nat → Nat) (x0 : Int32) (x1 : Int32) (x2 : Int32) : MtI yX8_areRates cX8_areRates 3 (some .boolean) rm_X8_areRates adr [.int x0, .int x1, .int x2] (f_X8_areRates x0 x1 x2) := by
  refine MtI.ofZ (by decide +kernel) (Nat.le_of_ble_eq_true rfl) (fun K r S C hR => ?_)
  refine j_start (lv' := [(0, .int x0), (1, .int x1), (2, .int x2)]) rfl ?_
  unfold f_X8_areRates
  refine j_iload_n C dX8_areRates_0 0 rfl rfl ?_
  refine j_iconst C dX8_areRates_1 (v := 0) rfl ?_
  refine j_bipush C dX8_areRates_2 (v := 9) rfl ?_
  refine j_csi C dX8_areRates_4 lk_X8_67 mw_X8_within (m_X8_within adr x0 0 9) ⟨rfl, rfl, Nat.le_of_ble_eq_true rfl, Nat.le_of_ble_eq_true rfl⟩ rfl (st := []) (st0 := [.int 9, .int 0, .int x0]) rfl (Nat.le_of_ble_eq_true rfl) (fun v2 S1 => ?_)
  refine j_if_eq C dX8_areRates_7 (tgt := 34) (by decide) ?_ ?_
  · refine j_sub C [] rfl ?_
    exact b_X8_areRates_34 C hR S1
  · refine j_iload_n C dX8_areRates_10 1 rfl rfl ?_
    refine j_iconst C dX8_areRates_11 (v := 0) rfl ?_
    refine j_bipush C dX8_areRates_12 (v := 9) rfl ?_
    refine j_csi C dX8_areRates_14 lk_X8_67 mw_X8_within (m_X8_within adr x1 0 9) ⟨rfl, rfl, Nat.le_of_ble_eq_true rfl, Nat.le_of_ble_eq_true rfl⟩ rfl (st := []) (st0 := [.int 9, .int 0, .int x1]) rfl (Nat.le_of_ble_eq_true rfl) (fun v4 S3 => ?_)
    refine j_if_eq C dX8_areRates_17 (tgt := 34) (by decide) ?_ ?_
    · refine j_sub C [] rfl ?_
      exact b_X8_areRates_34 C hR S3
    · refine j_iload_n C dX8_areRates_20 2 rfl rfl ?_
      refine j_iconst C dX8_areRates_21 (v := 1) rfl ?_
      refine j_bipush C dX8_areRates_22 (v := 9) rfl ?_
      refine j_csi C dX8_areRates_24 lk_X8_67 mw_X8_within (m_X8_within adr x2 1 9) ⟨rfl, rfl, Nat.le_of_ble_eq_true rfl, Nat.le_of_ble_eq_true rfl⟩ rfl (st := []) (st0 := [.int 9, .int 1, .int x2]) rfl (Nat.le_of_ble_eq_true rfl) (fun v6 S5 => ?_)
      refine j_if_eq C dX8_areRates_27 (tgt := 34) (by decide) ?_ ?_
      · refine j_sub C [] rfl ?_
        exact b_X8_areRates_34 C hR S5
      · refine j_iconst C dX8_areRates_30 (v := 1) rfl ?_
        refine j_goto C dX8_areRates_31 (tgt := 35) (by decide) ?_
        refine j_sub C [] rfl ?_
        exact b_X8_areRates_35 C hR 1 S5
-- X3_chanceWith
abbrev rm_X3_chanceWith : Room := { frames := 2, cells := 0, slots := 0, locals := 35 }
def f_X3_chanceWith (x1 : Int32) (S : St) : Option (Int32 × St) :=
  bd (f_X8_chance ((S.1 22 1) - x1) (S.1 22 2) S) fun v2 S1 =>
  some (v2, S1)
set_option maxHeartbeats 1000000 in
theorem m_X3_chanceWith (adr : Nat → Nat) (x1 : Int32) : MtI yX3_chanceWith cX3_chanceWith 2 (some .int) rm_X3_chanceWith adr [.ref (adr 22), .int x1] (f_X3_chanceWith x1) := by
  refine MtI.of (by decide +kernel) (Nat.le_of_ble_eq_true rfl) (fun K r S C hR => ?_)
  refine j_start (lv' := [(0, .ref (adr 22)), (1, .int x1)]) rfl ?_
  unfold f_X3_chanceWith
  refine j_aload_n C dX3_chanceWith_0 0 rfl rfl ?_
  refine j_geti C dX3_chanceWith_1 fl_X3_21 kd_22 (by decide) (Nat.le_of_ble_eq_true rfl) rfl ?_
  refine j_iload_n C dX3_chanceWith_4 1 rfl rfl ?_
  refine j_isub C dX3_chanceWith_5 ?_
  refine j_aload_n C dX3_chanceWith_6 0 rfl rfl ?_
  refine j_geti C dX3_chanceWith_7 fl_X3_25 kd_22 (by decide) (Nat.le_of_ble_eq_true rfl) rfl ?_
  refine j_csi C dX3_chanceWith_10 lk_X3_32 mw_X8_chance (m_X8_chance adr ((S.1 22 1) - x1) (S.1 22 2)) ⟨rfl, rfl, Nat.le_of_ble_eq_true rfl, Nat.le_of_ble_eq_true rfl⟩ rfl (st := []) (st0 := [.int (S.1 22 2), .int ((S.1 22 1) - x1)]) rfl (Nat.le_of_ble_eq_true rfl) (fun v2 S1 => ?_)
  exact j_iret hR dX3_chanceWith_13
-- X3_weigh
abbrev rm_X3_weigh : Room := { frames := 3, cells := 0, slots := 0, locals := 56 }
def f_X3_weigh_72 (k18 : Int32 → Int32 → Int32 → Int32 → St → Option (St)) : Nat → Int32 → Int32 → Int32 → Int32 → Int64 → Int32 → St → Option (St)
  | 0, _, _, _, _, _, _, _ => none
  | n + 1, x3, x4, x5, x6, x7, x9, S =>
    if (S.1 22 1) < x9 then (ck x6 7 (lt (upL S 23 x6.toNatClampNeg x7) fun S8 =>
      k18 x3 x4 x5 (x6 + 1) S8))
    else (lt (x7 * (((10 * x9) * x5).toInt64)) fun v9 =>
      (f_X3_weigh_72 k18 n) x3 x4 x5 x6 v9 (x9 + 1) S)
set_option maxHeartbeats 1000000 in
theorem b_X3_weigh_72 {K : Kt} {adr : Nat → Nat} {r : St} (C : Cx K cX3_weigh RX3 10 adr rm_X3_weigh) (hR : ∀ (pc : Nat) (lv : List (Nat × Value)), decode cX3_weigh pc = .ok (.return_, 1) → K pc lv [] r) (k18 : Int32 → Int32 → Int32 → Int32 → St → Option (St)) (h18 : ∀ (x3 : Int32) (x4 : Int32) (x5 : Int32) (x6 : Int32) (S : St), J K r (k18 x3 x4 x5 x6 S) 18 [(0, .ref (adr 22)), (3, .int x3), (4, .int x4), (5, .int x5), (6, .int x6)] [] S) : ∀ (n : Nat) (x3 : Int32) (x4 : Int32) (x5 : Int32) (x6 : Int32) (x7 : Int64) (x9 : Int32) (S : St), J K r (f_X3_weigh_72 k18 n x3 x4 x5 x6 x7 x9 S) 72 [(0, .ref (adr 22)), (3, .int x3), (4, .int x4), (5, .int x5), (6, .int x6), (7, .long x7), (9, .int x9)] [] S := by
  intro n
  induction n with
  | zero => intro x3 x4 x5 x6 x7 x9 S h; cases h
  | succ n ih =>
    intro x3 x4 x5 x6 x7 x9 S
    unfold f_X3_weigh_72
    refine j_iload C dX3_weigh_72 6 rfl ?_
    refine j_aload_n C dX3_weigh_74 0 rfl rfl ?_
    refine j_geti C dX3_weigh_75 fl_X3_21 kd_22 (by decide) (Nat.le_of_ble_eq_true rfl) rfl ?_
    refine j_icmp_gt C dX3_weigh_78 (tgt := 101) (by decide) ?_ ?_
    · refine j_aload_n C dX3_weigh_101 0 rfl rfl ?_
      refine j_getr C dX3_weigh_102 fl_X3_9 kd_22 (by decide) (Nat.le_of_ble_eq_true rfl) rfl ?_
      refine j_iload C dX3_weigh_105 4 rfl ?_
      refine j_lload C dX3_weigh_107 5 rfl ?_
      refine j_last C dX3_weigh_109 kd_23 (Nat.le_of_ble_eq_true rfl) (fun S8 => ?_)
      refine j_iinc C dX3_weigh_110 (v := x6 + 1) 4 rfl rfl (by decide) rfl ?_
      refine j_goto C dX3_weigh_113 (tgt := 18) (by decide) ?_
      refine j_sub C [1, 2, 3, 4, 0] rfl ?_
      exact h18 x3 x4 x5 (x6 + 1) S8
    · refine j_lload C dX3_weigh_81 5 rfl ?_
      refine j_bipush C dX3_weigh_83 (v := 10) rfl ?_
      refine j_iload C dX3_weigh_85 6 rfl ?_
      refine j_imul C dX3_weigh_87 ?_
      refine j_iload C dX3_weigh_88 3 rfl ?_
      refine j_imul C dX3_weigh_90 ?_
      refine j_i2l C dX3_weigh_91 ?_
      refine j_lmul C dX3_weigh_92 ?_
      refine j_topl (fun v9 => ?_)
      refine j_lstore C dX3_weigh_93 (by decide) rfl ?_
      refine j_iinc C dX3_weigh_95 (v := x9 + 1) 6 rfl rfl (by decide) rfl ?_
      refine j_goto C dX3_weigh_98 (tgt := 72) (by decide) ?_
      refine j_sub C [2, 3, 4, 5, 6, 1, 0] rfl ?_
      exact ih x3 x4 x5 x6 v9 (x9 + 1) S
def f_X3_weigh_33 (k18 : Int32 → Int32 → Int32 → Int32 → St → Option (St)) : Nat → Int32 → Int32 → Int32 → Int32 → Int64 → Int32 → St → Option (St)
  | 0, _, _, _, _, _, _, _ => none
  | n + 1, x3, x4, x5, x6, x7, x9, S =>
    if x6 ≤ x9 then (lt (x6 + 1) fun v4 =>
      f_X3_weigh_72 k18 FU x3 x4 x5 x6 x7 v4 S)
    else (bd (f_X3_chanceWith x9 S) fun v6 S5 =>
      lt (x7 * (((x3 * v6) + (10 * x4)).toInt64)) fun v7 =>
      (f_X3_weigh_33 k18 n) x3 x4 x5 x6 v7 (x9 + 1) S5)
set_option maxHeartbeats 1000000 in
theorem b_X3_weigh_33 {K : Kt} {adr : Nat → Nat} {r : St} (C : Cx K cX3_weigh RX3 10 adr rm_X3_weigh) (hR : ∀ (pc : Nat) (lv : List (Nat × Value)), decode cX3_weigh pc = .ok (.return_, 1) → K pc lv [] r) (k18 : Int32 → Int32 → Int32 → Int32 → St → Option (St)) (h18 : ∀ (x3 : Int32) (x4 : Int32) (x5 : Int32) (x6 : Int32) (S : St), J K r (k18 x3 x4 x5 x6 S) 18 [(0, .ref (adr 22)), (3, .int x3), (4, .int x4), (5, .int x5), (6, .int x6)] [] S) : ∀ (n : Nat) (x3 : Int32) (x4 : Int32) (x5 : Int32) (x6 : Int32) (x7 : Int64) (x9 : Int32) (S : St), J K r (f_X3_weigh_33 k18 n x3 x4 x5 x6 x7 x9 S) 33 [(0, .ref (adr 22)), (3, .int x3), (4, .int x4), (5, .int x5), (6, .int x6), (7, .long x7), (9, .int x9)] [] S := by
  intro n
  induction n with
  | zero => intro x3 x4 x5 x6 x7 x9 S h; cases h
  | succ n ih =>
    intro x3 x4 x5 x6 x7 x9 S
    unfold f_X3_weigh_33
    refine j_iload C dX3_weigh_33 6 rfl ?_
    refine j_iload C dX3_weigh_35 4 rfl ?_
    refine j_icmp_ge C dX3_weigh_37 (tgt := 66) (by decide) ?_ ?_
    · refine j_iload C dX3_weigh_66 4 rfl ?_
      refine j_iconst C dX3_weigh_68 (v := 1) rfl ?_
      refine j_iadd C dX3_weigh_69 ?_
      refine j_topi (fun v4 => ?_)
      refine j_istore C dX3_weigh_70 (by decide) rfl ?_
      refine j_sub C [1, 2, 3, 4, 5, 6, 0] rfl ?_
      exact b_X3_weigh_72 C hR k18 h18 FU x3 x4 x5 x6 x7 v4 S
    · refine j_lload C dX3_weigh_40 5 rfl ?_
      refine j_iload_n C dX3_weigh_42 1 rfl rfl ?_
      refine j_aload_n C dX3_weigh_43 0 rfl rfl ?_
      refine j_iload C dX3_weigh_44 6 rfl ?_
      refine j_cvi C dX3_weigh_46 lk_X3_28 mw_X3_chanceWith (m_X3_chanceWith adr x9) ⟨rfl, rfl, Nat.le_of_ble_eq_true rfl, Nat.le_of_ble_eq_true rfl⟩ kd_22 (by decide) (Nat.le_of_ble_eq_true rfl) rfl rfl (st := [.int x3, .long x7]) (st0 := [.int x9, .ref (adr 22), .int x3, .long x7]) rfl (Nat.le_of_ble_eq_true rfl) (fun v6 S5 => ?_)
      refine j_imul C dX3_weigh_49 ?_
      refine j_bipush C dX3_weigh_50 (v := 10) rfl ?_
      refine j_iload C dX3_weigh_52 2 rfl ?_
      refine j_imul C dX3_weigh_54 ?_
      refine j_iadd C dX3_weigh_55 ?_
      refine j_i2l C dX3_weigh_56 ?_
      refine j_lmul C dX3_weigh_57 ?_
      refine j_topl (fun v7 => ?_)
      refine j_lstore C dX3_weigh_58 (by decide) rfl ?_
      refine j_iinc C dX3_weigh_60 (v := x9 + 1) 6 rfl rfl (by decide) rfl ?_
      refine j_goto C dX3_weigh_63 (tgt := 33) (by decide) ?_
      refine j_sub C [2, 3, 4, 5, 6, 1, 0] rfl ?_
      exact ih x3 x4 x5 x6 v7 (x9 + 1) S5
def f_X3_weigh_18 : Nat → Int32 → Int32 → Int32 → Int32 → St → Option (St)
  | 0, _, _, _, _, _ => none
  | n + 1, x3, x4, x5, x6, S =>
    if (S.1 22 1) < x6 then (some S)
    else (f_X3_weigh_33 (f_X3_weigh_18 n) FU x3 x4 x5 x6 1 0 S)
set_option maxHeartbeats 1000000 in
theorem b_X3_weigh_18 {K : Kt} {adr : Nat → Nat} {r : St} (C : Cx K cX3_weigh RX3 10 adr rm_X3_weigh) (hR : ∀ (pc : Nat) (lv : List (Nat × Value)), decode cX3_weigh pc = .ok (.return_, 1) → K pc lv [] r) : ∀ (n : Nat) (x3 : Int32) (x4 : Int32) (x5 : Int32) (x6 : Int32) (S : St), J K r (f_X3_weigh_18 n x3 x4 x5 x6 S) 18 [(0, .ref (adr 22)), (3, .int x3), (4, .int x4), (5, .int x5), (6, .int x6)] [] S := by
  intro n
  induction n with
  | zero => intro x3 x4 x5 x6 S h; cases h
  | succ n ih =>
    intro x3 x4 x5 x6 S
    unfold f_X3_weigh_18
    refine j_iload C dX3_weigh_18 4 rfl ?_
    refine j_aload_n C dX3_weigh_20 0 rfl rfl ?_
    refine j_geti C dX3_weigh_21 fl_X3_21 kd_22 (by decide) (Nat.le_of_ble_eq_true rfl) rfl ?_
    refine j_icmp_gt C dX3_weigh_24 (tgt := 116) (by decide) ?_ ?_
    · exact j_vret hR dX3_weigh_116
    · refine j_lconst C dX3_weigh_27 (v := 1) rfl ?_
      refine j_lstore C dX3_weigh_28 (by decide) rfl ?_
      refine j_iconst C dX3_weigh_30 (v := 0) rfl ?_
      refine j_istore C dX3_weigh_31 (by decide) rfl ?_
      refine j_sub C [2, 3, 4, 5, 6, 1, 0] rfl ?_
      exact b_X3_weigh_33 C hR (f_X3_weigh_18 n) ih FU x3 x4 x5 x6 1 0 S
def f_X3_weigh (x1 : Int32) (x2 : Int32) (x3 : Int32) (x4 : Int32) (x5 : Int32) (S : St) : Option (St) :=
  lt (if 6 < x1 then 6 else x1) fun v1 =>
  lt (upI S 22 1 v1) fun S2 =>
  lt (upI S2 22 2 x2) fun S3 =>
  f_X3_weigh_18 FU x3 x4 x5 0 S3
set_option maxHeartbeats 1000000 in
theorem m_X3_weigh (adr : Nat → Nat) (x1 : Int32) (x2 : Int32) (x3 : Int32) (x4 : Int32) (x5 : Int32) : MtV yX3_weigh cX3_weigh 10 none rm_X3_weigh adr [.ref (adr 22), .int x1, .int x2, .int x3, .int x4, .int x5] (f_X3_weigh x1 x2 x3 x4 x5) := by
  refine MtV.of (by decide +kernel) (Nat.le_of_ble_eq_true rfl) (fun K r S C hR => ?_)
  refine j_start (lv' := [(0, .ref (adr 22)), (1, .int x1), (2, .int x2), (3, .int x3), (4, .int x4), (5, .int x5)]) rfl ?_
  unfold f_X3_weigh
  refine j_aload_n C dX3_weigh_0 0 rfl rfl ?_
  refine j_iload_n C dX3_weigh_1 1 rfl rfl ?_
  refine j_bipush C dX3_weigh_2 (v := 6) rfl ?_
  refine j_mmin C dX3_weigh_4 lm_X3_15 ms_min_1 ms_math ms_min_3 ⟨Nat.le_of_ble_eq_true rfl, Nat.le_of_ble_eq_true rfl⟩ ?_
  refine j_topi (fun v1 => ?_)
  refine j_puti C dX3_weigh_7 fl_X3_21 fi_X3_1 kd_22 (by decide) (Nat.le_of_ble_eq_true rfl) rfl (fun S2 => ?_)
  refine j_aload_n C dX3_weigh_10 0 rfl rfl ?_
  refine j_iload_n C dX3_weigh_11 2 rfl rfl ?_
  refine j_puti C dX3_weigh_12 fl_X3_25 fi_X3_2 kd_22 (by decide) (Nat.le_of_ble_eq_true rfl) rfl (fun S3 => ?_)
  refine j_iconst C dX3_weigh_15 (v := 0) rfl ?_
  refine j_istore C dX3_weigh_16 (by decide) rfl ?_
  refine j_sub C [1, 4, 5, 6, 0] rfl ?_
  exact b_X3_weigh_18 C hR FU x3 x4 x5 0 S3
-- X3_upper
abbrev rm_X3_upper : Room := { frames := 3, cells := 0, slots := 0, locals := 56 }
def f_X3_upper_55 (k20 : Int32 → Int64 → Int32 → St → Option (Int64 × St)) (x1 : Int32) (x4 : Int32) (s0 : Int32) (s1 : Int64) (s2 : Int64) (S : St) : Option (Int64 × St) :=
    lt (s2 + (s1 * s0.toInt64)) fun v3 =>
    k20 x1 v3 (x4 + 1) S
set_option maxHeartbeats 1000000 in
theorem b_X3_upper_55 {K : Kt} {adr : Nat → Nat} {r : Int64 × St} (C : Cx K cX3_upper RX3 5 adr rm_X3_upper) (hR : ∀ (pc : Nat) (lv : List (Nat × Value)), decode cX3_upper pc = .ok (.lreturn, 1) → K pc lv [.long r.1] r.2) (k20 : Int32 → Int64 → Int32 → St → Option (Int64 × St)) (h20 : ∀ (x1 : Int32) (x2 : Int64) (x4 : Int32) (S : St), J K r (k20 x1 x2 x4 S) 20 [(0, .ref (adr 22)), (1, .int x1), (2, .long x2), (4, .int x4)] [] S) (x1 : Int32) (x4 : Int32) (s0 : Int32) (s1 : Int64) (s2 : Int64) (S : St) : J K r (f_X3_upper_55 k20 x1 x4 s0 s1 s2 S) 55 [(0, .ref (adr 22)), (1, .int x1), (4, .int x4)] [.int s0, .long s1, .long s2] S := by
    unfold f_X3_upper_55
    refine j_i2l C dX3_upper_55 ?_
    refine j_lmul C dX3_upper_56 ?_
    refine j_ladd C dX3_upper_57 ?_
    refine j_topl (fun v3 => ?_)
    refine j_lstore_n C dX3_upper_58 rfl (by decide) rfl ?_
    refine j_iinc C dX3_upper_59 (v := x4 + 1) 3 rfl rfl (by decide) rfl ?_
    refine j_goto C dX3_upper_62 (tgt := 20) (by decide) ?_
    refine j_sub C [2, 3, 1, 0] rfl ?_
    exact h20 x1 v3 (x4 + 1) S
def f_X3_upper_20 : Nat → Int32 → Int64 → Int32 → St → Option (Int64 × St)
  | 0, _, _, _, _ => none
  | n + 1, x1, x2, x4, S =>
    if (S.1 22 1) < x4 then (some (x2, S))
    else (ck x4 7 (if x1 = 0 then (bd (f_X3_chanceWith x4 S) fun v2 S1 =>
        f_X3_upper_55 (f_X3_upper_20 n) x1 x4 (10 - v2) (S.2 23 x4.toNatClampNeg) x2 S1)
      else (f_X3_upper_55 (f_X3_upper_20 n) x1 x4 x4 (S.2 23 x4.toNatClampNeg) x2 S)))
set_option maxHeartbeats 1000000 in
theorem b_X3_upper_20 {K : Kt} {adr : Nat → Nat} {r : Int64 × St} (C : Cx K cX3_upper RX3 5 adr rm_X3_upper) (hR : ∀ (pc : Nat) (lv : List (Nat × Value)), decode cX3_upper pc = .ok (.lreturn, 1) → K pc lv [.long r.1] r.2) : ∀ (n : Nat) (x1 : Int32) (x2 : Int64) (x4 : Int32) (S : St), J K r (f_X3_upper_20 n x1 x2 x4 S) 20 [(0, .ref (adr 22)), (1, .int x1), (2, .long x2), (4, .int x4)] [] S := by
  intro n
  induction n with
  | zero => intro x1 x2 x4 S h; cases h
  | succ n ih =>
    intro x1 x2 x4 S
    unfold f_X3_upper_20
    refine j_iload C dX3_upper_20 3 rfl ?_
    refine j_aload_n C dX3_upper_22 0 rfl rfl ?_
    refine j_geti C dX3_upper_23 fl_X3_21 kd_22 (by decide) (Nat.le_of_ble_eq_true rfl) rfl ?_
    refine j_icmp_gt C dX3_upper_26 (tgt := 65) (by decide) ?_ ?_
    · refine j_lload_n C dX3_upper_65 2 rfl rfl ?_
      exact j_lret hR dX3_upper_66
    · refine j_lload_n C dX3_upper_29 2 rfl rfl ?_
      refine j_aload_n C dX3_upper_30 0 rfl rfl ?_
      refine j_getr C dX3_upper_31 fl_X3_9 kd_22 (by decide) (Nat.le_of_ble_eq_true rfl) rfl ?_
      refine j_iload C dX3_upper_34 3 rfl ?_
      refine j_lald C dX3_upper_36 kd_23 (Nat.le_of_ble_eq_true rfl) ?_
      refine j_iload_n C dX3_upper_37 1 rfl rfl ?_
      refine j_if_ne C dX3_upper_38 (tgt := 53) (by decide) ?_ ?_
      · refine j_iload C dX3_upper_53 3 rfl ?_
        refine j_sub C [0, 1, 3] rfl ?_
        exact b_X3_upper_55 C hR (f_X3_upper_20 n) ih x1 x4 x4 (S.2 23 x4.toNatClampNeg) x2 S
      · refine j_bipush C dX3_upper_41 (v := 10) rfl ?_
        refine j_aload_n C dX3_upper_43 0 rfl rfl ?_
        refine j_iload C dX3_upper_44 3 rfl ?_
        refine j_cvi C dX3_upper_46 lk_X3_28 mw_X3_chanceWith (m_X3_chanceWith adr x4) ⟨rfl, rfl, Nat.le_of_ble_eq_true rfl, Nat.le_of_ble_eq_true rfl⟩ kd_22 (by decide) (Nat.le_of_ble_eq_true rfl) rfl rfl (st := [.int 10, .long (S.2 23 x4.toNatClampNeg), .long x2]) (st0 := [.int x4, .ref (adr 22), .int 10, .long (S.2 23 x4.toNatClampNeg), .long x2]) rfl (Nat.le_of_ble_eq_true rfl) (fun v2 S1 => ?_)
        refine j_isub C dX3_upper_49 ?_
        refine j_goto C dX3_upper_50 (tgt := 55) (by decide) ?_
        refine j_sub C [0, 1, 3] rfl ?_
        exact b_X3_upper_55 C hR (f_X3_upper_20 n) ih x1 x4 (10 - v2) (S.2 23 x4.toNatClampNeg) x2 S1
def f_X3_upper (x1 : Int32) (S : St) : Option (Int64 × St) :=
  if x1 = 1 then (ck (S.1 22 1) 7 (some (S.2 23 (S.1 22 1).toNatClampNeg, S)))
  else (f_X3_upper_20 FU x1 0 0 S)
set_option maxHeartbeats 1000000 in
theorem m_X3_upper (adr : Nat → Nat) (x1 : Int32) : MtL yX3_upper cX3_upper 5 (some .long) rm_X3_upper adr [.ref (adr 22), .int x1] (f_X3_upper x1) := by
  refine MtL.of (by decide +kernel) (Nat.le_of_ble_eq_true rfl) (fun K r S C hR => ?_)
  refine j_start (lv' := [(0, .ref (adr 22)), (1, .int x1)]) rfl ?_
  unfold f_X3_upper
  refine j_iload_n C dX3_upper_0 1 rfl rfl ?_
  refine j_iconst C dX3_upper_1 (v := 1) rfl ?_
  refine j_icmp_ne C dX3_upper_2 (tgt := 15) (by decide) ?_ ?_
  · refine j_lconst C dX3_upper_15 (v := 0) rfl ?_
    refine j_lstore_n C dX3_upper_16 rfl (by decide) rfl ?_
    refine j_iconst C dX3_upper_17 (v := 0) rfl ?_
    refine j_istore C dX3_upper_18 (by decide) rfl ?_
    refine j_sub C [2, 3, 1, 0] rfl ?_
    exact b_X3_upper_20 C hR FU x1 0 0 S
  · refine j_aload_n C dX3_upper_5 0 rfl rfl ?_
    refine j_getr C dX3_upper_6 fl_X3_9 kd_22 (by decide) (Nat.le_of_ble_eq_true rfl) rfl ?_
    refine j_aload_n C dX3_upper_9 0 rfl rfl ?_
    refine j_geti C dX3_upper_10 fl_X3_21 kd_22 (by decide) (Nat.le_of_ble_eq_true rfl) rfl ?_
    refine j_lald C dX3_upper_13 kd_23 (Nat.le_of_ble_eq_true rfl) ?_
    exact j_lret hR dX3_upper_14
-- X3_allWeights
abbrev rm_X3_allWeights : Room := { frames := 0, cells := 0, slots := 0, locals := 0 }
def f_X3_allWeights_4 : Nat → Int64 → Int32 → St → Option (Int64 × St)
  | 0, _, _, _ => none
  | n + 1, x1, x3, S =>
    if (S.1 22 1) < x3 then (some (x1, S))
    else (ck x3 7 (lt (x1 + (S.2 23 x3.toNatClampNeg)) fun v1 =>
      (f_X3_allWeights_4 n) v1 (x3 + 1) S))
set_option maxHeartbeats 1000000 in
theorem b_X3_allWeights_4 {K : Kt} {adr : Nat → Nat} {r : Int64 × St} (C : Cx K cX3_allWeights RX3 4 adr rm_X3_allWeights) (hR : ∀ (pc : Nat) (lv : List (Nat × Value)), decode cX3_allWeights pc = .ok (.lreturn, 1) → K pc lv [.long r.1] r.2) : ∀ (n : Nat) (x1 : Int64) (x3 : Int32) (S : St), J K r (f_X3_allWeights_4 n x1 x3 S) 4 [(0, .ref (adr 22)), (1, .long x1), (3, .int x3)] [] S := by
  intro n
  induction n with
  | zero => intro x1 x3 S h; cases h
  | succ n ih =>
    intro x1 x3 S
    unfold f_X3_allWeights_4
    refine j_iload_n C dX3_allWeights_4 2 rfl rfl ?_
    refine j_aload_n C dX3_allWeights_5 0 rfl rfl ?_
    refine j_geti C dX3_allWeights_6 fl_X3_21 kd_22 (by decide) (Nat.le_of_ble_eq_true rfl) rfl ?_
    refine j_icmp_gt C dX3_allWeights_9 (tgt := 27) (by decide) ?_ ?_
    · refine j_lload_n C dX3_allWeights_27 1 rfl rfl ?_
      exact j_lret hR dX3_allWeights_28
    · refine j_lload_n C dX3_allWeights_12 1 rfl rfl ?_
      refine j_aload_n C dX3_allWeights_13 0 rfl rfl ?_
      refine j_getr C dX3_allWeights_14 fl_X3_9 kd_22 (by decide) (Nat.le_of_ble_eq_true rfl) rfl ?_
      refine j_iload_n C dX3_allWeights_17 2 rfl rfl ?_
      refine j_lald C dX3_allWeights_18 kd_23 (Nat.le_of_ble_eq_true rfl) ?_
      refine j_ladd C dX3_allWeights_19 ?_
      refine j_topl (fun v1 => ?_)
      refine j_lstore_n C dX3_allWeights_20 rfl (by decide) rfl ?_
      refine j_iinc C dX3_allWeights_21 (v := x3 + 1) 2 rfl rfl (by decide) rfl ?_
      refine j_goto C dX3_allWeights_24 (tgt := 4) (by decide) ?_
      refine j_sub C [2, 1, 0] rfl ?_
      exact ih v1 (x3 + 1) S
def f_X3_allWeights  (S : St) : Option (Int64 × St) :=
  f_X3_allWeights_4 FU 0 0 S
set_option maxHeartbeats 1000000 in
theorem m_X3_allWeights (adr : Nat → Nat)  : MtL yX3_allWeights cX3_allWeights 4 (some .long) rm_X3_allWeights adr [.ref (adr 22)] (f_X3_allWeights ) := by
  refine MtL.of (by decide +kernel) (Nat.le_of_ble_eq_true rfl) (fun K r S C hR => ?_)
  refine j_start (lv' := [(0, .ref (adr 22))]) rfl ?_
  unfold f_X3_allWeights
  refine j_lconst C dX3_allWeights_0 (v := 0) rfl ?_
  refine j_lstore_n C dX3_allWeights_1 rfl (by decide) rfl ?_
  refine j_iconst C dX3_allWeights_2 (v := 0) rfl ?_
  refine j_istore_n C dX3_allWeights_3 rfl (by decide) rfl ?_
  refine j_sub C [2, 1, 0] rfl ?_
  exact b_X3_allWeights_4 C hR FU 0 0 S
-- X3_lower
abbrev rm_X3_lower : Room := { frames := 1, cells := 0, slots := 0, locals := 23 }
def f_X3_lower_19 (s0 : Int64) (S : St) : Option (Int64 × St) :=
    some (s0, S)
set_option maxHeartbeats 1000000 in
theorem b_X3_lower_19 {K : Kt} {adr : Nat → Nat} {r : Int64 × St} (C : Cx K cX3_lower RX3 2 adr rm_X3_lower) (hR : ∀ (pc : Nat) (lv : List (Nat × Value)), decode cX3_lower pc = .ok (.lreturn, 1) → K pc lv [.long r.1] r.2) (s0 : Int64) (S : St) : J K r (f_X3_lower_19 s0 S) 19 [] [.long s0] S := by
    unfold f_X3_lower_19
    exact j_lret hR dX3_lower_19
def f_X3_lower (x1 : Int32) (S : St) : Option (Int64 × St) :=
  if x1 = 0 then (bd (f_X3_allWeights S) fun v4 S3 =>
    f_X3_lower_19 (10 * v4) S3)
  else (bd (f_X3_allWeights S) fun v2 S1 =>
    f_X3_lower_19 v2 S1)
set_option maxHeartbeats 1000000 in
theorem m_X3_lower (adr : Nat → Nat) (x1 : Int32) : MtL yX3_lower cX3_lower 2 (some .long) rm_X3_lower adr [.ref (adr 22), .int x1] (f_X3_lower x1) := by
  refine MtL.of (by decide +kernel) (Nat.le_of_ble_eq_true rfl) (fun K r S C hR => ?_)
  refine j_start (lv' := [(0, .ref (adr 22)), (1, .int x1)]) rfl ?_
  unfold f_X3_lower
  refine j_iload_n C dX3_lower_0 1 rfl rfl ?_
  refine j_if_ne C dX3_lower_1 (tgt := 15) (by decide) ?_ ?_
  · refine j_aload_n C dX3_lower_15 0 rfl rfl ?_
    refine j_cvl C dX3_lower_16 lk_X3_37 mw_X3_allWeights (m_X3_allWeights adr ) ⟨rfl, rfl, Nat.le_of_ble_eq_true rfl, Nat.le_of_ble_eq_true rfl⟩ kd_22 (by decide) (Nat.le_of_ble_eq_true rfl) rfl rfl (st := []) (st0 := [.ref (adr 22)]) rfl (Nat.le_of_ble_eq_true rfl) (fun v2 S1 => ?_)
    refine j_sub C [] rfl ?_
    exact b_X3_lower_19 C hR v2 S1
  · refine j_ldc2 C dX3_lower_4 kc_X3_35 ?_
    refine j_aload_n C dX3_lower_7 0 rfl rfl ?_
    refine j_cvl C dX3_lower_8 lk_X3_37 mw_X3_allWeights (m_X3_allWeights adr ) ⟨rfl, rfl, Nat.le_of_ble_eq_true rfl, Nat.le_of_ble_eq_true rfl⟩ kd_22 (by decide) (Nat.le_of_ble_eq_true rfl) rfl rfl (st := [.long 10]) (st0 := [.ref (adr 22), .long 10]) rfl (Nat.le_of_ble_eq_true rfl) (fun v4 S3 => ?_)
    refine j_lmul C dX3_lower_11 ?_
    refine j_goto C dX3_lower_12 (tgt := 19) (by decide) ?_
    refine j_sub C [] rfl ?_
    exact b_X3_lower_19 C hR (10 * v4) S3
-- X8_commonDivisor
abbrev rm_X8_commonDivisor : Room := { frames := 0, cells := 0, slots := 0, locals := 0 }
def f_X8_commonDivisor_45 (x4 : Int64) (S : St) : Option (Int64 × St) :=
    some (x4, S)
set_option maxHeartbeats 1000000 in
theorem b_X8_commonDivisor_45 {K : Kt} {adr : Nat → Nat} {r : Int64 × St} (C : Cx K cX8_commonDivisor RX8 11 adr rm_X8_commonDivisor) (hR : ∀ (pc : Nat) (lv : List (Nat × Value)), decode cX8_commonDivisor pc = .ok (.lreturn, 1) → K pc lv [.long r.1] r.2) (x4 : Int64) (S : St) : J K r (f_X8_commonDivisor_45 x4 S) 45 [(4, .long x4)] [] S := by
    unfold f_X8_commonDivisor_45
    refine j_lload C dX8_commonDivisor_45 0 rfl ?_
    exact j_lret hR dX8_commonDivisor_47
def f_X8_commonDivisor_9 : Nat → Int64 → Int64 → Int32 → St → Option (Int64 × St)
  | 0, _, _, _, _ => none
  | n + 1, x4, x6, x8, S =>
    if 200 ≤ x8 then (f_X8_commonDivisor_45 x4 S)
    else (if (lg_cmp x6 0) = 0 then (f_X8_commonDivisor_45 x4 S)
      else (nzL x6 (lt (x4 - x4 / x6 * x6) fun v1 =>
        (f_X8_commonDivisor_9 n) x6 v1 (x8 + 1) S)))
set_option maxHeartbeats 1000000 in
theorem b_X8_commonDivisor_9 {K : Kt} {adr : Nat → Nat} {r : Int64 × St} (C : Cx K cX8_commonDivisor RX8 11 adr rm_X8_commonDivisor) (hR : ∀ (pc : Nat) (lv : List (Nat × Value)), decode cX8_commonDivisor pc = .ok (.lreturn, 1) → K pc lv [.long r.1] r.2) : ∀ (n : Nat) (x4 : Int64) (x6 : Int64) (x8 : Int32) (S : St), J K r (f_X8_commonDivisor_9 n x4 x6 x8 S) 9 [(4, .long x4), (6, .long x6), (8, .int x8)] [] S := by
  intro n
  induction n with
  | zero => intro x4 x6 x8 S h; cases h
  | succ n ih =>
    intro x4 x6 x8 S
    unfold f_X8_commonDivisor_9
    refine j_iload C dX8_commonDivisor_9 2 rfl ?_
    refine j_sipush C dX8_commonDivisor_11 (v := 200) rfl ?_
    refine j_icmp_ge C dX8_commonDivisor_14 (tgt := 45) (by decide) ?_ ?_
    · refine j_sub C [0] rfl ?_
      exact b_X8_commonDivisor_45 C hR x4 S
    · refine j_lload C dX8_commonDivisor_17 1 rfl ?_
      refine j_lconst C dX8_commonDivisor_19 (v := 0) rfl ?_
      refine j_lcmp C dX8_commonDivisor_20 ?_
      refine j_if_eq C dX8_commonDivisor_21 (tgt := 45) (by decide) ?_ ?_
      · refine j_sub C [0] rfl ?_
        exact b_X8_commonDivisor_45 C hR x4 S
      · refine j_lload C dX8_commonDivisor_24 0 rfl ?_
        refine j_lload C dX8_commonDivisor_26 1 rfl ?_
        refine j_lrem C dX8_commonDivisor_28 ?_
        refine j_topl (fun v1 => ?_)
        refine j_lstore C dX8_commonDivisor_29 (by decide) rfl ?_
        refine j_lload C dX8_commonDivisor_31 2 rfl ?_
        refine j_lstore C dX8_commonDivisor_33 (by decide) rfl ?_
        refine j_lload C dX8_commonDivisor_35 1 rfl ?_
        refine j_lstore C dX8_commonDivisor_37 (by decide) rfl ?_
        refine j_iinc C dX8_commonDivisor_39 (v := x8 + 1) 3 rfl rfl (by decide) rfl ?_
        refine j_goto C dX8_commonDivisor_42 (tgt := 9) (by decide) ?_
        refine j_sub C [2, 1, 0] rfl ?_
        exact ih x6 v1 (x8 + 1) S
def f_X8_commonDivisor (x0 : Int64) (x2 : Int64) (S : St) : Option (Int64 × St) :=
  f_X8_commonDivisor_9 FU x0 x2 0 S
set_option maxHeartbeats 1000000 in
theorem m_X8_commonDivisor (adr : Nat → Nat) (x0 : Int64) (x2 : Int64) : MtL yX8_commonDivisor cX8_commonDivisor 11 (some .long) rm_X8_commonDivisor adr [.long x0, .long x2] (f_X8_commonDivisor x0 x2) := by
  refine MtL.of (by decide +kernel) (Nat.le_of_ble_eq_true rfl) (fun K r S C hR => ?_)
  refine j_start (lv' := [(0, .long x0), (2, .long x2)]) rfl ?_
  unfold f_X8_commonDivisor
  refine j_lload_n C dX8_commonDivisor_0 0 rfl rfl ?_
  refine j_lstore C dX8_commonDivisor_1 (by decide) rfl ?_
  refine j_lload_n C dX8_commonDivisor_3 2 rfl rfl ?_
  refine j_lstore C dX8_commonDivisor_4 (by decide) rfl ?_
  refine j_iconst C dX8_commonDivisor_6 (v := 0) rfl ?_
  refine j_istore C dX8_commonDivisor_7 (by decide) rfl ?_
  refine j_sub C [2, 1, 0] rfl ?_
  exact b_X8_commonDivisor_9 C hR FU x0 x2 0 S
