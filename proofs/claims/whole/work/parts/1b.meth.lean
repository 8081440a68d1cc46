-- X4_readSetting
abbrev rm_X4_readSetting : Room := { frames := 4, cells := 0, slots := 0, locals := 83 }
def f_X4_readSetting_15  (S : St) : Option (Int32 × St) :=
    some (0, S)
set_option maxHeartbeats 1000000 in
theorem b_X4_readSetting_15 {K : Kt} {adr : Nat → Nat} {r : Int32 × St} (C : Cx K cX4_readSetting RX4 2 adr rm_X4_readSetting) (hR : ∀ (pc : Nat) (lv : List (Nat × Value)), (r.1 = 0 ∨ r.1 = 1) → decode cX4_readSetting pc = .ok (.ireturn, 1) → K pc lv [.int r.1] r.2)  (S : St) : J K r (f_X4_readSetting_15  S) 15 [] [] S := by
    unfold f_X4_readSetting_15
    refine j_iconst C dX4_readSetting_15 (v := 0) rfl ?_
    exact j_zret hR (by decide) dX4_readSetting_16
def f_X4_readSetting (x1 : Int32) (S : St) : Option (Int32 × St) :=
  if x1 = (-9) then (f_X4_readSetting_15 S)
  else (ck x1 5 (if (S.1 3 x1.toNatClampNeg) ≤ 0 then (ck x1 5 (ck x1 5 (lt (upI S 3 x1.toNatClampNeg ((S.1 3 x1.toNatClampNeg) + 1)) fun S1 =>
      ck x1 5 (ck x1 5 (bd (f_X4_readNumber (tbLeast x1.toNatClampNeg) (tbMost x1.toNatClampNeg) S1) fun v3 S2 =>
      if v3 = 0 then (some (0, S2))
      else (ck x1 5 (lt (upI S2 8 x1.toNatClampNeg (S2.1 1 7)) fun S4 =>
        bd (f_X4_readStop S4) fun v6 S5 =>
        bz v6 (some (v6, S5)))))))))
    else (f_X4_readSetting_15 S)))
set_option maxHeartbeats 1000000 in
theorem m_X4_readSetting (adr : Nat → Nat) (x1 : Int32) : MtI yX4_readSetting cX4_readSetting 2 (some .boolean) rm_X4_readSetting adr [.ref (adr 1), .int x1] (f_X4_readSetting x1) := by
  refine MtI.ofZ (by decide +kernel) (Nat.le_of_ble_eq_true rfl) (fun K r S C hR => ?_)
  refine j_start (lv' := [(0, .ref (adr 1)), (1, .int x1)]) rfl ?_
  unfold f_X4_readSetting
  refine j_iload_n C dX4_readSetting_0 1 rfl rfl ?_
  refine j_bipush C dX4_readSetting_1 (v := -9) rfl ?_
  refine j_icmp_eq C dX4_readSetting_3 (tgt := 15) (by decide) ?_ ?_
  · refine j_sub C [] rfl ?_
    exact b_X4_readSetting_15 C hR S
  · refine j_aload_n C dX4_readSetting_6 0 rfl rfl ?_
    refine j_getr C dX4_readSetting_7 fl_X4_22 kd_1 (by decide) (Nat.le_of_ble_eq_true rfl) rfl ?_
    refine j_iload_n C dX4_readSetting_10 1 rfl rfl ?_
    refine j_iald C dX4_readSetting_11 kd_3 (Nat.le_of_ble_eq_true rfl) ?_
    refine j_if_le C dX4_readSetting_12 (tgt := 17) (by decide) ?_ ?_
    · refine j_aload_n C dX4_readSetting_17 0 rfl rfl ?_
      refine j_getr C dX4_readSetting_18 fl_X4_22 kd_1 (by decide) (Nat.le_of_ble_eq_true rfl) rfl ?_
      refine j_iload_n C dX4_readSetting_21 1 rfl rfl ?_
      refine j_dup2 C dX4_readSetting_22 rfl rfl ?_
      refine j_iald C dX4_readSetting_23 kd_3 (Nat.le_of_ble_eq_true rfl) ?_
      refine j_iconst C dX4_readSetting_24 (v := 1) rfl ?_
      refine j_iadd C dX4_readSetting_25 ?_
      refine j_iast C dX4_readSetting_26 kd_3 (Nat.le_of_ble_eq_true rfl) (fun S1 => ?_)
      refine j_aload_n C dX4_readSetting_27 0 rfl rfl ?_
      refine j_stLeast C dX4_readSetting_28 dX4_readSetting_31 dX4_readSetting_32 (q := 1) rfl fs_X4_87 ?_
      refine j_stMost C dX4_readSetting_33 dX4_readSetting_36 dX4_readSetting_37 (q := 1) rfl fs_X4_90 ?_
      refine j_cvi C dX4_readSetting_38 lk_X4_68 mw_X4_readNumber (m_X4_readNumber adr (tbLeast x1.toNatClampNeg) (tbMost x1.toNatClampNeg)) ⟨rfl, rfl, Nat.le_of_ble_eq_true rfl, Nat.le_of_ble_eq_true rfl⟩ kd_1 (by decide) (Nat.le_of_ble_eq_true rfl) rfl rfl (st := []) (st0 := [.int (tbMost x1.toNatClampNeg), .int (tbLeast x1.toNatClampNeg), .ref (adr 1)]) rfl (Nat.le_of_ble_eq_true rfl) (fun v3 S2 => ?_)
      refine j_if_ne C dX4_readSetting_41 (tgt := 46) (by decide) ?_ ?_
      · refine j_aload_n C dX4_readSetting_46 0 rfl rfl ?_
        refine j_getr C dX4_readSetting_47 fl_X4_18 kd_1 (by decide) (Nat.le_of_ble_eq_true rfl) rfl ?_
        refine j_getr C dX4_readSetting_50 fl_X4_93 kd_4 (by decide) (Nat.le_of_ble_eq_true rfl) rfl ?_
        refine j_iload_n C dX4_readSetting_53 1 rfl rfl ?_
        refine j_aload_n C dX4_readSetting_54 0 rfl rfl ?_
        refine j_geti C dX4_readSetting_55 fl_X4_47 kd_1 (by decide) (Nat.le_of_ble_eq_true rfl) rfl ?_
        refine j_iast C dX4_readSetting_58 kd_8 (Nat.le_of_ble_eq_true rfl) (fun S4 => ?_)
        refine j_aload_n C dX4_readSetting_59 0 rfl rfl ?_
        refine j_cvi C dX4_readSetting_60 lk_X4_84 mw_X4_readStop (m_X4_readStop adr ) ⟨rfl, rfl, Nat.le_of_ble_eq_true rfl, Nat.le_of_ble_eq_true rfl⟩ kd_1 (by decide) (Nat.le_of_ble_eq_true rfl) rfl rfl (st := []) (st0 := [.ref (adr 1)]) rfl (Nat.le_of_ble_eq_true rfl) (fun v6 S5 => ?_)
        exact j_zretv hR dX4_readSetting_63
      · refine j_iconst C dX4_readSetting_44 (v := 0) rfl ?_
        exact j_zret hR (by decide) dX4_readSetting_45
    · refine j_sub C [] rfl ?_
      exact b_X4_readSetting_15 C hR S
-- X6_mostGuard_4
abbrev rm_X6_mostGuard_4 : Room := { frames := 0, cells := 0, slots := 0, locals := 0 }
def f_X6_mostGuard_4 (x1 : Int32) (S : St) : Option (Int32 × St) :=
  ck x1 4 (some (10 * (S.1 5 x1.toNatClampNeg), S))
set_option maxHeartbeats 1000000 in
theorem m_X6_mostGuard_4 (adr : Nat → Nat) (x1 : Int32) : MtI yX6_mostGuard cX6_mostGuard 2 (some .int) rm_X6_mostGuard_4 adr [.ref (adr 4), .int x1] (f_X6_mostGuard_4 x1) := by
  refine MtI.of (by decide +kernel) (Nat.le_of_ble_eq_true rfl) (fun K r S C hR => ?_)
  refine j_start (lv' := [(0, .ref (adr 4)), (1, .int x1)]) rfl ?_
  unfold f_X6_mostGuard_4
  refine j_bipush C dX6_mostGuard_0 (v := 10) rfl ?_
  refine j_aload_n C dX6_mostGuard_2 0 rfl rfl ?_
  refine j_getr C dX6_mostGuard_3 fl_X6_9 kd_4 (by decide) (Nat.le_of_ble_eq_true rfl) rfl ?_
  refine j_iload_n C dX6_mostGuard_6 1 rfl rfl ?_
  refine j_iald C dX6_mostGuard_7 kd_5 (Nat.le_of_ble_eq_true rfl) ?_
  refine j_imul C dX6_mostGuard_8 ?_
  exact j_iret hR dX6_mostGuard_9
-- X4_readCell
abbrev rm_X4_readCell : Room := { frames := 4, cells := 0, slots := 0, locals := 83 }
def f_X4_readCell_23  (S : St) : Option (Int32 × St) :=
    some (0, S)
set_option maxHeartbeats 1000000 in
theorem b_X4_readCell_23 {K : Kt} {adr : Nat → Nat} {r : Int32 × St} (C : Cx K cX4_readCell RX4 2 adr rm_X4_readCell) (hR : ∀ (pc : Nat) (lv : List (Nat × Value)), (r.1 = 0 ∨ r.1 = 1) → decode cX4_readCell pc = .ok (.ireturn, 1) → K pc lv [.int r.1] r.2)  (S : St) : J K r (f_X4_readCell_23  S) 23 [] [] S := by
    unfold f_X4_readCell_23
    refine j_iconst C dX4_readCell_23 (v := 0) rfl ?_
    exact j_zret hR (by decide) dX4_readCell_24
def f_X4_readCell  (S : St) : Option (Int32 × St) :=
  lt (S.1 4 0) fun v1 =>
  if 4 ≤ v1 then (f_X4_readCell_23 S)
  else (bd (f_X4_readNumber 1 6 S) fun v3 S2 =>
    if v3 = 0 then (f_X4_readCell_23 S2)
    else (ck v1 4 (lt (upI S2 5 v1.toNatClampNeg (S2.1 1 7)) fun S4 =>
      bd (f_X6_mostGuard_4 v1 S4) fun v6 S5 =>
      bd (f_X4_readNumber 0 v6 S5) fun v8 S7 =>
      if v8 = 0 then (some (0, S7))
      else (ck v1 4 (lt (upI S7 6 v1.toNatClampNeg (S7.1 1 7)) fun S9 =>
        bd (f_X4_readNumber 0 4 S9) fun v11 S10 =>
        if v11 = 0 then (some (0, S10))
        else (ck v1 4 (lt (upI S10 7 v1.toNatClampNeg (S10.1 1 7)) fun S12 =>
          lt (upI S12 4 0 (v1 + 1)) fun S13 =>
          bd (f_X4_readStop S13) fun v15 S14 =>
          bz v15 (some (v15, S14)))))))))
set_option maxHeartbeats 1000000 in
theorem m_X4_readCell (adr : Nat → Nat)  : MtI yX4_readCell cX4_readCell 2 (some .boolean) rm_X4_readCell adr [.ref (adr 1)] (f_X4_readCell ) := by
  refine MtI.ofZ (by decide +kernel) (Nat.le_of_ble_eq_true rfl) (fun K r S C hR => ?_)
  refine j_start (lv' := [(0, .ref (adr 1))]) rfl ?_
  unfold f_X4_readCell
  refine j_aload_n C dX4_readCell_0 0 rfl rfl ?_
  refine j_getr C dX4_readCell_1 fl_X4_18 kd_1 (by decide) (Nat.le_of_ble_eq_true rfl) rfl ?_
  refine j_geti C dX4_readCell_4 fl_X4_65 kd_4 (by decide) (Nat.le_of_ble_eq_true rfl) rfl ?_
  refine j_topi (fun v1 => ?_)
  refine j_istore_n C dX4_readCell_7 rfl (by decide) rfl ?_
  refine j_iload_n C dX4_readCell_8 0 rfl rfl ?_
  refine j_iconst C dX4_readCell_9 (v := 4) rfl ?_
  refine j_icmp_ge C dX4_readCell_10 (tgt := 23) (by decide) ?_ ?_
  · refine j_sub C [] rfl ?_
    exact b_X4_readCell_23 C hR S
  · refine j_aload_n C dX4_readCell_13 1 rfl rfl ?_
    refine j_iconst C dX4_readCell_14 (v := 1) rfl ?_
    refine j_bipush C dX4_readCell_15 (v := 6) rfl ?_
    refine j_cvi C dX4_readCell_17 lk_X4_68 mw_X4_readNumber (m_X4_readNumber adr 1 6) ⟨rfl, rfl, Nat.le_of_ble_eq_true rfl, Nat.le_of_ble_eq_true rfl⟩ kd_1 (by decide) (Nat.le_of_ble_eq_true rfl) rfl rfl (st := []) (st0 := [.int 6, .int 1, .ref (adr 1)]) rfl (Nat.le_of_ble_eq_true rfl) (fun v3 S2 => ?_)
    refine j_if_ne C dX4_readCell_20 (tgt := 25) (by decide) ?_ ?_
    · refine j_aload_n C dX4_readCell_25 1 rfl rfl ?_
      refine j_getr C dX4_readCell_26 fl_X4_18 kd_1 (by decide) (Nat.le_of_ble_eq_true rfl) rfl ?_
      refine j_getr C dX4_readCell_29 fl_X4_72 kd_4 (by decide) (Nat.le_of_ble_eq_true rfl) rfl ?_
      refine j_iload_n C dX4_readCell_32 0 rfl rfl ?_
      refine j_aload_n C dX4_readCell_33 1 rfl rfl ?_
      refine j_geti C dX4_readCell_34 fl_X4_47 kd_1 (by decide) (Nat.le_of_ble_eq_true rfl) rfl ?_
      refine j_iast C dX4_readCell_37 kd_5 (Nat.le_of_ble_eq_true rfl) (fun S4 => ?_)
      refine j_aload_n C dX4_readCell_38 1 rfl rfl ?_
      refine j_iconst C dX4_readCell_39 (v := 0) rfl ?_
      refine j_aload_n C dX4_readCell_40 1 rfl rfl ?_
      refine j_getr C dX4_readCell_41 fl_X4_18 kd_1 (by decide) (Nat.le_of_ble_eq_true rfl) rfl ?_
      refine j_iload_n C dX4_readCell_44 0 rfl rfl ?_
      refine j_cvi C dX4_readCell_45 lk_X4_75 mw_X6_mostGuard (m_X6_mostGuard_4 adr v1) ⟨rfl, rfl, Nat.le_of_ble_eq_true rfl, Nat.le_of_ble_eq_true rfl⟩ kd_4 (by decide) (Nat.le_of_ble_eq_true rfl) rfl rfl (st := [.int 0, .ref (adr 1)]) (st0 := [.int v1, .ref (adr 4), .int 0, .ref (adr 1)]) rfl (Nat.le_of_ble_eq_true rfl) (fun v6 S5 => ?_)
      refine j_cvi C dX4_readCell_48 lk_X4_68 mw_X4_readNumber (m_X4_readNumber adr 0 v6) ⟨rfl, rfl, Nat.le_of_ble_eq_true rfl, Nat.le_of_ble_eq_true rfl⟩ kd_1 (by decide) (Nat.le_of_ble_eq_true rfl) rfl rfl (st := []) (st0 := [.int v6, .int 0, .ref (adr 1)]) rfl (Nat.le_of_ble_eq_true rfl) (fun v8 S7 => ?_)
      refine j_if_ne C dX4_readCell_51 (tgt := 56) (by decide) ?_ ?_
      · refine j_aload_n C dX4_readCell_56 1 rfl rfl ?_
        refine j_getr C dX4_readCell_57 fl_X4_18 kd_1 (by decide) (Nat.le_of_ble_eq_true rfl) rfl ?_
        refine j_getr C dX4_readCell_60 fl_X4_78 kd_4 (by decide) (Nat.le_of_ble_eq_true rfl) rfl ?_
        refine j_iload_n C dX4_readCell_63 0 rfl rfl ?_
        refine j_aload_n C dX4_readCell_64 1 rfl rfl ?_
        refine j_geti C dX4_readCell_65 fl_X4_47 kd_1 (by decide) (Nat.le_of_ble_eq_true rfl) rfl ?_
        refine j_iast C dX4_readCell_68 kd_6 (Nat.le_of_ble_eq_true rfl) (fun S9 => ?_)
        refine j_aload_n C dX4_readCell_69 1 rfl rfl ?_
        refine j_iconst C dX4_readCell_70 (v := 0) rfl ?_
        refine j_iconst C dX4_readCell_71 (v := 4) rfl ?_
        refine j_cvi C dX4_readCell_72 lk_X4_68 mw_X4_readNumber (m_X4_readNumber adr 0 4) ⟨rfl, rfl, Nat.le_of_ble_eq_true rfl, Nat.le_of_ble_eq_true rfl⟩ kd_1 (by decide) (Nat.le_of_ble_eq_true rfl) rfl rfl (st := []) (st0 := [.int 4, .int 0, .ref (adr 1)]) rfl (Nat.le_of_ble_eq_true rfl) (fun v11 S10 => ?_)
        refine j_if_ne C dX4_readCell_75 (tgt := 80) (by decide) ?_ ?_
        · refine j_aload_n C dX4_readCell_80 1 rfl rfl ?_
          refine j_getr C dX4_readCell_81 fl_X4_18 kd_1 (by decide) (Nat.le_of_ble_eq_true rfl) rfl ?_
          refine j_getr C dX4_readCell_84 fl_X4_81 kd_4 (by decide) (Nat.le_of_ble_eq_true rfl) rfl ?_
          refine j_iload_n C dX4_readCell_87 0 rfl rfl ?_
          refine j_aload_n C dX4_readCell_88 1 rfl rfl ?_
          refine j_geti C dX4_readCell_89 fl_X4_47 kd_1 (by decide) (Nat.le_of_ble_eq_true rfl) rfl ?_
          refine j_iast C dX4_readCell_92 kd_7 (Nat.le_of_ble_eq_true rfl) (fun S12 => ?_)
          refine j_aload_n C dX4_readCell_93 1 rfl rfl ?_
          refine j_getr C dX4_readCell_94 fl_X4_18 kd_1 (by decide) (Nat.le_of_ble_eq_true rfl) rfl ?_
          refine j_iload_n C dX4_readCell_97 0 rfl rfl ?_
          refine j_iconst C dX4_readCell_98 (v := 1) rfl ?_
          refine j_iadd C dX4_readCell_99 ?_
          refine j_puti C dX4_readCell_100 fl_X4_65 fi_X6_0 kd_4 (by decide) (Nat.le_of_ble_eq_true rfl) rfl (fun S13 => ?_)
          refine j_aload_n C dX4_readCell_103 1 rfl rfl ?_
          refine j_cvi C dX4_readCell_104 lk_X4_84 mw_X4_readStop (m_X4_readStop adr ) ⟨rfl, rfl, Nat.le_of_ble_eq_true rfl, Nat.le_of_ble_eq_true rfl⟩ kd_1 (by decide) (Nat.le_of_ble_eq_true rfl) rfl rfl (st := []) (st0 := [.ref (adr 1)]) rfl (Nat.le_of_ble_eq_true rfl) (fun v15 S14 => ?_)
          exact j_zretv hR dX4_readCell_107
        · refine j_iconst C dX4_readCell_78 (v := 0) rfl ?_
          exact j_zret hR (by decide) dX4_readCell_79
      · refine j_iconst C dX4_readCell_54 (v := 0) rfl ?_
        exact j_zret hR (by decide) dX4_readCell_55
    · refine j_sub C [] rfl ?_
      exact b_X4_readCell_23 C hR S2
-- X4_read
abbrev rm_X4_read : Room := { frames := 5, cells := 0, slots := 0, locals := 104 }
def f_X4_read_108 (x1 : Int32) (S : St) : Option (Int32 × St) :=
    some (x1, S)
set_option maxHeartbeats 1000000 in
theorem b_X4_read_108 {K : Kt} {adr : Nat → Nat} {r : Int32 × St} (C : Cx K cX4_read RX4 3 adr rm_X4_read) (hR : ∀ (pc : Nat) (lv : List (Nat × Value)), decode cX4_read pc = .ok (.ireturn, 1) → K pc lv [.int r.1] r.2) (x1 : Int32) (S : St) : J K r (f_X4_read_108 x1 S) 108 [(1, .int x1)] [] S := by
    unfold f_X4_read_108
    refine j_iload_n C dX4_read_108 0 rfl rfl ?_
    exact j_iret hR dX4_read_109
def f_X4_read_85 (k26 : Int32 → St → Option (Int32 × St)) (x1 : Int32) (s0 : Int32) (S : St) : Option (Int32 × St) :=
    if s0 = 0 then (some ((-10) - (S.1 1 5), S))
    else (bdV (f_X4_nextToken S) fun S11 =>
      k26 (x1 + 1) S11)
set_option maxHeartbeats 1000000 in
theorem b_X4_read_85 {K : Kt} {adr : Nat → Nat} {r : Int32 × St} (C : Cx K cX4_read RX4 3 adr rm_X4_read) (hR : ∀ (pc : Nat) (lv : List (Nat × Value)), decode cX4_read pc = .ok (.ireturn, 1) → K pc lv [.int r.1] r.2) (k26 : Int32 → St → Option (Int32 × St)) (h26 : ∀ (x1 : Int32) (S : St), J K r (k26 x1 S) 26 [(0, .ref (adr 1)), (1, .int x1)] [] S) (x1 : Int32) (s0 : Int32) (S : St) : J K r (f_X4_read_85 k26 x1 s0 S) 85 [(0, .ref (adr 1)), (1, .int x1)] [.int s0] S := by
    unfold f_X4_read_85
    refine j_istore_n C dX4_read_85 rfl (by decide) rfl ?_
    refine j_iload_n C dX4_read_86 0 rfl rfl ?_
    refine j_if_ne C dX4_read_87 (tgt := 98) (by decide) ?_ ?_
    · refine j_iinc C dX4_read_98 (v := x1 + 1) 2 rfl rfl (by decide) rfl ?_
      refine j_aload_n C dX4_read_101 2 rfl rfl ?_
      refine j_cvv C dX4_read_102 lk_X4_41 mw_X4_nextToken (m_X4_nextToken adr ) ⟨rfl, rfl, Nat.le_of_ble_eq_true rfl, Nat.le_of_ble_eq_true rfl⟩ kd_1 (by decide) (Nat.le_of_ble_eq_true rfl) rfl rfl (st := []) (st0 := [.ref (adr 1)]) rfl (Nat.le_of_ble_eq_true rfl) (fun S11 => ?_)
      refine j_goto C dX4_read_105 (tgt := 26) (by decide) ?_
      refine j_sub C [2, 0] rfl ?_
      exact h26 (x1 + 1) S11
    · refine j_bipush C dX4_read_90 (v := -10) rfl ?_
      refine j_aload_n C dX4_read_92 1 rfl rfl ?_
      refine j_geti C dX4_read_93 fl_X4_62 kd_1 (by decide) (Nat.le_of_ble_eq_true rfl) rfl ?_
      refine j_isub C dX4_read_96 ?_
      exact j_iret hR dX4_read_97
def f_X4_read_84 (k26 : Int32 → St → Option (Int32 × St)) (x1 : Int32) (S : St) : Option (Int32 × St) :=
    f_X4_read_85 k26 x1 0 S
set_option maxHeartbeats 1000000 in
theorem b_X4_read_84 {K : Kt} {adr : Nat → Nat} {r : Int32 × St} (C : Cx K cX4_read RX4 3 adr rm_X4_read) (hR : ∀ (pc : Nat) (lv : List (Nat × Value)), decode cX4_read pc = .ok (.ireturn, 1) → K pc lv [.int r.1] r.2) (k26 : Int32 → St → Option (Int32 × St)) (h26 : ∀ (x1 : Int32) (S : St), J K r (k26 x1 S) 26 [(0, .ref (adr 1)), (1, .int x1)] [] S) (x1 : Int32) (S : St) : J K r (f_X4_read_84 k26 x1 S) 84 [(0, .ref (adr 1)), (1, .int x1)] [] S := by
    unfold f_X4_read_84
    refine j_iconst C dX4_read_84 (v := 0) rfl ?_
    exact b_X4_read_85 C hR k26 h26 x1 0 S
def f_X4_read_80 (k26 : Int32 → St → Option (Int32 × St)) (x1 : Int32) (S : St) : Option (Int32 × St) :=
    f_X4_read_85 k26 x1 1 S
set_option maxHeartbeats 1000000 in
theorem b_X4_read_80 {K : Kt} {adr : Nat → Nat} {r : Int32 × St} (C : Cx K cX4_read RX4 3 adr rm_X4_read) (hR : ∀ (pc : Nat) (lv : List (Nat × Value)), decode cX4_read pc = .ok (.ireturn, 1) → K pc lv [.int r.1] r.2) (k26 : Int32 → St → Option (Int32 × St)) (h26 : ∀ (x1 : Int32) (S : St), J K r (k26 x1 S) 26 [(0, .ref (adr 1)), (1, .int x1)] [] S) (x1 : Int32) (S : St) : J K r (f_X4_read_80 k26 x1 S) 80 [(0, .ref (adr 1)), (1, .int x1)] [] S := by
    unfold f_X4_read_80
    refine j_iconst C dX4_read_80 (v := 1) rfl ?_
    refine j_goto C dX4_read_81 (tgt := 85) (by decide) ?_
    exact b_X4_read_85 C hR k26 h26 x1 1 S
def f_X4_read_26 : Nat → Int32 → St → Option (Int32 × St)
  | 0, _, _ => none
  | n + 1, x1, S =>
    if (S.1 1 6) = 0 then (f_X4_read_108 x1 S)
    else (if 120 ≤ x1 then (f_X4_read_108 x1 S)
      else (if (S.1 1 6) = 1 then (if (S.1 1 7) = 99 then (bd (f_X4_readCell S) fun v10 S9 =>
            if v10 = 0 then (f_X4_read_84 (f_X4_read_26 n) x1 S9)
            else (f_X4_read_80 (f_X4_read_26 n) x1 S9))
          else (bd (f_X4_settingOf (S.1 1 7) S) fun v6 S5 =>
            bd (f_X4_readSetting v6 S5) fun v8 S7 =>
            if v8 = 0 then (f_X4_read_84 (f_X4_read_26 n) x1 S7)
            else (f_X4_read_80 (f_X4_read_26 n) x1 S7)))
        else (f_X4_read_84 (f_X4_read_26 n) x1 S)))
set_option maxHeartbeats 1000000 in
theorem b_X4_read_26 {K : Kt} {adr : Nat → Nat} {r : Int32 × St} (C : Cx K cX4_read RX4 3 adr rm_X4_read) (hR : ∀ (pc : Nat) (lv : List (Nat × Value)), decode cX4_read pc = .ok (.ireturn, 1) → K pc lv [.int r.1] r.2) : ∀ (n : Nat) (x1 : Int32) (S : St), J K r (f_X4_read_26 n x1 S) 26 [(0, .ref (adr 1)), (1, .int x1)] [] S := by
  intro n
  induction n with
  | zero => intro x1 S h; cases h
  | succ n ih =>
    intro x1 S
    unfold f_X4_read_26
    refine j_aload_n C dX4_read_26 0 rfl rfl ?_
    refine j_geti C dX4_read_27 fl_X4_44 kd_1 (by decide) (Nat.le_of_ble_eq_true rfl) rfl ?_
    refine j_if_eq C dX4_read_30 (tgt := 108) (by decide) ?_ ?_
    · refine j_sub C [1] rfl ?_
      exact b_X4_read_108 C hR x1 S
    · refine j_iload_n C dX4_read_33 1 rfl rfl ?_
      refine j_bipush C dX4_read_34 (v := 120) rfl ?_
      refine j_icmp_ge C dX4_read_36 (tgt := 108) (by decide) ?_ ?_
      · refine j_sub C [1] rfl ?_
        exact b_X4_read_108 C hR x1 S
      · refine j_aload_n C dX4_read_39 0 rfl rfl ?_
        refine j_geti C dX4_read_40 fl_X4_44 kd_1 (by decide) (Nat.le_of_ble_eq_true rfl) rfl ?_
        refine j_iconst C dX4_read_43 (v := 1) rfl ?_
        refine j_icmp_ne C dX4_read_44 (tgt := 84) (by decide) ?_ ?_
        · exact b_X4_read_84 C hR (f_X4_read_26 n) ih x1 S
        · refine j_aload_n C dX4_read_47 0 rfl rfl ?_
          refine j_geti C dX4_read_48 fl_X4_47 kd_1 (by decide) (Nat.le_of_ble_eq_true rfl) rfl ?_
          refine j_bipush C dX4_read_51 (v := 99) rfl ?_
          refine j_icmp_ne C dX4_read_53 (tgt := 66) (by decide) ?_ ?_
          · refine j_aload_n C dX4_read_66 0 rfl rfl ?_
            refine j_aload_n C dX4_read_67 0 rfl rfl ?_
            refine j_geti C dX4_read_68 fl_X4_47 kd_1 (by decide) (Nat.le_of_ble_eq_true rfl) rfl ?_
            refine j_csi C dX4_read_71 lk_X4_54 mw_X4_settingOf (m_X4_settingOf adr (S.1 1 7)) ⟨rfl, rfl, Nat.le_of_ble_eq_true rfl, Nat.le_of_ble_eq_true rfl⟩ rfl (st := [.ref (adr 1)]) (st0 := [.int (S.1 1 7), .ref (adr 1)]) rfl (Nat.le_of_ble_eq_true rfl) (fun v6 S5 => ?_)
            refine j_cvi C dX4_read_74 lk_X4_58 mw_X4_readSetting (m_X4_readSetting adr v6) ⟨rfl, rfl, Nat.le_of_ble_eq_true rfl, Nat.le_of_ble_eq_true rfl⟩ kd_1 (by decide) (Nat.le_of_ble_eq_true rfl) rfl rfl (st := []) (st0 := [.int v6, .ref (adr 1)]) rfl (Nat.le_of_ble_eq_true rfl) (fun v8 S7 => ?_)
            refine j_if_eq C dX4_read_77 (tgt := 84) (by decide) ?_ ?_
            · exact b_X4_read_84 C hR (f_X4_read_26 n) ih x1 S7
            · exact b_X4_read_80 C hR (f_X4_read_26 n) ih x1 S7
          · refine j_aload_n C dX4_read_56 0 rfl rfl ?_
            refine j_cvi C dX4_read_57 lk_X4_50 mw_X4_readCell (m_X4_readCell adr ) ⟨rfl, rfl, Nat.le_of_ble_eq_true rfl, Nat.le_of_ble_eq_true rfl⟩ kd_1 (by decide) (Nat.le_of_ble_eq_true rfl) rfl rfl (st := []) (st0 := [.ref (adr 1)]) rfl (Nat.le_of_ble_eq_true rfl) (fun v10 S9 => ?_)
            refine j_if_eq C dX4_read_60 (tgt := 84) (by decide) ?_ ?_
            · exact b_X4_read_84 C hR (f_X4_read_26 n) ih x1 S9
            · refine j_goto C dX4_read_63 (tgt := 80) (by decide) ?_
              exact b_X4_read_80 C hR (f_X4_read_26 n) ih x1 S9
def f_X4_read  (S : St) : Option (Int32 × St) :=
  bdV (f_X6_begin_4 S) fun S1 =>
  bdV (f_J7_fill_53178 3 5 0 S1) fun S2 =>
  lt (upI S2 1 4 0) fun S3 =>
  bdV (f_X4_nextToken S3) fun S4 =>
  f_X4_read_26 FU 0 S4
set_option maxHeartbeats 1000000 in
theorem m_X4_read (adr : Nat → Nat)  : MtI yX4_read cX4_read 3 (some .int) rm_X4_read adr [.ref (adr 1)] (f_X4_read ) := by
  refine MtI.of (by decide +kernel) (Nat.le_of_ble_eq_true rfl) (fun K r S C hR => ?_)
  refine j_start (lv' := [(0, .ref (adr 1))]) rfl ?_
  unfold f_X4_read
  refine j_aload_n C dX4_read_0 0 rfl rfl ?_
  refine j_getr C dX4_read_1 fl_X4_18 kd_1 (by decide) (Nat.le_of_ble_eq_true rfl) rfl ?_
  refine j_cvv C dX4_read_4 lk_X4_29 mw_X6_begin (m_X6_begin_4 adr ) ⟨rfl, rfl, Nat.le_of_ble_eq_true rfl, Nat.le_of_ble_eq_true rfl⟩ kd_4 (by decide) (Nat.le_of_ble_eq_true rfl) rfl rfl (st := []) (st0 := [.ref (adr 4)]) rfl (Nat.le_of_ble_eq_true rfl) (fun S1 => ?_)
  refine j_aload_n C dX4_read_7 0 rfl rfl ?_
  refine j_getr C dX4_read_8 fl_X4_22 kd_1 (by decide) (Nat.le_of_ble_eq_true rfl) rfl ?_
  refine j_iconst C dX4_read_11 (v := 0) rfl ?_
  refine j_csv C dX4_read_12 lk_X4_32 mw_J7_fill_53178 (m_J7_fill_53178 adr 3 5 kd_3 (Nat.le_of_ble_eq_true rfl) 0) ⟨rfl, rfl, Nat.le_of_ble_eq_true rfl, Nat.le_of_ble_eq_true rfl⟩ rfl (st := []) (st0 := [.int 0, .ref (adr 3)]) rfl (Nat.le_of_ble_eq_true rfl) (fun S2 => ?_)
  refine j_aload_n C dX4_read_15 0 rfl rfl ?_
  refine j_iconst C dX4_read_16 (v := 0) rfl ?_
  refine j_puti C dX4_read_17 fl_X4_38 fi_X4_4 kd_1 (by decide) (Nat.le_of_ble_eq_true rfl) rfl (fun S3 => ?_)
  refine j_iconst C dX4_read_20 (v := 0) rfl ?_
  refine j_istore_n C dX4_read_21 rfl (by decide) rfl ?_
  refine j_aload_n C dX4_read_22 1 rfl rfl ?_
  refine j_cvv C dX4_read_23 lk_X4_41 mw_X4_nextToken (m_X4_nextToken adr ) ⟨rfl, rfl, Nat.le_of_ble_eq_true rfl, Nat.le_of_ble_eq_true rfl⟩ kd_1 (by decide) (Nat.le_of_ble_eq_true rfl) rfl rfl (st := []) (st0 := [.ref (adr 1)]) rfl (Nat.le_of_ble_eq_true rfl) (fun S4 => ?_)
  refine j_sub C [1, 0] rfl ?_
  exact b_X4_read_26 C hR FU 0 S4
-- X6_copyFrom_9
abbrev rm_X6_copyFrom_9 : Room := { frames := 1, cells := 0, slots := 0, locals := 18 }
def f_X6_copyFrom_9  (S : St) : Option (St) :=
  lt (upI S 9 0 (S.1 4 0)) fun S1 =>
  lt (rwI S1 10 (va_cpy (S1.1 5) (S1.1 10) 0 0 (4 : Int32).toNatClampNeg)) fun S2 =>
  lt (rwI S2 11 (va_cpy (S2.1 6) (S2.1 11) 0 0 (4 : Int32).toNatClampNeg)) fun S3 =>
  lt (rwI S3 12 (va_cpy (S3.1 7) (S3.1 12) 0 0 (4 : Int32).toNatClampNeg)) fun S4 =>
  lt (rwI S4 13 (va_cpy (S4.1 8) (S4.1 13) 0 0 (5 : Int32).toNatClampNeg)) fun S5 =>
  some S5
set_option maxHeartbeats 1000000 in
theorem m_X6_copyFrom_9 (adr : Nat → Nat)  : MtV yX6_copyFrom cX6_copyFrom 2 none rm_X6_copyFrom_9 adr [.ref (adr 9), .ref (adr 4)] (f_X6_copyFrom_9 ) := by
  refine MtV.of (by decide +kernel) (Nat.le_of_ble_eq_true rfl) (fun K r S C hR => ?_)
  refine j_start (lv' := [(0, .ref (adr 9)), (1, .ref (adr 4))]) rfl ?_
  unfold f_X6_copyFrom_9
  refine j_aload_n C dX6_copyFrom_0 0 rfl rfl ?_
  refine j_aload_n C dX6_copyFrom_1 1 rfl rfl ?_
  refine j_geti C dX6_copyFrom_2 fl_X6_27 kd_4 (by decide) (Nat.le_of_ble_eq_true rfl) rfl ?_
  refine j_puti C dX6_copyFrom_5 fl_X6_27 fi_X6_0 kd_9 (by decide) (Nat.le_of_ble_eq_true rfl) rfl (fun S1 => ?_)
  refine j_aload_n C dX6_copyFrom_8 1 rfl rfl ?_
  refine j_getr C dX6_copyFrom_9 fl_X6_9 kd_4 (by decide) (Nat.le_of_ble_eq_true rfl) rfl ?_
  refine j_iconst C dX6_copyFrom_12 (v := 0) rfl ?_
  refine j_aload_n C dX6_copyFrom_13 0 rfl rfl ?_
  refine j_getr C dX6_copyFrom_14 fl_X6_9 kd_9 (by decide) (Nat.le_of_ble_eq_true rfl) rfl ?_
  refine j_iconst C dX6_copyFrom_17 (v := 0) rfl ?_
  refine j_iconst C dX6_copyFrom_18 (v := 4) rfl ?_
  refine j_copy C dX6_copyFrom_19 kd_5 (Nat.le_of_ble_eq_true rfl) kd_10 (Nat.le_of_ble_eq_true rfl) (by decide) (by decide) (by decide) lm_X6_34 ms_cp_0 ms_cp_1 ms_cp_2 ⟨Nat.le_of_ble_eq_true rfl, Nat.le_of_ble_eq_true rfl⟩ (fun S2 => ?_)
  refine j_aload_n C dX6_copyFrom_22 1 rfl rfl ?_
  refine j_getr C dX6_copyFrom_23 fl_X6_15 kd_4 (by decide) (Nat.le_of_ble_eq_true rfl) rfl ?_
  refine j_iconst C dX6_copyFrom_26 (v := 0) rfl ?_
  refine j_aload_n C dX6_copyFrom_27 0 rfl rfl ?_
  refine j_getr C dX6_copyFrom_28 fl_X6_15 kd_9 (by decide) (Nat.le_of_ble_eq_true rfl) rfl ?_
  refine j_iconst C dX6_copyFrom_31 (v := 0) rfl ?_
  refine j_iconst C dX6_copyFrom_32 (v := 4) rfl ?_
  refine j_copy C dX6_copyFrom_33 kd_6 (Nat.le_of_ble_eq_true rfl) kd_11 (Nat.le_of_ble_eq_true rfl) (by decide) (by decide) (by decide) lm_X6_34 ms_cp_0 ms_cp_1 ms_cp_2 ⟨Nat.le_of_ble_eq_true rfl, Nat.le_of_ble_eq_true rfl⟩ (fun S3 => ?_)
  refine j_aload_n C dX6_copyFrom_36 1 rfl rfl ?_
  refine j_getr C dX6_copyFrom_37 fl_X6_18 kd_4 (by decide) (Nat.le_of_ble_eq_true rfl) rfl ?_
  refine j_iconst C dX6_copyFrom_40 (v := 0) rfl ?_
  refine j_aload_n C dX6_copyFrom_41 0 rfl rfl ?_
  refine j_getr C dX6_copyFrom_42 fl_X6_18 kd_9 (by decide) (Nat.le_of_ble_eq_true rfl) rfl ?_
  refine j_iconst C dX6_copyFrom_45 (v := 0) rfl ?_
  refine j_iconst C dX6_copyFrom_46 (v := 4) rfl ?_
  refine j_copy C dX6_copyFrom_47 kd_7 (Nat.le_of_ble_eq_true rfl) kd_12 (Nat.le_of_ble_eq_true rfl) (by decide) (by decide) (by decide) lm_X6_34 ms_cp_0 ms_cp_1 ms_cp_2 ⟨Nat.le_of_ble_eq_true rfl, Nat.le_of_ble_eq_true rfl⟩ (fun S4 => ?_)
  refine j_aload_n C dX6_copyFrom_50 1 rfl rfl ?_
  refine j_getr C dX6_copyFrom_51 fl_X6_21 kd_4 (by decide) (Nat.le_of_ble_eq_true rfl) rfl ?_
  refine j_iconst C dX6_copyFrom_54 (v := 0) rfl ?_
  refine j_aload_n C dX6_copyFrom_55 0 rfl rfl ?_
  refine j_getr C dX6_copyFrom_56 fl_X6_21 kd_9 (by decide) (Nat.le_of_ble_eq_true rfl) rfl ?_
  refine j_iconst C dX6_copyFrom_59 (v := 0) rfl ?_
  refine j_iconst C dX6_copyFrom_60 (v := 5) rfl ?_
  refine j_copy C dX6_copyFrom_61 kd_8 (Nat.le_of_ble_eq_true rfl) kd_13 (Nat.le_of_ble_eq_true rfl) (by decide) (by decide) (by decide) lm_X6_34 ms_cp_0 ms_cp_1 ms_cp_2 ⟨Nat.le_of_ble_eq_true rfl, Nat.le_of_ble_eq_true rfl⟩ (fun S5 => ?_)
  exact j_vret hR dX6_copyFrom_64
-- X7_clearCalls
abbrev rm_X7_clearCalls : Room := { frames := 1, cells := 0, slots := 0, locals := 23 }
def f_X7_clearCalls  (S : St) : Option (St) :=
  bdV (f_J7_fill_53178 45 12 (-9) S) fun S1 =>
  bdV (f_J7_fill_53178 46 12 (-9) S1) fun S2 =>
  some S2
set_option maxHeartbeats 1000000 in
theorem m_X7_clearCalls (adr : Nat → Nat)  : MtV yX7_clearCalls cX7_clearCalls 1 none rm_X7_clearCalls adr [.ref (adr 42)] (f_X7_clearCalls ) := by
  refine MtV.of (by decide +kernel) (Nat.le_of_ble_eq_true rfl) (fun K r S C hR => ?_)
  refine j_start (lv' := [(0, .ref (adr 42))]) rfl ?_
  unfold f_X7_clearCalls
  refine j_aload_n C dX7_clearCalls_0 0 rfl rfl ?_
  refine j_getr C dX7_clearCalls_1 fl_X7_18 kd_42 (by decide) (Nat.le_of_ble_eq_true rfl) rfl ?_
  refine j_bipush C dX7_clearCalls_4 (v := -9) rfl ?_
  refine j_csv C dX7_clearCalls_6 lk_X7_82 mw_J7_fill_53178 (m_J7_fill_53178 adr 45 12 kd_45 (Nat.le_of_ble_eq_true rfl) (-9)) ⟨rfl, rfl, Nat.le_of_ble_eq_true rfl, Nat.le_of_ble_eq_true rfl⟩ rfl (st := []) (st0 := [.int (-9), .ref (adr 45)]) rfl (Nat.le_of_ble_eq_true rfl) (fun S1 => ?_)
  refine j_aload_n C dX7_clearCalls_9 0 rfl rfl ?_
  refine j_getr C dX7_clearCalls_10 fl_X7_21 kd_42 (by decide) (Nat.le_of_ble_eq_true rfl) rfl ?_
  refine j_bipush C dX7_clearCalls_13 (v := -9) rfl ?_
  refine j_csv C dX7_clearCalls_15 lk_X7_82 mw_J7_fill_53178 (m_J7_fill_53178 adr 46 12 kd_46 (Nat.le_of_ble_eq_true rfl) (-9)) ⟨rfl, rfl, Nat.le_of_ble_eq_true rfl, Nat.le_of_ble_eq_true rfl⟩ rfl (st := []) (st0 := [.int (-9), .ref (adr 46)]) rfl (Nat.le_of_ble_eq_true rfl) (fun S2 => ?_)
  exact j_vret hR dX7_clearCalls_18
-- X7_begin
abbrev rm_X7_begin : Room := { frames := 2, cells := 0, slots := 0, locals := 43 }
def f_X7_begin  (S : St) : Option (St) :=
  lt (upI S 42 0 0) fun S1 =>
  lt (upI S1 42 1 0) fun S2 =>
  lt (upI S2 42 15 0) fun S3 =>
  lt (rwI S3 43 (va_cpy (S3.1 11) (S3.1 43) 0 0 (4 : Int32).toNatClampNeg)) fun S4 =>
  bdV (f_J7_fill_53178 44 24 0 S4) fun S5 =>
  bdV (f_X7_clearCalls S5) fun S6 =>
  some S6
set_option maxHeartbeats 1000000 in
theorem m_X7_begin (adr : Nat → Nat)  : MtV yX7_begin cX7_begin 2 none rm_X7_begin adr [.ref (adr 42), .ref (adr 9)] (f_X7_begin ) := by
  refine MtV.of (by decide +kernel) (Nat.le_of_ble_eq_true rfl) (fun K r S C hR => ?_)
  refine j_start (lv' := [(0, .ref (adr 42)), (1, .ref (adr 9))]) rfl ?_
  unfold f_X7_begin
  refine j_aload_n C dX7_begin_0 0 rfl rfl ?_
  refine j_iconst C dX7_begin_1 (v := 0) rfl ?_
  refine j_puti C dX7_begin_2 fl_X7_63 fi_X7_0 kd_42 (by decide) (Nat.le_of_ble_eq_true rfl) rfl (fun S1 => ?_)
  refine j_aload_n C dX7_begin_5 0 rfl rfl ?_
  refine j_iconst C dX7_begin_6 (v := 0) rfl ?_
  refine j_puti C dX7_begin_7 fl_X7_67 fi_X7_1 kd_42 (by decide) (Nat.le_of_ble_eq_true rfl) rfl (fun S2 => ?_)
  refine j_aload_n C dX7_begin_10 0 rfl rfl ?_
  refine j_iconst C dX7_begin_11 (v := 0) rfl ?_
  refine j_puti C dX7_begin_12 fl_X7_70 fi_X7_15 kd_42 (by decide) (Nat.le_of_ble_eq_true rfl) rfl (fun S3 => ?_)
  refine j_aload_n C dX7_begin_15 1 rfl rfl ?_
  refine j_getr C dX7_begin_16 fl_X7_73 kd_9 (by decide) (Nat.le_of_ble_eq_true rfl) rfl ?_
  refine j_iconst C dX7_begin_19 (v := 0) rfl ?_
  refine j_aload_n C dX7_begin_20 0 rfl rfl ?_
  refine j_getr C dX7_begin_21 fl_X7_9 kd_42 (by decide) (Nat.le_of_ble_eq_true rfl) rfl ?_
  refine j_iconst C dX7_begin_24 (v := 0) rfl ?_
  refine j_iconst C dX7_begin_25 (v := 4) rfl ?_
  refine j_copy C dX7_begin_26 kd_11 (Nat.le_of_ble_eq_true rfl) kd_43 (Nat.le_of_ble_eq_true rfl) (by decide) (by decide) (by decide) lm_X7_76 ms_cp_0 ms_cp_1 ms_cp_2 ⟨Nat.le_of_ble_eq_true rfl, Nat.le_of_ble_eq_true rfl⟩ (fun S4 => ?_)
  refine j_aload_n C dX7_begin_29 0 rfl rfl ?_
  refine j_getr C dX7_begin_30 fl_X7_15 kd_42 (by decide) (Nat.le_of_ble_eq_true rfl) rfl ?_
  refine j_iconst C dX7_begin_33 (v := 0) rfl ?_
  refine j_csv C dX7_begin_34 lk_X7_82 mw_J7_fill_53178 (m_J7_fill_53178 adr 44 24 kd_44 (Nat.le_of_ble_eq_true rfl) 0) ⟨rfl, rfl, Nat.le_of_ble_eq_true rfl, Nat.le_of_ble_eq_true rfl⟩ rfl (st := []) (st0 := [.int 0, .ref (adr 44)]) rfl (Nat.le_of_ble_eq_true rfl) (fun S5 => ?_)
  refine j_aload_n C dX7_begin_37 0 rfl rfl ?_
  refine j_cvv C dX7_begin_38 lk_X7_60 mw_X7_clearCalls (m_X7_clearCalls adr ) ⟨rfl, rfl, Nat.le_of_ble_eq_true rfl, Nat.le_of_ble_eq_true rfl⟩ kd_42 (by decide) (Nat.le_of_ble_eq_true rfl) rfl rfl (st := []) (st0 := [.ref (adr 42)]) rfl (Nat.le_of_ble_eq_true rfl) (fun S6 => ?_)
  exact j_vret hR dX7_begin_41
-- X1_forgetAll
abbrev rm_X1_forgetAll : Room := { frames := 0, cells := 0, slots := 0, locals := 0 }
def f_X1_forgetAll  (S : St) : Option (St) :=
  lt (upI S 17 2 0) fun S1 =>
  some S1
set_option maxHeartbeats 1000000 in
theorem m_X1_forgetAll (adr : Nat → Nat)  : MtV yX1_forgetAll cX1_forgetAll 1 none rm_X1_forgetAll adr [.ref (adr 17)] (f_X1_forgetAll ) := by
  refine MtV.of (by decide +kernel) (Nat.le_of_ble_eq_true rfl) (fun K r S C hR => ?_)
  refine j_start (lv' := [(0, .ref (adr 17))]) rfl ?_
  unfold f_X1_forgetAll
  refine j_aload_n C dX1_forgetAll_0 0 rfl rfl ?_
  refine j_iconst C dX1_forgetAll_1 (v := 0) rfl ?_
  refine j_puti C dX1_forgetAll_2 fl_X1_18 fi_X1_2 kd_17 (by decide) (Nat.le_of_ble_eq_true rfl) rfl (fun S1 => ?_)
  exact j_vret hR dX1_forgetAll_5
-- X2_forgetAll
abbrev rm_X2_forgetAll : Room := { frames := 0, cells := 0, slots := 0, locals := 0 }
def f_X2_forgetAll_2 : Nat → Int32 → St → Option (St)
  | 0, _, _ => none
  | n + 1, x1, S =>
    if 2 ≤ x1 then (some S)
    else (ck x1 2 (lt (upI S 21 x1.toNatClampNeg (vp_nar .boolean 0)) fun S1 =>
      (f_X2_forgetAll_2 n) (x1 + 1) S1))
set_option maxHeartbeats 1000000 in
theorem b_X2_forgetAll_2 {K : Kt} {adr : Nat → Nat} {r : St} (C : Cx K cX2_forgetAll RX2 2 adr rm_X2_forgetAll) (hR : ∀ (pc : Nat) (lv : List (Nat × Value)), decode cX2_forgetAll pc = .ok (.return_, 1) → K pc lv [] r) : ∀ (n : Nat) (x1 : Int32) (S : St), J K r (f_X2_forgetAll_2 n x1 S) 2 [(0, .ref (adr 19)), (1, .int x1)] [] S := by
  intro n
  induction n with
  | zero => intro x1 S h; cases h
  | succ n ih =>
    intro x1 S
    unfold f_X2_forgetAll_2
    refine j_iload_n C dX2_forgetAll_2 1 rfl rfl ?_
    refine j_iconst C dX2_forgetAll_3 (v := 2) rfl ?_
    refine j_icmp_ge C dX2_forgetAll_4 (tgt := 20) (by decide) ?_ ?_
    · exact j_vret hR dX2_forgetAll_20
    · refine j_aload_n C dX2_forgetAll_7 0 rfl rfl ?_
      refine j_getr C dX2_forgetAll_8 fl_X2_17 kd_19 (by decide) (Nat.le_of_ble_eq_true rfl) rfl ?_
      refine j_iload_n C dX2_forgetAll_11 1 rfl rfl ?_
      refine j_iconst C dX2_forgetAll_12 (v := 0) rfl ?_
      refine j_zast C dX2_forgetAll_13 kd_21 (Nat.le_of_ble_eq_true rfl) (fun S1 => ?_)
      refine j_iinc C dX2_forgetAll_14 (v := x1 + 1) 1 rfl rfl (by decide) rfl ?_
      refine j_goto C dX2_forgetAll_17 (tgt := 2) (by decide) ?_
      refine j_sub C [1, 0] rfl ?_
      exact ih (x1 + 1) S1
def f_X2_forgetAll  (S : St) : Option (St) :=
  f_X2_forgetAll_2 FU 0 S
set_option maxHeartbeats 1000000 in
theorem m_X2_forgetAll (adr : Nat → Nat)  : MtV yX2_forgetAll cX2_forgetAll 2 none rm_X2_forgetAll adr [.ref (adr 19)] (f_X2_forgetAll ) := by
  refine MtV.of (by decide +kernel) (Nat.le_of_ble_eq_true rfl) (fun K r S C hR => ?_)
  refine j_start (lv' := [(0, .ref (adr 19))]) rfl ?_
  unfold f_X2_forgetAll
  refine j_iconst C dX2_forgetAll_0 (v := 0) rfl ?_
  refine j_istore_n C dX2_forgetAll_1 rfl (by decide) rfl ?_
  refine j_sub C [1, 0] rfl ?_
  exact b_X2_forgetAll_2 C hR FU 0 S
-- X8_tells
abbrev rm_X8_tells : Room := { frames := 6, cells := 0, slots := 0, locals := 126 }
def f_X8_tells  (S : St) : Option (Int32 × St) :=
  bd (f_X4_read S) fun v2 S1 =>
  if 0 ≤ v2 then (lt (upI S1 1 1 0) fun S3 =>
    bdV (f_X6_copyFrom_9 S3) fun S4 =>
    bdV (f_X7_begin S4) fun S5 =>
    bdV (f_X1_forgetAll S5) fun S6 =>
    bdV (f_X2_forgetAll S6) fun S7 =>
    lt (upI S7 24 0 0) fun S8 =>
    some (v2, S8))
  else (some (v2, S1))
set_option maxHeartbeats 1000000 in
theorem m_X8_tells (adr : Nat → Nat)  : MtI yX8_tells cX8_tells 2 (some .int) rm_X8_tells adr [.ref (adr 0)] (f_X8_tells ) := by
  refine MtI.of (by decide +kernel) (Nat.le_of_ble_eq_true rfl) (fun K r S C hR => ?_)
  refine j_start (lv' := [(0, .ref (adr 0))]) rfl ?_
  unfold f_X8_tells
  refine j_aload_n C dX8_tells_0 0 rfl rfl ?_
  refine j_getr C dX8_tells_1 fl_X8_10 kd_0 (by decide) (Nat.le_of_ble_eq_true rfl) rfl ?_
  refine j_cvi C dX8_tells_4 lk_X8_79 mw_X4_read (m_X4_read adr ) ⟨rfl, rfl, Nat.le_of_ble_eq_true rfl, Nat.le_of_ble_eq_true rfl⟩ kd_1 (by decide) (Nat.le_of_ble_eq_true rfl) rfl rfl (st := []) (st0 := [.ref (adr 1)]) rfl (Nat.le_of_ble_eq_true rfl) (fun v2 S1 => ?_)
  refine j_istore_n C dX8_tells_7 rfl (by decide) rfl ?_
  refine j_iload_n C dX8_tells_8 0 rfl rfl ?_
  refine j_if_ge C dX8_tells_9 (tgt := 14) (by decide) ?_ ?_
  · refine j_aload_n C dX8_tells_14 1 rfl rfl ?_
    refine j_getr C dX8_tells_15 fl_X8_10 kd_0 (by decide) (Nat.le_of_ble_eq_true rfl) rfl ?_
    refine j_iconst C dX8_tells_18 (v := 0) rfl ?_
    refine j_puti C dX8_tells_19 fl_X8_75 fi_X4_1 kd_1 (by decide) (Nat.le_of_ble_eq_true rfl) rfl (fun S3 => ?_)
    refine j_aload_n C dX8_tells_22 1 rfl rfl ?_
    refine j_getr C dX8_tells_23 fl_X8_19 kd_0 (by decide) (Nat.le_of_ble_eq_true rfl) rfl ?_
    refine j_aload_n C dX8_tells_26 1 rfl rfl ?_
    refine j_getr C dX8_tells_27 fl_X8_10 kd_0 (by decide) (Nat.le_of_ble_eq_true rfl) rfl ?_
    refine j_getr C dX8_tells_30 fl_X8_83 kd_1 (by decide) (Nat.le_of_ble_eq_true rfl) rfl ?_
    refine j_cvv C dX8_tells_33 lk_X8_86 mw_X6_copyFrom (m_X6_copyFrom_9 adr ) ⟨rfl, rfl, Nat.le_of_ble_eq_true rfl, Nat.le_of_ble_eq_true rfl⟩ kd_9 (by decide) (Nat.le_of_ble_eq_true rfl) rfl rfl (st := []) (st0 := [.ref (adr 4), .ref (adr 9)]) rfl (Nat.le_of_ble_eq_true rfl) (fun S4 => ?_)
    refine j_aload_n C dX8_tells_36 1 rfl rfl ?_
    refine j_getr C dX8_tells_37 fl_X8_26 kd_0 (by decide) (Nat.le_of_ble_eq_true rfl) rfl ?_
    refine j_aload_n C dX8_tells_40 1 rfl rfl ?_
    refine j_getr C dX8_tells_41 fl_X8_19 kd_0 (by decide) (Nat.le_of_ble_eq_true rfl) rfl ?_
    refine j_cvv C dX8_tells_44 lk_X8_90 mw_X7_begin (m_X7_begin adr ) ⟨rfl, rfl, Nat.le_of_ble_eq_true rfl, Nat.le_of_ble_eq_true rfl⟩ kd_42 (by decide) (Nat.le_of_ble_eq_true rfl) rfl rfl (st := []) (st0 := [.ref (adr 9), .ref (adr 42)]) rfl (Nat.le_of_ble_eq_true rfl) (fun S5 => ?_)
    refine j_aload_n C dX8_tells_47 1 rfl rfl ?_
    refine j_getr C dX8_tells_48 fl_X8_42 kd_0 (by decide) (Nat.le_of_ble_eq_true rfl) rfl ?_
    refine j_cvv C dX8_tells_51 lk_X8_93 mw_X1_forgetAll (m_X1_forgetAll adr ) ⟨rfl, rfl, Nat.le_of_ble_eq_true rfl, Nat.le_of_ble_eq_true rfl⟩ kd_17 (by decide) (Nat.le_of_ble_eq_true rfl) rfl rfl (st := []) (st0 := [.ref (adr 17)]) rfl (Nat.le_of_ble_eq_true rfl) (fun S6 => ?_)
    refine j_aload_n C dX8_tells_54 1 rfl rfl ?_
    refine j_getr C dX8_tells_55 fl_X8_49 kd_0 (by decide) (Nat.le_of_ble_eq_true rfl) rfl ?_
    refine j_cvv C dX8_tells_58 lk_X8_96 mw_X2_forgetAll (m_X2_forgetAll adr ) ⟨rfl, rfl, Nat.le_of_ble_eq_true rfl, Nat.le_of_ble_eq_true rfl⟩ kd_19 (by decide) (Nat.le_of_ble_eq_true rfl) rfl rfl (st := []) (st0 := [.ref (adr 19)]) rfl (Nat.le_of_ble_eq_true rfl) (fun S7 => ?_)
    refine j_aload_n C dX8_tells_61 1 rfl rfl ?_
    refine j_getr C dX8_tells_62 fl_X8_63 kd_0 (by decide) (Nat.le_of_ble_eq_true rfl) rfl ?_
    refine j_iconst C dX8_tells_65 (v := 0) rfl ?_
    refine j_puti C dX8_tells_66 fl_X8_97 fi_X5_0 kd_24 (by decide) (Nat.le_of_ble_eq_true rfl) rfl (fun S8 => ?_)
    refine j_iload_n C dX8_tells_69 0 rfl rfl ?_
    exact j_iret hR dX8_tells_70
  · refine j_iload_n C dX8_tells_12 0 rfl rfl ?_
    exact j_iret hR dX8_tells_13
-- X6_has_9
abbrev rm_X6_has_9 : Room := { frames := 0, cells := 0, slots := 0, locals := 0 }
def f_X6_has_9_22 (s0 : Int32) (S : St) : Option (Int32 × St) :=
    bz s0 (some (s0, S))
set_option maxHeartbeats 1000000 in
theorem b_X6_has_9_22 {K : Kt} {adr : Nat → Nat} {r : Int32 × St} (C : Cx K cX6_has RX6 2 adr rm_X6_has_9) (hR : ∀ (pc : Nat) (lv : List (Nat × Value)), (r.1 = 0 ∨ r.1 = 1) → decode cX6_has pc = .ok (.ireturn, 1) → K pc lv [.int r.1] r.2) (s0 : Int32) (S : St) : J K r (f_X6_has_9_22 s0 S) 22 [] [.int s0] S := by
    unfold f_X6_has_9_22
    exact j_zretv hR dX6_has_22
def f_X6_has_9_21  (S : St) : Option (Int32 × St) :=
    f_X6_has_9_22 0 S
set_option maxHeartbeats 1000000 in
theorem b_X6_has_9_21 {K : Kt} {adr : Nat → Nat} {r : Int32 × St} (C : Cx K cX6_has RX6 2 adr rm_X6_has_9) (hR : ∀ (pc : Nat) (lv : List (Nat × Value)), (r.1 = 0 ∨ r.1 = 1) → decode cX6_has pc = .ok (.ireturn, 1) → K pc lv [.int r.1] r.2)  (S : St) : J K r (f_X6_has_9_21  S) 21 [] [] S := by
    unfold f_X6_has_9_21
    refine j_iconst C dX6_has_21 (v := 0) rfl ?_
    exact b_X6_has_9_22 C hR 0 S
def f_X6_has_9 (x1 : Int32) (S : St) : Option (Int32 × St) :=
  if x1 < 0 then (f_X6_has_9_21 S)
  else (if (S.1 9 0) ≤ x1 then (f_X6_has_9_21 S)
    else (if 4 ≤ x1 then (f_X6_has_9_21 S)
      else (f_X6_has_9_22 1 S)))
set_option maxHeartbeats 1000000 in
theorem m_X6_has_9 (adr : Nat → Nat) (x1 : Int32) : MtI yX6_has cX6_has 2 (some .boolean) rm_X6_has_9 adr [.ref (adr 9), .int x1] (f_X6_has_9 x1) := by
  refine MtI.ofZ (by decide +kernel) (Nat.le_of_ble_eq_true rfl) (fun K r S C hR => ?_)
  refine j_start (lv' := [(0, .ref (adr 9)), (1, .int x1)]) rfl ?_
  unfold f_X6_has_9
  refine j_iload_n C dX6_has_0 1 rfl rfl ?_
  refine j_if_lt C dX6_has_1 (tgt := 21) (by decide) ?_ ?_
  · refine j_sub C [] rfl ?_
    exact b_X6_has_9_21 C hR S
  · refine j_iload_n C dX6_has_4 1 rfl rfl ?_
    refine j_aload_n C dX6_has_5 0 rfl rfl ?_
    refine j_geti C dX6_has_6 fl_X6_27 kd_9 (by decide) (Nat.le_of_ble_eq_true rfl) rfl ?_
    refine j_icmp_ge C dX6_has_9 (tgt := 21) (by decide) ?_ ?_
    · refine j_sub C [] rfl ?_
      exact b_X6_has_9_21 C hR S
    · refine j_iload_n C dX6_has_12 1 rfl rfl ?_
      refine j_iconst C dX6_has_13 (v := 4) rfl ?_
      refine j_icmp_ge C dX6_has_14 (tgt := 21) (by decide) ?_ ?_
      · refine j_sub C [] rfl ?_
        exact b_X6_has_9_21 C hR S
      · refine j_iconst C dX6_has_17 (v := 1) rfl ?_
        refine j_goto C dX6_has_18 (tgt := 22) (by decide) ?_
        refine j_sub C [] rfl ?_
        exact b_X6_has_9_22 C hR 1 S
-- X7_lowestAbsent
abbrev rm_X7_lowestAbsent : Room := { frames := 0, cells := 0, slots := 0, locals := 0 }
def f_X7_lowestAbsent_2 : Nat → Int32 → St → Option (Int32 × St)
  | 0, _, _ => none
  | n + 1, x1, S =>
    if 12 ≤ x1 then (some ((-9), S))
    else (ck x1 12 (if (S.1 45 x1.toNatClampNeg) = (-9) then (some (x1, S))
      else ((f_X7_lowestAbsent_2 n) (x1 + 1) S)))
set_option maxHeartbeats 1000000 in
theorem b_X7_lowestAbsent_2 {K : Kt} {adr : Nat → Nat} {r : Int32 × St} (C : Cx K cX7_lowestAbsent RX7 2 adr rm_X7_lowestAbsent) (hR : ∀ (pc : Nat) (lv : List (Nat × Value)), decode cX7_lowestAbsent pc = .ok (.ireturn, 1) → K pc lv [.int r.1] r.2) : ∀ (n : Nat) (x1 : Int32) (S : St), J K r (f_X7_lowestAbsent_2 n x1 S) 2 [(0, .ref (adr 42)), (1, .int x1)] [] S := by
  intro n
  induction n with
  | zero => intro x1 S h; cases h
  | succ n ih =>
    intro x1 S
    unfold f_X7_lowestAbsent_2
    refine j_iload_n C dX7_lowestAbsent_2 1 rfl rfl ?_
    refine j_bipush C dX7_lowestAbsent_3 (v := 12) rfl ?_
    refine j_icmp_ge C dX7_lowestAbsent_5 (tgt := 27) (by decide) ?_ ?_
    · refine j_bipush C dX7_lowestAbsent_27 (v := -9) rfl ?_
      exact j_iret hR dX7_lowestAbsent_29
    · refine j_aload_n C dX7_lowestAbsent_8 0 rfl rfl ?_
      refine j_getr C dX7_lowestAbsent_9 fl_X7_18 kd_42 (by decide) (Nat.le_of_ble_eq_true rfl) rfl ?_
      refine j_iload_n C dX7_lowestAbsent_12 1 rfl rfl ?_
      refine j_iald C dX7_lowestAbsent_13 kd_45 (Nat.le_of_ble_eq_true rfl) ?_
      refine j_bipush C dX7_lowestAbsent_14 (v := -9) rfl ?_
      refine j_icmp_ne C dX7_lowestAbsent_16 (tgt := 21) (by decide) ?_ ?_
      · refine j_iinc C dX7_lowestAbsent_21 (v := x1 + 1) 1 rfl rfl (by decide) rfl ?_
        refine j_goto C dX7_lowestAbsent_24 (tgt := 2) (by decide) ?_
        refine j_sub C [1, 0] rfl ?_
        exact ih (x1 + 1) S
      · refine j_iload_n C dX7_lowestAbsent_19 1 rfl rfl ?_
        exact j_iret hR dX7_lowestAbsent_20
def f_X7_lowestAbsent  (S : St) : Option (Int32 × St) :=
  f_X7_lowestAbsent_2 FU 0 S
set_option maxHeartbeats 1000000 in
theorem m_X7_lowestAbsent (adr : Nat → Nat)  : MtI yX7_lowestAbsent cX7_lowestAbsent 2 (some .int) rm_X7_lowestAbsent adr [.ref (adr 42)] (f_X7_lowestAbsent ) := by
  refine MtI.of (by decide +kernel) (Nat.le_of_ble_eq_true rfl) (fun K r S C hR => ?_)
  refine j_start (lv' := [(0, .ref (adr 42))]) rfl ?_
  unfold f_X7_lowestAbsent
  refine j_iconst C dX7_lowestAbsent_0 (v := 0) rfl ?_
  refine j_istore_n C dX7_lowestAbsent_1 rfl (by decide) rfl ?_
  refine j_sub C [1, 0] rfl ?_
  exact b_X7_lowestAbsent_2 C hR FU 0 S
