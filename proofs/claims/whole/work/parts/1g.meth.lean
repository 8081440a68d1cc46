-- X0_hear
abbrev rm_X0_hear : Room := { frames := 5, cells := 0, slots := 0, locals := 121 }
def f_X0_hear_99 (x2 : Int32) (S : St) : Option (Int32 × St) :=
    bd (f_X0_serveFreed S) fun v14 S13 =>
    some (x2, S13)
set_option maxHeartbeats 1000000 in
theorem b_X0_hear_99 {K : Kt} {adr : Nat → Nat} {r : Int32 × St} (C : Cx K cX0_hear RX0 3 adr rm_X0_hear) (hR : ∀ (pc : Nat) (lv : List (Nat × Value)), decode cX0_hear pc = .ok (.ireturn, 1) → K pc lv [.int r.1] r.2) (x2 : Int32) (S : St) : J K r (f_X0_hear_99 x2 S) 99 [(0, .ref (adr 14)), (2, .int x2)] [] S := by
    unfold f_X0_hear_99
    refine j_aload_n C dX0_hear_99 0 rfl rfl ?_
    refine j_cvi C dX0_hear_100 lk_X0_105 mw_X0_serveFreed (m_X0_serveFreed adr ) ⟨rfl, rfl, Nat.le_of_ble_eq_true rfl, Nat.le_of_ble_eq_true rfl⟩ kd_14 (by decide) (Nat.le_of_ble_eq_true rfl) rfl rfl (st := []) (st0 := [.ref (adr 14)]) rfl (Nat.le_of_ble_eq_true rfl) (fun v14 S13 => ?_)
    refine j_pop C dX0_hear_103 rfl ?_
    refine j_iload_n C dX0_hear_104 1 rfl rfl ?_
    exact j_iret hR dX0_hear_105
def f_X0_hear (x1 : Int32) (S : St) : Option (Int32 × St) :=
  ck x1 12 (ck x1 12 (lt (upI S 48 x1.toNatClampNeg ((S.1 48 x1.toNatClampNeg) + 1)) fun S1 =>
  ck x1 12 (ck x1 12 (lt (upI S1 49 x1.toNatClampNeg ((S1.1 49 x1.toNatClampNeg) + 1)) fun S2 =>
  bdV (f_X0_smoothLevels x1 S2) fun S3 =>
  bdV (f_X0_countStreaks x1 S3) fun S4 =>
  bd (f_X0_targetOf x1 S4) fun v6 S5 =>
  bd (f_X0_follow x1 v6 S5) fun v8 S7 =>
  if v8 = 1 then (f_X0_hear_99 v8 S7)
  else (bd (f_X7_ownLevel x1 S7) fun v10 S9 =>
    ck 3 5 (if (64 * (S9.1 13 (3 : Int32).toNatClampNeg)) ≤ v10 then (f_X0_hear_99 v8 S9)
    else (ck x1 12 (bdV (f_X7_tallyOne (S9.1 45 x1.toNatClampNeg) 5 S9) fun S11 =>
      bdV (f_X0_vanish x1 S11) fun S12 =>
      f_X0_hear_99 4 S12))))))))
set_option maxHeartbeats 1000000 in
theorem m_X0_hear (adr : Nat → Nat) (x1 : Int32) : MtI yX0_hear cX0_hear 3 (some .int) rm_X0_hear adr [.ref (adr 14), .int x1] (f_X0_hear x1) := by
  refine MtI.of (by decide +kernel) (Nat.le_of_ble_eq_true rfl) (fun K r S C hR => ?_)
  refine j_start (lv' := [(0, .ref (adr 14)), (1, .int x1)]) rfl ?_
  unfold f_X0_hear
  refine j_aload_n C dX0_hear_0 0 rfl rfl ?_
  refine j_getr C dX0_hear_1 fl_X0_22 kd_14 (by decide) (Nat.le_of_ble_eq_true rfl) rfl ?_
  refine j_getr C dX0_hear_4 fl_X0_74 kd_42 (by decide) (Nat.le_of_ble_eq_true rfl) rfl ?_
  refine j_iload_n C dX0_hear_7 1 rfl rfl ?_
  refine j_dup2 C dX0_hear_8 rfl rfl ?_
  refine j_iald C dX0_hear_9 kd_48 (Nat.le_of_ble_eq_true rfl) ?_
  refine j_iconst C dX0_hear_10 (v := 1) rfl ?_
  refine j_iadd C dX0_hear_11 ?_
  refine j_iast C dX0_hear_12 kd_48 (Nat.le_of_ble_eq_true rfl) (fun S1 => ?_)
  refine j_aload_n C dX0_hear_13 0 rfl rfl ?_
  refine j_getr C dX0_hear_14 fl_X0_22 kd_14 (by decide) (Nat.le_of_ble_eq_true rfl) rfl ?_
  refine j_getr C dX0_hear_17 fl_X0_77 kd_42 (by decide) (Nat.le_of_ble_eq_true rfl) rfl ?_
  refine j_iload_n C dX0_hear_20 1 rfl rfl ?_
  refine j_dup2 C dX0_hear_21 rfl rfl ?_
  refine j_iald C dX0_hear_22 kd_49 (Nat.le_of_ble_eq_true rfl) ?_
  refine j_iconst C dX0_hear_23 (v := 1) rfl ?_
  refine j_iadd C dX0_hear_24 ?_
  refine j_iast C dX0_hear_25 kd_49 (Nat.le_of_ble_eq_true rfl) (fun S2 => ?_)
  refine j_aload_n C dX0_hear_26 0 rfl rfl ?_
  refine j_iload_n C dX0_hear_27 1 rfl rfl ?_
  refine j_cvv C dX0_hear_28 lk_X0_80 mw_X0_smoothLevels (m_X0_smoothLevels adr x1) ⟨rfl, rfl, Nat.le_of_ble_eq_true rfl, Nat.le_of_ble_eq_true rfl⟩ kd_14 (by decide) (Nat.le_of_ble_eq_true rfl) rfl rfl (st := []) (st0 := [.int x1, .ref (adr 14)]) rfl (Nat.le_of_ble_eq_true rfl) (fun S3 => ?_)
  refine j_aload_n C dX0_hear_31 0 rfl rfl ?_
  refine j_iload_n C dX0_hear_32 1 rfl rfl ?_
  refine j_cvv C dX0_hear_33 lk_X0_84 mw_X0_countStreaks (m_X0_countStreaks adr x1) ⟨rfl, rfl, Nat.le_of_ble_eq_true rfl, Nat.le_of_ble_eq_true rfl⟩ kd_14 (by decide) (Nat.le_of_ble_eq_true rfl) rfl rfl (st := []) (st0 := [.int x1, .ref (adr 14)]) rfl (Nat.le_of_ble_eq_true rfl) (fun S4 => ?_)
  refine j_aload_n C dX0_hear_36 0 rfl rfl ?_
  refine j_iload_n C dX0_hear_37 1 rfl rfl ?_
  refine j_aload_n C dX0_hear_38 0 rfl rfl ?_
  refine j_iload_n C dX0_hear_39 1 rfl rfl ?_
  refine j_cvi C dX0_hear_40 lk_X0_87 mw_X0_targetOf (m_X0_targetOf adr x1) ⟨rfl, rfl, Nat.le_of_ble_eq_true rfl, Nat.le_of_ble_eq_true rfl⟩ kd_14 (by decide) (Nat.le_of_ble_eq_true rfl) rfl rfl (st := [.int x1, .ref (adr 14)]) (st0 := [.int x1, .ref (adr 14), .int x1, .ref (adr 14)]) rfl (Nat.le_of_ble_eq_true rfl) (fun v6 S5 => ?_)
  refine j_cvi C dX0_hear_43 lk_X0_90 mw_X0_follow (m_X0_follow adr x1 v6) ⟨rfl, rfl, Nat.le_of_ble_eq_true rfl, Nat.le_of_ble_eq_true rfl⟩ kd_14 (by decide) (Nat.le_of_ble_eq_true rfl) rfl rfl (st := []) (st0 := [.int v6, .int x1, .ref (adr 14)]) rfl (Nat.le_of_ble_eq_true rfl) (fun v8 S7 => ?_)
  refine j_istore_n C dX0_hear_46 rfl (by decide) rfl ?_
  refine j_iload_n C dX0_hear_47 0 rfl rfl ?_
  refine j_iconst C dX0_hear_48 (v := 1) rfl ?_
  refine j_icmp_eq C dX0_hear_49 (tgt := 99) (by decide) ?_ ?_
  · refine j_sub C [1, 0] rfl ?_
    exact b_X0_hear_99 C hR v8 S7
  · refine j_aload_n C dX0_hear_52 1 rfl rfl ?_
    refine j_getr C dX0_hear_53 fl_X0_22 kd_14 (by decide) (Nat.le_of_ble_eq_true rfl) rfl ?_
    refine j_iload_n C dX0_hear_56 2 rfl rfl ?_
    refine j_cvi C dX0_hear_57 lk_X0_93 mw_X7_ownLevel (m_X7_ownLevel adr x1) ⟨rfl, rfl, Nat.le_of_ble_eq_true rfl, Nat.le_of_ble_eq_true rfl⟩ kd_42 (by decide) (Nat.le_of_ble_eq_true rfl) rfl rfl (st := []) (st0 := [.int x1, .ref (adr 42)]) rfl (Nat.le_of_ble_eq_true rfl) (fun v10 S9 => ?_)
    refine j_bipush C dX0_hear_60 (v := 64) rfl ?_
    refine j_aload_n C dX0_hear_62 1 rfl rfl ?_
    refine j_getr C dX0_hear_63 fl_X0_18 kd_14 (by decide) (Nat.le_of_ble_eq_true rfl) rfl ?_
    refine j_getr C dX0_hear_66 fl_X0_96 kd_9 (by decide) (Nat.le_of_ble_eq_true rfl) rfl ?_
    refine j_iconst C dX0_hear_69 (v := 3) rfl ?_
    refine j_iald C dX0_hear_70 kd_13 (Nat.le_of_ble_eq_true rfl) ?_
    refine j_imul C dX0_hear_71 ?_
    refine j_icmp_ge C dX0_hear_72 (tgt := 99) (by decide) ?_ ?_
    · refine j_sub C [1, 0] rfl ?_
      exact b_X0_hear_99 C hR v8 S9
    · refine j_aload_n C dX0_hear_75 1 rfl rfl ?_
      refine j_getr C dX0_hear_76 fl_X0_22 kd_14 (by decide) (Nat.le_of_ble_eq_true rfl) rfl ?_
      refine j_aload_n C dX0_hear_79 1 rfl rfl ?_
      refine j_getr C dX0_hear_80 fl_X0_22 kd_14 (by decide) (Nat.le_of_ble_eq_true rfl) rfl ?_
      refine j_getr C dX0_hear_83 fl_X0_99 kd_42 (by decide) (Nat.le_of_ble_eq_true rfl) rfl ?_
      refine j_iload_n C dX0_hear_86 2 rfl rfl ?_
      refine j_iald C dX0_hear_87 kd_45 (Nat.le_of_ble_eq_true rfl) ?_
      refine j_iconst C dX0_hear_88 (v := 5) rfl ?_
      refine j_cvv C dX0_hear_89 lk_X0_47 mw_X7_tallyOne (m_X7_tallyOne adr (S9.1 45 x1.toNatClampNeg) 5) ⟨rfl, rfl, Nat.le_of_ble_eq_true rfl, Nat.le_of_ble_eq_true rfl⟩ kd_42 (by decide) (Nat.le_of_ble_eq_true rfl) rfl rfl (st := []) (st0 := [.int 5, .int (S9.1 45 x1.toNatClampNeg), .ref (adr 42)]) rfl (Nat.le_of_ble_eq_true rfl) (fun S11 => ?_)
      refine j_aload_n C dX0_hear_92 1 rfl rfl ?_
      refine j_iload_n C dX0_hear_93 2 rfl rfl ?_
      refine j_cvv C dX0_hear_94 lk_X0_102 mw_X0_vanish (m_X0_vanish adr x1) ⟨rfl, rfl, Nat.le_of_ble_eq_true rfl, Nat.le_of_ble_eq_true rfl⟩ kd_14 (by decide) (Nat.le_of_ble_eq_true rfl) rfl rfl (st := []) (st0 := [.int x1, .ref (adr 14)]) rfl (Nat.le_of_ble_eq_true rfl) (fun S12 => ?_)
      refine j_iconst C dX0_hear_97 (v := 4) rfl ?_
      refine j_istore_n C dX0_hear_98 rfl (by decide) rfl ?_
      refine j_sub C [1, 0] rfl ?_
      exact b_X0_hear_99 C hR 4 S12
-- X8_hears
abbrev rm_X8_hears : Room := { frames := 6, cells := 0, slots := 0, locals := 143 }
def f_X8_hears_49  (S : St) : Option (Int32 × St) :=
    some ((-1), S)
set_option maxHeartbeats 1000000 in
theorem b_X8_hears_49 {K : Kt} {adr : Nat → Nat} {r : Int32 × St} (C : Cx K cX8_hears RX8 6 adr rm_X8_hears) (hR : ∀ (pc : Nat) (lv : List (Nat × Value)), decode cX8_hears pc = .ok (.ireturn, 1) → K pc lv [.int r.1] r.2)  (S : St) : J K r (f_X8_hears_49  S) 49 [] [] S := by
    unfold f_X8_hears_49
    refine j_iconst C dX8_hears_49 (v := -1) rfl ?_
    exact j_iret hR dX8_hears_50
def f_X8_hears (x1 : Int32) (x2 : Int32) (x3 : Int32) (x4 : Int32) (x5 : Int32) (S : St) : Option (Int32 × St) :=
  bd (f_X7_has x1 S) fun v2 S1 =>
  if v2 = 0 then (f_X8_hears_49 S1)
  else (bd (f_X8_canHear 0 x2 S1) fun v4 S3 =>
    if v4 = 0 then (f_X8_hears_49 S3)
    else (bd (f_X8_canHear 1 x3 S3) fun v6 S5 =>
      if v6 = 0 then (f_X8_hears_49 S5)
      else (bd (f_X8_canHear 2 x4 S5) fun v8 S7 =>
        if v8 = 0 then (f_X8_hears_49 S7)
        else (bd (f_X8_canHear 3 x5 S7) fun v10 S9 =>
          if v10 = 0 then (f_X8_hears_49 S9)
          else (bdV (f_X1_remember S9) fun S11 =>
            bdV (f_X0_setValues x2 x3 x4 x5 S11) fun S12 =>
            bd (f_X0_hear x1 S12) fun v14 S13 =>
            some (v14, S13))))))
set_option maxHeartbeats 1000000 in
theorem m_X8_hears (adr : Nat → Nat) (x1 : Int32) (x2 : Int32) (x3 : Int32) (x4 : Int32) (x5 : Int32) : MtI yX8_hears cX8_hears 6 (some .int) rm_X8_hears adr [.ref (adr 0), .int x1, .int x2, .int x3, .int x4, .int x5] (f_X8_hears x1 x2 x3 x4 x5) := by
  refine MtI.of (by decide +kernel) (Nat.le_of_ble_eq_true rfl) (fun K r S C hR => ?_)
  refine j_start (lv' := [(0, .ref (adr 0)), (1, .int x1), (2, .int x2), (3, .int x3), (4, .int x4), (5, .int x5)]) rfl ?_
  unfold f_X8_hears
  refine j_aload_n C dX8_hears_0 0 rfl rfl ?_
  refine j_getr C dX8_hears_1 fl_X8_26 kd_0 (by decide) (Nat.le_of_ble_eq_true rfl) rfl ?_
  refine j_iload_n C dX8_hears_4 1 rfl rfl ?_
  refine j_cvi C dX8_hears_5 lk_X8_114 mw_X7_has (m_X7_has adr x1) ⟨rfl, rfl, Nat.le_of_ble_eq_true rfl, Nat.le_of_ble_eq_true rfl⟩ kd_42 (by decide) (Nat.le_of_ble_eq_true rfl) rfl rfl (st := []) (st0 := [.int x1, .ref (adr 42)]) rfl (Nat.le_of_ble_eq_true rfl) (fun v2 S1 => ?_)
  refine j_if_eq C dX8_hears_8 (tgt := 49) (by decide) ?_ ?_
  · refine j_sub C [] rfl ?_
    exact b_X8_hears_49 C hR S1
  · refine j_aload_n C dX8_hears_11 0 rfl rfl ?_
    refine j_iconst C dX8_hears_12 (v := 0) rfl ?_
    refine j_iload_n C dX8_hears_13 2 rfl rfl ?_
    refine j_cvi C dX8_hears_14 lk_X8_115 mw_X8_canHear (m_X8_canHear adr 0 x2) ⟨rfl, rfl, Nat.le_of_ble_eq_true rfl, Nat.le_of_ble_eq_true rfl⟩ kd_0 (by decide) (Nat.le_of_ble_eq_true rfl) rfl rfl (st := []) (st0 := [.int x2, .int 0, .ref (adr 0)]) rfl (Nat.le_of_ble_eq_true rfl) (fun v4 S3 => ?_)
    refine j_if_eq C dX8_hears_17 (tgt := 49) (by decide) ?_ ?_
    · refine j_sub C [] rfl ?_
      exact b_X8_hears_49 C hR S3
    · refine j_aload_n C dX8_hears_20 0 rfl rfl ?_
      refine j_iconst C dX8_hears_21 (v := 1) rfl ?_
      refine j_iload_n C dX8_hears_22 3 rfl rfl ?_
      refine j_cvi C dX8_hears_23 lk_X8_115 mw_X8_canHear (m_X8_canHear adr 1 x3) ⟨rfl, rfl, Nat.le_of_ble_eq_true rfl, Nat.le_of_ble_eq_true rfl⟩ kd_0 (by decide) (Nat.le_of_ble_eq_true rfl) rfl rfl (st := []) (st0 := [.int x3, .int 1, .ref (adr 0)]) rfl (Nat.le_of_ble_eq_true rfl) (fun v6 S5 => ?_)
      refine j_if_eq C dX8_hears_26 (tgt := 49) (by decide) ?_ ?_
      · refine j_sub C [] rfl ?_
        exact b_X8_hears_49 C hR S5
      · refine j_aload_n C dX8_hears_29 0 rfl rfl ?_
        refine j_iconst C dX8_hears_30 (v := 2) rfl ?_
        refine j_iload C dX8_hears_31 4 rfl ?_
        refine j_cvi C dX8_hears_33 lk_X8_115 mw_X8_canHear (m_X8_canHear adr 2 x4) ⟨rfl, rfl, Nat.le_of_ble_eq_true rfl, Nat.le_of_ble_eq_true rfl⟩ kd_0 (by decide) (Nat.le_of_ble_eq_true rfl) rfl rfl (st := []) (st0 := [.int x4, .int 2, .ref (adr 0)]) rfl (Nat.le_of_ble_eq_true rfl) (fun v8 S7 => ?_)
        refine j_if_eq C dX8_hears_36 (tgt := 49) (by decide) ?_ ?_
        · refine j_sub C [] rfl ?_
          exact b_X8_hears_49 C hR S7
        · refine j_aload_n C dX8_hears_39 0 rfl rfl ?_
          refine j_iconst C dX8_hears_40 (v := 3) rfl ?_
          refine j_iload C dX8_hears_41 5 rfl ?_
          refine j_cvi C dX8_hears_43 lk_X8_115 mw_X8_canHear (m_X8_canHear adr 3 x5) ⟨rfl, rfl, Nat.le_of_ble_eq_true rfl, Nat.le_of_ble_eq_true rfl⟩ kd_0 (by decide) (Nat.le_of_ble_eq_true rfl) rfl rfl (st := []) (st0 := [.int x5, .int 3, .ref (adr 0)]) rfl (Nat.le_of_ble_eq_true rfl) (fun v10 S9 => ?_)
          refine j_if_ne C dX8_hears_46 (tgt := 51) (by decide) ?_ ?_
          · refine j_aload_n C dX8_hears_51 0 rfl rfl ?_
            refine j_getr C dX8_hears_52 fl_X8_42 kd_0 (by decide) (Nat.le_of_ble_eq_true rfl) rfl ?_
            refine j_aload_n C dX8_hears_55 0 rfl rfl ?_
            refine j_getr C dX8_hears_56 fl_X8_26 kd_0 (by decide) (Nat.le_of_ble_eq_true rfl) rfl ?_
            refine j_cvv C dX8_hears_59 lk_X8_106 mw_X1_remember (m_X1_remember adr ) ⟨rfl, rfl, Nat.le_of_ble_eq_true rfl, Nat.le_of_ble_eq_true rfl⟩ kd_17 (by decide) (Nat.le_of_ble_eq_true rfl) rfl rfl (st := []) (st0 := [.ref (adr 42), .ref (adr 17)]) rfl (Nat.le_of_ble_eq_true rfl) (fun S11 => ?_)
            refine j_aload_n C dX8_hears_62 0 rfl rfl ?_
            refine j_getr C dX8_hears_63 fl_X8_35 kd_0 (by decide) (Nat.le_of_ble_eq_true rfl) rfl ?_
            refine j_iload_n C dX8_hears_66 2 rfl rfl ?_
            refine j_iload_n C dX8_hears_67 3 rfl rfl ?_
            refine j_iload C dX8_hears_68 4 rfl ?_
            refine j_iload C dX8_hears_70 5 rfl ?_
            refine j_cvv C dX8_hears_72 lk_X8_119 mw_X0_setValues (m_X0_setValues adr x2 x3 x4 x5) ⟨rfl, rfl, Nat.le_of_ble_eq_true rfl, Nat.le_of_ble_eq_true rfl⟩ kd_14 (by decide) (Nat.le_of_ble_eq_true rfl) rfl rfl (st := []) (st0 := [.int x5, .int x4, .int x3, .int x2, .ref (adr 14)]) rfl (Nat.le_of_ble_eq_true rfl) (fun S12 => ?_)
            refine j_aload_n C dX8_hears_75 0 rfl rfl ?_
            refine j_getr C dX8_hears_76 fl_X8_35 kd_0 (by decide) (Nat.le_of_ble_eq_true rfl) rfl ?_
            refine j_iload_n C dX8_hears_79 1 rfl rfl ?_
            refine j_cvi C dX8_hears_80 lk_X8_123 mw_X0_hear (m_X0_hear adr x1) ⟨rfl, rfl, Nat.le_of_ble_eq_true rfl, Nat.le_of_ble_eq_true rfl⟩ kd_14 (by decide) (Nat.le_of_ble_eq_true rfl) rfl rfl (st := []) (st0 := [.int x1, .ref (adr 14)]) rfl (Nat.le_of_ble_eq_true rfl) (fun v14 S13 => ?_)
            exact j_iret hR dX8_hears_83
          · refine j_sub C [] rfl ?_
            exact b_X8_hears_49 C hR S9
-- X0_end
abbrev rm_X0_end : Room := { frames := 5, cells := 0, slots := 0, locals := 121 }
def f_X0_end (x1 : Int32) (S : St) : Option (Int32 × St) :=
  bdV (f_X0_vanish x1 S) fun S1 =>
  bd (f_X0_serveFreed S1) fun v3 S2 =>
  some (v3, S2)
set_option maxHeartbeats 1000000 in
theorem m_X0_end (adr : Nat → Nat) (x1 : Int32) : MtI yX0_end cX0_end 2 (some .int) rm_X0_end adr [.ref (adr 14), .int x1] (f_X0_end x1) := by
  refine MtI.of (by decide +kernel) (Nat.le_of_ble_eq_true rfl) (fun K r S C hR => ?_)
  refine j_start (lv' := [(0, .ref (adr 14)), (1, .int x1)]) rfl ?_
  unfold f_X0_end
  refine j_aload_n C dX0_end_0 0 rfl rfl ?_
  refine j_iload_n C dX0_end_1 1 rfl rfl ?_
  refine j_cvv C dX0_end_2 lk_X0_102 mw_X0_vanish (m_X0_vanish adr x1) ⟨rfl, rfl, Nat.le_of_ble_eq_true rfl, Nat.le_of_ble_eq_true rfl⟩ kd_14 (by decide) (Nat.le_of_ble_eq_true rfl) rfl rfl (st := []) (st0 := [.int x1, .ref (adr 14)]) rfl (Nat.le_of_ble_eq_true rfl) (fun S1 => ?_)
  refine j_aload_n C dX0_end_5 0 rfl rfl ?_
  refine j_cvi C dX0_end_6 lk_X0_105 mw_X0_serveFreed (m_X0_serveFreed adr ) ⟨rfl, rfl, Nat.le_of_ble_eq_true rfl, Nat.le_of_ble_eq_true rfl⟩ kd_14 (by decide) (Nat.le_of_ble_eq_true rfl) rfl rfl (st := []) (st0 := [.ref (adr 14)]) rfl (Nat.le_of_ble_eq_true rfl) (fun v3 S2 => ?_)
  exact j_iret hR dX0_end_9
-- X8_ends
abbrev rm_X8_ends : Room := { frames := 6, cells := 0, slots := 0, locals := 142 }
def f_X8_ends (x1 : Int32) (S : St) : Option (Int32 × St) :=
  bd (f_X7_has x1 S) fun v2 S1 =>
  if v2 = 0 then (some ((-1), S1))
  else (bdV (f_X1_remember S1) fun S3 =>
    bd (f_X0_end x1 S3) fun v5 S4 =>
    some (v5, S4))
set_option maxHeartbeats 1000000 in
theorem m_X8_ends (adr : Nat → Nat) (x1 : Int32) : MtI yX8_ends cX8_ends 2 (some .int) rm_X8_ends adr [.ref (adr 0), .int x1] (f_X8_ends x1) := by
  refine MtI.of (by decide +kernel) (Nat.le_of_ble_eq_true rfl) (fun K r S C hR => ?_)
  refine j_start (lv' := [(0, .ref (adr 0)), (1, .int x1)]) rfl ?_
  unfold f_X8_ends
  refine j_aload_n C dX8_ends_0 0 rfl rfl ?_
  refine j_getr C dX8_ends_1 fl_X8_26 kd_0 (by decide) (Nat.le_of_ble_eq_true rfl) rfl ?_
  refine j_iload_n C dX8_ends_4 1 rfl rfl ?_
  refine j_cvi C dX8_ends_5 lk_X8_114 mw_X7_has (m_X7_has adr x1) ⟨rfl, rfl, Nat.le_of_ble_eq_true rfl, Nat.le_of_ble_eq_true rfl⟩ kd_42 (by decide) (Nat.le_of_ble_eq_true rfl) rfl rfl (st := []) (st0 := [.int x1, .ref (adr 42)]) rfl (Nat.le_of_ble_eq_true rfl) (fun v2 S1 => ?_)
  refine j_if_ne C dX8_ends_8 (tgt := 13) (by decide) ?_ ?_
  · refine j_aload_n C dX8_ends_13 0 rfl rfl ?_
    refine j_getr C dX8_ends_14 fl_X8_42 kd_0 (by decide) (Nat.le_of_ble_eq_true rfl) rfl ?_
    refine j_aload_n C dX8_ends_17 0 rfl rfl ?_
    refine j_getr C dX8_ends_18 fl_X8_26 kd_0 (by decide) (Nat.le_of_ble_eq_true rfl) rfl ?_
    refine j_cvv C dX8_ends_21 lk_X8_106 mw_X1_remember (m_X1_remember adr ) ⟨rfl, rfl, Nat.le_of_ble_eq_true rfl, Nat.le_of_ble_eq_true rfl⟩ kd_17 (by decide) (Nat.le_of_ble_eq_true rfl) rfl rfl (st := []) (st0 := [.ref (adr 42), .ref (adr 17)]) rfl (Nat.le_of_ble_eq_true rfl) (fun S3 => ?_)
    refine j_aload_n C dX8_ends_24 0 rfl rfl ?_
    refine j_getr C dX8_ends_25 fl_X8_35 kd_0 (by decide) (Nat.le_of_ble_eq_true rfl) rfl ?_
    refine j_iload_n C dX8_ends_28 1 rfl rfl ?_
    refine j_cvi C dX8_ends_29 lk_X8_127 mw_X0_end (m_X0_end adr x1) ⟨rfl, rfl, Nat.le_of_ble_eq_true rfl, Nat.le_of_ble_eq_true rfl⟩ kd_14 (by decide) (Nat.le_of_ble_eq_true rfl) rfl rfl (st := []) (st0 := [.int x1, .ref (adr 14)]) rfl (Nat.le_of_ble_eq_true rfl) (fun v5 S4 => ?_)
    exact j_iret hR dX8_ends_32
  · refine j_iconst C dX8_ends_11 (v := -1) rfl ?_
    exact j_iret hR dX8_ends_12
-- X6_mostGuard_9
abbrev rm_X6_mostGuard_9 : Room := { frames := 0, cells := 0, slots := 0, locals := 0 }
def f_X6_mostGuard_9 (x1 : Int32) (S : St) : Option (Int32 × St) :=
  ck x1 4 (some (10 * (S.1 10 x1.toNatClampNeg), S))
set_option maxHeartbeats 1000000 in
theorem m_X6_mostGuard_9 (adr : Nat → Nat) (x1 : Int32) : MtI yX6_mostGuard cX6_mostGuard 2 (some .int) rm_X6_mostGuard_9 adr [.ref (adr 9), .int x1] (f_X6_mostGuard_9 x1) := by
  refine MtI.of (by decide +kernel) (Nat.le_of_ble_eq_true rfl) (fun K r S C hR => ?_)
  refine j_start (lv' := [(0, .ref (adr 9)), (1, .int x1)]) rfl ?_
  unfold f_X6_mostGuard_9
  refine j_bipush C dX6_mostGuard_0 (v := 10) rfl ?_
  refine j_aload_n C dX6_mostGuard_2 0 rfl rfl ?_
  refine j_getr C dX6_mostGuard_3 fl_X6_9 kd_9 (by decide) (Nat.le_of_ble_eq_true rfl) rfl ?_
  refine j_iload_n C dX6_mostGuard_6 1 rfl rfl ?_
  refine j_iald C dX6_mostGuard_7 kd_10 (Nat.le_of_ble_eq_true rfl) ?_
  refine j_imul C dX6_mostGuard_8 ?_
  exact j_iret hR dX6_mostGuard_9
-- X8_guards
abbrev rm_X8_guards : Room := { frames := 3, cells := 0, slots := 0, locals := 61 }
def f_X8_guards_27  (S : St) : Option (Int32 × St) :=
    some ((-1), S)
set_option maxHeartbeats 1000000 in
theorem b_X8_guards_27 {K : Kt} {adr : Nat → Nat} {r : Int32 × St} (C : Cx K cX8_guards RX8 4 adr rm_X8_guards) (hR : ∀ (pc : Nat) (lv : List (Nat × Value)), decode cX8_guards pc = .ok (.ireturn, 1) → K pc lv [.int r.1] r.2)  (S : St) : J K r (f_X8_guards_27  S) 27 [] [] S := by
    unfold f_X8_guards_27
    refine j_iconst C dX8_guards_27 (v := -1) rfl ?_
    exact j_iret hR dX8_guards_28
def f_X8_guards (x1 : Int32) (x2 : Int32) (S : St) : Option (Int32 × St) :=
  bd (f_X6_has_9 x1 S) fun v2 S1 =>
  if v2 = 0 then (f_X8_guards_27 S1)
  else (bd (f_X6_mostGuard_9 x1 S1) fun v4 S3 =>
    bd (f_X8_within x2 0 v4 S3) fun v6 S5 =>
    if v6 = 0 then (f_X8_guards_27 S5)
    else (ck x1 4 (lt (S5.1 43 x1.toNatClampNeg) fun v7 =>
      if v7 = x2 then (some ((-2), S5))
      else (bdV (f_X1_remember S5) fun S8 =>
        ck x1 4 (lt (upI S8 43 x1.toNatClampNeg x2) fun S9 =>
        some (v7, S9))))))
set_option maxHeartbeats 1000000 in
theorem m_X8_guards (adr : Nat → Nat) (x1 : Int32) (x2 : Int32) : MtI yX8_guards cX8_guards 4 (some .int) rm_X8_guards adr [.ref (adr 0), .int x1, .int x2] (f_X8_guards x1 x2) := by
  refine MtI.of (by decide +kernel) (Nat.le_of_ble_eq_true rfl) (fun K r S C hR => ?_)
  refine j_start (lv' := [(0, .ref (adr 0)), (1, .int x1), (2, .int x2)]) rfl ?_
  unfold f_X8_guards
  refine j_aload_n C dX8_guards_0 0 rfl rfl ?_
  refine j_getr C dX8_guards_1 fl_X8_19 kd_0 (by decide) (Nat.le_of_ble_eq_true rfl) rfl ?_
  refine j_iload_n C dX8_guards_4 1 rfl rfl ?_
  refine j_cvi C dX8_guards_5 lk_X8_100 mw_X6_has (m_X6_has_9 adr x1) ⟨rfl, rfl, Nat.le_of_ble_eq_true rfl, Nat.le_of_ble_eq_true rfl⟩ kd_9 (by decide) (Nat.le_of_ble_eq_true rfl) rfl rfl (st := []) (st0 := [.int x1, .ref (adr 9)]) rfl (Nat.le_of_ble_eq_true rfl) (fun v2 S1 => ?_)
  refine j_if_eq C dX8_guards_8 (tgt := 27) (by decide) ?_ ?_
  · refine j_sub C [] rfl ?_
    exact b_X8_guards_27 C hR S1
  · refine j_iload_n C dX8_guards_11 2 rfl rfl ?_
    refine j_iconst C dX8_guards_12 (v := 0) rfl ?_
    refine j_aload_n C dX8_guards_13 0 rfl rfl ?_
    refine j_getr C dX8_guards_14 fl_X8_19 kd_0 (by decide) (Nat.le_of_ble_eq_true rfl) rfl ?_
    refine j_iload_n C dX8_guards_17 1 rfl rfl ?_
    refine j_cvi C dX8_guards_18 lk_X8_130 mw_X6_mostGuard (m_X6_mostGuard_9 adr x1) ⟨rfl, rfl, Nat.le_of_ble_eq_true rfl, Nat.le_of_ble_eq_true rfl⟩ kd_9 (by decide) (Nat.le_of_ble_eq_true rfl) rfl rfl (st := [.int 0, .int x2]) (st0 := [.int x1, .ref (adr 9), .int 0, .int x2]) rfl (Nat.le_of_ble_eq_true rfl) (fun v4 S3 => ?_)
    refine j_csi C dX8_guards_21 lk_X8_67 mw_X8_within (m_X8_within adr x2 0 v4) ⟨rfl, rfl, Nat.le_of_ble_eq_true rfl, Nat.le_of_ble_eq_true rfl⟩ rfl (st := []) (st0 := [.int v4, .int 0, .int x2]) rfl (Nat.le_of_ble_eq_true rfl) (fun v6 S5 => ?_)
    refine j_if_ne C dX8_guards_24 (tgt := 29) (by decide) ?_ ?_
    · refine j_aload_n C dX8_guards_29 0 rfl rfl ?_
      refine j_getr C dX8_guards_30 fl_X8_26 kd_0 (by decide) (Nat.le_of_ble_eq_true rfl) rfl ?_
      refine j_getr C dX8_guards_33 fl_X8_133 kd_42 (by decide) (Nat.le_of_ble_eq_true rfl) rfl ?_
      refine j_iload_n C dX8_guards_36 1 rfl rfl ?_
      refine j_iald C dX8_guards_37 kd_43 (Nat.le_of_ble_eq_true rfl) ?_
      refine j_topi (fun v7 => ?_)
      refine j_istore_n C dX8_guards_38 rfl (by decide) rfl ?_
      refine j_iload_n C dX8_guards_39 0 rfl rfl ?_
      refine j_iload_n C dX8_guards_40 3 rfl rfl ?_
      refine j_icmp_ne C dX8_guards_41 (tgt := 47) (by decide) ?_ ?_
      · refine j_aload_n C dX8_guards_47 1 rfl rfl ?_
        refine j_getr C dX8_guards_48 fl_X8_42 kd_0 (by decide) (Nat.le_of_ble_eq_true rfl) rfl ?_
        refine j_aload_n C dX8_guards_51 1 rfl rfl ?_
        refine j_getr C dX8_guards_52 fl_X8_26 kd_0 (by decide) (Nat.le_of_ble_eq_true rfl) rfl ?_
        refine j_cvv C dX8_guards_55 lk_X8_106 mw_X1_remember (m_X1_remember adr ) ⟨rfl, rfl, Nat.le_of_ble_eq_true rfl, Nat.le_of_ble_eq_true rfl⟩ kd_17 (by decide) (Nat.le_of_ble_eq_true rfl) rfl rfl (st := []) (st0 := [.ref (adr 42), .ref (adr 17)]) rfl (Nat.le_of_ble_eq_true rfl) (fun S8 => ?_)
        refine j_aload_n C dX8_guards_58 1 rfl rfl ?_
        refine j_getr C dX8_guards_59 fl_X8_26 kd_0 (by decide) (Nat.le_of_ble_eq_true rfl) rfl ?_
        refine j_getr C dX8_guards_62 fl_X8_133 kd_42 (by decide) (Nat.le_of_ble_eq_true rfl) rfl ?_
        refine j_iload_n C dX8_guards_65 2 rfl rfl ?_
        refine j_iload_n C dX8_guards_66 3 rfl rfl ?_
        refine j_iast C dX8_guards_67 kd_43 (Nat.le_of_ble_eq_true rfl) (fun S9 => ?_)
        refine j_iload_n C dX8_guards_68 0 rfl rfl ?_
        exact j_iret hR dX8_guards_69
      · refine j_bipush C dX8_guards_44 (v := -2) rfl ?_
        exact j_iret hR dX8_guards_46
    · refine j_sub C [] rfl ?_
      exact b_X8_guards_27 C hR S5
-- X8_seeds
abbrev rm_X8_seeds : Room := { frames := 0, cells := 0, slots := 0, locals := 0 }
def f_X8_seeds (x1 : Int32) (S : St) : Option (Int32 × St) :=
  lt (S.1 42 0) fun v1 =>
  lt (upI S 42 0 x1) fun S2 =>
  some (v1, S2)
set_option maxHeartbeats 1000000 in
theorem m_X8_seeds (adr : Nat → Nat) (x1 : Int32) : MtI yX8_seeds cX8_seeds 3 (some .int) rm_X8_seeds adr [.ref (adr 0), .int x1] (f_X8_seeds x1) := by
  refine MtI.of (by decide +kernel) (Nat.le_of_ble_eq_true rfl) (fun K r S C hR => ?_)
  refine j_start (lv' := [(0, .ref (adr 0)), (1, .int x1)]) rfl ?_
  unfold f_X8_seeds
  refine j_aload_n C dX8_seeds_0 0 rfl rfl ?_
  refine j_getr C dX8_seeds_1 fl_X8_26 kd_0 (by decide) (Nat.le_of_ble_eq_true rfl) rfl ?_
  refine j_geti C dX8_seeds_4 fl_X8_137 kd_42 (by decide) (Nat.le_of_ble_eq_true rfl) rfl ?_
  refine j_topi (fun v1 => ?_)
  refine j_istore_n C dX8_seeds_7 rfl (by decide) rfl ?_
  refine j_aload_n C dX8_seeds_8 1 rfl rfl ?_
  refine j_getr C dX8_seeds_9 fl_X8_26 kd_0 (by decide) (Nat.le_of_ble_eq_true rfl) rfl ?_
  refine j_iload_n C dX8_seeds_12 2 rfl rfl ?_
  refine j_puti C dX8_seeds_13 fl_X8_137 fi_X7_0 kd_42 (by decide) (Nat.le_of_ble_eq_true rfl) rfl (fun S2 => ?_)
  refine j_iload_n C dX8_seeds_16 0 rfl rfl ?_
  exact j_iret hR dX8_seeds_17
-- X1_bringBack
abbrev rm_X1_bringBack : Room := { frames := 2, cells := 0, slots := 0, locals := 39 }
def f_X1_bringBack_17 (s0 : Int32) (S : St) : Option (Int32 × St) :=
    ck s0 6 (if (S.1 17 2) = 0 then (some (0, S))
    else (bdV (f_X7_copyFrom 42 (59 + 17 * s0.toNatClampNeg) S) fun S2 =>
      lt (upI S2 17 1 s0) fun S3 =>
      lt (upI S3 17 2 ((S3.1 17 2) - 1)) fun S4 =>
      some (1, S4)))
set_option maxHeartbeats 1000000 in
theorem b_X1_bringBack_17 {K : Kt} {adr : Nat → Nat} {r : Int32 × St} (C : Cx K cX1_bringBack RX1 4 adr rm_X1_bringBack) (hR : ∀ (pc : Nat) (lv : List (Nat × Value)), (r.1 = 0 ∨ r.1 = 1) → decode cX1_bringBack pc = .ok (.ireturn, 1) → K pc lv [.int r.1] r.2) (s0 : Int32) (S : St) : J K r (f_X1_bringBack_17 s0 S) 17 [(0, .ref (adr 17)), (1, .ref (adr 42))] [.int s0] S := by
    unfold f_X1_bringBack_17
    refine j_istore_n C dX1_bringBack_17 rfl (by decide) rfl ?_
    refine j_aload_n C dX1_bringBack_18 1 rfl rfl ?_
    refine j_getr C dX1_bringBack_19 fl_X1_11 kd_17 (by decide) (Nat.le_of_ble_eq_true rfl) rfl ?_
    refine j_iload_n C dX1_bringBack_22 0 rfl rfl ?_
    refine j_aald C dX1_bringBack_23 kd_18 (Nat.le_of_ble_eq_true rfl) (b0 := 59) (by decide) (fun hN1 => ?_)
    refine j_astore_n C dX1_bringBack_24 rfl (by decide) rfl ?_
    refine j_aload_n C dX1_bringBack_25 2 rfl rfl ?_
    refine j_geti C dX1_bringBack_26 fl_X1_18 kd_17 (by decide) (Nat.le_of_ble_eq_true rfl) rfl ?_
    refine j_if_eq C dX1_bringBack_29 (tgt := 36) (by decide) ?_ ?_
    · refine j_iconst C dX1_bringBack_36 (v := 0) rfl ?_
      exact j_zret hR (by decide) dX1_bringBack_37
    · refine j_aload_n C dX1_bringBack_32 0 rfl rfl ?_
      refine j_ifnonnull C dX1_bringBack_33 (tgt := 38) (by decide) ?_
      refine j_aload_n C dX1_bringBack_38 3 rfl rfl ?_
      refine j_aload_n C dX1_bringBack_39 0 rfl rfl ?_
      refine j_cvv C dX1_bringBack_40 lk_X1_25 mw_X7_copyFrom (m_X7_copyFrom adr 42 (59 + 17 * s0.toNatClampNeg) trN (trR_59 hN1) ) ⟨rfl, rfl, Nat.le_of_ble_eq_true rfl, Nat.le_of_ble_eq_true rfl⟩ kd_42 (by decide) (Nat.le_of_ble_eq_true rfl) rfl rfl (st := []) (st0 := [.ref (adr (59 + 17 * s0.toNatClampNeg)), .ref (adr 42)]) rfl (Nat.le_of_ble_eq_true rfl) (fun S2 => ?_)
      refine j_aload_n C dX1_bringBack_43 2 rfl rfl ?_
      refine j_iload_n C dX1_bringBack_44 1 rfl rfl ?_
      refine j_puti C dX1_bringBack_45 fl_X1_22 fi_X1_1 kd_17 (by decide) (Nat.le_of_ble_eq_true rfl) rfl (fun S3 => ?_)
      refine j_aload_n C dX1_bringBack_48 2 rfl rfl ?_
      refine j_dup C dX1_bringBack_49 rfl ?_
      refine j_geti C dX1_bringBack_50 fl_X1_18 kd_17 (by decide) (Nat.le_of_ble_eq_true rfl) rfl ?_
      refine j_iconst C dX1_bringBack_53 (v := 1) rfl ?_
      refine j_isub C dX1_bringBack_54 ?_
      refine j_puti C dX1_bringBack_55 fl_X1_18 fi_X1_2 kd_17 (by decide) (Nat.le_of_ble_eq_true rfl) rfl (fun S4 => ?_)
      refine j_iconst C dX1_bringBack_58 (v := 1) rfl ?_
      exact j_zret hR (by decide) dX1_bringBack_59
def f_X1_bringBack  (S : St) : Option (Int32 × St) :=
  if (S.1 17 1) ≤ 0 then (f_X1_bringBack_17 5 S)
  else (f_X1_bringBack_17 ((S.1 17 1) - 1) S)
set_option maxHeartbeats 1000000 in
theorem m_X1_bringBack (adr : Nat → Nat)  : MtI yX1_bringBack cX1_bringBack 4 (some .boolean) rm_X1_bringBack adr [.ref (adr 17), .ref (adr 42)] (f_X1_bringBack ) := by
  refine MtI.ofZ (by decide +kernel) (Nat.le_of_ble_eq_true rfl) (fun K r S C hR => ?_)
  refine j_start (lv' := [(0, .ref (adr 17)), (1, .ref (adr 42))]) rfl ?_
  unfold f_X1_bringBack
  refine j_aload_n C dX1_bringBack_0 0 rfl rfl ?_
  refine j_geti C dX1_bringBack_1 fl_X1_22 kd_17 (by decide) (Nat.le_of_ble_eq_true rfl) rfl ?_
  refine j_if_le C dX1_bringBack_4 (tgt := 16) (by decide) ?_ ?_
  · refine j_iconst C dX1_bringBack_16 (v := 5) rfl ?_
    exact b_X1_bringBack_17 C hR 5 S
  · refine j_aload_n C dX1_bringBack_7 0 rfl rfl ?_
    refine j_geti C dX1_bringBack_8 fl_X1_22 kd_17 (by decide) (Nat.le_of_ble_eq_true rfl) rfl ?_
    refine j_iconst C dX1_bringBack_11 (v := 1) rfl ?_
    refine j_isub C dX1_bringBack_12 ?_
    refine j_goto C dX1_bringBack_13 (tgt := 17) (by decide) ?_
    exact b_X1_bringBack_17 C hR ((S.1 17 1) - 1) S
-- X8_undo
abbrev rm_X8_undo : Room := { frames := 3, cells := 0, slots := 0, locals := 62 }
def f_X8_undo_26 (s0 : Int32) (S : St) : Option (Int32 × St) :=
    some (s0, S)
set_option maxHeartbeats 1000000 in
theorem b_X8_undo_26 {K : Kt} {adr : Nat → Nat} {r : Int32 × St} (C : Cx K cX8_undo RX8 1 adr rm_X8_undo) (hR : ∀ (pc : Nat) (lv : List (Nat × Value)), decode cX8_undo pc = .ok (.ireturn, 1) → K pc lv [.int r.1] r.2) (s0 : Int32) (S : St) : J K r (f_X8_undo_26 s0 S) 26 [] [.int s0] S := by
    unfold f_X8_undo_26
    exact j_iret hR dX8_undo_26
def f_X8_undo  (S : St) : Option (Int32 × St) :=
  bd (f_X1_bringBack S) fun v2 S1 =>
  if v2 = 0 then (f_X8_undo_26 (-2) S1)
  else (f_X8_undo_26 (S1.1 17 2) S1)
set_option maxHeartbeats 1000000 in
theorem m_X8_undo (adr : Nat → Nat)  : MtI yX8_undo cX8_undo 1 (some .int) rm_X8_undo adr [.ref (adr 0)] (f_X8_undo ) := by
  refine MtI.of (by decide +kernel) (Nat.le_of_ble_eq_true rfl) (fun K r S C hR => ?_)
  refine j_start (lv' := [(0, .ref (adr 0))]) rfl ?_
  unfold f_X8_undo
  refine j_aload_n C dX8_undo_0 0 rfl rfl ?_
  refine j_getr C dX8_undo_1 fl_X8_42 kd_0 (by decide) (Nat.le_of_ble_eq_true rfl) rfl ?_
  refine j_aload_n C dX8_undo_4 0 rfl rfl ?_
  refine j_getr C dX8_undo_5 fl_X8_26 kd_0 (by decide) (Nat.le_of_ble_eq_true rfl) rfl ?_
  refine j_cvi C dX8_undo_8 lk_X8_140 mw_X1_bringBack (m_X1_bringBack adr ) ⟨rfl, rfl, Nat.le_of_ble_eq_true rfl, Nat.le_of_ble_eq_true rfl⟩ kd_17 (by decide) (Nat.le_of_ble_eq_true rfl) rfl rfl (st := []) (st0 := [.ref (adr 42), .ref (adr 17)]) rfl (Nat.le_of_ble_eq_true rfl) (fun v2 S1 => ?_)
  refine j_if_eq C dX8_undo_11 (tgt := 24) (by decide) ?_ ?_
  · refine j_bipush C dX8_undo_24 (v := -2) rfl ?_
    refine j_sub C [] rfl ?_
    exact b_X8_undo_26 C hR (-2) S1
  · refine j_aload_n C dX8_undo_14 0 rfl rfl ?_
    refine j_getr C dX8_undo_15 fl_X8_42 kd_0 (by decide) (Nat.le_of_ble_eq_true rfl) rfl ?_
    refine j_geti C dX8_undo_18 fl_X8_144 kd_17 (by decide) (Nat.le_of_ble_eq_true rfl) rfl ?_
    refine j_goto C dX8_undo_21 (tgt := 26) (by decide) ?_
    refine j_sub C [] rfl ?_
    exact b_X8_undo_26 C hR (S1.1 17 2) S1
-- X8_cell
abbrev rm_X8_cell : Room := { frames := 4, cells := 0, slots := 0, locals := 86 }
def f_X8_cell_141 (s0 : Int32) (S : St) : Option (Int32 × St) :=
    some (s0, S)
set_option maxHeartbeats 1000000 in
theorem b_X8_cell_141 {K : Kt} {adr : Nat → Nat} {r : Int32 × St} (C : Cx K cX8_cell RX8 3 adr rm_X8_cell) (hR : ∀ (pc : Nat) (lv : List (Nat × Value)), decode cX8_cell pc = .ok (.ireturn, 1) → K pc lv [.int r.1] r.2) (s0 : Int32) (S : St) : J K r (f_X8_cell_141 s0 S) 141 [] [.int s0] S := by
    unfold f_X8_cell_141
    exact j_iret hR dX8_cell_141
def f_X8_cell (x1 : Int32) (x2 : Int32) (S : St) : Option (Int32 × St) :=
  bd (f_X6_has_9 x1 S) fun v2 S1 =>
  if v2 = 0 then (some ((-1), S1))
  else (sw x2 0 5 (bd (f_X8_within x2 6 11 S1) fun v4 S3 =>
      if v4 = 0 then (f_X8_cell_141 (-1) S3)
      else (ck (((x1 * 6) + x2) - 6) 24 (f_X8_cell_141 (S3.1 44 (((x1 * 6) + x2) - 6).toNatClampNeg) S3))) fun i => match i with
      | 0 => ck x1 4 (some (S1.1 10 x1.toNatClampNeg, S1))
      | 1 => ck x1 4 (some (S1.1 43 x1.toNatClampNeg, S1))
      | 2 => ck x1 4 (some (S1.1 12 x1.toNatClampNeg, S1))
      | 3 => bd (f_X7_busy x1 S1) fun v6 S5 =>
        some (v6, S5)
      | 4 => bd (f_X7_waiting x1 S1) fun v8 S7 =>
        some (v8, S7)
      | 5 => bd (f_X0_chanceOf x1 S1) fun v10 S9 =>
        some (v10, S9)
      | _ => none)
set_option maxHeartbeats 1000000 in
theorem m_X8_cell (adr : Nat → Nat) (x1 : Int32) (x2 : Int32) : MtI yX8_cell cX8_cell 3 (some .int) rm_X8_cell adr [.ref (adr 0), .int x1, .int x2] (f_X8_cell x1 x2) := by
  refine MtI.of (by decide +kernel) (Nat.le_of_ble_eq_true rfl) (fun K r S C hR => ?_)
  refine j_start (lv' := [(0, .ref (adr 0)), (1, .int x1), (2, .int x2)]) rfl ?_
  unfold f_X8_cell
  refine j_aload_n C dX8_cell_0 0 rfl rfl ?_
  refine j_getr C dX8_cell_1 fl_X8_19 kd_0 (by decide) (Nat.le_of_ble_eq_true rfl) rfl ?_
  refine j_iload_n C dX8_cell_4 1 rfl rfl ?_
  refine j_cvi C dX8_cell_5 lk_X8_100 mw_X6_has (m_X6_has_9 adr x1) ⟨rfl, rfl, Nat.le_of_ble_eq_true rfl, Nat.le_of_ble_eq_true rfl⟩ kd_9 (by decide) (Nat.le_of_ble_eq_true rfl) rfl rfl (st := []) (st0 := [.int x1, .ref (adr 9)]) rfl (Nat.le_of_ble_eq_true rfl) (fun v2 S1 => ?_)
  refine j_if_ne C dX8_cell_8 (tgt := 13) (by decide) ?_ ?_
  · refine j_iload_n C dX8_cell_13 2 rfl rfl ?_
    refine j_table C dX8_cell_14 (tgt := 109) (by decide) ?_ ?_
    · refine j_iload_n C dX8_cell_109 2 rfl rfl ?_
      refine j_bipush C dX8_cell_110 (v := 6) rfl ?_
      refine j_bipush C dX8_cell_112 (v := 11) rfl ?_
      refine j_csi C dX8_cell_114 lk_X8_67 mw_X8_within (m_X8_within adr x2 6 11) ⟨rfl, rfl, Nat.le_of_ble_eq_true rfl, Nat.le_of_ble_eq_true rfl⟩ rfl (st := []) (st0 := [.int 11, .int 6, .int x2]) rfl (Nat.le_of_ble_eq_true rfl) (fun v4 S3 => ?_)
      refine j_if_eq C dX8_cell_117 (tgt := 140) (by decide) ?_ ?_
      · refine j_iconst C dX8_cell_140 (v := -1) rfl ?_
        refine j_sub C [] rfl ?_
        exact b_X8_cell_141 C hR (-1) S3
      · refine j_aload_n C dX8_cell_120 0 rfl rfl ?_
        refine j_getr C dX8_cell_121 fl_X8_26 kd_0 (by decide) (Nat.le_of_ble_eq_true rfl) rfl ?_
        refine j_getr C dX8_cell_124 fl_X8_162 kd_42 (by decide) (Nat.le_of_ble_eq_true rfl) rfl ?_
        refine j_iload_n C dX8_cell_127 1 rfl rfl ?_
        refine j_bipush C dX8_cell_128 (v := 6) rfl ?_
        refine j_imul C dX8_cell_130 ?_
        refine j_iload_n C dX8_cell_131 2 rfl rfl ?_
        refine j_iadd C dX8_cell_132 ?_
        refine j_bipush C dX8_cell_133 (v := 6) rfl ?_
        refine j_isub C dX8_cell_135 ?_
        refine j_iald C dX8_cell_136 kd_44 (Nat.le_of_ble_eq_true rfl) ?_
        refine j_goto C dX8_cell_137 (tgt := 141) (by decide) ?_
        refine j_sub C [] rfl ?_
        exact b_X8_cell_141 C hR (S3.1 44 (((x1 * 6) + x2) - 6).toNatClampNeg) S3
    · intro i hi
      exact match i, hi with
      | 0, _ => ⟨_, 52, rfl, by decide, by
        refine j_aload_n C dX8_cell_52 0 rfl rfl ?_
        refine j_getr C dX8_cell_53 fl_X8_19 kd_0 (by decide) (Nat.le_of_ble_eq_true rfl) rfl ?_
        refine j_getr C dX8_cell_56 fl_X8_147 kd_9 (by decide) (Nat.le_of_ble_eq_true rfl) rfl ?_
        refine j_iload_n C dX8_cell_59 1 rfl rfl ?_
        refine j_iald C dX8_cell_60 kd_10 (Nat.le_of_ble_eq_true rfl) ?_
        exact j_iret hR dX8_cell_61⟩
      | 1, _ => ⟨_, 62, rfl, by decide, by
        refine j_aload_n C dX8_cell_62 0 rfl rfl ?_
        refine j_getr C dX8_cell_63 fl_X8_26 kd_0 (by decide) (Nat.le_of_ble_eq_true rfl) rfl ?_
        refine j_getr C dX8_cell_66 fl_X8_133 kd_42 (by decide) (Nat.le_of_ble_eq_true rfl) rfl ?_
        refine j_iload_n C dX8_cell_69 1 rfl rfl ?_
        refine j_iald C dX8_cell_70 kd_43 (Nat.le_of_ble_eq_true rfl) ?_
        exact j_iret hR dX8_cell_71⟩
      | 2, _ => ⟨_, 72, rfl, by decide, by
        refine j_aload_n C dX8_cell_72 0 rfl rfl ?_
        refine j_getr C dX8_cell_73 fl_X8_19 kd_0 (by decide) (Nat.le_of_ble_eq_true rfl) rfl ?_
        refine j_getr C dX8_cell_76 fl_X8_150 kd_9 (by decide) (Nat.le_of_ble_eq_true rfl) rfl ?_
        refine j_iload_n C dX8_cell_79 1 rfl rfl ?_
        refine j_iald C dX8_cell_80 kd_12 (Nat.le_of_ble_eq_true rfl) ?_
        exact j_iret hR dX8_cell_81⟩
      | 3, _ => ⟨_, 82, rfl, by decide, by
        refine j_aload_n C dX8_cell_82 0 rfl rfl ?_
        refine j_getr C dX8_cell_83 fl_X8_26 kd_0 (by decide) (Nat.le_of_ble_eq_true rfl) rfl ?_
        refine j_iload_n C dX8_cell_86 1 rfl rfl ?_
        refine j_cvi C dX8_cell_87 lk_X8_153 mw_X7_busy (m_X7_busy adr x1) ⟨rfl, rfl, Nat.le_of_ble_eq_true rfl, Nat.le_of_ble_eq_true rfl⟩ kd_42 (by decide) (Nat.le_of_ble_eq_true rfl) rfl rfl (st := []) (st0 := [.int x1, .ref (adr 42)]) rfl (Nat.le_of_ble_eq_true rfl) (fun v6 S5 => ?_)
        exact j_iret hR dX8_cell_90⟩
      | 4, _ => ⟨_, 91, rfl, by decide, by
        refine j_aload_n C dX8_cell_91 0 rfl rfl ?_
        refine j_getr C dX8_cell_92 fl_X8_26 kd_0 (by decide) (Nat.le_of_ble_eq_true rfl) rfl ?_
        refine j_iload_n C dX8_cell_95 1 rfl rfl ?_
        refine j_cvi C dX8_cell_96 lk_X8_156 mw_X7_waiting (m_X7_waiting adr x1) ⟨rfl, rfl, Nat.le_of_ble_eq_true rfl, Nat.le_of_ble_eq_true rfl⟩ kd_42 (by decide) (Nat.le_of_ble_eq_true rfl) rfl rfl (st := []) (st0 := [.int x1, .ref (adr 42)]) rfl (Nat.le_of_ble_eq_true rfl) (fun v8 S7 => ?_)
        exact j_iret hR dX8_cell_99⟩
      | 5, _ => ⟨_, 100, rfl, by decide, by
        refine j_aload_n C dX8_cell_100 0 rfl rfl ?_
        refine j_getr C dX8_cell_101 fl_X8_35 kd_0 (by decide) (Nat.le_of_ble_eq_true rfl) rfl ?_
        refine j_iload_n C dX8_cell_104 1 rfl rfl ?_
        refine j_cvi C dX8_cell_105 lk_X8_159 mw_X0_chanceOf (m_X0_chanceOf adr x1) ⟨rfl, rfl, Nat.le_of_ble_eq_true rfl, Nat.le_of_ble_eq_true rfl⟩ kd_14 (by decide) (Nat.le_of_ble_eq_true rfl) rfl rfl (st := []) (st0 := [.int x1, .ref (adr 14)]) rfl (Nat.le_of_ble_eq_true rfl) (fun v10 S9 => ?_)
        exact j_iret hR dX8_cell_108⟩
      | i + 6, hi => absurd hi (by omega)
  · refine j_iconst C dX8_cell_11 (v := -1) rfl ?_
    exact j_iret hR dX8_cell_12
-- X8_call
abbrev rm_X8_call : Room := { frames := 1, cells := 0, slots := 0, locals := 21 }
def f_X8_call (x1 : Int32) (x2 : Int32) (S : St) : Option (Int32 × St) :=
  bd (f_X7_has x1 S) fun v2 S1 =>
  if v2 = 0 then (some ((-1000000), S1))
  else (sw x2 0 6 (some ((-1000000), S1)) fun i => match i with
      | 0 => ck x1 12 (some (S1.1 45 x1.toNatClampNeg, S1))
      | 1 => ck x1 12 (some (S1.1 46 x1.toNatClampNeg, S1))
      | 2 => ck x1 12 (some (S1.1 48 x1.toNatClampNeg, S1))
      | 3 => ck x1 12 (some (S1.1 50 x1.toNatClampNeg, S1))
      | 4 => ck x1 12 (some (S1.1 51 x1.toNatClampNeg, S1))
      | 5 => ck x1 12 (some (S1.1 52 x1.toNatClampNeg, S1))
      | 6 => ck x1 12 (some (S1.1 53 x1.toNatClampNeg, S1))
      | _ => none)
set_option maxHeartbeats 1000000 in
theorem m_X8_call (adr : Nat → Nat) (x1 : Int32) (x2 : Int32) : MtI yX8_call cX8_call 3 (some .int) rm_X8_call adr [.ref (adr 0), .int x1, .int x2] (f_X8_call x1 x2) := by
  refine MtI.of (by decide +kernel) (Nat.le_of_ble_eq_true rfl) (fun K r S C hR => ?_)
  refine j_start (lv' := [(0, .ref (adr 0)), (1, .int x1), (2, .int x2)]) rfl ?_
  unfold f_X8_call
  refine j_aload_n C dX8_call_0 0 rfl rfl ?_
  refine j_getr C dX8_call_1 fl_X8_26 kd_0 (by decide) (Nat.le_of_ble_eq_true rfl) rfl ?_
  refine j_iload_n C dX8_call_4 1 rfl rfl ?_
  refine j_cvi C dX8_call_5 lk_X8_114 mw_X7_has (m_X7_has adr x1) ⟨rfl, rfl, Nat.le_of_ble_eq_true rfl, Nat.le_of_ble_eq_true rfl⟩ kd_42 (by decide) (Nat.le_of_ble_eq_true rfl) rfl rfl (st := []) (st0 := [.int x1, .ref (adr 42)]) rfl (Nat.le_of_ble_eq_true rfl) (fun v2 S1 => ?_)
  refine j_if_ne C dX8_call_8 (tgt := 14) (by decide) ?_ ?_
  · refine j_iload_n C dX8_call_14 2 rfl rfl ?_
    refine j_table C dX8_call_15 (tgt := 126) (by decide) ?_ ?_
    · refine j_ldc C dX8_call_126 kc_X8_165 ?_
      exact j_iret hR dX8_call_128
    · intro i hi
      exact match i, hi with
      | 0, _ => ⟨_, 56, rfl, by decide, by
        refine j_aload_n C dX8_call_56 0 rfl rfl ?_
        refine j_getr C dX8_call_57 fl_X8_26 kd_0 (by decide) (Nat.le_of_ble_eq_true rfl) rfl ?_
        refine j_getr C dX8_call_60 fl_X8_166 kd_42 (by decide) (Nat.le_of_ble_eq_true rfl) rfl ?_
        refine j_iload_n C dX8_call_63 1 rfl rfl ?_
        refine j_iald C dX8_call_64 kd_45 (Nat.le_of_ble_eq_true rfl) ?_
        exact j_iret hR dX8_call_65⟩
      | 1, _ => ⟨_, 66, rfl, by decide, by
        refine j_aload_n C dX8_call_66 0 rfl rfl ?_
        refine j_getr C dX8_call_67 fl_X8_26 kd_0 (by decide) (Nat.le_of_ble_eq_true rfl) rfl ?_
        refine j_getr C dX8_call_70 fl_X8_169 kd_42 (by decide) (Nat.le_of_ble_eq_true rfl) rfl ?_
        refine j_iload_n C dX8_call_73 1 rfl rfl ?_
        refine j_iald C dX8_call_74 kd_46 (Nat.le_of_ble_eq_true rfl) ?_
        exact j_iret hR dX8_call_75⟩
      | 2, _ => ⟨_, 76, rfl, by decide, by
        refine j_aload_n C dX8_call_76 0 rfl rfl ?_
        refine j_getr C dX8_call_77 fl_X8_26 kd_0 (by decide) (Nat.le_of_ble_eq_true rfl) rfl ?_
        refine j_getr C dX8_call_80 fl_X8_172 kd_42 (by decide) (Nat.le_of_ble_eq_true rfl) rfl ?_
        refine j_iload_n C dX8_call_83 1 rfl rfl ?_
        refine j_iald C dX8_call_84 kd_48 (Nat.le_of_ble_eq_true rfl) ?_
        exact j_iret hR dX8_call_85⟩
      | 3, _ => ⟨_, 86, rfl, by decide, by
        refine j_aload_n C dX8_call_86 0 rfl rfl ?_
        refine j_getr C dX8_call_87 fl_X8_26 kd_0 (by decide) (Nat.le_of_ble_eq_true rfl) rfl ?_
        refine j_getr C dX8_call_90 fl_X8_175 kd_42 (by decide) (Nat.le_of_ble_eq_true rfl) rfl ?_
        refine j_iload_n C dX8_call_93 1 rfl rfl ?_
        refine j_iald C dX8_call_94 kd_50 (Nat.le_of_ble_eq_true rfl) ?_
        exact j_iret hR dX8_call_95⟩
      | 4, _ => ⟨_, 96, rfl, by decide, by
        refine j_aload_n C dX8_call_96 0 rfl rfl ?_
        refine j_getr C dX8_call_97 fl_X8_26 kd_0 (by decide) (Nat.le_of_ble_eq_true rfl) rfl ?_
        refine j_getr C dX8_call_100 fl_X8_178 kd_42 (by decide) (Nat.le_of_ble_eq_true rfl) rfl ?_
        refine j_iload_n C dX8_call_103 1 rfl rfl ?_
        refine j_iald C dX8_call_104 kd_51 (Nat.le_of_ble_eq_true rfl) ?_
        exact j_iret hR dX8_call_105⟩
      | 5, _ => ⟨_, 106, rfl, by decide, by
        refine j_aload_n C dX8_call_106 0 rfl rfl ?_
        refine j_getr C dX8_call_107 fl_X8_26 kd_0 (by decide) (Nat.le_of_ble_eq_true rfl) rfl ?_
        refine j_getr C dX8_call_110 fl_X8_181 kd_42 (by decide) (Nat.le_of_ble_eq_true rfl) rfl ?_
        refine j_iload_n C dX8_call_113 1 rfl rfl ?_
        refine j_iald C dX8_call_114 kd_52 (Nat.le_of_ble_eq_true rfl) ?_
        exact j_iret hR dX8_call_115⟩
      | 6, _ => ⟨_, 116, rfl, by decide, by
        refine j_aload_n C dX8_call_116 0 rfl rfl ?_
        refine j_getr C dX8_call_117 fl_X8_26 kd_0 (by decide) (Nat.le_of_ble_eq_true rfl) rfl ?_
        refine j_getr C dX8_call_120 fl_X8_184 kd_42 (by decide) (Nat.le_of_ble_eq_true rfl) rfl ?_
        refine j_iload_n C dX8_call_123 1 rfl rfl ?_
        refine j_iald C dX8_call_124 kd_53 (Nat.le_of_ble_eq_true rfl) ?_
        exact j_iret hR dX8_call_125⟩
      | i + 7, hi => absurd hi (by omega)
  · refine j_ldc C dX8_call_11 kc_X8_165 ?_
    exact j_iret hR dX8_call_13
