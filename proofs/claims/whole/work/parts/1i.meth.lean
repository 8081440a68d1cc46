-- X8_lost
abbrev rm_X8_lost : Room := { frames := 4, cells := 0, slots := 0, locals := 85 }
def f_X8_lost_128 (x11 : Int64) (s0 : Int64) (S : St) : Option (Int64 × St) :=
    nzL x11 (some (s0 / x11, S))
set_option maxHeartbeats 1000000 in
theorem b_X8_lost_128 {K : Kt} {adr : Nat → Nat} {r : Int64 × St} (C : Cx K cX8_lost RX8 13 adr rm_X8_lost) (hR : ∀ (pc : Nat) (lv : List (Nat × Value)), decode cX8_lost pc = .ok (.lreturn, 1) → K pc lv [.long r.1] r.2) (x11 : Int64) (s0 : Int64) (S : St) : J K r (f_X8_lost_128 x11 s0 S) 128 [(11, .long x11)] [.long s0] S := by
    unfold f_X8_lost_128
    refine j_lload C dX8_lost_128 0 rfl ?_
    refine j_ldiv C dX8_lost_130 ?_
    exact j_lret hR dX8_lost_131
def f_X8_lost_41  (S : St) : Option (Int64 × St) :=
    some ((-1), S)
set_option maxHeartbeats 1000000 in
theorem b_X8_lost_41 {K : Kt} {adr : Nat → Nat} {r : Int64 × St} (C : Cx K cX8_lost RX8 13 adr rm_X8_lost) (hR : ∀ (pc : Nat) (lv : List (Nat × Value)), decode cX8_lost pc = .ok (.lreturn, 1) → K pc lv [.long r.1] r.2)  (S : St) : J K r (f_X8_lost_41  S) 41 [] [] S := by
    unfold f_X8_lost_41
    refine j_ldc2 C dX8_lost_41 kc_X8_211 ?_
    exact j_lret hR dX8_lost_44
def f_X8_lost (x1 : Int32) (x2 : Int32) (x3 : Int32) (x4 : Int32) (x5 : Int32) (x6 : Int32) (S : St) : Option (Int64 × St) :=
  bd (f_X6_has_9 x1 S) fun v2 S1 =>
  if v2 = 0 then (f_X8_lost_41 S1)
  else (bd (f_X8_areRates x2 x3 x4 S1) fun v4 S3 =>
    if v4 = 0 then (f_X8_lost_41 S3)
    else (bd (f_X8_within x5 0 2 S3) fun v6 S5 =>
      if v6 = 0 then (f_X8_lost_41 S5)
      else (bd (f_X8_within x6 0 1 S5) fun v8 S7 =>
        if v8 = 0 then (f_X8_lost_41 S7)
        else (ck x1 4 (ck x1 4 (bdV (f_X3_weigh (S7.1 10 x1.toNatClampNeg) (S7.1 43 x1.toNatClampNeg) x2 x3 x4 S7) fun S9 =>
          bd (f_X3_upper x5 S9) fun v11 S10 =>
          bd (f_X3_lower x5 S10) fun v13 S12 =>
          bd (f_X8_commonDivisor v11 v13 S12) fun v15 S14 =>
          if 0 < (lg_cmp v15 0) then (if x6 = 0 then (f_X8_lost_128 v15 v11 S14)
            else (f_X8_lost_128 v15 v13 S14))
          else (some ((-1), S14))))))))
set_option maxHeartbeats 1000000 in
theorem m_X8_lost (adr : Nat → Nat) (x1 : Int32) (x2 : Int32) (x3 : Int32) (x4 : Int32) (x5 : Int32) (x6 : Int32) : MtL yX8_lost cX8_lost 13 (some .long) rm_X8_lost adr [.ref (adr 0), .int x1, .int x2, .int x3, .int x4, .int x5, .int x6] (f_X8_lost x1 x2 x3 x4 x5 x6) := by
  refine MtL.of (by decide +kernel) (Nat.le_of_ble_eq_true rfl) (fun K r S C hR => ?_)
  refine j_start (lv' := [(0, .ref (adr 0)), (1, .int x1), (2, .int x2), (3, .int x3), (4, .int x4), (5, .int x5), (6, .int x6)]) rfl ?_
  unfold f_X8_lost
  refine j_aload_n C dX8_lost_0 0 rfl rfl ?_
  refine j_getr C dX8_lost_1 fl_X8_19 kd_0 (by decide) (Nat.le_of_ble_eq_true rfl) rfl ?_
  refine j_iload_n C dX8_lost_4 1 rfl rfl ?_
  refine j_cvi C dX8_lost_5 lk_X8_100 mw_X6_has (m_X6_has_9 adr x1) ⟨rfl, rfl, Nat.le_of_ble_eq_true rfl, Nat.le_of_ble_eq_true rfl⟩ kd_9 (by decide) (Nat.le_of_ble_eq_true rfl) rfl rfl (st := []) (st0 := [.int x1, .ref (adr 9)]) rfl (Nat.le_of_ble_eq_true rfl) (fun v2 S1 => ?_)
  refine j_if_eq C dX8_lost_8 (tgt := 41) (by decide) ?_ ?_
  · refine j_sub C [] rfl ?_
    exact b_X8_lost_41 C hR S1
  · refine j_iload_n C dX8_lost_11 2 rfl rfl ?_
    refine j_iload_n C dX8_lost_12 3 rfl rfl ?_
    refine j_iload C dX8_lost_13 4 rfl ?_
    refine j_csi C dX8_lost_15 lk_X8_208 mw_X8_areRates (m_X8_areRates adr x2 x3 x4) ⟨rfl, rfl, Nat.le_of_ble_eq_true rfl, Nat.le_of_ble_eq_true rfl⟩ rfl (st := []) (st0 := [.int x4, .int x3, .int x2]) rfl (Nat.le_of_ble_eq_true rfl) (fun v4 S3 => ?_)
    refine j_if_eq C dX8_lost_18 (tgt := 41) (by decide) ?_ ?_
    · refine j_sub C [] rfl ?_
      exact b_X8_lost_41 C hR S3
    · refine j_iload C dX8_lost_21 5 rfl ?_
      refine j_iconst C dX8_lost_23 (v := 0) rfl ?_
      refine j_iconst C dX8_lost_24 (v := 2) rfl ?_
      refine j_csi C dX8_lost_25 lk_X8_67 mw_X8_within (m_X8_within adr x5 0 2) ⟨rfl, rfl, Nat.le_of_ble_eq_true rfl, Nat.le_of_ble_eq_true rfl⟩ rfl (st := []) (st0 := [.int 2, .int 0, .int x5]) rfl (Nat.le_of_ble_eq_true rfl) (fun v6 S5 => ?_)
      refine j_if_eq C dX8_lost_28 (tgt := 41) (by decide) ?_ ?_
      · refine j_sub C [] rfl ?_
        exact b_X8_lost_41 C hR S5
      · refine j_iload C dX8_lost_31 6 rfl ?_
        refine j_iconst C dX8_lost_33 (v := 0) rfl ?_
        refine j_iconst C dX8_lost_34 (v := 1) rfl ?_
        refine j_csi C dX8_lost_35 lk_X8_67 mw_X8_within (m_X8_within adr x6 0 1) ⟨rfl, rfl, Nat.le_of_ble_eq_true rfl, Nat.le_of_ble_eq_true rfl⟩ rfl (st := []) (st0 := [.int 1, .int 0, .int x6]) rfl (Nat.le_of_ble_eq_true rfl) (fun v8 S7 => ?_)
        refine j_if_ne C dX8_lost_38 (tgt := 45) (by decide) ?_ ?_
        · refine j_aload_n C dX8_lost_45 0 rfl rfl ?_
          refine j_getr C dX8_lost_46 fl_X8_56 kd_0 (by decide) (Nat.le_of_ble_eq_true rfl) rfl ?_
          refine j_aload_n C dX8_lost_49 0 rfl rfl ?_
          refine j_getr C dX8_lost_50 fl_X8_19 kd_0 (by decide) (Nat.le_of_ble_eq_true rfl) rfl ?_
          refine j_getr C dX8_lost_53 fl_X8_147 kd_9 (by decide) (Nat.le_of_ble_eq_true rfl) rfl ?_
          refine j_iload_n C dX8_lost_56 1 rfl rfl ?_
          refine j_iald C dX8_lost_57 kd_10 (Nat.le_of_ble_eq_true rfl) ?_
          refine j_aload_n C dX8_lost_58 0 rfl rfl ?_
          refine j_getr C dX8_lost_59 fl_X8_26 kd_0 (by decide) (Nat.le_of_ble_eq_true rfl) rfl ?_
          refine j_getr C dX8_lost_62 fl_X8_133 kd_42 (by decide) (Nat.le_of_ble_eq_true rfl) rfl ?_
          refine j_iload_n C dX8_lost_65 1 rfl rfl ?_
          refine j_iald C dX8_lost_66 kd_43 (Nat.le_of_ble_eq_true rfl) ?_
          refine j_iload_n C dX8_lost_67 2 rfl rfl ?_
          refine j_iload_n C dX8_lost_68 3 rfl rfl ?_
          refine j_iload C dX8_lost_69 4 rfl ?_
          refine j_cvv C dX8_lost_71 lk_X8_213 mw_X3_weigh (m_X3_weigh adr (S7.1 10 x1.toNatClampNeg) (S7.1 43 x1.toNatClampNeg) x2 x3 x4) ⟨rfl, rfl, Nat.le_of_ble_eq_true rfl, Nat.le_of_ble_eq_true rfl⟩ kd_22 (by decide) (Nat.le_of_ble_eq_true rfl) rfl rfl (st := []) (st0 := [.int x4, .int x3, .int x2, .int (S7.1 43 x1.toNatClampNeg), .int (S7.1 10 x1.toNatClampNeg), .ref (adr 22)]) rfl (Nat.le_of_ble_eq_true rfl) (fun S9 => ?_)
          refine j_aload_n C dX8_lost_74 0 rfl rfl ?_
          refine j_getr C dX8_lost_75 fl_X8_56 kd_0 (by decide) (Nat.le_of_ble_eq_true rfl) rfl ?_
          refine j_iload C dX8_lost_78 5 rfl ?_
          refine j_cvl C dX8_lost_80 lk_X8_217 mw_X3_upper (m_X3_upper adr x5) ⟨rfl, rfl, Nat.le_of_ble_eq_true rfl, Nat.le_of_ble_eq_true rfl⟩ kd_22 (by decide) (Nat.le_of_ble_eq_true rfl) rfl rfl (st := []) (st0 := [.int x5, .ref (adr 22)]) rfl (Nat.le_of_ble_eq_true rfl) (fun v11 S10 => ?_)
          refine j_lstore C dX8_lost_83 (by decide) rfl ?_
          refine j_aload_n C dX8_lost_85 1 rfl rfl ?_
          refine j_getr C dX8_lost_86 fl_X8_56 kd_0 (by decide) (Nat.le_of_ble_eq_true rfl) rfl ?_
          refine j_iload C dX8_lost_89 6 rfl ?_
          refine j_cvl C dX8_lost_91 lk_X8_221 mw_X3_lower (m_X3_lower adr x5) ⟨rfl, rfl, Nat.le_of_ble_eq_true rfl, Nat.le_of_ble_eq_true rfl⟩ kd_22 (by decide) (Nat.le_of_ble_eq_true rfl) rfl rfl (st := []) (st0 := [.int x5, .ref (adr 22)]) rfl (Nat.le_of_ble_eq_true rfl) (fun v13 S12 => ?_)
          refine j_lstore C dX8_lost_94 (by decide) rfl ?_
          refine j_lload C dX8_lost_96 1 rfl ?_
          refine j_lload C dX8_lost_98 0 rfl ?_
          refine j_csl C dX8_lost_100 lk_X8_224 mw_X8_commonDivisor (m_X8_commonDivisor adr v11 v13) ⟨rfl, rfl, Nat.le_of_ble_eq_true rfl, Nat.le_of_ble_eq_true rfl⟩ rfl (st := []) (st0 := [.long v13, .long v11]) rfl (Nat.le_of_ble_eq_true rfl) (fun v15 S14 => ?_)
          refine j_lstore C dX8_lost_103 (by decide) rfl ?_
          refine j_lload C dX8_lost_105 0 rfl ?_
          refine j_lconst C dX8_lost_107 (v := 0) rfl ?_
          refine j_lcmp C dX8_lost_108 ?_
          refine j_if_gt C dX8_lost_109 (tgt := 116) (by decide) ?_ ?_
          · refine j_iload C dX8_lost_116 9 rfl ?_
            refine j_if_ne C dX8_lost_118 (tgt := 126) (by decide) ?_ ?_
            · refine j_lload C dX8_lost_126 1 rfl ?_
              refine j_sub C [0] rfl ?_
              exact b_X8_lost_128 C hR v15 v13 S14
            · refine j_lload C dX8_lost_121 2 rfl ?_
              refine j_goto C dX8_lost_123 (tgt := 128) (by decide) ?_
              refine j_sub C [0] rfl ?_
              exact b_X8_lost_128 C hR v15 v11 S14
          · refine j_ldc2 C dX8_lost_112 kc_X8_211 ?_
            exact j_lret hR dX8_lost_115
        · refine j_sub C [] rfl ?_
          exact b_X8_lost_41 C hR S7
-- X3_losesMovingAtMostOnceIn
abbrev rm_X3_losesMovingAtMostOnceIn : Room := { frames := 4, cells := 0, slots := 0, locals := 80 }
def f_X3_losesMovingAtMostOnceIn_22 (s0 : Int32) (S : St) : Option (Int32 × St) :=
    bz s0 (some (s0, S))
set_option maxHeartbeats 1000000 in
theorem b_X3_losesMovingAtMostOnceIn_22 {K : Kt} {adr : Nat → Nat} {r : Int32 × St} (C : Cx K cX3_losesMovingAtMostOnceIn RX3 2 adr rm_X3_losesMovingAtMostOnceIn) (hR : ∀ (pc : Nat) (lv : List (Nat × Value)), (r.1 = 0 ∨ r.1 = 1) → decode cX3_losesMovingAtMostOnceIn pc = .ok (.ireturn, 1) → K pc lv [.int r.1] r.2) (s0 : Int32) (S : St) : J K r (f_X3_losesMovingAtMostOnceIn_22 s0 S) 22 [] [.int s0] S := by
    unfold f_X3_losesMovingAtMostOnceIn_22
    exact j_zretv hR dX3_losesMovingAtMostOnceIn_22
def f_X3_losesMovingAtMostOnceIn (x1 : Int32) (S : St) : Option (Int32 × St) :=
  bd (f_X3_upper 1 S) fun v2 S1 =>
  bd (f_X3_lower 1 S1) fun v4 S3 =>
  if 0 < (lg_cmp (v2 * x1.toInt64) v4) then (f_X3_losesMovingAtMostOnceIn_22 0 S3)
  else (f_X3_losesMovingAtMostOnceIn_22 1 S3)
set_option maxHeartbeats 1000000 in
theorem m_X3_losesMovingAtMostOnceIn (adr : Nat → Nat) (x1 : Int32) : MtI yX3_losesMovingAtMostOnceIn cX3_losesMovingAtMostOnceIn 2 (some .boolean) rm_X3_losesMovingAtMostOnceIn adr [.ref (adr 22), .int x1] (f_X3_losesMovingAtMostOnceIn x1) := by
  refine MtI.ofZ (by decide +kernel) (Nat.le_of_ble_eq_true rfl) (fun K r S C hR => ?_)
  refine j_start (lv' := [(0, .ref (adr 22)), (1, .int x1)]) rfl ?_
  unfold f_X3_losesMovingAtMostOnceIn
  refine j_aload_n C dX3_losesMovingAtMostOnceIn_0 0 rfl rfl ?_
  refine j_iconst C dX3_losesMovingAtMostOnceIn_1 (v := 1) rfl ?_
  refine j_cvl C dX3_losesMovingAtMostOnceIn_2 lk_X3_41 mw_X3_upper (m_X3_upper adr 1) ⟨rfl, rfl, Nat.le_of_ble_eq_true rfl, Nat.le_of_ble_eq_true rfl⟩ kd_22 (by decide) (Nat.le_of_ble_eq_true rfl) rfl rfl (st := []) (st0 := [.int 1, .ref (adr 22)]) rfl (Nat.le_of_ble_eq_true rfl) (fun v2 S1 => ?_)
  refine j_iload_n C dX3_losesMovingAtMostOnceIn_5 1 rfl rfl ?_
  refine j_i2l C dX3_losesMovingAtMostOnceIn_6 ?_
  refine j_lmul C dX3_losesMovingAtMostOnceIn_7 ?_
  refine j_aload_n C dX3_losesMovingAtMostOnceIn_8 0 rfl rfl ?_
  refine j_iconst C dX3_losesMovingAtMostOnceIn_9 (v := 1) rfl ?_
  refine j_cvl C dX3_losesMovingAtMostOnceIn_10 lk_X3_45 mw_X3_lower (m_X3_lower adr 1) ⟨rfl, rfl, Nat.le_of_ble_eq_true rfl, Nat.le_of_ble_eq_true rfl⟩ kd_22 (by decide) (Nat.le_of_ble_eq_true rfl) rfl rfl (st := [.long (v2 * x1.toInt64)]) (st0 := [.int 1, .ref (adr 22), .long (v2 * x1.toInt64)]) rfl (Nat.le_of_ble_eq_true rfl) (fun v4 S3 => ?_)
  refine j_lcmp C dX3_losesMovingAtMostOnceIn_13 ?_
  refine j_if_gt C dX3_losesMovingAtMostOnceIn_14 (tgt := 21) (by decide) ?_ ?_
  · refine j_iconst C dX3_losesMovingAtMostOnceIn_21 (v := 0) rfl ?_
    refine j_sub C [] rfl ?_
    exact b_X3_losesMovingAtMostOnceIn_22 C hR 0 S3
  · refine j_iconst C dX3_losesMovingAtMostOnceIn_17 (v := 1) rfl ?_
    refine j_goto C dX3_losesMovingAtMostOnceIn_18 (tgt := 22) (by decide) ?_
    refine j_sub C [] rfl ?_
    exact b_X3_losesMovingAtMostOnceIn_22 C hR 1 S3
-- X8_best
abbrev rm_X8_best : Room := { frames := 5, cells := 0, slots := 0, locals := 101 }
def f_X8_best_48 : Nat → Int32 → Int32 → Int32 → Int32 → Int32 → Int32 → Int32 → St → Option (Int32 × St)
  | 0, _, _, _, _, _, _, _, _ => none
  | n + 1, x1, x2, x3, x4, x5, x6, x7, S =>
    if x6 < x7 then (some ((-9), S))
    else (ck x1 4 (bdV (f_X3_weigh (S.1 10 x1.toNatClampNeg) x7 x2 x3 x4 S) fun S9 =>
      bd (f_X3_losesMovingAtMostOnceIn x5 S9) fun v11 S10 =>
      if v11 = 0 then ((f_X8_best_48 n) x1 x2 x3 x4 x5 x6 (x7 + 1) S10)
      else (some (x7, S10))))
set_option maxHeartbeats 1000000 in
theorem b_X8_best_48 {K : Kt} {adr : Nat → Nat} {r : Int32 × St} (C : Cx K cX8_best RX8 8 adr rm_X8_best) (hR : ∀ (pc : Nat) (lv : List (Nat × Value)), decode cX8_best pc = .ok (.ireturn, 1) → K pc lv [.int r.1] r.2) : ∀ (n : Nat) (x1 : Int32) (x2 : Int32) (x3 : Int32) (x4 : Int32) (x5 : Int32) (x6 : Int32) (x7 : Int32) (S : St), J K r (f_X8_best_48 n x1 x2 x3 x4 x5 x6 x7 S) 48 [(0, .ref (adr 0)), (1, .int x1), (2, .int x2), (3, .int x3), (4, .int x4), (5, .int x5), (6, .int x6), (7, .int x7)] [] S := by
  intro n
  induction n with
  | zero => intro x1 x2 x3 x4 x5 x6 x7 S h; cases h
  | succ n ih =>
    intro x1 x2 x3 x4 x5 x6 x7 S
    unfold f_X8_best_48
    refine j_iload C dX8_best_48 7 rfl ?_
    refine j_iload C dX8_best_50 6 rfl ?_
    refine j_icmp_gt C dX8_best_52 (tgt := 98) (by decide) ?_ ?_
    · refine j_bipush C dX8_best_98 (v := -9) rfl ?_
      exact j_iret hR dX8_best_100
    · refine j_aload_n C dX8_best_55 0 rfl rfl ?_
      refine j_getr C dX8_best_56 fl_X8_56 kd_0 (by decide) (Nat.le_of_ble_eq_true rfl) rfl ?_
      refine j_aload_n C dX8_best_59 0 rfl rfl ?_
      refine j_getr C dX8_best_60 fl_X8_19 kd_0 (by decide) (Nat.le_of_ble_eq_true rfl) rfl ?_
      refine j_getr C dX8_best_63 fl_X8_147 kd_9 (by decide) (Nat.le_of_ble_eq_true rfl) rfl ?_
      refine j_iload_n C dX8_best_66 1 rfl rfl ?_
      refine j_iald C dX8_best_67 kd_10 (Nat.le_of_ble_eq_true rfl) ?_
      refine j_iload C dX8_best_68 7 rfl ?_
      refine j_iload_n C dX8_best_70 2 rfl rfl ?_
      refine j_iload_n C dX8_best_71 3 rfl rfl ?_
      refine j_iload C dX8_best_72 4 rfl ?_
      refine j_cvv C dX8_best_74 lk_X8_213 mw_X3_weigh (m_X3_weigh adr (S.1 10 x1.toNatClampNeg) x7 x2 x3 x4) ⟨rfl, rfl, Nat.le_of_ble_eq_true rfl, Nat.le_of_ble_eq_true rfl⟩ kd_22 (by decide) (Nat.le_of_ble_eq_true rfl) rfl rfl (st := []) (st0 := [.int x4, .int x3, .int x2, .int x7, .int (S.1 10 x1.toNatClampNeg), .ref (adr 22)]) rfl (Nat.le_of_ble_eq_true rfl) (fun S9 => ?_)
      refine j_aload_n C dX8_best_77 0 rfl rfl ?_
      refine j_getr C dX8_best_78 fl_X8_56 kd_0 (by decide) (Nat.le_of_ble_eq_true rfl) rfl ?_
      refine j_iload C dX8_best_81 5 rfl ?_
      refine j_cvi C dX8_best_83 lk_X8_228 mw_X3_losesMovingAtMostOnceIn (m_X3_losesMovingAtMostOnceIn adr x5) ⟨rfl, rfl, Nat.le_of_ble_eq_true rfl, Nat.le_of_ble_eq_true rfl⟩ kd_22 (by decide) (Nat.le_of_ble_eq_true rfl) rfl rfl (st := []) (st0 := [.int x5, .ref (adr 22)]) rfl (Nat.le_of_ble_eq_true rfl) (fun v11 S10 => ?_)
      refine j_if_eq C dX8_best_86 (tgt := 92) (by decide) ?_ ?_
      · refine j_iinc C dX8_best_92 (v := x7 + 1) 7 rfl rfl (by decide) rfl ?_
        refine j_goto C dX8_best_95 (tgt := 48) (by decide) ?_
        refine j_sub C [1, 2, 3, 4, 5, 6, 7, 0] rfl ?_
        exact ih x1 x2 x3 x4 x5 x6 (x7 + 1) S10
      · refine j_iload C dX8_best_89 7 rfl ?_
        exact j_iret hR dX8_best_91
def f_X8_best_33  (S : St) : Option (Int32 × St) :=
    some ((-1), S)
set_option maxHeartbeats 1000000 in
theorem b_X8_best_33 {K : Kt} {adr : Nat → Nat} {r : Int32 × St} (C : Cx K cX8_best RX8 8 adr rm_X8_best) (hR : ∀ (pc : Nat) (lv : List (Nat × Value)), decode cX8_best pc = .ok (.ireturn, 1) → K pc lv [.int r.1] r.2)  (S : St) : J K r (f_X8_best_33  S) 33 [] [] S := by
    unfold f_X8_best_33
    refine j_iconst C dX8_best_33 (v := -1) rfl ?_
    exact j_iret hR dX8_best_34
def f_X8_best (x1 : Int32) (x2 : Int32) (x3 : Int32) (x4 : Int32) (x5 : Int32) (S : St) : Option (Int32 × St) :=
  bd (f_X6_has_9 x1 S) fun v2 S1 =>
  if v2 = 0 then (f_X8_best_33 S1)
  else (bd (f_X8_areRates x2 x3 x4 S1) fun v4 S3 =>
    if v4 = 0 then (f_X8_best_33 S3)
    else (bd (f_X8_within x5 1 1000 S3) fun v6 S5 =>
      if v6 = 0 then (f_X8_best_33 S5)
      else (bd (f_X6_mostGuard_9 x1 S5) fun v8 S7 =>
        f_X8_best_48 FU x1 x2 x3 x4 x5 v8 0 S7)))
set_option maxHeartbeats 1000000 in
theorem m_X8_best (adr : Nat → Nat) (x1 : Int32) (x2 : Int32) (x3 : Int32) (x4 : Int32) (x5 : Int32) : MtI yX8_best cX8_best 8 (some .int) rm_X8_best adr [.ref (adr 0), .int x1, .int x2, .int x3, .int x4, .int x5] (f_X8_best x1 x2 x3 x4 x5) := by
  refine MtI.of (by decide +kernel) (Nat.le_of_ble_eq_true rfl) (fun K r S C hR => ?_)
  refine j_start (lv' := [(0, .ref (adr 0)), (1, .int x1), (2, .int x2), (3, .int x3), (4, .int x4), (5, .int x5)]) rfl ?_
  unfold f_X8_best
  refine j_aload_n C dX8_best_0 0 rfl rfl ?_
  refine j_getr C dX8_best_1 fl_X8_19 kd_0 (by decide) (Nat.le_of_ble_eq_true rfl) rfl ?_
  refine j_iload_n C dX8_best_4 1 rfl rfl ?_
  refine j_cvi C dX8_best_5 lk_X8_100 mw_X6_has (m_X6_has_9 adr x1) ⟨rfl, rfl, Nat.le_of_ble_eq_true rfl, Nat.le_of_ble_eq_true rfl⟩ kd_9 (by decide) (Nat.le_of_ble_eq_true rfl) rfl rfl (st := []) (st0 := [.int x1, .ref (adr 9)]) rfl (Nat.le_of_ble_eq_true rfl) (fun v2 S1 => ?_)
  refine j_if_eq C dX8_best_8 (tgt := 33) (by decide) ?_ ?_
  · refine j_sub C [] rfl ?_
    exact b_X8_best_33 C hR S1
  · refine j_iload_n C dX8_best_11 2 rfl rfl ?_
    refine j_iload_n C dX8_best_12 3 rfl rfl ?_
    refine j_iload C dX8_best_13 4 rfl ?_
    refine j_csi C dX8_best_15 lk_X8_208 mw_X8_areRates (m_X8_areRates adr x2 x3 x4) ⟨rfl, rfl, Nat.le_of_ble_eq_true rfl, Nat.le_of_ble_eq_true rfl⟩ rfl (st := []) (st0 := [.int x4, .int x3, .int x2]) rfl (Nat.le_of_ble_eq_true rfl) (fun v4 S3 => ?_)
    refine j_if_eq C dX8_best_18 (tgt := 33) (by decide) ?_ ?_
    · refine j_sub C [] rfl ?_
      exact b_X8_best_33 C hR S3
    · refine j_iload C dX8_best_21 5 rfl ?_
      refine j_iconst C dX8_best_23 (v := 1) rfl ?_
      refine j_sipush C dX8_best_24 (v := 1000) rfl ?_
      refine j_csi C dX8_best_27 lk_X8_67 mw_X8_within (m_X8_within adr x5 1 1000) ⟨rfl, rfl, Nat.le_of_ble_eq_true rfl, Nat.le_of_ble_eq_true rfl⟩ rfl (st := []) (st0 := [.int 1000, .int 1, .int x5]) rfl (Nat.le_of_ble_eq_true rfl) (fun v6 S5 => ?_)
      refine j_if_ne C dX8_best_30 (tgt := 35) (by decide) ?_ ?_
      · refine j_aload_n C dX8_best_35 0 rfl rfl ?_
        refine j_getr C dX8_best_36 fl_X8_19 kd_0 (by decide) (Nat.le_of_ble_eq_true rfl) rfl ?_
        refine j_iload_n C dX8_best_39 1 rfl rfl ?_
        refine j_cvi C dX8_best_40 lk_X8_130 mw_X6_mostGuard (m_X6_mostGuard_9 adr x1) ⟨rfl, rfl, Nat.le_of_ble_eq_true rfl, Nat.le_of_ble_eq_true rfl⟩ kd_9 (by decide) (Nat.le_of_ble_eq_true rfl) rfl rfl (st := []) (st0 := [.int x1, .ref (adr 9)]) rfl (Nat.le_of_ble_eq_true rfl) (fun v8 S7 => ?_)
        refine j_istore C dX8_best_43 (by decide) rfl ?_
        refine j_iconst C dX8_best_45 (v := 0) rfl ?_
        refine j_istore C dX8_best_46 (by decide) rfl ?_
        refine j_sub C [2, 3, 4, 5, 6, 7, 1, 0] rfl ?_
        exact b_X8_best_48 C hR FU x1 x2 x3 x4 x5 v8 0 S7
      · refine j_sub C [] rfl ?_
        exact b_X8_best_33 C hR S5
-- X5_add
abbrev rm_X5_add : Room := { frames := 0, cells := 0, slots := 0, locals := 0 }
def f_X5_add (x1 : Int32) (x2 : Int32) (S : St) : Option (Int32 × St) :=
  if (S.1 24 0) < 6 then (ck (S.1 24 0) 6 (lt (upI S 25 (S.1 24 0).toNatClampNeg x1) fun S1 =>
    ck (S1.1 24 0) 6 (lt (upI S1 26 (S1.1 24 0).toNatClampNeg x2) fun S2 =>
    lt (upI S2 24 0 ((S2.1 24 0) + 1)) fun S3 =>
    some (1, S3))))
  else (some (0, S))
set_option maxHeartbeats 1000000 in
theorem m_X5_add (adr : Nat → Nat) (x1 : Int32) (x2 : Int32) : MtI yX5_add cX5_add 3 (some .boolean) rm_X5_add adr [.ref (adr 24), .int x1, .int x2] (f_X5_add x1 x2) := by
  refine MtI.ofZ (by decide +kernel) (Nat.le_of_ble_eq_true rfl) (fun K r S C hR => ?_)
  refine j_start (lv' := [(0, .ref (adr 24)), (1, .int x1), (2, .int x2)]) rfl ?_
  unfold f_X5_add
  refine j_aload_n C dX5_add_0 0 rfl rfl ?_
  refine j_geti C dX5_add_1 fl_X5_18 kd_24 (by decide) (Nat.le_of_ble_eq_true rfl) rfl ?_
  refine j_bipush C dX5_add_4 (v := 6) rfl ?_
  refine j_icmp_lt C dX5_add_6 (tgt := 11) (by decide) ?_ ?_
  · refine j_aload_n C dX5_add_11 0 rfl rfl ?_
    refine j_getr C dX5_add_12 fl_X5_9 kd_24 (by decide) (Nat.le_of_ble_eq_true rfl) rfl ?_
    refine j_aload_n C dX5_add_15 0 rfl rfl ?_
    refine j_geti C dX5_add_16 fl_X5_18 kd_24 (by decide) (Nat.le_of_ble_eq_true rfl) rfl ?_
    refine j_iload_n C dX5_add_19 1 rfl rfl ?_
    refine j_iast C dX5_add_20 kd_25 (Nat.le_of_ble_eq_true rfl) (fun S1 => ?_)
    refine j_aload_n C dX5_add_21 0 rfl rfl ?_
    refine j_getr C dX5_add_22 fl_X5_15 kd_24 (by decide) (Nat.le_of_ble_eq_true rfl) rfl ?_
    refine j_aload_n C dX5_add_25 0 rfl rfl ?_
    refine j_geti C dX5_add_26 fl_X5_18 kd_24 (by decide) (Nat.le_of_ble_eq_true rfl) rfl ?_
    refine j_iload_n C dX5_add_29 2 rfl rfl ?_
    refine j_iast C dX5_add_30 kd_26 (Nat.le_of_ble_eq_true rfl) (fun S2 => ?_)
    refine j_aload_n C dX5_add_31 0 rfl rfl ?_
    refine j_dup C dX5_add_32 rfl ?_
    refine j_geti C dX5_add_33 fl_X5_18 kd_24 (by decide) (Nat.le_of_ble_eq_true rfl) rfl ?_
    refine j_iconst C dX5_add_36 (v := 1) rfl ?_
    refine j_iadd C dX5_add_37 ?_
    refine j_puti C dX5_add_38 fl_X5_18 fi_X5_0 kd_24 (by decide) (Nat.le_of_ble_eq_true rfl) rfl (fun S3 => ?_)
    refine j_iconst C dX5_add_41 (v := 1) rfl ?_
    exact j_zret hR (by decide) dX5_add_42
  · refine j_iconst C dX5_add_9 (v := 0) rfl ?_
    exact j_zret hR (by decide) dX5_add_10
-- X8_sees
abbrev rm_X8_sees : Room := { frames := 1, cells := 0, slots := 0, locals := 22 }
def f_X8_sees_45 (s0 : Int32) (S : St) : Option (Int32 × St) :=
    some (s0, S)
set_option maxHeartbeats 1000000 in
theorem b_X8_sees_45 {K : Kt} {adr : Nat → Nat} {r : Int32 × St} (C : Cx K cX8_sees RX8 3 adr rm_X8_sees) (hR : ∀ (pc : Nat) (lv : List (Nat × Value)), decode cX8_sees pc = .ok (.ireturn, 1) → K pc lv [.int r.1] r.2) (s0 : Int32) (S : St) : J K r (f_X8_sees_45 s0 S) 45 [] [.int s0] S := by
    unfold f_X8_sees_45
    exact j_iret hR dX8_sees_45
def f_X8_sees_19  (S : St) : Option (Int32 × St) :=
    some ((-1), S)
set_option maxHeartbeats 1000000 in
theorem b_X8_sees_19 {K : Kt} {adr : Nat → Nat} {r : Int32 × St} (C : Cx K cX8_sees RX8 3 adr rm_X8_sees) (hR : ∀ (pc : Nat) (lv : List (Nat × Value)), decode cX8_sees pc = .ok (.ireturn, 1) → K pc lv [.int r.1] r.2)  (S : St) : J K r (f_X8_sees_19  S) 19 [] [] S := by
    unfold f_X8_sees_19
    refine j_iconst C dX8_sees_19 (v := -1) rfl ?_
    exact j_iret hR dX8_sees_20
def f_X8_sees (x1 : Int32) (x2 : Int32) (S : St) : Option (Int32 × St) :=
  bd (f_X8_within x1 0 6 S) fun v2 S1 =>
  if v2 = 0 then (f_X8_sees_19 S1)
  else (bd (f_X8_within x2 0 1 S1) fun v4 S3 =>
    if v4 = 0 then (f_X8_sees_19 S3)
    else (bd (f_X5_add x1 x2 S3) fun v6 S5 =>
      if v6 = 0 then (f_X8_sees_45 (-3) S5)
      else (f_X8_sees_45 (S5.1 24 0) S5)))
set_option maxHeartbeats 1000000 in
theorem m_X8_sees (adr : Nat → Nat) (x1 : Int32) (x2 : Int32) : MtI yX8_sees cX8_sees 3 (some .int) rm_X8_sees adr [.ref (adr 0), .int x1, .int x2] (f_X8_sees x1 x2) := by
  refine MtI.of (by decide +kernel) (Nat.le_of_ble_eq_true rfl) (fun K r S C hR => ?_)
  refine j_start (lv' := [(0, .ref (adr 0)), (1, .int x1), (2, .int x2)]) rfl ?_
  unfold f_X8_sees
  refine j_iload_n C dX8_sees_0 1 rfl rfl ?_
  refine j_iconst C dX8_sees_1 (v := 0) rfl ?_
  refine j_bipush C dX8_sees_2 (v := 6) rfl ?_
  refine j_csi C dX8_sees_4 lk_X8_67 mw_X8_within (m_X8_within adr x1 0 6) ⟨rfl, rfl, Nat.le_of_ble_eq_true rfl, Nat.le_of_ble_eq_true rfl⟩ rfl (st := []) (st0 := [.int 6, .int 0, .int x1]) rfl (Nat.le_of_ble_eq_true rfl) (fun v2 S1 => ?_)
  refine j_if_eq C dX8_sees_7 (tgt := 19) (by decide) ?_ ?_
  · refine j_sub C [] rfl ?_
    exact b_X8_sees_19 C hR S1
  · refine j_iload_n C dX8_sees_10 2 rfl rfl ?_
    refine j_iconst C dX8_sees_11 (v := 0) rfl ?_
    refine j_iconst C dX8_sees_12 (v := 1) rfl ?_
    refine j_csi C dX8_sees_13 lk_X8_67 mw_X8_within (m_X8_within adr x2 0 1) ⟨rfl, rfl, Nat.le_of_ble_eq_true rfl, Nat.le_of_ble_eq_true rfl⟩ rfl (st := []) (st0 := [.int 1, .int 0, .int x2]) rfl (Nat.le_of_ble_eq_true rfl) (fun v4 S3 => ?_)
    refine j_if_ne C dX8_sees_16 (tgt := 21) (by decide) ?_ ?_
    · refine j_aload_n C dX8_sees_21 0 rfl rfl ?_
      refine j_getr C dX8_sees_22 fl_X8_63 kd_0 (by decide) (Nat.le_of_ble_eq_true rfl) rfl ?_
      refine j_iload_n C dX8_sees_25 1 rfl rfl ?_
      refine j_iload_n C dX8_sees_26 2 rfl rfl ?_
      refine j_cvi C dX8_sees_27 lk_X8_231 mw_X5_add (m_X5_add adr x1 x2) ⟨rfl, rfl, Nat.le_of_ble_eq_true rfl, Nat.le_of_ble_eq_true rfl⟩ kd_24 (by decide) (Nat.le_of_ble_eq_true rfl) rfl rfl (st := []) (st0 := [.int x2, .int x1, .ref (adr 24)]) rfl (Nat.le_of_ble_eq_true rfl) (fun v6 S5 => ?_)
      refine j_if_eq C dX8_sees_30 (tgt := 43) (by decide) ?_ ?_
      · refine j_bipush C dX8_sees_43 (v := -3) rfl ?_
        refine j_sub C [] rfl ?_
        exact b_X8_sees_45 C hR (-3) S5
      · refine j_aload_n C dX8_sees_33 0 rfl rfl ?_
        refine j_getr C dX8_sees_34 fl_X8_63 kd_0 (by decide) (Nat.le_of_ble_eq_true rfl) rfl ?_
        refine j_geti C dX8_sees_37 fl_X8_97 kd_24 (by decide) (Nat.le_of_ble_eq_true rfl) rfl ?_
        refine j_goto C dX8_sees_40 (tgt := 45) (by decide) ?_
        refine j_sub C [] rfl ?_
        exact b_X8_sees_45 C hR (S5.1 24 0) S5
    · refine j_sub C [] rfl ?_
      exact b_X8_sees_19 C hR S3
-- X8_forget
abbrev rm_X8_forget : Room := { frames := 0, cells := 0, slots := 0, locals := 0 }
def f_X8_forget  (S : St) : Option (Int32 × St) :=
  lt (S.1 24 0) fun v1 =>
  lt (upI S 24 0 0) fun S2 =>
  some (v1, S2)
set_option maxHeartbeats 1000000 in
theorem m_X8_forget (adr : Nat → Nat)  : MtI yX8_forget cX8_forget 2 (some .int) rm_X8_forget adr [.ref (adr 0)] (f_X8_forget ) := by
  refine MtI.of (by decide +kernel) (Nat.le_of_ble_eq_true rfl) (fun K r S C hR => ?_)
  refine j_start (lv' := [(0, .ref (adr 0))]) rfl ?_
  unfold f_X8_forget
  refine j_aload_n C dX8_forget_0 0 rfl rfl ?_
  refine j_getr C dX8_forget_1 fl_X8_63 kd_0 (by decide) (Nat.le_of_ble_eq_true rfl) rfl ?_
  refine j_geti C dX8_forget_4 fl_X8_97 kd_24 (by decide) (Nat.le_of_ble_eq_true rfl) rfl ?_
  refine j_topi (fun v1 => ?_)
  refine j_istore_n C dX8_forget_7 rfl (by decide) rfl ?_
  refine j_aload_n C dX8_forget_8 1 rfl rfl ?_
  refine j_getr C dX8_forget_9 fl_X8_63 kd_0 (by decide) (Nat.le_of_ble_eq_true rfl) rfl ?_
  refine j_iconst C dX8_forget_12 (v := 0) rfl ?_
  refine j_puti C dX8_forget_13 fl_X8_97 fi_X5_0 kd_24 (by decide) (Nat.le_of_ble_eq_true rfl) rfl (fun S2 => ?_)
  refine j_iload_n C dX8_forget_16 0 rfl rfl ?_
  exact j_iret hR dX8_forget_17
-- X5_allow
abbrev rm_X5_allow : Room := { frames := 2, cells := 0, slots := 0, locals := 35 }
def f_X5_allow_58  (S : St) : Option (Int32 × St) :=
    some (1, S)
set_option maxHeartbeats 1000000 in
theorem b_X5_allow_58 {K : Kt} {adr : Nat → Nat} {r : Int32 × St} (C : Cx K cX5_allow RX5 4 adr rm_X5_allow) (hR : ∀ (pc : Nat) (lv : List (Nat × Value)), (r.1 = 0 ∨ r.1 = 1) → decode cX5_allow pc = .ok (.ireturn, 1) → K pc lv [.int r.1] r.2)  (S : St) : J K r (f_X5_allow_58  S) 58 [] [] S := by
    unfold f_X5_allow_58
    refine j_iconst C dX5_allow_58 (v := 1) rfl ?_
    exact j_zret hR (by decide) dX5_allow_59
def f_X5_allow_52 (k2 : Int32 → Int32 → St → Option (Int32 × St)) (x1 : Int32) (x2 : Int32) (S : St) : Option (Int32 × St) :=
    k2 x1 (x2 + 1) S
set_option maxHeartbeats 1000000 in
theorem b_X5_allow_52 {K : Kt} {adr : Nat → Nat} {r : Int32 × St} (C : Cx K cX5_allow RX5 4 adr rm_X5_allow) (hR : ∀ (pc : Nat) (lv : List (Nat × Value)), (r.1 = 0 ∨ r.1 = 1) → decode cX5_allow pc = .ok (.ireturn, 1) → K pc lv [.int r.1] r.2) (k2 : Int32 → Int32 → St → Option (Int32 × St)) (h2 : ∀ (x1 : Int32) (x2 : Int32) (S : St), J K r (k2 x1 x2 S) 2 [(0, .ref (adr 24)), (1, .int x1), (2, .int x2)] [] S) (x1 : Int32) (x2 : Int32) (S : St) : J K r (f_X5_allow_52 k2 x1 x2 S) 52 [(0, .ref (adr 24)), (1, .int x1), (2, .int x2)] [] S := by
    unfold f_X5_allow_52
    refine j_iinc C dX5_allow_52 (v := x2 + 1) 2 rfl rfl (by decide) rfl ?_
    refine j_goto C dX5_allow_55 (tgt := 2) (by decide) ?_
    refine j_sub C [1, 2, 0] rfl ?_
    exact h2 x1 (x2 + 1) S
def f_X5_allow_50  (S : St) : Option (Int32 × St) :=
    some (0, S)
set_option maxHeartbeats 1000000 in
theorem b_X5_allow_50 {K : Kt} {adr : Nat → Nat} {r : Int32 × St} (C : Cx K cX5_allow RX5 4 adr rm_X5_allow) (hR : ∀ (pc : Nat) (lv : List (Nat × Value)), (r.1 = 0 ∨ r.1 = 1) → decode cX5_allow pc = .ok (.ireturn, 1) → K pc lv [.int r.1] r.2)  (S : St) : J K r (f_X5_allow_50  S) 50 [] [] S := by
    unfold f_X5_allow_50
    refine j_iconst C dX5_allow_50 (v := 0) rfl ?_
    exact j_zret hR (by decide) dX5_allow_51
def f_X5_allow_2 : Nat → Int32 → Int32 → St → Option (Int32 × St)
  | 0, _, _, _ => none
  | n + 1, x1, x2, S =>
    if (S.1 24 0) ≤ x2 then (f_X5_allow_58 S)
    else (if 6 ≤ x2 then (f_X5_allow_58 S)
      else (ck x2 6 (bd (f_X8_chance (S.1 25 x2.toNatClampNeg) x1 S) fun v2 S1 =>
        ck x2 6 (if (S1.1 26 x2.toNatClampNeg) = 1 then (if v2 = 0 then (f_X5_allow_50 S1)
          else (f_X5_allow_52 (f_X5_allow_2 n) x1 x2 S1))
        else (if v2 = 10 then (f_X5_allow_50 S1)
          else (f_X5_allow_52 (f_X5_allow_2 n) x1 x2 S1))))))
set_option maxHeartbeats 1000000 in
theorem b_X5_allow_2 {K : Kt} {adr : Nat → Nat} {r : Int32 × St} (C : Cx K cX5_allow RX5 4 adr rm_X5_allow) (hR : ∀ (pc : Nat) (lv : List (Nat × Value)), (r.1 = 0 ∨ r.1 = 1) → decode cX5_allow pc = .ok (.ireturn, 1) → K pc lv [.int r.1] r.2) : ∀ (n : Nat) (x1 : Int32) (x2 : Int32) (S : St), J K r (f_X5_allow_2 n x1 x2 S) 2 [(0, .ref (adr 24)), (1, .int x1), (2, .int x2)] [] S := by
  intro n
  induction n with
  | zero => intro x1 x2 S h; cases h
  | succ n ih =>
    intro x1 x2 S
    unfold f_X5_allow_2
    refine j_iload_n C dX5_allow_2 2 rfl rfl ?_
    refine j_aload_n C dX5_allow_3 0 rfl rfl ?_
    refine j_geti C dX5_allow_4 fl_X5_18 kd_24 (by decide) (Nat.le_of_ble_eq_true rfl) rfl ?_
    refine j_icmp_ge C dX5_allow_7 (tgt := 58) (by decide) ?_ ?_
    · refine j_sub C [] rfl ?_
      exact b_X5_allow_58 C hR S
    · refine j_iload_n C dX5_allow_10 2 rfl rfl ?_
      refine j_bipush C dX5_allow_11 (v := 6) rfl ?_
      refine j_icmp_ge C dX5_allow_13 (tgt := 58) (by decide) ?_ ?_
      · refine j_sub C [] rfl ?_
        exact b_X5_allow_58 C hR S
      · refine j_aload_n C dX5_allow_16 0 rfl rfl ?_
        refine j_getr C dX5_allow_17 fl_X5_9 kd_24 (by decide) (Nat.le_of_ble_eq_true rfl) rfl ?_
        refine j_iload_n C dX5_allow_20 2 rfl rfl ?_
        refine j_iald C dX5_allow_21 kd_25 (Nat.le_of_ble_eq_true rfl) ?_
        refine j_iload_n C dX5_allow_22 1 rfl rfl ?_
        refine j_csi C dX5_allow_23 lk_X5_22 mw_X8_chance (m_X8_chance adr (S.1 25 x2.toNatClampNeg) x1) ⟨rfl, rfl, Nat.le_of_ble_eq_true rfl, Nat.le_of_ble_eq_true rfl⟩ rfl (st := []) (st0 := [.int x1, .int (S.1 25 x2.toNatClampNeg)]) rfl (Nat.le_of_ble_eq_true rfl) (fun v2 S1 => ?_)
        refine j_istore_n C dX5_allow_26 rfl (by decide) rfl ?_
        refine j_aload_n C dX5_allow_27 1 rfl rfl ?_
        refine j_getr C dX5_allow_28 fl_X5_15 kd_24 (by decide) (Nat.le_of_ble_eq_true rfl) rfl ?_
        refine j_iload_n C dX5_allow_31 3 rfl rfl ?_
        refine j_iald C dX5_allow_32 kd_26 (Nat.le_of_ble_eq_true rfl) ?_
        refine j_iconst C dX5_allow_33 (v := 1) rfl ?_
        refine j_icmp_ne C dX5_allow_34 (tgt := 44) (by decide) ?_ ?_
        · refine j_iload_n C dX5_allow_44 0 rfl rfl ?_
          refine j_bipush C dX5_allow_45 (v := 10) rfl ?_
          refine j_icmp_ne C dX5_allow_47 (tgt := 52) (by decide) ?_ ?_
          · refine j_sub C [1, 2, 3] rfl ?_
            exact b_X5_allow_52 C hR (f_X5_allow_2 n) ih x1 x2 S1
          · refine j_sub C [] rfl ?_
            exact b_X5_allow_50 C hR S1
        · refine j_iload_n C dX5_allow_37 0 rfl rfl ?_
          refine j_if_ne C dX5_allow_38 (tgt := 52) (by decide) ?_ ?_
          · refine j_sub C [1, 2, 3] rfl ?_
            exact b_X5_allow_52 C hR (f_X5_allow_2 n) ih x1 x2 S1
          · refine j_goto C dX5_allow_41 (tgt := 50) (by decide) ?_
            refine j_sub C [] rfl ?_
            exact b_X5_allow_50 C hR S1
def f_X5_allow (x1 : Int32) (S : St) : Option (Int32 × St) :=
  f_X5_allow_2 FU x1 0 S
set_option maxHeartbeats 1000000 in
theorem m_X5_allow (adr : Nat → Nat) (x1 : Int32) : MtI yX5_allow cX5_allow 4 (some .boolean) rm_X5_allow adr [.ref (adr 24), .int x1] (f_X5_allow x1) := by
  refine MtI.ofZ (by decide +kernel) (Nat.le_of_ble_eq_true rfl) (fun K r S C hR => ?_)
  refine j_start (lv' := [(0, .ref (adr 24)), (1, .int x1)]) rfl ?_
  unfold f_X5_allow
  refine j_iconst C dX5_allow_0 (v := 0) rfl ?_
  refine j_istore_n C dX5_allow_1 rfl (by decide) rfl ?_
  refine j_sub C [1, 2, 0] rfl ?_
  exact b_X5_allow_2 C hR FU x1 0 S
-- X8_unseen
abbrev rm_X8_unseen : Room := { frames := 3, cells := 0, slots := 0, locals := 58 }
def f_X8_unseen_111 (s0 : Int32) (S : St) : Option (Int32 × St) :=
    some (s0, S)
set_option maxHeartbeats 1000000 in
theorem b_X8_unseen_111 {K : Kt} {adr : Nat → Nat} {r : Int32 × St} (C : Cx K cX8_unseen RX8 8 adr rm_X8_unseen) (hR : ∀ (pc : Nat) (lv : List (Nat × Value)), decode cX8_unseen pc = .ok (.ireturn, 1) → K pc lv [.int r.1] r.2) (s0 : Int32) (S : St) : J K r (f_X8_unseen_111 s0 S) 111 [] [.int s0] S := by
    unfold f_X8_unseen_111
    exact j_iret hR dX8_unseen_111
def f_X8_unseen_87 (k45 : Int32 → Int32 → Int32 → Int32 → Int32 → Int32 → St → Option (Int32 × St)) (x2 : Int32) (x3 : Int32) (x4 : Int32) (x5 : Int32) (x6 : Int32) (x7 : Int32) (S : St) : Option (Int32 × St) :=
    k45 x2 x3 x4 x5 x6 (x7 + 1) S
set_option maxHeartbeats 1000000 in
theorem b_X8_unseen_87 {K : Kt} {adr : Nat → Nat} {r : Int32 × St} (C : Cx K cX8_unseen RX8 8 adr rm_X8_unseen) (hR : ∀ (pc : Nat) (lv : List (Nat × Value)), decode cX8_unseen pc = .ok (.ireturn, 1) → K pc lv [.int r.1] r.2) (k45 : Int32 → Int32 → Int32 → Int32 → Int32 → Int32 → St → Option (Int32 × St)) (h45 : ∀ (x2 : Int32) (x3 : Int32) (x4 : Int32) (x5 : Int32) (x6 : Int32) (x7 : Int32) (S : St), J K r (k45 x2 x3 x4 x5 x6 x7 S) 45 [(0, .ref (adr 0)), (2, .int x2), (3, .int x3), (4, .int x4), (5, .int x5), (6, .int x6), (7, .int x7)] [] S) (x2 : Int32) (x3 : Int32) (x4 : Int32) (x5 : Int32) (x6 : Int32) (x7 : Int32) (S : St) : J K r (f_X8_unseen_87 k45 x2 x3 x4 x5 x6 x7 S) 87 [(0, .ref (adr 0)), (2, .int x2), (3, .int x3), (4, .int x4), (5, .int x5), (6, .int x6), (7, .int x7)] [] S := by
    unfold f_X8_unseen_87
    refine j_iinc C dX8_unseen_87 (v := x7 + 1) 6 rfl rfl (by decide) rfl ?_
    refine j_goto C dX8_unseen_90 (tgt := 45) (by decide) ?_
    refine j_sub C [1, 2, 3, 4, 5, 6, 0] rfl ?_
    exact h45 x2 x3 x4 x5 x6 (x7 + 1) S
def f_X8_unseen_81 (k45 : Int32 → Int32 → Int32 → Int32 → Int32 → Int32 → St → Option (Int32 × St)) (x2 : Int32) (x3 : Int32) (x6 : Int32) (x7 : Int32) (s0 : Int32) (S : St) : Option (Int32 × St) :=
    f_X8_unseen_87 k45 x2 x3 s0 x7 x6 x7 S
set_option maxHeartbeats 1000000 in
theorem b_X8_unseen_81 {K : Kt} {adr : Nat → Nat} {r : Int32 × St} (C : Cx K cX8_unseen RX8 8 adr rm_X8_unseen) (hR : ∀ (pc : Nat) (lv : List (Nat × Value)), decode cX8_unseen pc = .ok (.ireturn, 1) → K pc lv [.int r.1] r.2) (k45 : Int32 → Int32 → Int32 → Int32 → Int32 → Int32 → St → Option (Int32 × St)) (h45 : ∀ (x2 : Int32) (x3 : Int32) (x4 : Int32) (x5 : Int32) (x6 : Int32) (x7 : Int32) (S : St), J K r (k45 x2 x3 x4 x5 x6 x7 S) 45 [(0, .ref (adr 0)), (2, .int x2), (3, .int x3), (4, .int x4), (5, .int x5), (6, .int x6), (7, .int x7)] [] S) (x2 : Int32) (x3 : Int32) (x6 : Int32) (x7 : Int32) (s0 : Int32) (S : St) : J K r (f_X8_unseen_81 k45 x2 x3 x6 x7 s0 S) 81 [(0, .ref (adr 0)), (2, .int x2), (3, .int x3), (6, .int x6), (7, .int x7)] [.int s0] S := by
    unfold f_X8_unseen_81
    refine j_istore C dX8_unseen_81 (by decide) rfl ?_
    refine j_iload C dX8_unseen_83 5 rfl ?_
    refine j_istore C dX8_unseen_85 (by decide) rfl ?_
    refine j_sub C [2, 3, 4, 1, 0, 5, 6] rfl ?_
    exact b_X8_unseen_87 C hR k45 h45 x2 x3 s0 x7 x6 x7 S
def f_X8_unseen_45 : Nat → Int32 → Int32 → Int32 → Int32 → Int32 → Int32 → St → Option (Int32 × St)
  | 0, _, _, _, _, _, _, _ => none
  | n + 1, x2, x3, x4, x5, x6, x7, S =>
    if x6 < x7 then (if x2 = 0 then (some (x3, S))
      else (if x2 = 1 then (f_X8_unseen_111 x4 S)
        else (f_X8_unseen_111 x5 S)))
    else (bd (f_X5_allow x7 S) fun v8 S7 =>
      if v8 = 0 then (f_X8_unseen_87 (f_X8_unseen_45 n) x2 x3 x4 x5 x6 x7 S7)
      else (if x4 = (-9) then (f_X8_unseen_81 (f_X8_unseen_45 n) x2 (x3 + 1) x6 x7 x7 S7)
        else (f_X8_unseen_81 (f_X8_unseen_45 n) x2 (x3 + 1) x6 x7 x4 S7)))
set_option maxHeartbeats 1000000 in
theorem b_X8_unseen_45 {K : Kt} {adr : Nat → Nat} {r : Int32 × St} (C : Cx K cX8_unseen RX8 8 adr rm_X8_unseen) (hR : ∀ (pc : Nat) (lv : List (Nat × Value)), decode cX8_unseen pc = .ok (.ireturn, 1) → K pc lv [.int r.1] r.2) : ∀ (n : Nat) (x2 : Int32) (x3 : Int32) (x4 : Int32) (x5 : Int32) (x6 : Int32) (x7 : Int32) (S : St), J K r (f_X8_unseen_45 n x2 x3 x4 x5 x6 x7 S) 45 [(0, .ref (adr 0)), (2, .int x2), (3, .int x3), (4, .int x4), (5, .int x5), (6, .int x6), (7, .int x7)] [] S := by
  intro n
  induction n with
  | zero => intro x2 x3 x4 x5 x6 x7 S h; cases h
  | succ n ih =>
    intro x2 x3 x4 x5 x6 x7 S
    unfold f_X8_unseen_45
    refine j_iload C dX8_unseen_45 6 rfl ?_
    refine j_iload C dX8_unseen_47 5 rfl ?_
    refine j_icmp_gt C dX8_unseen_49 (tgt := 93) (by decide) ?_ ?_
    · refine j_iload_n C dX8_unseen_93 1 rfl rfl ?_
      refine j_if_ne C dX8_unseen_94 (tgt := 99) (by decide) ?_ ?_
      · refine j_iload_n C dX8_unseen_99 1 rfl rfl ?_
        refine j_iconst C dX8_unseen_100 (v := 1) rfl ?_
        refine j_icmp_ne C dX8_unseen_101 (tgt := 109) (by decide) ?_ ?_
        · refine j_iload C dX8_unseen_109 4 rfl ?_
          refine j_sub C [] rfl ?_
          exact b_X8_unseen_111 C hR x5 S
        · refine j_iload C dX8_unseen_104 3 rfl ?_
          refine j_goto C dX8_unseen_106 (tgt := 111) (by decide) ?_
          refine j_sub C [] rfl ?_
          exact b_X8_unseen_111 C hR x4 S
      · refine j_iload_n C dX8_unseen_97 2 rfl rfl ?_
        exact j_iret hR dX8_unseen_98
    · refine j_aload_n C dX8_unseen_52 0 rfl rfl ?_
      refine j_getr C dX8_unseen_53 fl_X8_63 kd_0 (by decide) (Nat.le_of_ble_eq_true rfl) rfl ?_
      refine j_iload C dX8_unseen_56 6 rfl ?_
      refine j_cvi C dX8_unseen_58 lk_X8_234 mw_X5_allow (m_X5_allow adr x7) ⟨rfl, rfl, Nat.le_of_ble_eq_true rfl, Nat.le_of_ble_eq_true rfl⟩ kd_24 (by decide) (Nat.le_of_ble_eq_true rfl) rfl rfl (st := []) (st0 := [.int x7, .ref (adr 24)]) rfl (Nat.le_of_ble_eq_true rfl) (fun v8 S7 => ?_)
      refine j_if_eq C dX8_unseen_61 (tgt := 87) (by decide) ?_ ?_
      · exact b_X8_unseen_87 C hR (f_X8_unseen_45 n) ih x2 x3 x4 x5 x6 x7 S7
      · refine j_iinc C dX8_unseen_64 (v := x3 + 1) 2 rfl rfl (by decide) rfl ?_
        refine j_iload C dX8_unseen_67 3 rfl ?_
        refine j_bipush C dX8_unseen_69 (v := -9) rfl ?_
        refine j_icmp_ne C dX8_unseen_71 (tgt := 79) (by decide) ?_ ?_
        · refine j_iload C dX8_unseen_79 3 rfl ?_
          refine j_sub C [1, 2, 0, 5, 6] rfl ?_
          exact b_X8_unseen_81 C hR (f_X8_unseen_45 n) ih x2 (x3 + 1) x6 x7 x4 S7
        · refine j_iload C dX8_unseen_74 6 rfl ?_
          refine j_goto C dX8_unseen_76 (tgt := 81) (by decide) ?_
          refine j_sub C [1, 2, 0, 5, 6] rfl ?_
          exact b_X8_unseen_81 C hR (f_X8_unseen_45 n) ih x2 (x3 + 1) x6 x7 x7 S7
def f_X8_unseen_20  (S : St) : Option (Int32 × St) :=
    some ((-1), S)
set_option maxHeartbeats 1000000 in
theorem b_X8_unseen_20 {K : Kt} {adr : Nat → Nat} {r : Int32 × St} (C : Cx K cX8_unseen RX8 8 adr rm_X8_unseen) (hR : ∀ (pc : Nat) (lv : List (Nat × Value)), decode cX8_unseen pc = .ok (.ireturn, 1) → K pc lv [.int r.1] r.2)  (S : St) : J K r (f_X8_unseen_20  S) 20 [] [] S := by
    unfold f_X8_unseen_20
    refine j_iconst C dX8_unseen_20 (v := -1) rfl ?_
    exact j_iret hR dX8_unseen_21
def f_X8_unseen (x1 : Int32) (x2 : Int32) (S : St) : Option (Int32 × St) :=
  bd (f_X6_has_9 x1 S) fun v2 S1 =>
  if v2 = 0 then (f_X8_unseen_20 S1)
  else (bd (f_X8_within x2 0 2 S1) fun v4 S3 =>
    if v4 = 0 then (f_X8_unseen_20 S3)
    else (bd (f_X6_mostGuard_9 x1 S3) fun v6 S5 =>
      f_X8_unseen_45 FU x2 0 (-9) (-9) v6 0 S5))
set_option maxHeartbeats 1000000 in
theorem m_X8_unseen (adr : Nat → Nat) (x1 : Int32) (x2 : Int32) : MtI yX8_unseen cX8_unseen 8 (some .int) rm_X8_unseen adr [.ref (adr 0), .int x1, .int x2] (f_X8_unseen x1 x2) := by
  refine MtI.of (by decide +kernel) (Nat.le_of_ble_eq_true rfl) (fun K r S C hR => ?_)
  refine j_start (lv' := [(0, .ref (adr 0)), (1, .int x1), (2, .int x2)]) rfl ?_
  unfold f_X8_unseen
  refine j_aload_n C dX8_unseen_0 0 rfl rfl ?_
  refine j_getr C dX8_unseen_1 fl_X8_19 kd_0 (by decide) (Nat.le_of_ble_eq_true rfl) rfl ?_
  refine j_iload_n C dX8_unseen_4 1 rfl rfl ?_
  refine j_cvi C dX8_unseen_5 lk_X8_100 mw_X6_has (m_X6_has_9 adr x1) ⟨rfl, rfl, Nat.le_of_ble_eq_true rfl, Nat.le_of_ble_eq_true rfl⟩ kd_9 (by decide) (Nat.le_of_ble_eq_true rfl) rfl rfl (st := []) (st0 := [.int x1, .ref (adr 9)]) rfl (Nat.le_of_ble_eq_true rfl) (fun v2 S1 => ?_)
  refine j_if_eq C dX8_unseen_8 (tgt := 20) (by decide) ?_ ?_
  · refine j_sub C [] rfl ?_
    exact b_X8_unseen_20 C hR S1
  · refine j_iload_n C dX8_unseen_11 2 rfl rfl ?_
    refine j_iconst C dX8_unseen_12 (v := 0) rfl ?_
    refine j_iconst C dX8_unseen_13 (v := 2) rfl ?_
    refine j_csi C dX8_unseen_14 lk_X8_67 mw_X8_within (m_X8_within adr x2 0 2) ⟨rfl, rfl, Nat.le_of_ble_eq_true rfl, Nat.le_of_ble_eq_true rfl⟩ rfl (st := []) (st0 := [.int 2, .int 0, .int x2]) rfl (Nat.le_of_ble_eq_true rfl) (fun v4 S3 => ?_)
    refine j_if_ne C dX8_unseen_17 (tgt := 22) (by decide) ?_ ?_
    · refine j_iconst C dX8_unseen_22 (v := 0) rfl ?_
      refine j_istore_n C dX8_unseen_23 rfl (by decide) rfl ?_
      refine j_bipush C dX8_unseen_24 (v := -9) rfl ?_
      refine j_istore C dX8_unseen_26 (by decide) rfl ?_
      refine j_bipush C dX8_unseen_28 (v := -9) rfl ?_
      refine j_istore C dX8_unseen_30 (by decide) rfl ?_
      refine j_aload_n C dX8_unseen_32 3 rfl rfl ?_
      refine j_getr C dX8_unseen_33 fl_X8_19 kd_0 (by decide) (Nat.le_of_ble_eq_true rfl) rfl ?_
      refine j_iload_n C dX8_unseen_36 4 rfl rfl ?_
      refine j_cvi C dX8_unseen_37 lk_X8_130 mw_X6_mostGuard (m_X6_mostGuard_9 adr x1) ⟨rfl, rfl, Nat.le_of_ble_eq_true rfl, Nat.le_of_ble_eq_true rfl⟩ kd_9 (by decide) (Nat.le_of_ble_eq_true rfl) rfl rfl (st := []) (st0 := [.int x1, .ref (adr 9)]) rfl (Nat.le_of_ble_eq_true rfl) (fun v6 S5 => ?_)
      refine j_istore C dX8_unseen_40 (by decide) rfl ?_
      refine j_iconst C dX8_unseen_42 (v := 0) rfl ?_
      refine j_istore C dX8_unseen_43 (by decide) rfl ?_
      refine j_sub C [5, 7, 4, 3, 2, 1, 0] rfl ?_
      exact b_X8_unseen_45 C hR FU x2 0 (-9) (-9) v6 0 S5
    · refine j_sub C [] rfl ?_
      exact b_X8_unseen_20 C hR S3
