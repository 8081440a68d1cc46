-- X9_reads
abbrev rm_X9_reads : Room := { frames := 7, cells := 0, slots := 0, locals := 153 }
def f_X9_reads_84  (S : St) : Option (Int32 × St) :=
    some (0, S)
set_option maxHeartbeats 1000000 in
theorem b_X9_reads_84 {K : Kt} {adr : Nat → Nat} {r : Int32 × St} (C : Cx K cX9_reads RX9 1 adr rm_X9_reads) (hR : ∀ (pc : Nat) (lv : List (Nat × Value)), (r.1 = 0 ∨ r.1 = 1) → decode cX9_reads pc = .ok (.ireturn, 1) → K pc lv [.int r.1] r.2)  (S : St) : J K r (f_X9_reads_84  S) 84 [] [] S := by
    unfold f_X9_reads_84
    refine j_iconst C dX9_reads_84 (v := 0) rfl ?_
    exact j_zret hR (by decide) dX9_reads_85
def f_X9_reads_60 : Nat → St → Option (Int32 × St)
  | 0, _ => none
  | n + 1, S =>
    if (S.1 27 14) = (-1) then (some (1, S))
    else (bd (f_X9_readsItem S) fun v12 S11 =>
      if v12 = 0 then (f_X9_reads_84 S11)
      else (if (S11.1 27 14) = 59 then (lt (upI S11 27 16 ((S11.1 27 16) + 1)) fun S13 =>
          bdV (f_X9_take S13) fun S14 =>
          (f_X9_reads_60 n) S14)
        else (f_X9_reads_84 S11)))
set_option maxHeartbeats 1000000 in
theorem b_X9_reads_60 {K : Kt} {adr : Nat → Nat} {r : Int32 × St} (C : Cx K cX9_reads RX9 1 adr rm_X9_reads) (hR : ∀ (pc : Nat) (lv : List (Nat × Value)), (r.1 = 0 ∨ r.1 = 1) → decode cX9_reads pc = .ok (.ireturn, 1) → K pc lv [.int r.1] r.2) : ∀ (n : Nat)  (S : St), J K r (f_X9_reads_60 n  S) 60 [(0, .ref (adr 27))] [] S := by
  intro n
  induction n with
  | zero => intro  S h; cases h
  | succ n ih =>
    intro  S
    unfold f_X9_reads_60
    refine j_aload_n C dX9_reads_60 0 rfl rfl ?_
    refine j_geti C dX9_reads_61 fl_X9_79 kd_27 (by decide) (Nat.le_of_ble_eq_true rfl) rfl ?_
    refine j_iconst C dX9_reads_64 (v := -1) rfl ?_
    refine j_icmp_eq C dX9_reads_65 (tgt := 103) (by decide) ?_ ?_
    · refine j_iconst C dX9_reads_103 (v := 1) rfl ?_
      exact j_zret hR (by decide) dX9_reads_104
    · refine j_aload_n C dX9_reads_68 0 rfl rfl ?_
      refine j_cvi C dX9_reads_69 lk_X9_125 mw_X9_readsItem (m_X9_readsItem adr ) ⟨rfl, rfl, Nat.le_of_ble_eq_true rfl, Nat.le_of_ble_eq_true rfl⟩ kd_27 (by decide) (Nat.le_of_ble_eq_true rfl) rfl rfl (st := []) (st0 := [.ref (adr 27)]) rfl (Nat.le_of_ble_eq_true rfl) (fun v12 S11 => ?_)
      refine j_if_eq C dX9_reads_72 (tgt := 84) (by decide) ?_ ?_
      · refine j_sub C [] rfl ?_
        exact b_X9_reads_84 C hR S11
      · refine j_aload_n C dX9_reads_75 0 rfl rfl ?_
        refine j_geti C dX9_reads_76 fl_X9_79 kd_27 (by decide) (Nat.le_of_ble_eq_true rfl) rfl ?_
        refine j_bipush C dX9_reads_79 (v := 59) rfl ?_
        refine j_icmp_eq C dX9_reads_81 (tgt := 86) (by decide) ?_ ?_
        · refine j_aload_n C dX9_reads_86 0 rfl rfl ?_
          refine j_dup C dX9_reads_87 rfl ?_
          refine j_geti C dX9_reads_88 fl_X9_122 kd_27 (by decide) (Nat.le_of_ble_eq_true rfl) rfl ?_
          refine j_iconst C dX9_reads_91 (v := 1) rfl ?_
          refine j_iadd C dX9_reads_92 ?_
          refine j_puti C dX9_reads_93 fl_X9_122 fi_X9_16 kd_27 (by decide) (Nat.le_of_ble_eq_true rfl) rfl (fun S13 => ?_)
          refine j_aload_n C dX9_reads_96 0 rfl rfl ?_
          refine j_cvv C dX9_reads_97 lk_X9_93 mw_X9_take (m_X9_take adr ) ⟨rfl, rfl, Nat.le_of_ble_eq_true rfl, Nat.le_of_ble_eq_true rfl⟩ kd_27 (by decide) (Nat.le_of_ble_eq_true rfl) rfl rfl (st := []) (st0 := [.ref (adr 27)]) rfl (Nat.le_of_ble_eq_true rfl) (fun S14 => ?_)
          refine j_goto C dX9_reads_100 (tgt := 60) (by decide) ?_
          exact ih S14
        · refine j_sub C [] rfl ?_
          exact b_X9_reads_84 C hR S11
def f_X9_reads  (S : St) : Option (Int32 × St) :=
  lt (upI S 27 12 0) fun S1 =>
  lt (upI S1 27 16 0) fun S2 =>
  lt (upI S2 27 17 0) fun S3 =>
  lt (upI S3 27 18 0) fun S4 =>
  ck 1 6 (lt (upI S4 39 (1 : Int32).toNatClampNeg 3) fun S5 =>
  ck 2 6 (lt (upI S5 39 (2 : Int32).toNatClampNeg 2) fun S6 =>
  ck 3 6 (lt (upI S6 39 (3 : Int32).toNatClampNeg 1) fun S7 =>
  ck 4 6 (lt (upI S7 39 (4 : Int32).toNatClampNeg 10) fun S8 =>
  ck 5 6 (lt (upI S8 39 (5 : Int32).toNatClampNeg 3) fun S9 =>
  bdV (f_X9_take S9) fun S10 =>
  f_X9_reads_60 FU S10)))))
set_option maxHeartbeats 1000000 in
theorem m_X9_reads (adr : Nat → Nat)  : MtI yX9_reads cX9_reads 1 (some .boolean) rm_X9_reads adr [.ref (adr 27)] (f_X9_reads ) := by
  refine MtI.ofZ (by decide +kernel) (Nat.le_of_ble_eq_true rfl) (fun K r S C hR => ?_)
  refine j_start (lv' := [(0, .ref (adr 27))]) rfl ?_
  unfold f_X9_reads
  refine j_aload_n C dX9_reads_0 0 rfl rfl ?_
  refine j_iconst C dX9_reads_1 (v := 0) rfl ?_
  refine j_puti C dX9_reads_2 fl_X9_70 fi_X9_12 kd_27 (by decide) (Nat.le_of_ble_eq_true rfl) rfl (fun S1 => ?_)
  refine j_aload_n C dX9_reads_5 0 rfl rfl ?_
  refine j_iconst C dX9_reads_6 (v := 0) rfl ?_
  refine j_puti C dX9_reads_7 fl_X9_122 fi_X9_16 kd_27 (by decide) (Nat.le_of_ble_eq_true rfl) rfl (fun S2 => ?_)
  refine j_aload_n C dX9_reads_10 0 rfl rfl ?_
  refine j_iconst C dX9_reads_11 (v := 0) rfl ?_
  refine j_puti C dX9_reads_12 fl_X9_103 fi_X9_17 kd_27 (by decide) (Nat.le_of_ble_eq_true rfl) rfl (fun S3 => ?_)
  refine j_aload_n C dX9_reads_15 0 rfl rfl ?_
  refine j_iconst C dX9_reads_16 (v := 0) rfl ?_
  refine j_puti C dX9_reads_17 fl_X9_109 fi_X9_18 kd_27 (by decide) (Nat.le_of_ble_eq_true rfl) rfl (fun S4 => ?_)
  refine j_aload_n C dX9_reads_20 0 rfl rfl ?_
  refine j_getr C dX9_reads_21 fl_X9_44 kd_27 (by decide) (Nat.le_of_ble_eq_true rfl) rfl ?_
  refine j_iconst C dX9_reads_24 (v := 1) rfl ?_
  refine j_iconst C dX9_reads_25 (v := 3) rfl ?_
  refine j_iast C dX9_reads_26 kd_39 (Nat.le_of_ble_eq_true rfl) (fun S5 => ?_)
  refine j_aload_n C dX9_reads_27 0 rfl rfl ?_
  refine j_getr C dX9_reads_28 fl_X9_44 kd_27 (by decide) (Nat.le_of_ble_eq_true rfl) rfl ?_
  refine j_iconst C dX9_reads_31 (v := 2) rfl ?_
  refine j_iconst C dX9_reads_32 (v := 2) rfl ?_
  refine j_iast C dX9_reads_33 kd_39 (Nat.le_of_ble_eq_true rfl) (fun S6 => ?_)
  refine j_aload_n C dX9_reads_34 0 rfl rfl ?_
  refine j_getr C dX9_reads_35 fl_X9_44 kd_27 (by decide) (Nat.le_of_ble_eq_true rfl) rfl ?_
  refine j_iconst C dX9_reads_38 (v := 3) rfl ?_
  refine j_iconst C dX9_reads_39 (v := 1) rfl ?_
  refine j_iast C dX9_reads_40 kd_39 (Nat.le_of_ble_eq_true rfl) (fun S7 => ?_)
  refine j_aload_n C dX9_reads_41 0 rfl rfl ?_
  refine j_getr C dX9_reads_42 fl_X9_44 kd_27 (by decide) (Nat.le_of_ble_eq_true rfl) rfl ?_
  refine j_iconst C dX9_reads_45 (v := 4) rfl ?_
  refine j_bipush C dX9_reads_46 (v := 10) rfl ?_
  refine j_iast C dX9_reads_48 kd_39 (Nat.le_of_ble_eq_true rfl) (fun S8 => ?_)
  refine j_aload_n C dX9_reads_49 0 rfl rfl ?_
  refine j_getr C dX9_reads_50 fl_X9_44 kd_27 (by decide) (Nat.le_of_ble_eq_true rfl) rfl ?_
  refine j_iconst C dX9_reads_53 (v := 5) rfl ?_
  refine j_iconst C dX9_reads_54 (v := 3) rfl ?_
  refine j_iast C dX9_reads_55 kd_39 (Nat.le_of_ble_eq_true rfl) (fun S9 => ?_)
  refine j_aload_n C dX9_reads_56 0 rfl rfl ?_
  refine j_cvv C dX9_reads_57 lk_X9_93 mw_X9_take (m_X9_take adr ) ⟨rfl, rfl, Nat.le_of_ble_eq_true rfl, Nat.le_of_ble_eq_true rfl⟩ kd_27 (by decide) (Nat.le_of_ble_eq_true rfl) rfl rfl (st := []) (st0 := [.ref (adr 27)]) rfl (Nat.le_of_ble_eq_true rfl) (fun S10 => ?_)
  exact b_X9_reads_60 C hR FU S10
-- X9_type
abbrev rm_X9_type : Room := { frames := 1, cells := 0, slots := 0, locals := 25 }
def f_X9_type (x1 : Int32) (S : St) : Option (Int32 × St) :=
  bd (f_X9_in x1.toInt64 0 255 S) fun v2 S1 =>
  if v2 = 0 then (some ((-1), S1))
  else (if (S1.1 27 7) = 120 then (some ((-3), S1))
    else (ck (S1.1 27 7) 120 (lt (upI S1 32 (S1.1 27 7).toNatClampNeg x1) fun S3 =>
      lt (upI S3 27 7 ((S3.1 27 7) + 1)) fun S4 =>
      some (S4.1 27 7, S4))))
set_option maxHeartbeats 1000000 in
theorem m_X9_type (adr : Nat → Nat) (x1 : Int32) : MtI yX9_type cX9_type 2 (some .int) rm_X9_type adr [.ref (adr 27), .int x1] (f_X9_type x1) := by
  refine MtI.of (by decide +kernel) (Nat.le_of_ble_eq_true rfl) (fun K r S C hR => ?_)
  refine j_start (lv' := [(0, .ref (adr 27)), (1, .int x1)]) rfl ?_
  unfold f_X9_type
  refine j_iload_n C dX9_type_0 1 rfl rfl ?_
  refine j_i2l C dX9_type_1 ?_
  refine j_lconst C dX9_type_2 (v := 0) rfl ?_
  refine j_ldc2 C dX9_type_3 kc_X9_128 ?_
  refine j_csi C dX9_type_6 lk_X9_66 mw_X9_in (m_X9_in adr x1.toInt64 0 255) ⟨rfl, rfl, Nat.le_of_ble_eq_true rfl, Nat.le_of_ble_eq_true rfl⟩ rfl (st := []) (st0 := [.long 255, .long 0, .long x1.toInt64]) rfl (Nat.le_of_ble_eq_true rfl) (fun v2 S1 => ?_)
  refine j_if_ne C dX9_type_9 (tgt := 14) (by decide) ?_ ?_
  · refine j_aload_n C dX9_type_14 0 rfl rfl ?_
    refine j_geti C dX9_type_15 fl_X9_73 kd_27 (by decide) (Nat.le_of_ble_eq_true rfl) rfl ?_
    refine j_bipush C dX9_type_18 (v := 120) rfl ?_
    refine j_icmp_ne C dX9_type_20 (tgt := 26) (by decide) ?_ ?_
    · refine j_aload_n C dX9_type_26 0 rfl rfl ?_
      refine j_getr C dX9_type_27 fl_X9_23 kd_27 (by decide) (Nat.le_of_ble_eq_true rfl) rfl ?_
      refine j_aload_n C dX9_type_30 0 rfl rfl ?_
      refine j_geti C dX9_type_31 fl_X9_73 kd_27 (by decide) (Nat.le_of_ble_eq_true rfl) rfl ?_
      refine j_iload_n C dX9_type_34 1 rfl rfl ?_
      refine j_iast C dX9_type_35 kd_32 (Nat.le_of_ble_eq_true rfl) (fun S3 => ?_)
      refine j_aload_n C dX9_type_36 0 rfl rfl ?_
      refine j_dup C dX9_type_37 rfl ?_
      refine j_geti C dX9_type_38 fl_X9_73 kd_27 (by decide) (Nat.le_of_ble_eq_true rfl) rfl ?_
      refine j_iconst C dX9_type_41 (v := 1) rfl ?_
      refine j_iadd C dX9_type_42 ?_
      refine j_puti C dX9_type_43 fl_X9_73 fi_X9_7 kd_27 (by decide) (Nat.le_of_ble_eq_true rfl) rfl (fun S4 => ?_)
      refine j_aload_n C dX9_type_46 0 rfl rfl ?_
      refine j_geti C dX9_type_47 fl_X9_73 kd_27 (by decide) (Nat.le_of_ble_eq_true rfl) rfl ?_
      exact j_iret hR dX9_type_50
    · refine j_bipush C dX9_type_23 (v := -3) rfl ?_
      exact j_iret hR dX9_type_25
  · refine j_iconst C dX9_type_12 (v := -1) rfl ?_
    exact j_iret hR dX9_type_13
-- X9_clear
abbrev rm_X9_clear : Room := { frames := 0, cells := 0, slots := 0, locals := 0 }
def f_X9_clear  (S : St) : Option (Int32 × St) :=
  lt (S.1 27 7) fun v1 =>
  lt (upI S 27 7 0) fun S2 =>
  some (v1, S2)
set_option maxHeartbeats 1000000 in
theorem m_X9_clear (adr : Nat → Nat)  : MtI yX9_clear cX9_clear 2 (some .int) rm_X9_clear adr [.ref (adr 27)] (f_X9_clear ) := by
  refine MtI.of (by decide +kernel) (Nat.le_of_ble_eq_true rfl) (fun K r S C hR => ?_)
  refine j_start (lv' := [(0, .ref (adr 27))]) rfl ?_
  unfold f_X9_clear
  refine j_aload_n C dX9_clear_0 0 rfl rfl ?_
  refine j_geti C dX9_clear_1 fl_X9_73 kd_27 (by decide) (Nat.le_of_ble_eq_true rfl) rfl ?_
  refine j_topi (fun v1 => ?_)
  refine j_istore_n C dX9_clear_4 rfl (by decide) rfl ?_
  refine j_aload_n C dX9_clear_5 1 rfl rfl ?_
  refine j_iconst C dX9_clear_6 (v := 0) rfl ?_
  refine j_puti C dX9_clear_7 fl_X9_73 fi_X9_7 kd_27 (by decide) (Nat.le_of_ble_eq_true rfl) rfl (fun S2 => ?_)
  refine j_iload_n C dX9_clear_10 0 rfl rfl ?_
  exact j_iret hR dX9_clear_11
-- X9_tells
abbrev rm_X9_tells : Room := { frames := 8, cells := 0, slots := 0, locals := 173 }
def f_X9_tells_100 : Nat → Int32 → St → Option (Int32 × St)
  | 0, _, _ => none
  | n + 1, x1, S =>
    if 6 ≤ x1 then (lt (upI S 27 7 0) fun S8 =>
      lt (upI S8 27 2 0) fun S9 =>
      lt (upI S9 27 5 0) fun S10 =>
      ck 0 2 (lt (upI S10 29 (0 : Int32).toNatClampNeg (vp_nar .boolean 0)) fun S11 =>
      ck 1 2 (lt (upI S11 29 (1 : Int32).toNatClampNeg (vp_nar .boolean 0)) fun S12 =>
      some (S12.1 27 16, S12))))
    else (ck x1 6 (ck x1 6 (lt (upI S 35 x1.toNatClampNeg (S.1 39 x1.toNatClampNeg)) fun S13 =>
      (f_X9_tells_100 n) (x1 + 1) S13)))
set_option maxHeartbeats 1000000 in
theorem b_X9_tells_100 {K : Kt} {adr : Nat → Nat} {r : Int32 × St} (C : Cx K cX9_tells RX9 2 adr rm_X9_tells) (hR : ∀ (pc : Nat) (lv : List (Nat × Value)), decode cX9_tells pc = .ok (.ireturn, 1) → K pc lv [.int r.1] r.2) : ∀ (n : Nat) (x1 : Int32) (S : St), J K r (f_X9_tells_100 n x1 S) 100 [(0, .ref (adr 27)), (1, .int x1)] [] S := by
  intro n
  induction n with
  | zero => intro x1 S h; cases h
  | succ n ih =>
    intro x1 S
    unfold f_X9_tells_100
    refine j_iload_n C dX9_tells_100 1 rfl rfl ?_
    refine j_bipush C dX9_tells_101 (v := 6) rfl ?_
    refine j_icmp_ge C dX9_tells_103 (tgt := 124) (by decide) ?_ ?_
    · refine j_aload_n C dX9_tells_124 0 rfl rfl ?_
      refine j_iconst C dX9_tells_125 (v := 0) rfl ?_
      refine j_puti C dX9_tells_126 fl_X9_73 fi_X9_7 kd_27 (by decide) (Nat.le_of_ble_eq_true rfl) rfl (fun S8 => ?_)
      refine j_aload_n C dX9_tells_129 0 rfl rfl ?_
      refine j_iconst C dX9_tells_130 (v := 0) rfl ?_
      refine j_puti C dX9_tells_131 fl_X9_54 fi_X9_2 kd_27 (by decide) (Nat.le_of_ble_eq_true rfl) rfl (fun S9 => ?_)
      refine j_aload_n C dX9_tells_134 0 rfl rfl ?_
      refine j_iconst C dX9_tells_135 (v := 0) rfl ?_
      refine j_puti C dX9_tells_136 fl_X9_136 fi_X9_5 kd_27 (by decide) (Nat.le_of_ble_eq_true rfl) rfl (fun S10 => ?_)
      refine j_aload_n C dX9_tells_139 0 rfl rfl ?_
      refine j_getr C dX9_tells_140 fl_X9_13 kd_27 (by decide) (Nat.le_of_ble_eq_true rfl) rfl ?_
      refine j_iconst C dX9_tells_143 (v := 0) rfl ?_
      refine j_iconst C dX9_tells_144 (v := 0) rfl ?_
      refine j_zast C dX9_tells_145 kd_29 (Nat.le_of_ble_eq_true rfl) (fun S11 => ?_)
      refine j_aload_n C dX9_tells_146 0 rfl rfl ?_
      refine j_getr C dX9_tells_147 fl_X9_13 kd_27 (by decide) (Nat.le_of_ble_eq_true rfl) rfl ?_
      refine j_iconst C dX9_tells_150 (v := 1) rfl ?_
      refine j_iconst C dX9_tells_151 (v := 0) rfl ?_
      refine j_zast C dX9_tells_152 kd_29 (Nat.le_of_ble_eq_true rfl) (fun S12 => ?_)
      refine j_aload_n C dX9_tells_153 0 rfl rfl ?_
      refine j_geti C dX9_tells_154 fl_X9_122 kd_27 (by decide) (Nat.le_of_ble_eq_true rfl) rfl ?_
      exact j_iret hR dX9_tells_157
    · refine j_aload_n C dX9_tells_106 0 rfl rfl ?_
      refine j_getr C dX9_tells_107 fl_X9_32 kd_27 (by decide) (Nat.le_of_ble_eq_true rfl) rfl ?_
      refine j_iload_n C dX9_tells_110 1 rfl rfl ?_
      refine j_aload_n C dX9_tells_111 0 rfl rfl ?_
      refine j_getr C dX9_tells_112 fl_X9_44 kd_27 (by decide) (Nat.le_of_ble_eq_true rfl) rfl ?_
      refine j_iload_n C dX9_tells_115 1 rfl rfl ?_
      refine j_iald C dX9_tells_116 kd_39 (Nat.le_of_ble_eq_true rfl) ?_
      refine j_iast C dX9_tells_117 kd_35 (Nat.le_of_ble_eq_true rfl) (fun S13 => ?_)
      refine j_iinc C dX9_tells_118 (v := x1 + 1) 1 rfl rfl (by decide) rfl ?_
      refine j_goto C dX9_tells_121 (tgt := 100) (by decide) ?_
      refine j_sub C [1, 0] rfl ?_
      exact ih (x1 + 1) S13
def f_X9_tells_47 : Nat → Int32 → St → Option (Int32 × St)
  | 0, _, _ => none
  | n + 1, x1, S =>
    if 4 ≤ x1 then (f_X9_tells_100 FU 0 S)
    else (ck x1 4 (ck x1 4 (lt (upI S 33 x1.toNatClampNeg (S.1 36 x1.toNatClampNeg)) fun S5 =>
      ck x1 4 (ck x1 4 (lt (upI S5 34 x1.toNatClampNeg (S5.1 38 x1.toNatClampNeg)) fun S6 =>
      ck x1 4 (ck (216 + x1) 2547 (lt (upI S6 28 (216 + x1).toNatClampNeg (S6.1 37 x1.toNatClampNeg)) fun S7 =>
      (f_X9_tells_47 n) (x1 + 1) S7)))))))
set_option maxHeartbeats 1000000 in
theorem b_X9_tells_47 {K : Kt} {adr : Nat → Nat} {r : Int32 × St} (C : Cx K cX9_tells RX9 2 adr rm_X9_tells) (hR : ∀ (pc : Nat) (lv : List (Nat × Value)), decode cX9_tells pc = .ok (.ireturn, 1) → K pc lv [.int r.1] r.2) : ∀ (n : Nat) (x1 : Int32) (S : St), J K r (f_X9_tells_47 n x1 S) 47 [(0, .ref (adr 27)), (1, .int x1)] [] S := by
  intro n
  induction n with
  | zero => intro x1 S h; cases h
  | succ n ih =>
    intro x1 S
    unfold f_X9_tells_47
    refine j_iload_n C dX9_tells_47 1 rfl rfl ?_
    refine j_iconst C dX9_tells_48 (v := 4) rfl ?_
    refine j_icmp_ge C dX9_tells_49 (tgt := 98) (by decide) ?_ ?_
    · refine j_iconst C dX9_tells_98 (v := 0) rfl ?_
      refine j_istore_n C dX9_tells_99 rfl (by decide) rfl ?_
      refine j_sub C [1, 0] rfl ?_
      exact b_X9_tells_100 C hR FU 0 S
    · refine j_aload_n C dX9_tells_52 0 rfl rfl ?_
      refine j_getr C dX9_tells_53 fl_X9_26 kd_27 (by decide) (Nat.le_of_ble_eq_true rfl) rfl ?_
      refine j_iload_n C dX9_tells_56 1 rfl rfl ?_
      refine j_aload_n C dX9_tells_57 0 rfl rfl ?_
      refine j_getr C dX9_tells_58 fl_X9_35 kd_27 (by decide) (Nat.le_of_ble_eq_true rfl) rfl ?_
      refine j_iload_n C dX9_tells_61 1 rfl rfl ?_
      refine j_iald C dX9_tells_62 kd_36 (Nat.le_of_ble_eq_true rfl) ?_
      refine j_iast C dX9_tells_63 kd_33 (Nat.le_of_ble_eq_true rfl) (fun S5 => ?_)
      refine j_aload_n C dX9_tells_64 0 rfl rfl ?_
      refine j_getr C dX9_tells_65 fl_X9_29 kd_27 (by decide) (Nat.le_of_ble_eq_true rfl) rfl ?_
      refine j_iload_n C dX9_tells_68 1 rfl rfl ?_
      refine j_aload_n C dX9_tells_69 0 rfl rfl ?_
      refine j_getr C dX9_tells_70 fl_X9_41 kd_27 (by decide) (Nat.le_of_ble_eq_true rfl) rfl ?_
      refine j_iload_n C dX9_tells_73 1 rfl rfl ?_
      refine j_iald C dX9_tells_74 kd_38 (Nat.le_of_ble_eq_true rfl) ?_
      refine j_iast C dX9_tells_75 kd_34 (Nat.le_of_ble_eq_true rfl) (fun S6 => ?_)
      refine j_aload_n C dX9_tells_76 0 rfl rfl ?_
      refine j_getr C dX9_tells_77 fl_X9_7 kd_27 (by decide) (Nat.le_of_ble_eq_true rfl) rfl ?_
      refine j_sipush C dX9_tells_80 (v := 216) rfl ?_
      refine j_iload_n C dX9_tells_83 1 rfl rfl ?_
      refine j_iadd C dX9_tells_84 ?_
      refine j_aload_n C dX9_tells_85 0 rfl rfl ?_
      refine j_getr C dX9_tells_86 fl_X9_38 kd_27 (by decide) (Nat.le_of_ble_eq_true rfl) rfl ?_
      refine j_iload_n C dX9_tells_89 1 rfl rfl ?_
      refine j_iald C dX9_tells_90 kd_37 (Nat.le_of_ble_eq_true rfl) ?_
      refine j_iast C dX9_tells_91 kd_28 (Nat.le_of_ble_eq_true rfl) (fun S7 => ?_)
      refine j_iinc C dX9_tells_92 (v := x1 + 1) 1 rfl rfl (by decide) rfl ?_
      refine j_goto C dX9_tells_95 (tgt := 47) (by decide) ?_
      refine j_sub C [1, 0] rfl ?_
      exact ih (x1 + 1) S7
def f_X9_tells_25 : Nat → Int32 → St → Option (Int32 × St)
  | 0, _, _ => none
  | n + 1, x1, S =>
    if 283 ≤ x1 then (f_X9_tells_47 FU 0 S)
    else (ck x1 2547 (lt (upI S 28 x1.toNatClampNeg 0) fun S4 =>
      (f_X9_tells_25 n) (x1 + 1) S4))
set_option maxHeartbeats 1000000 in
theorem b_X9_tells_25 {K : Kt} {adr : Nat → Nat} {r : Int32 × St} (C : Cx K cX9_tells RX9 2 adr rm_X9_tells) (hR : ∀ (pc : Nat) (lv : List (Nat × Value)), decode cX9_tells pc = .ok (.ireturn, 1) → K pc lv [.int r.1] r.2) : ∀ (n : Nat) (x1 : Int32) (S : St), J K r (f_X9_tells_25 n x1 S) 25 [(0, .ref (adr 27)), (1, .int x1)] [] S := by
  intro n
  induction n with
  | zero => intro x1 S h; cases h
  | succ n ih =>
    intro x1 S
    unfold f_X9_tells_25
    refine j_iload_n C dX9_tells_25 1 rfl rfl ?_
    refine j_sipush C dX9_tells_26 (v := 283) rfl ?_
    refine j_icmp_ge C dX9_tells_29 (tgt := 45) (by decide) ?_ ?_
    · refine j_iconst C dX9_tells_45 (v := 0) rfl ?_
      refine j_istore_n C dX9_tells_46 rfl (by decide) rfl ?_
      refine j_sub C [1, 0] rfl ?_
      exact b_X9_tells_47 C hR FU 0 S
    · refine j_aload_n C dX9_tells_32 0 rfl rfl ?_
      refine j_getr C dX9_tells_33 fl_X9_7 kd_27 (by decide) (Nat.le_of_ble_eq_true rfl) rfl ?_
      refine j_iload_n C dX9_tells_36 1 rfl rfl ?_
      refine j_iconst C dX9_tells_37 (v := 0) rfl ?_
      refine j_iast C dX9_tells_38 kd_28 (Nat.le_of_ble_eq_true rfl) (fun S4 => ?_)
      refine j_iinc C dX9_tells_39 (v := x1 + 1) 1 rfl rfl (by decide) rfl ?_
      refine j_goto C dX9_tells_42 (tgt := 25) (by decide) ?_
      refine j_sub C [1, 0] rfl ?_
      exact ih (x1 + 1) S4
def f_X9_tells  (S : St) : Option (Int32 × St) :=
  bd (f_X9_reads S) fun v2 S1 =>
  if v2 = 0 then (some ((-10) - (S1.1 27 13), S1))
  else (lt (upI S1 27 8 (S1.1 27 17)) fun S3 =>
    f_X9_tells_25 FU 0 S3)
set_option maxHeartbeats 1000000 in
theorem m_X9_tells (adr : Nat → Nat)  : MtI yX9_tells cX9_tells 2 (some .int) rm_X9_tells adr [.ref (adr 27)] (f_X9_tells ) := by
  refine MtI.of (by decide +kernel) (Nat.le_of_ble_eq_true rfl) (fun K r S C hR => ?_)
  refine j_start (lv' := [(0, .ref (adr 27))]) rfl ?_
  unfold f_X9_tells
  refine j_aload_n C dX9_tells_0 0 rfl rfl ?_
  refine j_cvi C dX9_tells_1 lk_X9_130 mw_X9_reads (m_X9_reads adr ) ⟨rfl, rfl, Nat.le_of_ble_eq_true rfl, Nat.le_of_ble_eq_true rfl⟩ kd_27 (by decide) (Nat.le_of_ble_eq_true rfl) rfl rfl (st := []) (st0 := [.ref (adr 27)]) rfl (Nat.le_of_ble_eq_true rfl) (fun v2 S1 => ?_)
  refine j_if_ne C dX9_tells_4 (tgt := 15) (by decide) ?_ ?_
  · refine j_aload_n C dX9_tells_15 0 rfl rfl ?_
    refine j_aload_n C dX9_tells_16 0 rfl rfl ?_
    refine j_geti C dX9_tells_17 fl_X9_103 kd_27 (by decide) (Nat.le_of_ble_eq_true rfl) rfl ?_
    refine j_puti C dX9_tells_20 fl_X9_133 fi_X9_8 kd_27 (by decide) (Nat.le_of_ble_eq_true rfl) rfl (fun S3 => ?_)
    refine j_iconst C dX9_tells_23 (v := 0) rfl ?_
    refine j_istore_n C dX9_tells_24 rfl (by decide) rfl ?_
    refine j_sub C [1, 0] rfl ?_
    exact b_X9_tells_25 C hR FU 0 S3
  · refine j_bipush C dX9_tells_7 (v := -10) rfl ?_
    refine j_aload_n C dX9_tells_9 0 rfl rfl ?_
    refine j_geti C dX9_tells_10 fl_X9_76 kd_27 (by decide) (Nat.le_of_ble_eq_true rfl) rfl ?_
    refine j_isub C dX9_tells_13 ?_
    exact j_iret hR dX9_tells_14
-- X9_isCell
abbrev rm_X9_isCell : Room := { frames := 1, cells := 0, slots := 0, locals := 25 }
def f_X9_isCell (x1 : Int32) (S : St) : Option (Int32 × St) :=
  bd (f_X9_in x1.toInt64 0 (((S.1 27 8) - 1).toInt64) S) fun v2 S1 =>
  bz v2 (some (v2, S1))
set_option maxHeartbeats 1000000 in
theorem m_X9_isCell (adr : Nat → Nat) (x1 : Int32) : MtI yX9_isCell cX9_isCell 2 (some .boolean) rm_X9_isCell adr [.ref (adr 27), .int x1] (f_X9_isCell x1) := by
  refine MtI.ofZ (by decide +kernel) (Nat.le_of_ble_eq_true rfl) (fun K r S C hR => ?_)
  refine j_start (lv' := [(0, .ref (adr 27)), (1, .int x1)]) rfl ?_
  unfold f_X9_isCell
  refine j_iload_n C dX9_isCell_0 1 rfl rfl ?_
  refine j_i2l C dX9_isCell_1 ?_
  refine j_lconst C dX9_isCell_2 (v := 0) rfl ?_
  refine j_aload_n C dX9_isCell_3 0 rfl rfl ?_
  refine j_geti C dX9_isCell_4 fl_X9_133 kd_27 (by decide) (Nat.le_of_ble_eq_true rfl) rfl ?_
  refine j_iconst C dX9_isCell_7 (v := 1) rfl ?_
  refine j_isub C dX9_isCell_8 ?_
  refine j_i2l C dX9_isCell_9 ?_
  refine j_csi C dX9_isCell_10 lk_X9_66 mw_X9_in (m_X9_in adr x1.toInt64 0 (((S.1 27 8) - 1).toInt64)) ⟨rfl, rfl, Nat.le_of_ble_eq_true rfl, Nat.le_of_ble_eq_true rfl⟩ rfl (st := []) (st0 := [.long (((S.1 27 8) - 1).toInt64), .long 0, .long x1.toInt64]) rfl (Nat.le_of_ble_eq_true rfl) (fun v2 S1 => ?_)
  exact j_zretv hR dX9_isCell_13
-- X9_get
abbrev rm_X9_get : Room := { frames := 0, cells := 0, slots := 0, locals := 0 }
def f_X9_get (x1 : Int32) (x2 : Int32) (S : St) : Option (Int32 × St) :=
  ck ((18 * x1) + x2) 2547 (some (S.1 28 ((18 * x1) + x2).toNatClampNeg, S))
set_option maxHeartbeats 1000000 in
theorem m_X9_get (adr : Nat → Nat) (x1 : Int32) (x2 : Int32) : MtI yX9_get cX9_get 3 (some .int) rm_X9_get adr [.ref (adr 27), .int x1, .int x2] (f_X9_get x1 x2) := by
  refine MtI.of (by decide +kernel) (Nat.le_of_ble_eq_true rfl) (fun K r S C hR => ?_)
  refine j_start (lv' := [(0, .ref (adr 27)), (1, .int x1), (2, .int x2)]) rfl ?_
  unfold f_X9_get
  refine j_aload_n C dX9_get_0 0 rfl rfl ?_
  refine j_getr C dX9_get_1 fl_X9_7 kd_27 (by decide) (Nat.le_of_ble_eq_true rfl) rfl ?_
  refine j_bipush C dX9_get_4 (v := 18) rfl ?_
  refine j_iload_n C dX9_get_6 1 rfl rfl ?_
  refine j_imul C dX9_get_7 ?_
  refine j_iload_n C dX9_get_8 2 rfl rfl ?_
  refine j_iadd C dX9_get_9 ?_
  refine j_iald C dX9_get_10 kd_28 (Nat.le_of_ble_eq_true rfl) ?_
  exact j_iret hR dX9_get_11
-- X9_set
abbrev rm_X9_set : Room := { frames := 0, cells := 0, slots := 0, locals := 0 }
def f_X9_set (x1 : Int32) (x2 : Int32) (x3 : Int32) (S : St) : Option (St) :=
  ck ((18 * x1) + x2) 2547 (lt (upI S 28 ((18 * x1) + x2).toNatClampNeg x3) fun S1 =>
  some S1)
set_option maxHeartbeats 1000000 in
theorem m_X9_set (adr : Nat → Nat) (x1 : Int32) (x2 : Int32) (x3 : Int32) : MtV yX9_set cX9_set 4 none rm_X9_set adr [.ref (adr 27), .int x1, .int x2, .int x3] (f_X9_set x1 x2 x3) := by
  refine MtV.of (by decide +kernel) (Nat.le_of_ble_eq_true rfl) (fun K r S C hR => ?_)
  refine j_start (lv' := [(0, .ref (adr 27)), (1, .int x1), (2, .int x2), (3, .int x3)]) rfl ?_
  unfold f_X9_set
  refine j_aload_n C dX9_set_0 0 rfl rfl ?_
  refine j_getr C dX9_set_1 fl_X9_7 kd_27 (by decide) (Nat.le_of_ble_eq_true rfl) rfl ?_
  refine j_bipush C dX9_set_4 (v := 18) rfl ?_
  refine j_iload_n C dX9_set_6 1 rfl rfl ?_
  refine j_imul C dX9_set_7 ?_
  refine j_iload_n C dX9_set_8 2 rfl rfl ?_
  refine j_iadd C dX9_set_9 ?_
  refine j_iload_n C dX9_set_10 3 rfl rfl ?_
  refine j_iast C dX9_set_11 kd_28 (Nat.le_of_ble_eq_true rfl) (fun S1 => ?_)
  exact j_vret hR dX9_set_12
-- X9_isCall
abbrev rm_X9_isCall : Room := { frames := 1, cells := 0, slots := 0, locals := 25 }
def f_X9_isCall_27 (s0 : Int32) (S : St) : Option (Int32 × St) :=
    bz s0 (some (s0, S))
set_option maxHeartbeats 1000000 in
theorem b_X9_isCall_27 {K : Kt} {adr : Nat → Nat} {r : Int32 × St} (C : Cx K cX9_isCall RX9 2 adr rm_X9_isCall) (hR : ∀ (pc : Nat) (lv : List (Nat × Value)), (r.1 = 0 ∨ r.1 = 1) → decode cX9_isCall pc = .ok (.ireturn, 1) → K pc lv [.int r.1] r.2) (s0 : Int32) (S : St) : J K r (f_X9_isCall_27 s0 S) 27 [] [.int s0] S := by
    unfold f_X9_isCall_27
    exact j_zretv hR dX9_isCall_27
def f_X9_isCall_26  (S : St) : Option (Int32 × St) :=
    f_X9_isCall_27 0 S
set_option maxHeartbeats 1000000 in
theorem b_X9_isCall_26 {K : Kt} {adr : Nat → Nat} {r : Int32 × St} (C : Cx K cX9_isCall RX9 2 adr rm_X9_isCall) (hR : ∀ (pc : Nat) (lv : List (Nat × Value)), (r.1 = 0 ∨ r.1 = 1) → decode cX9_isCall pc = .ok (.ireturn, 1) → K pc lv [.int r.1] r.2)  (S : St) : J K r (f_X9_isCall_26  S) 26 [] [] S := by
    unfold f_X9_isCall_26
    refine j_iconst C dX9_isCall_26 (v := 0) rfl ?_
    exact b_X9_isCall_27 C hR 0 S
def f_X9_isCall (x1 : Int32) (S : St) : Option (Int32 × St) :=
  bd (f_X9_in x1.toInt64 0 11 S) fun v2 S1 =>
  if v2 = 0 then (f_X9_isCall_26 S1)
  else (bd (f_X9_get x1 0 S1) fun v4 S3 =>
    if v4 = 1 then (f_X9_isCall_27 1 S3)
    else (f_X9_isCall_26 S3))
set_option maxHeartbeats 1000000 in
theorem m_X9_isCall (adr : Nat → Nat) (x1 : Int32) : MtI yX9_isCall cX9_isCall 2 (some .boolean) rm_X9_isCall adr [.ref (adr 27), .int x1] (f_X9_isCall x1) := by
  refine MtI.ofZ (by decide +kernel) (Nat.le_of_ble_eq_true rfl) (fun K r S C hR => ?_)
  refine j_start (lv' := [(0, .ref (adr 27)), (1, .int x1)]) rfl ?_
  unfold f_X9_isCall
  refine j_iload_n C dX9_isCall_0 1 rfl rfl ?_
  refine j_i2l C dX9_isCall_1 ?_
  refine j_lconst C dX9_isCall_2 (v := 0) rfl ?_
  refine j_ldc2 C dX9_isCall_3 kc_X9_139 ?_
  refine j_csi C dX9_isCall_6 lk_X9_66 mw_X9_in (m_X9_in adr x1.toInt64 0 11) ⟨rfl, rfl, Nat.le_of_ble_eq_true rfl, Nat.le_of_ble_eq_true rfl⟩ rfl (st := []) (st0 := [.long 11, .long 0, .long x1.toInt64]) rfl (Nat.le_of_ble_eq_true rfl) (fun v2 S1 => ?_)
  refine j_if_eq C dX9_isCall_9 (tgt := 26) (by decide) ?_ ?_
  · refine j_sub C [] rfl ?_
    exact b_X9_isCall_26 C hR S1
  · refine j_aload_n C dX9_isCall_12 0 rfl rfl ?_
    refine j_iload_n C dX9_isCall_13 1 rfl rfl ?_
    refine j_iconst C dX9_isCall_14 (v := 0) rfl ?_
    refine j_cvi C dX9_isCall_15 lk_X9_141 mw_X9_get (m_X9_get adr x1 0) ⟨rfl, rfl, Nat.le_of_ble_eq_true rfl, Nat.le_of_ble_eq_true rfl⟩ kd_27 (by decide) (Nat.le_of_ble_eq_true rfl) rfl rfl (st := []) (st0 := [.int 0, .int x1, .ref (adr 27)]) rfl (Nat.le_of_ble_eq_true rfl) (fun v4 S3 => ?_)
    refine j_iconst C dX9_isCall_18 (v := 1) rfl ?_
    refine j_icmp_ne C dX9_isCall_19 (tgt := 26) (by decide) ?_ ?_
    · refine j_sub C [] rfl ?_
      exact b_X9_isCall_26 C hR S3
    · refine j_iconst C dX9_isCall_22 (v := 1) rfl ?_
      refine j_goto C dX9_isCall_23 (tgt := 27) (by decide) ?_
      refine j_sub C [] rfl ?_
      exact b_X9_isCall_27 C hR 1 S3
-- X9_calls
abbrev rm_X9_calls : Room := { frames := 1, cells := 0, slots := 0, locals := 22 }
def f_X9_calls_4 : Nat → Int32 → Int32 → St → Option (Int32 × St)
  | 0, _, _, _ => none
  | n + 1, x1, x2, S =>
    if 12 ≤ x2 then (some (x1, S))
    else (bd (f_X9_get x2 0 S) fun v2 S1 =>
      lt (x1 + v2) fun v3 =>
      (f_X9_calls_4 n) v3 (x2 + 1) S1)
set_option maxHeartbeats 1000000 in
theorem b_X9_calls_4 {K : Kt} {adr : Nat → Nat} {r : Int32 × St} (C : Cx K cX9_calls RX9 3 adr rm_X9_calls) (hR : ∀ (pc : Nat) (lv : List (Nat × Value)), decode cX9_calls pc = .ok (.ireturn, 1) → K pc lv [.int r.1] r.2) : ∀ (n : Nat) (x1 : Int32) (x2 : Int32) (S : St), J K r (f_X9_calls_4 n x1 x2 S) 4 [(0, .ref (adr 27)), (1, .int x1), (2, .int x2)] [] S := by
  intro n
  induction n with
  | zero => intro x1 x2 S h; cases h
  | succ n ih =>
    intro x1 x2 S
    unfold f_X9_calls_4
    refine j_iload_n C dX9_calls_4 2 rfl rfl ?_
    refine j_bipush C dX9_calls_5 (v := 12) rfl ?_
    refine j_icmp_ge C dX9_calls_7 (tgt := 25) (by decide) ?_ ?_
    · refine j_iload_n C dX9_calls_25 1 rfl rfl ?_
      exact j_iret hR dX9_calls_26
    · refine j_iload_n C dX9_calls_10 1 rfl rfl ?_
      refine j_aload_n C dX9_calls_11 0 rfl rfl ?_
      refine j_iload_n C dX9_calls_12 2 rfl rfl ?_
      refine j_iconst C dX9_calls_13 (v := 0) rfl ?_
      refine j_cvi C dX9_calls_14 lk_X9_141 mw_X9_get (m_X9_get adr x2 0) ⟨rfl, rfl, Nat.le_of_ble_eq_true rfl, Nat.le_of_ble_eq_true rfl⟩ kd_27 (by decide) (Nat.le_of_ble_eq_true rfl) rfl rfl (st := [.int x1]) (st0 := [.int 0, .int x2, .ref (adr 27), .int x1]) rfl (Nat.le_of_ble_eq_true rfl) (fun v2 S1 => ?_)
      refine j_iadd C dX9_calls_17 ?_
      refine j_topi (fun v3 => ?_)
      refine j_istore_n C dX9_calls_18 rfl (by decide) rfl ?_
      refine j_iinc C dX9_calls_19 (v := x2 + 1) 2 rfl rfl (by decide) rfl ?_
      refine j_goto C dX9_calls_22 (tgt := 4) (by decide) ?_
      refine j_sub C [2, 1, 0] rfl ?_
      exact ih v3 (x2 + 1) S1
def f_X9_calls  (S : St) : Option (Int32 × St) :=
  f_X9_calls_4 FU 0 0 S
set_option maxHeartbeats 1000000 in
theorem m_X9_calls (adr : Nat → Nat)  : MtI yX9_calls cX9_calls 3 (some .int) rm_X9_calls adr [.ref (adr 27)] (f_X9_calls ) := by
  refine MtI.of (by decide +kernel) (Nat.le_of_ble_eq_true rfl) (fun K r S C hR => ?_)
  refine j_start (lv' := [(0, .ref (adr 27))]) rfl ?_
  unfold f_X9_calls
  refine j_iconst C dX9_calls_0 (v := 0) rfl ?_
  refine j_istore_n C dX9_calls_1 rfl (by decide) rfl ?_
  refine j_iconst C dX9_calls_2 (v := 0) rfl ?_
  refine j_istore_n C dX9_calls_3 rfl (by decide) rfl ?_
  refine j_sub C [2, 1, 0] rfl ?_
  exact b_X9_calls_4 C hR FU 0 0 S
-- X9_busy
abbrev rm_X9_busy : Room := { frames := 1, cells := 0, slots := 0, locals := 22 }
def f_X9_busy_36 (k4 : Int32 → Int32 → Int32 → St → Option (Int32 × St)) (x1 : Int32) (x3 : Int32) (s0 : Int32) (s1 : Int32) (S : St) : Option (Int32 × St) :=
    lt (s1 + s0) fun v5 =>
    k4 x1 v5 (x3 + 1) S
set_option maxHeartbeats 1000000 in
theorem b_X9_busy_36 {K : Kt} {adr : Nat → Nat} {r : Int32 × St} (C : Cx K cX9_busy RX9 4 adr rm_X9_busy) (hR : ∀ (pc : Nat) (lv : List (Nat × Value)), decode cX9_busy pc = .ok (.ireturn, 1) → K pc lv [.int r.1] r.2) (k4 : Int32 → Int32 → Int32 → St → Option (Int32 × St)) (h4 : ∀ (x1 : Int32) (x2 : Int32) (x3 : Int32) (S : St), J K r (k4 x1 x2 x3 S) 4 [(0, .ref (adr 27)), (1, .int x1), (2, .int x2), (3, .int x3)] [] S) (x1 : Int32) (x3 : Int32) (s0 : Int32) (s1 : Int32) (S : St) : J K r (f_X9_busy_36 k4 x1 x3 s0 s1 S) 36 [(0, .ref (adr 27)), (1, .int x1), (3, .int x3)] [.int s0, .int s1] S := by
    unfold f_X9_busy_36
    refine j_iadd C dX9_busy_36 ?_
    refine j_topi (fun v5 => ?_)
    refine j_istore_n C dX9_busy_37 rfl (by decide) rfl ?_
    refine j_iinc C dX9_busy_38 (v := x3 + 1) 3 rfl rfl (by decide) rfl ?_
    refine j_goto C dX9_busy_41 (tgt := 4) (by decide) ?_
    refine j_sub C [2, 3, 1, 0] rfl ?_
    exact h4 x1 v5 (x3 + 1) S
def f_X9_busy_35 (k4 : Int32 → Int32 → Int32 → St → Option (Int32 × St)) (x1 : Int32) (x3 : Int32) (s0 : Int32) (S : St) : Option (Int32 × St) :=
    f_X9_busy_36 k4 x1 x3 0 s0 S
set_option maxHeartbeats 1000000 in
theorem b_X9_busy_35 {K : Kt} {adr : Nat → Nat} {r : Int32 × St} (C : Cx K cX9_busy RX9 4 adr rm_X9_busy) (hR : ∀ (pc : Nat) (lv : List (Nat × Value)), decode cX9_busy pc = .ok (.ireturn, 1) → K pc lv [.int r.1] r.2) (k4 : Int32 → Int32 → Int32 → St → Option (Int32 × St)) (h4 : ∀ (x1 : Int32) (x2 : Int32) (x3 : Int32) (S : St), J K r (k4 x1 x2 x3 S) 4 [(0, .ref (adr 27)), (1, .int x1), (2, .int x2), (3, .int x3)] [] S) (x1 : Int32) (x3 : Int32) (s0 : Int32) (S : St) : J K r (f_X9_busy_35 k4 x1 x3 s0 S) 35 [(0, .ref (adr 27)), (1, .int x1), (3, .int x3)] [.int s0] S := by
    unfold f_X9_busy_35
    refine j_iconst C dX9_busy_35 (v := 0) rfl ?_
    exact b_X9_busy_36 C hR k4 h4 x1 x3 0 s0 S
def f_X9_busy_4 : Nat → Int32 → Int32 → Int32 → St → Option (Int32 × St)
  | 0, _, _, _, _ => none
  | n + 1, x1, x2, x3, S =>
    if 12 ≤ x3 then (some (x2, S))
    else (bd (f_X9_get x3 0 S) fun v2 S1 =>
      if v2 = 1 then (bd (f_X9_get x3 1 S1) fun v4 S3 =>
        if v4 = x1 then (f_X9_busy_36 (f_X9_busy_4 n) x1 x3 1 x2 S3)
        else (f_X9_busy_35 (f_X9_busy_4 n) x1 x3 x2 S3))
      else (f_X9_busy_35 (f_X9_busy_4 n) x1 x3 x2 S1))
set_option maxHeartbeats 1000000 in
theorem b_X9_busy_4 {K : Kt} {adr : Nat → Nat} {r : Int32 × St} (C : Cx K cX9_busy RX9 4 adr rm_X9_busy) (hR : ∀ (pc : Nat) (lv : List (Nat × Value)), decode cX9_busy pc = .ok (.ireturn, 1) → K pc lv [.int r.1] r.2) : ∀ (n : Nat) (x1 : Int32) (x2 : Int32) (x3 : Int32) (S : St), J K r (f_X9_busy_4 n x1 x2 x3 S) 4 [(0, .ref (adr 27)), (1, .int x1), (2, .int x2), (3, .int x3)] [] S := by
  intro n
  induction n with
  | zero => intro x1 x2 x3 S h; cases h
  | succ n ih =>
    intro x1 x2 x3 S
    unfold f_X9_busy_4
    refine j_iload_n C dX9_busy_4 3 rfl rfl ?_
    refine j_bipush C dX9_busy_5 (v := 12) rfl ?_
    refine j_icmp_ge C dX9_busy_7 (tgt := 44) (by decide) ?_ ?_
    · refine j_iload_n C dX9_busy_44 2 rfl rfl ?_
      exact j_iret hR dX9_busy_45
    · refine j_iload_n C dX9_busy_10 2 rfl rfl ?_
      refine j_aload_n C dX9_busy_11 0 rfl rfl ?_
      refine j_iload_n C dX9_busy_12 3 rfl rfl ?_
      refine j_iconst C dX9_busy_13 (v := 0) rfl ?_
      refine j_cvi C dX9_busy_14 lk_X9_141 mw_X9_get (m_X9_get adr x3 0) ⟨rfl, rfl, Nat.le_of_ble_eq_true rfl, Nat.le_of_ble_eq_true rfl⟩ kd_27 (by decide) (Nat.le_of_ble_eq_true rfl) rfl rfl (st := [.int x2]) (st0 := [.int 0, .int x3, .ref (adr 27), .int x2]) rfl (Nat.le_of_ble_eq_true rfl) (fun v2 S1 => ?_)
      refine j_iconst C dX9_busy_17 (v := 1) rfl ?_
      refine j_icmp_ne C dX9_busy_18 (tgt := 35) (by decide) ?_ ?_
      · refine j_sub C [0, 1, 3] rfl ?_
        exact b_X9_busy_35 C hR (f_X9_busy_4 n) ih x1 x3 x2 S1
      · refine j_aload_n C dX9_busy_21 0 rfl rfl ?_
        refine j_iload_n C dX9_busy_22 3 rfl rfl ?_
        refine j_iconst C dX9_busy_23 (v := 1) rfl ?_
        refine j_cvi C dX9_busy_24 lk_X9_141 mw_X9_get (m_X9_get adr x3 1) ⟨rfl, rfl, Nat.le_of_ble_eq_true rfl, Nat.le_of_ble_eq_true rfl⟩ kd_27 (by decide) (Nat.le_of_ble_eq_true rfl) rfl rfl (st := [.int x2]) (st0 := [.int 1, .int x3, .ref (adr 27), .int x2]) rfl (Nat.le_of_ble_eq_true rfl) (fun v4 S3 => ?_)
        refine j_iload_n C dX9_busy_27 1 rfl rfl ?_
        refine j_icmp_ne C dX9_busy_28 (tgt := 35) (by decide) ?_ ?_
        · refine j_sub C [0, 1, 3] rfl ?_
          exact b_X9_busy_35 C hR (f_X9_busy_4 n) ih x1 x3 x2 S3
        · refine j_iconst C dX9_busy_31 (v := 1) rfl ?_
          refine j_goto C dX9_busy_32 (tgt := 36) (by decide) ?_
          refine j_sub C [0, 1, 3] rfl ?_
          exact b_X9_busy_36 C hR (f_X9_busy_4 n) ih x1 x3 1 x2 S3
def f_X9_busy (x1 : Int32) (S : St) : Option (Int32 × St) :=
  f_X9_busy_4 FU x1 0 0 S
set_option maxHeartbeats 1000000 in
theorem m_X9_busy (adr : Nat → Nat) (x1 : Int32) : MtI yX9_busy cX9_busy 4 (some .int) rm_X9_busy adr [.ref (adr 27), .int x1] (f_X9_busy x1) := by
  refine MtI.of (by decide +kernel) (Nat.le_of_ble_eq_true rfl) (fun K r S C hR => ?_)
  refine j_start (lv' := [(0, .ref (adr 27)), (1, .int x1)]) rfl ?_
  unfold f_X9_busy
  refine j_iconst C dX9_busy_0 (v := 0) rfl ?_
  refine j_istore_n C dX9_busy_1 rfl (by decide) rfl ?_
  refine j_iconst C dX9_busy_2 (v := 0) rfl ?_
  refine j_istore_n C dX9_busy_3 rfl (by decide) rfl ?_
  refine j_sub C [2, 3, 1, 0] rfl ?_
  exact b_X9_busy_4 C hR FU x1 0 0 S
-- X9_waiting
abbrev rm_X9_waiting : Room := { frames := 1, cells := 0, slots := 0, locals := 22 }
def f_X9_waiting_36 (k4 : Int32 → Int32 → Int32 → St → Option (Int32 × St)) (x1 : Int32) (x3 : Int32) (s0 : Int32) (s1 : Int32) (S : St) : Option (Int32 × St) :=
    lt (s1 + s0) fun v5 =>
    k4 x1 v5 (x3 + 1) S
set_option maxHeartbeats 1000000 in
theorem b_X9_waiting_36 {K : Kt} {adr : Nat → Nat} {r : Int32 × St} (C : Cx K cX9_waiting RX9 4 adr rm_X9_waiting) (hR : ∀ (pc : Nat) (lv : List (Nat × Value)), decode cX9_waiting pc = .ok (.ireturn, 1) → K pc lv [.int r.1] r.2) (k4 : Int32 → Int32 → Int32 → St → Option (Int32 × St)) (h4 : ∀ (x1 : Int32) (x2 : Int32) (x3 : Int32) (S : St), J K r (k4 x1 x2 x3 S) 4 [(0, .ref (adr 27)), (1, .int x1), (2, .int x2), (3, .int x3)] [] S) (x1 : Int32) (x3 : Int32) (s0 : Int32) (s1 : Int32) (S : St) : J K r (f_X9_waiting_36 k4 x1 x3 s0 s1 S) 36 [(0, .ref (adr 27)), (1, .int x1), (3, .int x3)] [.int s0, .int s1] S := by
    unfold f_X9_waiting_36
    refine j_iadd C dX9_waiting_36 ?_
    refine j_topi (fun v5 => ?_)
    refine j_istore_n C dX9_waiting_37 rfl (by decide) rfl ?_
    refine j_iinc C dX9_waiting_38 (v := x3 + 1) 3 rfl rfl (by decide) rfl ?_
    refine j_goto C dX9_waiting_41 (tgt := 4) (by decide) ?_
    refine j_sub C [2, 3, 1, 0] rfl ?_
    exact h4 x1 v5 (x3 + 1) S
def f_X9_waiting_35 (k4 : Int32 → Int32 → Int32 → St → Option (Int32 × St)) (x1 : Int32) (x3 : Int32) (s0 : Int32) (S : St) : Option (Int32 × St) :=
    f_X9_waiting_36 k4 x1 x3 0 s0 S
set_option maxHeartbeats 1000000 in
theorem b_X9_waiting_35 {K : Kt} {adr : Nat → Nat} {r : Int32 × St} (C : Cx K cX9_waiting RX9 4 adr rm_X9_waiting) (hR : ∀ (pc : Nat) (lv : List (Nat × Value)), decode cX9_waiting pc = .ok (.ireturn, 1) → K pc lv [.int r.1] r.2) (k4 : Int32 → Int32 → Int32 → St → Option (Int32 × St)) (h4 : ∀ (x1 : Int32) (x2 : Int32) (x3 : Int32) (S : St), J K r (k4 x1 x2 x3 S) 4 [(0, .ref (adr 27)), (1, .int x1), (2, .int x2), (3, .int x3)] [] S) (x1 : Int32) (x3 : Int32) (s0 : Int32) (S : St) : J K r (f_X9_waiting_35 k4 x1 x3 s0 S) 35 [(0, .ref (adr 27)), (1, .int x1), (3, .int x3)] [.int s0] S := by
    unfold f_X9_waiting_35
    refine j_iconst C dX9_waiting_35 (v := 0) rfl ?_
    exact b_X9_waiting_36 C hR k4 h4 x1 x3 0 s0 S
def f_X9_waiting_4 : Nat → Int32 → Int32 → Int32 → St → Option (Int32 × St)
  | 0, _, _, _, _ => none
  | n + 1, x1, x2, x3, S =>
    if 12 ≤ x3 then (some (x2, S))
    else (bd (f_X9_get x3 0 S) fun v2 S1 =>
      if v2 = 1 then (bd (f_X9_get x3 2 S1) fun v4 S3 =>
        if v4 = x1 then (f_X9_waiting_36 (f_X9_waiting_4 n) x1 x3 1 x2 S3)
        else (f_X9_waiting_35 (f_X9_waiting_4 n) x1 x3 x2 S3))
      else (f_X9_waiting_35 (f_X9_waiting_4 n) x1 x3 x2 S1))
set_option maxHeartbeats 1000000 in
theorem b_X9_waiting_4 {K : Kt} {adr : Nat → Nat} {r : Int32 × St} (C : Cx K cX9_waiting RX9 4 adr rm_X9_waiting) (hR : ∀ (pc : Nat) (lv : List (Nat × Value)), decode cX9_waiting pc = .ok (.ireturn, 1) → K pc lv [.int r.1] r.2) : ∀ (n : Nat) (x1 : Int32) (x2 : Int32) (x3 : Int32) (S : St), J K r (f_X9_waiting_4 n x1 x2 x3 S) 4 [(0, .ref (adr 27)), (1, .int x1), (2, .int x2), (3, .int x3)] [] S := by
  intro n
  induction n with
  | zero => intro x1 x2 x3 S h; cases h
  | succ n ih =>
    intro x1 x2 x3 S
    unfold f_X9_waiting_4
    refine j_iload_n C dX9_waiting_4 3 rfl rfl ?_
    refine j_bipush C dX9_waiting_5 (v := 12) rfl ?_
    refine j_icmp_ge C dX9_waiting_7 (tgt := 44) (by decide) ?_ ?_
    · refine j_iload_n C dX9_waiting_44 2 rfl rfl ?_
      exact j_iret hR dX9_waiting_45
    · refine j_iload_n C dX9_waiting_10 2 rfl rfl ?_
      refine j_aload_n C dX9_waiting_11 0 rfl rfl ?_
      refine j_iload_n C dX9_waiting_12 3 rfl rfl ?_
      refine j_iconst C dX9_waiting_13 (v := 0) rfl ?_
      refine j_cvi C dX9_waiting_14 lk_X9_141 mw_X9_get (m_X9_get adr x3 0) ⟨rfl, rfl, Nat.le_of_ble_eq_true rfl, Nat.le_of_ble_eq_true rfl⟩ kd_27 (by decide) (Nat.le_of_ble_eq_true rfl) rfl rfl (st := [.int x2]) (st0 := [.int 0, .int x3, .ref (adr 27), .int x2]) rfl (Nat.le_of_ble_eq_true rfl) (fun v2 S1 => ?_)
      refine j_iconst C dX9_waiting_17 (v := 1) rfl ?_
      refine j_icmp_ne C dX9_waiting_18 (tgt := 35) (by decide) ?_ ?_
      · refine j_sub C [0, 1, 3] rfl ?_
        exact b_X9_waiting_35 C hR (f_X9_waiting_4 n) ih x1 x3 x2 S1
      · refine j_aload_n C dX9_waiting_21 0 rfl rfl ?_
        refine j_iload_n C dX9_waiting_22 3 rfl rfl ?_
        refine j_iconst C dX9_waiting_23 (v := 2) rfl ?_
        refine j_cvi C dX9_waiting_24 lk_X9_141 mw_X9_get (m_X9_get adr x3 2) ⟨rfl, rfl, Nat.le_of_ble_eq_true rfl, Nat.le_of_ble_eq_true rfl⟩ kd_27 (by decide) (Nat.le_of_ble_eq_true rfl) rfl rfl (st := [.int x2]) (st0 := [.int 2, .int x3, .ref (adr 27), .int x2]) rfl (Nat.le_of_ble_eq_true rfl) (fun v4 S3 => ?_)
        refine j_iload_n C dX9_waiting_27 1 rfl rfl ?_
        refine j_icmp_ne C dX9_waiting_28 (tgt := 35) (by decide) ?_ ?_
        · refine j_sub C [0, 1, 3] rfl ?_
          exact b_X9_waiting_35 C hR (f_X9_waiting_4 n) ih x1 x3 x2 S3
        · refine j_iconst C dX9_waiting_31 (v := 1) rfl ?_
          refine j_goto C dX9_waiting_32 (tgt := 36) (by decide) ?_
          refine j_sub C [0, 1, 3] rfl ?_
          exact b_X9_waiting_36 C hR (f_X9_waiting_4 n) ih x1 x3 1 x2 S3
def f_X9_waiting (x1 : Int32) (S : St) : Option (Int32 × St) :=
  f_X9_waiting_4 FU x1 0 0 S
set_option maxHeartbeats 1000000 in
theorem m_X9_waiting (adr : Nat → Nat) (x1 : Int32) : MtI yX9_waiting cX9_waiting 4 (some .int) rm_X9_waiting adr [.ref (adr 27), .int x1] (f_X9_waiting x1) := by
  refine MtI.of (by decide +kernel) (Nat.le_of_ble_eq_true rfl) (fun K r S C hR => ?_)
  refine j_start (lv' := [(0, .ref (adr 27)), (1, .int x1)]) rfl ?_
  unfold f_X9_waiting
  refine j_iconst C dX9_waiting_0 (v := 0) rfl ?_
  refine j_istore_n C dX9_waiting_1 rfl (by decide) rfl ?_
  refine j_iconst C dX9_waiting_2 (v := 0) rfl ?_
  refine j_istore_n C dX9_waiting_3 rfl (by decide) rfl ?_
  refine j_sub C [2, 3, 1, 0] rfl ?_
  exact b_X9_waiting_4 C hR FU x1 0 0 S
-- X9_free
abbrev rm_X9_free : Room := { frames := 2, cells := 0, slots := 0, locals := 45 }
def f_X9_free (x1 : Int32) (S : St) : Option (Int32 × St) :=
  ck x1 4 (bd (f_X9_busy x1 S) fun v2 S1 =>
  some ((S.1 33 x1.toNatClampNeg) - v2, S1))
set_option maxHeartbeats 1000000 in
theorem m_X9_free (adr : Nat → Nat) (x1 : Int32) : MtI yX9_free cX9_free 2 (some .int) rm_X9_free adr [.ref (adr 27), .int x1] (f_X9_free x1) := by
  refine MtI.of (by decide +kernel) (Nat.le_of_ble_eq_true rfl) (fun K r S C hR => ?_)
  refine j_start (lv' := [(0, .ref (adr 27)), (1, .int x1)]) rfl ?_
  unfold f_X9_free
  refine j_aload_n C dX9_free_0 0 rfl rfl ?_
  refine j_getr C dX9_free_1 fl_X9_26 kd_27 (by decide) (Nat.le_of_ble_eq_true rfl) rfl ?_
  refine j_iload_n C dX9_free_4 1 rfl rfl ?_
  refine j_iald C dX9_free_5 kd_33 (Nat.le_of_ble_eq_true rfl) ?_
  refine j_aload_n C dX9_free_6 0 rfl rfl ?_
  refine j_iload_n C dX9_free_7 1 rfl rfl ?_
  refine j_cvi C dX9_free_8 lk_X9_145 mw_X9_busy (m_X9_busy adr x1) ⟨rfl, rfl, Nat.le_of_ble_eq_true rfl, Nat.le_of_ble_eq_true rfl⟩ kd_27 (by decide) (Nat.le_of_ble_eq_true rfl) rfl rfl (st := [.int (S.1 33 x1.toNatClampNeg)]) (st0 := [.int x1, .ref (adr 27), .int (S.1 33 x1.toNatClampNeg)]) rfl (Nat.le_of_ble_eq_true rfl) (fun v2 S1 => ?_)
  refine j_isub C dX9_free_11 ?_
  exact j_iret hR dX9_free_12
