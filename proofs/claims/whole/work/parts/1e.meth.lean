-- X0_countStreaks
abbrev rm_X0_countStreaks : Room := { frames := 1, cells := 0, slots := 0, locals := 21 }
def f_X0_countStreaks_118  (S : St) : Option (St) :=
    some S
set_option maxHeartbeats 1000000 in
theorem b_X0_countStreaks_118 {K : Kt} {adr : Nat → Nat} {r : St} (C : Cx K cX0_countStreaks RX0 6 adr rm_X0_countStreaks) (hR : ∀ (pc : Nat) (lv : List (Nat × Value)), decode cX0_countStreaks pc = .ok (.return_, 1) → K pc lv [] r)  (S : St) : J K r (f_X0_countStreaks_118  S) 118 [] [] S := by
    unfold f_X0_countStreaks_118
    exact j_vret hR dX0_countStreaks_118
def f_X0_countStreaks_111 (k24 : Int32 → Int32 → Int32 → St → Option (St)) (x1 : Int32) (x2 : Int32) (x3 : Int32) (s0 : Int32) (s1 : Int32) (S : St) : Option (St) :=
    ck s1 48 (lt (upI S 55 s1.toNatClampNeg s0) fun S5 =>
    k24 x1 x2 (x3 + 1) S5)
set_option maxHeartbeats 1000000 in
theorem b_X0_countStreaks_111 {K : Kt} {adr : Nat → Nat} {r : St} (C : Cx K cX0_countStreaks RX0 6 adr rm_X0_countStreaks) (hR : ∀ (pc : Nat) (lv : List (Nat × Value)), decode cX0_countStreaks pc = .ok (.return_, 1) → K pc lv [] r) (k24 : Int32 → Int32 → Int32 → St → Option (St)) (h24 : ∀ (x1 : Int32) (x2 : Int32) (x3 : Int32) (S : St), J K r (k24 x1 x2 x3 S) 24 [(0, .ref (adr 14)), (1, .int x1), (2, .int x2), (3, .int x3)] [] S) (x1 : Int32) (x2 : Int32) (x3 : Int32) (s0 : Int32) (s1 : Int32) (S : St) : J K r (f_X0_countStreaks_111 k24 x1 x2 x3 s0 s1 S) 111 [(0, .ref (adr 14)), (1, .int x1), (2, .int x2), (3, .int x3)] [.int s0, .int s1, .ref (adr 55)] S := by
    unfold f_X0_countStreaks_111
    refine j_iast C dX0_countStreaks_111 kd_55 (Nat.le_of_ble_eq_true rfl) (fun S5 => ?_)
    refine j_iinc C dX0_countStreaks_112 (v := x3 + 1) 3 rfl rfl (by decide) rfl ?_
    refine j_goto C dX0_countStreaks_115 (tgt := 24) (by decide) ?_
    refine j_sub C [1, 2, 3, 0] rfl ?_
    exact h24 x1 x2 (x3 + 1) S5
def f_X0_countStreaks_79 (k24 : Int32 → Int32 → Int32 → St → Option (St)) (x1 : Int32) (x2 : Int32) (x3 : Int32) (x4 : Int32) (s0 : Int32) (S : St) : Option (St) :=
    if s0 = 0 then (f_X0_countStreaks_111 k24 x1 x2 x3 0 x4 S)
    else (ck x4 48 (f_X0_countStreaks_111 k24 x1 x2 x3 ((S.1 55 x4.toNatClampNeg) + 1) x4 S))
set_option maxHeartbeats 1000000 in
theorem b_X0_countStreaks_79 {K : Kt} {adr : Nat → Nat} {r : St} (C : Cx K cX0_countStreaks RX0 6 adr rm_X0_countStreaks) (hR : ∀ (pc : Nat) (lv : List (Nat × Value)), decode cX0_countStreaks pc = .ok (.return_, 1) → K pc lv [] r) (k24 : Int32 → Int32 → Int32 → St → Option (St)) (h24 : ∀ (x1 : Int32) (x2 : Int32) (x3 : Int32) (S : St), J K r (k24 x1 x2 x3 S) 24 [(0, .ref (adr 14)), (1, .int x1), (2, .int x2), (3, .int x3)] [] S) (x1 : Int32) (x2 : Int32) (x3 : Int32) (x4 : Int32) (s0 : Int32) (S : St) : J K r (f_X0_countStreaks_79 k24 x1 x2 x3 x4 s0 S) 79 [(0, .ref (adr 14)), (1, .int x1), (2, .int x2), (3, .int x3), (4, .int x4)] [.int s0] S := by
    unfold f_X0_countStreaks_79
    refine j_istore C dX0_countStreaks_79 (by decide) rfl ?_
    refine j_aload_n C dX0_countStreaks_81 1 rfl rfl ?_
    refine j_getr C dX0_countStreaks_82 fl_X0_22 kd_14 (by decide) (Nat.le_of_ble_eq_true rfl) rfl ?_
    refine j_getr C dX0_countStreaks_85 fl_X0_117 kd_42 (by decide) (Nat.le_of_ble_eq_true rfl) rfl ?_
    refine j_iload C dX0_countStreaks_88 5 rfl ?_
    refine j_iload C dX0_countStreaks_90 0 rfl ?_
    refine j_if_eq C dX0_countStreaks_92 (tgt := 110) (by decide) ?_ ?_
    · refine j_iconst C dX0_countStreaks_110 (v := 0) rfl ?_
      refine j_sub C [1, 2, 3, 4] rfl ?_
      exact b_X0_countStreaks_111 C hR k24 h24 x1 x2 x3 0 x4 S
    · refine j_aload_n C dX0_countStreaks_95 1 rfl rfl ?_
      refine j_getr C dX0_countStreaks_96 fl_X0_22 kd_14 (by decide) (Nat.le_of_ble_eq_true rfl) rfl ?_
      refine j_getr C dX0_countStreaks_99 fl_X0_117 kd_42 (by decide) (Nat.le_of_ble_eq_true rfl) rfl ?_
      refine j_iload C dX0_countStreaks_102 5 rfl ?_
      refine j_iald C dX0_countStreaks_104 kd_55 (Nat.le_of_ble_eq_true rfl) ?_
      refine j_iconst C dX0_countStreaks_105 (v := 1) rfl ?_
      refine j_iadd C dX0_countStreaks_106 ?_
      refine j_goto C dX0_countStreaks_107 (tgt := 111) (by decide) ?_
      refine j_sub C [1, 2, 3, 4] rfl ?_
      exact b_X0_countStreaks_111 C hR k24 h24 x1 x2 x3 ((S.1 55 x4.toNatClampNeg) + 1) x4 S
def f_X0_countStreaks_78 (k24 : Int32 → Int32 → Int32 → St → Option (St)) (x1 : Int32) (x2 : Int32) (x3 : Int32) (x4 : Int32) (S : St) : Option (St) :=
    f_X0_countStreaks_79 k24 x1 x2 x3 x4 0 S
set_option maxHeartbeats 1000000 in
theorem b_X0_countStreaks_78 {K : Kt} {adr : Nat → Nat} {r : St} (C : Cx K cX0_countStreaks RX0 6 adr rm_X0_countStreaks) (hR : ∀ (pc : Nat) (lv : List (Nat × Value)), decode cX0_countStreaks pc = .ok (.return_, 1) → K pc lv [] r) (k24 : Int32 → Int32 → Int32 → St → Option (St)) (h24 : ∀ (x1 : Int32) (x2 : Int32) (x3 : Int32) (S : St), J K r (k24 x1 x2 x3 S) 24 [(0, .ref (adr 14)), (1, .int x1), (2, .int x2), (3, .int x3)] [] S) (x1 : Int32) (x2 : Int32) (x3 : Int32) (x4 : Int32) (S : St) : J K r (f_X0_countStreaks_78 k24 x1 x2 x3 x4 S) 78 [(0, .ref (adr 14)), (1, .int x1), (2, .int x2), (3, .int x3), (4, .int x4)] [] S := by
    unfold f_X0_countStreaks_78
    refine j_iconst C dX0_countStreaks_78 (v := 0) rfl ?_
    exact b_X0_countStreaks_79 C hR k24 h24 x1 x2 x3 x4 0 S
def f_X0_countStreaks_24 : Nat → Int32 → Int32 → Int32 → St → Option (St)
  | 0, _, _, _, _ => none
  | n + 1, x1, x2, x3, S =>
    if (S.1 9 0) ≤ x3 then (f_X0_countStreaks_118 S)
    else (if 4 ≤ x3 then (f_X0_countStreaks_118 S)
      else (lt ((x1 * 4) + x3) fun v4 =>
        ck x1 12 (if x3 = (S.1 45 x1.toNatClampNeg) then (f_X0_countStreaks_78 (f_X0_countStreaks_24 n) x1 x2 x3 v4 S)
        else (ck v4 48 (if (S.1 54 v4.toNatClampNeg) < x2 then (f_X0_countStreaks_78 (f_X0_countStreaks_24 n) x1 x2 x3 v4 S)
          else (f_X0_countStreaks_79 (f_X0_countStreaks_24 n) x1 x2 x3 v4 1 S))))))
set_option maxHeartbeats 1000000 in
theorem b_X0_countStreaks_24 {K : Kt} {adr : Nat → Nat} {r : St} (C : Cx K cX0_countStreaks RX0 6 adr rm_X0_countStreaks) (hR : ∀ (pc : Nat) (lv : List (Nat × Value)), decode cX0_countStreaks pc = .ok (.return_, 1) → K pc lv [] r) : ∀ (n : Nat) (x1 : Int32) (x2 : Int32) (x3 : Int32) (S : St), J K r (f_X0_countStreaks_24 n x1 x2 x3 S) 24 [(0, .ref (adr 14)), (1, .int x1), (2, .int x2), (3, .int x3)] [] S := by
  intro n
  induction n with
  | zero => intro x1 x2 x3 S h; cases h
  | succ n ih =>
    intro x1 x2 x3 S
    unfold f_X0_countStreaks_24
    refine j_iload_n C dX0_countStreaks_24 3 rfl rfl ?_
    refine j_aload_n C dX0_countStreaks_25 0 rfl rfl ?_
    refine j_getr C dX0_countStreaks_26 fl_X0_18 kd_14 (by decide) (Nat.le_of_ble_eq_true rfl) rfl ?_
    refine j_geti C dX0_countStreaks_29 fl_X0_108 kd_9 (by decide) (Nat.le_of_ble_eq_true rfl) rfl ?_
    refine j_icmp_ge C dX0_countStreaks_32 (tgt := 118) (by decide) ?_ ?_
    · refine j_sub C [] rfl ?_
      exact b_X0_countStreaks_118 C hR S
    · refine j_iload_n C dX0_countStreaks_35 3 rfl rfl ?_
      refine j_iconst C dX0_countStreaks_36 (v := 4) rfl ?_
      refine j_icmp_ge C dX0_countStreaks_37 (tgt := 118) (by decide) ?_ ?_
      · refine j_sub C [] rfl ?_
        exact b_X0_countStreaks_118 C hR S
      · refine j_iload_n C dX0_countStreaks_40 1 rfl rfl ?_
        refine j_iconst C dX0_countStreaks_41 (v := 4) rfl ?_
        refine j_imul C dX0_countStreaks_42 ?_
        refine j_iload_n C dX0_countStreaks_43 3 rfl rfl ?_
        refine j_iadd C dX0_countStreaks_44 ?_
        refine j_topi (fun v4 => ?_)
        refine j_istore C dX0_countStreaks_45 (by decide) rfl ?_
        refine j_iload_n C dX0_countStreaks_47 4 rfl rfl ?_
        refine j_aload_n C dX0_countStreaks_48 1 rfl rfl ?_
        refine j_getr C dX0_countStreaks_49 fl_X0_22 kd_14 (by decide) (Nat.le_of_ble_eq_true rfl) rfl ?_
        refine j_getr C dX0_countStreaks_52 fl_X0_99 kd_42 (by decide) (Nat.le_of_ble_eq_true rfl) rfl ?_
        refine j_iload_n C dX0_countStreaks_55 2 rfl rfl ?_
        refine j_iald C dX0_countStreaks_56 kd_45 (Nat.le_of_ble_eq_true rfl) ?_
        refine j_icmp_eq C dX0_countStreaks_57 (tgt := 78) (by decide) ?_ ?_
        · refine j_sub C [1, 2, 3, 4, 0] rfl ?_
          exact b_X0_countStreaks_78 C hR (f_X0_countStreaks_24 n) ih x1 x2 x3 v4 S
        · refine j_aload_n C dX0_countStreaks_60 1 rfl rfl ?_
          refine j_getr C dX0_countStreaks_61 fl_X0_22 kd_14 (by decide) (Nat.le_of_ble_eq_true rfl) rfl ?_
          refine j_getr C dX0_countStreaks_64 fl_X0_111 kd_42 (by decide) (Nat.le_of_ble_eq_true rfl) rfl ?_
          refine j_iload C dX0_countStreaks_67 0 rfl ?_
          refine j_iald C dX0_countStreaks_69 kd_54 (Nat.le_of_ble_eq_true rfl) ?_
          refine j_iload_n C dX0_countStreaks_70 3 rfl rfl ?_
          refine j_icmp_lt C dX0_countStreaks_71 (tgt := 78) (by decide) ?_ ?_
          · refine j_sub C [1, 2, 3, 4, 0] rfl ?_
            exact b_X0_countStreaks_78 C hR (f_X0_countStreaks_24 n) ih x1 x2 x3 v4 S
          · refine j_iconst C dX0_countStreaks_74 (v := 1) rfl ?_
            refine j_goto C dX0_countStreaks_75 (tgt := 79) (by decide) ?_
            refine j_sub C [1, 2, 3, 4, 0] rfl ?_
            exact b_X0_countStreaks_79 C hR (f_X0_countStreaks_24 n) ih x1 x2 x3 v4 1 S
def f_X0_countStreaks (x1 : Int32) (S : St) : Option (St) :=
  bd (f_X7_ownLevel x1 S) fun v2 S1 =>
  ck 0 5 (lt (v2 + (64 * (S1.1 13 (0 : Int32).toNatClampNeg))) fun v3 =>
  f_X0_countStreaks_24 FU x1 v3 0 S1)
set_option maxHeartbeats 1000000 in
theorem m_X0_countStreaks (adr : Nat → Nat) (x1 : Int32) : MtV yX0_countStreaks cX0_countStreaks 6 none rm_X0_countStreaks adr [.ref (adr 14), .int x1] (f_X0_countStreaks x1) := by
  refine MtV.of (by decide +kernel) (Nat.le_of_ble_eq_true rfl) (fun K r S C hR => ?_)
  refine j_start (lv' := [(0, .ref (adr 14)), (1, .int x1)]) rfl ?_
  unfold f_X0_countStreaks
  refine j_aload_n C dX0_countStreaks_0 0 rfl rfl ?_
  refine j_getr C dX0_countStreaks_1 fl_X0_22 kd_14 (by decide) (Nat.le_of_ble_eq_true rfl) rfl ?_
  refine j_iload_n C dX0_countStreaks_4 1 rfl rfl ?_
  refine j_cvi C dX0_countStreaks_5 lk_X0_93 mw_X7_ownLevel (m_X7_ownLevel adr x1) ⟨rfl, rfl, Nat.le_of_ble_eq_true rfl, Nat.le_of_ble_eq_true rfl⟩ kd_42 (by decide) (Nat.le_of_ble_eq_true rfl) rfl rfl (st := []) (st0 := [.int x1, .ref (adr 42)]) rfl (Nat.le_of_ble_eq_true rfl) (fun v2 S1 => ?_)
  refine j_bipush C dX0_countStreaks_8 (v := 64) rfl ?_
  refine j_aload_n C dX0_countStreaks_10 0 rfl rfl ?_
  refine j_getr C dX0_countStreaks_11 fl_X0_18 kd_14 (by decide) (Nat.le_of_ble_eq_true rfl) rfl ?_
  refine j_getr C dX0_countStreaks_14 fl_X0_96 kd_9 (by decide) (Nat.le_of_ble_eq_true rfl) rfl ?_
  refine j_iconst C dX0_countStreaks_17 (v := 0) rfl ?_
  refine j_iald C dX0_countStreaks_18 kd_13 (Nat.le_of_ble_eq_true rfl) ?_
  refine j_imul C dX0_countStreaks_19 ?_
  refine j_iadd C dX0_countStreaks_20 ?_
  refine j_topi (fun v3 => ?_)
  refine j_istore_n C dX0_countStreaks_21 rfl (by decide) rfl ?_
  refine j_iconst C dX0_countStreaks_22 (v := 0) rfl ?_
  refine j_istore_n C dX0_countStreaks_23 rfl (by decide) rfl ?_
  refine j_sub C [2, 3, 1, 0] rfl ?_
  exact b_X0_countStreaks_24 C hR FU x1 v3 0 S1
-- X0_targetOf
abbrev rm_X0_targetOf : Room := { frames := 0, cells := 0, slots := 0, locals := 0 }
def f_X0_targetOf_90 (x2 : Int32) (S : St) : Option (Int32 × St) :=
    some (x2, S)
set_option maxHeartbeats 1000000 in
theorem b_X0_targetOf_90 {K : Kt} {adr : Nat → Nat} {r : Int32 × St} (C : Cx K cX0_targetOf RX0 6 adr rm_X0_targetOf) (hR : ∀ (pc : Nat) (lv : List (Nat × Value)), decode cX0_targetOf pc = .ok (.ireturn, 1) → K pc lv [.int r.1] r.2) (x2 : Int32) (S : St) : J K r (f_X0_targetOf_90 x2 S) 90 [(2, .int x2)] [] S := by
    unfold f_X0_targetOf_90
    refine j_iload_n C dX0_targetOf_90 0 rfl rfl ?_
    exact j_iret hR dX0_targetOf_91
def f_X0_targetOf_84 (k8 : Int32 → Int32 → Int32 → Int32 → St → Option (Int32 × St)) (x1 : Int32) (x2 : Int32) (x3 : Int32) (x4 : Int32) (S : St) : Option (Int32 × St) :=
    k8 x1 x2 x3 (x4 + 1) S
set_option maxHeartbeats 1000000 in
theorem b_X0_targetOf_84 {K : Kt} {adr : Nat → Nat} {r : Int32 × St} (C : Cx K cX0_targetOf RX0 6 adr rm_X0_targetOf) (hR : ∀ (pc : Nat) (lv : List (Nat × Value)), decode cX0_targetOf pc = .ok (.ireturn, 1) → K pc lv [.int r.1] r.2) (k8 : Int32 → Int32 → Int32 → Int32 → St → Option (Int32 × St)) (h8 : ∀ (x1 : Int32) (x2 : Int32) (x3 : Int32) (x4 : Int32) (S : St), J K r (k8 x1 x2 x3 x4 S) 8 [(0, .ref (adr 14)), (1, .int x1), (2, .int x2), (3, .int x3), (4, .int x4)] [] S) (x1 : Int32) (x2 : Int32) (x3 : Int32) (x4 : Int32) (S : St) : J K r (f_X0_targetOf_84 k8 x1 x2 x3 x4 S) 84 [(0, .ref (adr 14)), (1, .int x1), (2, .int x2), (3, .int x3), (4, .int x4)] [] S := by
    unfold f_X0_targetOf_84
    refine j_iinc C dX0_targetOf_84 (v := x4 + 1) 4 rfl rfl (by decide) rfl ?_
    refine j_goto C dX0_targetOf_87 (tgt := 8) (by decide) ?_
    refine j_sub C [1, 2, 3, 4, 0] rfl ?_
    exact h8 x1 x2 x3 (x4 + 1) S
def f_X0_targetOf_8 : Nat → Int32 → Int32 → Int32 → Int32 → St → Option (Int32 × St)
  | 0, _, _, _, _, _ => none
  | n + 1, x1, x2, x3, x4, S =>
    if (S.1 9 0) ≤ x4 then (f_X0_targetOf_90 x2 S)
    else (if 4 ≤ x4 then (f_X0_targetOf_90 x2 S)
      else (lt ((x1 * 4) + x4) fun v1 =>
        ck v1 48 (ck 1 5 (if (S.1 55 v1.toNatClampNeg) < (S.1 13 (1 : Int32).toNatClampNeg) then (f_X0_targetOf_84 (f_X0_targetOf_8 n) x1 x2 x3 x4 S)
        else (ck v1 48 (if (S.1 54 v1.toNatClampNeg) ≤ x3 then (f_X0_targetOf_84 (f_X0_targetOf_8 n) x1 x2 x3 x4 S)
          else (ck v1 48 (lt (S.1 54 v1.toNatClampNeg) fun v2 =>
            f_X0_targetOf_84 (f_X0_targetOf_8 n) x1 x4 v2 x4 S))))))))
set_option maxHeartbeats 1000000 in
theorem b_X0_targetOf_8 {K : Kt} {adr : Nat → Nat} {r : Int32 × St} (C : Cx K cX0_targetOf RX0 6 adr rm_X0_targetOf) (hR : ∀ (pc : Nat) (lv : List (Nat × Value)), decode cX0_targetOf pc = .ok (.ireturn, 1) → K pc lv [.int r.1] r.2) : ∀ (n : Nat) (x1 : Int32) (x2 : Int32) (x3 : Int32) (x4 : Int32) (S : St), J K r (f_X0_targetOf_8 n x1 x2 x3 x4 S) 8 [(0, .ref (adr 14)), (1, .int x1), (2, .int x2), (3, .int x3), (4, .int x4)] [] S := by
  intro n
  induction n with
  | zero => intro x1 x2 x3 x4 S h; cases h
  | succ n ih =>
    intro x1 x2 x3 x4 S
    unfold f_X0_targetOf_8
    refine j_iload C dX0_targetOf_8 4 rfl ?_
    refine j_aload_n C dX0_targetOf_10 0 rfl rfl ?_
    refine j_getr C dX0_targetOf_11 fl_X0_18 kd_14 (by decide) (Nat.le_of_ble_eq_true rfl) rfl ?_
    refine j_geti C dX0_targetOf_14 fl_X0_108 kd_9 (by decide) (Nat.le_of_ble_eq_true rfl) rfl ?_
    refine j_icmp_ge C dX0_targetOf_17 (tgt := 90) (by decide) ?_ ?_
    · refine j_sub C [2] rfl ?_
      exact b_X0_targetOf_90 C hR x2 S
    · refine j_iload C dX0_targetOf_20 4 rfl ?_
      refine j_iconst C dX0_targetOf_22 (v := 4) rfl ?_
      refine j_icmp_ge C dX0_targetOf_23 (tgt := 90) (by decide) ?_ ?_
      · refine j_sub C [2] rfl ?_
        exact b_X0_targetOf_90 C hR x2 S
      · refine j_iload_n C dX0_targetOf_26 1 rfl rfl ?_
        refine j_iconst C dX0_targetOf_27 (v := 4) rfl ?_
        refine j_imul C dX0_targetOf_28 ?_
        refine j_iload C dX0_targetOf_29 4 rfl ?_
        refine j_iadd C dX0_targetOf_31 ?_
        refine j_topi (fun v1 => ?_)
        refine j_istore C dX0_targetOf_32 (by decide) rfl ?_
        refine j_aload_n C dX0_targetOf_34 1 rfl rfl ?_
        refine j_getr C dX0_targetOf_35 fl_X0_22 kd_14 (by decide) (Nat.le_of_ble_eq_true rfl) rfl ?_
        refine j_getr C dX0_targetOf_38 fl_X0_117 kd_42 (by decide) (Nat.le_of_ble_eq_true rfl) rfl ?_
        refine j_iload C dX0_targetOf_41 0 rfl ?_
        refine j_iald C dX0_targetOf_43 kd_55 (Nat.le_of_ble_eq_true rfl) ?_
        refine j_aload_n C dX0_targetOf_44 1 rfl rfl ?_
        refine j_getr C dX0_targetOf_45 fl_X0_18 kd_14 (by decide) (Nat.le_of_ble_eq_true rfl) rfl ?_
        refine j_getr C dX0_targetOf_48 fl_X0_96 kd_9 (by decide) (Nat.le_of_ble_eq_true rfl) rfl ?_
        refine j_iconst C dX0_targetOf_51 (v := 1) rfl ?_
        refine j_iald C dX0_targetOf_52 kd_13 (Nat.le_of_ble_eq_true rfl) ?_
        refine j_icmp_lt C dX0_targetOf_53 (tgt := 84) (by decide) ?_ ?_
        · refine j_sub C [1, 2, 3, 4, 5] rfl ?_
          exact b_X0_targetOf_84 C hR (f_X0_targetOf_8 n) ih x1 x2 x3 x4 S
        · refine j_aload_n C dX0_targetOf_56 1 rfl rfl ?_
          refine j_getr C dX0_targetOf_57 fl_X0_22 kd_14 (by decide) (Nat.le_of_ble_eq_true rfl) rfl ?_
          refine j_getr C dX0_targetOf_60 fl_X0_111 kd_42 (by decide) (Nat.le_of_ble_eq_true rfl) rfl ?_
          refine j_iload C dX0_targetOf_63 0 rfl ?_
          refine j_iald C dX0_targetOf_65 kd_54 (Nat.le_of_ble_eq_true rfl) ?_
          refine j_iload_n C dX0_targetOf_66 4 rfl rfl ?_
          refine j_icmp_le C dX0_targetOf_67 (tgt := 84) (by decide) ?_ ?_
          · refine j_sub C [1, 2, 3, 4, 5] rfl ?_
            exact b_X0_targetOf_84 C hR (f_X0_targetOf_8 n) ih x1 x2 x3 x4 S
          · refine j_iload C dX0_targetOf_70 5 rfl ?_
            refine j_istore_n C dX0_targetOf_72 rfl (by decide) rfl ?_
            refine j_aload_n C dX0_targetOf_73 2 rfl rfl ?_
            refine j_getr C dX0_targetOf_74 fl_X0_22 kd_14 (by decide) (Nat.le_of_ble_eq_true rfl) rfl ?_
            refine j_getr C dX0_targetOf_77 fl_X0_111 kd_42 (by decide) (Nat.le_of_ble_eq_true rfl) rfl ?_
            refine j_iload C dX0_targetOf_80 1 rfl ?_
            refine j_iald C dX0_targetOf_82 kd_54 (Nat.le_of_ble_eq_true rfl) ?_
            refine j_topi (fun v2 => ?_)
            refine j_istore_n C dX0_targetOf_83 rfl (by decide) rfl ?_
            refine j_sub C [3, 4, 1, 0, 5] rfl ?_
            exact b_X0_targetOf_84 C hR (f_X0_targetOf_8 n) ih x1 x4 v2 x4 S
def f_X0_targetOf (x1 : Int32) (S : St) : Option (Int32 × St) :=
  f_X0_targetOf_8 FU x1 (-9) (-1) 0 S
set_option maxHeartbeats 1000000 in
theorem m_X0_targetOf (adr : Nat → Nat) (x1 : Int32) : MtI yX0_targetOf cX0_targetOf 6 (some .int) rm_X0_targetOf adr [.ref (adr 14), .int x1] (f_X0_targetOf x1) := by
  refine MtI.of (by decide +kernel) (Nat.le_of_ble_eq_true rfl) (fun K r S C hR => ?_)
  refine j_start (lv' := [(0, .ref (adr 14)), (1, .int x1)]) rfl ?_
  unfold f_X0_targetOf
  refine j_bipush C dX0_targetOf_0 (v := -9) rfl ?_
  refine j_istore_n C dX0_targetOf_2 rfl (by decide) rfl ?_
  refine j_iconst C dX0_targetOf_3 (v := -1) rfl ?_
  refine j_istore_n C dX0_targetOf_4 rfl (by decide) rfl ?_
  refine j_iconst C dX0_targetOf_5 (v := 0) rfl ?_
  refine j_istore C dX0_targetOf_6 (by decide) rfl ?_
  refine j_sub C [3, 4, 2, 1, 0] rfl ?_
  exact b_X0_targetOf_8 C hR FU x1 (-9) (-1) 0 S
-- X7_waiting
abbrev rm_X7_waiting : Room := { frames := 1, cells := 0, slots := 0, locals := 23 }
def f_X7_waiting (x1 : Int32) (S : St) : Option (Int32 × St) :=
  bd (f_X7_callsOf 46 12 x1 S) fun v2 S1 =>
  some (v2, S1)
set_option maxHeartbeats 1000000 in
theorem m_X7_waiting (adr : Nat → Nat) (x1 : Int32) : MtI yX7_waiting cX7_waiting 2 (some .int) rm_X7_waiting adr [.ref (adr 42), .int x1] (f_X7_waiting x1) := by
  refine MtI.of (by decide +kernel) (Nat.le_of_ble_eq_true rfl) (fun K r S C hR => ?_)
  refine j_start (lv' := [(0, .ref (adr 42)), (1, .int x1)]) rfl ?_
  unfold f_X7_waiting
  refine j_aload_n C dX7_waiting_0 0 rfl rfl ?_
  refine j_getr C dX7_waiting_1 fl_X7_21 kd_42 (by decide) (Nat.le_of_ble_eq_true rfl) rfl ?_
  refine j_iload_n C dX7_waiting_4 1 rfl rfl ?_
  refine j_csi C dX7_waiting_5 lk_X7_88 mw_X7_callsOf (m_X7_callsOf adr 46 12 kd_46 (Nat.le_of_ble_eq_true rfl) x1) ⟨rfl, rfl, Nat.le_of_ble_eq_true rfl, Nat.le_of_ble_eq_true rfl⟩ rfl (st := []) (st0 := [.int x1, .ref (adr 46)]) rfl (Nat.le_of_ble_eq_true rfl) (fun v2 S1 => ?_)
  exact j_iret hR dX7_waiting_8
-- X7_beginWaiting
abbrev rm_X7_beginWaiting : Room := { frames := 0, cells := 0, slots := 0, locals := 0 }
def f_X7_beginWaiting (x1 : Int32) (x2 : Int32) (S : St) : Option (St) :=
  ck x1 12 (lt (upI S 46 x1.toNatClampNeg x2) fun S1 =>
  ck x1 12 (lt (upI S1 47 x1.toNatClampNeg (S1.1 42 1)) fun S2 =>
  lt (upI S2 42 1 ((S2.1 42 1) + 1)) fun S3 =>
  some S3))
set_option maxHeartbeats 1000000 in
theorem m_X7_beginWaiting (adr : Nat → Nat) (x1 : Int32) (x2 : Int32) : MtV yX7_beginWaiting cX7_beginWaiting 3 none rm_X7_beginWaiting adr [.ref (adr 42), .int x1, .int x2] (f_X7_beginWaiting x1 x2) := by
  refine MtV.of (by decide +kernel) (Nat.le_of_ble_eq_true rfl) (fun K r S C hR => ?_)
  refine j_start (lv' := [(0, .ref (adr 42)), (1, .int x1), (2, .int x2)]) rfl ?_
  unfold f_X7_beginWaiting
  refine j_aload_n C dX7_beginWaiting_0 0 rfl rfl ?_
  refine j_getr C dX7_beginWaiting_1 fl_X7_21 kd_42 (by decide) (Nat.le_of_ble_eq_true rfl) rfl ?_
  refine j_iload_n C dX7_beginWaiting_4 1 rfl rfl ?_
  refine j_iload_n C dX7_beginWaiting_5 2 rfl rfl ?_
  refine j_iast C dX7_beginWaiting_6 kd_46 (Nat.le_of_ble_eq_true rfl) (fun S1 => ?_)
  refine j_aload_n C dX7_beginWaiting_7 0 rfl rfl ?_
  refine j_getr C dX7_beginWaiting_8 fl_X7_24 kd_42 (by decide) (Nat.le_of_ble_eq_true rfl) rfl ?_
  refine j_iload_n C dX7_beginWaiting_11 1 rfl rfl ?_
  refine j_aload_n C dX7_beginWaiting_12 0 rfl rfl ?_
  refine j_geti C dX7_beginWaiting_13 fl_X7_67 kd_42 (by decide) (Nat.le_of_ble_eq_true rfl) rfl ?_
  refine j_iast C dX7_beginWaiting_16 kd_47 (Nat.le_of_ble_eq_true rfl) (fun S2 => ?_)
  refine j_aload_n C dX7_beginWaiting_17 0 rfl rfl ?_
  refine j_dup C dX7_beginWaiting_18 rfl ?_
  refine j_geti C dX7_beginWaiting_19 fl_X7_67 kd_42 (by decide) (Nat.le_of_ble_eq_true rfl) rfl ?_
  refine j_iconst C dX7_beginWaiting_22 (v := 1) rfl ?_
  refine j_iadd C dX7_beginWaiting_23 ?_
  refine j_puti C dX7_beginWaiting_24 fl_X7_67 fi_X7_1 kd_42 (by decide) (Nat.le_of_ble_eq_true rfl) rfl (fun S3 => ?_)
  exact j_vret hR dX7_beginWaiting_27
-- X7_countPair
abbrev rm_X7_countPair : Room := { frames := 0, cells := 0, slots := 0, locals := 0 }
def f_X7_countPair_102  (S : St) : Option (St) :=
    some S
set_option maxHeartbeats 1000000 in
theorem b_X7_countPair_102 {K : Kt} {adr : Nat → Nat} {r : St} (C : Cx K cX7_countPair RX7 4 adr rm_X7_countPair) (hR : ∀ (pc : Nat) (lv : List (Nat × Value)), decode cX7_countPair pc = .ok (.return_, 1) → K pc lv [] r)  (S : St) : J K r (f_X7_countPair_102  S) 102 [] [] S := by
    unfold f_X7_countPair_102
    exact j_vret hR dX7_countPair_102
def f_X7_countPair_53 (x1 : Int32) (x2 : Int32) (S : St) : Option (St) :=
    if 12 ≤ (S.1 42 15) then (f_X7_countPair_102 S)
    else (ck (S.1 42 15) 12 (lt (upI S 56 (S.1 42 15).toNatClampNeg x1) fun S2 =>
      ck (S2.1 42 15) 12 (lt (upI S2 57 (S2.1 42 15).toNatClampNeg x2) fun S3 =>
      ck (S3.1 42 15) 12 (lt (upI S3 58 (S3.1 42 15).toNatClampNeg 1) fun S4 =>
      lt (upI S4 42 15 ((S4.1 42 15) + 1)) fun S5 =>
      f_X7_countPair_102 S5))))
set_option maxHeartbeats 1000000 in
theorem b_X7_countPair_53 {K : Kt} {adr : Nat → Nat} {r : St} (C : Cx K cX7_countPair RX7 4 adr rm_X7_countPair) (hR : ∀ (pc : Nat) (lv : List (Nat × Value)), decode cX7_countPair pc = .ok (.return_, 1) → K pc lv [] r) (x1 : Int32) (x2 : Int32) (S : St) : J K r (f_X7_countPair_53 x1 x2 S) 53 [(0, .ref (adr 42)), (1, .int x1), (2, .int x2)] [] S := by
    unfold f_X7_countPair_53
    refine j_aload_n C dX7_countPair_53 0 rfl rfl ?_
    refine j_geti C dX7_countPair_54 fl_X7_70 kd_42 (by decide) (Nat.le_of_ble_eq_true rfl) rfl ?_
    refine j_bipush C dX7_countPair_57 (v := 12) rfl ?_
    refine j_icmp_ge C dX7_countPair_59 (tgt := 102) (by decide) ?_ ?_
    · refine j_sub C [] rfl ?_
      exact b_X7_countPair_102 C hR S
    · refine j_aload_n C dX7_countPair_62 0 rfl rfl ?_
      refine j_getr C dX7_countPair_63 fl_X7_51 kd_42 (by decide) (Nat.le_of_ble_eq_true rfl) rfl ?_
      refine j_aload_n C dX7_countPair_66 0 rfl rfl ?_
      refine j_geti C dX7_countPair_67 fl_X7_70 kd_42 (by decide) (Nat.le_of_ble_eq_true rfl) rfl ?_
      refine j_iload_n C dX7_countPair_70 1 rfl rfl ?_
      refine j_iast C dX7_countPair_71 kd_56 (Nat.le_of_ble_eq_true rfl) (fun S2 => ?_)
      refine j_aload_n C dX7_countPair_72 0 rfl rfl ?_
      refine j_getr C dX7_countPair_73 fl_X7_54 kd_42 (by decide) (Nat.le_of_ble_eq_true rfl) rfl ?_
      refine j_aload_n C dX7_countPair_76 0 rfl rfl ?_
      refine j_geti C dX7_countPair_77 fl_X7_70 kd_42 (by decide) (Nat.le_of_ble_eq_true rfl) rfl ?_
      refine j_iload_n C dX7_countPair_80 2 rfl rfl ?_
      refine j_iast C dX7_countPair_81 kd_57 (Nat.le_of_ble_eq_true rfl) (fun S3 => ?_)
      refine j_aload_n C dX7_countPair_82 0 rfl rfl ?_
      refine j_getr C dX7_countPair_83 fl_X7_57 kd_42 (by decide) (Nat.le_of_ble_eq_true rfl) rfl ?_
      refine j_aload_n C dX7_countPair_86 0 rfl rfl ?_
      refine j_geti C dX7_countPair_87 fl_X7_70 kd_42 (by decide) (Nat.le_of_ble_eq_true rfl) rfl ?_
      refine j_iconst C dX7_countPair_90 (v := 1) rfl ?_
      refine j_iast C dX7_countPair_91 kd_58 (Nat.le_of_ble_eq_true rfl) (fun S4 => ?_)
      refine j_aload_n C dX7_countPair_92 0 rfl rfl ?_
      refine j_dup C dX7_countPair_93 rfl ?_
      refine j_geti C dX7_countPair_94 fl_X7_70 kd_42 (by decide) (Nat.le_of_ble_eq_true rfl) rfl ?_
      refine j_iconst C dX7_countPair_97 (v := 1) rfl ?_
      refine j_iadd C dX7_countPair_98 ?_
      refine j_puti C dX7_countPair_99 fl_X7_70 fi_X7_15 kd_42 (by decide) (Nat.le_of_ble_eq_true rfl) rfl (fun S5 => ?_)
      refine j_sub C [] rfl ?_
      exact b_X7_countPair_102 C hR S5
def f_X7_countPair_47 (k2 : Int32 → Int32 → Int32 → St → Option (St)) (x1 : Int32) (x2 : Int32) (x3 : Int32) (S : St) : Option (St) :=
    k2 x1 x2 (x3 + 1) S
set_option maxHeartbeats 1000000 in
theorem b_X7_countPair_47 {K : Kt} {adr : Nat → Nat} {r : St} (C : Cx K cX7_countPair RX7 4 adr rm_X7_countPair) (hR : ∀ (pc : Nat) (lv : List (Nat × Value)), decode cX7_countPair pc = .ok (.return_, 1) → K pc lv [] r) (k2 : Int32 → Int32 → Int32 → St → Option (St)) (h2 : ∀ (x1 : Int32) (x2 : Int32) (x3 : Int32) (S : St), J K r (k2 x1 x2 x3 S) 2 [(0, .ref (adr 42)), (1, .int x1), (2, .int x2), (3, .int x3)] [] S) (x1 : Int32) (x2 : Int32) (x3 : Int32) (S : St) : J K r (f_X7_countPair_47 k2 x1 x2 x3 S) 47 [(0, .ref (adr 42)), (1, .int x1), (2, .int x2), (3, .int x3)] [] S := by
    unfold f_X7_countPair_47
    refine j_iinc C dX7_countPair_47 (v := x3 + 1) 3 rfl rfl (by decide) rfl ?_
    refine j_goto C dX7_countPair_50 (tgt := 2) (by decide) ?_
    refine j_sub C [1, 2, 3, 0] rfl ?_
    exact h2 x1 x2 (x3 + 1) S
def f_X7_countPair_2 : Nat → Int32 → Int32 → Int32 → St → Option (St)
  | 0, _, _, _, _ => none
  | n + 1, x1, x2, x3, S =>
    if (S.1 42 15) ≤ x3 then (f_X7_countPair_53 x1 x2 S)
    else (if 12 ≤ x3 then (f_X7_countPair_53 x1 x2 S)
      else (ck x3 12 (if (S.1 56 x3.toNatClampNeg) = x1 then (ck x3 12 (if (S.1 57 x3.toNatClampNeg) = x2 then (ck x3 12 (ck x3 12 (lt (upI S 58 x3.toNatClampNeg ((S.1 58 x3.toNatClampNeg) + 1)) fun S1 =>
            some S1)))
          else (f_X7_countPair_47 (f_X7_countPair_2 n) x1 x2 x3 S)))
        else (f_X7_countPair_47 (f_X7_countPair_2 n) x1 x2 x3 S))))
set_option maxHeartbeats 1000000 in
theorem b_X7_countPair_2 {K : Kt} {adr : Nat → Nat} {r : St} (C : Cx K cX7_countPair RX7 4 adr rm_X7_countPair) (hR : ∀ (pc : Nat) (lv : List (Nat × Value)), decode cX7_countPair pc = .ok (.return_, 1) → K pc lv [] r) : ∀ (n : Nat) (x1 : Int32) (x2 : Int32) (x3 : Int32) (S : St), J K r (f_X7_countPair_2 n x1 x2 x3 S) 2 [(0, .ref (adr 42)), (1, .int x1), (2, .int x2), (3, .int x3)] [] S := by
  intro n
  induction n with
  | zero => intro x1 x2 x3 S h; cases h
  | succ n ih =>
    intro x1 x2 x3 S
    unfold f_X7_countPair_2
    refine j_iload_n C dX7_countPair_2 3 rfl rfl ?_
    refine j_aload_n C dX7_countPair_3 0 rfl rfl ?_
    refine j_geti C dX7_countPair_4 fl_X7_70 kd_42 (by decide) (Nat.le_of_ble_eq_true rfl) rfl ?_
    refine j_icmp_ge C dX7_countPair_7 (tgt := 53) (by decide) ?_ ?_
    · refine j_sub C [0, 1, 2] rfl ?_
      exact b_X7_countPair_53 C hR x1 x2 S
    · refine j_iload_n C dX7_countPair_10 3 rfl rfl ?_
      refine j_bipush C dX7_countPair_11 (v := 12) rfl ?_
      refine j_icmp_ge C dX7_countPair_13 (tgt := 53) (by decide) ?_ ?_
      · refine j_sub C [0, 1, 2] rfl ?_
        exact b_X7_countPair_53 C hR x1 x2 S
      · refine j_aload_n C dX7_countPair_16 0 rfl rfl ?_
        refine j_getr C dX7_countPair_17 fl_X7_51 kd_42 (by decide) (Nat.le_of_ble_eq_true rfl) rfl ?_
        refine j_iload_n C dX7_countPair_20 3 rfl rfl ?_
        refine j_iald C dX7_countPair_21 kd_56 (Nat.le_of_ble_eq_true rfl) ?_
        refine j_iload_n C dX7_countPair_22 1 rfl rfl ?_
        refine j_icmp_ne C dX7_countPair_23 (tgt := 47) (by decide) ?_ ?_
        · exact b_X7_countPair_47 C hR (f_X7_countPair_2 n) ih x1 x2 x3 S
        · refine j_aload_n C dX7_countPair_26 0 rfl rfl ?_
          refine j_getr C dX7_countPair_27 fl_X7_54 kd_42 (by decide) (Nat.le_of_ble_eq_true rfl) rfl ?_
          refine j_iload_n C dX7_countPair_30 3 rfl rfl ?_
          refine j_iald C dX7_countPair_31 kd_57 (Nat.le_of_ble_eq_true rfl) ?_
          refine j_iload_n C dX7_countPair_32 2 rfl rfl ?_
          refine j_icmp_ne C dX7_countPair_33 (tgt := 47) (by decide) ?_ ?_
          · exact b_X7_countPair_47 C hR (f_X7_countPair_2 n) ih x1 x2 x3 S
          · refine j_aload_n C dX7_countPair_36 0 rfl rfl ?_
            refine j_getr C dX7_countPair_37 fl_X7_57 kd_42 (by decide) (Nat.le_of_ble_eq_true rfl) rfl ?_
            refine j_iload_n C dX7_countPair_40 3 rfl rfl ?_
            refine j_dup2 C dX7_countPair_41 rfl rfl ?_
            refine j_iald C dX7_countPair_42 kd_58 (Nat.le_of_ble_eq_true rfl) ?_
            refine j_iconst C dX7_countPair_43 (v := 1) rfl ?_
            refine j_iadd C dX7_countPair_44 ?_
            refine j_iast C dX7_countPair_45 kd_58 (Nat.le_of_ble_eq_true rfl) (fun S1 => ?_)
            exact j_vret hR dX7_countPair_46
def f_X7_countPair (x1 : Int32) (x2 : Int32) (S : St) : Option (St) :=
  f_X7_countPair_2 FU x1 x2 0 S
set_option maxHeartbeats 1000000 in
theorem m_X7_countPair (adr : Nat → Nat) (x1 : Int32) (x2 : Int32) : MtV yX7_countPair cX7_countPair 4 none rm_X7_countPair adr [.ref (adr 42), .int x1, .int x2] (f_X7_countPair x1 x2) := by
  refine MtV.of (by decide +kernel) (Nat.le_of_ble_eq_true rfl) (fun K r S C hR => ?_)
  refine j_start (lv' := [(0, .ref (adr 42)), (1, .int x1), (2, .int x2)]) rfl ?_
  unfold f_X7_countPair
  refine j_iconst C dX7_countPair_0 (v := 0) rfl ?_
  refine j_istore_n C dX7_countPair_1 rfl (by decide) rfl ?_
  refine j_sub C [1, 2, 3, 0] rfl ?_
  exact b_X7_countPair_2 C hR FU x1 x2 0 S
-- X0_noteFreed
abbrev rm_X0_noteFreed : Room := { frames := 0, cells := 0, slots := 0, locals := 0 }
def f_X0_noteFreed_32  (S : St) : Option (St) :=
    some S
set_option maxHeartbeats 1000000 in
theorem b_X0_noteFreed_32 {K : Kt} {adr : Nat → Nat} {r : St} (C : Cx K cX0_noteFreed RX0 2 adr rm_X0_noteFreed) (hR : ∀ (pc : Nat) (lv : List (Nat × Value)), decode cX0_noteFreed pc = .ok (.return_, 1) → K pc lv [] r)  (S : St) : J K r (f_X0_noteFreed_32  S) 32 [] [] S := by
    unfold f_X0_noteFreed_32
    exact j_vret hR dX0_noteFreed_32
def f_X0_noteFreed (x1 : Int32) (S : St) : Option (St) :=
  if 13 ≤ (S.1 14 4) then (f_X0_noteFreed_32 S)
  else (ck (S.1 14 4) 13 (lt (upI S 16 (S.1 14 4).toNatClampNeg x1) fun S1 =>
    lt (upI S1 14 4 ((S1.1 14 4) + 1)) fun S2 =>
    f_X0_noteFreed_32 S2))
set_option maxHeartbeats 1000000 in
theorem m_X0_noteFreed (adr : Nat → Nat) (x1 : Int32) : MtV yX0_noteFreed cX0_noteFreed 2 none rm_X0_noteFreed adr [.ref (adr 14), .int x1] (f_X0_noteFreed x1) := by
  refine MtV.of (by decide +kernel) (Nat.le_of_ble_eq_true rfl) (fun K r S C hR => ?_)
  refine j_start (lv' := [(0, .ref (adr 14)), (1, .int x1)]) rfl ?_
  unfold f_X0_noteFreed
  refine j_aload_n C dX0_noteFreed_0 0 rfl rfl ?_
  refine j_geti C dX0_noteFreed_1 fl_X0_156 kd_14 (by decide) (Nat.le_of_ble_eq_true rfl) rfl ?_
  refine j_aload_n C dX0_noteFreed_4 0 rfl rfl ?_
  refine j_getr C dX0_noteFreed_5 fl_X0_15 kd_14 (by decide) (Nat.le_of_ble_eq_true rfl) rfl ?_
  refine j_alen C dX0_noteFreed_8 kd_16 (Nat.le_of_ble_eq_true rfl) (v := 13) rfl ?_
  refine j_icmp_ge C dX0_noteFreed_9 (tgt := 32) (by decide) ?_ ?_
  · refine j_sub C [] rfl ?_
    exact b_X0_noteFreed_32 C hR S
  · refine j_aload_n C dX0_noteFreed_12 0 rfl rfl ?_
    refine j_getr C dX0_noteFreed_13 fl_X0_15 kd_14 (by decide) (Nat.le_of_ble_eq_true rfl) rfl ?_
    refine j_aload_n C dX0_noteFreed_16 0 rfl rfl ?_
    refine j_geti C dX0_noteFreed_17 fl_X0_156 kd_14 (by decide) (Nat.le_of_ble_eq_true rfl) rfl ?_
    refine j_iload_n C dX0_noteFreed_20 1 rfl rfl ?_
    refine j_iast C dX0_noteFreed_21 kd_16 (Nat.le_of_ble_eq_true rfl) (fun S1 => ?_)
    refine j_aload_n C dX0_noteFreed_22 0 rfl rfl ?_
    refine j_dup C dX0_noteFreed_23 rfl ?_
    refine j_geti C dX0_noteFreed_24 fl_X0_156 kd_14 (by decide) (Nat.le_of_ble_eq_true rfl) rfl ?_
    refine j_iconst C dX0_noteFreed_27 (v := 1) rfl ?_
    refine j_iadd C dX0_noteFreed_28 ?_
    refine j_puti C dX0_noteFreed_29 fl_X0_156 fi_X0_4 kd_14 (by decide) (Nat.le_of_ble_eq_true rfl) rfl (fun S2 => ?_)
    refine j_sub C [] rfl ?_
    exact b_X0_noteFreed_32 C hR S2
-- X0_move
abbrev rm_X0_move : Room := { frames := 1, cells := 0, slots := 0, locals := 23 }
def f_X0_move_69 (x1 : Int32) (x2 : Int32) (x3 : Int32) (S : St) : Option (St) :=
    ck x1 12 (lt (upI S 45 x1.toNatClampNeg x2) fun S3 =>
    ck x1 12 (lt (upI S3 46 x1.toNatClampNeg (-9)) fun S4 =>
    ck x1 12 (lt (upI S4 53 x1.toNatClampNeg x3) fun S5 =>
    ck x1 12 (lt (upI S5 49 x1.toNatClampNeg 0) fun S6 =>
    ck x1 12 (ck x1 12 (lt (upI S6 50 x1.toNatClampNeg ((S6.1 50 x1.toNatClampNeg) + 1)) fun S7 =>
    ck x1 12 (lt (upI S7 52 x1.toNatClampNeg 0) fun S8 =>
    bdV (f_X7_clearStreaks x1 S8) fun S9 =>
    bdV (f_X7_tallyOne x2 4 S9) fun S10 =>
    bdV (f_X7_countPair x3 x2 S10) fun S11 =>
    bdV (f_X0_noteFreed x3 S11) fun S12 =>
    some S12)))))))
set_option maxHeartbeats 1000000 in
theorem b_X0_move_69 {K : Kt} {adr : Nat → Nat} {r : St} (C : Cx K cX0_move RX0 5 adr rm_X0_move) (hR : ∀ (pc : Nat) (lv : List (Nat × Value)), decode cX0_move pc = .ok (.return_, 1) → K pc lv [] r) (x1 : Int32) (x2 : Int32) (x3 : Int32) (S : St) : J K r (f_X0_move_69 x1 x2 x3 S) 69 [(0, .ref (adr 14)), (1, .int x1), (2, .int x2), (3, .int x3)] [] S := by
    unfold f_X0_move_69
    refine j_aload_n C dX0_move_69 0 rfl rfl ?_
    refine j_getr C dX0_move_70 fl_X0_22 kd_14 (by decide) (Nat.le_of_ble_eq_true rfl) rfl ?_
    refine j_getr C dX0_move_73 fl_X0_99 kd_42 (by decide) (Nat.le_of_ble_eq_true rfl) rfl ?_
    refine j_iload_n C dX0_move_76 1 rfl rfl ?_
    refine j_iload_n C dX0_move_77 2 rfl rfl ?_
    refine j_iast C dX0_move_78 kd_45 (Nat.le_of_ble_eq_true rfl) (fun S3 => ?_)
    refine j_aload_n C dX0_move_79 0 rfl rfl ?_
    refine j_getr C dX0_move_80 fl_X0_22 kd_14 (by decide) (Nat.le_of_ble_eq_true rfl) rfl ?_
    refine j_getr C dX0_move_83 fl_X0_120 kd_42 (by decide) (Nat.le_of_ble_eq_true rfl) rfl ?_
    refine j_iload_n C dX0_move_86 1 rfl rfl ?_
    refine j_bipush C dX0_move_87 (v := -9) rfl ?_
    refine j_iast C dX0_move_89 kd_46 (Nat.le_of_ble_eq_true rfl) (fun S4 => ?_)
    refine j_aload_n C dX0_move_90 0 rfl rfl ?_
    refine j_getr C dX0_move_91 fl_X0_22 kd_14 (by decide) (Nat.le_of_ble_eq_true rfl) rfl ?_
    refine j_getr C dX0_move_94 fl_X0_141 kd_42 (by decide) (Nat.le_of_ble_eq_true rfl) rfl ?_
    refine j_iload_n C dX0_move_97 1 rfl rfl ?_
    refine j_iload_n C dX0_move_98 3 rfl rfl ?_
    refine j_iast C dX0_move_99 kd_53 (Nat.le_of_ble_eq_true rfl) (fun S5 => ?_)
    refine j_aload_n C dX0_move_100 0 rfl rfl ?_
    refine j_getr C dX0_move_101 fl_X0_22 kd_14 (by decide) (Nat.le_of_ble_eq_true rfl) rfl ?_
    refine j_getr C dX0_move_104 fl_X0_77 kd_42 (by decide) (Nat.le_of_ble_eq_true rfl) rfl ?_
    refine j_iload_n C dX0_move_107 1 rfl rfl ?_
    refine j_iconst C dX0_move_108 (v := 0) rfl ?_
    refine j_iast C dX0_move_109 kd_49 (Nat.le_of_ble_eq_true rfl) (fun S6 => ?_)
    refine j_aload_n C dX0_move_110 0 rfl rfl ?_
    refine j_getr C dX0_move_111 fl_X0_22 kd_14 (by decide) (Nat.le_of_ble_eq_true rfl) rfl ?_
    refine j_getr C dX0_move_114 fl_X0_147 kd_42 (by decide) (Nat.le_of_ble_eq_true rfl) rfl ?_
    refine j_iload_n C dX0_move_117 1 rfl rfl ?_
    refine j_dup2 C dX0_move_118 rfl rfl ?_
    refine j_iald C dX0_move_119 kd_50 (Nat.le_of_ble_eq_true rfl) ?_
    refine j_iconst C dX0_move_120 (v := 1) rfl ?_
    refine j_iadd C dX0_move_121 ?_
    refine j_iast C dX0_move_122 kd_50 (Nat.le_of_ble_eq_true rfl) (fun S7 => ?_)
    refine j_aload_n C dX0_move_123 0 rfl rfl ?_
    refine j_getr C dX0_move_124 fl_X0_22 kd_14 (by decide) (Nat.le_of_ble_eq_true rfl) rfl ?_
    refine j_getr C dX0_move_127 fl_X0_114 kd_42 (by decide) (Nat.le_of_ble_eq_true rfl) rfl ?_
    refine j_iload_n C dX0_move_130 1 rfl rfl ?_
    refine j_iconst C dX0_move_131 (v := 0) rfl ?_
    refine j_iast C dX0_move_132 kd_52 (Nat.le_of_ble_eq_true rfl) (fun S8 => ?_)
    refine j_aload_n C dX0_move_133 0 rfl rfl ?_
    refine j_getr C dX0_move_134 fl_X0_22 kd_14 (by decide) (Nat.le_of_ble_eq_true rfl) rfl ?_
    refine j_iload_n C dX0_move_137 1 rfl rfl ?_
    refine j_cvv C dX0_move_138 lk_X0_150 mw_X7_clearStreaks (m_X7_clearStreaks adr x1) ⟨rfl, rfl, Nat.le_of_ble_eq_true rfl, Nat.le_of_ble_eq_true rfl⟩ kd_42 (by decide) (Nat.le_of_ble_eq_true rfl) rfl rfl (st := []) (st0 := [.int x1, .ref (adr 42)]) rfl (Nat.le_of_ble_eq_true rfl) (fun S9 => ?_)
    refine j_aload_n C dX0_move_141 0 rfl rfl ?_
    refine j_getr C dX0_move_142 fl_X0_22 kd_14 (by decide) (Nat.le_of_ble_eq_true rfl) rfl ?_
    refine j_iload_n C dX0_move_145 2 rfl rfl ?_
    refine j_iconst C dX0_move_146 (v := 4) rfl ?_
    refine j_cvv C dX0_move_147 lk_X0_47 mw_X7_tallyOne (m_X7_tallyOne adr x2 4) ⟨rfl, rfl, Nat.le_of_ble_eq_true rfl, Nat.le_of_ble_eq_true rfl⟩ kd_42 (by decide) (Nat.le_of_ble_eq_true rfl) rfl rfl (st := []) (st0 := [.int 4, .int x2, .ref (adr 42)]) rfl (Nat.le_of_ble_eq_true rfl) (fun S10 => ?_)
    refine j_aload_n C dX0_move_150 0 rfl rfl ?_
    refine j_getr C dX0_move_151 fl_X0_22 kd_14 (by decide) (Nat.le_of_ble_eq_true rfl) rfl ?_
    refine j_iload_n C dX0_move_154 3 rfl rfl ?_
    refine j_iload_n C dX0_move_155 2 rfl rfl ?_
    refine j_cvv C dX0_move_156 lk_X0_153 mw_X7_countPair (m_X7_countPair adr x3 x2) ⟨rfl, rfl, Nat.le_of_ble_eq_true rfl, Nat.le_of_ble_eq_true rfl⟩ kd_42 (by decide) (Nat.le_of_ble_eq_true rfl) rfl rfl (st := []) (st0 := [.int x2, .int x3, .ref (adr 42)]) rfl (Nat.le_of_ble_eq_true rfl) (fun S11 => ?_)
    refine j_aload_n C dX0_move_159 0 rfl rfl ?_
    refine j_iload_n C dX0_move_160 3 rfl rfl ?_
    refine j_cvv C dX0_move_161 lk_X0_138 mw_X0_noteFreed (m_X0_noteFreed adr x3) ⟨rfl, rfl, Nat.le_of_ble_eq_true rfl, Nat.le_of_ble_eq_true rfl⟩ kd_14 (by decide) (Nat.le_of_ble_eq_true rfl) rfl rfl (st := []) (st0 := [.int x3, .ref (adr 14)]) rfl (Nat.le_of_ble_eq_true rfl) (fun S12 => ?_)
    exact j_vret hR dX0_move_164
def f_X0_move_36 (x1 : Int32) (x2 : Int32) (x3 : Int32) (s0 : Int32) (S : St) : Option (St) :=
    ck x1 12 (if (S.1 53 x1.toNatClampNeg) = x2 then (if s0 = 0 then (f_X0_move_69 x1 x2 x3 S)
      else (ck x1 12 (ck x1 12 (lt (upI S 51 x1.toNatClampNeg ((S.1 51 x1.toNatClampNeg) + 1)) fun S2 =>
        f_X0_move_69 x1 x2 x3 S2))))
    else (f_X0_move_69 x1 x2 x3 S))
set_option maxHeartbeats 1000000 in
theorem b_X0_move_36 {K : Kt} {adr : Nat → Nat} {r : St} (C : Cx K cX0_move RX0 5 adr rm_X0_move) (hR : ∀ (pc : Nat) (lv : List (Nat × Value)), decode cX0_move pc = .ok (.return_, 1) → K pc lv [] r) (x1 : Int32) (x2 : Int32) (x3 : Int32) (s0 : Int32) (S : St) : J K r (f_X0_move_36 x1 x2 x3 s0 S) 36 [(0, .ref (adr 14)), (1, .int x1), (2, .int x2), (3, .int x3)] [.int s0] S := by
    unfold f_X0_move_36
    refine j_istore C dX0_move_36 (by decide) rfl ?_
    refine j_aload_n C dX0_move_38 1 rfl rfl ?_
    refine j_getr C dX0_move_39 fl_X0_22 kd_14 (by decide) (Nat.le_of_ble_eq_true rfl) rfl ?_
    refine j_getr C dX0_move_42 fl_X0_141 kd_42 (by decide) (Nat.le_of_ble_eq_true rfl) rfl ?_
    refine j_iload_n C dX0_move_45 2 rfl rfl ?_
    refine j_iald C dX0_move_46 kd_53 (Nat.le_of_ble_eq_true rfl) ?_
    refine j_iload_n C dX0_move_47 3 rfl rfl ?_
    refine j_icmp_ne C dX0_move_48 (tgt := 69) (by decide) ?_ ?_
    · refine j_sub C [1, 2, 3, 4] rfl ?_
      exact b_X0_move_69 C hR x1 x2 x3 S
    · refine j_iload C dX0_move_51 0 rfl ?_
      refine j_if_eq C dX0_move_53 (tgt := 69) (by decide) ?_ ?_
      · refine j_sub C [1, 2, 3, 4] rfl ?_
        exact b_X0_move_69 C hR x1 x2 x3 S
      · refine j_aload_n C dX0_move_56 1 rfl rfl ?_
        refine j_getr C dX0_move_57 fl_X0_22 kd_14 (by decide) (Nat.le_of_ble_eq_true rfl) rfl ?_
        refine j_getr C dX0_move_60 fl_X0_144 kd_42 (by decide) (Nat.le_of_ble_eq_true rfl) rfl ?_
        refine j_iload_n C dX0_move_63 2 rfl rfl ?_
        refine j_dup2 C dX0_move_64 rfl rfl ?_
        refine j_iald C dX0_move_65 kd_51 (Nat.le_of_ble_eq_true rfl) ?_
        refine j_iconst C dX0_move_66 (v := 1) rfl ?_
        refine j_iadd C dX0_move_67 ?_
        refine j_iast C dX0_move_68 kd_51 (Nat.le_of_ble_eq_true rfl) (fun S2 => ?_)
        refine j_sub C [1, 2, 3, 4] rfl ?_
        exact b_X0_move_69 C hR x1 x2 x3 S2
def f_X0_move (x1 : Int32) (x2 : Int32) (S : St) : Option (St) :=
  ck x1 12 (lt (S.1 45 x1.toNatClampNeg) fun v1 =>
  ck x1 12 (ck 4 5 (if (S.1 13 (4 : Int32).toNatClampNeg) < (S.1 49 x1.toNatClampNeg) then (f_X0_move_36 x1 x2 v1 0 S)
  else (f_X0_move_36 x1 x2 v1 1 S))))
set_option maxHeartbeats 1000000 in
theorem m_X0_move (adr : Nat → Nat) (x1 : Int32) (x2 : Int32) : MtV yX0_move cX0_move 5 none rm_X0_move adr [.ref (adr 14), .int x1, .int x2] (f_X0_move x1 x2) := by
  refine MtV.of (by decide +kernel) (Nat.le_of_ble_eq_true rfl) (fun K r S C hR => ?_)
  refine j_start (lv' := [(0, .ref (adr 14)), (1, .int x1), (2, .int x2)]) rfl ?_
  unfold f_X0_move
  refine j_aload_n C dX0_move_0 0 rfl rfl ?_
  refine j_getr C dX0_move_1 fl_X0_22 kd_14 (by decide) (Nat.le_of_ble_eq_true rfl) rfl ?_
  refine j_getr C dX0_move_4 fl_X0_99 kd_42 (by decide) (Nat.le_of_ble_eq_true rfl) rfl ?_
  refine j_iload_n C dX0_move_7 1 rfl rfl ?_
  refine j_iald C dX0_move_8 kd_45 (Nat.le_of_ble_eq_true rfl) ?_
  refine j_topi (fun v1 => ?_)
  refine j_istore_n C dX0_move_9 rfl (by decide) rfl ?_
  refine j_aload_n C dX0_move_10 1 rfl rfl ?_
  refine j_getr C dX0_move_11 fl_X0_22 kd_14 (by decide) (Nat.le_of_ble_eq_true rfl) rfl ?_
  refine j_getr C dX0_move_14 fl_X0_77 kd_42 (by decide) (Nat.le_of_ble_eq_true rfl) rfl ?_
  refine j_iload_n C dX0_move_17 2 rfl rfl ?_
  refine j_iald C dX0_move_18 kd_49 (Nat.le_of_ble_eq_true rfl) ?_
  refine j_aload_n C dX0_move_19 1 rfl rfl ?_
  refine j_getr C dX0_move_20 fl_X0_18 kd_14 (by decide) (Nat.le_of_ble_eq_true rfl) rfl ?_
  refine j_getr C dX0_move_23 fl_X0_96 kd_9 (by decide) (Nat.le_of_ble_eq_true rfl) rfl ?_
  refine j_iconst C dX0_move_26 (v := 4) rfl ?_
  refine j_iald C dX0_move_27 kd_13 (Nat.le_of_ble_eq_true rfl) ?_
  refine j_icmp_gt C dX0_move_28 (tgt := 35) (by decide) ?_ ?_
  · refine j_iconst C dX0_move_35 (v := 0) rfl ?_
    refine j_sub C [1, 2, 3, 0] rfl ?_
    exact b_X0_move_36 C hR x1 x2 v1 0 S
  · refine j_iconst C dX0_move_31 (v := 1) rfl ?_
    refine j_goto C dX0_move_32 (tgt := 36) (by decide) ?_
    refine j_sub C [1, 2, 3, 0] rfl ?_
    exact b_X0_move_36 C hR x1 x2 v1 1 S
