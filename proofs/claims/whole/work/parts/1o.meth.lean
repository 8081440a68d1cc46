-- X9_serves
abbrev rm_X9_serves : Room := { frames := 3, cells := 0, slots := 0, locals := 77 }
def f_X9_serves_54 (k2 : Int32 → St → Option (St)) (x1 : Int32) (S : St) : Option (St) :=
    k2 (x1 + 1) S
set_option maxHeartbeats 1000000 in
theorem b_X9_serves_54 {K : Kt} {adr : Nat → Nat} {r : St} (C : Cx K cX9_serves RX9 4 adr rm_X9_serves) (hR : ∀ (pc : Nat) (lv : List (Nat × Value)), decode cX9_serves pc = .ok (.return_, 1) → K pc lv [] r) (k2 : Int32 → St → Option (St)) (h2 : ∀ (x1 : Int32) (S : St), J K r (k2 x1 S) 2 [(0, .ref (adr 27)), (1, .int x1)] [] S) (x1 : Int32) (S : St) : J K r (f_X9_serves_54 k2 x1 S) 54 [(0, .ref (adr 27)), (1, .int x1)] [] S := by
    unfold f_X9_serves_54
    refine j_iinc C dX9_serves_54 (v := x1 + 1) 1 rfl rfl (by decide) rfl ?_
    refine j_goto C dX9_serves_57 (tgt := 2) (by decide) ?_
    refine j_sub C [1, 0] rfl ?_
    exact h2 (x1 + 1) S
def f_X9_serves_24 (k2 : Int32 → St → Option (St)) : Nat → Int32 → Int32 → Int32 → St → Option (St)
  | 0, _, _, _, _ => none
  | n + 1, x1, x2, x3, S =>
    bd (f_X9_free x2 S) fun v6 S5 =>
    if v6 ≤ 0 then (f_X9_serves_54 k2 x1 S5)
    else (if x3 = (-9) then (f_X9_serves_54 k2 x1 S5)
      else (bdV (f_X9_moves x3 x2 S5) fun S7 =>
        bd (f_X9_queuedAt x2 0 S7) fun v9 S8 =>
        (f_X9_serves_24 k2 n) x1 x2 v9 S8))
set_option maxHeartbeats 1000000 in
theorem b_X9_serves_24 {K : Kt} {adr : Nat → Nat} {r : St} (C : Cx K cX9_serves RX9 4 adr rm_X9_serves) (hR : ∀ (pc : Nat) (lv : List (Nat × Value)), decode cX9_serves pc = .ok (.return_, 1) → K pc lv [] r) (k2 : Int32 → St → Option (St)) (h2 : ∀ (x1 : Int32) (S : St), J K r (k2 x1 S) 2 [(0, .ref (adr 27)), (1, .int x1)] [] S) : ∀ (n : Nat) (x1 : Int32) (x2 : Int32) (x3 : Int32) (S : St), J K r (f_X9_serves_24 k2 n x1 x2 x3 S) 24 [(0, .ref (adr 27)), (1, .int x1), (2, .int x2), (3, .int x3)] [] S := by
  intro n
  induction n with
  | zero => intro x1 x2 x3 S h; cases h
  | succ n ih =>
    intro x1 x2 x3 S
    unfold f_X9_serves_24
    refine j_aload_n C dX9_serves_24 0 rfl rfl ?_
    refine j_iload_n C dX9_serves_25 2 rfl rfl ?_
    refine j_cvi C dX9_serves_26 lk_X9_151 mw_X9_free (m_X9_free adr x2) ⟨rfl, rfl, Nat.le_of_ble_eq_true rfl, Nat.le_of_ble_eq_true rfl⟩ kd_27 (by decide) (Nat.le_of_ble_eq_true rfl) rfl rfl (st := []) (st0 := [.int x2, .ref (adr 27)]) rfl (Nat.le_of_ble_eq_true rfl) (fun v6 S5 => ?_)
    refine j_if_le C dX9_serves_29 (tgt := 54) (by decide) ?_ ?_
    · refine j_sub C [0, 1] rfl ?_
      exact b_X9_serves_54 C hR k2 h2 x1 S5
    · refine j_iload_n C dX9_serves_32 3 rfl rfl ?_
      refine j_bipush C dX9_serves_33 (v := -9) rfl ?_
      refine j_icmp_eq C dX9_serves_35 (tgt := 54) (by decide) ?_ ?_
      · refine j_sub C [0, 1] rfl ?_
        exact b_X9_serves_54 C hR k2 h2 x1 S5
      · refine j_aload_n C dX9_serves_38 0 rfl rfl ?_
        refine j_iload_n C dX9_serves_39 3 rfl rfl ?_
        refine j_iload_n C dX9_serves_40 2 rfl rfl ?_
        refine j_cvv C dX9_serves_41 lk_X9_202 mw_X9_moves (m_X9_moves adr x3 x2) ⟨rfl, rfl, Nat.le_of_ble_eq_true rfl, Nat.le_of_ble_eq_true rfl⟩ kd_27 (by decide) (Nat.le_of_ble_eq_true rfl) rfl rfl (st := []) (st0 := [.int x2, .int x3, .ref (adr 27)]) rfl (Nat.le_of_ble_eq_true rfl) (fun S7 => ?_)
        refine j_aload_n C dX9_serves_44 0 rfl rfl ?_
        refine j_iload_n C dX9_serves_45 2 rfl rfl ?_
        refine j_iconst C dX9_serves_46 (v := 0) rfl ?_
        refine j_cvi C dX9_serves_47 lk_X9_199 mw_X9_queuedAt (m_X9_queuedAt adr x2 0) ⟨rfl, rfl, Nat.le_of_ble_eq_true rfl, Nat.le_of_ble_eq_true rfl⟩ kd_27 (by decide) (Nat.le_of_ble_eq_true rfl) rfl rfl (st := []) (st0 := [.int 0, .int x2, .ref (adr 27)]) rfl (Nat.le_of_ble_eq_true rfl) (fun v9 S8 => ?_)
        refine j_istore_n C dX9_serves_50 rfl (by decide) rfl ?_
        refine j_goto C dX9_serves_51 (tgt := 24) (by decide) ?_
        refine j_sub C [1, 2, 3, 0] rfl ?_
        exact ih x1 x2 v9 S8
def f_X9_serves_2 : Nat → Int32 → St → Option (St)
  | 0, _, _ => none
  | n + 1, x1, S =>
    if (S.1 27 25) ≤ x1 then (lt (upI S 27 25 0) fun S1 =>
      some S1)
    else (ck x1 256 (lt (S.1 40 x1.toNatClampNeg) fun v2 =>
      bd (f_X9_queuedAt v2 0 S) fun v4 S3 =>
      f_X9_serves_24 (f_X9_serves_2 n) FU x1 v2 v4 S3))
set_option maxHeartbeats 1000000 in
theorem b_X9_serves_2 {K : Kt} {adr : Nat → Nat} {r : St} (C : Cx K cX9_serves RX9 4 adr rm_X9_serves) (hR : ∀ (pc : Nat) (lv : List (Nat × Value)), decode cX9_serves pc = .ok (.return_, 1) → K pc lv [] r) : ∀ (n : Nat) (x1 : Int32) (S : St), J K r (f_X9_serves_2 n x1 S) 2 [(0, .ref (adr 27)), (1, .int x1)] [] S := by
  intro n
  induction n with
  | zero => intro x1 S h; cases h
  | succ n ih =>
    intro x1 S
    unfold f_X9_serves_2
    refine j_iload_n C dX9_serves_2 1 rfl rfl ?_
    refine j_aload_n C dX9_serves_3 0 rfl rfl ?_
    refine j_geti C dX9_serves_4 fl_X9_183 kd_27 (by decide) (Nat.le_of_ble_eq_true rfl) rfl ?_
    refine j_icmp_ge C dX9_serves_7 (tgt := 60) (by decide) ?_ ?_
    · refine j_aload_n C dX9_serves_60 0 rfl rfl ?_
      refine j_iconst C dX9_serves_61 (v := 0) rfl ?_
      refine j_puti C dX9_serves_62 fl_X9_183 fi_X9_25 kd_27 (by decide) (Nat.le_of_ble_eq_true rfl) rfl (fun S1 => ?_)
      exact j_vret hR dX9_serves_65
    · refine j_aload_n C dX9_serves_10 0 rfl rfl ?_
      refine j_getr C dX9_serves_11 fl_X9_47 kd_27 (by decide) (Nat.le_of_ble_eq_true rfl) rfl ?_
      refine j_iload_n C dX9_serves_14 1 rfl rfl ?_
      refine j_iald C dX9_serves_15 kd_40 (Nat.le_of_ble_eq_true rfl) ?_
      refine j_topi (fun v2 => ?_)
      refine j_istore_n C dX9_serves_16 rfl (by decide) rfl ?_
      refine j_aload_n C dX9_serves_17 1 rfl rfl ?_
      refine j_iload_n C dX9_serves_18 0 rfl rfl ?_
      refine j_iconst C dX9_serves_19 (v := 0) rfl ?_
      refine j_cvi C dX9_serves_20 lk_X9_199 mw_X9_queuedAt (m_X9_queuedAt adr v2 0) ⟨rfl, rfl, Nat.le_of_ble_eq_true rfl, Nat.le_of_ble_eq_true rfl⟩ kd_27 (by decide) (Nat.le_of_ble_eq_true rfl) rfl rfl (st := []) (st0 := [.int 0, .int v2, .ref (adr 27)]) rfl (Nat.le_of_ble_eq_true rfl) (fun v4 S3 => ?_)
      refine j_istore_n C dX9_serves_23 rfl (by decide) rfl ?_
      refine j_sub C [2, 3, 1, 0] rfl ?_
      exact b_X9_serves_24 C hR (f_X9_serves_2 n) ih FU x1 v2 v4 S3
def f_X9_serves  (S : St) : Option (St) :=
  f_X9_serves_2 FU 0 S
set_option maxHeartbeats 1000000 in
theorem m_X9_serves (adr : Nat → Nat)  : MtV yX9_serves cX9_serves 4 none rm_X9_serves adr [.ref (adr 27)] (f_X9_serves ) := by
  refine MtV.of (by decide +kernel) (Nat.le_of_ble_eq_true rfl) (fun K r S C hR => ?_)
  refine j_start (lv' := [(0, .ref (adr 27))]) rfl ?_
  unfold f_X9_serves
  refine j_iconst C dX9_serves_0 (v := 0) rfl ?_
  refine j_istore_n C dX9_serves_1 rfl (by decide) rfl ?_
  refine j_sub C [1, 0] rfl ?_
  exact b_X9_serves_2 C hR FU 0 S
-- X9_target
abbrev rm_X9_target : Room := { frames := 1, cells := 0, slots := 0, locals := 22 }
def f_X9_target_85 (k5 : Int32 → Int32 → Int32 → St → Option (Int32 × St)) (x1 : Int32) (x3 : Int32) (s0 : Int32) (S : St) : Option (Int32 × St) :=
    k5 x1 s0 (x3 + 1) S
set_option maxHeartbeats 1000000 in
theorem b_X9_target_85 {K : Kt} {adr : Nat → Nat} {r : Int32 × St} (C : Cx K cX9_target RX9 5 adr rm_X9_target) (hR : ∀ (pc : Nat) (lv : List (Nat × Value)), decode cX9_target pc = .ok (.ireturn, 1) → K pc lv [.int r.1] r.2) (k5 : Int32 → Int32 → Int32 → St → Option (Int32 × St)) (h5 : ∀ (x1 : Int32) (x2 : Int32) (x3 : Int32) (S : St), J K r (k5 x1 x2 x3 S) 5 [(0, .ref (adr 27)), (1, .int x1), (2, .int x2), (3, .int x3)] [] S) (x1 : Int32) (x3 : Int32) (s0 : Int32) (S : St) : J K r (f_X9_target_85 k5 x1 x3 s0 S) 85 [(0, .ref (adr 27)), (1, .int x1), (3, .int x3)] [.int s0] S := by
    unfold f_X9_target_85
    refine j_istore_n C dX9_target_85 rfl (by decide) rfl ?_
    refine j_iinc C dX9_target_86 (v := x3 + 1) 3 rfl rfl (by decide) rfl ?_
    refine j_goto C dX9_target_89 (tgt := 5) (by decide) ?_
    refine j_sub C [2, 3, 1, 0] rfl ?_
    exact h5 x1 s0 (x3 + 1) S
def f_X9_target_84 (k5 : Int32 → Int32 → Int32 → St → Option (Int32 × St)) (x1 : Int32) (x2 : Int32) (x3 : Int32) (S : St) : Option (Int32 × St) :=
    f_X9_target_85 k5 x1 x3 x2 S
set_option maxHeartbeats 1000000 in
theorem b_X9_target_84 {K : Kt} {adr : Nat → Nat} {r : Int32 × St} (C : Cx K cX9_target RX9 5 adr rm_X9_target) (hR : ∀ (pc : Nat) (lv : List (Nat × Value)), decode cX9_target pc = .ok (.ireturn, 1) → K pc lv [.int r.1] r.2) (k5 : Int32 → Int32 → Int32 → St → Option (Int32 × St)) (h5 : ∀ (x1 : Int32) (x2 : Int32) (x3 : Int32) (S : St), J K r (k5 x1 x2 x3 S) 5 [(0, .ref (adr 27)), (1, .int x1), (2, .int x2), (3, .int x3)] [] S) (x1 : Int32) (x2 : Int32) (x3 : Int32) (S : St) : J K r (f_X9_target_84 k5 x1 x2 x3 S) 84 [(0, .ref (adr 27)), (1, .int x1), (2, .int x2), (3, .int x3)] [] S := by
    unfold f_X9_target_84
    refine j_iload_n C dX9_target_84 2 rfl rfl ?_
    refine j_sub C [0, 1, 3] rfl ?_
    exact b_X9_target_85 C hR k5 h5 x1 x3 x2 S
def f_X9_target_80 (k5 : Int32 → Int32 → Int32 → St → Option (Int32 × St)) (x1 : Int32) (x3 : Int32) (S : St) : Option (Int32 × St) :=
    f_X9_target_85 k5 x1 x3 x3 S
set_option maxHeartbeats 1000000 in
theorem b_X9_target_80 {K : Kt} {adr : Nat → Nat} {r : Int32 × St} (C : Cx K cX9_target RX9 5 adr rm_X9_target) (hR : ∀ (pc : Nat) (lv : List (Nat × Value)), decode cX9_target pc = .ok (.ireturn, 1) → K pc lv [.int r.1] r.2) (k5 : Int32 → Int32 → Int32 → St → Option (Int32 × St)) (h5 : ∀ (x1 : Int32) (x2 : Int32) (x3 : Int32) (S : St), J K r (k5 x1 x2 x3 S) 5 [(0, .ref (adr 27)), (1, .int x1), (2, .int x2), (3, .int x3)] [] S) (x1 : Int32) (x3 : Int32) (S : St) : J K r (f_X9_target_80 k5 x1 x3 S) 80 [(0, .ref (adr 27)), (1, .int x1), (3, .int x3)] [] S := by
    unfold f_X9_target_80
    refine j_iload_n C dX9_target_80 2 rfl rfl ?_
    refine j_goto C dX9_target_81 (tgt := 85) (by decide) ?_
    exact b_X9_target_85 C hR k5 h5 x1 x3 x3 S
def f_X9_target_46 (k5 : Int32 → Int32 → Int32 → St → Option (Int32 × St)) (x1 : Int32) (x2 : Int32) (x3 : Int32) (s0 : Int32) (S : St) : Option (Int32 × St) :=
    if s0 = 0 then (f_X9_target_84 k5 x1 x2 x3 S)
    else (if x2 = (-9) then (f_X9_target_80 k5 x1 x3 S)
      else (bd (f_X9_get x1 (10 + x3) S) fun v6 S5 =>
        bd (f_X9_get x1 (10 + x2) S5) fun v8 S7 =>
        if v6 ≤ v8 then (f_X9_target_84 k5 x1 x2 x3 S7)
        else (f_X9_target_80 k5 x1 x3 S7)))
set_option maxHeartbeats 1000000 in
theorem b_X9_target_46 {K : Kt} {adr : Nat → Nat} {r : Int32 × St} (C : Cx K cX9_target RX9 5 adr rm_X9_target) (hR : ∀ (pc : Nat) (lv : List (Nat × Value)), decode cX9_target pc = .ok (.ireturn, 1) → K pc lv [.int r.1] r.2) (k5 : Int32 → Int32 → Int32 → St → Option (Int32 × St)) (h5 : ∀ (x1 : Int32) (x2 : Int32) (x3 : Int32) (S : St), J K r (k5 x1 x2 x3 S) 5 [(0, .ref (adr 27)), (1, .int x1), (2, .int x2), (3, .int x3)] [] S) (x1 : Int32) (x2 : Int32) (x3 : Int32) (s0 : Int32) (S : St) : J K r (f_X9_target_46 k5 x1 x2 x3 s0 S) 46 [(0, .ref (adr 27)), (1, .int x1), (2, .int x2), (3, .int x3)] [.int s0] S := by
    unfold f_X9_target_46
    refine j_istore C dX9_target_46 (by decide) rfl ?_
    refine j_iload C dX9_target_48 0 rfl ?_
    refine j_if_eq C dX9_target_50 (tgt := 84) (by decide) ?_ ?_
    · refine j_sub C [1, 2, 3, 4] rfl ?_
      exact b_X9_target_84 C hR k5 h5 x1 x2 x3 S
    · refine j_iload_n C dX9_target_53 3 rfl rfl ?_
      refine j_bipush C dX9_target_54 (v := -9) rfl ?_
      refine j_icmp_eq C dX9_target_56 (tgt := 80) (by decide) ?_ ?_
      · refine j_sub C [1, 2, 4] rfl ?_
        exact b_X9_target_80 C hR k5 h5 x1 x3 S
      · refine j_aload_n C dX9_target_59 1 rfl rfl ?_
        refine j_iload_n C dX9_target_60 2 rfl rfl ?_
        refine j_bipush C dX9_target_61 (v := 10) rfl ?_
        refine j_iload_n C dX9_target_63 4 rfl rfl ?_
        refine j_iadd C dX9_target_64 ?_
        refine j_cvi C dX9_target_65 lk_X9_141 mw_X9_get (m_X9_get adr x1 (10 + x3)) ⟨rfl, rfl, Nat.le_of_ble_eq_true rfl, Nat.le_of_ble_eq_true rfl⟩ kd_27 (by decide) (Nat.le_of_ble_eq_true rfl) rfl rfl (st := []) (st0 := [.int (10 + x3), .int x1, .ref (adr 27)]) rfl (Nat.le_of_ble_eq_true rfl) (fun v6 S5 => ?_)
        refine j_aload_n C dX9_target_68 1 rfl rfl ?_
        refine j_iload_n C dX9_target_69 2 rfl rfl ?_
        refine j_bipush C dX9_target_70 (v := 10) rfl ?_
        refine j_iload_n C dX9_target_72 3 rfl rfl ?_
        refine j_iadd C dX9_target_73 ?_
        refine j_cvi C dX9_target_74 lk_X9_141 mw_X9_get (m_X9_get adr x1 (10 + x2)) ⟨rfl, rfl, Nat.le_of_ble_eq_true rfl, Nat.le_of_ble_eq_true rfl⟩ kd_27 (by decide) (Nat.le_of_ble_eq_true rfl) rfl rfl (st := [.int v6]) (st0 := [.int (10 + x2), .int x1, .ref (adr 27), .int v6]) rfl (Nat.le_of_ble_eq_true rfl) (fun v8 S7 => ?_)
        refine j_icmp_le C dX9_target_77 (tgt := 84) (by decide) ?_ ?_
        · refine j_sub C [1, 2, 3, 4] rfl ?_
          exact b_X9_target_84 C hR k5 h5 x1 x2 x3 S7
        · refine j_sub C [1, 2, 4] rfl ?_
          exact b_X9_target_80 C hR k5 h5 x1 x3 S7
def f_X9_target_45 (k5 : Int32 → Int32 → Int32 → St → Option (Int32 × St)) (x1 : Int32) (x2 : Int32) (x3 : Int32) (S : St) : Option (Int32 × St) :=
    f_X9_target_46 k5 x1 x2 x3 0 S
set_option maxHeartbeats 1000000 in
theorem b_X9_target_45 {K : Kt} {adr : Nat → Nat} {r : Int32 × St} (C : Cx K cX9_target RX9 5 adr rm_X9_target) (hR : ∀ (pc : Nat) (lv : List (Nat × Value)), decode cX9_target pc = .ok (.ireturn, 1) → K pc lv [.int r.1] r.2) (k5 : Int32 → Int32 → Int32 → St → Option (Int32 × St)) (h5 : ∀ (x1 : Int32) (x2 : Int32) (x3 : Int32) (S : St), J K r (k5 x1 x2 x3 S) 5 [(0, .ref (adr 27)), (1, .int x1), (2, .int x2), (3, .int x3)] [] S) (x1 : Int32) (x2 : Int32) (x3 : Int32) (S : St) : J K r (f_X9_target_45 k5 x1 x2 x3 S) 45 [(0, .ref (adr 27)), (1, .int x1), (2, .int x2), (3, .int x3)] [] S := by
    unfold f_X9_target_45
    refine j_iconst C dX9_target_45 (v := 0) rfl ?_
    exact b_X9_target_46 C hR k5 h5 x1 x2 x3 0 S
def f_X9_target_5 : Nat → Int32 → Int32 → Int32 → St → Option (Int32 × St)
  | 0, _, _, _, _ => none
  | n + 1, x1, x2, x3, S =>
    if (S.1 27 8) ≤ x3 then (some (x2, S))
    else (bd (f_X9_get x1 1 S) fun v2 S1 =>
      if x3 = v2 then (f_X9_target_45 (f_X9_target_5 n) x1 x2 x3 S1)
      else (bd (f_X9_get x1 (14 + x3) S1) fun v4 S3 =>
        ck 2 6 (if v4 < (S3.1 35 (2 : Int32).toNatClampNeg) then (f_X9_target_45 (f_X9_target_5 n) x1 x2 x3 S3)
        else (f_X9_target_46 (f_X9_target_5 n) x1 x2 x3 1 S3))))
set_option maxHeartbeats 1000000 in
theorem b_X9_target_5 {K : Kt} {adr : Nat → Nat} {r : Int32 × St} (C : Cx K cX9_target RX9 5 adr rm_X9_target) (hR : ∀ (pc : Nat) (lv : List (Nat × Value)), decode cX9_target pc = .ok (.ireturn, 1) → K pc lv [.int r.1] r.2) : ∀ (n : Nat) (x1 : Int32) (x2 : Int32) (x3 : Int32) (S : St), J K r (f_X9_target_5 n x1 x2 x3 S) 5 [(0, .ref (adr 27)), (1, .int x1), (2, .int x2), (3, .int x3)] [] S := by
  intro n
  induction n with
  | zero => intro x1 x2 x3 S h; cases h
  | succ n ih =>
    intro x1 x2 x3 S
    unfold f_X9_target_5
    refine j_iload_n C dX9_target_5 3 rfl rfl ?_
    refine j_aload_n C dX9_target_6 0 rfl rfl ?_
    refine j_geti C dX9_target_7 fl_X9_133 kd_27 (by decide) (Nat.le_of_ble_eq_true rfl) rfl ?_
    refine j_icmp_ge C dX9_target_10 (tgt := 92) (by decide) ?_ ?_
    · refine j_iload_n C dX9_target_92 2 rfl rfl ?_
      exact j_iret hR dX9_target_93
    · refine j_iload_n C dX9_target_13 3 rfl rfl ?_
      refine j_aload_n C dX9_target_14 0 rfl rfl ?_
      refine j_iload_n C dX9_target_15 1 rfl rfl ?_
      refine j_iconst C dX9_target_16 (v := 1) rfl ?_
      refine j_cvi C dX9_target_17 lk_X9_141 mw_X9_get (m_X9_get adr x1 1) ⟨rfl, rfl, Nat.le_of_ble_eq_true rfl, Nat.le_of_ble_eq_true rfl⟩ kd_27 (by decide) (Nat.le_of_ble_eq_true rfl) rfl rfl (st := [.int x3]) (st0 := [.int 1, .int x1, .ref (adr 27), .int x3]) rfl (Nat.le_of_ble_eq_true rfl) (fun v2 S1 => ?_)
      refine j_icmp_eq C dX9_target_20 (tgt := 45) (by decide) ?_ ?_
      · exact b_X9_target_45 C hR (f_X9_target_5 n) ih x1 x2 x3 S1
      · refine j_aload_n C dX9_target_23 0 rfl rfl ?_
        refine j_iload_n C dX9_target_24 1 rfl rfl ?_
        refine j_bipush C dX9_target_25 (v := 14) rfl ?_
        refine j_iload_n C dX9_target_27 3 rfl rfl ?_
        refine j_iadd C dX9_target_28 ?_
        refine j_cvi C dX9_target_29 lk_X9_141 mw_X9_get (m_X9_get adr x1 (14 + x3)) ⟨rfl, rfl, Nat.le_of_ble_eq_true rfl, Nat.le_of_ble_eq_true rfl⟩ kd_27 (by decide) (Nat.le_of_ble_eq_true rfl) rfl rfl (st := []) (st0 := [.int (14 + x3), .int x1, .ref (adr 27)]) rfl (Nat.le_of_ble_eq_true rfl) (fun v4 S3 => ?_)
        refine j_aload_n C dX9_target_32 0 rfl rfl ?_
        refine j_getr C dX9_target_33 fl_X9_32 kd_27 (by decide) (Nat.le_of_ble_eq_true rfl) rfl ?_
        refine j_iconst C dX9_target_36 (v := 2) rfl ?_
        refine j_iald C dX9_target_37 kd_35 (Nat.le_of_ble_eq_true rfl) ?_
        refine j_icmp_lt C dX9_target_38 (tgt := 45) (by decide) ?_ ?_
        · exact b_X9_target_45 C hR (f_X9_target_5 n) ih x1 x2 x3 S3
        · refine j_iconst C dX9_target_41 (v := 1) rfl ?_
          refine j_goto C dX9_target_42 (tgt := 46) (by decide) ?_
          exact b_X9_target_46 C hR (f_X9_target_5 n) ih x1 x2 x3 1 S3
def f_X9_target (x1 : Int32) (S : St) : Option (Int32 × St) :=
  f_X9_target_5 FU x1 (-9) 0 S
set_option maxHeartbeats 1000000 in
theorem m_X9_target (adr : Nat → Nat) (x1 : Int32) : MtI yX9_target cX9_target 5 (some .int) rm_X9_target adr [.ref (adr 27), .int x1] (f_X9_target x1) := by
  refine MtI.of (by decide +kernel) (Nat.le_of_ble_eq_true rfl) (fun K r S C hR => ?_)
  refine j_start (lv' := [(0, .ref (adr 27)), (1, .int x1)]) rfl ?_
  unfold f_X9_target
  refine j_bipush C dX9_target_0 (v := -9) rfl ?_
  refine j_istore_n C dX9_target_2 rfl (by decide) rfl ?_
  refine j_iconst C dX9_target_3 (v := 0) rfl ?_
  refine j_istore_n C dX9_target_4 rfl (by decide) rfl ?_
  refine j_sub C [2, 3, 1, 0] rfl ?_
  exact b_X9_target_5 C hR FU x1 (-9) 0 S
-- X9_listens
abbrev rm_X9_listens : Room := { frames := 1, cells := 0, slots := 0, locals := 23 }
def f_X9_listens (x1 : Int32) (x2 : Int32) (x3 : Int32) (S : St) : Option (St) :=
  ck 3 6 (lt (1 <<< ((S.1 35 (3 : Int32).toNatClampNeg) &&& 31)) fun v1 =>
  bd (f_X9_get x1 (10 + x2) S) fun v3 S2 =>
  nz v1 (bdV (f_X9_set x1 (10 + x2) (((v3 * (v1 - 1)) + (64 * x3)) / v1) S2) fun S4 =>
  some S4))
set_option maxHeartbeats 1000000 in
theorem m_X9_listens (adr : Nat → Nat) (x1 : Int32) (x2 : Int32) (x3 : Int32) : MtV yX9_listens cX9_listens 5 none rm_X9_listens adr [.ref (adr 27), .int x1, .int x2, .int x3] (f_X9_listens x1 x2 x3) := by
  refine MtV.of (by decide +kernel) (Nat.le_of_ble_eq_true rfl) (fun K r S C hR => ?_)
  refine j_start (lv' := [(0, .ref (adr 27)), (1, .int x1), (2, .int x2), (3, .int x3)]) rfl ?_
  unfold f_X9_listens
  refine j_iconst C dX9_listens_0 (v := 1) rfl ?_
  refine j_aload_n C dX9_listens_1 0 rfl rfl ?_
  refine j_getr C dX9_listens_2 fl_X9_32 kd_27 (by decide) (Nat.le_of_ble_eq_true rfl) rfl ?_
  refine j_iconst C dX9_listens_5 (v := 3) rfl ?_
  refine j_iald C dX9_listens_6 kd_35 (Nat.le_of_ble_eq_true rfl) ?_
  refine j_ishl C dX9_listens_7 ?_
  refine j_topi (fun v1 => ?_)
  refine j_istore C dX9_listens_8 (by decide) rfl ?_
  refine j_aload_n C dX9_listens_10 1 rfl rfl ?_
  refine j_iload_n C dX9_listens_11 2 rfl rfl ?_
  refine j_bipush C dX9_listens_12 (v := 10) rfl ?_
  refine j_iload_n C dX9_listens_14 3 rfl rfl ?_
  refine j_iadd C dX9_listens_15 ?_
  refine j_aload_n C dX9_listens_16 1 rfl rfl ?_
  refine j_iload_n C dX9_listens_17 2 rfl rfl ?_
  refine j_bipush C dX9_listens_18 (v := 10) rfl ?_
  refine j_iload_n C dX9_listens_20 3 rfl rfl ?_
  refine j_iadd C dX9_listens_21 ?_
  refine j_cvi C dX9_listens_22 lk_X9_141 mw_X9_get (m_X9_get adr x1 (10 + x2)) ⟨rfl, rfl, Nat.le_of_ble_eq_true rfl, Nat.le_of_ble_eq_true rfl⟩ kd_27 (by decide) (Nat.le_of_ble_eq_true rfl) rfl rfl (st := [.int (10 + x2), .int x1, .ref (adr 27)]) (st0 := [.int (10 + x2), .int x1, .ref (adr 27), .int (10 + x2), .int x1, .ref (adr 27)]) rfl (Nat.le_of_ble_eq_true rfl) (fun v3 S2 => ?_)
  refine j_iload C dX9_listens_25 0 rfl ?_
  refine j_iconst C dX9_listens_27 (v := 1) rfl ?_
  refine j_isub C dX9_listens_28 ?_
  refine j_imul C dX9_listens_29 ?_
  refine j_bipush C dX9_listens_30 (v := 64) rfl ?_
  refine j_iload_n C dX9_listens_32 4 rfl rfl ?_
  refine j_imul C dX9_listens_33 ?_
  refine j_iadd C dX9_listens_34 ?_
  refine j_iload C dX9_listens_35 0 rfl ?_
  refine j_idiv C dX9_listens_37 ?_
  refine j_cvv C dX9_listens_38 lk_X9_179 mw_X9_set (m_X9_set adr x1 (10 + x2) (((v3 * (v1 - 1)) + (64 * x3)) / v1)) ⟨rfl, rfl, Nat.le_of_ble_eq_true rfl, Nat.le_of_ble_eq_true rfl⟩ kd_27 (by decide) (Nat.le_of_ble_eq_true rfl) rfl rfl (st := []) (st0 := [.int (((v3 * (v1 - 1)) + (64 * x3)) / v1), .int (10 + x2), .int x1, .ref (adr 27)]) rfl (Nat.le_of_ble_eq_true rfl) (fun S4 => ?_)
  exact j_vret hR dX9_listens_41
-- X9_isValue
abbrev rm_X9_isValue : Room := { frames := 1, cells := 0, slots := 0, locals := 25 }
def f_X9_isValue_18 (s0 : Int64) (s1 : Int64) (s2 : Int64) (S : St) : Option (Int32 × St) :=
    bd (f_X9_in s2 s1 s0 S) fun v2 S1 =>
    bz v2 (some (v2, S1))
set_option maxHeartbeats 1000000 in
theorem b_X9_isValue_18 {K : Kt} {adr : Nat → Nat} {r : Int32 × St} (C : Cx K cX9_isValue RX9 3 adr rm_X9_isValue) (hR : ∀ (pc : Nat) (lv : List (Nat × Value)), (r.1 = 0 ∨ r.1 = 1) → decode cX9_isValue pc = .ok (.ireturn, 1) → K pc lv [.int r.1] r.2) (s0 : Int64) (s1 : Int64) (s2 : Int64) (S : St) : J K r (f_X9_isValue_18 s0 s1 s2 S) 18 [] [.long s0, .long s1, .long s2] S := by
    unfold f_X9_isValue_18
    refine j_csi C dX9_isValue_18 lk_X9_66 mw_X9_in (m_X9_in adr s2 s1 s0) ⟨rfl, rfl, Nat.le_of_ble_eq_true rfl, Nat.le_of_ble_eq_true rfl⟩ rfl (st := []) (st0 := [.long s0, .long s1, .long s2]) rfl (Nat.le_of_ble_eq_true rfl) (fun v2 S1 => ?_)
    exact j_zretv hR dX9_isValue_21
def f_X9_isValue (x1 : Int32) (x2 : Int32) (S : St) : Option (Int32 × St) :=
  if (S.1 27 8) ≤ x1 then (f_X9_isValue_18 0 0 x2.toInt64 S)
  else (f_X9_isValue_18 100 0 x2.toInt64 S)
set_option maxHeartbeats 1000000 in
theorem m_X9_isValue (adr : Nat → Nat) (x1 : Int32) (x2 : Int32) : MtI yX9_isValue cX9_isValue 3 (some .boolean) rm_X9_isValue adr [.ref (adr 27), .int x1, .int x2] (f_X9_isValue x1 x2) := by
  refine MtI.ofZ (by decide +kernel) (Nat.le_of_ble_eq_true rfl) (fun K r S C hR => ?_)
  refine j_start (lv' := [(0, .ref (adr 27)), (1, .int x1), (2, .int x2)]) rfl ?_
  unfold f_X9_isValue
  refine j_iload_n C dX9_isValue_0 2 rfl rfl ?_
  refine j_i2l C dX9_isValue_1 ?_
  refine j_lconst C dX9_isValue_2 (v := 0) rfl ?_
  refine j_iload_n C dX9_isValue_3 1 rfl rfl ?_
  refine j_aload_n C dX9_isValue_4 0 rfl rfl ?_
  refine j_geti C dX9_isValue_5 fl_X9_133 kd_27 (by decide) (Nat.le_of_ble_eq_true rfl) rfl ?_
  refine j_icmp_ge C dX9_isValue_8 (tgt := 17) (by decide) ?_ ?_
  · refine j_lconst C dX9_isValue_17 (v := 0) rfl ?_
    refine j_sub C [] rfl ?_
    exact b_X9_isValue_18 C hR 0 0 x2.toInt64 S
  · refine j_ldc2 C dX9_isValue_11 kc_X9_161 ?_
    refine j_goto C dX9_isValue_14 (tgt := 18) (by decide) ?_
    refine j_sub C [] rfl ?_
    exact b_X9_isValue_18 C hR 100 0 x2.toInt64 S
-- X9_streaks
abbrev rm_X9_streaks : Room := { frames := 1, cells := 0, slots := 0, locals := 23 }
def f_X9_streaks_91 (k17 : Int32 → Int32 → Int32 → St → Option (St)) (x1 : Int32) (x2 : Int32) (x3 : Int32) (s0 : Int32) (s1 : Int32) (s2 : Int32) (S : St) : Option (St) :=
    bdV (f_X9_set s2 s1 s0 S) fun S11 =>
    k17 x1 x2 (x3 + 1) S11
set_option maxHeartbeats 1000000 in
theorem b_X9_streaks_91 {K : Kt} {adr : Nat → Nat} {r : St} (C : Cx K cX9_streaks RX9 5 adr rm_X9_streaks) (hR : ∀ (pc : Nat) (lv : List (Nat × Value)), decode cX9_streaks pc = .ok (.return_, 1) → K pc lv [] r) (k17 : Int32 → Int32 → Int32 → St → Option (St)) (h17 : ∀ (x1 : Int32) (x2 : Int32) (x3 : Int32) (S : St), J K r (k17 x1 x2 x3 S) 17 [(0, .ref (adr 27)), (1, .int x1), (2, .int x2), (3, .int x3)] [] S) (x1 : Int32) (x2 : Int32) (x3 : Int32) (s0 : Int32) (s1 : Int32) (s2 : Int32) (S : St) : J K r (f_X9_streaks_91 k17 x1 x2 x3 s0 s1 s2 S) 91 [(0, .ref (adr 27)), (1, .int x1), (2, .int x2), (3, .int x3)] [.int s0, .int s1, .int s2, .ref (adr 27)] S := by
    unfold f_X9_streaks_91
    refine j_cvv C dX9_streaks_91 lk_X9_179 mw_X9_set (m_X9_set adr s2 s1 s0) ⟨rfl, rfl, Nat.le_of_ble_eq_true rfl, Nat.le_of_ble_eq_true rfl⟩ kd_27 (by decide) (Nat.le_of_ble_eq_true rfl) rfl rfl (st := []) (st0 := [.int s0, .int s1, .int s2, .ref (adr 27)]) rfl (Nat.le_of_ble_eq_true rfl) (fun S11 => ?_)
    refine j_iinc C dX9_streaks_94 (v := x3 + 1) 3 rfl rfl (by decide) rfl ?_
    refine j_goto C dX9_streaks_97 (tgt := 17) (by decide) ?_
    refine j_sub C [1, 2, 3, 0] rfl ?_
    exact h17 x1 x2 (x3 + 1) S11
def f_X9_streaks_63 (k17 : Int32 → Int32 → Int32 → St → Option (St)) (x1 : Int32) (x2 : Int32) (x3 : Int32) (s0 : Int32) (S : St) : Option (St) :=
    if s0 = 0 then (f_X9_streaks_91 k17 x1 x2 x3 0 (14 + x3) x1 S)
    else (bd (f_X9_get x1 (14 + x3) S) fun v10 S9 =>
      f_X9_streaks_91 k17 x1 x2 x3 (v10 + 1) (14 + x3) x1 S9)
set_option maxHeartbeats 1000000 in
theorem b_X9_streaks_63 {K : Kt} {adr : Nat → Nat} {r : St} (C : Cx K cX9_streaks RX9 5 adr rm_X9_streaks) (hR : ∀ (pc : Nat) (lv : List (Nat × Value)), decode cX9_streaks pc = .ok (.return_, 1) → K pc lv [] r) (k17 : Int32 → Int32 → Int32 → St → Option (St)) (h17 : ∀ (x1 : Int32) (x2 : Int32) (x3 : Int32) (S : St), J K r (k17 x1 x2 x3 S) 17 [(0, .ref (adr 27)), (1, .int x1), (2, .int x2), (3, .int x3)] [] S) (x1 : Int32) (x2 : Int32) (x3 : Int32) (s0 : Int32) (S : St) : J K r (f_X9_streaks_63 k17 x1 x2 x3 s0 S) 63 [(0, .ref (adr 27)), (1, .int x1), (2, .int x2), (3, .int x3)] [.int s0] S := by
    unfold f_X9_streaks_63
    refine j_istore C dX9_streaks_63 (by decide) rfl ?_
    refine j_aload_n C dX9_streaks_65 1 rfl rfl ?_
    refine j_iload_n C dX9_streaks_66 2 rfl rfl ?_
    refine j_bipush C dX9_streaks_67 (v := 14) rfl ?_
    refine j_iload_n C dX9_streaks_69 4 rfl rfl ?_
    refine j_iadd C dX9_streaks_70 ?_
    refine j_iload C dX9_streaks_71 0 rfl ?_
    refine j_if_eq C dX9_streaks_73 (tgt := 90) (by decide) ?_ ?_
    · refine j_iconst C dX9_streaks_90 (v := 0) rfl ?_
      refine j_sub C [1, 2, 3, 4] rfl ?_
      exact b_X9_streaks_91 C hR k17 h17 x1 x2 x3 0 (14 + x3) x1 S
    · refine j_aload_n C dX9_streaks_76 1 rfl rfl ?_
      refine j_iload_n C dX9_streaks_77 2 rfl rfl ?_
      refine j_bipush C dX9_streaks_78 (v := 14) rfl ?_
      refine j_iload_n C dX9_streaks_80 4 rfl rfl ?_
      refine j_iadd C dX9_streaks_81 ?_
      refine j_cvi C dX9_streaks_82 lk_X9_141 mw_X9_get (m_X9_get adr x1 (14 + x3)) ⟨rfl, rfl, Nat.le_of_ble_eq_true rfl, Nat.le_of_ble_eq_true rfl⟩ kd_27 (by decide) (Nat.le_of_ble_eq_true rfl) rfl rfl (st := [.int (14 + x3), .int x1, .ref (adr 27)]) (st0 := [.int (14 + x3), .int x1, .ref (adr 27), .int (14 + x3), .int x1, .ref (adr 27)]) rfl (Nat.le_of_ble_eq_true rfl) (fun v10 S9 => ?_)
      refine j_iconst C dX9_streaks_85 (v := 1) rfl ?_
      refine j_iadd C dX9_streaks_86 ?_
      refine j_goto C dX9_streaks_87 (tgt := 91) (by decide) ?_
      refine j_sub C [1, 2, 3, 4] rfl ?_
      exact b_X9_streaks_91 C hR k17 h17 x1 x2 x3 (v10 + 1) (14 + x3) x1 S9
def f_X9_streaks_62 (k17 : Int32 → Int32 → Int32 → St → Option (St)) (x1 : Int32) (x2 : Int32) (x3 : Int32) (S : St) : Option (St) :=
    f_X9_streaks_63 k17 x1 x2 x3 0 S
set_option maxHeartbeats 1000000 in
theorem b_X9_streaks_62 {K : Kt} {adr : Nat → Nat} {r : St} (C : Cx K cX9_streaks RX9 5 adr rm_X9_streaks) (hR : ∀ (pc : Nat) (lv : List (Nat × Value)), decode cX9_streaks pc = .ok (.return_, 1) → K pc lv [] r) (k17 : Int32 → Int32 → Int32 → St → Option (St)) (h17 : ∀ (x1 : Int32) (x2 : Int32) (x3 : Int32) (S : St), J K r (k17 x1 x2 x3 S) 17 [(0, .ref (adr 27)), (1, .int x1), (2, .int x2), (3, .int x3)] [] S) (x1 : Int32) (x2 : Int32) (x3 : Int32) (S : St) : J K r (f_X9_streaks_62 k17 x1 x2 x3 S) 62 [(0, .ref (adr 27)), (1, .int x1), (2, .int x2), (3, .int x3)] [] S := by
    unfold f_X9_streaks_62
    refine j_iconst C dX9_streaks_62 (v := 0) rfl ?_
    exact b_X9_streaks_63 C hR k17 h17 x1 x2 x3 0 S
def f_X9_streaks_17 : Nat → Int32 → Int32 → Int32 → St → Option (St)
  | 0, _, _, _, _ => none
  | n + 1, x1, x2, x3, S =>
    if (S.1 27 8) ≤ x3 then (some S)
    else (bd (f_X9_get x1 1 S) fun v6 S5 =>
      if x3 = v6 then (f_X9_streaks_62 (f_X9_streaks_17 n) x1 x2 x3 S5)
      else (bd (f_X9_get x1 (10 + x3) S5) fun v8 S7 =>
        ck 1 6 (if v8 < (x2 + (64 * (S7.1 35 (1 : Int32).toNatClampNeg))) then (f_X9_streaks_62 (f_X9_streaks_17 n) x1 x2 x3 S7)
        else (f_X9_streaks_63 (f_X9_streaks_17 n) x1 x2 x3 1 S7))))
set_option maxHeartbeats 1000000 in
theorem b_X9_streaks_17 {K : Kt} {adr : Nat → Nat} {r : St} (C : Cx K cX9_streaks RX9 5 adr rm_X9_streaks) (hR : ∀ (pc : Nat) (lv : List (Nat × Value)), decode cX9_streaks pc = .ok (.return_, 1) → K pc lv [] r) : ∀ (n : Nat) (x1 : Int32) (x2 : Int32) (x3 : Int32) (S : St), J K r (f_X9_streaks_17 n x1 x2 x3 S) 17 [(0, .ref (adr 27)), (1, .int x1), (2, .int x2), (3, .int x3)] [] S := by
  intro n
  induction n with
  | zero => intro x1 x2 x3 S h; cases h
  | succ n ih =>
    intro x1 x2 x3 S
    unfold f_X9_streaks_17
    refine j_iload_n C dX9_streaks_17 3 rfl rfl ?_
    refine j_aload_n C dX9_streaks_18 0 rfl rfl ?_
    refine j_geti C dX9_streaks_19 fl_X9_133 kd_27 (by decide) (Nat.le_of_ble_eq_true rfl) rfl ?_
    refine j_icmp_ge C dX9_streaks_22 (tgt := 100) (by decide) ?_ ?_
    · exact j_vret hR dX9_streaks_100
    · refine j_iload_n C dX9_streaks_25 3 rfl rfl ?_
      refine j_aload_n C dX9_streaks_26 0 rfl rfl ?_
      refine j_iload_n C dX9_streaks_27 1 rfl rfl ?_
      refine j_iconst C dX9_streaks_28 (v := 1) rfl ?_
      refine j_cvi C dX9_streaks_29 lk_X9_141 mw_X9_get (m_X9_get adr x1 1) ⟨rfl, rfl, Nat.le_of_ble_eq_true rfl, Nat.le_of_ble_eq_true rfl⟩ kd_27 (by decide) (Nat.le_of_ble_eq_true rfl) rfl rfl (st := [.int x3]) (st0 := [.int 1, .int x1, .ref (adr 27), .int x3]) rfl (Nat.le_of_ble_eq_true rfl) (fun v6 S5 => ?_)
      refine j_icmp_eq C dX9_streaks_32 (tgt := 62) (by decide) ?_ ?_
      · exact b_X9_streaks_62 C hR (f_X9_streaks_17 n) ih x1 x2 x3 S5
      · refine j_aload_n C dX9_streaks_35 0 rfl rfl ?_
        refine j_iload_n C dX9_streaks_36 1 rfl rfl ?_
        refine j_bipush C dX9_streaks_37 (v := 10) rfl ?_
        refine j_iload_n C dX9_streaks_39 3 rfl rfl ?_
        refine j_iadd C dX9_streaks_40 ?_
        refine j_cvi C dX9_streaks_41 lk_X9_141 mw_X9_get (m_X9_get adr x1 (10 + x3)) ⟨rfl, rfl, Nat.le_of_ble_eq_true rfl, Nat.le_of_ble_eq_true rfl⟩ kd_27 (by decide) (Nat.le_of_ble_eq_true rfl) rfl rfl (st := []) (st0 := [.int (10 + x3), .int x1, .ref (adr 27)]) rfl (Nat.le_of_ble_eq_true rfl) (fun v8 S7 => ?_)
        refine j_iload_n C dX9_streaks_44 2 rfl rfl ?_
        refine j_bipush C dX9_streaks_45 (v := 64) rfl ?_
        refine j_aload_n C dX9_streaks_47 0 rfl rfl ?_
        refine j_getr C dX9_streaks_48 fl_X9_32 kd_27 (by decide) (Nat.le_of_ble_eq_true rfl) rfl ?_
        refine j_iconst C dX9_streaks_51 (v := 1) rfl ?_
        refine j_iald C dX9_streaks_52 kd_35 (Nat.le_of_ble_eq_true rfl) ?_
        refine j_imul C dX9_streaks_53 ?_
        refine j_iadd C dX9_streaks_54 ?_
        refine j_icmp_lt C dX9_streaks_55 (tgt := 62) (by decide) ?_ ?_
        · exact b_X9_streaks_62 C hR (f_X9_streaks_17 n) ih x1 x2 x3 S7
        · refine j_iconst C dX9_streaks_58 (v := 1) rfl ?_
          refine j_goto C dX9_streaks_59 (tgt := 63) (by decide) ?_
          exact b_X9_streaks_63 C hR (f_X9_streaks_17 n) ih x1 x2 x3 1 S7
def f_X9_streaks (x1 : Int32) (S : St) : Option (St) :=
  bd (f_X9_get x1 1 S) fun v2 S1 =>
  bd (f_X9_get x1 (10 + v2) S1) fun v4 S3 =>
  f_X9_streaks_17 FU x1 v4 0 S3
set_option maxHeartbeats 1000000 in
theorem m_X9_streaks (adr : Nat → Nat) (x1 : Int32) : MtV yX9_streaks cX9_streaks 5 none rm_X9_streaks adr [.ref (adr 27), .int x1] (f_X9_streaks x1) := by
  refine MtV.of (by decide +kernel) (Nat.le_of_ble_eq_true rfl) (fun K r S C hR => ?_)
  refine j_start (lv' := [(0, .ref (adr 27)), (1, .int x1)]) rfl ?_
  unfold f_X9_streaks
  refine j_aload_n C dX9_streaks_0 0 rfl rfl ?_
  refine j_iload_n C dX9_streaks_1 1 rfl rfl ?_
  refine j_bipush C dX9_streaks_2 (v := 10) rfl ?_
  refine j_aload_n C dX9_streaks_4 0 rfl rfl ?_
  refine j_iload_n C dX9_streaks_5 1 rfl rfl ?_
  refine j_iconst C dX9_streaks_6 (v := 1) rfl ?_
  refine j_cvi C dX9_streaks_7 lk_X9_141 mw_X9_get (m_X9_get adr x1 1) ⟨rfl, rfl, Nat.le_of_ble_eq_true rfl, Nat.le_of_ble_eq_true rfl⟩ kd_27 (by decide) (Nat.le_of_ble_eq_true rfl) rfl rfl (st := [.int 10, .int x1, .ref (adr 27)]) (st0 := [.int 1, .int x1, .ref (adr 27), .int 10, .int x1, .ref (adr 27)]) rfl (Nat.le_of_ble_eq_true rfl) (fun v2 S1 => ?_)
  refine j_iadd C dX9_streaks_10 ?_
  refine j_cvi C dX9_streaks_11 lk_X9_141 mw_X9_get (m_X9_get adr x1 (10 + v2)) ⟨rfl, rfl, Nat.le_of_ble_eq_true rfl, Nat.le_of_ble_eq_true rfl⟩ kd_27 (by decide) (Nat.le_of_ble_eq_true rfl) rfl rfl (st := []) (st0 := [.int (10 + v2), .int x1, .ref (adr 27)]) rfl (Nat.le_of_ble_eq_true rfl) (fun v4 S3 => ?_)
  refine j_istore_n C dX9_streaks_14 rfl (by decide) rfl ?_
  refine j_iconst C dX9_streaks_15 (v := 0) rfl ?_
  refine j_istore_n C dX9_streaks_16 rfl (by decide) rfl ?_
  refine j_sub C [2, 3, 1, 0] rfl ?_
  exact b_X9_streaks_17 C hR FU x1 v4 0 S3
-- X9_asks
abbrev rm_X9_asks : Room := { frames := 3, cells := 0, slots := 0, locals := 66 }
def f_X9_asks (x1 : Int32) (x2 : Int32) (S : St) : Option (Int32 × St) :=
  bdV (f_X9_counts x2 8 S) fun S1 =>
  bd (f_X9_free x2 S1) fun v3 S2 =>
  if v3 ≤ 0 then (bd (f_X9_waiting x2 S2) fun v5 S4 =>
    ck x2 4 (if (S4.1 34 x2.toNatClampNeg) ≤ v5 then (bdV (f_X9_counts x2 9 S4) fun S6 =>
      some (3, S6))
    else (bdV (f_X9_set x1 2 x2 S4) fun S7 =>
      ck 282 2547 (bdV (f_X9_set x1 3 (S7.1 28 (282 : Int32).toNatClampNeg) S7) fun S8 =>
      ck 282 2547 (ck 282 2547 (lt (upI S8 28 (282 : Int32).toNatClampNeg ((S8.1 28 (282 : Int32).toNatClampNeg) + 1)) fun S9 =>
      some (2, S9)))))))
  else (bdV (f_X9_moves x1 x2 S2) fun S10 =>
    some (1, S10))
set_option maxHeartbeats 1000000 in
theorem m_X9_asks (adr : Nat → Nat) (x1 : Int32) (x2 : Int32) : MtI yX9_asks cX9_asks 3 (some .int) rm_X9_asks adr [.ref (adr 27), .int x1, .int x2] (f_X9_asks x1 x2) := by
  refine MtI.of (by decide +kernel) (Nat.le_of_ble_eq_true rfl) (fun K r S C hR => ?_)
  refine j_start (lv' := [(0, .ref (adr 27)), (1, .int x1), (2, .int x2)]) rfl ?_
  unfold f_X9_asks
  refine j_aload_n C dX9_asks_0 0 rfl rfl ?_
  refine j_iload_n C dX9_asks_1 2 rfl rfl ?_
  refine j_bipush C dX9_asks_2 (v := 8) rfl ?_
  refine j_cvv C dX9_asks_4 lk_X9_170 mw_X9_counts (m_X9_counts adr x2 8) ⟨rfl, rfl, Nat.le_of_ble_eq_true rfl, Nat.le_of_ble_eq_true rfl⟩ kd_27 (by decide) (Nat.le_of_ble_eq_true rfl) rfl rfl (st := []) (st0 := [.int 8, .int x2, .ref (adr 27)]) rfl (Nat.le_of_ble_eq_true rfl) (fun S1 => ?_)
  refine j_aload_n C dX9_asks_7 0 rfl rfl ?_
  refine j_iload_n C dX9_asks_8 2 rfl rfl ?_
  refine j_cvi C dX9_asks_9 lk_X9_151 mw_X9_free (m_X9_free adr x2) ⟨rfl, rfl, Nat.le_of_ble_eq_true rfl, Nat.le_of_ble_eq_true rfl⟩ kd_27 (by decide) (Nat.le_of_ble_eq_true rfl) rfl rfl (st := []) (st0 := [.int x2, .ref (adr 27)]) rfl (Nat.le_of_ble_eq_true rfl) (fun v3 S2 => ?_)
  refine j_if_le C dX9_asks_12 (tgt := 23) (by decide) ?_ ?_
  · refine j_aload_n C dX9_asks_23 0 rfl rfl ?_
    refine j_iload_n C dX9_asks_24 2 rfl rfl ?_
    refine j_cvi C dX9_asks_25 lk_X9_205 mw_X9_waiting (m_X9_waiting adr x2) ⟨rfl, rfl, Nat.le_of_ble_eq_true rfl, Nat.le_of_ble_eq_true rfl⟩ kd_27 (by decide) (Nat.le_of_ble_eq_true rfl) rfl rfl (st := []) (st0 := [.int x2, .ref (adr 27)]) rfl (Nat.le_of_ble_eq_true rfl) (fun v5 S4 => ?_)
    refine j_aload_n C dX9_asks_28 0 rfl rfl ?_
    refine j_getr C dX9_asks_29 fl_X9_29 kd_27 (by decide) (Nat.le_of_ble_eq_true rfl) rfl ?_
    refine j_iload_n C dX9_asks_32 2 rfl rfl ?_
    refine j_iald C dX9_asks_33 kd_34 (Nat.le_of_ble_eq_true rfl) ?_
    refine j_icmp_ge C dX9_asks_34 (tgt := 72) (by decide) ?_ ?_
    · refine j_aload_n C dX9_asks_72 0 rfl rfl ?_
      refine j_iload_n C dX9_asks_73 2 rfl rfl ?_
      refine j_bipush C dX9_asks_74 (v := 9) rfl ?_
      refine j_cvv C dX9_asks_76 lk_X9_170 mw_X9_counts (m_X9_counts adr x2 9) ⟨rfl, rfl, Nat.le_of_ble_eq_true rfl, Nat.le_of_ble_eq_true rfl⟩ kd_27 (by decide) (Nat.le_of_ble_eq_true rfl) rfl rfl (st := []) (st0 := [.int 9, .int x2, .ref (adr 27)]) rfl (Nat.le_of_ble_eq_true rfl) (fun S6 => ?_)
      refine j_iconst C dX9_asks_79 (v := 3) rfl ?_
      exact j_iret hR dX9_asks_80
    · refine j_aload_n C dX9_asks_37 0 rfl rfl ?_
      refine j_iload_n C dX9_asks_38 1 rfl rfl ?_
      refine j_iconst C dX9_asks_39 (v := 2) rfl ?_
      refine j_iload_n C dX9_asks_40 2 rfl rfl ?_
      refine j_cvv C dX9_asks_41 lk_X9_179 mw_X9_set (m_X9_set adr x1 2 x2) ⟨rfl, rfl, Nat.le_of_ble_eq_true rfl, Nat.le_of_ble_eq_true rfl⟩ kd_27 (by decide) (Nat.le_of_ble_eq_true rfl) rfl rfl (st := []) (st0 := [.int x2, .int 2, .int x1, .ref (adr 27)]) rfl (Nat.le_of_ble_eq_true rfl) (fun S7 => ?_)
      refine j_aload_n C dX9_asks_44 0 rfl rfl ?_
      refine j_iload_n C dX9_asks_45 1 rfl rfl ?_
      refine j_iconst C dX9_asks_46 (v := 3) rfl ?_
      refine j_aload_n C dX9_asks_47 0 rfl rfl ?_
      refine j_getr C dX9_asks_48 fl_X9_7 kd_27 (by decide) (Nat.le_of_ble_eq_true rfl) rfl ?_
      refine j_sipush C dX9_asks_51 (v := 282) rfl ?_
      refine j_iald C dX9_asks_54 kd_28 (Nat.le_of_ble_eq_true rfl) ?_
      refine j_cvv C dX9_asks_55 lk_X9_179 mw_X9_set (m_X9_set adr x1 3 (S7.1 28 (282 : Int32).toNatClampNeg)) ⟨rfl, rfl, Nat.le_of_ble_eq_true rfl, Nat.le_of_ble_eq_true rfl⟩ kd_27 (by decide) (Nat.le_of_ble_eq_true rfl) rfl rfl (st := []) (st0 := [.int (S7.1 28 (282 : Int32).toNatClampNeg), .int 3, .int x1, .ref (adr 27)]) rfl (Nat.le_of_ble_eq_true rfl) (fun S8 => ?_)
      refine j_aload_n C dX9_asks_58 0 rfl rfl ?_
      refine j_getr C dX9_asks_59 fl_X9_7 kd_27 (by decide) (Nat.le_of_ble_eq_true rfl) rfl ?_
      refine j_sipush C dX9_asks_62 (v := 282) rfl ?_
      refine j_dup2 C dX9_asks_65 rfl rfl ?_
      refine j_iald C dX9_asks_66 kd_28 (Nat.le_of_ble_eq_true rfl) ?_
      refine j_iconst C dX9_asks_67 (v := 1) rfl ?_
      refine j_iadd C dX9_asks_68 ?_
      refine j_iast C dX9_asks_69 kd_28 (Nat.le_of_ble_eq_true rfl) (fun S9 => ?_)
      refine j_iconst C dX9_asks_70 (v := 2) rfl ?_
      exact j_iret hR dX9_asks_71
  · refine j_aload_n C dX9_asks_15 0 rfl rfl ?_
    refine j_iload_n C dX9_asks_16 1 rfl rfl ?_
    refine j_iload_n C dX9_asks_17 2 rfl rfl ?_
    refine j_cvv C dX9_asks_18 lk_X9_202 mw_X9_moves (m_X9_moves adr x1 x2) ⟨rfl, rfl, Nat.le_of_ble_eq_true rfl, Nat.le_of_ble_eq_true rfl⟩ kd_27 (by decide) (Nat.le_of_ble_eq_true rfl) rfl rfl (st := []) (st0 := [.int x2, .int x1, .ref (adr 27)]) rfl (Nat.le_of_ble_eq_true rfl) (fun S10 => ?_)
    refine j_iconst C dX9_asks_21 (v := 1) rfl ?_
    exact j_iret hR dX9_asks_22
-- X9_leaves
abbrev rm_X9_leaves : Room := { frames := 1, cells := 0, slots := 0, locals := 23 }
def f_X9_leaves (x1 : Int32) (S : St) : Option (St) :=
  bdV (f_X9_set x1 0 0 S) fun S1 =>
  bd (f_X9_get x1 1 S1) fun v3 S2 =>
  bdV (f_X9_frees v3 S2) fun S4 =>
  some S4
set_option maxHeartbeats 1000000 in
theorem m_X9_leaves (adr : Nat → Nat) (x1 : Int32) : MtV yX9_leaves cX9_leaves 2 none rm_X9_leaves adr [.ref (adr 27), .int x1] (f_X9_leaves x1) := by
  refine MtV.of (by decide +kernel) (Nat.le_of_ble_eq_true rfl) (fun K r S C hR => ?_)
  refine j_start (lv' := [(0, .ref (adr 27)), (1, .int x1)]) rfl ?_
  unfold f_X9_leaves
  refine j_aload_n C dX9_leaves_0 0 rfl rfl ?_
  refine j_iload_n C dX9_leaves_1 1 rfl rfl ?_
  refine j_iconst C dX9_leaves_2 (v := 0) rfl ?_
  refine j_iconst C dX9_leaves_3 (v := 0) rfl ?_
  refine j_cvv C dX9_leaves_4 lk_X9_179 mw_X9_set (m_X9_set adr x1 0 0) ⟨rfl, rfl, Nat.le_of_ble_eq_true rfl, Nat.le_of_ble_eq_true rfl⟩ kd_27 (by decide) (Nat.le_of_ble_eq_true rfl) rfl rfl (st := []) (st0 := [.int 0, .int 0, .int x1, .ref (adr 27)]) rfl (Nat.le_of_ble_eq_true rfl) (fun S1 => ?_)
  refine j_aload_n C dX9_leaves_7 0 rfl rfl ?_
  refine j_aload_n C dX9_leaves_8 0 rfl rfl ?_
  refine j_iload_n C dX9_leaves_9 1 rfl rfl ?_
  refine j_iconst C dX9_leaves_10 (v := 1) rfl ?_
  refine j_cvi C dX9_leaves_11 lk_X9_141 mw_X9_get (m_X9_get adr x1 1) ⟨rfl, rfl, Nat.le_of_ble_eq_true rfl, Nat.le_of_ble_eq_true rfl⟩ kd_27 (by decide) (Nat.le_of_ble_eq_true rfl) rfl rfl (st := [.ref (adr 27)]) (st0 := [.int 1, .int x1, .ref (adr 27), .ref (adr 27)]) rfl (Nat.le_of_ble_eq_true rfl) (fun v3 S2 => ?_)
  refine j_cvv C dX9_leaves_14 lk_X9_192 mw_X9_frees (m_X9_frees adr v3) ⟨rfl, rfl, Nat.le_of_ble_eq_true rfl, Nat.le_of_ble_eq_true rfl⟩ kd_27 (by decide) (Nat.le_of_ble_eq_true rfl) rfl rfl (st := []) (st0 := [.int v3, .ref (adr 27)]) rfl (Nat.le_of_ble_eq_true rfl) (fun S4 => ?_)
  exact j_vret hR dX9_leaves_17
