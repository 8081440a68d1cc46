-- X8_within
abbrev rm_X8_within : Room := { frames := 0, cells := 0, slots := 0, locals := 0 }
def f_X8_within_15 (s0 : Int32) (S : St) : Option (Int32 × St) :=
    bz s0 (some (s0, S))
set_option maxHeartbeats 1000000 in
theorem b_X8_within_15 {K : Kt} {adr : Nat → Nat} {r : Int32 × St} (C : Cx K cX8_within RX8 3 adr rm_X8_within) (hR : ∀ (pc : Nat) (lv : List (Nat × Value)), (r.1 = 0 ∨ r.1 = 1) → decode cX8_within pc = .ok (.ireturn, 1) → K pc lv [.int r.1] r.2) (s0 : Int32) (S : St) : J K r (f_X8_within_15 s0 S) 15 [] [.int s0] S := by
    unfold f_X8_within_15
    exact j_zretv hR dX8_within_15
def f_X8_within_14  (S : St) : Option (Int32 × St) :=
    f_X8_within_15 0 S
set_option maxHeartbeats 1000000 in
theorem b_X8_within_14 {K : Kt} {adr : Nat → Nat} {r : Int32 × St} (C : Cx K cX8_within RX8 3 adr rm_X8_within) (hR : ∀ (pc : Nat) (lv : List (Nat × Value)), (r.1 = 0 ∨ r.1 = 1) → decode cX8_within pc = .ok (.ireturn, 1) → K pc lv [.int r.1] r.2)  (S : St) : J K r (f_X8_within_14  S) 14 [] [] S := by
    unfold f_X8_within_14
    refine j_iconst C dX8_within_14 (v := 0) rfl ?_
    exact b_X8_within_15 C hR 0 S
def f_X8_within (x0 : Int32) (x1 : Int32) (x2 : Int32) (S : St) : Option (Int32 × St) :=
  if x0 < x1 then (f_X8_within_14 S)
  else (if x2 < x0 then (f_X8_within_14 S)
    else (f_X8_within_15 1 S))
set_option maxHeartbeats 1000000 in
theorem m_X8_within (adr : Nat → Nat) (x0 : Int32) (x1 : Int32) (x2 : Int32) : MtI yX8_within cX8_within 3 (some .boolean) rm_X8_within adr [.int x0, .int x1, .int x2] (f_X8_within x0 x1 x2) := by
  refine MtI.ofZ (by decide +kernel) (Nat.le_of_ble_eq_true rfl) (fun K r S C hR => ?_)
  refine j_start (lv' := [(0, .int x0), (1, .int x1), (2, .int x2)]) rfl ?_
  unfold f_X8_within
  refine j_iload_n C dX8_within_0 0 rfl rfl ?_
  refine j_iload_n C dX8_within_1 1 rfl rfl ?_
  refine j_icmp_lt C dX8_within_2 (tgt := 14) (by decide) ?_ ?_
  · refine j_sub C [] rfl ?_
    exact b_X8_within_14 C hR S
  · refine j_iload_n C dX8_within_5 0 rfl rfl ?_
    refine j_iload_n C dX8_within_6 2 rfl rfl ?_
    refine j_icmp_gt C dX8_within_7 (tgt := 14) (by decide) ?_ ?_
    · refine j_sub C [] rfl ?_
      exact b_X8_within_14 C hR S
    · refine j_iconst C dX8_within_10 (v := 1) rfl ?_
      refine j_goto C dX8_within_11 (tgt := 15) (by decide) ?_
      refine j_sub C [] rfl ?_
      exact b_X8_within_15 C hR 1 S
-- X4_append
abbrev rm_X4_append : Room := { frames := 0, cells := 0, slots := 0, locals := 0 }
def f_X4_append (x1 : Int32) (S : St) : Option (Int32 × St) :=
  if (S.1 1 1) < 120 then (ck (S.1 1 1) 120 (lt (upI S 2 (S.1 1 1).toNatClampNeg x1) fun S1 =>
    lt (upI S1 1 1 ((S1.1 1 1) + 1)) fun S2 =>
    some (1, S2)))
  else (some (0, S))
set_option maxHeartbeats 1000000 in
theorem m_X4_append (adr : Nat → Nat) (x1 : Int32) : MtI yX4_append cX4_append 2 (some .boolean) rm_X4_append adr [.ref (adr 1), .int x1] (f_X4_append x1) := by
  refine MtI.ofZ (by decide +kernel) (Nat.le_of_ble_eq_true rfl) (fun K r S C hR => ?_)
  refine j_start (lv' := [(0, .ref (adr 1)), (1, .int x1)]) rfl ?_
  unfold f_X4_append
  refine j_aload_n C dX4_append_0 0 rfl rfl ?_
  refine j_geti C dX4_append_1 fl_X4_25 kd_1 (by decide) (Nat.le_of_ble_eq_true rfl) rfl ?_
  refine j_bipush C dX4_append_4 (v := 120) rfl ?_
  refine j_icmp_lt C dX4_append_6 (tgt := 11) (by decide) ?_ ?_
  · refine j_aload_n C dX4_append_11 0 rfl rfl ?_
    refine j_getr C dX4_append_12 fl_X4_9 kd_1 (by decide) (Nat.le_of_ble_eq_true rfl) rfl ?_
    refine j_aload_n C dX4_append_15 0 rfl rfl ?_
    refine j_geti C dX4_append_16 fl_X4_25 kd_1 (by decide) (Nat.le_of_ble_eq_true rfl) rfl ?_
    refine j_iload_n C dX4_append_19 1 rfl rfl ?_
    refine j_iast C dX4_append_20 kd_2 (Nat.le_of_ble_eq_true rfl) (fun S1 => ?_)
    refine j_aload_n C dX4_append_21 0 rfl rfl ?_
    refine j_dup C dX4_append_22 rfl ?_
    refine j_geti C dX4_append_23 fl_X4_25 kd_1 (by decide) (Nat.le_of_ble_eq_true rfl) rfl ?_
    refine j_iconst C dX4_append_26 (v := 1) rfl ?_
    refine j_iadd C dX4_append_27 ?_
    refine j_puti C dX4_append_28 fl_X4_25 fi_X4_1 kd_1 (by decide) (Nat.le_of_ble_eq_true rfl) rfl (fun S2 => ?_)
    refine j_iconst C dX4_append_31 (v := 1) rfl ?_
    exact j_zret hR (by decide) dX4_append_32
  · refine j_iconst C dX4_append_9 (v := 0) rfl ?_
    exact j_zret hR (by decide) dX4_append_10
-- X8_type
abbrev rm_X8_type : Room := { frames := 1, cells := 0, slots := 0, locals := 22 }
def f_X8_type_36 (s0 : Int32) (S : St) : Option (Int32 × St) :=
    some (s0, S)
set_option maxHeartbeats 1000000 in
theorem b_X8_type_36 {K : Kt} {adr : Nat → Nat} {r : Int32 × St} (C : Cx K cX8_type RX8 2 adr rm_X8_type) (hR : ∀ (pc : Nat) (lv : List (Nat × Value)), decode cX8_type pc = .ok (.ireturn, 1) → K pc lv [.int r.1] r.2) (s0 : Int32) (S : St) : J K r (f_X8_type_36 s0 S) 36 [] [.int s0] S := by
    unfold f_X8_type_36
    exact j_iret hR dX8_type_36
def f_X8_type (x1 : Int32) (S : St) : Option (Int32 × St) :=
  bd (f_X8_within x1 0 255 S) fun v2 S1 =>
  if v2 = 0 then (some ((-1), S1))
  else (bd (f_X4_append x1 S1) fun v4 S3 =>
    if v4 = 0 then (f_X8_type_36 (-3) S3)
    else (f_X8_type_36 (S3.1 1 1) S3))
set_option maxHeartbeats 1000000 in
theorem m_X8_type (adr : Nat → Nat) (x1 : Int32) : MtI yX8_type cX8_type 2 (some .int) rm_X8_type adr [.ref (adr 0), .int x1] (f_X8_type x1) := by
  refine MtI.of (by decide +kernel) (Nat.le_of_ble_eq_true rfl) (fun K r S C hR => ?_)
  refine j_start (lv' := [(0, .ref (adr 0)), (1, .int x1)]) rfl ?_
  unfold f_X8_type
  refine j_iload_n C dX8_type_0 1 rfl rfl ?_
  refine j_iconst C dX8_type_1 (v := 0) rfl ?_
  refine j_sipush C dX8_type_2 (v := 255) rfl ?_
  refine j_csi C dX8_type_5 lk_X8_67 mw_X8_within (m_X8_within adr x1 0 255) ⟨rfl, rfl, Nat.le_of_ble_eq_true rfl, Nat.le_of_ble_eq_true rfl⟩ rfl (st := []) (st0 := [.int 255, .int 0, .int x1]) rfl (Nat.le_of_ble_eq_true rfl) (fun v2 S1 => ?_)
  refine j_if_ne C dX8_type_8 (tgt := 13) (by decide) ?_ ?_
  · refine j_aload_n C dX8_type_13 0 rfl rfl ?_
    refine j_getr C dX8_type_14 fl_X8_10 kd_0 (by decide) (Nat.le_of_ble_eq_true rfl) rfl ?_
    refine j_iload_n C dX8_type_17 1 rfl rfl ?_
    refine j_cvi C dX8_type_18 lk_X8_71 mw_X4_append (m_X4_append adr x1) ⟨rfl, rfl, Nat.le_of_ble_eq_true rfl, Nat.le_of_ble_eq_true rfl⟩ kd_1 (by decide) (Nat.le_of_ble_eq_true rfl) rfl rfl (st := []) (st0 := [.int x1, .ref (adr 1)]) rfl (Nat.le_of_ble_eq_true rfl) (fun v4 S3 => ?_)
    refine j_if_eq C dX8_type_21 (tgt := 34) (by decide) ?_ ?_
    · refine j_bipush C dX8_type_34 (v := -3) rfl ?_
      refine j_sub C [] rfl ?_
      exact b_X8_type_36 C hR (-3) S3
    · refine j_aload_n C dX8_type_24 0 rfl rfl ?_
      refine j_getr C dX8_type_25 fl_X8_10 kd_0 (by decide) (Nat.le_of_ble_eq_true rfl) rfl ?_
      refine j_geti C dX8_type_28 fl_X8_75 kd_1 (by decide) (Nat.le_of_ble_eq_true rfl) rfl ?_
      refine j_goto C dX8_type_31 (tgt := 36) (by decide) ?_
      refine j_sub C [] rfl ?_
      exact b_X8_type_36 C hR (S3.1 1 1) S3
  · refine j_iconst C dX8_type_11 (v := -1) rfl ?_
    exact j_iret hR dX8_type_12
-- X8_clear
abbrev rm_X8_clear : Room := { frames := 0, cells := 0, slots := 0, locals := 0 }
def f_X8_clear  (S : St) : Option (Int32 × St) :=
  lt (S.1 1 1) fun v1 =>
  lt (upI S 1 1 0) fun S2 =>
  some (v1, S2)
set_option maxHeartbeats 1000000 in
theorem m_X8_clear (adr : Nat → Nat)  : MtI yX8_clear cX8_clear 2 (some .int) rm_X8_clear adr [.ref (adr 0)] (f_X8_clear ) := by
  refine MtI.of (by decide +kernel) (Nat.le_of_ble_eq_true rfl) (fun K r S C hR => ?_)
  refine j_start (lv' := [(0, .ref (adr 0))]) rfl ?_
  unfold f_X8_clear
  refine j_aload_n C dX8_clear_0 0 rfl rfl ?_
  refine j_getr C dX8_clear_1 fl_X8_10 kd_0 (by decide) (Nat.le_of_ble_eq_true rfl) rfl ?_
  refine j_geti C dX8_clear_4 fl_X8_75 kd_1 (by decide) (Nat.le_of_ble_eq_true rfl) rfl ?_
  refine j_topi (fun v1 => ?_)
  refine j_istore_n C dX8_clear_7 rfl (by decide) rfl ?_
  refine j_aload_n C dX8_clear_8 1 rfl rfl ?_
  refine j_getr C dX8_clear_9 fl_X8_10 kd_0 (by decide) (Nat.le_of_ble_eq_true rfl) rfl ?_
  refine j_iconst C dX8_clear_12 (v := 0) rfl ?_
  refine j_puti C dX8_clear_13 fl_X8_75 fi_X4_1 kd_1 (by decide) (Nat.le_of_ble_eq_true rfl) rfl (fun S2 => ?_)
  refine j_iload_n C dX8_clear_16 0 rfl rfl ?_
  exact j_iret hR dX8_clear_17
-- J7_fill_53178
abbrev rm_J7_fill_53178 : Room := { frames := 0, cells := 0, slots := 0, locals := 0 }
def f_J7_fill_53178_5 (qa na : Nat) : Nat → Int32 → Int32 → Int32 → St → Option (St)
  | 0, _, _, _, _ => none
  | n + 1, x1, x2, x3, S =>
    if x3 ≤ x2 then (some S)
    else (ck x2 na (lt (upI S qa x2.toNatClampNeg x1) fun S2 =>
      (f_J7_fill_53178_5 qa na n) x1 (x2 + 1) x3 S2))
set_option maxHeartbeats 1000000 in
theorem b_J7_fill_53178_5 {K : Kt} {adr : Nat → Nat} {r : St} (C : Cx K cJ7_fill_53178 RJ7 4 adr rm_J7_fill_53178) (hR : ∀ (pc : Nat) (lv : List (Nat × Value)), decode cJ7_fill_53178 pc = .ok (.return_, 1) → K pc lv [] r) (qa na : Nat) (hkq : kd qa = (10, na, [])) (hqN : qa < NC) : ∀ (n : Nat) (x1 : Int32) (x2 : Int32) (x3 : Int32) (S : St), J K r (f_J7_fill_53178_5 qa na n x1 x2 x3 S) 5 [(0, .ref (adr (qa))), (1, .int x1), (2, .int x2), (3, .int x3)] [] S := by
  intro n
  induction n with
  | zero => intro x1 x2 x3 S h; cases h
  | succ n ih =>
    intro x1 x2 x3 S
    unfold f_J7_fill_53178_5
    refine j_iload_n C dJ7_fill_53178_5 2 rfl rfl ?_
    refine j_iload_n C dJ7_fill_53178_6 3 rfl rfl ?_
    refine j_icmp_ge C dJ7_fill_53178_7 (tgt := 20) (by decide) ?_ ?_
    · exact j_vret hR dJ7_fill_53178_20
    · refine j_aload_n C dJ7_fill_53178_10 0 rfl rfl ?_
      refine j_iload_n C dJ7_fill_53178_11 2 rfl rfl ?_
      refine j_iload_n C dJ7_fill_53178_12 1 rfl rfl ?_
      refine j_iast C dJ7_fill_53178_13 hkq hqN (fun S2 => ?_)
      refine j_iinc C dJ7_fill_53178_14 (v := x2 + 1) 2 rfl rfl (by decide) rfl ?_
      refine j_goto C dJ7_fill_53178_17 (tgt := 5) (by decide) ?_
      refine j_sub C [1, 2, 0, 3] rfl ?_
      exact ih x1 (x2 + 1) x3 S2
def f_J7_fill_53178 (qa na : Nat) (x1 : Int32) (S : St) : Option (St) :=
  lt ((Int32.ofNat na)) fun v1 =>
  f_J7_fill_53178_5 qa na FU x1 0 v1 S
set_option maxHeartbeats 1000000 in
theorem m_J7_fill_53178 (adr : Nat → Nat) (qa na : Nat) (hkq : kd qa = (10, na, [])) (hqN : qa < NC) (x1 : Int32) : MtV yJ7_fill_53178 cJ7_fill_53178 4 none rm_J7_fill_53178 adr [.ref (adr (qa)), .int x1] (f_J7_fill_53178 qa na x1) := by
  refine MtV.of (by decide +kernel) (Nat.le_of_ble_eq_true rfl) (fun K r S C hR => ?_)
  refine j_start (lv' := [(0, .ref (adr (qa))), (1, .int x1)]) rfl ?_
  unfold f_J7_fill_53178
  refine j_iconst C dJ7_fill_53178_0 (v := 0) rfl ?_
  refine j_istore_n C dJ7_fill_53178_1 rfl (by decide) rfl ?_
  refine j_aload_n C dJ7_fill_53178_2 1 rfl rfl ?_
  refine j_alen C dJ7_fill_53178_3 hkq hqN (v := (Int32.ofNat na)) rfl ?_
  refine j_topi (fun v1 => ?_)
  refine j_istore_n C dJ7_fill_53178_4 rfl (by decide) rfl ?_
  refine j_sub C [2, 3, 1, 0] rfl ?_
  exact b_J7_fill_53178_5 C hR qa na hkq hqN FU x1 0 v1 S
-- X4_isFigure
abbrev rm_X4_isFigure : Room := { frames := 0, cells := 0, slots := 0, locals := 0 }
def f_X4_isFigure_17 (s0 : Int32) (S : St) : Option (Int32 × St) :=
    bz s0 (some (s0, S))
set_option maxHeartbeats 1000000 in
theorem b_X4_isFigure_17 {K : Kt} {adr : Nat → Nat} {r : Int32 × St} (C : Cx K cX4_isFigure RX4 1 adr rm_X4_isFigure) (hR : ∀ (pc : Nat) (lv : List (Nat × Value)), (r.1 = 0 ∨ r.1 = 1) → decode cX4_isFigure pc = .ok (.ireturn, 1) → K pc lv [.int r.1] r.2) (s0 : Int32) (S : St) : J K r (f_X4_isFigure_17 s0 S) 17 [] [.int s0] S := by
    unfold f_X4_isFigure_17
    exact j_zretv hR dX4_isFigure_17
def f_X4_isFigure_16  (S : St) : Option (Int32 × St) :=
    f_X4_isFigure_17 0 S
set_option maxHeartbeats 1000000 in
theorem b_X4_isFigure_16 {K : Kt} {adr : Nat → Nat} {r : Int32 × St} (C : Cx K cX4_isFigure RX4 1 adr rm_X4_isFigure) (hR : ∀ (pc : Nat) (lv : List (Nat × Value)), (r.1 = 0 ∨ r.1 = 1) → decode cX4_isFigure pc = .ok (.ireturn, 1) → K pc lv [.int r.1] r.2)  (S : St) : J K r (f_X4_isFigure_16  S) 16 [] [] S := by
    unfold f_X4_isFigure_16
    refine j_iconst C dX4_isFigure_16 (v := 0) rfl ?_
    exact b_X4_isFigure_17 C hR 0 S
def f_X4_isFigure (x0 : Int32) (S : St) : Option (Int32 × St) :=
  if x0 < 48 then (f_X4_isFigure_16 S)
  else (if 57 < x0 then (f_X4_isFigure_16 S)
    else (f_X4_isFigure_17 1 S))
set_option maxHeartbeats 1000000 in
theorem m_X4_isFigure (adr : Nat → Nat) (x0 : Int32) : MtI yX4_isFigure cX4_isFigure 1 (some .boolean) rm_X4_isFigure adr [.int x0] (f_X4_isFigure x0) := by
  refine MtI.ofZ (by decide +kernel) (Nat.le_of_ble_eq_true rfl) (fun K r S C hR => ?_)
  refine j_start (lv' := [(0, .int x0)]) rfl ?_
  unfold f_X4_isFigure
  refine j_iload_n C dX4_isFigure_0 0 rfl rfl ?_
  refine j_bipush C dX4_isFigure_1 (v := 48) rfl ?_
  refine j_icmp_lt C dX4_isFigure_3 (tgt := 16) (by decide) ?_ ?_
  · refine j_sub C [] rfl ?_
    exact b_X4_isFigure_16 C hR S
  · refine j_iload_n C dX4_isFigure_6 0 rfl rfl ?_
    refine j_bipush C dX4_isFigure_7 (v := 57) rfl ?_
    refine j_icmp_gt C dX4_isFigure_9 (tgt := 16) (by decide) ?_ ?_
    · refine j_sub C [] rfl ?_
      exact b_X4_isFigure_16 C hR S
    · refine j_iconst C dX4_isFigure_12 (v := 1) rfl ?_
      refine j_goto C dX4_isFigure_13 (tgt := 17) (by decide) ?_
      refine j_sub C [] rfl ?_
      exact b_X4_isFigure_17 C hR 1 S
-- X4_settingOf
abbrev rm_X4_settingOf : Room := { frames := 0, cells := 0, slots := 0, locals := 0 }
def f_X4_settingOf_2 : Nat → Int32 → Int32 → St → Option (Int32 × St)
  | 0, _, _, _ => none
  | n + 1, x0, x1, S =>
    if 5 ≤ x1 then (some ((-9), S))
    else (ck x1 5 (if (tbLetter x1.toNatClampNeg) = x0 then (some (x1, S))
      else ((f_X4_settingOf_2 n) x0 (x1 + 1) S)))
set_option maxHeartbeats 1000000 in
theorem b_X4_settingOf_2 {K : Kt} {adr : Nat → Nat} {r : Int32 × St} (C : Cx K cX4_settingOf RX4 2 adr rm_X4_settingOf) (hR : ∀ (pc : Nat) (lv : List (Nat × Value)), decode cX4_settingOf pc = .ok (.ireturn, 1) → K pc lv [.int r.1] r.2) : ∀ (n : Nat) (x0 : Int32) (x1 : Int32) (S : St), J K r (f_X4_settingOf_2 n x0 x1 S) 2 [(0, .int x0), (1, .int x1)] [] S := by
  intro n
  induction n with
  | zero => intro x0 x1 S h; cases h
  | succ n ih =>
    intro x0 x1 S
    unfold f_X4_settingOf_2
    refine j_iload_n C dX4_settingOf_2 1 rfl rfl ?_
    refine j_iconst C dX4_settingOf_3 (v := 5) rfl ?_
    refine j_icmp_ge C dX4_settingOf_4 (tgt := 24) (by decide) ?_ ?_
    · refine j_bipush C dX4_settingOf_24 (v := -9) rfl ?_
      exact j_iret hR dX4_settingOf_26
    · refine j_stLetter C dX4_settingOf_7 dX4_settingOf_10 dX4_settingOf_11 (q := 1) rfl fs_X4_115 ?_
      refine j_iload_n C dX4_settingOf_12 0 rfl rfl ?_
      refine j_icmp_ne C dX4_settingOf_13 (tgt := 18) (by decide) ?_ ?_
      · refine j_iinc C dX4_settingOf_18 (v := x1 + 1) 1 rfl rfl (by decide) rfl ?_
        refine j_goto C dX4_settingOf_21 (tgt := 2) (by decide) ?_
        refine j_sub C [1, 0] rfl ?_
        exact ih x0 (x1 + 1) S
      · refine j_iload_n C dX4_settingOf_16 1 rfl rfl ?_
        exact j_iret hR dX4_settingOf_17
def f_X4_settingOf (x0 : Int32) (S : St) : Option (Int32 × St) :=
  f_X4_settingOf_2 FU x0 0 S
set_option maxHeartbeats 1000000 in
theorem m_X4_settingOf (adr : Nat → Nat) (x0 : Int32) : MtI yX4_settingOf cX4_settingOf 2 (some .int) rm_X4_settingOf adr [.int x0] (f_X4_settingOf x0) := by
  refine MtI.of (by decide +kernel) (Nat.le_of_ble_eq_true rfl) (fun K r S C hR => ?_)
  refine j_start (lv' := [(0, .int x0)]) rfl ?_
  unfold f_X4_settingOf
  refine j_iconst C dX4_settingOf_0 (v := 0) rfl ?_
  refine j_istore_n C dX4_settingOf_1 rfl (by decide) rfl ?_
  refine j_sub C [1, 0] rfl ?_
  exact b_X4_settingOf_2 C hR FU x0 0 S
-- X4_kindOf
abbrev rm_X4_kindOf : Room := { frames := 1, cells := 0, slots := 0, locals := 21 }
def f_X4_kindOf_28 (s0 : Int32) (S : St) : Option (Int32 × St) :=
    some (s0, S)
set_option maxHeartbeats 1000000 in
theorem b_X4_kindOf_28 {K : Kt} {adr : Nat → Nat} {r : Int32 × St} (C : Cx K cX4_kindOf RX4 1 adr rm_X4_kindOf) (hR : ∀ (pc : Nat) (lv : List (Nat × Value)), decode cX4_kindOf pc = .ok (.ireturn, 1) → K pc lv [.int r.1] r.2) (s0 : Int32) (S : St) : J K r (f_X4_kindOf_28 s0 S) 28 [] [.int s0] S := by
    unfold f_X4_kindOf_28
    exact j_iret hR dX4_kindOf_28
def f_X4_kindOf_23  (S : St) : Option (Int32 × St) :=
    f_X4_kindOf_28 1 S
set_option maxHeartbeats 1000000 in
theorem b_X4_kindOf_23 {K : Kt} {adr : Nat → Nat} {r : Int32 × St} (C : Cx K cX4_kindOf RX4 1 adr rm_X4_kindOf) (hR : ∀ (pc : Nat) (lv : List (Nat × Value)), decode cX4_kindOf pc = .ok (.ireturn, 1) → K pc lv [.int r.1] r.2)  (S : St) : J K r (f_X4_kindOf_23  S) 23 [] [] S := by
    unfold f_X4_kindOf_23
    refine j_iconst C dX4_kindOf_23 (v := 1) rfl ?_
    refine j_goto C dX4_kindOf_24 (tgt := 28) (by decide) ?_
    exact b_X4_kindOf_28 C hR 1 S
def f_X4_kindOf (x0 : Int32) (S : St) : Option (Int32 × St) :=
  if x0 = 59 then (some (3, S))
  else (if x0 = 99 then (f_X4_kindOf_23 S)
    else (bd (f_X4_settingOf x0 S) fun v2 S1 =>
      if v2 = (-9) then (f_X4_kindOf_28 4 S1)
      else (f_X4_kindOf_23 S1)))
set_option maxHeartbeats 1000000 in
theorem m_X4_kindOf (adr : Nat → Nat) (x0 : Int32) : MtI yX4_kindOf cX4_kindOf 1 (some .int) rm_X4_kindOf adr [.int x0] (f_X4_kindOf x0) := by
  refine MtI.of (by decide +kernel) (Nat.le_of_ble_eq_true rfl) (fun K r S C hR => ?_)
  refine j_start (lv' := [(0, .int x0)]) rfl ?_
  unfold f_X4_kindOf
  refine j_iload_n C dX4_kindOf_0 0 rfl rfl ?_
  refine j_bipush C dX4_kindOf_1 (v := 59) rfl ?_
  refine j_icmp_ne C dX4_kindOf_3 (tgt := 8) (by decide) ?_ ?_
  · refine j_iload_n C dX4_kindOf_8 0 rfl rfl ?_
    refine j_bipush C dX4_kindOf_9 (v := 99) rfl ?_
    refine j_icmp_eq C dX4_kindOf_11 (tgt := 23) (by decide) ?_ ?_
    · refine j_sub C [] rfl ?_
      exact b_X4_kindOf_23 C hR S
    · refine j_iload_n C dX4_kindOf_14 0 rfl rfl ?_
      refine j_csi C dX4_kindOf_15 lk_X4_54 mw_X4_settingOf (m_X4_settingOf adr x0) ⟨rfl, rfl, Nat.le_of_ble_eq_true rfl, Nat.le_of_ble_eq_true rfl⟩ rfl (st := []) (st0 := [.int x0]) rfl (Nat.le_of_ble_eq_true rfl) (fun v2 S1 => ?_)
      refine j_bipush C dX4_kindOf_18 (v := -9) rfl ?_
      refine j_icmp_eq C dX4_kindOf_20 (tgt := 27) (by decide) ?_ ?_
      · refine j_iconst C dX4_kindOf_27 (v := 4) rfl ?_
        refine j_sub C [] rfl ?_
        exact b_X4_kindOf_28 C hR 4 S1
      · refine j_sub C [] rfl ?_
        exact b_X4_kindOf_23 C hR S1
  · refine j_iconst C dX4_kindOf_6 (v := 3) rfl ?_
    exact j_iret hR dX4_kindOf_7
-- X4_scanNumber
abbrev rm_X4_scanNumber : Room := { frames := 1, cells := 0, slots := 0, locals := 20 }
def f_X4_scanNumber_125 (s0 : Int32) (S : St) : Option (St) :=
    lt (upI S 1 6 s0) fun S7 =>
    some S7
set_option maxHeartbeats 1000000 in
theorem b_X4_scanNumber_125 {K : Kt} {adr : Nat → Nat} {r : St} (C : Cx K cX4_scanNumber RX4 2 adr rm_X4_scanNumber) (hR : ∀ (pc : Nat) (lv : List (Nat × Value)), decode cX4_scanNumber pc = .ok (.return_, 1) → K pc lv [] r) (s0 : Int32) (S : St) : J K r (f_X4_scanNumber_125 s0 S) 125 [] [.int s0, .ref (adr 1)] S := by
    unfold f_X4_scanNumber_125
    refine j_puti C dX4_scanNumber_125 fl_X4_44 fi_X4_6 kd_1 (by decide) (Nat.le_of_ble_eq_true rfl) rfl (fun S7 => ?_)
    exact j_vret hR dX4_scanNumber_128
def f_X4_scanNumber_120  (S : St) : Option (St) :=
    f_X4_scanNumber_125 4 S
set_option maxHeartbeats 1000000 in
theorem b_X4_scanNumber_120 {K : Kt} {adr : Nat → Nat} {r : St} (C : Cx K cX4_scanNumber RX4 2 adr rm_X4_scanNumber) (hR : ∀ (pc : Nat) (lv : List (Nat × Value)), decode cX4_scanNumber pc = .ok (.return_, 1) → K pc lv [] r)  (S : St) : J K r (f_X4_scanNumber_120  S) 120 [] [.ref (adr 1)] S := by
    unfold f_X4_scanNumber_120
    refine j_iconst C dX4_scanNumber_120 (v := 4) rfl ?_
    refine j_goto C dX4_scanNumber_121 (tgt := 125) (by decide) ?_
    exact b_X4_scanNumber_125 C hR 4 S
def f_X4_scanNumber_105 (s0 : Int32) (S : St) : Option (St) :=
    if s0 = 0 then (if (S.1 1 7) ≤ 99 then (f_X4_scanNumber_125 2 S)
      else (f_X4_scanNumber_120 S))
    else (f_X4_scanNumber_120 S)
set_option maxHeartbeats 1000000 in
theorem b_X4_scanNumber_105 {K : Kt} {adr : Nat → Nat} {r : St} (C : Cx K cX4_scanNumber RX4 2 adr rm_X4_scanNumber) (hR : ∀ (pc : Nat) (lv : List (Nat × Value)), decode cX4_scanNumber pc = .ok (.return_, 1) → K pc lv [] r) (s0 : Int32) (S : St) : J K r (f_X4_scanNumber_105 s0 S) 105 [(0, .ref (adr 1))] [.int s0] S := by
    unfold f_X4_scanNumber_105
    refine j_istore_n C dX4_scanNumber_105 rfl (by decide) rfl ?_
    refine j_aload_n C dX4_scanNumber_106 1 rfl rfl ?_
    refine j_iload_n C dX4_scanNumber_107 0 rfl rfl ?_
    refine j_if_ne C dX4_scanNumber_108 (tgt := 120) (by decide) ?_ ?_
    · refine j_sub C [] rfl ?_
      exact b_X4_scanNumber_120 C hR S
    · refine j_aload_n C dX4_scanNumber_111 1 rfl rfl ?_
      refine j_geti C dX4_scanNumber_112 fl_X4_47 kd_1 (by decide) (Nat.le_of_ble_eq_true rfl) rfl ?_
      refine j_bipush C dX4_scanNumber_115 (v := 99) rfl ?_
      refine j_icmp_le C dX4_scanNumber_117 (tgt := 124) (by decide) ?_ ?_
      · refine j_iconst C dX4_scanNumber_124 (v := 2) rfl ?_
        refine j_sub C [] rfl ?_
        exact b_X4_scanNumber_125 C hR 2 S
      · refine j_sub C [] rfl ?_
        exact b_X4_scanNumber_120 C hR S
def f_X4_scanNumber_104  (S : St) : Option (St) :=
    f_X4_scanNumber_105 0 S
set_option maxHeartbeats 1000000 in
theorem b_X4_scanNumber_104 {K : Kt} {adr : Nat → Nat} {r : St} (C : Cx K cX4_scanNumber RX4 2 adr rm_X4_scanNumber) (hR : ∀ (pc : Nat) (lv : List (Nat × Value)), decode cX4_scanNumber pc = .ok (.return_, 1) → K pc lv [] r)  (S : St) : J K r (f_X4_scanNumber_104  S) 104 [(0, .ref (adr 1))] [] S := by
    unfold f_X4_scanNumber_104
    refine j_iconst C dX4_scanNumber_104 (v := 0) rfl ?_
    exact b_X4_scanNumber_105 C hR 0 S
def f_X4_scanNumber_73  (S : St) : Option (St) :=
    ck (S.1 1 5) 120 (if (S.1 2 (S.1 1 5).toNatClampNeg) = 48 then (if ((S.1 1 4) - (S.1 1 5)) ≤ 1 then (f_X4_scanNumber_104 S)
      else (f_X4_scanNumber_105 1 S))
    else (f_X4_scanNumber_104 S))
set_option maxHeartbeats 1000000 in
theorem b_X4_scanNumber_73 {K : Kt} {adr : Nat → Nat} {r : St} (C : Cx K cX4_scanNumber RX4 2 adr rm_X4_scanNumber) (hR : ∀ (pc : Nat) (lv : List (Nat × Value)), decode cX4_scanNumber pc = .ok (.return_, 1) → K pc lv [] r)  (S : St) : J K r (f_X4_scanNumber_73  S) 73 [(0, .ref (adr 1))] [] S := by
    unfold f_X4_scanNumber_73
    refine j_aload_n C dX4_scanNumber_73 0 rfl rfl ?_
    refine j_getr C dX4_scanNumber_74 fl_X4_9 kd_1 (by decide) (Nat.le_of_ble_eq_true rfl) rfl ?_
    refine j_aload_n C dX4_scanNumber_77 0 rfl rfl ?_
    refine j_geti C dX4_scanNumber_78 fl_X4_62 kd_1 (by decide) (Nat.le_of_ble_eq_true rfl) rfl ?_
    refine j_iald C dX4_scanNumber_81 kd_2 (Nat.le_of_ble_eq_true rfl) ?_
    refine j_bipush C dX4_scanNumber_82 (v := 48) rfl ?_
    refine j_icmp_ne C dX4_scanNumber_84 (tgt := 104) (by decide) ?_ ?_
    · exact b_X4_scanNumber_104 C hR S
    · refine j_aload_n C dX4_scanNumber_87 0 rfl rfl ?_
      refine j_geti C dX4_scanNumber_88 fl_X4_38 kd_1 (by decide) (Nat.le_of_ble_eq_true rfl) rfl ?_
      refine j_aload_n C dX4_scanNumber_91 0 rfl rfl ?_
      refine j_geti C dX4_scanNumber_92 fl_X4_62 kd_1 (by decide) (Nat.le_of_ble_eq_true rfl) rfl ?_
      refine j_isub C dX4_scanNumber_95 ?_
      refine j_iconst C dX4_scanNumber_96 (v := 1) rfl ?_
      refine j_icmp_le C dX4_scanNumber_97 (tgt := 104) (by decide) ?_ ?_
      · exact b_X4_scanNumber_104 C hR S
      · refine j_iconst C dX4_scanNumber_100 (v := 1) rfl ?_
        refine j_goto C dX4_scanNumber_101 (tgt := 105) (by decide) ?_
        exact b_X4_scanNumber_105 C hR 1 S
def f_X4_scanNumber_5 : Nat → St → Option (St)
  | 0, _ => none
  | n + 1, S =>
    if (S.1 1 1) ≤ (S.1 1 4) then (f_X4_scanNumber_73 S)
    else (ck (S.1 1 4) 120 (bd (f_X4_isFigure (S.1 2 (S.1 1 4).toNatClampNeg) S) fun v3 S2 =>
      if v3 = 0 then (f_X4_scanNumber_73 S2)
      else (lt (if 100 < (S2.1 1 7) then 100 else (S2.1 1 7)) fun v4 =>
        ck (S2.1 1 4) 120 (lt (upI S2 1 7 (((v4 * 10) + (S2.1 2 (S2.1 1 4).toNatClampNeg)) - 48)) fun S5 =>
        lt (upI S5 1 4 ((S5.1 1 4) + 1)) fun S6 =>
        (f_X4_scanNumber_5 n) S6))))
set_option maxHeartbeats 1000000 in
theorem b_X4_scanNumber_5 {K : Kt} {adr : Nat → Nat} {r : St} (C : Cx K cX4_scanNumber RX4 2 adr rm_X4_scanNumber) (hR : ∀ (pc : Nat) (lv : List (Nat × Value)), decode cX4_scanNumber pc = .ok (.return_, 1) → K pc lv [] r) : ∀ (n : Nat)  (S : St), J K r (f_X4_scanNumber_5 n  S) 5 [(0, .ref (adr 1))] [] S := by
  intro n
  induction n with
  | zero => intro  S h; cases h
  | succ n ih =>
    intro  S
    unfold f_X4_scanNumber_5
    refine j_aload_n C dX4_scanNumber_5 0 rfl rfl ?_
    refine j_geti C dX4_scanNumber_6 fl_X4_38 kd_1 (by decide) (Nat.le_of_ble_eq_true rfl) rfl ?_
    refine j_aload_n C dX4_scanNumber_9 0 rfl rfl ?_
    refine j_geti C dX4_scanNumber_10 fl_X4_25 kd_1 (by decide) (Nat.le_of_ble_eq_true rfl) rfl ?_
    refine j_icmp_ge C dX4_scanNumber_13 (tgt := 73) (by decide) ?_ ?_
    · exact b_X4_scanNumber_73 C hR S
    · refine j_aload_n C dX4_scanNumber_16 0 rfl rfl ?_
      refine j_getr C dX4_scanNumber_17 fl_X4_9 kd_1 (by decide) (Nat.le_of_ble_eq_true rfl) rfl ?_
      refine j_aload_n C dX4_scanNumber_20 0 rfl rfl ?_
      refine j_geti C dX4_scanNumber_21 fl_X4_38 kd_1 (by decide) (Nat.le_of_ble_eq_true rfl) rfl ?_
      refine j_iald C dX4_scanNumber_24 kd_2 (Nat.le_of_ble_eq_true rfl) ?_
      refine j_csi C dX4_scanNumber_25 lk_X4_100 mw_X4_isFigure (m_X4_isFigure adr (S.1 2 (S.1 1 4).toNatClampNeg)) ⟨rfl, rfl, Nat.le_of_ble_eq_true rfl, Nat.le_of_ble_eq_true rfl⟩ rfl (st := []) (st0 := [.int (S.1 2 (S.1 1 4).toNatClampNeg)]) rfl (Nat.le_of_ble_eq_true rfl) (fun v3 S2 => ?_)
      refine j_if_eq C dX4_scanNumber_28 (tgt := 73) (by decide) ?_ ?_
      · exact b_X4_scanNumber_73 C hR S2
      · refine j_aload_n C dX4_scanNumber_31 0 rfl rfl ?_
        refine j_aload_n C dX4_scanNumber_32 0 rfl rfl ?_
        refine j_geti C dX4_scanNumber_33 fl_X4_47 kd_1 (by decide) (Nat.le_of_ble_eq_true rfl) rfl ?_
        refine j_bipush C dX4_scanNumber_36 (v := 100) rfl ?_
        refine j_mmin C dX4_scanNumber_38 lm_X4_109 ms_min_1 ms_math ms_min_3 ⟨Nat.le_of_ble_eq_true rfl, Nat.le_of_ble_eq_true rfl⟩ ?_
        refine j_topi (fun v4 => ?_)
        refine j_bipush C dX4_scanNumber_41 (v := 10) rfl ?_
        refine j_imul C dX4_scanNumber_43 ?_
        refine j_aload_n C dX4_scanNumber_44 0 rfl rfl ?_
        refine j_getr C dX4_scanNumber_45 fl_X4_9 kd_1 (by decide) (Nat.le_of_ble_eq_true rfl) rfl ?_
        refine j_aload_n C dX4_scanNumber_48 0 rfl rfl ?_
        refine j_geti C dX4_scanNumber_49 fl_X4_38 kd_1 (by decide) (Nat.le_of_ble_eq_true rfl) rfl ?_
        refine j_iald C dX4_scanNumber_52 kd_2 (Nat.le_of_ble_eq_true rfl) ?_
        refine j_iadd C dX4_scanNumber_53 ?_
        refine j_bipush C dX4_scanNumber_54 (v := 48) rfl ?_
        refine j_isub C dX4_scanNumber_56 ?_
        refine j_puti C dX4_scanNumber_57 fl_X4_47 fi_X4_7 kd_1 (by decide) (Nat.le_of_ble_eq_true rfl) rfl (fun S5 => ?_)
        refine j_aload_n C dX4_scanNumber_60 0 rfl rfl ?_
        refine j_dup C dX4_scanNumber_61 rfl ?_
        refine j_geti C dX4_scanNumber_62 fl_X4_38 kd_1 (by decide) (Nat.le_of_ble_eq_true rfl) rfl ?_
        refine j_iconst C dX4_scanNumber_65 (v := 1) rfl ?_
        refine j_iadd C dX4_scanNumber_66 ?_
        refine j_puti C dX4_scanNumber_67 fl_X4_38 fi_X4_4 kd_1 (by decide) (Nat.le_of_ble_eq_true rfl) rfl (fun S6 => ?_)
        refine j_goto C dX4_scanNumber_70 (tgt := 5) (by decide) ?_
        exact ih S6
def f_X4_scanNumber  (S : St) : Option (St) :=
  lt (upI S 1 7 0) fun S1 =>
  f_X4_scanNumber_5 FU S1
set_option maxHeartbeats 1000000 in
theorem m_X4_scanNumber (adr : Nat → Nat)  : MtV yX4_scanNumber cX4_scanNumber 2 none rm_X4_scanNumber adr [.ref (adr 1)] (f_X4_scanNumber ) := by
  refine MtV.of (by decide +kernel) (Nat.le_of_ble_eq_true rfl) (fun K r S C hR => ?_)
  refine j_start (lv' := [(0, .ref (adr 1))]) rfl ?_
  unfold f_X4_scanNumber
  refine j_aload_n C dX4_scanNumber_0 0 rfl rfl ?_
  refine j_iconst C dX4_scanNumber_1 (v := 0) rfl ?_
  refine j_puti C dX4_scanNumber_2 fl_X4_47 fi_X4_7 kd_1 (by decide) (Nat.le_of_ble_eq_true rfl) rfl (fun S1 => ?_)
  exact b_X4_scanNumber_5 C hR FU S1
-- X4_nextToken
abbrev rm_X4_nextToken : Room := { frames := 2, cells := 0, slots := 0, locals := 41 }
def f_X4_nextToken_38  (S : St) : Option (St) :=
    lt (upI S 1 5 (S.1 1 4)) fun S2 =>
    if (S2.1 1 4) < (S2.1 1 1) then (ck (S2.1 1 4) 120 (bd (f_X4_isFigure (S2.1 2 (S2.1 1 4).toNatClampNeg) S2) fun v4 S3 =>
      if v4 = 0 then (ck (S3.1 1 4) 120 (lt (upI S3 1 7 (S3.1 2 (S3.1 1 4).toNatClampNeg)) fun S5 =>
        bd (f_X4_kindOf (S5.1 1 7) S5) fun v7 S6 =>
        lt (upI S6 1 6 v7) fun S8 =>
        lt (upI S8 1 4 ((S8.1 1 4) + 1)) fun S9 =>
        some S9))
      else (bdV (f_X4_scanNumber S3) fun S10 =>
        some S10)))
    else (lt (upI S2 1 6 0) fun S11 =>
      some S11)
set_option maxHeartbeats 1000000 in
theorem b_X4_nextToken_38 {K : Kt} {adr : Nat → Nat} {r : St} (C : Cx K cX4_nextToken RX4 1 adr rm_X4_nextToken) (hR : ∀ (pc : Nat) (lv : List (Nat × Value)), decode cX4_nextToken pc = .ok (.return_, 1) → K pc lv [] r)  (S : St) : J K r (f_X4_nextToken_38  S) 38 [(0, .ref (adr 1))] [] S := by
    unfold f_X4_nextToken_38
    refine j_aload_n C dX4_nextToken_38 0 rfl rfl ?_
    refine j_aload_n C dX4_nextToken_39 0 rfl rfl ?_
    refine j_geti C dX4_nextToken_40 fl_X4_38 kd_1 (by decide) (Nat.le_of_ble_eq_true rfl) rfl ?_
    refine j_puti C dX4_nextToken_43 fl_X4_62 fi_X4_5 kd_1 (by decide) (Nat.le_of_ble_eq_true rfl) rfl (fun S2 => ?_)
    refine j_aload_n C dX4_nextToken_46 0 rfl rfl ?_
    refine j_geti C dX4_nextToken_47 fl_X4_38 kd_1 (by decide) (Nat.le_of_ble_eq_true rfl) rfl ?_
    refine j_aload_n C dX4_nextToken_50 0 rfl rfl ?_
    refine j_geti C dX4_nextToken_51 fl_X4_25 kd_1 (by decide) (Nat.le_of_ble_eq_true rfl) rfl ?_
    refine j_icmp_lt C dX4_nextToken_54 (tgt := 63) (by decide) ?_ ?_
    · refine j_aload_n C dX4_nextToken_63 0 rfl rfl ?_
      refine j_getr C dX4_nextToken_64 fl_X4_9 kd_1 (by decide) (Nat.le_of_ble_eq_true rfl) rfl ?_
      refine j_aload_n C dX4_nextToken_67 0 rfl rfl ?_
      refine j_geti C dX4_nextToken_68 fl_X4_38 kd_1 (by decide) (Nat.le_of_ble_eq_true rfl) rfl ?_
      refine j_iald C dX4_nextToken_71 kd_2 (Nat.le_of_ble_eq_true rfl) ?_
      refine j_csi C dX4_nextToken_72 lk_X4_100 mw_X4_isFigure (m_X4_isFigure adr (S2.1 2 (S2.1 1 4).toNatClampNeg)) ⟨rfl, rfl, Nat.le_of_ble_eq_true rfl, Nat.le_of_ble_eq_true rfl⟩ rfl (st := []) (st0 := [.int (S2.1 2 (S2.1 1 4).toNatClampNeg)]) rfl (Nat.le_of_ble_eq_true rfl) (fun v4 S3 => ?_)
      refine j_if_eq C dX4_nextToken_75 (tgt := 83) (by decide) ?_ ?_
      · refine j_aload_n C dX4_nextToken_83 0 rfl rfl ?_
        refine j_aload_n C dX4_nextToken_84 0 rfl rfl ?_
        refine j_getr C dX4_nextToken_85 fl_X4_9 kd_1 (by decide) (Nat.le_of_ble_eq_true rfl) rfl ?_
        refine j_aload_n C dX4_nextToken_88 0 rfl rfl ?_
        refine j_geti C dX4_nextToken_89 fl_X4_38 kd_1 (by decide) (Nat.le_of_ble_eq_true rfl) rfl ?_
        refine j_iald C dX4_nextToken_92 kd_2 (Nat.le_of_ble_eq_true rfl) ?_
        refine j_puti C dX4_nextToken_93 fl_X4_47 fi_X4_7 kd_1 (by decide) (Nat.le_of_ble_eq_true rfl) rfl (fun S5 => ?_)
        refine j_aload_n C dX4_nextToken_96 0 rfl rfl ?_
        refine j_aload_n C dX4_nextToken_97 0 rfl rfl ?_
        refine j_geti C dX4_nextToken_98 fl_X4_47 kd_1 (by decide) (Nat.le_of_ble_eq_true rfl) rfl ?_
        refine j_csi C dX4_nextToken_101 lk_X4_106 mw_X4_kindOf (m_X4_kindOf adr (S5.1 1 7)) ⟨rfl, rfl, Nat.le_of_ble_eq_true rfl, Nat.le_of_ble_eq_true rfl⟩ rfl (st := [.ref (adr 1)]) (st0 := [.int (S5.1 1 7), .ref (adr 1)]) rfl (Nat.le_of_ble_eq_true rfl) (fun v7 S6 => ?_)
        refine j_puti C dX4_nextToken_104 fl_X4_44 fi_X4_6 kd_1 (by decide) (Nat.le_of_ble_eq_true rfl) rfl (fun S8 => ?_)
        refine j_aload_n C dX4_nextToken_107 0 rfl rfl ?_
        refine j_dup C dX4_nextToken_108 rfl ?_
        refine j_geti C dX4_nextToken_109 fl_X4_38 kd_1 (by decide) (Nat.le_of_ble_eq_true rfl) rfl ?_
        refine j_iconst C dX4_nextToken_112 (v := 1) rfl ?_
        refine j_iadd C dX4_nextToken_113 ?_
        refine j_puti C dX4_nextToken_114 fl_X4_38 fi_X4_4 kd_1 (by decide) (Nat.le_of_ble_eq_true rfl) rfl (fun S9 => ?_)
        exact j_vret hR dX4_nextToken_117
      · refine j_aload_n C dX4_nextToken_78 0 rfl rfl ?_
        refine j_cvv C dX4_nextToken_79 lk_X4_103 mw_X4_scanNumber (m_X4_scanNumber adr ) ⟨rfl, rfl, Nat.le_of_ble_eq_true rfl, Nat.le_of_ble_eq_true rfl⟩ kd_1 (by decide) (Nat.le_of_ble_eq_true rfl) rfl rfl (st := []) (st0 := [.ref (adr 1)]) rfl (Nat.le_of_ble_eq_true rfl) (fun S10 => ?_)
        exact j_vret hR dX4_nextToken_82
    · refine j_aload_n C dX4_nextToken_57 0 rfl rfl ?_
      refine j_iconst C dX4_nextToken_58 (v := 0) rfl ?_
      refine j_puti C dX4_nextToken_59 fl_X4_44 fi_X4_6 kd_1 (by decide) (Nat.le_of_ble_eq_true rfl) rfl (fun S11 => ?_)
      exact j_vret hR dX4_nextToken_62
def f_X4_nextToken_0 : Nat → St → Option (St)
  | 0, _ => none
  | n + 1, S =>
    if (S.1 1 1) ≤ (S.1 1 4) then (f_X4_nextToken_38 S)
    else (ck (S.1 1 4) 120 (if (S.1 2 (S.1 1 4).toNatClampNeg) = 32 then (lt (upI S 1 4 ((S.1 1 4) + 1)) fun S1 =>
        (f_X4_nextToken_0 n) S1)
      else (f_X4_nextToken_38 S)))
set_option maxHeartbeats 1000000 in
theorem b_X4_nextToken_0 {K : Kt} {adr : Nat → Nat} {r : St} (C : Cx K cX4_nextToken RX4 1 adr rm_X4_nextToken) (hR : ∀ (pc : Nat) (lv : List (Nat × Value)), decode cX4_nextToken pc = .ok (.return_, 1) → K pc lv [] r) : ∀ (n : Nat)  (S : St), J K r (f_X4_nextToken_0 n  S) 0 [(0, .ref (adr 1))] [] S := by
  intro n
  induction n with
  | zero => intro  S h; cases h
  | succ n ih =>
    intro  S
    unfold f_X4_nextToken_0
    refine j_aload_n C dX4_nextToken_0 0 rfl rfl ?_
    refine j_geti C dX4_nextToken_1 fl_X4_38 kd_1 (by decide) (Nat.le_of_ble_eq_true rfl) rfl ?_
    refine j_aload_n C dX4_nextToken_4 0 rfl rfl ?_
    refine j_geti C dX4_nextToken_5 fl_X4_25 kd_1 (by decide) (Nat.le_of_ble_eq_true rfl) rfl ?_
    refine j_icmp_ge C dX4_nextToken_8 (tgt := 38) (by decide) ?_ ?_
    · exact b_X4_nextToken_38 C hR S
    · refine j_aload_n C dX4_nextToken_11 0 rfl rfl ?_
      refine j_getr C dX4_nextToken_12 fl_X4_9 kd_1 (by decide) (Nat.le_of_ble_eq_true rfl) rfl ?_
      refine j_aload_n C dX4_nextToken_15 0 rfl rfl ?_
      refine j_geti C dX4_nextToken_16 fl_X4_38 kd_1 (by decide) (Nat.le_of_ble_eq_true rfl) rfl ?_
      refine j_iald C dX4_nextToken_19 kd_2 (Nat.le_of_ble_eq_true rfl) ?_
      refine j_bipush C dX4_nextToken_20 (v := 32) rfl ?_
      refine j_icmp_ne C dX4_nextToken_22 (tgt := 38) (by decide) ?_ ?_
      · exact b_X4_nextToken_38 C hR S
      · refine j_aload_n C dX4_nextToken_25 0 rfl rfl ?_
        refine j_dup C dX4_nextToken_26 rfl ?_
        refine j_geti C dX4_nextToken_27 fl_X4_38 kd_1 (by decide) (Nat.le_of_ble_eq_true rfl) rfl ?_
        refine j_iconst C dX4_nextToken_30 (v := 1) rfl ?_
        refine j_iadd C dX4_nextToken_31 ?_
        refine j_puti C dX4_nextToken_32 fl_X4_38 fi_X4_4 kd_1 (by decide) (Nat.le_of_ble_eq_true rfl) rfl (fun S1 => ?_)
        refine j_goto C dX4_nextToken_35 (tgt := 0) (by decide) ?_
        exact ih S1
def f_X4_nextToken  (S : St) : Option (St) :=
  f_X4_nextToken_0 FU S
set_option maxHeartbeats 1000000 in
theorem m_X4_nextToken (adr : Nat → Nat)  : MtV yX4_nextToken cX4_nextToken 1 none rm_X4_nextToken adr [.ref (adr 1)] (f_X4_nextToken ) := by
  refine MtV.of (by decide +kernel) (Nat.le_of_ble_eq_true rfl) (fun K r S C hR => ?_)
  refine j_start (lv' := [(0, .ref (adr 1))]) rfl ?_
  unfold f_X4_nextToken
  exact b_X4_nextToken_0 C hR FU S
-- X4_readNumber
abbrev rm_X4_readNumber : Room := { frames := 3, cells := 0, slots := 0, locals := 61 }
def f_X4_readNumber_29 (s0 : Int32) (S : St) : Option (Int32 × St) :=
    bz s0 (some (s0, S))
set_option maxHeartbeats 1000000 in
theorem b_X4_readNumber_29 {K : Kt} {adr : Nat → Nat} {r : Int32 × St} (C : Cx K cX4_readNumber RX4 3 adr rm_X4_readNumber) (hR : ∀ (pc : Nat) (lv : List (Nat × Value)), (r.1 = 0 ∨ r.1 = 1) → decode cX4_readNumber pc = .ok (.ireturn, 1) → K pc lv [.int r.1] r.2) (s0 : Int32) (S : St) : J K r (f_X4_readNumber_29 s0 S) 29 [] [.int s0] S := by
    unfold f_X4_readNumber_29
    exact j_zretv hR dX4_readNumber_29
def f_X4_readNumber_28  (S : St) : Option (Int32 × St) :=
    f_X4_readNumber_29 0 S
set_option maxHeartbeats 1000000 in
theorem b_X4_readNumber_28 {K : Kt} {adr : Nat → Nat} {r : Int32 × St} (C : Cx K cX4_readNumber RX4 3 adr rm_X4_readNumber) (hR : ∀ (pc : Nat) (lv : List (Nat × Value)), (r.1 = 0 ∨ r.1 = 1) → decode cX4_readNumber pc = .ok (.ireturn, 1) → K pc lv [.int r.1] r.2)  (S : St) : J K r (f_X4_readNumber_28  S) 28 [] [] S := by
    unfold f_X4_readNumber_28
    refine j_iconst C dX4_readNumber_28 (v := 0) rfl ?_
    exact b_X4_readNumber_29 C hR 0 S
def f_X4_readNumber (x1 : Int32) (x2 : Int32) (S : St) : Option (Int32 × St) :=
  bdV (f_X4_nextToken S) fun S1 =>
  if (S1.1 1 6) = 2 then (bd (f_X8_within (S1.1 1 7) x1 x2 S1) fun v3 S2 =>
    if v3 = 0 then (f_X4_readNumber_28 S2)
    else (f_X4_readNumber_29 1 S2))
  else (f_X4_readNumber_28 S1)
set_option maxHeartbeats 1000000 in
theorem m_X4_readNumber (adr : Nat → Nat) (x1 : Int32) (x2 : Int32) : MtI yX4_readNumber cX4_readNumber 3 (some .boolean) rm_X4_readNumber adr [.ref (adr 1), .int x1, .int x2] (f_X4_readNumber x1 x2) := by
  refine MtI.ofZ (by decide +kernel) (Nat.le_of_ble_eq_true rfl) (fun K r S C hR => ?_)
  refine j_start (lv' := [(0, .ref (adr 1)), (1, .int x1), (2, .int x2)]) rfl ?_
  unfold f_X4_readNumber
  refine j_aload_n C dX4_readNumber_0 0 rfl rfl ?_
  refine j_cvv C dX4_readNumber_1 lk_X4_41 mw_X4_nextToken (m_X4_nextToken adr ) ⟨rfl, rfl, Nat.le_of_ble_eq_true rfl, Nat.le_of_ble_eq_true rfl⟩ kd_1 (by decide) (Nat.le_of_ble_eq_true rfl) rfl rfl (st := []) (st0 := [.ref (adr 1)]) rfl (Nat.le_of_ble_eq_true rfl) (fun S1 => ?_)
  refine j_aload_n C dX4_readNumber_4 0 rfl rfl ?_
  refine j_geti C dX4_readNumber_5 fl_X4_44 kd_1 (by decide) (Nat.le_of_ble_eq_true rfl) rfl ?_
  refine j_iconst C dX4_readNumber_8 (v := 2) rfl ?_
  refine j_icmp_ne C dX4_readNumber_9 (tgt := 28) (by decide) ?_ ?_
  · refine j_sub C [] rfl ?_
    exact b_X4_readNumber_28 C hR S1
  · refine j_aload_n C dX4_readNumber_12 0 rfl rfl ?_
    refine j_geti C dX4_readNumber_13 fl_X4_47 kd_1 (by decide) (Nat.le_of_ble_eq_true rfl) rfl ?_
    refine j_iload_n C dX4_readNumber_16 1 rfl rfl ?_
    refine j_iload_n C dX4_readNumber_17 2 rfl rfl ?_
    refine j_csi C dX4_readNumber_18 lk_X4_96 mw_X8_within (m_X8_within adr (S1.1 1 7) x1 x2) ⟨rfl, rfl, Nat.le_of_ble_eq_true rfl, Nat.le_of_ble_eq_true rfl⟩ rfl (st := []) (st0 := [.int x2, .int x1, .int (S1.1 1 7)]) rfl (Nat.le_of_ble_eq_true rfl) (fun v3 S2 => ?_)
    refine j_if_eq C dX4_readNumber_21 (tgt := 28) (by decide) ?_ ?_
    · refine j_sub C [] rfl ?_
      exact b_X4_readNumber_28 C hR S2
    · refine j_iconst C dX4_readNumber_24 (v := 1) rfl ?_
      refine j_goto C dX4_readNumber_25 (tgt := 29) (by decide) ?_
      refine j_sub C [] rfl ?_
      exact b_X4_readNumber_29 C hR 1 S2
-- X4_readStop
abbrev rm_X4_readStop : Room := { frames := 3, cells := 0, slots := 0, locals := 61 }
def f_X4_readStop_17 (s0 : Int32) (S : St) : Option (Int32 × St) :=
    bz s0 (some (s0, S))
set_option maxHeartbeats 1000000 in
theorem b_X4_readStop_17 {K : Kt} {adr : Nat → Nat} {r : Int32 × St} (C : Cx K cX4_readStop RX4 1 adr rm_X4_readStop) (hR : ∀ (pc : Nat) (lv : List (Nat × Value)), (r.1 = 0 ∨ r.1 = 1) → decode cX4_readStop pc = .ok (.ireturn, 1) → K pc lv [.int r.1] r.2) (s0 : Int32) (S : St) : J K r (f_X4_readStop_17 s0 S) 17 [] [.int s0] S := by
    unfold f_X4_readStop_17
    exact j_zretv hR dX4_readStop_17
def f_X4_readStop  (S : St) : Option (Int32 × St) :=
  bdV (f_X4_nextToken S) fun S1 =>
  if (S1.1 1 6) = 3 then (f_X4_readStop_17 1 S1)
  else (f_X4_readStop_17 0 S1)
set_option maxHeartbeats 1000000 in
theorem m_X4_readStop (adr : Nat → Nat)  : MtI yX4_readStop cX4_readStop 1 (some .boolean) rm_X4_readStop adr [.ref (adr 1)] (f_X4_readStop ) := by
  refine MtI.ofZ (by decide +kernel) (Nat.le_of_ble_eq_true rfl) (fun K r S C hR => ?_)
  refine j_start (lv' := [(0, .ref (adr 1))]) rfl ?_
  unfold f_X4_readStop
  refine j_aload_n C dX4_readStop_0 0 rfl rfl ?_
  refine j_cvv C dX4_readStop_1 lk_X4_41 mw_X4_nextToken (m_X4_nextToken adr ) ⟨rfl, rfl, Nat.le_of_ble_eq_true rfl, Nat.le_of_ble_eq_true rfl⟩ kd_1 (by decide) (Nat.le_of_ble_eq_true rfl) rfl rfl (st := []) (st0 := [.ref (adr 1)]) rfl (Nat.le_of_ble_eq_true rfl) (fun S1 => ?_)
  refine j_aload_n C dX4_readStop_4 0 rfl rfl ?_
  refine j_geti C dX4_readStop_5 fl_X4_44 kd_1 (by decide) (Nat.le_of_ble_eq_true rfl) rfl ?_
  refine j_iconst C dX4_readStop_8 (v := 3) rfl ?_
  refine j_icmp_ne C dX4_readStop_9 (tgt := 16) (by decide) ?_ ?_
  · refine j_iconst C dX4_readStop_16 (v := 0) rfl ?_
    refine j_sub C [] rfl ?_
    exact b_X4_readStop_17 C hR 0 S1
  · refine j_iconst C dX4_readStop_12 (v := 1) rfl ?_
    refine j_goto C dX4_readStop_13 (tgt := 17) (by decide) ?_
    refine j_sub C [] rfl ?_
    exact b_X4_readStop_17 C hR 1 S1
