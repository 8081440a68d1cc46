-- X9_call
abbrev rm_X9_call : Room := { frames := 2, cells := 0, slots := 0, locals := 46 }
def f_X9_call_20  (S : St) : Option (Int32 × St) :=
    some ((-1000000), S)
set_option maxHeartbeats 1000000 in
theorem b_X9_call_20 {K : Kt} {adr : Nat → Nat} {r : Int32 × St} (C : Cx K cX9_call RX9 3 adr rm_X9_call) (hR : ∀ (pc : Nat) (lv : List (Nat × Value)), decode cX9_call pc = .ok (.ireturn, 1) → K pc lv [.int r.1] r.2)  (S : St) : J K r (f_X9_call_20  S) 20 [] [] S := by
    unfold f_X9_call_20
    refine j_ldc C dX9_call_20 kc_X9_234 ?_
    exact j_iret hR dX9_call_22
def f_X9_call (x1 : Int32) (x2 : Int32) (S : St) : Option (Int32 × St) :=
  bd (f_X9_isCall x1 S) fun v2 S1 =>
  if v2 = 0 then (f_X9_call_20 S1)
  else (bd (f_X9_in x2.toInt64 0 6 S1) fun v4 S3 =>
    if v4 = 0 then (f_X9_call_20 S3)
    else (sw x2 0 5 (bd (f_X9_get x1 8 S3) fun v6 S5 =>
        some (v6, S5)) fun i => match i with
        | 0 => bd (f_X9_get x1 1 S3) fun v8 S7 =>
          some (v8, S7)
        | 1 => bd (f_X9_get x1 2 S3) fun v10 S9 =>
          some (v10, S9)
        | 2 => bd (f_X9_get x1 4 S3) fun v12 S11 =>
          some (v12, S11)
        | 3 => bd (f_X9_get x1 5 S3) fun v14 S13 =>
          some (v14, S13)
        | 4 => bd (f_X9_get x1 6 S3) fun v16 S15 =>
          some (v16, S15)
        | 5 => bd (f_X9_get x1 7 S3) fun v18 S17 =>
          some (v18, S17)
        | _ => none))
set_option maxHeartbeats 1000000 in
theorem m_X9_call (adr : Nat → Nat) (x1 : Int32) (x2 : Int32) : MtI yX9_call cX9_call 3 (some .int) rm_X9_call adr [.ref (adr 27), .int x1, .int x2] (f_X9_call x1 x2) := by
  refine MtI.of (by decide +kernel) (Nat.le_of_ble_eq_true rfl) (fun K r S C hR => ?_)
  refine j_start (lv' := [(0, .ref (adr 27)), (1, .int x1), (2, .int x2)]) rfl ?_
  unfold f_X9_call
  refine j_aload_n C dX9_call_0 0 rfl rfl ?_
  refine j_iload_n C dX9_call_1 1 rfl rfl ?_
  refine j_cvi C dX9_call_2 lk_X9_208 mw_X9_isCall (m_X9_isCall adr x1) ⟨rfl, rfl, Nat.le_of_ble_eq_true rfl, Nat.le_of_ble_eq_true rfl⟩ kd_27 (by decide) (Nat.le_of_ble_eq_true rfl) rfl rfl (st := []) (st0 := [.int x1, .ref (adr 27)]) rfl (Nat.le_of_ble_eq_true rfl) (fun v2 S1 => ?_)
  refine j_if_eq C dX9_call_5 (tgt := 20) (by decide) ?_ ?_
  · refine j_sub C [] rfl ?_
    exact b_X9_call_20 C hR S1
  · refine j_iload_n C dX9_call_8 2 rfl rfl ?_
    refine j_i2l C dX9_call_9 ?_
    refine j_lconst C dX9_call_10 (v := 0) rfl ?_
    refine j_ldc2 C dX9_call_11 kc_X9_232 ?_
    refine j_csi C dX9_call_14 lk_X9_66 mw_X9_in (m_X9_in adr x2.toInt64 0 6) ⟨rfl, rfl, Nat.le_of_ble_eq_true rfl, Nat.le_of_ble_eq_true rfl⟩ rfl (st := []) (st0 := [.long 6, .long 0, .long x2.toInt64]) rfl (Nat.le_of_ble_eq_true rfl) (fun v4 S3 => ?_)
    refine j_if_ne C dX9_call_17 (tgt := 23) (by decide) ?_ ?_
    · refine j_iload_n C dX9_call_23 2 rfl rfl ?_
      refine j_table C dX9_call_24 (tgt := 108) (by decide) ?_ ?_
      · refine j_aload_n C dX9_call_108 0 rfl rfl ?_
        refine j_iload_n C dX9_call_109 1 rfl rfl ?_
        refine j_bipush C dX9_call_110 (v := 8) rfl ?_
        refine j_cvi C dX9_call_112 lk_X9_141 mw_X9_get (m_X9_get adr x1 8) ⟨rfl, rfl, Nat.le_of_ble_eq_true rfl, Nat.le_of_ble_eq_true rfl⟩ kd_27 (by decide) (Nat.le_of_ble_eq_true rfl) rfl rfl (st := []) (st0 := [.int 8, .int x1, .ref (adr 27)]) rfl (Nat.le_of_ble_eq_true rfl) (fun v6 S5 => ?_)
        exact j_iret hR dX9_call_115
      · intro i hi
        exact match i, hi with
        | 0, _ => ⟨_, 64, rfl, by decide, by
          refine j_aload_n C dX9_call_64 0 rfl rfl ?_
          refine j_iload_n C dX9_call_65 1 rfl rfl ?_
          refine j_iconst C dX9_call_66 (v := 1) rfl ?_
          refine j_cvi C dX9_call_67 lk_X9_141 mw_X9_get (m_X9_get adr x1 1) ⟨rfl, rfl, Nat.le_of_ble_eq_true rfl, Nat.le_of_ble_eq_true rfl⟩ kd_27 (by decide) (Nat.le_of_ble_eq_true rfl) rfl rfl (st := []) (st0 := [.int 1, .int x1, .ref (adr 27)]) rfl (Nat.le_of_ble_eq_true rfl) (fun v8 S7 => ?_)
          exact j_iret hR dX9_call_70⟩
        | 1, _ => ⟨_, 71, rfl, by decide, by
          refine j_aload_n C dX9_call_71 0 rfl rfl ?_
          refine j_iload_n C dX9_call_72 1 rfl rfl ?_
          refine j_iconst C dX9_call_73 (v := 2) rfl ?_
          refine j_cvi C dX9_call_74 lk_X9_141 mw_X9_get (m_X9_get adr x1 2) ⟨rfl, rfl, Nat.le_of_ble_eq_true rfl, Nat.le_of_ble_eq_true rfl⟩ kd_27 (by decide) (Nat.le_of_ble_eq_true rfl) rfl rfl (st := []) (st0 := [.int 2, .int x1, .ref (adr 27)]) rfl (Nat.le_of_ble_eq_true rfl) (fun v10 S9 => ?_)
          exact j_iret hR dX9_call_77⟩
        | 2, _ => ⟨_, 78, rfl, by decide, by
          refine j_aload_n C dX9_call_78 0 rfl rfl ?_
          refine j_iload_n C dX9_call_79 1 rfl rfl ?_
          refine j_iconst C dX9_call_80 (v := 4) rfl ?_
          refine j_cvi C dX9_call_81 lk_X9_141 mw_X9_get (m_X9_get adr x1 4) ⟨rfl, rfl, Nat.le_of_ble_eq_true rfl, Nat.le_of_ble_eq_true rfl⟩ kd_27 (by decide) (Nat.le_of_ble_eq_true rfl) rfl rfl (st := []) (st0 := [.int 4, .int x1, .ref (adr 27)]) rfl (Nat.le_of_ble_eq_true rfl) (fun v12 S11 => ?_)
          exact j_iret hR dX9_call_84⟩
        | 3, _ => ⟨_, 85, rfl, by decide, by
          refine j_aload_n C dX9_call_85 0 rfl rfl ?_
          refine j_iload_n C dX9_call_86 1 rfl rfl ?_
          refine j_iconst C dX9_call_87 (v := 5) rfl ?_
          refine j_cvi C dX9_call_88 lk_X9_141 mw_X9_get (m_X9_get adr x1 5) ⟨rfl, rfl, Nat.le_of_ble_eq_true rfl, Nat.le_of_ble_eq_true rfl⟩ kd_27 (by decide) (Nat.le_of_ble_eq_true rfl) rfl rfl (st := []) (st0 := [.int 5, .int x1, .ref (adr 27)]) rfl (Nat.le_of_ble_eq_true rfl) (fun v14 S13 => ?_)
          exact j_iret hR dX9_call_91⟩
        | 4, _ => ⟨_, 92, rfl, by decide, by
          refine j_aload_n C dX9_call_92 0 rfl rfl ?_
          refine j_iload_n C dX9_call_93 1 rfl rfl ?_
          refine j_bipush C dX9_call_94 (v := 6) rfl ?_
          refine j_cvi C dX9_call_96 lk_X9_141 mw_X9_get (m_X9_get adr x1 6) ⟨rfl, rfl, Nat.le_of_ble_eq_true rfl, Nat.le_of_ble_eq_true rfl⟩ kd_27 (by decide) (Nat.le_of_ble_eq_true rfl) rfl rfl (st := []) (st0 := [.int 6, .int x1, .ref (adr 27)]) rfl (Nat.le_of_ble_eq_true rfl) (fun v16 S15 => ?_)
          exact j_iret hR dX9_call_99⟩
        | 5, _ => ⟨_, 100, rfl, by decide, by
          refine j_aload_n C dX9_call_100 0 rfl rfl ?_
          refine j_iload_n C dX9_call_101 1 rfl rfl ?_
          refine j_bipush C dX9_call_102 (v := 7) rfl ?_
          refine j_cvi C dX9_call_104 lk_X9_141 mw_X9_get (m_X9_get adr x1 7) ⟨rfl, rfl, Nat.le_of_ble_eq_true rfl, Nat.le_of_ble_eq_true rfl⟩ kd_27 (by decide) (Nat.le_of_ble_eq_true rfl) rfl rfl (st := []) (st0 := [.int 7, .int x1, .ref (adr 27)]) rfl (Nat.le_of_ble_eq_true rfl) (fun v18 S17 => ?_)
          exact j_iret hR dX9_call_107⟩
        | i + 6, hi => absurd hi (by omega)
    · refine j_sub C [] rfl ?_
      exact b_X9_call_20 C hR S3
-- X9_level
abbrev rm_X9_level : Room := { frames := 2, cells := 0, slots := 0, locals := 46 }
def f_X9_level_41 (x2 : Int32) (s0 : Int32) (s1 : Int32) (S : St) : Option (Int32 × St) :=
    bd (f_X9_get s1 (s0 + x2) S) fun v8 S7 =>
    some (v8, S7)
set_option maxHeartbeats 1000000 in
theorem b_X9_level_41 {K : Kt} {adr : Nat → Nat} {r : Int32 × St} (C : Cx K cX9_level RX9 4 adr rm_X9_level) (hR : ∀ (pc : Nat) (lv : List (Nat × Value)), decode cX9_level pc = .ok (.ireturn, 1) → K pc lv [.int r.1] r.2) (x2 : Int32) (s0 : Int32) (s1 : Int32) (S : St) : J K r (f_X9_level_41 x2 s0 s1 S) 41 [(2, .int x2)] [.int s0, .int s1, .ref (adr 27)] S := by
    unfold f_X9_level_41
    refine j_iload_n C dX9_level_41 0 rfl rfl ?_
    refine j_iadd C dX9_level_42 ?_
    refine j_cvi C dX9_level_43 lk_X9_141 mw_X9_get (m_X9_get adr s1 (s0 + x2)) ⟨rfl, rfl, Nat.le_of_ble_eq_true rfl, Nat.le_of_ble_eq_true rfl⟩ kd_27 (by decide) (Nat.le_of_ble_eq_true rfl) rfl rfl (st := []) (st0 := [.int (s0 + x2), .int s1, .ref (adr 27)]) rfl (Nat.le_of_ble_eq_true rfl) (fun v8 S7 => ?_)
    exact j_iret hR dX9_level_46
def f_X9_level_26  (S : St) : Option (Int32 × St) :=
    some ((-1), S)
set_option maxHeartbeats 1000000 in
theorem b_X9_level_26 {K : Kt} {adr : Nat → Nat} {r : Int32 × St} (C : Cx K cX9_level RX9 4 adr rm_X9_level) (hR : ∀ (pc : Nat) (lv : List (Nat × Value)), decode cX9_level pc = .ok (.ireturn, 1) → K pc lv [.int r.1] r.2)  (S : St) : J K r (f_X9_level_26  S) 26 [] [] S := by
    unfold f_X9_level_26
    refine j_iconst C dX9_level_26 (v := -1) rfl ?_
    exact j_iret hR dX9_level_27
def f_X9_level (x1 : Int32) (x2 : Int32) (x3 : Int32) (S : St) : Option (Int32 × St) :=
  bd (f_X9_isCall x1 S) fun v2 S1 =>
  if v2 = 0 then (f_X9_level_26 S1)
  else (bd (f_X9_isCell x2 S1) fun v4 S3 =>
    if v4 = 0 then (f_X9_level_26 S3)
    else (bd (f_X9_in x3.toInt64 0 1 S3) fun v6 S5 =>
      if v6 = 0 then (f_X9_level_26 S5)
      else (if x3 = 0 then (f_X9_level_41 x2 10 x1 S5)
        else (f_X9_level_41 x2 14 x1 S5))))
set_option maxHeartbeats 1000000 in
theorem m_X9_level (adr : Nat → Nat) (x1 : Int32) (x2 : Int32) (x3 : Int32) : MtI yX9_level cX9_level 4 (some .int) rm_X9_level adr [.ref (adr 27), .int x1, .int x2, .int x3] (f_X9_level x1 x2 x3) := by
  refine MtI.of (by decide +kernel) (Nat.le_of_ble_eq_true rfl) (fun K r S C hR => ?_)
  refine j_start (lv' := [(0, .ref (adr 27)), (1, .int x1), (2, .int x2), (3, .int x3)]) rfl ?_
  unfold f_X9_level
  refine j_aload_n C dX9_level_0 0 rfl rfl ?_
  refine j_iload_n C dX9_level_1 1 rfl rfl ?_
  refine j_cvi C dX9_level_2 lk_X9_208 mw_X9_isCall (m_X9_isCall adr x1) ⟨rfl, rfl, Nat.le_of_ble_eq_true rfl, Nat.le_of_ble_eq_true rfl⟩ kd_27 (by decide) (Nat.le_of_ble_eq_true rfl) rfl rfl (st := []) (st0 := [.int x1, .ref (adr 27)]) rfl (Nat.le_of_ble_eq_true rfl) (fun v2 S1 => ?_)
  refine j_if_eq C dX9_level_5 (tgt := 26) (by decide) ?_ ?_
  · refine j_sub C [] rfl ?_
    exact b_X9_level_26 C hR S1
  · refine j_aload_n C dX9_level_8 0 rfl rfl ?_
    refine j_iload_n C dX9_level_9 2 rfl rfl ?_
    refine j_cvi C dX9_level_10 lk_X9_158 mw_X9_isCell (m_X9_isCell adr x2) ⟨rfl, rfl, Nat.le_of_ble_eq_true rfl, Nat.le_of_ble_eq_true rfl⟩ kd_27 (by decide) (Nat.le_of_ble_eq_true rfl) rfl rfl (st := []) (st0 := [.int x2, .ref (adr 27)]) rfl (Nat.le_of_ble_eq_true rfl) (fun v4 S3 => ?_)
    refine j_if_eq C dX9_level_13 (tgt := 26) (by decide) ?_ ?_
    · refine j_sub C [] rfl ?_
      exact b_X9_level_26 C hR S3
    · refine j_iload_n C dX9_level_16 3 rfl rfl ?_
      refine j_i2l C dX9_level_17 ?_
      refine j_lconst C dX9_level_18 (v := 0) rfl ?_
      refine j_lconst C dX9_level_19 (v := 1) rfl ?_
      refine j_csi C dX9_level_20 lk_X9_66 mw_X9_in (m_X9_in adr x3.toInt64 0 1) ⟨rfl, rfl, Nat.le_of_ble_eq_true rfl, Nat.le_of_ble_eq_true rfl⟩ rfl (st := []) (st0 := [.long 1, .long 0, .long x3.toInt64]) rfl (Nat.le_of_ble_eq_true rfl) (fun v6 S5 => ?_)
      refine j_if_ne C dX9_level_23 (tgt := 28) (by decide) ?_ ?_
      · refine j_aload_n C dX9_level_28 0 rfl rfl ?_
        refine j_iload_n C dX9_level_29 1 rfl rfl ?_
        refine j_iload_n C dX9_level_30 3 rfl rfl ?_
        refine j_if_ne C dX9_level_31 (tgt := 39) (by decide) ?_ ?_
        · refine j_bipush C dX9_level_39 (v := 14) rfl ?_
          refine j_sub C [2] rfl ?_
          exact b_X9_level_41 C hR x2 14 x1 S5
        · refine j_bipush C dX9_level_34 (v := 10) rfl ?_
          refine j_goto C dX9_level_36 (tgt := 41) (by decide) ?_
          refine j_sub C [2] rfl ?_
          exact b_X9_level_41 C hR x2 10 x1 S5
      · refine j_sub C [] rfl ?_
        exact b_X9_level_26 C hR S5
-- X9_queued
abbrev rm_X9_queued : Room := { frames := 3, cells := 0, slots := 0, locals := 77 }
def f_X9_queued_22 (s0 : Int32) (S : St) : Option (Int32 × St) :=
    some (s0, S)
set_option maxHeartbeats 1000000 in
theorem b_X9_queued_22 {K : Kt} {adr : Nat → Nat} {r : Int32 × St} (C : Cx K cX9_queued RX9 3 adr rm_X9_queued) (hR : ∀ (pc : Nat) (lv : List (Nat × Value)), decode cX9_queued pc = .ok (.ireturn, 1) → K pc lv [.int r.1] r.2) (s0 : Int32) (S : St) : J K r (f_X9_queued_22 s0 S) 22 [] [.int s0] S := by
    unfold f_X9_queued_22
    exact j_iret hR dX9_queued_22
def f_X9_queued_21  (S : St) : Option (Int32 × St) :=
    f_X9_queued_22 (-1) S
set_option maxHeartbeats 1000000 in
theorem b_X9_queued_21 {K : Kt} {adr : Nat → Nat} {r : Int32 × St} (C : Cx K cX9_queued RX9 3 adr rm_X9_queued) (hR : ∀ (pc : Nat) (lv : List (Nat × Value)), decode cX9_queued pc = .ok (.ireturn, 1) → K pc lv [.int r.1] r.2)  (S : St) : J K r (f_X9_queued_21  S) 21 [] [] S := by
    unfold f_X9_queued_21
    refine j_iconst C dX9_queued_21 (v := -1) rfl ?_
    exact b_X9_queued_22 C hR (-1) S
def f_X9_queued (x1 : Int32) (x2 : Int32) (S : St) : Option (Int32 × St) :=
  bd (f_X9_isCell x1 S) fun v2 S1 =>
  if v2 = 0 then (f_X9_queued_21 S1)
  else (if x2 < 0 then (f_X9_queued_21 S1)
    else (bd (f_X9_queuedAt x1 x2 S1) fun v4 S3 =>
      f_X9_queued_22 v4 S3))
set_option maxHeartbeats 1000000 in
theorem m_X9_queued (adr : Nat → Nat) (x1 : Int32) (x2 : Int32) : MtI yX9_queued cX9_queued 3 (some .int) rm_X9_queued adr [.ref (adr 27), .int x1, .int x2] (f_X9_queued x1 x2) := by
  refine MtI.of (by decide +kernel) (Nat.le_of_ble_eq_true rfl) (fun K r S C hR => ?_)
  refine j_start (lv' := [(0, .ref (adr 27)), (1, .int x1), (2, .int x2)]) rfl ?_
  unfold f_X9_queued
  refine j_aload_n C dX9_queued_0 0 rfl rfl ?_
  refine j_iload_n C dX9_queued_1 1 rfl rfl ?_
  refine j_cvi C dX9_queued_2 lk_X9_158 mw_X9_isCell (m_X9_isCell adr x1) ⟨rfl, rfl, Nat.le_of_ble_eq_true rfl, Nat.le_of_ble_eq_true rfl⟩ kd_27 (by decide) (Nat.le_of_ble_eq_true rfl) rfl rfl (st := []) (st0 := [.int x1, .ref (adr 27)]) rfl (Nat.le_of_ble_eq_true rfl) (fun v2 S1 => ?_)
  refine j_if_eq C dX9_queued_5 (tgt := 21) (by decide) ?_ ?_
  · refine j_sub C [] rfl ?_
    exact b_X9_queued_21 C hR S1
  · refine j_iload_n C dX9_queued_8 2 rfl rfl ?_
    refine j_if_lt C dX9_queued_9 (tgt := 21) (by decide) ?_ ?_
    · refine j_sub C [] rfl ?_
      exact b_X9_queued_21 C hR S1
    · refine j_aload_n C dX9_queued_12 0 rfl rfl ?_
      refine j_iload_n C dX9_queued_13 1 rfl rfl ?_
      refine j_iload_n C dX9_queued_14 2 rfl rfl ?_
      refine j_cvi C dX9_queued_15 lk_X9_199 mw_X9_queuedAt (m_X9_queuedAt adr x1 x2) ⟨rfl, rfl, Nat.le_of_ble_eq_true rfl, Nat.le_of_ble_eq_true rfl⟩ kd_27 (by decide) (Nat.le_of_ble_eq_true rfl) rfl rfl (st := []) (st0 := [.int x2, .int x1, .ref (adr 27)]) rfl (Nat.le_of_ble_eq_true rfl) (fun v4 S3 => ?_)
      refine j_goto C dX9_queued_18 (tgt := 22) (by decide) ?_
      refine j_sub C [] rfl ?_
      exact b_X9_queued_22 C hR v4 S3
-- X9_pair
abbrev rm_X9_pair : Room := { frames := 1, cells := 0, slots := 0, locals := 25 }
def f_X9_pair_49 (s0 : Int32) (S : St) : Option (Int32 × St) :=
    some (s0, S)
set_option maxHeartbeats 1000000 in
theorem b_X9_pair_49 {K : Kt} {adr : Nat → Nat} {r : Int32 × St} (C : Cx K cX9_pair RX9 3 adr rm_X9_pair) (hR : ∀ (pc : Nat) (lv : List (Nat × Value)), decode cX9_pair pc = .ok (.ireturn, 1) → K pc lv [.int r.1] r.2) (s0 : Int32) (S : St) : J K r (f_X9_pair_49 s0 S) 49 [] [.int s0] S := by
    unfold f_X9_pair_49
    exact j_iret hR dX9_pair_49
def f_X9_pair_16  (S : St) : Option (Int32 × St) :=
    some ((-1), S)
set_option maxHeartbeats 1000000 in
theorem b_X9_pair_16 {K : Kt} {adr : Nat → Nat} {r : Int32 × St} (C : Cx K cX9_pair RX9 3 adr rm_X9_pair) (hR : ∀ (pc : Nat) (lv : List (Nat × Value)), decode cX9_pair pc = .ok (.ireturn, 1) → K pc lv [.int r.1] r.2)  (S : St) : J K r (f_X9_pair_16  S) 16 [] [] S := by
    unfold f_X9_pair_16
    refine j_iconst C dX9_pair_16 (v := -1) rfl ?_
    exact j_iret hR dX9_pair_17
def f_X9_pair (x1 : Int32) (x2 : Int32) (S : St) : Option (Int32 × St) :=
  if x1 < 0 then (f_X9_pair_16 S)
  else (bd (f_X9_in x2.toInt64 0 2 S) fun v2 S1 =>
    if v2 = 0 then (f_X9_pair_16 S1)
    else (ck 244 2547 (if (S1.1 28 (244 : Int32).toNatClampNeg) ≤ x1 then (f_X9_pair_49 (-9) S1)
      else (ck ((245 + (3 * x1)) + x2) 2547 (f_X9_pair_49 (S1.1 28 ((245 + (3 * x1)) + x2).toNatClampNeg) S1)))))
set_option maxHeartbeats 1000000 in
theorem m_X9_pair (adr : Nat → Nat) (x1 : Int32) (x2 : Int32) : MtI yX9_pair cX9_pair 3 (some .int) rm_X9_pair adr [.ref (adr 27), .int x1, .int x2] (f_X9_pair x1 x2) := by
  refine MtI.of (by decide +kernel) (Nat.le_of_ble_eq_true rfl) (fun K r S C hR => ?_)
  refine j_start (lv' := [(0, .ref (adr 27)), (1, .int x1), (2, .int x2)]) rfl ?_
  unfold f_X9_pair
  refine j_iload_n C dX9_pair_0 1 rfl rfl ?_
  refine j_if_lt C dX9_pair_1 (tgt := 16) (by decide) ?_ ?_
  · refine j_sub C [] rfl ?_
    exact b_X9_pair_16 C hR S
  · refine j_iload_n C dX9_pair_4 2 rfl rfl ?_
    refine j_i2l C dX9_pair_5 ?_
    refine j_lconst C dX9_pair_6 (v := 0) rfl ?_
    refine j_ldc2 C dX9_pair_7 kc_X9_235 ?_
    refine j_csi C dX9_pair_10 lk_X9_66 mw_X9_in (m_X9_in adr x2.toInt64 0 2) ⟨rfl, rfl, Nat.le_of_ble_eq_true rfl, Nat.le_of_ble_eq_true rfl⟩ rfl (st := []) (st0 := [.long 2, .long 0, .long x2.toInt64]) rfl (Nat.le_of_ble_eq_true rfl) (fun v2 S1 => ?_)
    refine j_if_ne C dX9_pair_13 (tgt := 18) (by decide) ?_ ?_
    · refine j_iload_n C dX9_pair_18 1 rfl rfl ?_
      refine j_aload_n C dX9_pair_19 0 rfl rfl ?_
      refine j_getr C dX9_pair_20 fl_X9_7 kd_27 (by decide) (Nat.le_of_ble_eq_true rfl) rfl ?_
      refine j_sipush C dX9_pair_23 (v := 244) rfl ?_
      refine j_iald C dX9_pair_26 kd_28 (Nat.le_of_ble_eq_true rfl) ?_
      refine j_icmp_ge C dX9_pair_27 (tgt := 47) (by decide) ?_ ?_
      · refine j_bipush C dX9_pair_47 (v := -9) rfl ?_
        refine j_sub C [] rfl ?_
        exact b_X9_pair_49 C hR (-9) S1
      · refine j_aload_n C dX9_pair_30 0 rfl rfl ?_
        refine j_getr C dX9_pair_31 fl_X9_7 kd_27 (by decide) (Nat.le_of_ble_eq_true rfl) rfl ?_
        refine j_sipush C dX9_pair_34 (v := 245) rfl ?_
        refine j_iconst C dX9_pair_37 (v := 3) rfl ?_
        refine j_iload_n C dX9_pair_38 1 rfl rfl ?_
        refine j_imul C dX9_pair_39 ?_
        refine j_iadd C dX9_pair_40 ?_
        refine j_iload_n C dX9_pair_41 2 rfl rfl ?_
        refine j_iadd C dX9_pair_42 ?_
        refine j_iald C dX9_pair_43 kd_28 (Nat.le_of_ble_eq_true rfl) ?_
        refine j_goto C dX9_pair_44 (tgt := 49) (by decide) ?_
        refine j_sub C [] rfl ?_
        exact b_X9_pair_49 C hR (S1.1 28 ((245 + (3 * x1)) + x2).toNatClampNeg) S1
    · refine j_sub C [] rfl ?_
      exact b_X9_pair_16 C hR S1
-- X9_shares
abbrev rm_X9_shares : Room := { frames := 2, cells := 0, slots := 0, locals := 43 }
def f_X9_shares_79 (k14 : Int32 → Int32 → Int32 → Int32 → Int32 → Int64 → Int32 → St → Option (Int64 × St)) : Nat → Int32 → Int32 → Int32 → Int32 → Int32 → Int64 → Int32 → Int32 → St → Option (Int64 × St)
  | 0, _, _, _, _, _, _, _, _, _ => none
  | n + 1, x2, x3, x4, x5, x6, x7, x9, x10, S =>
    if x6 < x10 then (ck x9 7 (lt (x7 + (S.2 41 x9.toNatClampNeg)) fun v7 =>
      k14 x2 x3 x4 x5 x6 v7 (x9 + 1) S))
    else (ck x9 7 (ck x9 7 (lt (upL S 41 x9.toNatClampNeg ((S.2 41 x9.toNatClampNeg) * (((10 * x5) * x10).toInt64))) fun S8 =>
      (f_X9_shares_79 k14 n) x2 x3 x4 x5 x6 x7 x9 (x10 + 1) S8)))
set_option maxHeartbeats 1000000 in
theorem b_X9_shares_79 {K : Kt} {adr : Nat → Nat} {r : Int64 × St} (C : Cx K cX9_shares RX9 11 adr rm_X9_shares) (hR : ∀ (pc : Nat) (lv : List (Nat × Value)), decode cX9_shares pc = .ok (.lreturn, 1) → K pc lv [.long r.1] r.2) (k14 : Int32 → Int32 → Int32 → Int32 → Int32 → Int64 → Int32 → St → Option (Int64 × St)) (h14 : ∀ (x2 : Int32) (x3 : Int32) (x4 : Int32) (x5 : Int32) (x6 : Int32) (x7 : Int64) (x9 : Int32) (S : St), J K r (k14 x2 x3 x4 x5 x6 x7 x9 S) 14 [(0, .ref (adr 27)), (2, .int x2), (3, .int x3), (4, .int x4), (5, .int x5), (6, .int x6), (7, .long x7), (9, .int x9)] [] S) : ∀ (n : Nat) (x2 : Int32) (x3 : Int32) (x4 : Int32) (x5 : Int32) (x6 : Int32) (x7 : Int64) (x9 : Int32) (x10 : Int32) (S : St), J K r (f_X9_shares_79 k14 n x2 x3 x4 x5 x6 x7 x9 x10 S) 79 [(0, .ref (adr 27)), (2, .int x2), (3, .int x3), (4, .int x4), (5, .int x5), (6, .int x6), (7, .long x7), (9, .int x9), (10, .int x10)] [] S := by
  intro n
  induction n with
  | zero => intro x2 x3 x4 x5 x6 x7 x9 x10 S h; cases h
  | succ n ih =>
    intro x2 x3 x4 x5 x6 x7 x9 x10 S
    unfold f_X9_shares_79
    refine j_iload C dX9_shares_79 8 rfl ?_
    refine j_iload C dX9_shares_81 5 rfl ?_
    refine j_icmp_gt C dX9_shares_83 (tgt := 111) (by decide) ?_ ?_
    · refine j_lload C dX9_shares_111 6 rfl ?_
      refine j_aload_n C dX9_shares_113 0 rfl rfl ?_
      refine j_getr C dX9_shares_114 fl_X9_50 kd_27 (by decide) (Nat.le_of_ble_eq_true rfl) rfl ?_
      refine j_iload C dX9_shares_117 7 rfl ?_
      refine j_lald C dX9_shares_119 kd_41 (Nat.le_of_ble_eq_true rfl) ?_
      refine j_ladd C dX9_shares_120 ?_
      refine j_topl (fun v7 => ?_)
      refine j_lstore C dX9_shares_121 (by decide) rfl ?_
      refine j_iinc C dX9_shares_123 (v := x9 + 1) 7 rfl rfl (by decide) rfl ?_
      refine j_goto C dX9_shares_126 (tgt := 14) (by decide) ?_
      refine j_sub C [2, 3, 4, 5, 6, 7, 1, 0] rfl ?_
      exact h14 x2 x3 x4 x5 x6 v7 (x9 + 1) S
    · refine j_aload_n C dX9_shares_86 0 rfl rfl ?_
      refine j_getr C dX9_shares_87 fl_X9_50 kd_27 (by decide) (Nat.le_of_ble_eq_true rfl) rfl ?_
      refine j_iload C dX9_shares_90 7 rfl ?_
      refine j_dup2 C dX9_shares_92 rfl rfl ?_
      refine j_lald C dX9_shares_93 kd_41 (Nat.le_of_ble_eq_true rfl) ?_
      refine j_bipush C dX9_shares_94 (v := 10) rfl ?_
      refine j_iload C dX9_shares_96 4 rfl ?_
      refine j_imul C dX9_shares_98 ?_
      refine j_iload C dX9_shares_99 8 rfl ?_
      refine j_imul C dX9_shares_101 ?_
      refine j_i2l C dX9_shares_102 ?_
      refine j_lmul C dX9_shares_103 ?_
      refine j_last C dX9_shares_104 kd_41 (Nat.le_of_ble_eq_true rfl) (fun S8 => ?_)
      refine j_iinc C dX9_shares_105 (v := x10 + 1) 8 rfl rfl (by decide) rfl ?_
      refine j_goto C dX9_shares_108 (tgt := 79) (by decide) ?_
      refine j_sub C [1, 2, 3, 4, 5, 6, 7, 8, 0] rfl ?_
      exact ih x2 x3 x4 x5 x6 x7 x9 (x10 + 1) S8
def f_X9_shares_32 (k14 : Int32 → Int32 → Int32 → Int32 → Int32 → Int64 → Int32 → St → Option (Int64 × St)) : Nat → Int32 → Int32 → Int32 → Int32 → Int32 → Int64 → Int32 → Int32 → St → Option (Int64 × St)
  | 0, _, _, _, _, _, _, _, _, _ => none
  | n + 1, x2, x3, x4, x5, x6, x7, x9, x10, S =>
    if x9 ≤ x10 then (lt (x9 + 1) fun v3 =>
      f_X9_shares_79 k14 FU x2 x3 x4 x5 x6 x7 x9 v3 S)
    else (ck x9 7 (bd (f_X9_chanceBy (x6 - x10) x2 S) fun v5 S4 =>
      ck x9 7 (lt (upL S4 41 x9.toNatClampNeg ((S.2 41 x9.toNatClampNeg) * (((x3 * v5) + (10 * x4)).toInt64))) fun S6 =>
      (f_X9_shares_32 k14 n) x2 x3 x4 x5 x6 x7 x9 (x10 + 1) S6)))
set_option maxHeartbeats 1000000 in
theorem b_X9_shares_32 {K : Kt} {adr : Nat → Nat} {r : Int64 × St} (C : Cx K cX9_shares RX9 11 adr rm_X9_shares) (hR : ∀ (pc : Nat) (lv : List (Nat × Value)), decode cX9_shares pc = .ok (.lreturn, 1) → K pc lv [.long r.1] r.2) (k14 : Int32 → Int32 → Int32 → Int32 → Int32 → Int64 → Int32 → St → Option (Int64 × St)) (h14 : ∀ (x2 : Int32) (x3 : Int32) (x4 : Int32) (x5 : Int32) (x6 : Int32) (x7 : Int64) (x9 : Int32) (S : St), J K r (k14 x2 x3 x4 x5 x6 x7 x9 S) 14 [(0, .ref (adr 27)), (2, .int x2), (3, .int x3), (4, .int x4), (5, .int x5), (6, .int x6), (7, .long x7), (9, .int x9)] [] S) : ∀ (n : Nat) (x2 : Int32) (x3 : Int32) (x4 : Int32) (x5 : Int32) (x6 : Int32) (x7 : Int64) (x9 : Int32) (x10 : Int32) (S : St), J K r (f_X9_shares_32 k14 n x2 x3 x4 x5 x6 x7 x9 x10 S) 32 [(0, .ref (adr 27)), (2, .int x2), (3, .int x3), (4, .int x4), (5, .int x5), (6, .int x6), (7, .long x7), (9, .int x9), (10, .int x10)] [] S := by
  intro n
  induction n with
  | zero => intro x2 x3 x4 x5 x6 x7 x9 x10 S h; cases h
  | succ n ih =>
    intro x2 x3 x4 x5 x6 x7 x9 x10 S
    unfold f_X9_shares_32
    refine j_iload C dX9_shares_32 8 rfl ?_
    refine j_iload C dX9_shares_34 7 rfl ?_
    refine j_icmp_ge C dX9_shares_36 (tgt := 73) (by decide) ?_ ?_
    · refine j_iload C dX9_shares_73 7 rfl ?_
      refine j_iconst C dX9_shares_75 (v := 1) rfl ?_
      refine j_iadd C dX9_shares_76 ?_
      refine j_topi (fun v3 => ?_)
      refine j_istore C dX9_shares_77 (by decide) rfl ?_
      refine j_sub C [1, 2, 3, 4, 5, 6, 7, 8, 0] rfl ?_
      exact b_X9_shares_79 C hR k14 h14 FU x2 x3 x4 x5 x6 x7 x9 v3 S
    · refine j_aload_n C dX9_shares_39 0 rfl rfl ?_
      refine j_getr C dX9_shares_40 fl_X9_50 kd_27 (by decide) (Nat.le_of_ble_eq_true rfl) rfl ?_
      refine j_iload C dX9_shares_43 7 rfl ?_
      refine j_dup2 C dX9_shares_45 rfl rfl ?_
      refine j_lald C dX9_shares_46 kd_41 (Nat.le_of_ble_eq_true rfl) ?_
      refine j_iload_n C dX9_shares_47 2 rfl rfl ?_
      refine j_iload C dX9_shares_48 5 rfl ?_
      refine j_iload C dX9_shares_50 8 rfl ?_
      refine j_isub C dX9_shares_52 ?_
      refine j_iload_n C dX9_shares_53 1 rfl rfl ?_
      refine j_csi C dX9_shares_54 lk_X9_154 mw_X9_chanceBy (m_X9_chanceBy adr (x6 - x10) x2) ⟨rfl, rfl, Nat.le_of_ble_eq_true rfl, Nat.le_of_ble_eq_true rfl⟩ rfl (st := [.int x3, .long (S.2 41 x9.toNatClampNeg), .int x9, .ref (adr 41)]) (st0 := [.int x2, .int (x6 - x10), .int x3, .long (S.2 41 x9.toNatClampNeg), .int x9, .ref (adr 41)]) rfl (Nat.le_of_ble_eq_true rfl) (fun v5 S4 => ?_)
      refine j_imul C dX9_shares_57 ?_
      refine j_bipush C dX9_shares_58 (v := 10) rfl ?_
      refine j_iload C dX9_shares_60 3 rfl ?_
      refine j_imul C dX9_shares_62 ?_
      refine j_iadd C dX9_shares_63 ?_
      refine j_i2l C dX9_shares_64 ?_
      refine j_lmul C dX9_shares_65 ?_
      refine j_last C dX9_shares_66 kd_41 (Nat.le_of_ble_eq_true rfl) (fun S6 => ?_)
      refine j_iinc C dX9_shares_67 (v := x10 + 1) 8 rfl rfl (by decide) rfl ?_
      refine j_goto C dX9_shares_70 (tgt := 32) (by decide) ?_
      refine j_sub C [1, 2, 3, 4, 5, 6, 7, 8, 0] rfl ?_
      exact ih x2 x3 x4 x5 x6 x7 x9 (x10 + 1) S6
def f_X9_shares_14 : Nat → Int32 → Int32 → Int32 → Int32 → Int32 → Int64 → Int32 → St → Option (Int64 × St)
  | 0, _, _, _, _, _, _, _, _ => none
  | n + 1, x2, x3, x4, x5, x6, x7, x9, S =>
    if x6 < x9 then (some (x7, S))
    else (ck x9 7 (lt (upL S 41 x9.toNatClampNeg 1) fun S2 =>
      f_X9_shares_32 (f_X9_shares_14 n) FU x2 x3 x4 x5 x6 x7 x9 0 S2))
set_option maxHeartbeats 1000000 in
theorem b_X9_shares_14 {K : Kt} {adr : Nat → Nat} {r : Int64 × St} (C : Cx K cX9_shares RX9 11 adr rm_X9_shares) (hR : ∀ (pc : Nat) (lv : List (Nat × Value)), decode cX9_shares pc = .ok (.lreturn, 1) → K pc lv [.long r.1] r.2) : ∀ (n : Nat) (x2 : Int32) (x3 : Int32) (x4 : Int32) (x5 : Int32) (x6 : Int32) (x7 : Int64) (x9 : Int32) (S : St), J K r (f_X9_shares_14 n x2 x3 x4 x5 x6 x7 x9 S) 14 [(0, .ref (adr 27)), (2, .int x2), (3, .int x3), (4, .int x4), (5, .int x5), (6, .int x6), (7, .long x7), (9, .int x9)] [] S := by
  intro n
  induction n with
  | zero => intro x2 x3 x4 x5 x6 x7 x9 S h; cases h
  | succ n ih =>
    intro x2 x3 x4 x5 x6 x7 x9 S
    unfold f_X9_shares_14
    refine j_iload C dX9_shares_14 7 rfl ?_
    refine j_iload C dX9_shares_16 5 rfl ?_
    refine j_icmp_gt C dX9_shares_18 (tgt := 129) (by decide) ?_ ?_
    · refine j_lload C dX9_shares_129 6 rfl ?_
      exact j_lret hR dX9_shares_131
    · refine j_aload_n C dX9_shares_21 0 rfl rfl ?_
      refine j_getr C dX9_shares_22 fl_X9_50 kd_27 (by decide) (Nat.le_of_ble_eq_true rfl) rfl ?_
      refine j_iload C dX9_shares_25 7 rfl ?_
      refine j_lconst C dX9_shares_27 (v := 1) rfl ?_
      refine j_last C dX9_shares_28 kd_41 (Nat.le_of_ble_eq_true rfl) (fun S2 => ?_)
      refine j_iconst C dX9_shares_29 (v := 0) rfl ?_
      refine j_istore C dX9_shares_30 (by decide) rfl ?_
      refine j_sub C [1, 2, 3, 4, 5, 6, 7, 8, 0] rfl ?_
      exact b_X9_shares_32 C hR (f_X9_shares_14 n) ih FU x2 x3 x4 x5 x6 x7 x9 0 S2
def f_X9_shares (x1 : Int32) (x2 : Int32) (x3 : Int32) (x4 : Int32) (x5 : Int32) (S : St) : Option (Int64 × St) :=
  ck x1 4 (lt (S.1 33 x1.toNatClampNeg) fun v1 =>
  f_X9_shares_14 FU x2 x3 x4 x5 v1 0 0 S)
set_option maxHeartbeats 1000000 in
theorem m_X9_shares (adr : Nat → Nat) (x1 : Int32) (x2 : Int32) (x3 : Int32) (x4 : Int32) (x5 : Int32) : MtL yX9_shares cX9_shares 11 (some .long) rm_X9_shares adr [.ref (adr 27), .int x1, .int x2, .int x3, .int x4, .int x5] (f_X9_shares x1 x2 x3 x4 x5) := by
  refine MtL.of (by decide +kernel) (Nat.le_of_ble_eq_true rfl) (fun K r S C hR => ?_)
  refine j_start (lv' := [(0, .ref (adr 27)), (1, .int x1), (2, .int x2), (3, .int x3), (4, .int x4), (5, .int x5)]) rfl ?_
  unfold f_X9_shares
  refine j_aload_n C dX9_shares_0 0 rfl rfl ?_
  refine j_getr C dX9_shares_1 fl_X9_26 kd_27 (by decide) (Nat.le_of_ble_eq_true rfl) rfl ?_
  refine j_iload_n C dX9_shares_4 1 rfl rfl ?_
  refine j_iald C dX9_shares_5 kd_33 (Nat.le_of_ble_eq_true rfl) ?_
  refine j_topi (fun v1 => ?_)
  refine j_istore C dX9_shares_6 (by decide) rfl ?_
  refine j_lconst C dX9_shares_8 (v := 0) rfl ?_
  refine j_lstore C dX9_shares_9 (by decide) rfl ?_
  refine j_iconst C dX9_shares_11 (v := 0) rfl ?_
  refine j_istore C dX9_shares_12 (by decide) rfl ?_
  refine j_sub C [3, 5, 6, 7, 8, 2, 1, 0] rfl ?_
  exact b_X9_shares_14 C hR FU x2 x3 x4 x5 v1 0 0 S
-- X9_areRates
abbrev rm_X9_areRates : Room := { frames := 1, cells := 0, slots := 0, locals := 25 }
def f_X9_areRates_41 (s0 : Int32) (S : St) : Option (Int32 × St) :=
    bz s0 (some (s0, S))
set_option maxHeartbeats 1000000 in
theorem b_X9_areRates_41 {K : Kt} {adr : Nat → Nat} {r : Int32 × St} (C : Cx K cX9_areRates RX9 3 adr rm_X9_areRates) (hR : ∀ (pc : Nat) (lv : List (Nat × Value)), (r.1 = 0 ∨ r.1 = 1) → decode cX9_areRates pc = .ok (.ireturn, 1) → K pc lv [.int r.1] r.2) (s0 : Int32) (S : St) : J K r (f_X9_areRates_41 s0 S) 41 [] [.int s0] S := by
    unfold f_X9_areRates_41
    exact j_zretv hR dX9_areRates_41
def f_X9_areRates_40  (S : St) : Option (Int32 × St) :=
    f_X9_areRates_41 0 S
set_option maxHeartbeats 1000000 in
theorem b_X9_areRates_40 {K : Kt} {adr : Nat → Nat} {r : Int32 × St} (C : Cx K cX9_areRates RX9 3 adr rm_X9_areRates) (hR : ∀ (pc : Nat) (lv : List (Nat × Value)), (r.1 = 0 ∨ r.1 = 1) → decode cX9_areRates pc = .ok (.ireturn, 1) → K pc lv [.int r.1] r.2)  (S : St) : J K r (f_X9_areRates_40  S) 40 [] [] S := by
    unfold f_X9_areRates_40
    refine j_iconst C dX9_areRates_40 (v := 0) rfl ?_
    exact b_X9_areRates_41 C hR 0 S
def f_X9_areRates (x0 : Int32) (x1 : Int32) (x2 : Int32) (S : St) : Option (Int32 × St) :=
  bd (f_X9_in x0.toInt64 0 9 S) fun v2 S1 =>
  if v2 = 0 then (f_X9_areRates_40 S1)
  else (bd (f_X9_in x1.toInt64 0 9 S1) fun v4 S3 =>
    if v4 = 0 then (f_X9_areRates_40 S3)
    else (bd (f_X9_in x2.toInt64 1 9 S3) fun v6 S5 =>
      if v6 = 0 then (f_X9_areRates_40 S5)
      else (f_X9_areRates_41 1 S5)))
set_option maxHeartbeats 1000000 in
theorem m_X9_areRates (adr : Nat → Nat) (x0 : Int32) (x1 : Int32) (x2 : Int32) : MtI yX9_areRates cX9_areRates 3 (some .boolean) rm_X9_areRates adr [.int x0, .int x1, .int x2] (f_X9_areRates x0 x1 x2) := by
  refine MtI.ofZ (by decide +kernel) (Nat.le_of_ble_eq_true rfl) (fun K r S C hR => ?_)
  refine j_start (lv' := [(0, .int x0), (1, .int x1), (2, .int x2)]) rfl ?_
  unfold f_X9_areRates
  refine j_iload_n C dX9_areRates_0 0 rfl rfl ?_
  refine j_i2l C dX9_areRates_1 ?_
  refine j_lconst C dX9_areRates_2 (v := 0) rfl ?_
  refine j_ldc2 C dX9_areRates_3 kc_X9_237 ?_
  refine j_csi C dX9_areRates_6 lk_X9_66 mw_X9_in (m_X9_in adr x0.toInt64 0 9) ⟨rfl, rfl, Nat.le_of_ble_eq_true rfl, Nat.le_of_ble_eq_true rfl⟩ rfl (st := []) (st0 := [.long 9, .long 0, .long x0.toInt64]) rfl (Nat.le_of_ble_eq_true rfl) (fun v2 S1 => ?_)
  refine j_if_eq C dX9_areRates_9 (tgt := 40) (by decide) ?_ ?_
  · refine j_sub C [] rfl ?_
    exact b_X9_areRates_40 C hR S1
  · refine j_iload_n C dX9_areRates_12 1 rfl rfl ?_
    refine j_i2l C dX9_areRates_13 ?_
    refine j_lconst C dX9_areRates_14 (v := 0) rfl ?_
    refine j_ldc2 C dX9_areRates_15 kc_X9_237 ?_
    refine j_csi C dX9_areRates_18 lk_X9_66 mw_X9_in (m_X9_in adr x1.toInt64 0 9) ⟨rfl, rfl, Nat.le_of_ble_eq_true rfl, Nat.le_of_ble_eq_true rfl⟩ rfl (st := []) (st0 := [.long 9, .long 0, .long x1.toInt64]) rfl (Nat.le_of_ble_eq_true rfl) (fun v4 S3 => ?_)
    refine j_if_eq C dX9_areRates_21 (tgt := 40) (by decide) ?_ ?_
    · refine j_sub C [] rfl ?_
      exact b_X9_areRates_40 C hR S3
    · refine j_iload_n C dX9_areRates_24 2 rfl rfl ?_
      refine j_i2l C dX9_areRates_25 ?_
      refine j_lconst C dX9_areRates_26 (v := 1) rfl ?_
      refine j_ldc2 C dX9_areRates_27 kc_X9_237 ?_
      refine j_csi C dX9_areRates_30 lk_X9_66 mw_X9_in (m_X9_in adr x2.toInt64 1 9) ⟨rfl, rfl, Nat.le_of_ble_eq_true rfl, Nat.le_of_ble_eq_true rfl⟩ rfl (st := []) (st0 := [.long 9, .long 1, .long x2.toInt64]) rfl (Nat.le_of_ble_eq_true rfl) (fun v6 S5 => ?_)
      refine j_if_eq C dX9_areRates_33 (tgt := 40) (by decide) ?_ ?_
      · refine j_sub C [] rfl ?_
        exact b_X9_areRates_40 C hR S5
      · refine j_iconst C dX9_areRates_36 (v := 1) rfl ?_
        refine j_goto C dX9_areRates_37 (tgt := 41) (by decide) ?_
        refine j_sub C [] rfl ?_
        exact b_X9_areRates_41 C hR 1 S5
-- X9_divisor
abbrev rm_X9_divisor : Room := { frames := 0, cells := 0, slots := 0, locals := 0 }
def f_X9_divisor_6 : Nat → Int64 → Int64 → St → Option (Int64 × St)
  | 0, _, _, _ => none
  | n + 1, x4, x6, S =>
    if (lg_cmp x6 0) = 0 then (some (x4, S))
    else (nzL x6 (lt (x4 - x4 / x6 * x6) fun v1 =>
      (f_X9_divisor_6 n) x6 v1 S))
set_option maxHeartbeats 1000000 in
theorem b_X9_divisor_6 {K : Kt} {adr : Nat → Nat} {r : Int64 × St} (C : Cx K cX9_divisor RX9 10 adr rm_X9_divisor) (hR : ∀ (pc : Nat) (lv : List (Nat × Value)), decode cX9_divisor pc = .ok (.lreturn, 1) → K pc lv [.long r.1] r.2) : ∀ (n : Nat) (x4 : Int64) (x6 : Int64) (S : St), J K r (f_X9_divisor_6 n x4 x6 S) 6 [(4, .long x4), (6, .long x6)] [] S := by
  intro n
  induction n with
  | zero => intro x4 x6 S h; cases h
  | succ n ih =>
    intro x4 x6 S
    unfold f_X9_divisor_6
    refine j_lload C dX9_divisor_6 1 rfl ?_
    refine j_lconst C dX9_divisor_8 (v := 0) rfl ?_
    refine j_lcmp C dX9_divisor_9 ?_
    refine j_if_eq C dX9_divisor_10 (tgt := 31) (by decide) ?_ ?_
    · refine j_lload C dX9_divisor_31 0 rfl ?_
      exact j_lret hR dX9_divisor_33
    · refine j_lload C dX9_divisor_13 0 rfl ?_
      refine j_lload C dX9_divisor_15 1 rfl ?_
      refine j_lrem C dX9_divisor_17 ?_
      refine j_topl (fun v1 => ?_)
      refine j_lstore C dX9_divisor_18 (by decide) rfl ?_
      refine j_lload C dX9_divisor_20 2 rfl ?_
      refine j_lstore C dX9_divisor_22 (by decide) rfl ?_
      refine j_lload C dX9_divisor_24 1 rfl ?_
      refine j_lstore C dX9_divisor_26 (by decide) rfl ?_
      refine j_goto C dX9_divisor_28 (tgt := 6) (by decide) ?_
      refine j_sub C [1, 0] rfl ?_
      exact ih x6 v1 S
def f_X9_divisor (x0 : Int64) (x2 : Int64) (S : St) : Option (Int64 × St) :=
  f_X9_divisor_6 FU x0 x2 S
set_option maxHeartbeats 1000000 in
theorem m_X9_divisor (adr : Nat → Nat) (x0 : Int64) (x2 : Int64) : MtL yX9_divisor cX9_divisor 10 (some .long) rm_X9_divisor adr [.long x0, .long x2] (f_X9_divisor x0 x2) := by
  refine MtL.of (by decide +kernel) (Nat.le_of_ble_eq_true rfl) (fun K r S C hR => ?_)
  refine j_start (lv' := [(0, .long x0), (2, .long x2)]) rfl ?_
  unfold f_X9_divisor
  refine j_lload_n C dX9_divisor_0 0 rfl rfl ?_
  refine j_lstore C dX9_divisor_1 (by decide) rfl ?_
  refine j_lload_n C dX9_divisor_3 2 rfl rfl ?_
  refine j_lstore C dX9_divisor_4 (by decide) rfl ?_
  refine j_sub C [1, 0] rfl ?_
  exact b_X9_divisor_6 C hR FU x0 x2 S
