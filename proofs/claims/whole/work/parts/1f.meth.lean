-- X0_ask
abbrev rm_X0_ask : Room := { frames := 3, cells := 0, slots := 0, locals := 65 }
def f_X0_ask (x1 : Int32) (x2 : Int32) (S : St) : Option (Int32 × St) :=
  bdV (f_X7_tallyOne x2 2 S) fun S1 =>
  bd (f_X0_free x2 S1) fun v3 S2 =>
  if v3 ≤ 0 then (bd (f_X7_waiting x2 S2) fun v5 S4 =>
    ck x2 4 (if (S4.1 12 x2.toNatClampNeg) ≤ v5 then (bdV (f_X7_tallyOne x2 3 S4) fun S6 =>
      some (3, S6))
    else (bdV (f_X7_beginWaiting x1 x2 S4) fun S7 =>
      some (2, S7))))
  else (bdV (f_X0_move x1 x2 S2) fun S8 =>
    some (1, S8))
set_option maxHeartbeats 1000000 in
theorem m_X0_ask (adr : Nat → Nat) (x1 : Int32) (x2 : Int32) : MtI yX0_ask cX0_ask 3 (some .int) rm_X0_ask adr [.ref (adr 14), .int x1, .int x2] (f_X0_ask x1 x2) := by
  refine MtI.of (by decide +kernel) (Nat.le_of_ble_eq_true rfl) (fun K r S C hR => ?_)
  refine j_start (lv' := [(0, .ref (adr 14)), (1, .int x1), (2, .int x2)]) rfl ?_
  unfold f_X0_ask
  refine j_aload_n C dX0_ask_0 0 rfl rfl ?_
  refine j_getr C dX0_ask_1 fl_X0_22 kd_14 (by decide) (Nat.le_of_ble_eq_true rfl) rfl ?_
  refine j_iload_n C dX0_ask_4 2 rfl rfl ?_
  refine j_iconst C dX0_ask_5 (v := 2) rfl ?_
  refine j_cvv C dX0_ask_6 lk_X0_47 mw_X7_tallyOne (m_X7_tallyOne adr x2 2) ⟨rfl, rfl, Nat.le_of_ble_eq_true rfl, Nat.le_of_ble_eq_true rfl⟩ kd_42 (by decide) (Nat.le_of_ble_eq_true rfl) rfl rfl (st := []) (st0 := [.int 2, .int x2, .ref (adr 42)]) rfl (Nat.le_of_ble_eq_true rfl) (fun S1 => ?_)
  refine j_aload_n C dX0_ask_9 0 rfl rfl ?_
  refine j_iload_n C dX0_ask_10 2 rfl rfl ?_
  refine j_cvi C dX0_ask_11 lk_X0_37 mw_X0_free (m_X0_free adr x2) ⟨rfl, rfl, Nat.le_of_ble_eq_true rfl, Nat.le_of_ble_eq_true rfl⟩ kd_14 (by decide) (Nat.le_of_ble_eq_true rfl) rfl rfl (st := []) (st0 := [.int x2, .ref (adr 14)]) rfl (Nat.le_of_ble_eq_true rfl) (fun v3 S2 => ?_)
  refine j_if_le C dX0_ask_14 (tgt := 25) (by decide) ?_ ?_
  · refine j_aload_n C dX0_ask_25 0 rfl rfl ?_
    refine j_getr C dX0_ask_26 fl_X0_22 kd_14 (by decide) (Nat.le_of_ble_eq_true rfl) rfl ?_
    refine j_iload_n C dX0_ask_29 2 rfl rfl ?_
    refine j_cvi C dX0_ask_30 lk_X0_129 mw_X7_waiting (m_X7_waiting adr x2) ⟨rfl, rfl, Nat.le_of_ble_eq_true rfl, Nat.le_of_ble_eq_true rfl⟩ kd_42 (by decide) (Nat.le_of_ble_eq_true rfl) rfl rfl (st := []) (st0 := [.int x2, .ref (adr 42)]) rfl (Nat.le_of_ble_eq_true rfl) (fun v5 S4 => ?_)
    refine j_aload_n C dX0_ask_33 0 rfl rfl ?_
    refine j_getr C dX0_ask_34 fl_X0_18 kd_14 (by decide) (Nat.le_of_ble_eq_true rfl) rfl ?_
    refine j_getr C dX0_ask_37 fl_X0_132 kd_9 (by decide) (Nat.le_of_ble_eq_true rfl) rfl ?_
    refine j_iload_n C dX0_ask_40 2 rfl rfl ?_
    refine j_iald C dX0_ask_41 kd_12 (Nat.le_of_ble_eq_true rfl) ?_
    refine j_icmp_ge C dX0_ask_42 (tgt := 56) (by decide) ?_ ?_
    · refine j_aload_n C dX0_ask_56 0 rfl rfl ?_
      refine j_getr C dX0_ask_57 fl_X0_22 kd_14 (by decide) (Nat.le_of_ble_eq_true rfl) rfl ?_
      refine j_iload_n C dX0_ask_60 2 rfl rfl ?_
      refine j_iconst C dX0_ask_61 (v := 3) rfl ?_
      refine j_cvv C dX0_ask_62 lk_X0_47 mw_X7_tallyOne (m_X7_tallyOne adr x2 3) ⟨rfl, rfl, Nat.le_of_ble_eq_true rfl, Nat.le_of_ble_eq_true rfl⟩ kd_42 (by decide) (Nat.le_of_ble_eq_true rfl) rfl rfl (st := []) (st0 := [.int 3, .int x2, .ref (adr 42)]) rfl (Nat.le_of_ble_eq_true rfl) (fun S6 => ?_)
      refine j_iconst C dX0_ask_65 (v := 3) rfl ?_
      exact j_iret hR dX0_ask_66
    · refine j_aload_n C dX0_ask_45 0 rfl rfl ?_
      refine j_getr C dX0_ask_46 fl_X0_22 kd_14 (by decide) (Nat.le_of_ble_eq_true rfl) rfl ?_
      refine j_iload_n C dX0_ask_49 1 rfl rfl ?_
      refine j_iload_n C dX0_ask_50 2 rfl rfl ?_
      refine j_cvv C dX0_ask_51 lk_X0_135 mw_X7_beginWaiting (m_X7_beginWaiting adr x1 x2) ⟨rfl, rfl, Nat.le_of_ble_eq_true rfl, Nat.le_of_ble_eq_true rfl⟩ kd_42 (by decide) (Nat.le_of_ble_eq_true rfl) rfl rfl (st := []) (st0 := [.int x2, .int x1, .ref (adr 42)]) rfl (Nat.le_of_ble_eq_true rfl) (fun S7 => ?_)
      refine j_iconst C dX0_ask_54 (v := 2) rfl ?_
      exact j_iret hR dX0_ask_55
  · refine j_aload_n C dX0_ask_17 0 rfl rfl ?_
    refine j_iload_n C dX0_ask_18 1 rfl rfl ?_
    refine j_iload_n C dX0_ask_19 2 rfl rfl ?_
    refine j_cvv C dX0_ask_20 lk_X0_126 mw_X0_move (m_X0_move adr x1 x2) ⟨rfl, rfl, Nat.le_of_ble_eq_true rfl, Nat.le_of_ble_eq_true rfl⟩ kd_14 (by decide) (Nat.le_of_ble_eq_true rfl) rfl rfl (st := []) (st0 := [.int x2, .int x1, .ref (adr 14)]) rfl (Nat.le_of_ble_eq_true rfl) (fun S8 => ?_)
    refine j_iconst C dX0_ask_23 (v := 1) rfl ?_
    exact j_iret hR dX0_ask_24
-- X0_follow
abbrev rm_X0_follow : Room := { frames := 4, cells := 0, slots := 0, locals := 87 }
def f_X0_follow_55 (s0 : Int32) (S : St) : Option (Int32 × St) :=
    some (s0, S)
set_option maxHeartbeats 1000000 in
theorem b_X0_follow_55 {K : Kt} {adr : Nat → Nat} {r : Int32 × St} (C : Cx K cX0_follow RX0 3 adr rm_X0_follow) (hR : ∀ (pc : Nat) (lv : List (Nat × Value)), decode cX0_follow pc = .ok (.ireturn, 1) → K pc lv [.int r.1] r.2) (s0 : Int32) (S : St) : J K r (f_X0_follow_55 s0 S) 55 [] [.int s0] S := by
    unfold f_X0_follow_55
    exact j_iret hR dX0_follow_55
def f_X0_follow_24 (x1 : Int32) (x2 : Int32) (S : St) : Option (Int32 × St) :=
    if x2 = (-9) then (some (0, S))
    else (ck x1 12 (if (S.1 46 x1.toNatClampNeg) = x2 then (f_X0_follow_55 2 S)
      else (bd (f_X0_ask x1 x2 S) fun v3 S2 =>
        f_X0_follow_55 v3 S2)))
set_option maxHeartbeats 1000000 in
theorem b_X0_follow_24 {K : Kt} {adr : Nat → Nat} {r : Int32 × St} (C : Cx K cX0_follow RX0 3 adr rm_X0_follow) (hR : ∀ (pc : Nat) (lv : List (Nat × Value)), decode cX0_follow pc = .ok (.ireturn, 1) → K pc lv [.int r.1] r.2) (x1 : Int32) (x2 : Int32) (S : St) : J K r (f_X0_follow_24 x1 x2 S) 24 [(0, .ref (adr 14)), (1, .int x1), (2, .int x2)] [] S := by
    unfold f_X0_follow_24
    refine j_iload_n C dX0_follow_24 2 rfl rfl ?_
    refine j_bipush C dX0_follow_25 (v := -9) rfl ?_
    refine j_icmp_ne C dX0_follow_27 (tgt := 32) (by decide) ?_ ?_
    · refine j_aload_n C dX0_follow_32 0 rfl rfl ?_
      refine j_getr C dX0_follow_33 fl_X0_22 kd_14 (by decide) (Nat.le_of_ble_eq_true rfl) rfl ?_
      refine j_getr C dX0_follow_36 fl_X0_120 kd_42 (by decide) (Nat.le_of_ble_eq_true rfl) rfl ?_
      refine j_iload_n C dX0_follow_39 1 rfl rfl ?_
      refine j_iald C dX0_follow_40 kd_46 (Nat.le_of_ble_eq_true rfl) ?_
      refine j_iload_n C dX0_follow_41 2 rfl rfl ?_
      refine j_icmp_ne C dX0_follow_42 (tgt := 49) (by decide) ?_ ?_
      · refine j_aload_n C dX0_follow_49 0 rfl rfl ?_
        refine j_iload_n C dX0_follow_50 1 rfl rfl ?_
        refine j_iload_n C dX0_follow_51 2 rfl rfl ?_
        refine j_cvi C dX0_follow_52 lk_X0_123 mw_X0_ask (m_X0_ask adr x1 x2) ⟨rfl, rfl, Nat.le_of_ble_eq_true rfl, Nat.le_of_ble_eq_true rfl⟩ kd_14 (by decide) (Nat.le_of_ble_eq_true rfl) rfl rfl (st := []) (st0 := [.int x2, .int x1, .ref (adr 14)]) rfl (Nat.le_of_ble_eq_true rfl) (fun v3 S2 => ?_)
        refine j_sub C [] rfl ?_
        exact b_X0_follow_55 C hR v3 S2
      · refine j_iconst C dX0_follow_45 (v := 2) rfl ?_
        refine j_goto C dX0_follow_46 (tgt := 55) (by decide) ?_
        refine j_sub C [] rfl ?_
        exact b_X0_follow_55 C hR 2 S
    · refine j_iconst C dX0_follow_30 (v := 0) rfl ?_
      exact j_iret hR dX0_follow_31
def f_X0_follow (x1 : Int32) (x2 : Int32) (S : St) : Option (Int32 × St) :=
  ck x1 12 (if (S.1 46 x1.toNatClampNeg) = x2 then (f_X0_follow_24 x1 x2 S)
  else (ck x1 12 (lt (upI S 46 x1.toNatClampNeg (-9)) fun S1 =>
    f_X0_follow_24 x1 x2 S1)))
set_option maxHeartbeats 1000000 in
theorem m_X0_follow (adr : Nat → Nat) (x1 : Int32) (x2 : Int32) : MtI yX0_follow cX0_follow 3 (some .int) rm_X0_follow adr [.ref (adr 14), .int x1, .int x2] (f_X0_follow x1 x2) := by
  refine MtI.of (by decide +kernel) (Nat.le_of_ble_eq_true rfl) (fun K r S C hR => ?_)
  refine j_start (lv' := [(0, .ref (adr 14)), (1, .int x1), (2, .int x2)]) rfl ?_
  unfold f_X0_follow
  refine j_aload_n C dX0_follow_0 0 rfl rfl ?_
  refine j_getr C dX0_follow_1 fl_X0_22 kd_14 (by decide) (Nat.le_of_ble_eq_true rfl) rfl ?_
  refine j_getr C dX0_follow_4 fl_X0_120 kd_42 (by decide) (Nat.le_of_ble_eq_true rfl) rfl ?_
  refine j_iload_n C dX0_follow_7 1 rfl rfl ?_
  refine j_iald C dX0_follow_8 kd_46 (Nat.le_of_ble_eq_true rfl) ?_
  refine j_iload_n C dX0_follow_9 2 rfl rfl ?_
  refine j_icmp_eq C dX0_follow_10 (tgt := 24) (by decide) ?_ ?_
  · exact b_X0_follow_24 C hR x1 x2 S
  · refine j_aload_n C dX0_follow_13 0 rfl rfl ?_
    refine j_getr C dX0_follow_14 fl_X0_22 kd_14 (by decide) (Nat.le_of_ble_eq_true rfl) rfl ?_
    refine j_getr C dX0_follow_17 fl_X0_120 kd_42 (by decide) (Nat.le_of_ble_eq_true rfl) rfl ?_
    refine j_iload_n C dX0_follow_20 1 rfl rfl ?_
    refine j_bipush C dX0_follow_21 (v := -9) rfl ?_
    refine j_iast C dX0_follow_23 kd_46 (Nat.le_of_ble_eq_true rfl) (fun S1 => ?_)
    exact b_X0_follow_24 C hR x1 x2 S1
-- X0_vanish
abbrev rm_X0_vanish : Room := { frames := 1, cells := 0, slots := 0, locals := 21 }
def f_X0_vanish (x1 : Int32) (S : St) : Option (St) :=
  ck x1 12 (lt (S.1 45 x1.toNatClampNeg) fun v1 =>
  ck x1 12 (lt (upI S 45 x1.toNatClampNeg (-9)) fun S2 =>
  ck x1 12 (lt (upI S2 46 x1.toNatClampNeg (-9)) fun S3 =>
  bdV (f_X0_noteFreed v1 S3) fun S4 =>
  some S4)))
set_option maxHeartbeats 1000000 in
theorem m_X0_vanish (adr : Nat → Nat) (x1 : Int32) : MtV yX0_vanish cX0_vanish 3 none rm_X0_vanish adr [.ref (adr 14), .int x1] (f_X0_vanish x1) := by
  refine MtV.of (by decide +kernel) (Nat.le_of_ble_eq_true rfl) (fun K r S C hR => ?_)
  refine j_start (lv' := [(0, .ref (adr 14)), (1, .int x1)]) rfl ?_
  unfold f_X0_vanish
  refine j_aload_n C dX0_vanish_0 0 rfl rfl ?_
  refine j_getr C dX0_vanish_1 fl_X0_22 kd_14 (by decide) (Nat.le_of_ble_eq_true rfl) rfl ?_
  refine j_getr C dX0_vanish_4 fl_X0_99 kd_42 (by decide) (Nat.le_of_ble_eq_true rfl) rfl ?_
  refine j_iload_n C dX0_vanish_7 1 rfl rfl ?_
  refine j_iald C dX0_vanish_8 kd_45 (Nat.le_of_ble_eq_true rfl) ?_
  refine j_topi (fun v1 => ?_)
  refine j_istore_n C dX0_vanish_9 rfl (by decide) rfl ?_
  refine j_aload_n C dX0_vanish_10 1 rfl rfl ?_
  refine j_getr C dX0_vanish_11 fl_X0_22 kd_14 (by decide) (Nat.le_of_ble_eq_true rfl) rfl ?_
  refine j_getr C dX0_vanish_14 fl_X0_99 kd_42 (by decide) (Nat.le_of_ble_eq_true rfl) rfl ?_
  refine j_iload_n C dX0_vanish_17 2 rfl rfl ?_
  refine j_bipush C dX0_vanish_18 (v := -9) rfl ?_
  refine j_iast C dX0_vanish_20 kd_45 (Nat.le_of_ble_eq_true rfl) (fun S2 => ?_)
  refine j_aload_n C dX0_vanish_21 1 rfl rfl ?_
  refine j_getr C dX0_vanish_22 fl_X0_22 kd_14 (by decide) (Nat.le_of_ble_eq_true rfl) rfl ?_
  refine j_getr C dX0_vanish_25 fl_X0_120 kd_42 (by decide) (Nat.le_of_ble_eq_true rfl) rfl ?_
  refine j_iload_n C dX0_vanish_28 2 rfl rfl ?_
  refine j_bipush C dX0_vanish_29 (v := -9) rfl ?_
  refine j_iast C dX0_vanish_31 kd_46 (Nat.le_of_ble_eq_true rfl) (fun S3 => ?_)
  refine j_aload_n C dX0_vanish_32 1 rfl rfl ?_
  refine j_iload_n C dX0_vanish_33 0 rfl rfl ?_
  refine j_cvv C dX0_vanish_34 lk_X0_138 mw_X0_noteFreed (m_X0_noteFreed adr v1) ⟨rfl, rfl, Nat.le_of_ble_eq_true rfl, Nat.le_of_ble_eq_true rfl⟩ kd_14 (by decide) (Nat.le_of_ble_eq_true rfl) rfl rfl (st := []) (st0 := [.int v1, .ref (adr 14)]) rfl (Nat.le_of_ble_eq_true rfl) (fun S4 => ?_)
  exact j_vret hR dX0_vanish_37
-- X0_waitsLonger
abbrev rm_X0_waitsLonger : Room := { frames := 0, cells := 0, slots := 0, locals := 0 }
def f_X0_waitsLonger_26 (s0 : Int32) (S : St) : Option (Int32 × St) :=
    bz s0 (some (s0, S))
set_option maxHeartbeats 1000000 in
theorem b_X0_waitsLonger_26 {K : Kt} {adr : Nat → Nat} {r : Int32 × St} (C : Cx K cX0_waitsLonger RX0 3 adr rm_X0_waitsLonger) (hR : ∀ (pc : Nat) (lv : List (Nat × Value)), (r.1 = 0 ∨ r.1 = 1) → decode cX0_waitsLonger pc = .ok (.ireturn, 1) → K pc lv [.int r.1] r.2) (s0 : Int32) (S : St) : J K r (f_X0_waitsLonger_26 s0 S) 26 [] [.int s0] S := by
    unfold f_X0_waitsLonger_26
    exact j_zretv hR dX0_waitsLonger_26
def f_X0_waitsLonger (x1 : Int32) (x2 : Int32) (S : St) : Option (Int32 × St) :=
  ck x1 12 (ck x2 12 (if (S.1 47 x2.toNatClampNeg) ≤ (S.1 47 x1.toNatClampNeg) then (f_X0_waitsLonger_26 0 S)
  else (f_X0_waitsLonger_26 1 S)))
set_option maxHeartbeats 1000000 in
theorem m_X0_waitsLonger (adr : Nat → Nat) (x1 : Int32) (x2 : Int32) : MtI yX0_waitsLonger cX0_waitsLonger 3 (some .boolean) rm_X0_waitsLonger adr [.ref (adr 14), .int x1, .int x2] (f_X0_waitsLonger x1 x2) := by
  refine MtI.ofZ (by decide +kernel) (Nat.le_of_ble_eq_true rfl) (fun K r S C hR => ?_)
  refine j_start (lv' := [(0, .ref (adr 14)), (1, .int x1), (2, .int x2)]) rfl ?_
  unfold f_X0_waitsLonger
  refine j_aload_n C dX0_waitsLonger_0 0 rfl rfl ?_
  refine j_getr C dX0_waitsLonger_1 fl_X0_22 kd_14 (by decide) (Nat.le_of_ble_eq_true rfl) rfl ?_
  refine j_getr C dX0_waitsLonger_4 fl_X0_172 kd_42 (by decide) (Nat.le_of_ble_eq_true rfl) rfl ?_
  refine j_iload_n C dX0_waitsLonger_7 1 rfl rfl ?_
  refine j_iald C dX0_waitsLonger_8 kd_47 (Nat.le_of_ble_eq_true rfl) ?_
  refine j_aload_n C dX0_waitsLonger_9 0 rfl rfl ?_
  refine j_getr C dX0_waitsLonger_10 fl_X0_22 kd_14 (by decide) (Nat.le_of_ble_eq_true rfl) rfl ?_
  refine j_getr C dX0_waitsLonger_13 fl_X0_172 kd_42 (by decide) (Nat.le_of_ble_eq_true rfl) rfl ?_
  refine j_iload_n C dX0_waitsLonger_16 2 rfl rfl ?_
  refine j_iald C dX0_waitsLonger_17 kd_47 (Nat.le_of_ble_eq_true rfl) ?_
  refine j_icmp_ge C dX0_waitsLonger_18 (tgt := 25) (by decide) ?_ ?_
  · refine j_iconst C dX0_waitsLonger_25 (v := 0) rfl ?_
    refine j_sub C [] rfl ?_
    exact b_X0_waitsLonger_26 C hR 0 S
  · refine j_iconst C dX0_waitsLonger_21 (v := 1) rfl ?_
    refine j_goto C dX0_waitsLonger_22 (tgt := 26) (by decide) ?_
    refine j_sub C [] rfl ?_
    exact b_X0_waitsLonger_26 C hR 1 S
-- X0_isBefore
abbrev rm_X0_isBefore : Room := { frames := 1, cells := 0, slots := 0, locals := 22 }
def f_X0_isBefore_122 (s0 : Int32) (S : St) : Option (Int32 × St) :=
    bz s0 (some (s0, S))
set_option maxHeartbeats 1000000 in
theorem b_X0_isBefore_122 {K : Kt} {adr : Nat → Nat} {r : Int32 × St} (C : Cx K cX0_isBefore RX0 8 adr rm_X0_isBefore) (hR : ∀ (pc : Nat) (lv : List (Nat × Value)), (r.1 = 0 ∨ r.1 = 1) → decode cX0_isBefore pc = .ok (.ireturn, 1) → K pc lv [.int r.1] r.2) (s0 : Int32) (S : St) : J K r (f_X0_isBefore_122 s0 S) 122 [] [.int s0] S := by
    unfold f_X0_isBefore_122
    exact j_zretv hR dX0_isBefore_122
def f_X0_isBefore_113 (x3 : Int32) (S : St) : Option (Int32 × St) :=
    if x3 ≤ 0 then (f_X0_isBefore_122 0 S)
    else (f_X0_isBefore_122 1 S)
set_option maxHeartbeats 1000000 in
theorem b_X0_isBefore_113 {K : Kt} {adr : Nat → Nat} {r : Int32 × St} (C : Cx K cX0_isBefore RX0 8 adr rm_X0_isBefore) (hR : ∀ (pc : Nat) (lv : List (Nat × Value)), (r.1 = 0 ∨ r.1 = 1) → decode cX0_isBefore pc = .ok (.ireturn, 1) → K pc lv [.int r.1] r.2) (x3 : Int32) (S : St) : J K r (f_X0_isBefore_113 x3 S) 113 [(3, .int x3)] [] S := by
    unfold f_X0_isBefore_113
    refine j_iload_n C dX0_isBefore_113 0 rfl rfl ?_
    refine j_if_le C dX0_isBefore_114 (tgt := 121) (by decide) ?_ ?_
    · refine j_iconst C dX0_isBefore_121 (v := 0) rfl ?_
      refine j_sub C [] rfl ?_
      exact b_X0_isBefore_122 C hR 0 S
    · refine j_iconst C dX0_isBefore_117 (v := 1) rfl ?_
      refine j_goto C dX0_isBefore_118 (tgt := 122) (by decide) ?_
      refine j_sub C [] rfl ?_
      exact b_X0_isBefore_122 C hR 1 S
def f_X0_isBefore_104 (x1 : Int32) (x2 : Int32) (x3 : Int32) (x4 : Int32) (S : St) : Option (Int32 × St) :=
    if 0 < x3 then (f_X0_isBefore_113 x3 S)
    else (if x4 ≤ 0 then (bd (f_X0_waitsLonger x1 x2 S) fun v13 S12 =>
        bz v13 (some (v13, S12)))
      else (f_X0_isBefore_113 x3 S))
set_option maxHeartbeats 1000000 in
theorem b_X0_isBefore_104 {K : Kt} {adr : Nat → Nat} {r : Int32 × St} (C : Cx K cX0_isBefore RX0 8 adr rm_X0_isBefore) (hR : ∀ (pc : Nat) (lv : List (Nat × Value)), (r.1 = 0 ∨ r.1 = 1) → decode cX0_isBefore pc = .ok (.ireturn, 1) → K pc lv [.int r.1] r.2) (x1 : Int32) (x2 : Int32) (x3 : Int32) (x4 : Int32) (S : St) : J K r (f_X0_isBefore_104 x1 x2 x3 x4 S) 104 [(0, .ref (adr 14)), (1, .int x1), (2, .int x2), (3, .int x3), (4, .int x4)] [] S := by
    unfold f_X0_isBefore_104
    refine j_iload_n C dX0_isBefore_104 3 rfl rfl ?_
    refine j_if_gt C dX0_isBefore_105 (tgt := 113) (by decide) ?_ ?_
    · refine j_sub C [3] rfl ?_
      exact b_X0_isBefore_113 C hR x3 S
    · refine j_iload C dX0_isBefore_108 4 rfl ?_
      refine j_if_le C dX0_isBefore_110 (tgt := 123) (by decide) ?_ ?_
      · refine j_aload_n C dX0_isBefore_123 0 rfl rfl ?_
        refine j_iload_n C dX0_isBefore_124 1 rfl rfl ?_
        refine j_iload_n C dX0_isBefore_125 2 rfl rfl ?_
        refine j_cvi C dX0_isBefore_126 lk_X0_169 mw_X0_waitsLonger (m_X0_waitsLonger adr x1 x2) ⟨rfl, rfl, Nat.le_of_ble_eq_true rfl, Nat.le_of_ble_eq_true rfl⟩ kd_14 (by decide) (Nat.le_of_ble_eq_true rfl) rfl rfl (st := []) (st0 := [.int x2, .int x1, .ref (adr 14)]) rfl (Nat.le_of_ble_eq_true rfl) (fun v13 S12 => ?_)
        exact j_zretv hR dX0_isBefore_129
      · refine j_sub C [3] rfl ?_
        exact b_X0_isBefore_113 C hR x3 S
def f_X0_isBefore_103 (s0 : Int32) (S : St) : Option (Int32 × St) :=
    bz s0 (some (s0, S))
set_option maxHeartbeats 1000000 in
theorem b_X0_isBefore_103 {K : Kt} {adr : Nat → Nat} {r : Int32 × St} (C : Cx K cX0_isBefore RX0 8 adr rm_X0_isBefore) (hR : ∀ (pc : Nat) (lv : List (Nat × Value)), (r.1 = 0 ∨ r.1 = 1) → decode cX0_isBefore pc = .ok (.ireturn, 1) → K pc lv [.int r.1] r.2) (s0 : Int32) (S : St) : J K r (f_X0_isBefore_103 s0 S) 103 [] [.int s0] S := by
    unfold f_X0_isBefore_103
    exact j_zretv hR dX0_isBefore_103
def f_X0_isBefore (x1 : Int32) (x2 : Int32) (S : St) : Option (Int32 × St) :=
  ck x1 12 (lt (S.1 52 x1.toNatClampNeg) fun v1 =>
  ck x2 12 (lt (S.1 52 x2.toNatClampNeg) fun v2 =>
  if v1 ≤ 0 then (f_X0_isBefore_104 x1 x2 v1 v2 S)
  else (if v2 ≤ 0 then (f_X0_isBefore_104 x1 x2 v1 v2 S)
    else (ck 3 5 (lt (64 * (S.1 13 (3 : Int32).toNatClampNeg)) fun v3 =>
      bd (f_X7_ownLevel x1 S) fun v5 S4 =>
      lt ((v5 - v3) * v2) fun v6 =>
      bd (f_X7_ownLevel x2 S4) fun v8 S7 =>
      lt ((v8 - v3) * v1) fun v9 =>
      if v6 = v9 then (bd (f_X0_waitsLonger x1 x2 S7) fun v11 S10 =>
        f_X0_isBefore_103 v11 S10)
      else (if v9 ≤ v6 then (f_X0_isBefore_103 0 S7)
        else (f_X0_isBefore_103 1 S7)))))))
set_option maxHeartbeats 1000000 in
theorem m_X0_isBefore (adr : Nat → Nat) (x1 : Int32) (x2 : Int32) : MtI yX0_isBefore cX0_isBefore 8 (some .boolean) rm_X0_isBefore adr [.ref (adr 14), .int x1, .int x2] (f_X0_isBefore x1 x2) := by
  refine MtI.ofZ (by decide +kernel) (Nat.le_of_ble_eq_true rfl) (fun K r S C hR => ?_)
  refine j_start (lv' := [(0, .ref (adr 14)), (1, .int x1), (2, .int x2)]) rfl ?_
  unfold f_X0_isBefore
  refine j_aload_n C dX0_isBefore_0 0 rfl rfl ?_
  refine j_getr C dX0_isBefore_1 fl_X0_22 kd_14 (by decide) (Nat.le_of_ble_eq_true rfl) rfl ?_
  refine j_getr C dX0_isBefore_4 fl_X0_114 kd_42 (by decide) (Nat.le_of_ble_eq_true rfl) rfl ?_
  refine j_iload_n C dX0_isBefore_7 1 rfl rfl ?_
  refine j_iald C dX0_isBefore_8 kd_52 (Nat.le_of_ble_eq_true rfl) ?_
  refine j_topi (fun v1 => ?_)
  refine j_istore_n C dX0_isBefore_9 rfl (by decide) rfl ?_
  refine j_aload_n C dX0_isBefore_10 1 rfl rfl ?_
  refine j_getr C dX0_isBefore_11 fl_X0_22 kd_14 (by decide) (Nat.le_of_ble_eq_true rfl) rfl ?_
  refine j_getr C dX0_isBefore_14 fl_X0_114 kd_42 (by decide) (Nat.le_of_ble_eq_true rfl) rfl ?_
  refine j_iload_n C dX0_isBefore_17 3 rfl rfl ?_
  refine j_iald C dX0_isBefore_18 kd_52 (Nat.le_of_ble_eq_true rfl) ?_
  refine j_topi (fun v2 => ?_)
  refine j_istore C dX0_isBefore_19 (by decide) rfl ?_
  refine j_iload_n C dX0_isBefore_21 1 rfl rfl ?_
  refine j_if_le C dX0_isBefore_22 (tgt := 104) (by decide) ?_ ?_
  · refine j_sub C [2, 3, 4, 1, 0] rfl ?_
    exact b_X0_isBefore_104 C hR x1 x2 v1 v2 S
  · refine j_iload C dX0_isBefore_25 0 rfl ?_
    refine j_if_le C dX0_isBefore_27 (tgt := 104) (by decide) ?_ ?_
    · refine j_sub C [2, 3, 4, 1, 0] rfl ?_
      exact b_X0_isBefore_104 C hR x1 x2 v1 v2 S
    · refine j_bipush C dX0_isBefore_30 (v := 64) rfl ?_
      refine j_aload_n C dX0_isBefore_32 2 rfl rfl ?_
      refine j_getr C dX0_isBefore_33 fl_X0_18 kd_14 (by decide) (Nat.le_of_ble_eq_true rfl) rfl ?_
      refine j_getr C dX0_isBefore_36 fl_X0_96 kd_9 (by decide) (Nat.le_of_ble_eq_true rfl) rfl ?_
      refine j_iconst C dX0_isBefore_39 (v := 3) rfl ?_
      refine j_iald C dX0_isBefore_40 kd_13 (Nat.le_of_ble_eq_true rfl) ?_
      refine j_imul C dX0_isBefore_41 ?_
      refine j_topi (fun v3 => ?_)
      refine j_istore C dX0_isBefore_42 (by decide) rfl ?_
      refine j_aload_n C dX0_isBefore_44 3 rfl rfl ?_
      refine j_getr C dX0_isBefore_45 fl_X0_22 kd_14 (by decide) (Nat.le_of_ble_eq_true rfl) rfl ?_
      refine j_iload_n C dX0_isBefore_48 4 rfl rfl ?_
      refine j_cvi C dX0_isBefore_49 lk_X0_93 mw_X7_ownLevel (m_X7_ownLevel adr x1) ⟨rfl, rfl, Nat.le_of_ble_eq_true rfl, Nat.le_of_ble_eq_true rfl⟩ kd_42 (by decide) (Nat.le_of_ble_eq_true rfl) rfl rfl (st := []) (st0 := [.int x1, .ref (adr 42)]) rfl (Nat.le_of_ble_eq_true rfl) (fun v5 S4 => ?_)
      refine j_iload C dX0_isBefore_52 0 rfl ?_
      refine j_isub C dX0_isBefore_54 ?_
      refine j_iload C dX0_isBefore_55 1 rfl ?_
      refine j_imul C dX0_isBefore_57 ?_
      refine j_topi (fun v6 => ?_)
      refine j_istore C dX0_isBefore_58 (by decide) rfl ?_
      refine j_aload_n C dX0_isBefore_60 4 rfl rfl ?_
      refine j_getr C dX0_isBefore_61 fl_X0_22 kd_14 (by decide) (Nat.le_of_ble_eq_true rfl) rfl ?_
      refine j_iload_n C dX0_isBefore_64 6 rfl rfl ?_
      refine j_cvi C dX0_isBefore_65 lk_X0_93 mw_X7_ownLevel (m_X7_ownLevel adr x2) ⟨rfl, rfl, Nat.le_of_ble_eq_true rfl, Nat.le_of_ble_eq_true rfl⟩ kd_42 (by decide) (Nat.le_of_ble_eq_true rfl) rfl rfl (st := []) (st0 := [.int x2, .ref (adr 42)]) rfl (Nat.le_of_ble_eq_true rfl) (fun v8 S7 => ?_)
      refine j_iload C dX0_isBefore_68 1 rfl ?_
      refine j_isub C dX0_isBefore_70 ?_
      refine j_iload_n C dX0_isBefore_71 3 rfl rfl ?_
      refine j_imul C dX0_isBefore_72 ?_
      refine j_topi (fun v9 => ?_)
      refine j_istore C dX0_isBefore_73 (by decide) rfl ?_
      refine j_iload C dX0_isBefore_75 1 rfl ?_
      refine j_iload C dX0_isBefore_77 0 rfl ?_
      refine j_icmp_eq C dX0_isBefore_79 (tgt := 97) (by decide) ?_ ?_
      · refine j_aload_n C dX0_isBefore_97 5 rfl rfl ?_
        refine j_iload_n C dX0_isBefore_98 6 rfl rfl ?_
        refine j_iload_n C dX0_isBefore_99 7 rfl rfl ?_
        refine j_cvi C dX0_isBefore_100 lk_X0_169 mw_X0_waitsLonger (m_X0_waitsLonger adr x1 x2) ⟨rfl, rfl, Nat.le_of_ble_eq_true rfl, Nat.le_of_ble_eq_true rfl⟩ kd_14 (by decide) (Nat.le_of_ble_eq_true rfl) rfl rfl (st := []) (st0 := [.int x2, .int x1, .ref (adr 14)]) rfl (Nat.le_of_ble_eq_true rfl) (fun v11 S10 => ?_)
        refine j_sub C [] rfl ?_
        exact b_X0_isBefore_103 C hR v11 S10
      · refine j_iload C dX0_isBefore_82 1 rfl ?_
        refine j_iload C dX0_isBefore_84 0 rfl ?_
        refine j_icmp_ge C dX0_isBefore_86 (tgt := 93) (by decide) ?_ ?_
        · refine j_iconst C dX0_isBefore_93 (v := 0) rfl ?_
          refine j_goto C dX0_isBefore_94 (tgt := 103) (by decide) ?_
          refine j_sub C [] rfl ?_
          exact b_X0_isBefore_103 C hR 0 S7
        · refine j_iconst C dX0_isBefore_89 (v := 1) rfl ?_
          refine j_goto C dX0_isBefore_90 (tgt := 103) (by decide) ?_
          refine j_sub C [] rfl ?_
          exact b_X0_isBefore_103 C hR 1 S7
-- X0_aheadOf
abbrev rm_X0_aheadOf : Room := { frames := 2, cells := 0, slots := 0, locals := 49 }
def f_X0_aheadOf_42 (k5 : Int32 → Int32 → Int32 → Int32 → St → Option (Int32 × St)) (x1 : Int32) (x2 : Int32) (x4 : Int32) (s0 : Int32) (s1 : Int32) (S : St) : Option (Int32 × St) :=
    lt (s1 + s0) fun v3 =>
    k5 x1 x2 v3 (x4 + 1) S
set_option maxHeartbeats 1000000 in
theorem b_X0_aheadOf_42 {K : Kt} {adr : Nat → Nat} {r : Int32 × St} (C : Cx K cX0_aheadOf RX0 5 adr rm_X0_aheadOf) (hR : ∀ (pc : Nat) (lv : List (Nat × Value)), decode cX0_aheadOf pc = .ok (.ireturn, 1) → K pc lv [.int r.1] r.2) (k5 : Int32 → Int32 → Int32 → Int32 → St → Option (Int32 × St)) (h5 : ∀ (x1 : Int32) (x2 : Int32) (x3 : Int32) (x4 : Int32) (S : St), J K r (k5 x1 x2 x3 x4 S) 5 [(0, .ref (adr 14)), (1, .int x1), (2, .int x2), (3, .int x3), (4, .int x4)] [] S) (x1 : Int32) (x2 : Int32) (x4 : Int32) (s0 : Int32) (s1 : Int32) (S : St) : J K r (f_X0_aheadOf_42 k5 x1 x2 x4 s0 s1 S) 42 [(0, .ref (adr 14)), (1, .int x1), (2, .int x2), (4, .int x4)] [.int s0, .int s1] S := by
    unfold f_X0_aheadOf_42
    refine j_iadd C dX0_aheadOf_42 ?_
    refine j_topi (fun v3 => ?_)
    refine j_istore_n C dX0_aheadOf_43 rfl (by decide) rfl ?_
    refine j_iinc C dX0_aheadOf_44 (v := x4 + 1) 4 rfl rfl (by decide) rfl ?_
    refine j_goto C dX0_aheadOf_47 (tgt := 5) (by decide) ?_
    refine j_sub C [2, 3, 4, 1, 0] rfl ?_
    exact h5 x1 x2 v3 (x4 + 1) S
def f_X0_aheadOf_41 (k5 : Int32 → Int32 → Int32 → Int32 → St → Option (Int32 × St)) (x1 : Int32) (x2 : Int32) (x4 : Int32) (s0 : Int32) (S : St) : Option (Int32 × St) :=
    f_X0_aheadOf_42 k5 x1 x2 x4 0 s0 S
set_option maxHeartbeats 1000000 in
theorem b_X0_aheadOf_41 {K : Kt} {adr : Nat → Nat} {r : Int32 × St} (C : Cx K cX0_aheadOf RX0 5 adr rm_X0_aheadOf) (hR : ∀ (pc : Nat) (lv : List (Nat × Value)), decode cX0_aheadOf pc = .ok (.ireturn, 1) → K pc lv [.int r.1] r.2) (k5 : Int32 → Int32 → Int32 → Int32 → St → Option (Int32 × St)) (h5 : ∀ (x1 : Int32) (x2 : Int32) (x3 : Int32) (x4 : Int32) (S : St), J K r (k5 x1 x2 x3 x4 S) 5 [(0, .ref (adr 14)), (1, .int x1), (2, .int x2), (3, .int x3), (4, .int x4)] [] S) (x1 : Int32) (x2 : Int32) (x4 : Int32) (s0 : Int32) (S : St) : J K r (f_X0_aheadOf_41 k5 x1 x2 x4 s0 S) 41 [(0, .ref (adr 14)), (1, .int x1), (2, .int x2), (4, .int x4)] [.int s0] S := by
    unfold f_X0_aheadOf_41
    refine j_iconst C dX0_aheadOf_41 (v := 0) rfl ?_
    exact b_X0_aheadOf_42 C hR k5 h5 x1 x2 x4 0 s0 S
def f_X0_aheadOf_5 : Nat → Int32 → Int32 → Int32 → Int32 → St → Option (Int32 × St)
  | 0, _, _, _, _, _ => none
  | n + 1, x1, x2, x3, x4, S =>
    if 12 ≤ x4 then (some (x3, S))
    else (ck x4 12 (if (S.1 46 x4.toNatClampNeg) = x2 then (bd (f_X0_isBefore x4 x1 S) fun v2 S1 =>
        if v2 = 0 then (f_X0_aheadOf_41 (f_X0_aheadOf_5 n) x1 x2 x4 x3 S1)
        else (f_X0_aheadOf_42 (f_X0_aheadOf_5 n) x1 x2 x4 1 x3 S1))
      else (f_X0_aheadOf_41 (f_X0_aheadOf_5 n) x1 x2 x4 x3 S)))
set_option maxHeartbeats 1000000 in
theorem b_X0_aheadOf_5 {K : Kt} {adr : Nat → Nat} {r : Int32 × St} (C : Cx K cX0_aheadOf RX0 5 adr rm_X0_aheadOf) (hR : ∀ (pc : Nat) (lv : List (Nat × Value)), decode cX0_aheadOf pc = .ok (.ireturn, 1) → K pc lv [.int r.1] r.2) : ∀ (n : Nat) (x1 : Int32) (x2 : Int32) (x3 : Int32) (x4 : Int32) (S : St), J K r (f_X0_aheadOf_5 n x1 x2 x3 x4 S) 5 [(0, .ref (adr 14)), (1, .int x1), (2, .int x2), (3, .int x3), (4, .int x4)] [] S := by
  intro n
  induction n with
  | zero => intro x1 x2 x3 x4 S h; cases h
  | succ n ih =>
    intro x1 x2 x3 x4 S
    unfold f_X0_aheadOf_5
    refine j_iload C dX0_aheadOf_5 4 rfl ?_
    refine j_bipush C dX0_aheadOf_7 (v := 12) rfl ?_
    refine j_icmp_ge C dX0_aheadOf_9 (tgt := 50) (by decide) ?_ ?_
    · refine j_iload_n C dX0_aheadOf_50 3 rfl rfl ?_
      exact j_iret hR dX0_aheadOf_51
    · refine j_iload_n C dX0_aheadOf_12 3 rfl rfl ?_
      refine j_aload_n C dX0_aheadOf_13 0 rfl rfl ?_
      refine j_getr C dX0_aheadOf_14 fl_X0_22 kd_14 (by decide) (Nat.le_of_ble_eq_true rfl) rfl ?_
      refine j_getr C dX0_aheadOf_17 fl_X0_120 kd_42 (by decide) (Nat.le_of_ble_eq_true rfl) rfl ?_
      refine j_iload C dX0_aheadOf_20 4 rfl ?_
      refine j_iald C dX0_aheadOf_22 kd_46 (Nat.le_of_ble_eq_true rfl) ?_
      refine j_iload_n C dX0_aheadOf_23 2 rfl rfl ?_
      refine j_icmp_ne C dX0_aheadOf_24 (tgt := 41) (by decide) ?_ ?_
      · refine j_sub C [0, 1, 2, 4] rfl ?_
        exact b_X0_aheadOf_41 C hR (f_X0_aheadOf_5 n) ih x1 x2 x4 x3 S
      · refine j_aload_n C dX0_aheadOf_27 0 rfl rfl ?_
        refine j_iload C dX0_aheadOf_28 4 rfl ?_
        refine j_iload_n C dX0_aheadOf_30 1 rfl rfl ?_
        refine j_cvi C dX0_aheadOf_31 lk_X0_165 mw_X0_isBefore (m_X0_isBefore adr x4 x1) ⟨rfl, rfl, Nat.le_of_ble_eq_true rfl, Nat.le_of_ble_eq_true rfl⟩ kd_14 (by decide) (Nat.le_of_ble_eq_true rfl) rfl rfl (st := [.int x3]) (st0 := [.int x1, .int x4, .ref (adr 14), .int x3]) rfl (Nat.le_of_ble_eq_true rfl) (fun v2 S1 => ?_)
        refine j_if_eq C dX0_aheadOf_34 (tgt := 41) (by decide) ?_ ?_
        · refine j_sub C [0, 1, 2, 4] rfl ?_
          exact b_X0_aheadOf_41 C hR (f_X0_aheadOf_5 n) ih x1 x2 x4 x3 S1
        · refine j_iconst C dX0_aheadOf_37 (v := 1) rfl ?_
          refine j_goto C dX0_aheadOf_38 (tgt := 42) (by decide) ?_
          refine j_sub C [0, 1, 2, 4] rfl ?_
          exact b_X0_aheadOf_42 C hR (f_X0_aheadOf_5 n) ih x1 x2 x4 1 x3 S1
def f_X0_aheadOf (x1 : Int32) (x2 : Int32) (S : St) : Option (Int32 × St) :=
  f_X0_aheadOf_5 FU x1 x2 0 0 S
set_option maxHeartbeats 1000000 in
theorem m_X0_aheadOf (adr : Nat → Nat) (x1 : Int32) (x2 : Int32) : MtI yX0_aheadOf cX0_aheadOf 5 (some .int) rm_X0_aheadOf adr [.ref (adr 14), .int x1, .int x2] (f_X0_aheadOf x1 x2) := by
  refine MtI.of (by decide +kernel) (Nat.le_of_ble_eq_true rfl) (fun K r S C hR => ?_)
  refine j_start (lv' := [(0, .ref (adr 14)), (1, .int x1), (2, .int x2)]) rfl ?_
  unfold f_X0_aheadOf
  refine j_iconst C dX0_aheadOf_0 (v := 0) rfl ?_
  refine j_istore_n C dX0_aheadOf_1 rfl (by decide) rfl ?_
  refine j_iconst C dX0_aheadOf_2 (v := 0) rfl ?_
  refine j_istore C dX0_aheadOf_3 (by decide) rfl ?_
  refine j_sub C [2, 3, 4, 1, 0] rfl ?_
  exact b_X0_aheadOf_5 C hR FU x1 x2 0 0 S
-- X0_waiter
abbrev rm_X0_waiter : Room := { frames := 3, cells := 0, slots := 0, locals := 73 }
def f_X0_waiter_33 (k2 : Int32 → Int32 → Int32 → St → Option (Int32 × St)) (x1 : Int32) (x2 : Int32) (x3 : Int32) (S : St) : Option (Int32 × St) :=
    k2 x1 x2 (x3 + 1) S
set_option maxHeartbeats 1000000 in
theorem b_X0_waiter_33 {K : Kt} {adr : Nat → Nat} {r : Int32 × St} (C : Cx K cX0_waiter RX0 4 adr rm_X0_waiter) (hR : ∀ (pc : Nat) (lv : List (Nat × Value)), decode cX0_waiter pc = .ok (.ireturn, 1) → K pc lv [.int r.1] r.2) (k2 : Int32 → Int32 → Int32 → St → Option (Int32 × St)) (h2 : ∀ (x1 : Int32) (x2 : Int32) (x3 : Int32) (S : St), J K r (k2 x1 x2 x3 S) 2 [(0, .ref (adr 14)), (1, .int x1), (2, .int x2), (3, .int x3)] [] S) (x1 : Int32) (x2 : Int32) (x3 : Int32) (S : St) : J K r (f_X0_waiter_33 k2 x1 x2 x3 S) 33 [(0, .ref (adr 14)), (1, .int x1), (2, .int x2), (3, .int x3)] [] S := by
    unfold f_X0_waiter_33
    refine j_iinc C dX0_waiter_33 (v := x3 + 1) 3 rfl rfl (by decide) rfl ?_
    refine j_goto C dX0_waiter_36 (tgt := 2) (by decide) ?_
    refine j_sub C [1, 2, 3, 0] rfl ?_
    exact h2 x1 x2 (x3 + 1) S
def f_X0_waiter_2 : Nat → Int32 → Int32 → Int32 → St → Option (Int32 × St)
  | 0, _, _, _, _ => none
  | n + 1, x1, x2, x3, S =>
    if 12 ≤ x3 then (some ((-9), S))
    else (ck x3 12 (if (S.1 46 x3.toNatClampNeg) = x1 then (bd (f_X0_aheadOf x3 x1 S) fun v2 S1 =>
        if v2 = x2 then (some (x3, S1))
        else (f_X0_waiter_33 (f_X0_waiter_2 n) x1 x2 x3 S1))
      else (f_X0_waiter_33 (f_X0_waiter_2 n) x1 x2 x3 S)))
set_option maxHeartbeats 1000000 in
theorem b_X0_waiter_2 {K : Kt} {adr : Nat → Nat} {r : Int32 × St} (C : Cx K cX0_waiter RX0 4 adr rm_X0_waiter) (hR : ∀ (pc : Nat) (lv : List (Nat × Value)), decode cX0_waiter pc = .ok (.ireturn, 1) → K pc lv [.int r.1] r.2) : ∀ (n : Nat) (x1 : Int32) (x2 : Int32) (x3 : Int32) (S : St), J K r (f_X0_waiter_2 n x1 x2 x3 S) 2 [(0, .ref (adr 14)), (1, .int x1), (2, .int x2), (3, .int x3)] [] S := by
  intro n
  induction n with
  | zero => intro x1 x2 x3 S h; cases h
  | succ n ih =>
    intro x1 x2 x3 S
    unfold f_X0_waiter_2
    refine j_iload_n C dX0_waiter_2 3 rfl rfl ?_
    refine j_bipush C dX0_waiter_3 (v := 12) rfl ?_
    refine j_icmp_ge C dX0_waiter_5 (tgt := 39) (by decide) ?_ ?_
    · refine j_bipush C dX0_waiter_39 (v := -9) rfl ?_
      exact j_iret hR dX0_waiter_41
    · refine j_aload_n C dX0_waiter_8 0 rfl rfl ?_
      refine j_getr C dX0_waiter_9 fl_X0_22 kd_14 (by decide) (Nat.le_of_ble_eq_true rfl) rfl ?_
      refine j_getr C dX0_waiter_12 fl_X0_120 kd_42 (by decide) (Nat.le_of_ble_eq_true rfl) rfl ?_
      refine j_iload_n C dX0_waiter_15 3 rfl rfl ?_
      refine j_iald C dX0_waiter_16 kd_46 (Nat.le_of_ble_eq_true rfl) ?_
      refine j_iload_n C dX0_waiter_17 1 rfl rfl ?_
      refine j_icmp_ne C dX0_waiter_18 (tgt := 33) (by decide) ?_ ?_
      · exact b_X0_waiter_33 C hR (f_X0_waiter_2 n) ih x1 x2 x3 S
      · refine j_aload_n C dX0_waiter_21 0 rfl rfl ?_
        refine j_iload_n C dX0_waiter_22 3 rfl rfl ?_
        refine j_iload_n C dX0_waiter_23 1 rfl rfl ?_
        refine j_cvi C dX0_waiter_24 lk_X0_162 mw_X0_aheadOf (m_X0_aheadOf adr x3 x1) ⟨rfl, rfl, Nat.le_of_ble_eq_true rfl, Nat.le_of_ble_eq_true rfl⟩ kd_14 (by decide) (Nat.le_of_ble_eq_true rfl) rfl rfl (st := []) (st0 := [.int x1, .int x3, .ref (adr 14)]) rfl (Nat.le_of_ble_eq_true rfl) (fun v2 S1 => ?_)
        refine j_iload_n C dX0_waiter_27 2 rfl rfl ?_
        refine j_icmp_ne C dX0_waiter_28 (tgt := 33) (by decide) ?_ ?_
        · exact b_X0_waiter_33 C hR (f_X0_waiter_2 n) ih x1 x2 x3 S1
        · refine j_iload_n C dX0_waiter_31 3 rfl rfl ?_
          exact j_iret hR dX0_waiter_32
def f_X0_waiter (x1 : Int32) (x2 : Int32) (S : St) : Option (Int32 × St) :=
  f_X0_waiter_2 FU x1 x2 0 S
set_option maxHeartbeats 1000000 in
theorem m_X0_waiter (adr : Nat → Nat) (x1 : Int32) (x2 : Int32) : MtI yX0_waiter cX0_waiter 4 (some .int) rm_X0_waiter adr [.ref (adr 14), .int x1, .int x2] (f_X0_waiter x1 x2) := by
  refine MtI.of (by decide +kernel) (Nat.le_of_ble_eq_true rfl) (fun K r S C hR => ?_)
  refine j_start (lv' := [(0, .ref (adr 14)), (1, .int x1), (2, .int x2)]) rfl ?_
  unfold f_X0_waiter
  refine j_iconst C dX0_waiter_0 (v := 0) rfl ?_
  refine j_istore_n C dX0_waiter_1 rfl (by decide) rfl ?_
  refine j_sub C [1, 2, 3, 0] rfl ?_
  exact b_X0_waiter_2 C hR FU x1 x2 0 S
-- X0_serveFreed
abbrev rm_X0_serveFreed : Room := { frames := 4, cells := 0, slots := 0, locals := 96 }
def f_X0_serveFreed_90 (x1 : Int32) (S : St) : Option (Int32 × St) :=
    lt (upI S 14 4 0) fun S6 =>
    some (x1, S6)
set_option maxHeartbeats 1000000 in
theorem b_X0_serveFreed_90 {K : Kt} {adr : Nat → Nat} {r : Int32 × St} (C : Cx K cX0_serveFreed RX0 6 adr rm_X0_serveFreed) (hR : ∀ (pc : Nat) (lv : List (Nat × Value)), decode cX0_serveFreed pc = .ok (.ireturn, 1) → K pc lv [.int r.1] r.2) (x1 : Int32) (S : St) : J K r (f_X0_serveFreed_90 x1 S) 90 [(0, .ref (adr 14)), (1, .int x1)] [] S := by
    unfold f_X0_serveFreed_90
    refine j_aload_n C dX0_serveFreed_90 0 rfl rfl ?_
    refine j_iconst C dX0_serveFreed_91 (v := 0) rfl ?_
    refine j_puti C dX0_serveFreed_92 fl_X0_156 fi_X0_4 kd_14 (by decide) (Nat.le_of_ble_eq_true rfl) rfl (fun S6 => ?_)
    refine j_iload_n C dX0_serveFreed_95 1 rfl rfl ?_
    exact j_iret hR dX0_serveFreed_96
def f_X0_serveFreed_84 (k6 : Int32 → Int32 → Int32 → St → Option (Int32 × St)) (x1 : Int32) (x2 : Int32) (x3 : Int32) (S : St) : Option (Int32 × St) :=
    k6 x1 x2 (x3 + 1) S
set_option maxHeartbeats 1000000 in
theorem b_X0_serveFreed_84 {K : Kt} {adr : Nat → Nat} {r : Int32 × St} (C : Cx K cX0_serveFreed RX0 6 adr rm_X0_serveFreed) (hR : ∀ (pc : Nat) (lv : List (Nat × Value)), decode cX0_serveFreed pc = .ok (.ireturn, 1) → K pc lv [.int r.1] r.2) (k6 : Int32 → Int32 → Int32 → St → Option (Int32 × St)) (h6 : ∀ (x1 : Int32) (x2 : Int32) (x3 : Int32) (S : St), J K r (k6 x1 x2 x3 S) 6 [(0, .ref (adr 14)), (1, .int x1), (2, .int x2), (3, .int x3)] [] S) (x1 : Int32) (x2 : Int32) (x3 : Int32) (S : St) : J K r (f_X0_serveFreed_84 k6 x1 x2 x3 S) 84 [(0, .ref (adr 14)), (1, .int x1), (2, .int x2), (3, .int x3)] [] S := by
    unfold f_X0_serveFreed_84
    refine j_iinc C dX0_serveFreed_84 (v := x3 + 1) 3 rfl rfl (by decide) rfl ?_
    refine j_goto C dX0_serveFreed_87 (tgt := 6) (by decide) ?_
    refine j_sub C [1, 2, 3, 0] rfl ?_
    exact h6 x1 x2 (x3 + 1) S
def f_X0_serveFreed_58 (k6 : Int32 → Int32 → Int32 → St → Option (Int32 × St)) (x1 : Int32) (x2 : Int32) (x3 : Int32) (x4 : Int32) (s0 : Int32) (S : St) : Option (Int32 × St) :=
    if s0 = (-9) then (f_X0_serveFreed_84 k6 x1 (x2 + 1) x3 S)
    else (bdV (f_X0_move s0 x4 S) fun S7 =>
      f_X0_serveFreed_84 k6 (x1 + 1) x2 x3 S7)
set_option maxHeartbeats 1000000 in
theorem b_X0_serveFreed_58 {K : Kt} {adr : Nat → Nat} {r : Int32 × St} (C : Cx K cX0_serveFreed RX0 6 adr rm_X0_serveFreed) (hR : ∀ (pc : Nat) (lv : List (Nat × Value)), decode cX0_serveFreed pc = .ok (.ireturn, 1) → K pc lv [.int r.1] r.2) (k6 : Int32 → Int32 → Int32 → St → Option (Int32 × St)) (h6 : ∀ (x1 : Int32) (x2 : Int32) (x3 : Int32) (S : St), J K r (k6 x1 x2 x3 S) 6 [(0, .ref (adr 14)), (1, .int x1), (2, .int x2), (3, .int x3)] [] S) (x1 : Int32) (x2 : Int32) (x3 : Int32) (x4 : Int32) (s0 : Int32) (S : St) : J K r (f_X0_serveFreed_58 k6 x1 x2 x3 x4 s0 S) 58 [(0, .ref (adr 14)), (1, .int x1), (2, .int x2), (3, .int x3), (4, .int x4)] [.int s0] S := by
    unfold f_X0_serveFreed_58
    refine j_istore C dX0_serveFreed_58 (by decide) rfl ?_
    refine j_iload C dX0_serveFreed_60 0 rfl ?_
    refine j_bipush C dX0_serveFreed_62 (v := -9) rfl ?_
    refine j_icmp_ne C dX0_serveFreed_64 (tgt := 73) (by decide) ?_ ?_
    · refine j_aload_n C dX0_serveFreed_73 1 rfl rfl ?_
      refine j_iload C dX0_serveFreed_74 0 rfl ?_
      refine j_iload C dX0_serveFreed_76 5 rfl ?_
      refine j_cvv C dX0_serveFreed_78 lk_X0_126 mw_X0_move (m_X0_move adr s0 x4) ⟨rfl, rfl, Nat.le_of_ble_eq_true rfl, Nat.le_of_ble_eq_true rfl⟩ kd_14 (by decide) (Nat.le_of_ble_eq_true rfl) rfl rfl (st := []) (st0 := [.int x4, .int s0, .ref (adr 14)]) rfl (Nat.le_of_ble_eq_true rfl) (fun S7 => ?_)
      refine j_iinc C dX0_serveFreed_81 (v := x1 + 1) 2 rfl rfl (by decide) rfl ?_
      refine j_sub C [2, 0, 3, 4] rfl ?_
      exact b_X0_serveFreed_84 C hR k6 h6 (x1 + 1) x2 x3 S7
    · refine j_iinc C dX0_serveFreed_67 (v := x2 + 1) 3 rfl rfl (by decide) rfl ?_
      refine j_goto C dX0_serveFreed_70 (tgt := 84) (by decide) ?_
      refine j_sub C [2, 3, 0, 4] rfl ?_
      exact b_X0_serveFreed_84 C hR k6 h6 x1 (x2 + 1) x3 S
def f_X0_serveFreed_6 : Nat → Int32 → Int32 → Int32 → St → Option (Int32 × St)
  | 0, _, _, _, _ => none
  | n + 1, x1, x2, x3, S =>
    if 24 < x3 then (f_X0_serveFreed_90 x1 S)
    else (if (S.1 14 4) ≤ x2 then (f_X0_serveFreed_90 x1 S)
      else (if 13 ≤ x2 then (f_X0_serveFreed_90 x1 S)
        else (ck x2 13 (lt (S.1 16 x2.toNatClampNeg) fun v1 =>
          bd (f_X0_free v1 S) fun v3 S2 =>
          if v3 ≤ 0 then (f_X0_serveFreed_58 (f_X0_serveFreed_6 n) x1 x2 x3 v1 (-9) S2)
          else (bd (f_X0_waiter v1 0 S2) fun v5 S4 =>
            f_X0_serveFreed_58 (f_X0_serveFreed_6 n) x1 x2 x3 v1 v5 S4)))))
set_option maxHeartbeats 1000000 in
theorem b_X0_serveFreed_6 {K : Kt} {adr : Nat → Nat} {r : Int32 × St} (C : Cx K cX0_serveFreed RX0 6 adr rm_X0_serveFreed) (hR : ∀ (pc : Nat) (lv : List (Nat × Value)), decode cX0_serveFreed pc = .ok (.ireturn, 1) → K pc lv [.int r.1] r.2) : ∀ (n : Nat) (x1 : Int32) (x2 : Int32) (x3 : Int32) (S : St), J K r (f_X0_serveFreed_6 n x1 x2 x3 S) 6 [(0, .ref (adr 14)), (1, .int x1), (2, .int x2), (3, .int x3)] [] S := by
  intro n
  induction n with
  | zero => intro x1 x2 x3 S h; cases h
  | succ n ih =>
    intro x1 x2 x3 S
    unfold f_X0_serveFreed_6
    refine j_iload_n C dX0_serveFreed_6 3 rfl rfl ?_
    refine j_bipush C dX0_serveFreed_7 (v := 24) rfl ?_
    refine j_icmp_gt C dX0_serveFreed_9 (tgt := 90) (by decide) ?_ ?_
    · refine j_sub C [0, 1] rfl ?_
      exact b_X0_serveFreed_90 C hR x1 S
    · refine j_iload_n C dX0_serveFreed_12 2 rfl rfl ?_
      refine j_aload_n C dX0_serveFreed_13 0 rfl rfl ?_
      refine j_geti C dX0_serveFreed_14 fl_X0_156 kd_14 (by decide) (Nat.le_of_ble_eq_true rfl) rfl ?_
      refine j_icmp_ge C dX0_serveFreed_17 (tgt := 90) (by decide) ?_ ?_
      · refine j_sub C [0, 1] rfl ?_
        exact b_X0_serveFreed_90 C hR x1 S
      · refine j_iload_n C dX0_serveFreed_20 2 rfl rfl ?_
        refine j_aload_n C dX0_serveFreed_21 0 rfl rfl ?_
        refine j_getr C dX0_serveFreed_22 fl_X0_15 kd_14 (by decide) (Nat.le_of_ble_eq_true rfl) rfl ?_
        refine j_alen C dX0_serveFreed_25 kd_16 (Nat.le_of_ble_eq_true rfl) (v := 13) rfl ?_
        refine j_icmp_ge C dX0_serveFreed_26 (tgt := 90) (by decide) ?_ ?_
        · refine j_sub C [0, 1] rfl ?_
          exact b_X0_serveFreed_90 C hR x1 S
        · refine j_aload_n C dX0_serveFreed_29 0 rfl rfl ?_
          refine j_getr C dX0_serveFreed_30 fl_X0_15 kd_14 (by decide) (Nat.le_of_ble_eq_true rfl) rfl ?_
          refine j_iload_n C dX0_serveFreed_33 2 rfl rfl ?_
          refine j_iald C dX0_serveFreed_34 kd_16 (Nat.le_of_ble_eq_true rfl) ?_
          refine j_topi (fun v1 => ?_)
          refine j_istore C dX0_serveFreed_35 (by decide) rfl ?_
          refine j_aload_n C dX0_serveFreed_37 1 rfl rfl ?_
          refine j_iload C dX0_serveFreed_38 0 rfl ?_
          refine j_cvi C dX0_serveFreed_40 lk_X0_37 mw_X0_free (m_X0_free adr v1) ⟨rfl, rfl, Nat.le_of_ble_eq_true rfl, Nat.le_of_ble_eq_true rfl⟩ kd_14 (by decide) (Nat.le_of_ble_eq_true rfl) rfl rfl (st := []) (st0 := [.int v1, .ref (adr 14)]) rfl (Nat.le_of_ble_eq_true rfl) (fun v3 S2 => ?_)
          refine j_if_le C dX0_serveFreed_43 (tgt := 56) (by decide) ?_ ?_
          · refine j_bipush C dX0_serveFreed_56 (v := -9) rfl ?_
            refine j_sub C [1, 2, 3, 4, 0] rfl ?_
            exact b_X0_serveFreed_58 C hR (f_X0_serveFreed_6 n) ih x1 x2 x3 v1 (-9) S2
          · refine j_aload_n C dX0_serveFreed_46 1 rfl rfl ?_
            refine j_iload C dX0_serveFreed_47 0 rfl ?_
            refine j_iconst C dX0_serveFreed_49 (v := 0) rfl ?_
            refine j_cvi C dX0_serveFreed_50 lk_X0_159 mw_X0_waiter (m_X0_waiter adr v1 0) ⟨rfl, rfl, Nat.le_of_ble_eq_true rfl, Nat.le_of_ble_eq_true rfl⟩ kd_14 (by decide) (Nat.le_of_ble_eq_true rfl) rfl rfl (st := []) (st0 := [.int 0, .int v1, .ref (adr 14)]) rfl (Nat.le_of_ble_eq_true rfl) (fun v5 S4 => ?_)
            refine j_goto C dX0_serveFreed_53 (tgt := 58) (by decide) ?_
            refine j_sub C [1, 2, 3, 4, 0] rfl ?_
            exact b_X0_serveFreed_58 C hR (f_X0_serveFreed_6 n) ih x1 x2 x3 v1 v5 S4
def f_X0_serveFreed  (S : St) : Option (Int32 × St) :=
  f_X0_serveFreed_6 FU 0 0 0 S
set_option maxHeartbeats 1000000 in
theorem m_X0_serveFreed (adr : Nat → Nat)  : MtI yX0_serveFreed cX0_serveFreed 6 (some .int) rm_X0_serveFreed adr [.ref (adr 14)] (f_X0_serveFreed ) := by
  refine MtI.of (by decide +kernel) (Nat.le_of_ble_eq_true rfl) (fun K r S C hR => ?_)
  refine j_start (lv' := [(0, .ref (adr 14))]) rfl ?_
  unfold f_X0_serveFreed
  refine j_iconst C dX0_serveFreed_0 (v := 0) rfl ?_
  refine j_istore_n C dX0_serveFreed_1 rfl (by decide) rfl ?_
  refine j_iconst C dX0_serveFreed_2 (v := 0) rfl ?_
  refine j_istore_n C dX0_serveFreed_3 rfl (by decide) rfl ?_
  refine j_iconst C dX0_serveFreed_4 (v := 0) rfl ?_
  refine j_istore_n C dX0_serveFreed_5 rfl (by decide) rfl ?_
  refine j_sub C [3, 2, 1, 0] rfl ?_
  exact b_X0_serveFreed_6 C hR FU 0 0 0 S
