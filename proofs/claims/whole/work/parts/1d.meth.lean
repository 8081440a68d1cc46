-- X7_appear
abbrev rm_X7_appear : Room := { frames := 1, cells := 0, slots := 0, locals := 22 }
def f_X7_appear_98 (k68 : Int32 → Int32 → Int32 → Int32 → St → Option (St)) (x1 : Int32) (x2 : Int32) (x3 : Int32) (x4 : Int32) (s0 : Int32) (s1 : Int32) (S : St) : Option (St) :=
    ck s1 48 (lt (upI S 54 s1.toNatClampNeg s0) fun S11 =>
    k68 x1 x2 x3 (x4 + 1) S11)
set_option maxHeartbeats 1000000 in
theorem b_X7_appear_98 {K : Kt} {adr : Nat → Nat} {r : St} (C : Cx K cX7_appear RX7 5 adr rm_X7_appear) (hR : ∀ (pc : Nat) (lv : List (Nat × Value)), decode cX7_appear pc = .ok (.return_, 1) → K pc lv [] r) (k68 : Int32 → Int32 → Int32 → Int32 → St → Option (St)) (h68 : ∀ (x1 : Int32) (x2 : Int32) (x3 : Int32) (x4 : Int32) (S : St), J K r (k68 x1 x2 x3 x4 S) 68 [(0, .ref (adr 42)), (1, .int x1), (2, .int x2), (3, .int x3), (4, .int x4)] [] S) (x1 : Int32) (x2 : Int32) (x3 : Int32) (x4 : Int32) (s0 : Int32) (s1 : Int32) (S : St) : J K r (f_X7_appear_98 k68 x1 x2 x3 x4 s0 s1 S) 98 [(0, .ref (adr 42)), (1, .int x1), (2, .int x2), (3, .int x3), (4, .int x4)] [.int s0, .int s1, .ref (adr 54)] S := by
    unfold f_X7_appear_98
    refine j_iast C dX7_appear_98 kd_54 (Nat.le_of_ble_eq_true rfl) (fun S11 => ?_)
    refine j_iinc C dX7_appear_99 (v := x4 + 1) 4 rfl rfl (by decide) rfl ?_
    refine j_goto C dX7_appear_102 (tgt := 68) (by decide) ?_
    refine j_sub C [1, 2, 3, 4, 0] rfl ?_
    exact h68 x1 x2 x3 (x4 + 1) S11
def f_X7_appear_68 : Nat → Int32 → Int32 → Int32 → Int32 → St → Option (St)
  | 0, _, _, _, _, _ => none
  | n + 1, x1, x2, x3, x4, S =>
    if 4 ≤ x4 then (bdV (f_X7_clearStreaks x1 S) fun S10 =>
      some S10)
    else (if x4 = x2 then (f_X7_appear_98 (f_X7_appear_68 n) x1 x2 x3 x4 (64 * x3) ((x1 * 4) + x4) S)
      else (f_X7_appear_98 (f_X7_appear_68 n) x1 x2 x3 x4 0 ((x1 * 4) + x4) S))
set_option maxHeartbeats 1000000 in
theorem b_X7_appear_68 {K : Kt} {adr : Nat → Nat} {r : St} (C : Cx K cX7_appear RX7 5 adr rm_X7_appear) (hR : ∀ (pc : Nat) (lv : List (Nat × Value)), decode cX7_appear pc = .ok (.return_, 1) → K pc lv [] r) : ∀ (n : Nat) (x1 : Int32) (x2 : Int32) (x3 : Int32) (x4 : Int32) (S : St), J K r (f_X7_appear_68 n x1 x2 x3 x4 S) 68 [(0, .ref (adr 42)), (1, .int x1), (2, .int x2), (3, .int x3), (4, .int x4)] [] S := by
  intro n
  induction n with
  | zero => intro x1 x2 x3 x4 S h; cases h
  | succ n ih =>
    intro x1 x2 x3 x4 S
    unfold f_X7_appear_68
    refine j_iload C dX7_appear_68 4 rfl ?_
    refine j_iconst C dX7_appear_70 (v := 4) rfl ?_
    refine j_icmp_ge C dX7_appear_71 (tgt := 105) (by decide) ?_ ?_
    · refine j_aload_n C dX7_appear_105 0 rfl rfl ?_
      refine j_iload_n C dX7_appear_106 1 rfl rfl ?_
      refine j_cvv C dX7_appear_107 lk_X7_92 mw_X7_clearStreaks (m_X7_clearStreaks adr x1) ⟨rfl, rfl, Nat.le_of_ble_eq_true rfl, Nat.le_of_ble_eq_true rfl⟩ kd_42 (by decide) (Nat.le_of_ble_eq_true rfl) rfl rfl (st := []) (st0 := [.int x1, .ref (adr 42)]) rfl (Nat.le_of_ble_eq_true rfl) (fun S10 => ?_)
      exact j_vret hR dX7_appear_110
    · refine j_aload_n C dX7_appear_74 0 rfl rfl ?_
      refine j_getr C dX7_appear_75 fl_X7_45 kd_42 (by decide) (Nat.le_of_ble_eq_true rfl) rfl ?_
      refine j_iload_n C dX7_appear_78 1 rfl rfl ?_
      refine j_iconst C dX7_appear_79 (v := 4) rfl ?_
      refine j_imul C dX7_appear_80 ?_
      refine j_iload C dX7_appear_81 4 rfl ?_
      refine j_iadd C dX7_appear_83 ?_
      refine j_iload C dX7_appear_84 4 rfl ?_
      refine j_iload_n C dX7_appear_86 2 rfl rfl ?_
      refine j_icmp_ne C dX7_appear_87 (tgt := 97) (by decide) ?_ ?_
      · refine j_iconst C dX7_appear_97 (v := 0) rfl ?_
        exact b_X7_appear_98 C hR (f_X7_appear_68 n) ih x1 x2 x3 x4 0 ((x1 * 4) + x4) S
      · refine j_bipush C dX7_appear_90 (v := 64) rfl ?_
        refine j_iload_n C dX7_appear_92 3 rfl rfl ?_
        refine j_imul C dX7_appear_93 ?_
        refine j_goto C dX7_appear_94 (tgt := 98) (by decide) ?_
        exact b_X7_appear_98 C hR (f_X7_appear_68 n) ih x1 x2 x3 x4 (64 * x3) ((x1 * 4) + x4) S
def f_X7_appear (x1 : Int32) (x2 : Int32) (x3 : Int32) (S : St) : Option (St) :=
  ck x1 12 (lt (upI S 45 x1.toNatClampNeg x2) fun S1 =>
  ck x1 12 (lt (upI S1 46 x1.toNatClampNeg (-9)) fun S2 =>
  ck x1 12 (lt (upI S2 47 x1.toNatClampNeg 0) fun S3 =>
  ck x1 12 (lt (upI S3 48 x1.toNatClampNeg 0) fun S4 =>
  ck x1 12 (lt (upI S4 49 x1.toNatClampNeg 0) fun S5 =>
  ck x1 12 (lt (upI S5 50 x1.toNatClampNeg 0) fun S6 =>
  ck x1 12 (lt (upI S6 51 x1.toNatClampNeg 0) fun S7 =>
  ck x1 12 (lt (upI S7 52 x1.toNatClampNeg 0) fun S8 =>
  ck x1 12 (lt (upI S8 53 x1.toNatClampNeg (-9)) fun S9 =>
  f_X7_appear_68 FU x1 x2 x3 0 S9)))))))))
set_option maxHeartbeats 1000000 in
theorem m_X7_appear (adr : Nat → Nat) (x1 : Int32) (x2 : Int32) (x3 : Int32) : MtV yX7_appear cX7_appear 5 none rm_X7_appear adr [.ref (adr 42), .int x1, .int x2, .int x3] (f_X7_appear x1 x2 x3) := by
  refine MtV.of (by decide +kernel) (Nat.le_of_ble_eq_true rfl) (fun K r S C hR => ?_)
  refine j_start (lv' := [(0, .ref (adr 42)), (1, .int x1), (2, .int x2), (3, .int x3)]) rfl ?_
  unfold f_X7_appear
  refine j_aload_n C dX7_appear_0 0 rfl rfl ?_
  refine j_getr C dX7_appear_1 fl_X7_18 kd_42 (by decide) (Nat.le_of_ble_eq_true rfl) rfl ?_
  refine j_iload_n C dX7_appear_4 1 rfl rfl ?_
  refine j_iload_n C dX7_appear_5 2 rfl rfl ?_
  refine j_iast C dX7_appear_6 kd_45 (Nat.le_of_ble_eq_true rfl) (fun S1 => ?_)
  refine j_aload_n C dX7_appear_7 0 rfl rfl ?_
  refine j_getr C dX7_appear_8 fl_X7_21 kd_42 (by decide) (Nat.le_of_ble_eq_true rfl) rfl ?_
  refine j_iload_n C dX7_appear_11 1 rfl rfl ?_
  refine j_bipush C dX7_appear_12 (v := -9) rfl ?_
  refine j_iast C dX7_appear_14 kd_46 (Nat.le_of_ble_eq_true rfl) (fun S2 => ?_)
  refine j_aload_n C dX7_appear_15 0 rfl rfl ?_
  refine j_getr C dX7_appear_16 fl_X7_24 kd_42 (by decide) (Nat.le_of_ble_eq_true rfl) rfl ?_
  refine j_iload_n C dX7_appear_19 1 rfl rfl ?_
  refine j_iconst C dX7_appear_20 (v := 0) rfl ?_
  refine j_iast C dX7_appear_21 kd_47 (Nat.le_of_ble_eq_true rfl) (fun S3 => ?_)
  refine j_aload_n C dX7_appear_22 0 rfl rfl ?_
  refine j_getr C dX7_appear_23 fl_X7_27 kd_42 (by decide) (Nat.le_of_ble_eq_true rfl) rfl ?_
  refine j_iload_n C dX7_appear_26 1 rfl rfl ?_
  refine j_iconst C dX7_appear_27 (v := 0) rfl ?_
  refine j_iast C dX7_appear_28 kd_48 (Nat.le_of_ble_eq_true rfl) (fun S4 => ?_)
  refine j_aload_n C dX7_appear_29 0 rfl rfl ?_
  refine j_getr C dX7_appear_30 fl_X7_30 kd_42 (by decide) (Nat.le_of_ble_eq_true rfl) rfl ?_
  refine j_iload_n C dX7_appear_33 1 rfl rfl ?_
  refine j_iconst C dX7_appear_34 (v := 0) rfl ?_
  refine j_iast C dX7_appear_35 kd_49 (Nat.le_of_ble_eq_true rfl) (fun S5 => ?_)
  refine j_aload_n C dX7_appear_36 0 rfl rfl ?_
  refine j_getr C dX7_appear_37 fl_X7_33 kd_42 (by decide) (Nat.le_of_ble_eq_true rfl) rfl ?_
  refine j_iload_n C dX7_appear_40 1 rfl rfl ?_
  refine j_iconst C dX7_appear_41 (v := 0) rfl ?_
  refine j_iast C dX7_appear_42 kd_50 (Nat.le_of_ble_eq_true rfl) (fun S6 => ?_)
  refine j_aload_n C dX7_appear_43 0 rfl rfl ?_
  refine j_getr C dX7_appear_44 fl_X7_36 kd_42 (by decide) (Nat.le_of_ble_eq_true rfl) rfl ?_
  refine j_iload_n C dX7_appear_47 1 rfl rfl ?_
  refine j_iconst C dX7_appear_48 (v := 0) rfl ?_
  refine j_iast C dX7_appear_49 kd_51 (Nat.le_of_ble_eq_true rfl) (fun S7 => ?_)
  refine j_aload_n C dX7_appear_50 0 rfl rfl ?_
  refine j_getr C dX7_appear_51 fl_X7_39 kd_42 (by decide) (Nat.le_of_ble_eq_true rfl) rfl ?_
  refine j_iload_n C dX7_appear_54 1 rfl rfl ?_
  refine j_iconst C dX7_appear_55 (v := 0) rfl ?_
  refine j_iast C dX7_appear_56 kd_52 (Nat.le_of_ble_eq_true rfl) (fun S8 => ?_)
  refine j_aload_n C dX7_appear_57 0 rfl rfl ?_
  refine j_getr C dX7_appear_58 fl_X7_42 kd_42 (by decide) (Nat.le_of_ble_eq_true rfl) rfl ?_
  refine j_iload_n C dX7_appear_61 1 rfl rfl ?_
  refine j_bipush C dX7_appear_62 (v := -9) rfl ?_
  refine j_iast C dX7_appear_64 kd_53 (Nat.le_of_ble_eq_true rfl) (fun S9 => ?_)
  refine j_iconst C dX7_appear_65 (v := 0) rfl ?_
  refine j_istore C dX7_appear_66 (by decide) rfl ?_
  refine j_sub C [1, 2, 3, 4, 0] rfl ?_
  exact b_X7_appear_68 C hR FU x1 x2 x3 0 S9
-- X0_offer
abbrev rm_X0_offer : Room := { frames := 4, cells := 0, slots := 0, locals := 86 }
def f_X0_offer_35  (S : St) : Option (Int32 × St) :=
    some ((-9), S)
set_option maxHeartbeats 1000000 in
theorem b_X0_offer_35 {K : Kt} {adr : Nat → Nat} {r : Int32 × St} (C : Cx K cX0_offer RX0 4 adr rm_X0_offer) (hR : ∀ (pc : Nat) (lv : List (Nat × Value)), decode cX0_offer pc = .ok (.ireturn, 1) → K pc lv [.int r.1] r.2)  (S : St) : J K r (f_X0_offer_35  S) 35 [] [] S := by
    unfold f_X0_offer_35
    refine j_bipush C dX0_offer_35 (v := -9) rfl ?_
    exact j_iret hR dX0_offer_37
def f_X0_offer (x1 : Int32) (x2 : Int32) (S : St) : Option (Int32 × St) :=
  bdV (f_X7_tallyOne x1 0 S) fun S1 =>
  bd (f_X7_lowestAbsent S1) fun v3 S2 =>
  if v3 = (-9) then (f_X0_offer_35 S2)
  else (bd (f_X0_chanceOf x1 S2) fun v5 S4 =>
    bd (f_X0_isTaken v5 S4) fun v7 S6 =>
    if v7 = 0 then (f_X0_offer_35 S6)
    else (bdV (f_X7_tallyOne x1 1 S6) fun S8 =>
      bdV (f_X7_appear v3 x1 x2 S8) fun S9 =>
      some (v3, S9)))
set_option maxHeartbeats 1000000 in
theorem m_X0_offer (adr : Nat → Nat) (x1 : Int32) (x2 : Int32) : MtI yX0_offer cX0_offer 4 (some .int) rm_X0_offer adr [.ref (adr 14), .int x1, .int x2] (f_X0_offer x1 x2) := by
  refine MtI.of (by decide +kernel) (Nat.le_of_ble_eq_true rfl) (fun K r S C hR => ?_)
  refine j_start (lv' := [(0, .ref (adr 14)), (1, .int x1), (2, .int x2)]) rfl ?_
  unfold f_X0_offer
  refine j_aload_n C dX0_offer_0 0 rfl rfl ?_
  refine j_getr C dX0_offer_1 fl_X0_22 kd_14 (by decide) (Nat.le_of_ble_eq_true rfl) rfl ?_
  refine j_iload_n C dX0_offer_4 1 rfl rfl ?_
  refine j_iconst C dX0_offer_5 (v := 0) rfl ?_
  refine j_cvv C dX0_offer_6 lk_X0_47 mw_X7_tallyOne (m_X7_tallyOne adr x1 0) ⟨rfl, rfl, Nat.le_of_ble_eq_true rfl, Nat.le_of_ble_eq_true rfl⟩ kd_42 (by decide) (Nat.le_of_ble_eq_true rfl) rfl rfl (st := []) (st0 := [.int 0, .int x1, .ref (adr 42)]) rfl (Nat.le_of_ble_eq_true rfl) (fun S1 => ?_)
  refine j_aload_n C dX0_offer_9 0 rfl rfl ?_
  refine j_getr C dX0_offer_10 fl_X0_22 kd_14 (by decide) (Nat.le_of_ble_eq_true rfl) rfl ?_
  refine j_cvi C dX0_offer_13 lk_X0_51 mw_X7_lowestAbsent (m_X7_lowestAbsent adr ) ⟨rfl, rfl, Nat.le_of_ble_eq_true rfl, Nat.le_of_ble_eq_true rfl⟩ kd_42 (by decide) (Nat.le_of_ble_eq_true rfl) rfl rfl (st := []) (st0 := [.ref (adr 42)]) rfl (Nat.le_of_ble_eq_true rfl) (fun v3 S2 => ?_)
  refine j_istore_n C dX0_offer_16 rfl (by decide) rfl ?_
  refine j_iload_n C dX0_offer_17 0 rfl rfl ?_
  refine j_bipush C dX0_offer_18 (v := -9) rfl ?_
  refine j_icmp_eq C dX0_offer_20 (tgt := 35) (by decide) ?_ ?_
  · refine j_sub C [] rfl ?_
    exact b_X0_offer_35 C hR S2
  · refine j_aload_n C dX0_offer_23 1 rfl rfl ?_
    refine j_aload_n C dX0_offer_24 1 rfl rfl ?_
    refine j_iload_n C dX0_offer_25 2 rfl rfl ?_
    refine j_cvi C dX0_offer_26 lk_X0_55 mw_X0_chanceOf (m_X0_chanceOf adr x1) ⟨rfl, rfl, Nat.le_of_ble_eq_true rfl, Nat.le_of_ble_eq_true rfl⟩ kd_14 (by decide) (Nat.le_of_ble_eq_true rfl) rfl rfl (st := [.ref (adr 14)]) (st0 := [.int x1, .ref (adr 14), .ref (adr 14)]) rfl (Nat.le_of_ble_eq_true rfl) (fun v5 S4 => ?_)
    refine j_cvi C dX0_offer_29 lk_X0_58 mw_X0_isTaken (m_X0_isTaken adr v5) ⟨rfl, rfl, Nat.le_of_ble_eq_true rfl, Nat.le_of_ble_eq_true rfl⟩ kd_14 (by decide) (Nat.le_of_ble_eq_true rfl) rfl rfl (st := []) (st0 := [.int v5, .ref (adr 14)]) rfl (Nat.le_of_ble_eq_true rfl) (fun v7 S6 => ?_)
    refine j_if_ne C dX0_offer_32 (tgt := 38) (by decide) ?_ ?_
    · refine j_aload_n C dX0_offer_38 1 rfl rfl ?_
      refine j_getr C dX0_offer_39 fl_X0_22 kd_14 (by decide) (Nat.le_of_ble_eq_true rfl) rfl ?_
      refine j_iload_n C dX0_offer_42 2 rfl rfl ?_
      refine j_iconst C dX0_offer_43 (v := 1) rfl ?_
      refine j_cvv C dX0_offer_44 lk_X0_47 mw_X7_tallyOne (m_X7_tallyOne adr x1 1) ⟨rfl, rfl, Nat.le_of_ble_eq_true rfl, Nat.le_of_ble_eq_true rfl⟩ kd_42 (by decide) (Nat.le_of_ble_eq_true rfl) rfl rfl (st := []) (st0 := [.int 1, .int x1, .ref (adr 42)]) rfl (Nat.le_of_ble_eq_true rfl) (fun S8 => ?_)
      refine j_aload_n C dX0_offer_47 1 rfl rfl ?_
      refine j_getr C dX0_offer_48 fl_X0_22 kd_14 (by decide) (Nat.le_of_ble_eq_true rfl) rfl ?_
      refine j_iload_n C dX0_offer_51 0 rfl rfl ?_
      refine j_iload_n C dX0_offer_52 2 rfl rfl ?_
      refine j_iload_n C dX0_offer_53 3 rfl rfl ?_
      refine j_cvv C dX0_offer_54 lk_X0_62 mw_X7_appear (m_X7_appear adr v3 x1 x2) ⟨rfl, rfl, Nat.le_of_ble_eq_true rfl, Nat.le_of_ble_eq_true rfl⟩ kd_42 (by decide) (Nat.le_of_ble_eq_true rfl) rfl rfl (st := []) (st0 := [.int x2, .int x1, .int v3, .ref (adr 42)]) rfl (Nat.le_of_ble_eq_true rfl) (fun S9 => ?_)
      refine j_iload_n C dX0_offer_57 0 rfl rfl ?_
      exact j_iret hR dX0_offer_58
    · refine j_sub C [] rfl ?_
      exact b_X0_offer_35 C hR S6
-- X8_offers
abbrev rm_X8_offers : Room := { frames := 5, cells := 0, slots := 0, locals := 109 }
def f_X8_offers_21  (S : St) : Option (Int32 × St) :=
    some ((-1), S)
set_option maxHeartbeats 1000000 in
theorem b_X8_offers_21 {K : Kt} {adr : Nat → Nat} {r : Int32 × St} (C : Cx K cX8_offers RX8 3 adr rm_X8_offers) (hR : ∀ (pc : Nat) (lv : List (Nat × Value)), decode cX8_offers pc = .ok (.ireturn, 1) → K pc lv [.int r.1] r.2)  (S : St) : J K r (f_X8_offers_21  S) 21 [] [] S := by
    unfold f_X8_offers_21
    refine j_iconst C dX8_offers_21 (v := -1) rfl ?_
    exact j_iret hR dX8_offers_22
def f_X8_offers (x1 : Int32) (x2 : Int32) (S : St) : Option (Int32 × St) :=
  bd (f_X6_has_9 x1 S) fun v2 S1 =>
  if v2 = 0 then (f_X8_offers_21 S1)
  else (bd (f_X8_within x2 0 100 S1) fun v4 S3 =>
    if v4 = 0 then (f_X8_offers_21 S3)
    else (bd (f_X7_lowestAbsent S3) fun v6 S5 =>
      if v6 = (-9) then (some ((-3), S5))
      else (bdV (f_X1_remember S5) fun S7 =>
        bd (f_X0_offer x1 x2 S7) fun v9 S8 =>
        some (v9, S8))))
set_option maxHeartbeats 1000000 in
theorem m_X8_offers (adr : Nat → Nat) (x1 : Int32) (x2 : Int32) : MtI yX8_offers cX8_offers 3 (some .int) rm_X8_offers adr [.ref (adr 0), .int x1, .int x2] (f_X8_offers x1 x2) := by
  refine MtI.of (by decide +kernel) (Nat.le_of_ble_eq_true rfl) (fun K r S C hR => ?_)
  refine j_start (lv' := [(0, .ref (adr 0)), (1, .int x1), (2, .int x2)]) rfl ?_
  unfold f_X8_offers
  refine j_aload_n C dX8_offers_0 0 rfl rfl ?_
  refine j_getr C dX8_offers_1 fl_X8_19 kd_0 (by decide) (Nat.le_of_ble_eq_true rfl) rfl ?_
  refine j_iload_n C dX8_offers_4 1 rfl rfl ?_
  refine j_cvi C dX8_offers_5 lk_X8_100 mw_X6_has (m_X6_has_9 adr x1) ⟨rfl, rfl, Nat.le_of_ble_eq_true rfl, Nat.le_of_ble_eq_true rfl⟩ kd_9 (by decide) (Nat.le_of_ble_eq_true rfl) rfl rfl (st := []) (st0 := [.int x1, .ref (adr 9)]) rfl (Nat.le_of_ble_eq_true rfl) (fun v2 S1 => ?_)
  refine j_if_eq C dX8_offers_8 (tgt := 21) (by decide) ?_ ?_
  · refine j_sub C [] rfl ?_
    exact b_X8_offers_21 C hR S1
  · refine j_iload_n C dX8_offers_11 2 rfl rfl ?_
    refine j_iconst C dX8_offers_12 (v := 0) rfl ?_
    refine j_bipush C dX8_offers_13 (v := 100) rfl ?_
    refine j_csi C dX8_offers_15 lk_X8_67 mw_X8_within (m_X8_within adr x2 0 100) ⟨rfl, rfl, Nat.le_of_ble_eq_true rfl, Nat.le_of_ble_eq_true rfl⟩ rfl (st := []) (st0 := [.int 100, .int 0, .int x2]) rfl (Nat.le_of_ble_eq_true rfl) (fun v4 S3 => ?_)
    refine j_if_ne C dX8_offers_18 (tgt := 23) (by decide) ?_ ?_
    · refine j_aload_n C dX8_offers_23 0 rfl rfl ?_
      refine j_getr C dX8_offers_24 fl_X8_26 kd_0 (by decide) (Nat.le_of_ble_eq_true rfl) rfl ?_
      refine j_cvi C dX8_offers_27 lk_X8_103 mw_X7_lowestAbsent (m_X7_lowestAbsent adr ) ⟨rfl, rfl, Nat.le_of_ble_eq_true rfl, Nat.le_of_ble_eq_true rfl⟩ kd_42 (by decide) (Nat.le_of_ble_eq_true rfl) rfl rfl (st := []) (st0 := [.ref (adr 42)]) rfl (Nat.le_of_ble_eq_true rfl) (fun v6 S5 => ?_)
      refine j_bipush C dX8_offers_30 (v := -9) rfl ?_
      refine j_icmp_ne C dX8_offers_32 (tgt := 38) (by decide) ?_ ?_
      · refine j_aload_n C dX8_offers_38 0 rfl rfl ?_
        refine j_getr C dX8_offers_39 fl_X8_42 kd_0 (by decide) (Nat.le_of_ble_eq_true rfl) rfl ?_
        refine j_aload_n C dX8_offers_42 0 rfl rfl ?_
        refine j_getr C dX8_offers_43 fl_X8_26 kd_0 (by decide) (Nat.le_of_ble_eq_true rfl) rfl ?_
        refine j_cvv C dX8_offers_46 lk_X8_106 mw_X1_remember (m_X1_remember adr ) ⟨rfl, rfl, Nat.le_of_ble_eq_true rfl, Nat.le_of_ble_eq_true rfl⟩ kd_17 (by decide) (Nat.le_of_ble_eq_true rfl) rfl rfl (st := []) (st0 := [.ref (adr 42), .ref (adr 17)]) rfl (Nat.le_of_ble_eq_true rfl) (fun S7 => ?_)
        refine j_aload_n C dX8_offers_49 0 rfl rfl ?_
        refine j_getr C dX8_offers_50 fl_X8_35 kd_0 (by decide) (Nat.le_of_ble_eq_true rfl) rfl ?_
        refine j_iload_n C dX8_offers_53 1 rfl rfl ?_
        refine j_iload_n C dX8_offers_54 2 rfl rfl ?_
        refine j_cvi C dX8_offers_55 lk_X8_110 mw_X0_offer (m_X0_offer adr x1 x2) ⟨rfl, rfl, Nat.le_of_ble_eq_true rfl, Nat.le_of_ble_eq_true rfl⟩ kd_14 (by decide) (Nat.le_of_ble_eq_true rfl) rfl rfl (st := []) (st0 := [.int x2, .int x1, .ref (adr 14)]) rfl (Nat.le_of_ble_eq_true rfl) (fun v9 S8 => ?_)
        exact j_iret hR dX8_offers_58
      · refine j_bipush C dX8_offers_35 (v := -3) rfl ?_
        exact j_iret hR dX8_offers_37
    · refine j_sub C [] rfl ?_
      exact b_X8_offers_21 C hR S3
-- X7_has
abbrev rm_X7_has : Room := { frames := 0, cells := 0, slots := 0, locals := 0 }
def f_X7_has_26 (s0 : Int32) (S : St) : Option (Int32 × St) :=
    bz s0 (some (s0, S))
set_option maxHeartbeats 1000000 in
theorem b_X7_has_26 {K : Kt} {adr : Nat → Nat} {r : Int32 × St} (C : Cx K cX7_has RX7 2 adr rm_X7_has) (hR : ∀ (pc : Nat) (lv : List (Nat × Value)), (r.1 = 0 ∨ r.1 = 1) → decode cX7_has pc = .ok (.ireturn, 1) → K pc lv [.int r.1] r.2) (s0 : Int32) (S : St) : J K r (f_X7_has_26 s0 S) 26 [] [.int s0] S := by
    unfold f_X7_has_26
    exact j_zretv hR dX7_has_26
def f_X7_has_25  (S : St) : Option (Int32 × St) :=
    f_X7_has_26 0 S
set_option maxHeartbeats 1000000 in
theorem b_X7_has_25 {K : Kt} {adr : Nat → Nat} {r : Int32 × St} (C : Cx K cX7_has RX7 2 adr rm_X7_has) (hR : ∀ (pc : Nat) (lv : List (Nat × Value)), (r.1 = 0 ∨ r.1 = 1) → decode cX7_has pc = .ok (.ireturn, 1) → K pc lv [.int r.1] r.2)  (S : St) : J K r (f_X7_has_25  S) 25 [] [] S := by
    unfold f_X7_has_25
    refine j_iconst C dX7_has_25 (v := 0) rfl ?_
    exact b_X7_has_26 C hR 0 S
def f_X7_has (x1 : Int32) (S : St) : Option (Int32 × St) :=
  if x1 < 0 then (f_X7_has_25 S)
  else (if 12 ≤ x1 then (f_X7_has_25 S)
    else (ck x1 12 (if (S.1 45 x1.toNatClampNeg) = (-9) then (f_X7_has_25 S)
      else (f_X7_has_26 1 S))))
set_option maxHeartbeats 1000000 in
theorem m_X7_has (adr : Nat → Nat) (x1 : Int32) : MtI yX7_has cX7_has 2 (some .boolean) rm_X7_has adr [.ref (adr 42), .int x1] (f_X7_has x1) := by
  refine MtI.ofZ (by decide +kernel) (Nat.le_of_ble_eq_true rfl) (fun K r S C hR => ?_)
  refine j_start (lv' := [(0, .ref (adr 42)), (1, .int x1)]) rfl ?_
  unfold f_X7_has
  refine j_iload_n C dX7_has_0 1 rfl rfl ?_
  refine j_if_lt C dX7_has_1 (tgt := 25) (by decide) ?_ ?_
  · refine j_sub C [] rfl ?_
    exact b_X7_has_25 C hR S
  · refine j_iload_n C dX7_has_4 1 rfl rfl ?_
    refine j_bipush C dX7_has_5 (v := 12) rfl ?_
    refine j_icmp_ge C dX7_has_7 (tgt := 25) (by decide) ?_ ?_
    · refine j_sub C [] rfl ?_
      exact b_X7_has_25 C hR S
    · refine j_aload_n C dX7_has_10 0 rfl rfl ?_
      refine j_getr C dX7_has_11 fl_X7_18 kd_42 (by decide) (Nat.le_of_ble_eq_true rfl) rfl ?_
      refine j_iload_n C dX7_has_14 1 rfl rfl ?_
      refine j_iald C dX7_has_15 kd_45 (Nat.le_of_ble_eq_true rfl) ?_
      refine j_bipush C dX7_has_16 (v := -9) rfl ?_
      refine j_icmp_eq C dX7_has_18 (tgt := 25) (by decide) ?_ ?_
      · refine j_sub C [] rfl ?_
        exact b_X7_has_25 C hR S
      · refine j_iconst C dX7_has_21 (v := 1) rfl ?_
        refine j_goto C dX7_has_22 (tgt := 26) (by decide) ?_
        refine j_sub C [] rfl ?_
        exact b_X7_has_26 C hR 1 S
-- X8_canHear
abbrev rm_X8_canHear : Room := { frames := 1, cells := 0, slots := 0, locals := 22 }
def f_X8_canHear_19 (s0 : Int32) (s1 : Int32) (s2 : Int32) (S : St) : Option (Int32 × St) :=
    bd (f_X8_within s2 s1 s0 S) fun v4 S3 =>
    bz v4 (some (v4, S3))
set_option maxHeartbeats 1000000 in
theorem b_X8_canHear_19 {K : Kt} {adr : Nat → Nat} {r : Int32 × St} (C : Cx K cX8_canHear RX8 3 adr rm_X8_canHear) (hR : ∀ (pc : Nat) (lv : List (Nat × Value)), (r.1 = 0 ∨ r.1 = 1) → decode cX8_canHear pc = .ok (.ireturn, 1) → K pc lv [.int r.1] r.2) (s0 : Int32) (s1 : Int32) (s2 : Int32) (S : St) : J K r (f_X8_canHear_19 s0 s1 s2 S) 19 [] [.int s0, .int s1, .int s2] S := by
    unfold f_X8_canHear_19
    refine j_csi C dX8_canHear_19 lk_X8_67 mw_X8_within (m_X8_within adr s2 s1 s0) ⟨rfl, rfl, Nat.le_of_ble_eq_true rfl, Nat.le_of_ble_eq_true rfl⟩ rfl (st := []) (st0 := [.int s0, .int s1, .int s2]) rfl (Nat.le_of_ble_eq_true rfl) (fun v4 S3 => ?_)
    exact j_zretv hR dX8_canHear_22
def f_X8_canHear (x1 : Int32) (x2 : Int32) (S : St) : Option (Int32 × St) :=
  bd (f_X6_has_9 x1 S) fun v2 S1 =>
  if v2 = 0 then (f_X8_canHear_19 0 0 x2 S1)
  else (f_X8_canHear_19 100 0 x2 S1)
set_option maxHeartbeats 1000000 in
theorem m_X8_canHear (adr : Nat → Nat) (x1 : Int32) (x2 : Int32) : MtI yX8_canHear cX8_canHear 3 (some .boolean) rm_X8_canHear adr [.ref (adr 0), .int x1, .int x2] (f_X8_canHear x1 x2) := by
  refine MtI.ofZ (by decide +kernel) (Nat.le_of_ble_eq_true rfl) (fun K r S C hR => ?_)
  refine j_start (lv' := [(0, .ref (adr 0)), (1, .int x1), (2, .int x2)]) rfl ?_
  unfold f_X8_canHear
  refine j_iload_n C dX8_canHear_0 2 rfl rfl ?_
  refine j_iconst C dX8_canHear_1 (v := 0) rfl ?_
  refine j_aload_n C dX8_canHear_2 0 rfl rfl ?_
  refine j_getr C dX8_canHear_3 fl_X8_19 kd_0 (by decide) (Nat.le_of_ble_eq_true rfl) rfl ?_
  refine j_iload_n C dX8_canHear_6 1 rfl rfl ?_
  refine j_cvi C dX8_canHear_7 lk_X8_100 mw_X6_has (m_X6_has_9 adr x1) ⟨rfl, rfl, Nat.le_of_ble_eq_true rfl, Nat.le_of_ble_eq_true rfl⟩ kd_9 (by decide) (Nat.le_of_ble_eq_true rfl) rfl rfl (st := [.int 0, .int x2]) (st0 := [.int x1, .ref (adr 9), .int 0, .int x2]) rfl (Nat.le_of_ble_eq_true rfl) (fun v2 S1 => ?_)
  refine j_if_eq C dX8_canHear_10 (tgt := 18) (by decide) ?_ ?_
  · refine j_iconst C dX8_canHear_18 (v := 0) rfl ?_
    refine j_sub C [] rfl ?_
    exact b_X8_canHear_19 C hR 0 0 x2 S1
  · refine j_bipush C dX8_canHear_13 (v := 100) rfl ?_
    refine j_goto C dX8_canHear_15 (tgt := 19) (by decide) ?_
    refine j_sub C [] rfl ?_
    exact b_X8_canHear_19 C hR 100 0 x2 S1
-- X0_setValues
abbrev rm_X0_setValues : Room := { frames := 0, cells := 0, slots := 0, locals := 0 }
def f_X0_setValues (x1 : Int32) (x2 : Int32) (x3 : Int32) (x4 : Int32) (S : St) : Option (St) :=
  ck 0 4 (lt (upI S 15 (0 : Int32).toNatClampNeg x1) fun S1 =>
  ck 1 4 (lt (upI S1 15 (1 : Int32).toNatClampNeg x2) fun S2 =>
  ck 2 4 (lt (upI S2 15 (2 : Int32).toNatClampNeg x3) fun S3 =>
  ck 3 4 (lt (upI S3 15 (3 : Int32).toNatClampNeg x4) fun S4 =>
  some S4))))
set_option maxHeartbeats 1000000 in
theorem m_X0_setValues (adr : Nat → Nat) (x1 : Int32) (x2 : Int32) (x3 : Int32) (x4 : Int32) : MtV yX0_setValues cX0_setValues 5 none rm_X0_setValues adr [.ref (adr 14), .int x1, .int x2, .int x3, .int x4] (f_X0_setValues x1 x2 x3 x4) := by
  refine MtV.of (by decide +kernel) (Nat.le_of_ble_eq_true rfl) (fun K r S C hR => ?_)
  refine j_start (lv' := [(0, .ref (adr 14)), (1, .int x1), (2, .int x2), (3, .int x3), (4, .int x4)]) rfl ?_
  unfold f_X0_setValues
  refine j_aload_n C dX0_setValues_0 0 rfl rfl ?_
  refine j_getr C dX0_setValues_1 fl_X0_9 kd_14 (by decide) (Nat.le_of_ble_eq_true rfl) rfl ?_
  refine j_iconst C dX0_setValues_4 (v := 0) rfl ?_
  refine j_iload_n C dX0_setValues_5 1 rfl rfl ?_
  refine j_iast C dX0_setValues_6 kd_15 (Nat.le_of_ble_eq_true rfl) (fun S1 => ?_)
  refine j_aload_n C dX0_setValues_7 0 rfl rfl ?_
  refine j_getr C dX0_setValues_8 fl_X0_9 kd_14 (by decide) (Nat.le_of_ble_eq_true rfl) rfl ?_
  refine j_iconst C dX0_setValues_11 (v := 1) rfl ?_
  refine j_iload_n C dX0_setValues_12 2 rfl rfl ?_
  refine j_iast C dX0_setValues_13 kd_15 (Nat.le_of_ble_eq_true rfl) (fun S2 => ?_)
  refine j_aload_n C dX0_setValues_14 0 rfl rfl ?_
  refine j_getr C dX0_setValues_15 fl_X0_9 kd_14 (by decide) (Nat.le_of_ble_eq_true rfl) rfl ?_
  refine j_iconst C dX0_setValues_18 (v := 2) rfl ?_
  refine j_iload_n C dX0_setValues_19 3 rfl rfl ?_
  refine j_iast C dX0_setValues_20 kd_15 (Nat.le_of_ble_eq_true rfl) (fun S3 => ?_)
  refine j_aload_n C dX0_setValues_21 0 rfl rfl ?_
  refine j_getr C dX0_setValues_22 fl_X0_9 kd_14 (by decide) (Nat.le_of_ble_eq_true rfl) rfl ?_
  refine j_iconst C dX0_setValues_25 (v := 3) rfl ?_
  refine j_iload C dX0_setValues_26 4 rfl ?_
  refine j_iast C dX0_setValues_28 kd_15 (Nat.le_of_ble_eq_true rfl) (fun S4 => ?_)
  exact j_vret hR dX0_setValues_29
-- X7_ownLevel
abbrev rm_X7_ownLevel : Room := { frames := 0, cells := 0, slots := 0, locals := 0 }
def f_X7_ownLevel (x1 : Int32) (S : St) : Option (Int32 × St) :=
  ck x1 12 (ck ((x1 * 4) + (S.1 45 x1.toNatClampNeg)) 48 (some (S.1 54 ((x1 * 4) + (S.1 45 x1.toNatClampNeg)).toNatClampNeg, S)))
set_option maxHeartbeats 1000000 in
theorem m_X7_ownLevel (adr : Nat → Nat) (x1 : Int32) : MtI yX7_ownLevel cX7_ownLevel 2 (some .int) rm_X7_ownLevel adr [.ref (adr 42), .int x1] (f_X7_ownLevel x1) := by
  refine MtI.of (by decide +kernel) (Nat.le_of_ble_eq_true rfl) (fun K r S C hR => ?_)
  refine j_start (lv' := [(0, .ref (adr 42)), (1, .int x1)]) rfl ?_
  unfold f_X7_ownLevel
  refine j_aload_n C dX7_ownLevel_0 0 rfl rfl ?_
  refine j_getr C dX7_ownLevel_1 fl_X7_45 kd_42 (by decide) (Nat.le_of_ble_eq_true rfl) rfl ?_
  refine j_iload_n C dX7_ownLevel_4 1 rfl rfl ?_
  refine j_iconst C dX7_ownLevel_5 (v := 4) rfl ?_
  refine j_imul C dX7_ownLevel_6 ?_
  refine j_aload_n C dX7_ownLevel_7 0 rfl rfl ?_
  refine j_getr C dX7_ownLevel_8 fl_X7_18 kd_42 (by decide) (Nat.le_of_ble_eq_true rfl) rfl ?_
  refine j_iload_n C dX7_ownLevel_11 1 rfl rfl ?_
  refine j_iald C dX7_ownLevel_12 kd_45 (Nat.le_of_ble_eq_true rfl) ?_
  refine j_iadd C dX7_ownLevel_13 ?_
  refine j_iald C dX7_ownLevel_14 kd_54 (Nat.le_of_ble_eq_true rfl) ?_
  exact j_iret hR dX7_ownLevel_15
-- X0_smoothLevels
abbrev rm_X0_smoothLevels : Room := { frames := 1, cells := 0, slots := 0, locals := 21 }
def f_X0_smoothLevels_97 (x1 : Int32) (x2 : Int32) (S : St) : Option (St) :=
    bd (f_X7_ownLevel x1 S) fun v9 S8 =>
    ck x1 12 (lt (upI S8 52 x1.toNatClampNeg (x2 - v9)) fun S10 =>
    some S10)
set_option maxHeartbeats 1000000 in
theorem b_X0_smoothLevels_97 {K : Kt} {adr : Nat → Nat} {r : St} (C : Cx K cX0_smoothLevels RX0 7 adr rm_X0_smoothLevels) (hR : ∀ (pc : Nat) (lv : List (Nat × Value)), decode cX0_smoothLevels pc = .ok (.return_, 1) → K pc lv [] r) (x1 : Int32) (x2 : Int32) (S : St) : J K r (f_X0_smoothLevels_97 x1 x2 S) 97 [(0, .ref (adr 14)), (1, .int x1), (2, .int x2)] [] S := by
    unfold f_X0_smoothLevels_97
    refine j_aload_n C dX0_smoothLevels_97 0 rfl rfl ?_
    refine j_getr C dX0_smoothLevels_98 fl_X0_22 kd_14 (by decide) (Nat.le_of_ble_eq_true rfl) rfl ?_
    refine j_getr C dX0_smoothLevels_101 fl_X0_114 kd_42 (by decide) (Nat.le_of_ble_eq_true rfl) rfl ?_
    refine j_iload_n C dX0_smoothLevels_104 1 rfl rfl ?_
    refine j_iload_n C dX0_smoothLevels_105 2 rfl rfl ?_
    refine j_aload_n C dX0_smoothLevels_106 0 rfl rfl ?_
    refine j_getr C dX0_smoothLevels_107 fl_X0_22 kd_14 (by decide) (Nat.le_of_ble_eq_true rfl) rfl ?_
    refine j_iload_n C dX0_smoothLevels_110 1 rfl rfl ?_
    refine j_cvi C dX0_smoothLevels_111 lk_X0_93 mw_X7_ownLevel (m_X7_ownLevel adr x1) ⟨rfl, rfl, Nat.le_of_ble_eq_true rfl, Nat.le_of_ble_eq_true rfl⟩ kd_42 (by decide) (Nat.le_of_ble_eq_true rfl) rfl rfl (st := [.int x2, .int x1, .ref (adr 52)]) (st0 := [.int x1, .ref (adr 42), .int x2, .int x1, .ref (adr 52)]) rfl (Nat.le_of_ble_eq_true rfl) (fun v9 S8 => ?_)
    refine j_isub C dX0_smoothLevels_114 ?_
    refine j_iast C dX0_smoothLevels_115 kd_52 (Nat.le_of_ble_eq_true rfl) (fun S10 => ?_)
    exact j_vret hR dX0_smoothLevels_116
def f_X0_smoothLevels_29 : Nat → Int32 → Int32 → Int32 → Int32 → Int32 → St → Option (St)
  | 0, _, _, _, _, _, _ => none
  | n + 1, x1, x2, x3, x4, x5, S =>
    if (S.1 9 0) ≤ x5 then (f_X0_smoothLevels_97 x1 x2 S)
    else (if 4 ≤ x5 then (f_X0_smoothLevels_97 x1 x2 S)
      else (lt ((x1 * 4) + x5) fun v5 =>
        ck v5 48 (ck x5 4 (lt ((((S.1 54 v5.toNatClampNeg) * x4) + (64 * (S.1 15 x5.toNatClampNeg))) >>> (x3 &&& 31)) fun v6 =>
        ck v5 48 (lt (upI S 54 v5.toNatClampNeg v6) fun S7 =>
        (f_X0_smoothLevels_29 n) x1 x2 x3 x4 (x5 + 1) S7)))))
set_option maxHeartbeats 1000000 in
theorem b_X0_smoothLevels_29 {K : Kt} {adr : Nat → Nat} {r : St} (C : Cx K cX0_smoothLevels RX0 7 adr rm_X0_smoothLevels) (hR : ∀ (pc : Nat) (lv : List (Nat × Value)), decode cX0_smoothLevels pc = .ok (.return_, 1) → K pc lv [] r) : ∀ (n : Nat) (x1 : Int32) (x2 : Int32) (x3 : Int32) (x4 : Int32) (x5 : Int32) (S : St), J K r (f_X0_smoothLevels_29 n x1 x2 x3 x4 x5 S) 29 [(0, .ref (adr 14)), (1, .int x1), (2, .int x2), (3, .int x3), (4, .int x4), (5, .int x5)] [] S := by
  intro n
  induction n with
  | zero => intro x1 x2 x3 x4 x5 S h; cases h
  | succ n ih =>
    intro x1 x2 x3 x4 x5 S
    unfold f_X0_smoothLevels_29
    refine j_iload C dX0_smoothLevels_29 5 rfl ?_
    refine j_aload_n C dX0_smoothLevels_31 0 rfl rfl ?_
    refine j_getr C dX0_smoothLevels_32 fl_X0_18 kd_14 (by decide) (Nat.le_of_ble_eq_true rfl) rfl ?_
    refine j_geti C dX0_smoothLevels_35 fl_X0_108 kd_9 (by decide) (Nat.le_of_ble_eq_true rfl) rfl ?_
    refine j_icmp_ge C dX0_smoothLevels_38 (tgt := 97) (by decide) ?_ ?_
    · refine j_sub C [0, 1, 2] rfl ?_
      exact b_X0_smoothLevels_97 C hR x1 x2 S
    · refine j_iload C dX0_smoothLevels_41 5 rfl ?_
      refine j_iconst C dX0_smoothLevels_43 (v := 4) rfl ?_
      refine j_icmp_ge C dX0_smoothLevels_44 (tgt := 97) (by decide) ?_ ?_
      · refine j_sub C [0, 1, 2] rfl ?_
        exact b_X0_smoothLevels_97 C hR x1 x2 S
      · refine j_iload_n C dX0_smoothLevels_47 1 rfl rfl ?_
        refine j_iconst C dX0_smoothLevels_48 (v := 4) rfl ?_
        refine j_imul C dX0_smoothLevels_49 ?_
        refine j_iload C dX0_smoothLevels_50 5 rfl ?_
        refine j_iadd C dX0_smoothLevels_52 ?_
        refine j_topi (fun v5 => ?_)
        refine j_istore C dX0_smoothLevels_53 (by decide) rfl ?_
        refine j_aload_n C dX0_smoothLevels_55 1 rfl rfl ?_
        refine j_getr C dX0_smoothLevels_56 fl_X0_22 kd_14 (by decide) (Nat.le_of_ble_eq_true rfl) rfl ?_
        refine j_getr C dX0_smoothLevels_59 fl_X0_111 kd_42 (by decide) (Nat.le_of_ble_eq_true rfl) rfl ?_
        refine j_iload C dX0_smoothLevels_62 0 rfl ?_
        refine j_aload_n C dX0_smoothLevels_64 1 rfl rfl ?_
        refine j_getr C dX0_smoothLevels_65 fl_X0_22 kd_14 (by decide) (Nat.le_of_ble_eq_true rfl) rfl ?_
        refine j_getr C dX0_smoothLevels_68 fl_X0_111 kd_42 (by decide) (Nat.le_of_ble_eq_true rfl) rfl ?_
        refine j_iload C dX0_smoothLevels_71 0 rfl ?_
        refine j_iald C dX0_smoothLevels_73 kd_54 (Nat.le_of_ble_eq_true rfl) ?_
        refine j_iload C dX0_smoothLevels_74 5 rfl ?_
        refine j_imul C dX0_smoothLevels_76 ?_
        refine j_bipush C dX0_smoothLevels_77 (v := 64) rfl ?_
        refine j_aload_n C dX0_smoothLevels_79 1 rfl rfl ?_
        refine j_getr C dX0_smoothLevels_80 fl_X0_9 kd_14 (by decide) (Nat.le_of_ble_eq_true rfl) rfl ?_
        refine j_iload C dX0_smoothLevels_83 6 rfl ?_
        refine j_iald C dX0_smoothLevels_85 kd_15 (Nat.le_of_ble_eq_true rfl) ?_
        refine j_imul C dX0_smoothLevels_86 ?_
        refine j_iadd C dX0_smoothLevels_87 ?_
        refine j_iload_n C dX0_smoothLevels_88 4 rfl rfl ?_
        refine j_ishr C dX0_smoothLevels_89 ?_
        refine j_topi (fun v6 => ?_)
        refine j_iast C dX0_smoothLevels_90 kd_54 (Nat.le_of_ble_eq_true rfl) (fun S7 => ?_)
        refine j_iinc C dX0_smoothLevels_91 (v := x5 + 1) 6 rfl rfl (by decide) rfl ?_
        refine j_goto C dX0_smoothLevels_94 (tgt := 29) (by decide) ?_
        refine j_sub C [2, 3, 4, 5, 6, 0] rfl ?_
        exact ih x1 x2 x3 x4 (x5 + 1) S7
def f_X0_smoothLevels (x1 : Int32) (S : St) : Option (St) :=
  bd (f_X7_ownLevel x1 S) fun v2 S1 =>
  ck 2 5 (lt (S1.1 13 (2 : Int32).toNatClampNeg) fun v3 =>
  lt ((1 <<< (v3 &&& 31)) - 1) fun v4 =>
  f_X0_smoothLevels_29 FU x1 v2 v3 v4 0 S1)
set_option maxHeartbeats 1000000 in
theorem m_X0_smoothLevels (adr : Nat → Nat) (x1 : Int32) : MtV yX0_smoothLevels cX0_smoothLevels 7 none rm_X0_smoothLevels adr [.ref (adr 14), .int x1] (f_X0_smoothLevels x1) := by
  refine MtV.of (by decide +kernel) (Nat.le_of_ble_eq_true rfl) (fun K r S C hR => ?_)
  refine j_start (lv' := [(0, .ref (adr 14)), (1, .int x1)]) rfl ?_
  unfold f_X0_smoothLevels
  refine j_aload_n C dX0_smoothLevels_0 0 rfl rfl ?_
  refine j_getr C dX0_smoothLevels_1 fl_X0_22 kd_14 (by decide) (Nat.le_of_ble_eq_true rfl) rfl ?_
  refine j_iload_n C dX0_smoothLevels_4 1 rfl rfl ?_
  refine j_cvi C dX0_smoothLevels_5 lk_X0_93 mw_X7_ownLevel (m_X7_ownLevel adr x1) ⟨rfl, rfl, Nat.le_of_ble_eq_true rfl, Nat.le_of_ble_eq_true rfl⟩ kd_42 (by decide) (Nat.le_of_ble_eq_true rfl) rfl rfl (st := []) (st0 := [.int x1, .ref (adr 42)]) rfl (Nat.le_of_ble_eq_true rfl) (fun v2 S1 => ?_)
  refine j_istore_n C dX0_smoothLevels_8 rfl (by decide) rfl ?_
  refine j_aload_n C dX0_smoothLevels_9 1 rfl rfl ?_
  refine j_getr C dX0_smoothLevels_10 fl_X0_18 kd_14 (by decide) (Nat.le_of_ble_eq_true rfl) rfl ?_
  refine j_getr C dX0_smoothLevels_13 fl_X0_96 kd_9 (by decide) (Nat.le_of_ble_eq_true rfl) rfl ?_
  refine j_iconst C dX0_smoothLevels_16 (v := 2) rfl ?_
  refine j_iald C dX0_smoothLevels_17 kd_13 (Nat.le_of_ble_eq_true rfl) ?_
  refine j_topi (fun v3 => ?_)
  refine j_istore_n C dX0_smoothLevels_18 rfl (by decide) rfl ?_
  refine j_iconst C dX0_smoothLevels_19 (v := 1) rfl ?_
  refine j_iload_n C dX0_smoothLevels_20 0 rfl rfl ?_
  refine j_ishl C dX0_smoothLevels_21 ?_
  refine j_iconst C dX0_smoothLevels_22 (v := 1) rfl ?_
  refine j_isub C dX0_smoothLevels_23 ?_
  refine j_topi (fun v4 => ?_)
  refine j_istore C dX0_smoothLevels_24 (by decide) rfl ?_
  refine j_iconst C dX0_smoothLevels_26 (v := 0) rfl ?_
  refine j_istore C dX0_smoothLevels_27 (by decide) rfl ?_
  refine j_sub C [4, 5, 3, 2, 1, 0] rfl ?_
  exact b_X0_smoothLevels_29 C hR FU x1 v2 v3 v4 0 S1
