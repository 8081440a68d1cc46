-- X9_lost
abbrev rm_X9_lost : Room := { frames := 3, cells := 0, slots := 0, locals := 73 }
def f_X9_lost_199 (s0 : Int64) (S : St) : Option (Int64 × St) :=
    some (s0, S)
set_option maxHeartbeats 1000000 in
theorem b_X9_lost_199 {K : Kt} {adr : Nat → Nat} {r : Int64 × St} (C : Cx K cX9_lost RX9 14 adr rm_X9_lost) (hR : ∀ (pc : Nat) (lv : List (Nat × Value)), decode cX9_lost pc = .ok (.lreturn, 1) → K pc lv [.long r.1] r.2) (s0 : Int64) (S : St) : J K r (f_X9_lost_199 s0 S) 199 [] [.long s0] S := by
    unfold f_X9_lost_199
    exact j_lret hR dX9_lost_199
def f_X9_lost_148 (k85 : Int32 → Int32 → Int32 → Int32 → Int64 → Int64 → Int32 → St → Option (Int64 × St)) (x1 : Int32) (x5 : Int32) (x6 : Int32) (x7 : Int32) (x8 : Int64) (x10 : Int64) (x12 : Int32) (s0 : Int32) (S : St) : Option (Int64 × St) :=
    ck x12 7 (lt (x10 + (s0.toInt64 * (S.2 41 x12.toNatClampNeg))) fun v17 =>
    k85 x1 x5 x6 x7 x8 v17 (x12 + 1) S)
set_option maxHeartbeats 1000000 in
theorem b_X9_lost_148 {K : Kt} {adr : Nat → Nat} {r : Int64 × St} (C : Cx K cX9_lost RX9 14 adr rm_X9_lost) (hR : ∀ (pc : Nat) (lv : List (Nat × Value)), decode cX9_lost pc = .ok (.lreturn, 1) → K pc lv [.long r.1] r.2) (k85 : Int32 → Int32 → Int32 → Int32 → Int64 → Int64 → Int32 → St → Option (Int64 × St)) (h85 : ∀ (x1 : Int32) (x5 : Int32) (x6 : Int32) (x7 : Int32) (x8 : Int64) (x10 : Int64) (x12 : Int32) (S : St), J K r (k85 x1 x5 x6 x7 x8 x10 x12 S) 85 [(0, .ref (adr 27)), (1, .int x1), (5, .int x5), (6, .int x6), (7, .int x7), (8, .long x8), (10, .long x10), (12, .int x12)] [] S) (x1 : Int32) (x5 : Int32) (x6 : Int32) (x7 : Int32) (x8 : Int64) (x10 : Int64) (x12 : Int32) (s0 : Int32) (S : St) : J K r (f_X9_lost_148 k85 x1 x5 x6 x7 x8 x10 x12 s0 S) 148 [(0, .ref (adr 27)), (1, .int x1), (5, .int x5), (6, .int x6), (7, .int x7), (8, .long x8), (10, .long x10), (12, .int x12)] [.int s0] S := by
    unfold f_X9_lost_148
    refine j_istore C dX9_lost_148 (by decide) rfl ?_
    refine j_lload C dX9_lost_150 7 rfl ?_
    refine j_iload C dX9_lost_152 0 rfl ?_
    refine j_i2l C dX9_lost_154 ?_
    refine j_aload_n C dX9_lost_155 1 rfl rfl ?_
    refine j_getr C dX9_lost_156 fl_X9_50 kd_27 (by decide) (Nat.le_of_ble_eq_true rfl) rfl ?_
    refine j_iload C dX9_lost_159 8 rfl ?_
    refine j_lald C dX9_lost_161 kd_41 (Nat.le_of_ble_eq_true rfl) ?_
    refine j_lmul C dX9_lost_162 ?_
    refine j_ladd C dX9_lost_163 ?_
    refine j_topl (fun v17 => ?_)
    refine j_lstore C dX9_lost_164 (by decide) rfl ?_
    refine j_iinc C dX9_lost_166 (v := x12 + 1) 8 rfl rfl (by decide) rfl ?_
    refine j_goto C dX9_lost_169 (tgt := 85) (by decide) ?_
    refine j_sub C [3, 4, 5, 6, 7, 8, 1, 0] rfl ?_
    exact h85 x1 x5 x6 x7 x8 v17 (x12 + 1) S
def f_X9_lost_85 : Nat → Int32 → Int32 → Int32 → Int32 → Int64 → Int64 → Int32 → St → Option (Int64 × St)
  | 0, _, _, _, _, _, _, _, _ => none
  | n + 1, x1, x5, x6, x7, x8, x10, x12, S =>
    if x7 < x12 then (bd (f_X9_divisor x10 x8 S) fun v14 S13 =>
      if x6 = 0 then (nzL v14 (f_X9_lost_199 (x10 / v14) S13))
      else (nzL v14 (f_X9_lost_199 (x8 / v14) S13)))
    else (if x5 = 0 then (ck (216 + x1) 2547 (bd (f_X9_chanceBy (x7 - x12) (S.1 28 (216 + x1).toNatClampNeg) S) fun v16 S15 =>
        f_X9_lost_148 (f_X9_lost_85 n) x1 x5 x6 x7 x8 x10 x12 (10 - v16) S15))
      else (if x5 = 1 then (if x12 = x7 then (f_X9_lost_148 (f_X9_lost_85 n) x1 x5 x6 x7 x8 x10 x12 10 S)
          else (f_X9_lost_148 (f_X9_lost_85 n) x1 x5 x6 x7 x8 x10 x12 0 S))
        else (f_X9_lost_148 (f_X9_lost_85 n) x1 x5 x6 x7 x8 x10 x12 (10 * x12) S)))
set_option maxHeartbeats 1000000 in
theorem b_X9_lost_85 {K : Kt} {adr : Nat → Nat} {r : Int64 × St} (C : Cx K cX9_lost RX9 14 adr rm_X9_lost) (hR : ∀ (pc : Nat) (lv : List (Nat × Value)), decode cX9_lost pc = .ok (.lreturn, 1) → K pc lv [.long r.1] r.2) : ∀ (n : Nat) (x1 : Int32) (x5 : Int32) (x6 : Int32) (x7 : Int32) (x8 : Int64) (x10 : Int64) (x12 : Int32) (S : St), J K r (f_X9_lost_85 n x1 x5 x6 x7 x8 x10 x12 S) 85 [(0, .ref (adr 27)), (1, .int x1), (5, .int x5), (6, .int x6), (7, .int x7), (8, .long x8), (10, .long x10), (12, .int x12)] [] S := by
  intro n
  induction n with
  | zero => intro x1 x5 x6 x7 x8 x10 x12 S h; cases h
  | succ n ih =>
    intro x1 x5 x6 x7 x8 x10 x12 S
    unfold f_X9_lost_85
    refine j_iload C dX9_lost_85 7 rfl ?_
    refine j_iload C dX9_lost_87 4 rfl ?_
    refine j_icmp_gt C dX9_lost_89 (tgt := 172) (by decide) ?_ ?_
    · refine j_lload C dX9_lost_172 6 rfl ?_
      refine j_lload C dX9_lost_174 5 rfl ?_
      refine j_csl C dX9_lost_176 lk_X9_251 mw_X9_divisor (m_X9_divisor adr x10 x8) ⟨rfl, rfl, Nat.le_of_ble_eq_true rfl, Nat.le_of_ble_eq_true rfl⟩ rfl (st := []) (st0 := [.long x8, .long x10]) rfl (Nat.le_of_ble_eq_true rfl) (fun v14 S13 => ?_)
      refine j_lstore C dX9_lost_179 (by decide) rfl ?_
      refine j_iload C dX9_lost_181 4 rfl ?_
      refine j_if_ne C dX9_lost_183 (tgt := 194) (by decide) ?_ ?_
      · refine j_lload C dX9_lost_194 6 rfl ?_
        refine j_lload C dX9_lost_196 0 rfl ?_
        refine j_ldiv C dX9_lost_198 ?_
        refine j_sub C [] rfl ?_
        exact b_X9_lost_199 C hR (x8 / v14) S13
      · refine j_lload C dX9_lost_186 7 rfl ?_
        refine j_lload C dX9_lost_188 0 rfl ?_
        refine j_ldiv C dX9_lost_190 ?_
        refine j_goto C dX9_lost_191 (tgt := 199) (by decide) ?_
        refine j_sub C [] rfl ?_
        exact b_X9_lost_199 C hR (x10 / v14) S13
    · refine j_iload C dX9_lost_92 2 rfl ?_
      refine j_if_ne C dX9_lost_94 (tgt := 121) (by decide) ?_ ?_
      · refine j_iload C dX9_lost_121 2 rfl ?_
        refine j_iconst C dX9_lost_123 (v := 1) rfl ?_
        refine j_icmp_ne C dX9_lost_124 (tgt := 143) (by decide) ?_ ?_
        · refine j_bipush C dX9_lost_143 (v := 10) rfl ?_
          refine j_iload C dX9_lost_145 7 rfl ?_
          refine j_imul C dX9_lost_147 ?_
          exact b_X9_lost_148 C hR (f_X9_lost_85 n) ih x1 x5 x6 x7 x8 x10 x12 (10 * x12) S
        · refine j_iload C dX9_lost_127 7 rfl ?_
          refine j_iload C dX9_lost_129 4 rfl ?_
          refine j_icmp_ne C dX9_lost_131 (tgt := 139) (by decide) ?_ ?_
          · refine j_iconst C dX9_lost_139 (v := 0) rfl ?_
            refine j_goto C dX9_lost_140 (tgt := 148) (by decide) ?_
            exact b_X9_lost_148 C hR (f_X9_lost_85 n) ih x1 x5 x6 x7 x8 x10 x12 0 S
          · refine j_bipush C dX9_lost_134 (v := 10) rfl ?_
            refine j_goto C dX9_lost_136 (tgt := 148) (by decide) ?_
            exact b_X9_lost_148 C hR (f_X9_lost_85 n) ih x1 x5 x6 x7 x8 x10 x12 10 S
      · refine j_bipush C dX9_lost_97 (v := 10) rfl ?_
        refine j_iload C dX9_lost_99 4 rfl ?_
        refine j_iload C dX9_lost_101 7 rfl ?_
        refine j_isub C dX9_lost_103 ?_
        refine j_aload_n C dX9_lost_104 0 rfl rfl ?_
        refine j_getr C dX9_lost_105 fl_X9_7 kd_27 (by decide) (Nat.le_of_ble_eq_true rfl) rfl ?_
        refine j_sipush C dX9_lost_108 (v := 216) rfl ?_
        refine j_iload_n C dX9_lost_111 1 rfl rfl ?_
        refine j_iadd C dX9_lost_112 ?_
        refine j_iald C dX9_lost_113 kd_28 (Nat.le_of_ble_eq_true rfl) ?_
        refine j_csi C dX9_lost_114 lk_X9_154 mw_X9_chanceBy (m_X9_chanceBy adr (x7 - x12) (S.1 28 (216 + x1).toNatClampNeg)) ⟨rfl, rfl, Nat.le_of_ble_eq_true rfl, Nat.le_of_ble_eq_true rfl⟩ rfl (st := [.int 10]) (st0 := [.int (S.1 28 (216 + x1).toNatClampNeg), .int (x7 - x12), .int 10]) rfl (Nat.le_of_ble_eq_true rfl) (fun v16 S15 => ?_)
        refine j_isub C dX9_lost_117 ?_
        refine j_goto C dX9_lost_118 (tgt := 148) (by decide) ?_
        exact b_X9_lost_148 C hR (f_X9_lost_85 n) ih x1 x5 x6 x7 x8 x10 x12 (10 - v16) S15
def f_X9_lost_42  (S : St) : Option (Int64 × St) :=
    some ((-1), S)
set_option maxHeartbeats 1000000 in
theorem b_X9_lost_42 {K : Kt} {adr : Nat → Nat} {r : Int64 × St} (C : Cx K cX9_lost RX9 14 adr rm_X9_lost) (hR : ∀ (pc : Nat) (lv : List (Nat × Value)), decode cX9_lost pc = .ok (.lreturn, 1) → K pc lv [.long r.1] r.2)  (S : St) : J K r (f_X9_lost_42  S) 42 [] [] S := by
    unfold f_X9_lost_42
    refine j_ldc2 C dX9_lost_42 kc_X9_243 ?_
    exact j_lret hR dX9_lost_45
def f_X9_lost (x1 : Int32) (x2 : Int32) (x3 : Int32) (x4 : Int32) (x5 : Int32) (x6 : Int32) (S : St) : Option (Int64 × St) :=
  bd (f_X9_isCell x1 S) fun v2 S1 =>
  if v2 = 0 then (f_X9_lost_42 S1)
  else (bd (f_X9_areRates x2 x3 x4 S1) fun v4 S3 =>
    if v4 = 0 then (f_X9_lost_42 S3)
    else (bd (f_X9_in x5.toInt64 0 2 S3) fun v6 S5 =>
      if v6 = 0 then (f_X9_lost_42 S5)
      else (bd (f_X9_in x6.toInt64 0 1 S5) fun v8 S7 =>
        if v8 = 0 then (f_X9_lost_42 S7)
        else (ck x1 4 (lt (S7.1 33 x1.toNatClampNeg) fun v9 =>
          ck (216 + x1) 2547 (bd (f_X9_shares x1 (S7.1 28 (216 + x1).toNatClampNeg) x2 x3 x4 S7) fun v11 S10 =>
          lt (10 * v11) fun v12 =>
          f_X9_lost_85 FU x1 x5 x6 v9 v12 0 0 S10))))))
set_option maxHeartbeats 1000000 in
theorem m_X9_lost (adr : Nat → Nat) (x1 : Int32) (x2 : Int32) (x3 : Int32) (x4 : Int32) (x5 : Int32) (x6 : Int32) : MtL yX9_lost cX9_lost 14 (some .long) rm_X9_lost adr [.ref (adr 27), .int x1, .int x2, .int x3, .int x4, .int x5, .int x6] (f_X9_lost x1 x2 x3 x4 x5 x6) := by
  refine MtL.of (by decide +kernel) (Nat.le_of_ble_eq_true rfl) (fun K r S C hR => ?_)
  refine j_start (lv' := [(0, .ref (adr 27)), (1, .int x1), (2, .int x2), (3, .int x3), (4, .int x4), (5, .int x5), (6, .int x6)]) rfl ?_
  unfold f_X9_lost
  refine j_aload_n C dX9_lost_0 0 rfl rfl ?_
  refine j_iload_n C dX9_lost_1 1 rfl rfl ?_
  refine j_cvi C dX9_lost_2 lk_X9_158 mw_X9_isCell (m_X9_isCell adr x1) ⟨rfl, rfl, Nat.le_of_ble_eq_true rfl, Nat.le_of_ble_eq_true rfl⟩ kd_27 (by decide) (Nat.le_of_ble_eq_true rfl) rfl rfl (st := []) (st0 := [.int x1, .ref (adr 27)]) rfl (Nat.le_of_ble_eq_true rfl) (fun v2 S1 => ?_)
  refine j_if_eq C dX9_lost_5 (tgt := 42) (by decide) ?_ ?_
  · refine j_sub C [] rfl ?_
    exact b_X9_lost_42 C hR S1
  · refine j_iload_n C dX9_lost_8 2 rfl rfl ?_
    refine j_iload_n C dX9_lost_9 3 rfl rfl ?_
    refine j_iload C dX9_lost_10 4 rfl ?_
    refine j_csi C dX9_lost_12 lk_X9_239 mw_X9_areRates (m_X9_areRates adr x2 x3 x4) ⟨rfl, rfl, Nat.le_of_ble_eq_true rfl, Nat.le_of_ble_eq_true rfl⟩ rfl (st := []) (st0 := [.int x4, .int x3, .int x2]) rfl (Nat.le_of_ble_eq_true rfl) (fun v4 S3 => ?_)
    refine j_if_eq C dX9_lost_15 (tgt := 42) (by decide) ?_ ?_
    · refine j_sub C [] rfl ?_
      exact b_X9_lost_42 C hR S3
    · refine j_iload C dX9_lost_18 5 rfl ?_
      refine j_i2l C dX9_lost_20 ?_
      refine j_lconst C dX9_lost_21 (v := 0) rfl ?_
      refine j_ldc2 C dX9_lost_22 kc_X9_235 ?_
      refine j_csi C dX9_lost_25 lk_X9_66 mw_X9_in (m_X9_in adr x5.toInt64 0 2) ⟨rfl, rfl, Nat.le_of_ble_eq_true rfl, Nat.le_of_ble_eq_true rfl⟩ rfl (st := []) (st0 := [.long 2, .long 0, .long x5.toInt64]) rfl (Nat.le_of_ble_eq_true rfl) (fun v6 S5 => ?_)
      refine j_if_eq C dX9_lost_28 (tgt := 42) (by decide) ?_ ?_
      · refine j_sub C [] rfl ?_
        exact b_X9_lost_42 C hR S5
      · refine j_iload C dX9_lost_31 6 rfl ?_
        refine j_i2l C dX9_lost_33 ?_
        refine j_lconst C dX9_lost_34 (v := 0) rfl ?_
        refine j_lconst C dX9_lost_35 (v := 1) rfl ?_
        refine j_csi C dX9_lost_36 lk_X9_66 mw_X9_in (m_X9_in adr x6.toInt64 0 1) ⟨rfl, rfl, Nat.le_of_ble_eq_true rfl, Nat.le_of_ble_eq_true rfl⟩ rfl (st := []) (st0 := [.long 1, .long 0, .long x6.toInt64]) rfl (Nat.le_of_ble_eq_true rfl) (fun v8 S7 => ?_)
        refine j_if_ne C dX9_lost_39 (tgt := 46) (by decide) ?_ ?_
        · refine j_aload_n C dX9_lost_46 0 rfl rfl ?_
          refine j_getr C dX9_lost_47 fl_X9_26 kd_27 (by decide) (Nat.le_of_ble_eq_true rfl) rfl ?_
          refine j_iload_n C dX9_lost_50 1 rfl rfl ?_
          refine j_iald C dX9_lost_51 kd_33 (Nat.le_of_ble_eq_true rfl) ?_
          refine j_topi (fun v9 => ?_)
          refine j_istore C dX9_lost_52 (by decide) rfl ?_
          refine j_ldc2 C dX9_lost_54 kc_X9_245 ?_
          refine j_aload_n C dX9_lost_57 1 rfl rfl ?_
          refine j_iload_n C dX9_lost_58 2 rfl rfl ?_
          refine j_aload_n C dX9_lost_59 1 rfl rfl ?_
          refine j_getr C dX9_lost_60 fl_X9_7 kd_27 (by decide) (Nat.le_of_ble_eq_true rfl) rfl ?_
          refine j_sipush C dX9_lost_63 (v := 216) rfl ?_
          refine j_iload_n C dX9_lost_66 2 rfl rfl ?_
          refine j_iadd C dX9_lost_67 ?_
          refine j_iald C dX9_lost_68 kd_28 (Nat.le_of_ble_eq_true rfl) ?_
          refine j_iload_n C dX9_lost_69 3 rfl rfl ?_
          refine j_iload_n C dX9_lost_70 4 rfl rfl ?_
          refine j_iload C dX9_lost_71 5 rfl ?_
          refine j_cvl C dX9_lost_73 lk_X9_247 mw_X9_shares (m_X9_shares adr x1 (S7.1 28 (216 + x1).toNatClampNeg) x2 x3 x4) ⟨rfl, rfl, Nat.le_of_ble_eq_true rfl, Nat.le_of_ble_eq_true rfl⟩ kd_27 (by decide) (Nat.le_of_ble_eq_true rfl) rfl rfl (st := [.long 10]) (st0 := [.int x4, .int x3, .int x2, .int (S7.1 28 (216 + x1).toNatClampNeg), .int x1, .ref (adr 27), .long 10]) rfl (Nat.le_of_ble_eq_true rfl) (fun v11 S10 => ?_)
          refine j_lmul C dX9_lost_76 ?_
          refine j_topl (fun v12 => ?_)
          refine j_lstore C dX9_lost_77 (by decide) rfl ?_
          refine j_lconst C dX9_lost_79 (v := 0) rfl ?_
          refine j_lstore C dX9_lost_80 (by decide) rfl ?_
          refine j_iconst C dX9_lost_82 (v := 0) rfl ?_
          refine j_istore C dX9_lost_83 (by decide) rfl ?_
          refine j_sub C [4, 5, 9, 10, 3, 2, 1, 0] rfl ?_
          exact b_X9_lost_85 C hR FU x1 x5 x6 v9 v12 0 0 S10
        · refine j_sub C [] rfl ?_
          exact b_X9_lost_42 C hR S7
-- X9_best
abbrev rm_X9_best : Room := { frames := 3, cells := 0, slots := 0, locals := 73 }
def f_X9_best_36 : Nat → Int32 → Int32 → Int32 → Int32 → Int32 → Int32 → St → Option (Int32 × St)
  | 0, _, _, _, _, _, _, _ => none
  | n + 1, x1, x2, x3, x4, x5, x6, S =>
    ck x1 4 (if (10 * (S.1 33 x1.toNatClampNeg)) < x6 then (some ((-9), S))
    else (bd (f_X9_shares x1 x6 x2 x3 x4 S) fun v8 S7 =>
      ck x1 4 (ck (S7.1 33 x1.toNatClampNeg) 7 (lt (lg_cmp (x5.toInt64 * (S7.2 41 (S7.1 33 x1.toNatClampNeg).toNatClampNeg)) v8) fun v9 =>
      if 0 < v9 then ((f_X9_best_36 n) x1 x2 x3 x4 x5 (x6 + 1) S7)
      else (some (x6, S7))))))
set_option maxHeartbeats 1000000 in
theorem b_X9_best_36 {K : Kt} {adr : Nat → Nat} {r : Int32 × St} (C : Cx K cX9_best RX9 9 adr rm_X9_best) (hR : ∀ (pc : Nat) (lv : List (Nat × Value)), decode cX9_best pc = .ok (.ireturn, 1) → K pc lv [.int r.1] r.2) : ∀ (n : Nat) (x1 : Int32) (x2 : Int32) (x3 : Int32) (x4 : Int32) (x5 : Int32) (x6 : Int32) (S : St), J K r (f_X9_best_36 n x1 x2 x3 x4 x5 x6 S) 36 [(0, .ref (adr 27)), (1, .int x1), (2, .int x2), (3, .int x3), (4, .int x4), (5, .int x5), (6, .int x6)] [] S := by
  intro n
  induction n with
  | zero => intro x1 x2 x3 x4 x5 x6 S h; cases h
  | succ n ih =>
    intro x1 x2 x3 x4 x5 x6 S
    unfold f_X9_best_36
    refine j_iload C dX9_best_36 6 rfl ?_
    refine j_bipush C dX9_best_38 (v := 10) rfl ?_
    refine j_aload_n C dX9_best_40 0 rfl rfl ?_
    refine j_getr C dX9_best_41 fl_X9_26 kd_27 (by decide) (Nat.le_of_ble_eq_true rfl) rfl ?_
    refine j_iload_n C dX9_best_44 1 rfl rfl ?_
    refine j_iald C dX9_best_45 kd_33 (Nat.le_of_ble_eq_true rfl) ?_
    refine j_imul C dX9_best_46 ?_
    refine j_icmp_gt C dX9_best_47 (tgt := 93) (by decide) ?_ ?_
    · refine j_bipush C dX9_best_93 (v := -9) rfl ?_
      exact j_iret hR dX9_best_95
    · refine j_aload_n C dX9_best_50 0 rfl rfl ?_
      refine j_iload_n C dX9_best_51 1 rfl rfl ?_
      refine j_iload C dX9_best_52 6 rfl ?_
      refine j_iload_n C dX9_best_54 2 rfl rfl ?_
      refine j_iload_n C dX9_best_55 3 rfl rfl ?_
      refine j_iload C dX9_best_56 4 rfl ?_
      refine j_cvl C dX9_best_58 lk_X9_247 mw_X9_shares (m_X9_shares adr x1 x6 x2 x3 x4) ⟨rfl, rfl, Nat.le_of_ble_eq_true rfl, Nat.le_of_ble_eq_true rfl⟩ kd_27 (by decide) (Nat.le_of_ble_eq_true rfl) rfl rfl (st := []) (st0 := [.int x4, .int x3, .int x2, .int x6, .int x1, .ref (adr 27)]) rfl (Nat.le_of_ble_eq_true rfl) (fun v8 S7 => ?_)
      refine j_lstore C dX9_best_61 (by decide) rfl ?_
      refine j_iload C dX9_best_63 6 rfl ?_
      refine j_i2l C dX9_best_65 ?_
      refine j_aload_n C dX9_best_66 1 rfl rfl ?_
      refine j_getr C dX9_best_67 fl_X9_50 kd_27 (by decide) (Nat.le_of_ble_eq_true rfl) rfl ?_
      refine j_aload_n C dX9_best_70 1 rfl rfl ?_
      refine j_getr C dX9_best_71 fl_X9_26 kd_27 (by decide) (Nat.le_of_ble_eq_true rfl) rfl ?_
      refine j_iload_n C dX9_best_74 2 rfl rfl ?_
      refine j_iald C dX9_best_75 kd_33 (Nat.le_of_ble_eq_true rfl) ?_
      refine j_lald C dX9_best_76 kd_41 (Nat.le_of_ble_eq_true rfl) ?_
      refine j_lmul C dX9_best_77 ?_
      refine j_lload C dX9_best_78 0 rfl ?_
      refine j_lcmp C dX9_best_80 ?_
      refine j_topi (fun v9 => ?_)
      refine j_if_gt C dX9_best_81 (tgt := 87) (by decide) ?_ ?_
      · refine j_iinc C dX9_best_87 (v := x6 + 1) 7 rfl rfl (by decide) rfl ?_
        refine j_goto C dX9_best_90 (tgt := 36) (by decide) ?_
        refine j_sub C [2, 3, 4, 5, 6, 7, 0] rfl ?_
        exact ih x1 x2 x3 x4 x5 (x6 + 1) S7
      · refine j_iload C dX9_best_84 7 rfl ?_
        exact j_iret hR dX9_best_86
def f_X9_best_31  (S : St) : Option (Int32 × St) :=
    some ((-1), S)
set_option maxHeartbeats 1000000 in
theorem b_X9_best_31 {K : Kt} {adr : Nat → Nat} {r : Int32 × St} (C : Cx K cX9_best RX9 9 adr rm_X9_best) (hR : ∀ (pc : Nat) (lv : List (Nat × Value)), decode cX9_best pc = .ok (.ireturn, 1) → K pc lv [.int r.1] r.2)  (S : St) : J K r (f_X9_best_31  S) 31 [] [] S := by
    unfold f_X9_best_31
    refine j_iconst C dX9_best_31 (v := -1) rfl ?_
    exact j_iret hR dX9_best_32
def f_X9_best (x1 : Int32) (x2 : Int32) (x3 : Int32) (x4 : Int32) (x5 : Int32) (S : St) : Option (Int32 × St) :=
  bd (f_X9_isCell x1 S) fun v2 S1 =>
  if v2 = 0 then (f_X9_best_31 S1)
  else (bd (f_X9_areRates x2 x3 x4 S1) fun v4 S3 =>
    if v4 = 0 then (f_X9_best_31 S3)
    else (bd (f_X9_in x5.toInt64 1 1000 S3) fun v6 S5 =>
      if v6 = 0 then (f_X9_best_31 S5)
      else (f_X9_best_36 FU x1 x2 x3 x4 x5 0 S5)))
set_option maxHeartbeats 1000000 in
theorem m_X9_best (adr : Nat → Nat) (x1 : Int32) (x2 : Int32) (x3 : Int32) (x4 : Int32) (x5 : Int32) : MtI yX9_best cX9_best 9 (some .int) rm_X9_best adr [.ref (adr 27), .int x1, .int x2, .int x3, .int x4, .int x5] (f_X9_best x1 x2 x3 x4 x5) := by
  refine MtI.of (by decide +kernel) (Nat.le_of_ble_eq_true rfl) (fun K r S C hR => ?_)
  refine j_start (lv' := [(0, .ref (adr 27)), (1, .int x1), (2, .int x2), (3, .int x3), (4, .int x4), (5, .int x5)]) rfl ?_
  unfold f_X9_best
  refine j_aload_n C dX9_best_0 0 rfl rfl ?_
  refine j_iload_n C dX9_best_1 1 rfl rfl ?_
  refine j_cvi C dX9_best_2 lk_X9_158 mw_X9_isCell (m_X9_isCell adr x1) ⟨rfl, rfl, Nat.le_of_ble_eq_true rfl, Nat.le_of_ble_eq_true rfl⟩ kd_27 (by decide) (Nat.le_of_ble_eq_true rfl) rfl rfl (st := []) (st0 := [.int x1, .ref (adr 27)]) rfl (Nat.le_of_ble_eq_true rfl) (fun v2 S1 => ?_)
  refine j_if_eq C dX9_best_5 (tgt := 31) (by decide) ?_ ?_
  · refine j_sub C [] rfl ?_
    exact b_X9_best_31 C hR S1
  · refine j_iload_n C dX9_best_8 2 rfl rfl ?_
    refine j_iload_n C dX9_best_9 3 rfl rfl ?_
    refine j_iload C dX9_best_10 4 rfl ?_
    refine j_csi C dX9_best_12 lk_X9_239 mw_X9_areRates (m_X9_areRates adr x2 x3 x4) ⟨rfl, rfl, Nat.le_of_ble_eq_true rfl, Nat.le_of_ble_eq_true rfl⟩ rfl (st := []) (st0 := [.int x4, .int x3, .int x2]) rfl (Nat.le_of_ble_eq_true rfl) (fun v4 S3 => ?_)
    refine j_if_eq C dX9_best_15 (tgt := 31) (by decide) ?_ ?_
    · refine j_sub C [] rfl ?_
      exact b_X9_best_31 C hR S3
    · refine j_iload C dX9_best_18 5 rfl ?_
      refine j_i2l C dX9_best_20 ?_
      refine j_lconst C dX9_best_21 (v := 1) rfl ?_
      refine j_ldc2 C dX9_best_22 kc_X9_255 ?_
      refine j_csi C dX9_best_25 lk_X9_66 mw_X9_in (m_X9_in adr x5.toInt64 1 1000) ⟨rfl, rfl, Nat.le_of_ble_eq_true rfl, Nat.le_of_ble_eq_true rfl⟩ rfl (st := []) (st0 := [.long 1000, .long 1, .long x5.toInt64]) rfl (Nat.le_of_ble_eq_true rfl) (fun v6 S5 => ?_)
      refine j_if_ne C dX9_best_28 (tgt := 33) (by decide) ?_ ?_
      · refine j_iconst C dX9_best_33 (v := 0) rfl ?_
        refine j_istore C dX9_best_34 (by decide) rfl ?_
        refine j_sub C [1, 2, 3, 4, 5, 6, 0] rfl ?_
        exact b_X9_best_36 C hR FU x1 x2 x3 x4 x5 0 S5
      · refine j_sub C [] rfl ?_
        exact b_X9_best_31 C hR S5
-- X9_sees
abbrev rm_X9_sees : Room := { frames := 1, cells := 0, slots := 0, locals := 25 }
def f_X9_sees_22  (S : St) : Option (Int32 × St) :=
    some ((-1), S)
set_option maxHeartbeats 1000000 in
theorem b_X9_sees_22 {K : Kt} {adr : Nat → Nat} {r : Int32 × St} (C : Cx K cX9_sees RX9 3 adr rm_X9_sees) (hR : ∀ (pc : Nat) (lv : List (Nat × Value)), decode cX9_sees pc = .ok (.ireturn, 1) → K pc lv [.int r.1] r.2)  (S : St) : J K r (f_X9_sees_22  S) 22 [] [] S := by
    unfold f_X9_sees_22
    refine j_iconst C dX9_sees_22 (v := -1) rfl ?_
    exact j_iret hR dX9_sees_23
def f_X9_sees (x1 : Int32) (x2 : Int32) (S : St) : Option (Int32 × St) :=
  bd (f_X9_in x1.toInt64 0 6 S) fun v2 S1 =>
  if v2 = 0 then (f_X9_sees_22 S1)
  else (bd (f_X9_in x2.toInt64 0 1 S1) fun v4 S3 =>
    if v4 = 0 then (f_X9_sees_22 S3)
    else (if (S3.1 27 5) = 6 then (some ((-3), S3))
      else (ck (S3.1 27 5) 6 (lt (upI S3 30 (S3.1 27 5).toNatClampNeg x1) fun S5 =>
        ck (S5.1 27 5) 6 (lt (upI S5 31 (S5.1 27 5).toNatClampNeg x2) fun S6 =>
        lt (upI S6 27 5 ((S6.1 27 5) + 1)) fun S7 =>
        some (S7.1 27 5, S7))))))
set_option maxHeartbeats 1000000 in
theorem m_X9_sees (adr : Nat → Nat) (x1 : Int32) (x2 : Int32) : MtI yX9_sees cX9_sees 3 (some .int) rm_X9_sees adr [.ref (adr 27), .int x1, .int x2] (f_X9_sees x1 x2) := by
  refine MtI.of (by decide +kernel) (Nat.le_of_ble_eq_true rfl) (fun K r S C hR => ?_)
  refine j_start (lv' := [(0, .ref (adr 27)), (1, .int x1), (2, .int x2)]) rfl ?_
  unfold f_X9_sees
  refine j_iload_n C dX9_sees_0 1 rfl rfl ?_
  refine j_i2l C dX9_sees_1 ?_
  refine j_lconst C dX9_sees_2 (v := 0) rfl ?_
  refine j_ldc2 C dX9_sees_3 kc_X9_232 ?_
  refine j_csi C dX9_sees_6 lk_X9_66 mw_X9_in (m_X9_in adr x1.toInt64 0 6) ⟨rfl, rfl, Nat.le_of_ble_eq_true rfl, Nat.le_of_ble_eq_true rfl⟩ rfl (st := []) (st0 := [.long 6, .long 0, .long x1.toInt64]) rfl (Nat.le_of_ble_eq_true rfl) (fun v2 S1 => ?_)
  refine j_if_eq C dX9_sees_9 (tgt := 22) (by decide) ?_ ?_
  · refine j_sub C [] rfl ?_
    exact b_X9_sees_22 C hR S1
  · refine j_iload_n C dX9_sees_12 2 rfl rfl ?_
    refine j_i2l C dX9_sees_13 ?_
    refine j_lconst C dX9_sees_14 (v := 0) rfl ?_
    refine j_lconst C dX9_sees_15 (v := 1) rfl ?_
    refine j_csi C dX9_sees_16 lk_X9_66 mw_X9_in (m_X9_in adr x2.toInt64 0 1) ⟨rfl, rfl, Nat.le_of_ble_eq_true rfl, Nat.le_of_ble_eq_true rfl⟩ rfl (st := []) (st0 := [.long 1, .long 0, .long x2.toInt64]) rfl (Nat.le_of_ble_eq_true rfl) (fun v4 S3 => ?_)
    refine j_if_ne C dX9_sees_19 (tgt := 24) (by decide) ?_ ?_
    · refine j_aload_n C dX9_sees_24 0 rfl rfl ?_
      refine j_geti C dX9_sees_25 fl_X9_136 kd_27 (by decide) (Nat.le_of_ble_eq_true rfl) rfl ?_
      refine j_bipush C dX9_sees_28 (v := 6) rfl ?_
      refine j_icmp_ne C dX9_sees_30 (tgt := 36) (by decide) ?_ ?_
      · refine j_aload_n C dX9_sees_36 0 rfl rfl ?_
        refine j_getr C dX9_sees_37 fl_X9_17 kd_27 (by decide) (Nat.le_of_ble_eq_true rfl) rfl ?_
        refine j_aload_n C dX9_sees_40 0 rfl rfl ?_
        refine j_geti C dX9_sees_41 fl_X9_136 kd_27 (by decide) (Nat.le_of_ble_eq_true rfl) rfl ?_
        refine j_iload_n C dX9_sees_44 1 rfl rfl ?_
        refine j_iast C dX9_sees_45 kd_30 (Nat.le_of_ble_eq_true rfl) (fun S5 => ?_)
        refine j_aload_n C dX9_sees_46 0 rfl rfl ?_
        refine j_getr C dX9_sees_47 fl_X9_20 kd_27 (by decide) (Nat.le_of_ble_eq_true rfl) rfl ?_
        refine j_aload_n C dX9_sees_50 0 rfl rfl ?_
        refine j_geti C dX9_sees_51 fl_X9_136 kd_27 (by decide) (Nat.le_of_ble_eq_true rfl) rfl ?_
        refine j_iload_n C dX9_sees_54 2 rfl rfl ?_
        refine j_iast C dX9_sees_55 kd_31 (Nat.le_of_ble_eq_true rfl) (fun S6 => ?_)
        refine j_aload_n C dX9_sees_56 0 rfl rfl ?_
        refine j_dup C dX9_sees_57 rfl ?_
        refine j_geti C dX9_sees_58 fl_X9_136 kd_27 (by decide) (Nat.le_of_ble_eq_true rfl) rfl ?_
        refine j_iconst C dX9_sees_61 (v := 1) rfl ?_
        refine j_iadd C dX9_sees_62 ?_
        refine j_puti C dX9_sees_63 fl_X9_136 fi_X9_5 kd_27 (by decide) (Nat.le_of_ble_eq_true rfl) rfl (fun S7 => ?_)
        refine j_aload_n C dX9_sees_66 0 rfl rfl ?_
        refine j_geti C dX9_sees_67 fl_X9_136 kd_27 (by decide) (Nat.le_of_ble_eq_true rfl) rfl ?_
        exact j_iret hR dX9_sees_70
      · refine j_bipush C dX9_sees_33 (v := -3) rfl ?_
        exact j_iret hR dX9_sees_35
    · refine j_sub C [] rfl ?_
      exact b_X9_sees_22 C hR S3
-- X9_forget
abbrev rm_X9_forget : Room := { frames := 0, cells := 0, slots := 0, locals := 0 }
def f_X9_forget  (S : St) : Option (Int32 × St) :=
  lt (S.1 27 5) fun v1 =>
  lt (upI S 27 5 0) fun S2 =>
  some (v1, S2)
set_option maxHeartbeats 1000000 in
theorem m_X9_forget (adr : Nat → Nat)  : MtI yX9_forget cX9_forget 2 (some .int) rm_X9_forget adr [.ref (adr 27)] (f_X9_forget ) := by
  refine MtI.of (by decide +kernel) (Nat.le_of_ble_eq_true rfl) (fun K r S C hR => ?_)
  refine j_start (lv' := [(0, .ref (adr 27))]) rfl ?_
  unfold f_X9_forget
  refine j_aload_n C dX9_forget_0 0 rfl rfl ?_
  refine j_geti C dX9_forget_1 fl_X9_136 kd_27 (by decide) (Nat.le_of_ble_eq_true rfl) rfl ?_
  refine j_topi (fun v1 => ?_)
  refine j_istore_n C dX9_forget_4 rfl (by decide) rfl ?_
  refine j_aload_n C dX9_forget_5 1 rfl rfl ?_
  refine j_iconst C dX9_forget_6 (v := 0) rfl ?_
  refine j_puti C dX9_forget_7 fl_X9_136 fi_X9_5 kd_27 (by decide) (Nat.le_of_ble_eq_true rfl) rfl (fun S2 => ?_)
  refine j_iload_n C dX9_forget_10 0 rfl rfl ?_
  exact j_iret hR dX9_forget_11
-- X9_couldBe
abbrev rm_X9_couldBe : Room := { frames := 2, cells := 0, slots := 0, locals := 43 }
def f_X9_couldBe_58 (k4 : Int32 → Int32 → Int32 → St → Option (Int32 × St)) (x1 : Int32) (x3 : Int32) (s0 : Int32) (S : St) : Option (Int32 × St) :=
    k4 x1 s0 (x3 + 1) S
set_option maxHeartbeats 1000000 in
theorem b_X9_couldBe_58 {K : Kt} {adr : Nat → Nat} {r : Int32 × St} (C : Cx K cX9_couldBe RX9 5 adr rm_X9_couldBe) (hR : ∀ (pc : Nat) (lv : List (Nat × Value)), (r.1 = 0 ∨ r.1 = 1) → decode cX9_couldBe pc = .ok (.ireturn, 1) → K pc lv [.int r.1] r.2) (k4 : Int32 → Int32 → Int32 → St → Option (Int32 × St)) (h4 : ∀ (x1 : Int32) (x2 : Int32) (x3 : Int32) (S : St), J K r (k4 x1 x2 x3 S) 4 [(0, .ref (adr 27)), (1, .int x1), (2, .int x2), (3, .int x3)] [] S) (x1 : Int32) (x3 : Int32) (s0 : Int32) (S : St) : J K r (f_X9_couldBe_58 k4 x1 x3 s0 S) 58 [(0, .ref (adr 27)), (1, .int x1), (3, .int x3)] [.int s0] S := by
    unfold f_X9_couldBe_58
    refine j_istore_n C dX9_couldBe_58 rfl (by decide) rfl ?_
    refine j_iinc C dX9_couldBe_59 (v := x3 + 1) 3 rfl rfl (by decide) rfl ?_
    refine j_goto C dX9_couldBe_62 (tgt := 4) (by decide) ?_
    refine j_sub C [2, 3, 1, 0] rfl ?_
    exact h4 x1 s0 (x3 + 1) S
def f_X9_couldBe_57 (k4 : Int32 → Int32 → Int32 → St → Option (Int32 × St)) (x1 : Int32) (x3 : Int32) (S : St) : Option (Int32 × St) :=
    f_X9_couldBe_58 k4 x1 x3 0 S
set_option maxHeartbeats 1000000 in
theorem b_X9_couldBe_57 {K : Kt} {adr : Nat → Nat} {r : Int32 × St} (C : Cx K cX9_couldBe RX9 5 adr rm_X9_couldBe) (hR : ∀ (pc : Nat) (lv : List (Nat × Value)), (r.1 = 0 ∨ r.1 = 1) → decode cX9_couldBe pc = .ok (.ireturn, 1) → K pc lv [.int r.1] r.2) (k4 : Int32 → Int32 → Int32 → St → Option (Int32 × St)) (h4 : ∀ (x1 : Int32) (x2 : Int32) (x3 : Int32) (S : St), J K r (k4 x1 x2 x3 S) 4 [(0, .ref (adr 27)), (1, .int x1), (2, .int x2), (3, .int x3)] [] S) (x1 : Int32) (x3 : Int32) (S : St) : J K r (f_X9_couldBe_57 k4 x1 x3 S) 57 [(0, .ref (adr 27)), (1, .int x1), (3, .int x3)] [] S := by
    unfold f_X9_couldBe_57
    refine j_iconst C dX9_couldBe_57 (v := 0) rfl ?_
    exact b_X9_couldBe_58 C hR k4 h4 x1 x3 0 S
def f_X9_couldBe_53 (k4 : Int32 → Int32 → Int32 → St → Option (Int32 × St)) (x1 : Int32) (x3 : Int32) (S : St) : Option (Int32 × St) :=
    f_X9_couldBe_58 k4 x1 x3 1 S
set_option maxHeartbeats 1000000 in
theorem b_X9_couldBe_53 {K : Kt} {adr : Nat → Nat} {r : Int32 × St} (C : Cx K cX9_couldBe RX9 5 adr rm_X9_couldBe) (hR : ∀ (pc : Nat) (lv : List (Nat × Value)), (r.1 = 0 ∨ r.1 = 1) → decode cX9_couldBe pc = .ok (.ireturn, 1) → K pc lv [.int r.1] r.2) (k4 : Int32 → Int32 → Int32 → St → Option (Int32 × St)) (h4 : ∀ (x1 : Int32) (x2 : Int32) (x3 : Int32) (S : St), J K r (k4 x1 x2 x3 S) 4 [(0, .ref (adr 27)), (1, .int x1), (2, .int x2), (3, .int x3)] [] S) (x1 : Int32) (x3 : Int32) (S : St) : J K r (f_X9_couldBe_53 k4 x1 x3 S) 53 [(0, .ref (adr 27)), (1, .int x1), (3, .int x3)] [] S := by
    unfold f_X9_couldBe_53
    refine j_iconst C dX9_couldBe_53 (v := 1) rfl ?_
    refine j_goto C dX9_couldBe_54 (tgt := 58) (by decide) ?_
    exact b_X9_couldBe_58 C hR k4 h4 x1 x3 1 S
def f_X9_couldBe_4 : Nat → Int32 → Int32 → Int32 → St → Option (Int32 × St)
  | 0, _, _, _, _ => none
  | n + 1, x1, x2, x3, S =>
    if (S.1 27 5) ≤ x3 then (bz x2 (some (x2, S)))
    else (ck x3 6 (bd (f_X9_chanceBy (S.1 30 x3.toNatClampNeg) x1 S) fun v2 S1 =>
      if x2 = 0 then (f_X9_couldBe_57 (f_X9_couldBe_4 n) x1 x3 S1)
      else (ck x3 6 (if (S1.1 31 x3.toNatClampNeg) = 1 then (if v2 ≤ 0 then (f_X9_couldBe_57 (f_X9_couldBe_4 n) x1 x3 S1)
          else (f_X9_couldBe_53 (f_X9_couldBe_4 n) x1 x3 S1))
        else (if 10 ≤ v2 then (f_X9_couldBe_57 (f_X9_couldBe_4 n) x1 x3 S1)
          else (f_X9_couldBe_53 (f_X9_couldBe_4 n) x1 x3 S1))))))
set_option maxHeartbeats 1000000 in
theorem b_X9_couldBe_4 {K : Kt} {adr : Nat → Nat} {r : Int32 × St} (C : Cx K cX9_couldBe RX9 5 adr rm_X9_couldBe) (hR : ∀ (pc : Nat) (lv : List (Nat × Value)), (r.1 = 0 ∨ r.1 = 1) → decode cX9_couldBe pc = .ok (.ireturn, 1) → K pc lv [.int r.1] r.2) : ∀ (n : Nat) (x1 : Int32) (x2 : Int32) (x3 : Int32) (S : St), J K r (f_X9_couldBe_4 n x1 x2 x3 S) 4 [(0, .ref (adr 27)), (1, .int x1), (2, .int x2), (3, .int x3)] [] S := by
  intro n
  induction n with
  | zero => intro x1 x2 x3 S h; cases h
  | succ n ih =>
    intro x1 x2 x3 S
    unfold f_X9_couldBe_4
    refine j_iload_n C dX9_couldBe_4 3 rfl rfl ?_
    refine j_aload_n C dX9_couldBe_5 0 rfl rfl ?_
    refine j_geti C dX9_couldBe_6 fl_X9_136 kd_27 (by decide) (Nat.le_of_ble_eq_true rfl) rfl ?_
    refine j_icmp_ge C dX9_couldBe_9 (tgt := 65) (by decide) ?_ ?_
    · refine j_iload_n C dX9_couldBe_65 2 rfl rfl ?_
      exact j_zretv hR dX9_couldBe_66
    · refine j_aload_n C dX9_couldBe_12 0 rfl rfl ?_
      refine j_getr C dX9_couldBe_13 fl_X9_17 kd_27 (by decide) (Nat.le_of_ble_eq_true rfl) rfl ?_
      refine j_iload_n C dX9_couldBe_16 3 rfl rfl ?_
      refine j_iald C dX9_couldBe_17 kd_30 (Nat.le_of_ble_eq_true rfl) ?_
      refine j_iload_n C dX9_couldBe_18 1 rfl rfl ?_
      refine j_csi C dX9_couldBe_19 lk_X9_154 mw_X9_chanceBy (m_X9_chanceBy adr (S.1 30 x3.toNatClampNeg) x1) ⟨rfl, rfl, Nat.le_of_ble_eq_true rfl, Nat.le_of_ble_eq_true rfl⟩ rfl (st := []) (st0 := [.int x1, .int (S.1 30 x3.toNatClampNeg)]) rfl (Nat.le_of_ble_eq_true rfl) (fun v2 S1 => ?_)
      refine j_istore C dX9_couldBe_22 (by decide) rfl ?_
      refine j_iload_n C dX9_couldBe_24 3 rfl rfl ?_
      refine j_if_eq C dX9_couldBe_25 (tgt := 57) (by decide) ?_ ?_
      · refine j_sub C [1, 2, 4] rfl ?_
        exact b_X9_couldBe_57 C hR (f_X9_couldBe_4 n) ih x1 x3 S1
      · refine j_aload_n C dX9_couldBe_28 1 rfl rfl ?_
        refine j_getr C dX9_couldBe_29 fl_X9_20 kd_27 (by decide) (Nat.le_of_ble_eq_true rfl) rfl ?_
        refine j_iload_n C dX9_couldBe_32 4 rfl rfl ?_
        refine j_iald C dX9_couldBe_33 kd_31 (Nat.le_of_ble_eq_true rfl) ?_
        refine j_iconst C dX9_couldBe_34 (v := 1) rfl ?_
        refine j_icmp_ne C dX9_couldBe_35 (tgt := 46) (by decide) ?_ ?_
        · refine j_iload C dX9_couldBe_46 0 rfl ?_
          refine j_bipush C dX9_couldBe_48 (v := 10) rfl ?_
          refine j_icmp_ge C dX9_couldBe_50 (tgt := 57) (by decide) ?_ ?_
          · refine j_sub C [1, 2, 4] rfl ?_
            exact b_X9_couldBe_57 C hR (f_X9_couldBe_4 n) ih x1 x3 S1
          · refine j_sub C [1, 2, 4] rfl ?_
            exact b_X9_couldBe_53 C hR (f_X9_couldBe_4 n) ih x1 x3 S1
        · refine j_iload C dX9_couldBe_38 0 rfl ?_
          refine j_if_le C dX9_couldBe_40 (tgt := 57) (by decide) ?_ ?_
          · refine j_sub C [1, 2, 4] rfl ?_
            exact b_X9_couldBe_57 C hR (f_X9_couldBe_4 n) ih x1 x3 S1
          · refine j_goto C dX9_couldBe_43 (tgt := 53) (by decide) ?_
            refine j_sub C [1, 2, 4] rfl ?_
            exact b_X9_couldBe_53 C hR (f_X9_couldBe_4 n) ih x1 x3 S1
def f_X9_couldBe (x1 : Int32) (S : St) : Option (Int32 × St) :=
  f_X9_couldBe_4 FU x1 1 0 S
set_option maxHeartbeats 1000000 in
theorem m_X9_couldBe (adr : Nat → Nat) (x1 : Int32) : MtI yX9_couldBe cX9_couldBe 5 (some .boolean) rm_X9_couldBe adr [.ref (adr 27), .int x1] (f_X9_couldBe x1) := by
  refine MtI.ofZ (by decide +kernel) (Nat.le_of_ble_eq_true rfl) (fun K r S C hR => ?_)
  refine j_start (lv' := [(0, .ref (adr 27)), (1, .int x1)]) rfl ?_
  unfold f_X9_couldBe
  refine j_iconst C dX9_couldBe_0 (v := 1) rfl ?_
  refine j_istore_n C dX9_couldBe_1 rfl (by decide) rfl ?_
  refine j_iconst C dX9_couldBe_2 (v := 0) rfl ?_
  refine j_istore_n C dX9_couldBe_3 rfl (by decide) rfl ?_
  refine j_sub C [2, 3, 1, 0] rfl ?_
  exact b_X9_couldBe_4 C hR FU x1 1 0 S
-- X9_unseen
abbrev rm_X9_unseen : Room := { frames := 3, cells := 0, slots := 0, locals := 67 }
def f_X9_unseen_104 (s0 : Int32) (S : St) : Option (Int32 × St) :=
    some (s0, S)
set_option maxHeartbeats 1000000 in
theorem b_X9_unseen_104 {K : Kt} {adr : Nat → Nat} {r : Int32 × St} (C : Cx K cX9_unseen RX9 7 adr rm_X9_unseen) (hR : ∀ (pc : Nat) (lv : List (Nat × Value)), decode cX9_unseen pc = .ok (.ireturn, 1) → K pc lv [.int r.1] r.2) (s0 : Int32) (S : St) : J K r (f_X9_unseen_104 s0 S) 104 [] [.int s0] S := by
    unfold f_X9_unseen_104
    exact j_iret hR dX9_unseen_104
def f_X9_unseen_78 (k35 : Int32 → Int32 → Int32 → Int32 → Int32 → Int32 → St → Option (Int32 × St)) (x1 : Int32) (x2 : Int32) (x3 : Int32) (x4 : Int32) (x5 : Int32) (x6 : Int32) (S : St) : Option (Int32 × St) :=
    k35 x1 x2 x3 x4 x5 (x6 + 1) S
set_option maxHeartbeats 1000000 in
theorem b_X9_unseen_78 {K : Kt} {adr : Nat → Nat} {r : Int32 × St} (C : Cx K cX9_unseen RX9 7 adr rm_X9_unseen) (hR : ∀ (pc : Nat) (lv : List (Nat × Value)), decode cX9_unseen pc = .ok (.ireturn, 1) → K pc lv [.int r.1] r.2) (k35 : Int32 → Int32 → Int32 → Int32 → Int32 → Int32 → St → Option (Int32 × St)) (h35 : ∀ (x1 : Int32) (x2 : Int32) (x3 : Int32) (x4 : Int32) (x5 : Int32) (x6 : Int32) (S : St), J K r (k35 x1 x2 x3 x4 x5 x6 S) 35 [(0, .ref (adr 27)), (1, .int x1), (2, .int x2), (3, .int x3), (4, .int x4), (5, .int x5), (6, .int x6)] [] S) (x1 : Int32) (x2 : Int32) (x3 : Int32) (x4 : Int32) (x5 : Int32) (x6 : Int32) (S : St) : J K r (f_X9_unseen_78 k35 x1 x2 x3 x4 x5 x6 S) 78 [(0, .ref (adr 27)), (1, .int x1), (2, .int x2), (3, .int x3), (4, .int x4), (5, .int x5), (6, .int x6)] [] S := by
    unfold f_X9_unseen_78
    refine j_iinc C dX9_unseen_78 (v := x6 + 1) 6 rfl rfl (by decide) rfl ?_
    refine j_goto C dX9_unseen_81 (tgt := 35) (by decide) ?_
    refine j_sub C [1, 2, 3, 4, 5, 6, 0] rfl ?_
    exact h35 x1 x2 x3 x4 x5 (x6 + 1) S
def f_X9_unseen_69 (k35 : Int32 → Int32 → Int32 → Int32 → Int32 → Int32 → St → Option (Int32 × St)) (x1 : Int32) (x2 : Int32) (x3 : Int32) (x6 : Int32) (s0 : Int32) (S : St) : Option (Int32 × St) :=
    f_X9_unseen_78 k35 x1 x2 (x3 + 1) s0 x6 x6 S
set_option maxHeartbeats 1000000 in
theorem b_X9_unseen_69 {K : Kt} {adr : Nat → Nat} {r : Int32 × St} (C : Cx K cX9_unseen RX9 7 adr rm_X9_unseen) (hR : ∀ (pc : Nat) (lv : List (Nat × Value)), decode cX9_unseen pc = .ok (.ireturn, 1) → K pc lv [.int r.1] r.2) (k35 : Int32 → Int32 → Int32 → Int32 → Int32 → Int32 → St → Option (Int32 × St)) (h35 : ∀ (x1 : Int32) (x2 : Int32) (x3 : Int32) (x4 : Int32) (x5 : Int32) (x6 : Int32) (S : St), J K r (k35 x1 x2 x3 x4 x5 x6 S) 35 [(0, .ref (adr 27)), (1, .int x1), (2, .int x2), (3, .int x3), (4, .int x4), (5, .int x5), (6, .int x6)] [] S) (x1 : Int32) (x2 : Int32) (x3 : Int32) (x6 : Int32) (s0 : Int32) (S : St) : J K r (f_X9_unseen_69 k35 x1 x2 x3 x6 s0 S) 69 [(0, .ref (adr 27)), (1, .int x1), (2, .int x2), (3, .int x3), (6, .int x6)] [.int s0] S := by
    unfold f_X9_unseen_69
    refine j_istore C dX9_unseen_69 (by decide) rfl ?_
    refine j_iload C dX9_unseen_71 5 rfl ?_
    refine j_istore C dX9_unseen_73 (by decide) rfl ?_
    refine j_iinc C dX9_unseen_75 (v := x3 + 1) 5 rfl rfl (by decide) rfl ?_
    refine j_sub C [3, 4, 5, 0, 2, 1, 6] rfl ?_
    exact b_X9_unseen_78 C hR k35 h35 x1 x2 (x3 + 1) s0 x6 x6 S
def f_X9_unseen_35 : Nat → Int32 → Int32 → Int32 → Int32 → Int32 → Int32 → St → Option (Int32 × St)
  | 0, _, _, _, _, _, _, _ => none
  | n + 1, x1, x2, x3, x4, x5, x6, S =>
    ck x1 4 (if (10 * (S.1 33 x1.toNatClampNeg)) < x6 then (if x2 = 0 then (f_X9_unseen_104 x3 S)
      else (if x2 = 1 then (f_X9_unseen_104 x4 S)
        else (f_X9_unseen_104 x5 S)))
    else (bd (f_X9_couldBe x6 S) fun v6 S5 =>
      if v6 = 0 then (f_X9_unseen_78 (f_X9_unseen_35 n) x1 x2 x3 x4 x5 x6 S5)
      else (if x3 = 0 then (f_X9_unseen_69 (f_X9_unseen_35 n) x1 x2 x3 x6 x6 S5)
        else (f_X9_unseen_69 (f_X9_unseen_35 n) x1 x2 x3 x6 x4 S5))))
set_option maxHeartbeats 1000000 in
theorem b_X9_unseen_35 {K : Kt} {adr : Nat → Nat} {r : Int32 × St} (C : Cx K cX9_unseen RX9 7 adr rm_X9_unseen) (hR : ∀ (pc : Nat) (lv : List (Nat × Value)), decode cX9_unseen pc = .ok (.ireturn, 1) → K pc lv [.int r.1] r.2) : ∀ (n : Nat) (x1 : Int32) (x2 : Int32) (x3 : Int32) (x4 : Int32) (x5 : Int32) (x6 : Int32) (S : St), J K r (f_X9_unseen_35 n x1 x2 x3 x4 x5 x6 S) 35 [(0, .ref (adr 27)), (1, .int x1), (2, .int x2), (3, .int x3), (4, .int x4), (5, .int x5), (6, .int x6)] [] S := by
  intro n
  induction n with
  | zero => intro x1 x2 x3 x4 x5 x6 S h; cases h
  | succ n ih =>
    intro x1 x2 x3 x4 x5 x6 S
    unfold f_X9_unseen_35
    refine j_iload C dX9_unseen_35 6 rfl ?_
    refine j_bipush C dX9_unseen_37 (v := 10) rfl ?_
    refine j_aload_n C dX9_unseen_39 0 rfl rfl ?_
    refine j_getr C dX9_unseen_40 fl_X9_26 kd_27 (by decide) (Nat.le_of_ble_eq_true rfl) rfl ?_
    refine j_iload_n C dX9_unseen_43 1 rfl rfl ?_
    refine j_iald C dX9_unseen_44 kd_33 (Nat.le_of_ble_eq_true rfl) ?_
    refine j_imul C dX9_unseen_45 ?_
    refine j_icmp_gt C dX9_unseen_46 (tgt := 84) (by decide) ?_ ?_
    · refine j_iload_n C dX9_unseen_84 2 rfl rfl ?_
      refine j_if_ne C dX9_unseen_85 (tgt := 92) (by decide) ?_ ?_
      · refine j_iload_n C dX9_unseen_92 2 rfl rfl ?_
        refine j_iconst C dX9_unseen_93 (v := 1) rfl ?_
        refine j_icmp_ne C dX9_unseen_94 (tgt := 102) (by decide) ?_ ?_
        · refine j_iload C dX9_unseen_102 5 rfl ?_
          refine j_sub C [] rfl ?_
          exact b_X9_unseen_104 C hR x5 S
        · refine j_iload C dX9_unseen_97 4 rfl ?_
          refine j_goto C dX9_unseen_99 (tgt := 104) (by decide) ?_
          refine j_sub C [] rfl ?_
          exact b_X9_unseen_104 C hR x4 S
      · refine j_iload_n C dX9_unseen_88 3 rfl rfl ?_
        refine j_goto C dX9_unseen_89 (tgt := 104) (by decide) ?_
        refine j_sub C [] rfl ?_
        exact b_X9_unseen_104 C hR x3 S
    · refine j_aload_n C dX9_unseen_49 0 rfl rfl ?_
      refine j_iload C dX9_unseen_50 6 rfl ?_
      refine j_cvi C dX9_unseen_52 lk_X9_257 mw_X9_couldBe (m_X9_couldBe adr x6) ⟨rfl, rfl, Nat.le_of_ble_eq_true rfl, Nat.le_of_ble_eq_true rfl⟩ kd_27 (by decide) (Nat.le_of_ble_eq_true rfl) rfl rfl (st := []) (st0 := [.int x6, .ref (adr 27)]) rfl (Nat.le_of_ble_eq_true rfl) (fun v6 S5 => ?_)
      refine j_if_eq C dX9_unseen_55 (tgt := 78) (by decide) ?_ ?_
      · exact b_X9_unseen_78 C hR (f_X9_unseen_35 n) ih x1 x2 x3 x4 x5 x6 S5
      · refine j_iload_n C dX9_unseen_58 3 rfl rfl ?_
        refine j_if_ne C dX9_unseen_59 (tgt := 67) (by decide) ?_ ?_
        · refine j_iload C dX9_unseen_67 4 rfl ?_
          refine j_sub C [0, 1, 2, 3, 6] rfl ?_
          exact b_X9_unseen_69 C hR (f_X9_unseen_35 n) ih x1 x2 x3 x6 x4 S5
        · refine j_iload C dX9_unseen_62 6 rfl ?_
          refine j_goto C dX9_unseen_64 (tgt := 69) (by decide) ?_
          refine j_sub C [0, 1, 2, 3, 6] rfl ?_
          exact b_X9_unseen_69 C hR (f_X9_unseen_35 n) ih x1 x2 x3 x6 x6 S5
def f_X9_unseen_20  (S : St) : Option (Int32 × St) :=
    some ((-1), S)
set_option maxHeartbeats 1000000 in
theorem b_X9_unseen_20 {K : Kt} {adr : Nat → Nat} {r : Int32 × St} (C : Cx K cX9_unseen RX9 7 adr rm_X9_unseen) (hR : ∀ (pc : Nat) (lv : List (Nat × Value)), decode cX9_unseen pc = .ok (.ireturn, 1) → K pc lv [.int r.1] r.2)  (S : St) : J K r (f_X9_unseen_20  S) 20 [] [] S := by
    unfold f_X9_unseen_20
    refine j_iconst C dX9_unseen_20 (v := -1) rfl ?_
    exact j_iret hR dX9_unseen_21
def f_X9_unseen (x1 : Int32) (x2 : Int32) (S : St) : Option (Int32 × St) :=
  bd (f_X9_isCell x1 S) fun v2 S1 =>
  if v2 = 0 then (f_X9_unseen_20 S1)
  else (bd (f_X9_in x2.toInt64 0 2 S1) fun v4 S3 =>
    if v4 = 0 then (f_X9_unseen_20 S3)
    else (f_X9_unseen_35 FU x1 x2 0 (-9) (-9) 0 S3))
set_option maxHeartbeats 1000000 in
theorem m_X9_unseen (adr : Nat → Nat) (x1 : Int32) (x2 : Int32) : MtI yX9_unseen cX9_unseen 7 (some .int) rm_X9_unseen adr [.ref (adr 27), .int x1, .int x2] (f_X9_unseen x1 x2) := by
  refine MtI.of (by decide +kernel) (Nat.le_of_ble_eq_true rfl) (fun K r S C hR => ?_)
  refine j_start (lv' := [(0, .ref (adr 27)), (1, .int x1), (2, .int x2)]) rfl ?_
  unfold f_X9_unseen
  refine j_aload_n C dX9_unseen_0 0 rfl rfl ?_
  refine j_iload_n C dX9_unseen_1 1 rfl rfl ?_
  refine j_cvi C dX9_unseen_2 lk_X9_158 mw_X9_isCell (m_X9_isCell adr x1) ⟨rfl, rfl, Nat.le_of_ble_eq_true rfl, Nat.le_of_ble_eq_true rfl⟩ kd_27 (by decide) (Nat.le_of_ble_eq_true rfl) rfl rfl (st := []) (st0 := [.int x1, .ref (adr 27)]) rfl (Nat.le_of_ble_eq_true rfl) (fun v2 S1 => ?_)
  refine j_if_eq C dX9_unseen_5 (tgt := 20) (by decide) ?_ ?_
  · refine j_sub C [] rfl ?_
    exact b_X9_unseen_20 C hR S1
  · refine j_iload_n C dX9_unseen_8 2 rfl rfl ?_
    refine j_i2l C dX9_unseen_9 ?_
    refine j_lconst C dX9_unseen_10 (v := 0) rfl ?_
    refine j_ldc2 C dX9_unseen_11 kc_X9_235 ?_
    refine j_csi C dX9_unseen_14 lk_X9_66 mw_X9_in (m_X9_in adr x2.toInt64 0 2) ⟨rfl, rfl, Nat.le_of_ble_eq_true rfl, Nat.le_of_ble_eq_true rfl⟩ rfl (st := []) (st0 := [.long 2, .long 0, .long x2.toInt64]) rfl (Nat.le_of_ble_eq_true rfl) (fun v4 S3 => ?_)
    refine j_if_ne C dX9_unseen_17 (tgt := 22) (by decide) ?_ ?_
    · refine j_iconst C dX9_unseen_22 (v := 0) rfl ?_
      refine j_istore_n C dX9_unseen_23 rfl (by decide) rfl ?_
      refine j_bipush C dX9_unseen_24 (v := -9) rfl ?_
      refine j_istore C dX9_unseen_26 (by decide) rfl ?_
      refine j_bipush C dX9_unseen_28 (v := -9) rfl ?_
      refine j_istore C dX9_unseen_30 (by decide) rfl ?_
      refine j_iconst C dX9_unseen_32 (v := 0) rfl ?_
      refine j_istore C dX9_unseen_33 (by decide) rfl ?_
      refine j_sub C [4, 5, 6, 3, 2, 1, 0] rfl ?_
      exact b_X9_unseen_35 C hR FU x1 x2 0 (-9) (-9) 0 S3
    · refine j_sub C [] rfl ?_
      exact b_X9_unseen_20 C hR S3
