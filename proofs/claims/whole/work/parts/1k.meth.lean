-- X9_take
abbrev rm_X9_take : Room := { frames := 2, cells := 0, slots := 0, locals := 45 }
def f_X9_take_237  (S : St) : Option (St) :=
    some S
set_option maxHeartbeats 1000000 in
theorem b_X9_take_237 {K : Kt} {adr : Nat → Nat} {r : St} (C : Cx K cX9_take RX9 2 adr rm_X9_take) (hR : ∀ (pc : Nat) (lv : List (Nat × Value)), decode cX9_take pc = .ok (.return_, 1) → K pc lv [] r)  (S : St) : J K r (f_X9_take_237  S) 237 [] [] S := by
    unfold f_X9_take_237
    exact j_vret hR dX9_take_237
def f_X9_take_234 (s0 : Int32) (S : St) : Option (St) :=
    lt (upI S 27 14 s0) fun S16 =>
    f_X9_take_237 S16
set_option maxHeartbeats 1000000 in
theorem b_X9_take_234 {K : Kt} {adr : Nat → Nat} {r : St} (C : Cx K cX9_take RX9 2 adr rm_X9_take) (hR : ∀ (pc : Nat) (lv : List (Nat × Value)), decode cX9_take pc = .ok (.return_, 1) → K pc lv [] r) (s0 : Int32) (S : St) : J K r (f_X9_take_234 s0 S) 234 [] [.int s0, .ref (adr 27)] S := by
    unfold f_X9_take_234
    refine j_puti C dX9_take_234 fl_X9_79 fi_X9_14 kd_27 (by decide) (Nat.le_of_ble_eq_true rfl) rfl (fun S16 => ?_)
    exact b_X9_take_237 C hR S16
def f_X9_take_232  (S : St) : Option (St) :=
    f_X9_take_234 (-2) S
set_option maxHeartbeats 1000000 in
theorem b_X9_take_232 {K : Kt} {adr : Nat → Nat} {r : St} (C : Cx K cX9_take RX9 2 adr rm_X9_take) (hR : ∀ (pc : Nat) (lv : List (Nat × Value)), decode cX9_take pc = .ok (.return_, 1) → K pc lv [] r)  (S : St) : J K r (f_X9_take_232  S) 232 [] [.ref (adr 27)] S := by
    unfold f_X9_take_232
    refine j_bipush C dX9_take_232 (v := -2) rfl ?_
    exact b_X9_take_234 C hR (-2) S
def f_X9_take_228  (S : St) : Option (St) :=
    f_X9_take_234 0 S
set_option maxHeartbeats 1000000 in
theorem b_X9_take_228 {K : Kt} {adr : Nat → Nat} {r : St} (C : Cx K cX9_take RX9 2 adr rm_X9_take) (hR : ∀ (pc : Nat) (lv : List (Nat × Value)), decode cX9_take pc = .ok (.return_, 1) → K pc lv [] r)  (S : St) : J K r (f_X9_take_228  S) 228 [] [.ref (adr 27)] S := by
    unfold f_X9_take_228
    refine j_iconst C dX9_take_228 (v := 0) rfl ?_
    refine j_goto C dX9_take_229 (tgt := 234) (by decide) ?_
    exact b_X9_take_234 C hR 0 S
def f_X9_take_199 (x1 : Int32) (S : St) : Option (St) :=
    if 99 < (S.1 27 15) then (f_X9_take_228 S)
    else (if x1 = 48 then (if ((S.1 27 12) - (S.1 27 13)) ≤ 1 then (f_X9_take_232 S)
        else (f_X9_take_228 S))
      else (f_X9_take_232 S))
set_option maxHeartbeats 1000000 in
theorem b_X9_take_199 {K : Kt} {adr : Nat → Nat} {r : St} (C : Cx K cX9_take RX9 2 adr rm_X9_take) (hR : ∀ (pc : Nat) (lv : List (Nat × Value)), decode cX9_take pc = .ok (.return_, 1) → K pc lv [] r) (x1 : Int32) (S : St) : J K r (f_X9_take_199 x1 S) 199 [(0, .ref (adr 27)), (1, .int x1)] [] S := by
    unfold f_X9_take_199
    refine j_aload_n C dX9_take_199 0 rfl rfl ?_
    refine j_aload_n C dX9_take_200 0 rfl rfl ?_
    refine j_geti C dX9_take_201 fl_X9_90 kd_27 (by decide) (Nat.le_of_ble_eq_true rfl) rfl ?_
    refine j_bipush C dX9_take_204 (v := 99) rfl ?_
    refine j_icmp_gt C dX9_take_206 (tgt := 228) (by decide) ?_ ?_
    · refine j_sub C [] rfl ?_
      exact b_X9_take_228 C hR S
    · refine j_iload_n C dX9_take_209 1 rfl rfl ?_
      refine j_bipush C dX9_take_210 (v := 48) rfl ?_
      refine j_icmp_ne C dX9_take_212 (tgt := 232) (by decide) ?_ ?_
      · refine j_sub C [] rfl ?_
        exact b_X9_take_232 C hR S
      · refine j_aload_n C dX9_take_215 0 rfl rfl ?_
        refine j_geti C dX9_take_216 fl_X9_70 kd_27 (by decide) (Nat.le_of_ble_eq_true rfl) rfl ?_
        refine j_aload_n C dX9_take_219 0 rfl rfl ?_
        refine j_geti C dX9_take_220 fl_X9_76 kd_27 (by decide) (Nat.le_of_ble_eq_true rfl) rfl ?_
        refine j_isub C dX9_take_223 ?_
        refine j_iconst C dX9_take_224 (v := 1) rfl ?_
        refine j_icmp_le C dX9_take_225 (tgt := 232) (by decide) ?_ ?_
        · refine j_sub C [] rfl ?_
          exact b_X9_take_232 C hR S
        · refine j_sub C [] rfl ?_
          exact b_X9_take_228 C hR S
def f_X9_take_183 (k120 : Int32 → St → Option (St)) (x1 : Int32) (s0 : Int32) (S : St) : Option (St) :=
    lt (upI S 27 15 s0) fun S14 =>
    lt (upI S14 27 12 ((S14.1 27 12) + 1)) fun S15 =>
    k120 x1 S15
set_option maxHeartbeats 1000000 in
theorem b_X9_take_183 {K : Kt} {adr : Nat → Nat} {r : St} (C : Cx K cX9_take RX9 2 adr rm_X9_take) (hR : ∀ (pc : Nat) (lv : List (Nat × Value)), decode cX9_take pc = .ok (.return_, 1) → K pc lv [] r) (k120 : Int32 → St → Option (St)) (h120 : ∀ (x1 : Int32) (S : St), J K r (k120 x1 S) 120 [(0, .ref (adr 27)), (1, .int x1)] [] S) (x1 : Int32) (s0 : Int32) (S : St) : J K r (f_X9_take_183 k120 x1 s0 S) 183 [(0, .ref (adr 27)), (1, .int x1)] [.int s0, .ref (adr 27)] S := by
    unfold f_X9_take_183
    refine j_puti C dX9_take_183 fl_X9_90 fi_X9_15 kd_27 (by decide) (Nat.le_of_ble_eq_true rfl) rfl (fun S14 => ?_)
    refine j_aload_n C dX9_take_186 0 rfl rfl ?_
    refine j_dup C dX9_take_187 rfl ?_
    refine j_geti C dX9_take_188 fl_X9_70 kd_27 (by decide) (Nat.le_of_ble_eq_true rfl) rfl ?_
    refine j_iconst C dX9_take_191 (v := 1) rfl ?_
    refine j_iadd C dX9_take_192 ?_
    refine j_puti C dX9_take_193 fl_X9_70 fi_X9_12 kd_27 (by decide) (Nat.le_of_ble_eq_true rfl) rfl (fun S15 => ?_)
    refine j_goto C dX9_take_196 (tgt := 120) (by decide) ?_
    exact h120 x1 S15
def f_X9_take_120 : Nat → Int32 → St → Option (St)
  | 0, _, _ => none
  | n + 1, x1, S =>
    if (S.1 27 7) ≤ (S.1 27 12) then (f_X9_take_199 x1 S)
    else (ck (S.1 27 12) 120 (bd (f_X9_isFigure (S.1 32 (S.1 27 12).toNatClampNeg) S) fun v13 S12 =>
      if v13 = 0 then (f_X9_take_199 x1 S12)
      else (if (S12.1 27 15) ≤ 99 then (ck (S12.1 27 12) 120 (f_X9_take_183 (f_X9_take_120 n) x1 (((10 * (S12.1 27 15)) + (S12.1 32 (S12.1 27 12).toNatClampNeg)) - 48) S12))
        else (f_X9_take_183 (f_X9_take_120 n) x1 (S12.1 27 15) S12))))
set_option maxHeartbeats 1000000 in
theorem b_X9_take_120 {K : Kt} {adr : Nat → Nat} {r : St} (C : Cx K cX9_take RX9 2 adr rm_X9_take) (hR : ∀ (pc : Nat) (lv : List (Nat × Value)), decode cX9_take pc = .ok (.return_, 1) → K pc lv [] r) : ∀ (n : Nat) (x1 : Int32) (S : St), J K r (f_X9_take_120 n x1 S) 120 [(0, .ref (adr 27)), (1, .int x1)] [] S := by
  intro n
  induction n with
  | zero => intro x1 S h; cases h
  | succ n ih =>
    intro x1 S
    unfold f_X9_take_120
    refine j_aload_n C dX9_take_120 0 rfl rfl ?_
    refine j_geti C dX9_take_121 fl_X9_70 kd_27 (by decide) (Nat.le_of_ble_eq_true rfl) rfl ?_
    refine j_aload_n C dX9_take_124 0 rfl rfl ?_
    refine j_geti C dX9_take_125 fl_X9_73 kd_27 (by decide) (Nat.le_of_ble_eq_true rfl) rfl ?_
    refine j_icmp_ge C dX9_take_128 (tgt := 199) (by decide) ?_ ?_
    · exact b_X9_take_199 C hR x1 S
    · refine j_aload_n C dX9_take_131 0 rfl rfl ?_
      refine j_getr C dX9_take_132 fl_X9_23 kd_27 (by decide) (Nat.le_of_ble_eq_true rfl) rfl ?_
      refine j_aload_n C dX9_take_135 0 rfl rfl ?_
      refine j_geti C dX9_take_136 fl_X9_70 kd_27 (by decide) (Nat.le_of_ble_eq_true rfl) rfl ?_
      refine j_iald C dX9_take_139 kd_32 (Nat.le_of_ble_eq_true rfl) ?_
      refine j_csi C dX9_take_140 lk_X9_86 mw_X9_isFigure (m_X9_isFigure adr (S.1 32 (S.1 27 12).toNatClampNeg)) ⟨rfl, rfl, Nat.le_of_ble_eq_true rfl, Nat.le_of_ble_eq_true rfl⟩ rfl (st := []) (st0 := [.int (S.1 32 (S.1 27 12).toNatClampNeg)]) rfl (Nat.le_of_ble_eq_true rfl) (fun v13 S12 => ?_)
      refine j_if_eq C dX9_take_143 (tgt := 199) (by decide) ?_ ?_
      · exact b_X9_take_199 C hR x1 S12
      · refine j_aload_n C dX9_take_146 0 rfl rfl ?_
        refine j_aload_n C dX9_take_147 0 rfl rfl ?_
        refine j_geti C dX9_take_148 fl_X9_90 kd_27 (by decide) (Nat.le_of_ble_eq_true rfl) rfl ?_
        refine j_bipush C dX9_take_151 (v := 99) rfl ?_
        refine j_icmp_le C dX9_take_153 (tgt := 163) (by decide) ?_ ?_
        · refine j_bipush C dX9_take_163 (v := 10) rfl ?_
          refine j_aload_n C dX9_take_165 0 rfl rfl ?_
          refine j_geti C dX9_take_166 fl_X9_90 kd_27 (by decide) (Nat.le_of_ble_eq_true rfl) rfl ?_
          refine j_imul C dX9_take_169 ?_
          refine j_aload_n C dX9_take_170 0 rfl rfl ?_
          refine j_getr C dX9_take_171 fl_X9_23 kd_27 (by decide) (Nat.le_of_ble_eq_true rfl) rfl ?_
          refine j_aload_n C dX9_take_174 0 rfl rfl ?_
          refine j_geti C dX9_take_175 fl_X9_70 kd_27 (by decide) (Nat.le_of_ble_eq_true rfl) rfl ?_
          refine j_iald C dX9_take_178 kd_32 (Nat.le_of_ble_eq_true rfl) ?_
          refine j_iadd C dX9_take_179 ?_
          refine j_bipush C dX9_take_180 (v := 48) rfl ?_
          refine j_isub C dX9_take_182 ?_
          exact b_X9_take_183 C hR (f_X9_take_120 n) ih x1 (((10 * (S12.1 27 15)) + (S12.1 32 (S12.1 27 12).toNatClampNeg)) - 48) S12
        · refine j_aload_n C dX9_take_156 0 rfl rfl ?_
          refine j_geti C dX9_take_157 fl_X9_90 kd_27 (by decide) (Nat.le_of_ble_eq_true rfl) rfl ?_
          refine j_goto C dX9_take_160 (tgt := 183) (by decide) ?_
          exact b_X9_take_183 C hR (f_X9_take_120 n) ih x1 (S12.1 27 15) S12
def f_X9_take_92 (x1 : Int32) (s0 : Int32) (S : St) : Option (St) :=
    lt (upI S 27 14 s0) fun S7 =>
    lt (upI S7 27 12 ((S7.1 27 12) + 1)) fun S8 =>
    bd (f_X9_isFigure x1 S8) fun v10 S9 =>
    if v10 = 0 then (f_X9_take_237 S9)
    else (lt (upI S9 27 15 (x1 - 48)) fun S11 =>
      f_X9_take_120 FU x1 S11)
set_option maxHeartbeats 1000000 in
theorem b_X9_take_92 {K : Kt} {adr : Nat → Nat} {r : St} (C : Cx K cX9_take RX9 2 adr rm_X9_take) (hR : ∀ (pc : Nat) (lv : List (Nat × Value)), decode cX9_take pc = .ok (.return_, 1) → K pc lv [] r) (x1 : Int32) (s0 : Int32) (S : St) : J K r (f_X9_take_92 x1 s0 S) 92 [(0, .ref (adr 27)), (1, .int x1)] [.int s0, .ref (adr 27)] S := by
    unfold f_X9_take_92
    refine j_puti C dX9_take_92 fl_X9_79 fi_X9_14 kd_27 (by decide) (Nat.le_of_ble_eq_true rfl) rfl (fun S7 => ?_)
    refine j_aload_n C dX9_take_95 0 rfl rfl ?_
    refine j_dup C dX9_take_96 rfl ?_
    refine j_geti C dX9_take_97 fl_X9_70 kd_27 (by decide) (Nat.le_of_ble_eq_true rfl) rfl ?_
    refine j_iconst C dX9_take_100 (v := 1) rfl ?_
    refine j_iadd C dX9_take_101 ?_
    refine j_puti C dX9_take_102 fl_X9_70 fi_X9_12 kd_27 (by decide) (Nat.le_of_ble_eq_true rfl) rfl (fun S8 => ?_)
    refine j_iload_n C dX9_take_105 1 rfl rfl ?_
    refine j_csi C dX9_take_106 lk_X9_86 mw_X9_isFigure (m_X9_isFigure adr x1) ⟨rfl, rfl, Nat.le_of_ble_eq_true rfl, Nat.le_of_ble_eq_true rfl⟩ rfl (st := []) (st0 := [.int x1]) rfl (Nat.le_of_ble_eq_true rfl) (fun v10 S9 => ?_)
    refine j_if_eq C dX9_take_109 (tgt := 237) (by decide) ?_ ?_
    · refine j_sub C [] rfl ?_
      exact b_X9_take_237 C hR S9
    · refine j_aload_n C dX9_take_112 0 rfl rfl ?_
      refine j_iload_n C dX9_take_113 1 rfl rfl ?_
      refine j_bipush C dX9_take_114 (v := 48) rfl ?_
      refine j_isub C dX9_take_116 ?_
      refine j_puti C dX9_take_117 fl_X9_90 fi_X9_15 kd_27 (by decide) (Nat.le_of_ble_eq_true rfl) rfl (fun S11 => ?_)
      exact b_X9_take_120 C hR FU x1 S11
def f_X9_take_87 (x1 : Int32) (S : St) : Option (St) :=
    f_X9_take_92 x1 x1 S
set_option maxHeartbeats 1000000 in
theorem b_X9_take_87 {K : Kt} {adr : Nat → Nat} {r : St} (C : Cx K cX9_take RX9 2 adr rm_X9_take) (hR : ∀ (pc : Nat) (lv : List (Nat × Value)), decode cX9_take pc = .ok (.return_, 1) → K pc lv [] r) (x1 : Int32) (S : St) : J K r (f_X9_take_87 x1 S) 87 [(0, .ref (adr 27)), (1, .int x1)] [.ref (adr 27)] S := by
    unfold f_X9_take_87
    refine j_iload_n C dX9_take_87 1 rfl rfl ?_
    refine j_goto C dX9_take_88 (tgt := 92) (by decide) ?_
    exact b_X9_take_92 C hR x1 x1 S
def f_X9_take_38  (S : St) : Option (St) :=
    lt (upI S 27 13 (S.1 27 12)) fun S2 =>
    if (S2.1 27 12) = (S2.1 27 7) then (lt (upI S2 27 14 (-1)) fun S6 =>
      some S6)
    else (ck (S2.1 27 12) 120 (lt (S2.1 32 (S2.1 27 12).toNatClampNeg) fun v3 =>
      bd (f_X9_which v3 S2) fun v5 S4 =>
      if 0 ≤ v5 then (f_X9_take_87 v3 S4)
      else (if v3 = 59 then (f_X9_take_87 v3 S4)
        else (f_X9_take_92 v3 0 S4))))
set_option maxHeartbeats 1000000 in
theorem b_X9_take_38 {K : Kt} {adr : Nat → Nat} {r : St} (C : Cx K cX9_take RX9 2 adr rm_X9_take) (hR : ∀ (pc : Nat) (lv : List (Nat × Value)), decode cX9_take pc = .ok (.return_, 1) → K pc lv [] r)  (S : St) : J K r (f_X9_take_38  S) 38 [(0, .ref (adr 27))] [] S := by
    unfold f_X9_take_38
    refine j_aload_n C dX9_take_38 0 rfl rfl ?_
    refine j_aload_n C dX9_take_39 0 rfl rfl ?_
    refine j_geti C dX9_take_40 fl_X9_70 kd_27 (by decide) (Nat.le_of_ble_eq_true rfl) rfl ?_
    refine j_puti C dX9_take_43 fl_X9_76 fi_X9_13 kd_27 (by decide) (Nat.le_of_ble_eq_true rfl) rfl (fun S2 => ?_)
    refine j_aload_n C dX9_take_46 0 rfl rfl ?_
    refine j_geti C dX9_take_47 fl_X9_70 kd_27 (by decide) (Nat.le_of_ble_eq_true rfl) rfl ?_
    refine j_aload_n C dX9_take_50 0 rfl rfl ?_
    refine j_geti C dX9_take_51 fl_X9_73 kd_27 (by decide) (Nat.le_of_ble_eq_true rfl) rfl ?_
    refine j_icmp_ne C dX9_take_54 (tgt := 63) (by decide) ?_ ?_
    · refine j_aload_n C dX9_take_63 0 rfl rfl ?_
      refine j_getr C dX9_take_64 fl_X9_23 kd_27 (by decide) (Nat.le_of_ble_eq_true rfl) rfl ?_
      refine j_aload_n C dX9_take_67 0 rfl rfl ?_
      refine j_geti C dX9_take_68 fl_X9_70 kd_27 (by decide) (Nat.le_of_ble_eq_true rfl) rfl ?_
      refine j_iald C dX9_take_71 kd_32 (Nat.le_of_ble_eq_true rfl) ?_
      refine j_topi (fun v3 => ?_)
      refine j_istore_n C dX9_take_72 rfl (by decide) rfl ?_
      refine j_aload_n C dX9_take_73 1 rfl rfl ?_
      refine j_iload_n C dX9_take_74 0 rfl rfl ?_
      refine j_csi C dX9_take_75 lk_X9_82 mw_X9_which (m_X9_which adr v3) ⟨rfl, rfl, Nat.le_of_ble_eq_true rfl, Nat.le_of_ble_eq_true rfl⟩ rfl (st := [.ref (adr 27)]) (st0 := [.int v3, .ref (adr 27)]) rfl (Nat.le_of_ble_eq_true rfl) (fun v5 S4 => ?_)
      refine j_if_ge C dX9_take_78 (tgt := 87) (by decide) ?_ ?_
      · refine j_sub C [1, 0] rfl ?_
        exact b_X9_take_87 C hR v3 S4
      · refine j_iload_n C dX9_take_81 0 rfl rfl ?_
        refine j_bipush C dX9_take_82 (v := 59) rfl ?_
        refine j_icmp_ne C dX9_take_84 (tgt := 91) (by decide) ?_ ?_
        · refine j_iconst C dX9_take_91 (v := 0) rfl ?_
          refine j_sub C [1, 0] rfl ?_
          exact b_X9_take_92 C hR v3 0 S4
        · refine j_sub C [1, 0] rfl ?_
          exact b_X9_take_87 C hR v3 S4
    · refine j_aload_n C dX9_take_57 0 rfl rfl ?_
      refine j_iconst C dX9_take_58 (v := -1) rfl ?_
      refine j_puti C dX9_take_59 fl_X9_79 fi_X9_14 kd_27 (by decide) (Nat.le_of_ble_eq_true rfl) rfl (fun S6 => ?_)
      exact j_vret hR dX9_take_62
def f_X9_take_0 : Nat → St → Option (St)
  | 0, _ => none
  | n + 1, S =>
    if (S.1 27 7) ≤ (S.1 27 12) then (f_X9_take_38 S)
    else (ck (S.1 27 12) 120 (if (S.1 32 (S.1 27 12).toNatClampNeg) = 32 then (lt (upI S 27 12 ((S.1 27 12) + 1)) fun S1 =>
        (f_X9_take_0 n) S1)
      else (f_X9_take_38 S)))
set_option maxHeartbeats 1000000 in
theorem b_X9_take_0 {K : Kt} {adr : Nat → Nat} {r : St} (C : Cx K cX9_take RX9 2 adr rm_X9_take) (hR : ∀ (pc : Nat) (lv : List (Nat × Value)), decode cX9_take pc = .ok (.return_, 1) → K pc lv [] r) : ∀ (n : Nat)  (S : St), J K r (f_X9_take_0 n  S) 0 [(0, .ref (adr 27))] [] S := by
  intro n
  induction n with
  | zero => intro  S h; cases h
  | succ n ih =>
    intro  S
    unfold f_X9_take_0
    refine j_aload_n C dX9_take_0 0 rfl rfl ?_
    refine j_geti C dX9_take_1 fl_X9_70 kd_27 (by decide) (Nat.le_of_ble_eq_true rfl) rfl ?_
    refine j_aload_n C dX9_take_4 0 rfl rfl ?_
    refine j_geti C dX9_take_5 fl_X9_73 kd_27 (by decide) (Nat.le_of_ble_eq_true rfl) rfl ?_
    refine j_icmp_ge C dX9_take_8 (tgt := 38) (by decide) ?_ ?_
    · exact b_X9_take_38 C hR S
    · refine j_aload_n C dX9_take_11 0 rfl rfl ?_
      refine j_getr C dX9_take_12 fl_X9_23 kd_27 (by decide) (Nat.le_of_ble_eq_true rfl) rfl ?_
      refine j_aload_n C dX9_take_15 0 rfl rfl ?_
      refine j_geti C dX9_take_16 fl_X9_70 kd_27 (by decide) (Nat.le_of_ble_eq_true rfl) rfl ?_
      refine j_iald C dX9_take_19 kd_32 (Nat.le_of_ble_eq_true rfl) ?_
      refine j_bipush C dX9_take_20 (v := 32) rfl ?_
      refine j_icmp_ne C dX9_take_22 (tgt := 38) (by decide) ?_ ?_
      · exact b_X9_take_38 C hR S
      · refine j_aload_n C dX9_take_25 0 rfl rfl ?_
        refine j_dup C dX9_take_26 rfl ?_
        refine j_geti C dX9_take_27 fl_X9_70 kd_27 (by decide) (Nat.le_of_ble_eq_true rfl) rfl ?_
        refine j_iconst C dX9_take_30 (v := 1) rfl ?_
        refine j_iadd C dX9_take_31 ?_
        refine j_puti C dX9_take_32 fl_X9_70 fi_X9_12 kd_27 (by decide) (Nat.le_of_ble_eq_true rfl) rfl (fun S1 => ?_)
        refine j_goto C dX9_take_35 (tgt := 0) (by decide) ?_
        exact ih S1
def f_X9_take  (S : St) : Option (St) :=
  f_X9_take_0 FU S
set_option maxHeartbeats 1000000 in
theorem m_X9_take (adr : Nat → Nat)  : MtV yX9_take cX9_take 2 none rm_X9_take adr [.ref (adr 27)] (f_X9_take ) := by
  refine MtV.of (by decide +kernel) (Nat.le_of_ble_eq_true rfl) (fun K r S C hR => ?_)
  refine j_start (lv' := [(0, .ref (adr 27))]) rfl ?_
  unfold f_X9_take
  exact b_X9_take_0 C hR FU S
-- X9_readsNumber
abbrev rm_X9_readsNumber : Room := { frames := 3, cells := 0, slots := 0, locals := 66 }
def f_X9_readsNumber_38 (x3 : Int32) (S : St) : Option (Int32 × St) :=
    bz x3 (some (x3, S))
set_option maxHeartbeats 1000000 in
theorem b_X9_readsNumber_38 {K : Kt} {adr : Nat → Nat} {r : Int32 × St} (C : Cx K cX9_readsNumber RX9 4 adr rm_X9_readsNumber) (hR : ∀ (pc : Nat) (lv : List (Nat × Value)), (r.1 = 0 ∨ r.1 = 1) → decode cX9_readsNumber pc = .ok (.ireturn, 1) → K pc lv [.int r.1] r.2) (x3 : Int32) (S : St) : J K r (f_X9_readsNumber_38 x3 S) 38 [(3, .int x3)] [] S := by
    unfold f_X9_readsNumber_38
    refine j_iload_n C dX9_readsNumber_38 0 rfl rfl ?_
    exact j_zretv hR dX9_readsNumber_39
def f_X9_readsNumber_29 (s0 : Int32) (S : St) : Option (Int32 × St) :=
    if s0 = 0 then (f_X9_readsNumber_38 s0 S)
    else (bdV (f_X9_take S) fun S3 =>
      f_X9_readsNumber_38 s0 S3)
set_option maxHeartbeats 1000000 in
theorem b_X9_readsNumber_29 {K : Kt} {adr : Nat → Nat} {r : Int32 × St} (C : Cx K cX9_readsNumber RX9 4 adr rm_X9_readsNumber) (hR : ∀ (pc : Nat) (lv : List (Nat × Value)), (r.1 = 0 ∨ r.1 = 1) → decode cX9_readsNumber pc = .ok (.ireturn, 1) → K pc lv [.int r.1] r.2) (s0 : Int32) (S : St) : J K r (f_X9_readsNumber_29 s0 S) 29 [(0, .ref (adr 27))] [.int s0] S := by
    unfold f_X9_readsNumber_29
    refine j_istore_n C dX9_readsNumber_29 rfl (by decide) rfl ?_
    refine j_iload_n C dX9_readsNumber_30 0 rfl rfl ?_
    refine j_if_eq C dX9_readsNumber_31 (tgt := 38) (by decide) ?_ ?_
    · refine j_sub C [0] rfl ?_
      exact b_X9_readsNumber_38 C hR s0 S
    · refine j_aload_n C dX9_readsNumber_34 1 rfl rfl ?_
      refine j_cvv C dX9_readsNumber_35 lk_X9_93 mw_X9_take (m_X9_take adr ) ⟨rfl, rfl, Nat.le_of_ble_eq_true rfl, Nat.le_of_ble_eq_true rfl⟩ kd_27 (by decide) (Nat.le_of_ble_eq_true rfl) rfl rfl (st := []) (st0 := [.ref (adr 27)]) rfl (Nat.le_of_ble_eq_true rfl) (fun S3 => ?_)
      refine j_sub C [0] rfl ?_
      exact b_X9_readsNumber_38 C hR s0 S3
def f_X9_readsNumber_28  (S : St) : Option (Int32 × St) :=
    f_X9_readsNumber_29 0 S
set_option maxHeartbeats 1000000 in
theorem b_X9_readsNumber_28 {K : Kt} {adr : Nat → Nat} {r : Int32 × St} (C : Cx K cX9_readsNumber RX9 4 adr rm_X9_readsNumber) (hR : ∀ (pc : Nat) (lv : List (Nat × Value)), (r.1 = 0 ∨ r.1 = 1) → decode cX9_readsNumber pc = .ok (.ireturn, 1) → K pc lv [.int r.1] r.2)  (S : St) : J K r (f_X9_readsNumber_28  S) 28 [(0, .ref (adr 27))] [] S := by
    unfold f_X9_readsNumber_28
    refine j_iconst C dX9_readsNumber_28 (v := 0) rfl ?_
    exact b_X9_readsNumber_29 C hR 0 S
def f_X9_readsNumber (x1 : Int32) (x2 : Int32) (S : St) : Option (Int32 × St) :=
  if (S.1 27 14) = (-2) then (bd (f_X9_in ((S.1 27 15).toInt64) x1.toInt64 x2.toInt64 S) fun v2 S1 =>
    if v2 = 0 then (f_X9_readsNumber_28 S1)
    else (f_X9_readsNumber_29 1 S1))
  else (f_X9_readsNumber_28 S)
set_option maxHeartbeats 1000000 in
theorem m_X9_readsNumber (adr : Nat → Nat) (x1 : Int32) (x2 : Int32) : MtI yX9_readsNumber cX9_readsNumber 4 (some .boolean) rm_X9_readsNumber adr [.ref (adr 27), .int x1, .int x2] (f_X9_readsNumber x1 x2) := by
  refine MtI.ofZ (by decide +kernel) (Nat.le_of_ble_eq_true rfl) (fun K r S C hR => ?_)
  refine j_start (lv' := [(0, .ref (adr 27)), (1, .int x1), (2, .int x2)]) rfl ?_
  unfold f_X9_readsNumber
  refine j_aload_n C dX9_readsNumber_0 0 rfl rfl ?_
  refine j_geti C dX9_readsNumber_1 fl_X9_79 kd_27 (by decide) (Nat.le_of_ble_eq_true rfl) rfl ?_
  refine j_bipush C dX9_readsNumber_4 (v := -2) rfl ?_
  refine j_icmp_ne C dX9_readsNumber_6 (tgt := 28) (by decide) ?_ ?_
  · refine j_sub C [0] rfl ?_
    exact b_X9_readsNumber_28 C hR S
  · refine j_aload_n C dX9_readsNumber_9 0 rfl rfl ?_
    refine j_geti C dX9_readsNumber_10 fl_X9_90 kd_27 (by decide) (Nat.le_of_ble_eq_true rfl) rfl ?_
    refine j_i2l C dX9_readsNumber_13 ?_
    refine j_iload_n C dX9_readsNumber_14 1 rfl rfl ?_
    refine j_i2l C dX9_readsNumber_15 ?_
    refine j_iload_n C dX9_readsNumber_16 2 rfl rfl ?_
    refine j_i2l C dX9_readsNumber_17 ?_
    refine j_csi C dX9_readsNumber_18 lk_X9_66 mw_X9_in (m_X9_in adr ((S.1 27 15).toInt64) x1.toInt64 x2.toInt64) ⟨rfl, rfl, Nat.le_of_ble_eq_true rfl, Nat.le_of_ble_eq_true rfl⟩ rfl (st := []) (st0 := [.long x2.toInt64, .long x1.toInt64, .long ((S.1 27 15).toInt64)]) rfl (Nat.le_of_ble_eq_true rfl) (fun v2 S1 => ?_)
    refine j_if_eq C dX9_readsNumber_21 (tgt := 28) (by decide) ?_ ?_
    · refine j_sub C [0] rfl ?_
      exact b_X9_readsNumber_28 C hR S1
    · refine j_iconst C dX9_readsNumber_24 (v := 1) rfl ?_
      refine j_goto C dX9_readsNumber_25 (tgt := 29) (by decide) ?_
      refine j_sub C [0] rfl ?_
      exact b_X9_readsNumber_29 C hR 1 S1
-- X9_keeps
abbrev rm_X9_keeps : Room := { frames := 4, cells := 0, slots := 0, locals := 89 }
def f_X9_keeps (x1 : Int32) (x2 : Int32) (S : St) : Option (Int32 × St) :=
  lt (upI S 27 23 (S.1 27 15)) fun S1 =>
  bd (f_X9_readsNumber x1 x2 S1) fun v3 S2 =>
  bz v3 (some (v3, S2))
set_option maxHeartbeats 1000000 in
theorem m_X9_keeps (adr : Nat → Nat) (x1 : Int32) (x2 : Int32) : MtI yX9_keeps cX9_keeps 3 (some .boolean) rm_X9_keeps adr [.ref (adr 27), .int x1, .int x2] (f_X9_keeps x1 x2) := by
  refine MtI.ofZ (by decide +kernel) (Nat.le_of_ble_eq_true rfl) (fun K r S C hR => ?_)
  refine j_start (lv' := [(0, .ref (adr 27)), (1, .int x1), (2, .int x2)]) rfl ?_
  unfold f_X9_keeps
  refine j_aload_n C dX9_keeps_0 0 rfl rfl ?_
  refine j_aload_n C dX9_keeps_1 0 rfl rfl ?_
  refine j_geti C dX9_keeps_2 fl_X9_90 kd_27 (by decide) (Nat.le_of_ble_eq_true rfl) rfl ?_
  refine j_puti C dX9_keeps_5 fl_X9_96 fi_X9_23 kd_27 (by decide) (Nat.le_of_ble_eq_true rfl) rfl (fun S1 => ?_)
  refine j_aload_n C dX9_keeps_8 0 rfl rfl ?_
  refine j_iload_n C dX9_keeps_9 1 rfl rfl ?_
  refine j_iload_n C dX9_keeps_10 2 rfl rfl ?_
  refine j_cvi C dX9_keeps_11 lk_X9_99 mw_X9_readsNumber (m_X9_readsNumber adr x1 x2) ⟨rfl, rfl, Nat.le_of_ble_eq_true rfl, Nat.le_of_ble_eq_true rfl⟩ kd_27 (by decide) (Nat.le_of_ble_eq_true rfl) rfl rfl (st := []) (st0 := [.int x2, .int x1, .ref (adr 27)]) rfl (Nat.le_of_ble_eq_true rfl) (fun v3 S2 => ?_)
  exact j_zretv hR dX9_keeps_14
-- X9_readsCell
abbrev rm_X9_readsCell : Room := { frames := 5, cells := 0, slots := 0, locals := 111 }
def f_X9_readsCell  (S : St) : Option (Int32 × St) :=
  if (S.1 27 17) = 4 then (some (0, S))
  else (bdV (f_X9_take S) fun S1 =>
    bd (f_X9_keeps 1 6 S1) fun v3 S2 =>
    if v3 = 0 then (some (0, S2))
    else (ck (S2.1 27 17) 4 (lt (upI S2 36 (S2.1 27 17).toNatClampNeg (S2.1 27 23)) fun S4 =>
      ck (S4.1 27 17) 4 (bd (f_X9_keeps 0 (10 * (S4.1 36 (S4.1 27 17).toNatClampNeg)) S4) fun v6 S5 =>
      if v6 = 0 then (some (0, S5))
      else (ck (S5.1 27 17) 4 (lt (upI S5 37 (S5.1 27 17).toNatClampNeg (S5.1 27 23)) fun S7 =>
        bd (f_X9_keeps 0 4 S7) fun v9 S8 =>
        if v9 = 0 then (some (0, S8))
        else (ck (S8.1 27 17) 4 (lt (upI S8 38 (S8.1 27 17).toNatClampNeg (S8.1 27 23)) fun S10 =>
          lt (upI S10 27 17 ((S10.1 27 17) + 1)) fun S11 =>
          some (1, S11)))))))))
set_option maxHeartbeats 1000000 in
theorem m_X9_readsCell (adr : Nat → Nat)  : MtI yX9_readsCell cX9_readsCell 1 (some .boolean) rm_X9_readsCell adr [.ref (adr 27)] (f_X9_readsCell ) := by
  refine MtI.ofZ (by decide +kernel) (Nat.le_of_ble_eq_true rfl) (fun K r S C hR => ?_)
  refine j_start (lv' := [(0, .ref (adr 27))]) rfl ?_
  unfold f_X9_readsCell
  refine j_aload_n C dX9_readsCell_0 0 rfl rfl ?_
  refine j_geti C dX9_readsCell_1 fl_X9_103 kd_27 (by decide) (Nat.le_of_ble_eq_true rfl) rfl ?_
  refine j_iconst C dX9_readsCell_4 (v := 4) rfl ?_
  refine j_icmp_ne C dX9_readsCell_5 (tgt := 10) (by decide) ?_ ?_
  · refine j_aload_n C dX9_readsCell_10 0 rfl rfl ?_
    refine j_cvv C dX9_readsCell_11 lk_X9_93 mw_X9_take (m_X9_take adr ) ⟨rfl, rfl, Nat.le_of_ble_eq_true rfl, Nat.le_of_ble_eq_true rfl⟩ kd_27 (by decide) (Nat.le_of_ble_eq_true rfl) rfl rfl (st := []) (st0 := [.ref (adr 27)]) rfl (Nat.le_of_ble_eq_true rfl) (fun S1 => ?_)
    refine j_aload_n C dX9_readsCell_14 0 rfl rfl ?_
    refine j_iconst C dX9_readsCell_15 (v := 1) rfl ?_
    refine j_bipush C dX9_readsCell_16 (v := 6) rfl ?_
    refine j_cvi C dX9_readsCell_18 lk_X9_106 mw_X9_keeps (m_X9_keeps adr 1 6) ⟨rfl, rfl, Nat.le_of_ble_eq_true rfl, Nat.le_of_ble_eq_true rfl⟩ kd_27 (by decide) (Nat.le_of_ble_eq_true rfl) rfl rfl (st := []) (st0 := [.int 6, .int 1, .ref (adr 27)]) rfl (Nat.le_of_ble_eq_true rfl) (fun v3 S2 => ?_)
    refine j_if_ne C dX9_readsCell_21 (tgt := 26) (by decide) ?_ ?_
    · refine j_aload_n C dX9_readsCell_26 0 rfl rfl ?_
      refine j_getr C dX9_readsCell_27 fl_X9_35 kd_27 (by decide) (Nat.le_of_ble_eq_true rfl) rfl ?_
      refine j_aload_n C dX9_readsCell_30 0 rfl rfl ?_
      refine j_geti C dX9_readsCell_31 fl_X9_103 kd_27 (by decide) (Nat.le_of_ble_eq_true rfl) rfl ?_
      refine j_aload_n C dX9_readsCell_34 0 rfl rfl ?_
      refine j_geti C dX9_readsCell_35 fl_X9_96 kd_27 (by decide) (Nat.le_of_ble_eq_true rfl) rfl ?_
      refine j_iast C dX9_readsCell_38 kd_36 (Nat.le_of_ble_eq_true rfl) (fun S4 => ?_)
      refine j_aload_n C dX9_readsCell_39 0 rfl rfl ?_
      refine j_iconst C dX9_readsCell_40 (v := 0) rfl ?_
      refine j_bipush C dX9_readsCell_41 (v := 10) rfl ?_
      refine j_aload_n C dX9_readsCell_43 0 rfl rfl ?_
      refine j_getr C dX9_readsCell_44 fl_X9_35 kd_27 (by decide) (Nat.le_of_ble_eq_true rfl) rfl ?_
      refine j_aload_n C dX9_readsCell_47 0 rfl rfl ?_
      refine j_geti C dX9_readsCell_48 fl_X9_103 kd_27 (by decide) (Nat.le_of_ble_eq_true rfl) rfl ?_
      refine j_iald C dX9_readsCell_51 kd_36 (Nat.le_of_ble_eq_true rfl) ?_
      refine j_imul C dX9_readsCell_52 ?_
      refine j_cvi C dX9_readsCell_53 lk_X9_106 mw_X9_keeps (m_X9_keeps adr 0 (10 * (S4.1 36 (S4.1 27 17).toNatClampNeg))) ⟨rfl, rfl, Nat.le_of_ble_eq_true rfl, Nat.le_of_ble_eq_true rfl⟩ kd_27 (by decide) (Nat.le_of_ble_eq_true rfl) rfl rfl (st := []) (st0 := [.int (10 * (S4.1 36 (S4.1 27 17).toNatClampNeg)), .int 0, .ref (adr 27)]) rfl (Nat.le_of_ble_eq_true rfl) (fun v6 S5 => ?_)
      refine j_if_ne C dX9_readsCell_56 (tgt := 61) (by decide) ?_ ?_
      · refine j_aload_n C dX9_readsCell_61 0 rfl rfl ?_
        refine j_getr C dX9_readsCell_62 fl_X9_38 kd_27 (by decide) (Nat.le_of_ble_eq_true rfl) rfl ?_
        refine j_aload_n C dX9_readsCell_65 0 rfl rfl ?_
        refine j_geti C dX9_readsCell_66 fl_X9_103 kd_27 (by decide) (Nat.le_of_ble_eq_true rfl) rfl ?_
        refine j_aload_n C dX9_readsCell_69 0 rfl rfl ?_
        refine j_geti C dX9_readsCell_70 fl_X9_96 kd_27 (by decide) (Nat.le_of_ble_eq_true rfl) rfl ?_
        refine j_iast C dX9_readsCell_73 kd_37 (Nat.le_of_ble_eq_true rfl) (fun S7 => ?_)
        refine j_aload_n C dX9_readsCell_74 0 rfl rfl ?_
        refine j_iconst C dX9_readsCell_75 (v := 0) rfl ?_
        refine j_iconst C dX9_readsCell_76 (v := 4) rfl ?_
        refine j_cvi C dX9_readsCell_77 lk_X9_106 mw_X9_keeps (m_X9_keeps adr 0 4) ⟨rfl, rfl, Nat.le_of_ble_eq_true rfl, Nat.le_of_ble_eq_true rfl⟩ kd_27 (by decide) (Nat.le_of_ble_eq_true rfl) rfl rfl (st := []) (st0 := [.int 4, .int 0, .ref (adr 27)]) rfl (Nat.le_of_ble_eq_true rfl) (fun v9 S8 => ?_)
        refine j_if_ne C dX9_readsCell_80 (tgt := 85) (by decide) ?_ ?_
        · refine j_aload_n C dX9_readsCell_85 0 rfl rfl ?_
          refine j_getr C dX9_readsCell_86 fl_X9_41 kd_27 (by decide) (Nat.le_of_ble_eq_true rfl) rfl ?_
          refine j_aload_n C dX9_readsCell_89 0 rfl rfl ?_
          refine j_geti C dX9_readsCell_90 fl_X9_103 kd_27 (by decide) (Nat.le_of_ble_eq_true rfl) rfl ?_
          refine j_aload_n C dX9_readsCell_93 0 rfl rfl ?_
          refine j_geti C dX9_readsCell_94 fl_X9_96 kd_27 (by decide) (Nat.le_of_ble_eq_true rfl) rfl ?_
          refine j_iast C dX9_readsCell_97 kd_38 (Nat.le_of_ble_eq_true rfl) (fun S10 => ?_)
          refine j_aload_n C dX9_readsCell_98 0 rfl rfl ?_
          refine j_dup C dX9_readsCell_99 rfl ?_
          refine j_geti C dX9_readsCell_100 fl_X9_103 kd_27 (by decide) (Nat.le_of_ble_eq_true rfl) rfl ?_
          refine j_iconst C dX9_readsCell_103 (v := 1) rfl ?_
          refine j_iadd C dX9_readsCell_104 ?_
          refine j_puti C dX9_readsCell_105 fl_X9_103 fi_X9_17 kd_27 (by decide) (Nat.le_of_ble_eq_true rfl) rfl (fun S11 => ?_)
          refine j_iconst C dX9_readsCell_108 (v := 1) rfl ?_
          exact j_zret hR (by decide) dX9_readsCell_109
        · refine j_iconst C dX9_readsCell_83 (v := 0) rfl ?_
          exact j_zret hR (by decide) dX9_readsCell_84
      · refine j_iconst C dX9_readsCell_59 (v := 0) rfl ?_
        exact j_zret hR (by decide) dX9_readsCell_60
    · refine j_iconst C dX9_readsCell_24 (v := 0) rfl ?_
      exact j_zret hR (by decide) dX9_readsCell_25
  · refine j_iconst C dX9_readsCell_8 (v := 0) rfl ?_
    exact j_zret hR (by decide) dX9_readsCell_9
-- X9_least
abbrev rm_X9_least : Room := { frames := 0, cells := 0, slots := 0, locals := 0 }
def f_X9_least_15 (s0 : Int32) (S : St) : Option (Int32 × St) :=
    some (s0, S)
set_option maxHeartbeats 1000000 in
theorem b_X9_least_15 {K : Kt} {adr : Nat → Nat} {r : Int32 × St} (C : Cx K cX9_least RX9 1 adr rm_X9_least) (hR : ∀ (pc : Nat) (lv : List (Nat × Value)), decode cX9_least pc = .ok (.ireturn, 1) → K pc lv [.int r.1] r.2) (s0 : Int32) (S : St) : J K r (f_X9_least_15 s0 S) 15 [] [.int s0] S := by
    unfold f_X9_least_15
    exact j_iret hR dX9_least_15
def f_X9_least_10  (S : St) : Option (Int32 × St) :=
    f_X9_least_15 1 S
set_option maxHeartbeats 1000000 in
theorem b_X9_least_10 {K : Kt} {adr : Nat → Nat} {r : Int32 × St} (C : Cx K cX9_least RX9 1 adr rm_X9_least) (hR : ∀ (pc : Nat) (lv : List (Nat × Value)), decode cX9_least pc = .ok (.ireturn, 1) → K pc lv [.int r.1] r.2)  (S : St) : J K r (f_X9_least_10  S) 10 [] [] S := by
    unfold f_X9_least_10
    refine j_iconst C dX9_least_10 (v := 1) rfl ?_
    refine j_goto C dX9_least_11 (tgt := 15) (by decide) ?_
    exact b_X9_least_15 C hR 1 S
def f_X9_least (x0 : Int32) (S : St) : Option (Int32 × St) :=
  if x0 = 2 then (f_X9_least_10 S)
  else (if x0 = 5 then (f_X9_least_10 S)
    else (f_X9_least_15 0 S))
set_option maxHeartbeats 1000000 in
theorem m_X9_least (adr : Nat → Nat) (x0 : Int32) : MtI yX9_least cX9_least 1 (some .int) rm_X9_least adr [.int x0] (f_X9_least x0) := by
  refine MtI.of (by decide +kernel) (Nat.le_of_ble_eq_true rfl) (fun K r S C hR => ?_)
  refine j_start (lv' := [(0, .int x0)]) rfl ?_
  unfold f_X9_least
  refine j_iload_n C dX9_least_0 0 rfl rfl ?_
  refine j_iconst C dX9_least_1 (v := 2) rfl ?_
  refine j_icmp_eq C dX9_least_2 (tgt := 10) (by decide) ?_ ?_
  · refine j_sub C [] rfl ?_
    exact b_X9_least_10 C hR S
  · refine j_iload_n C dX9_least_5 0 rfl rfl ?_
    refine j_iconst C dX9_least_6 (v := 5) rfl ?_
    refine j_icmp_ne C dX9_least_7 (tgt := 14) (by decide) ?_ ?_
    · refine j_iconst C dX9_least_14 (v := 0) rfl ?_
      refine j_sub C [] rfl ?_
      exact b_X9_least_15 C hR 0 S
    · refine j_sub C [] rfl ?_
      exact b_X9_least_10 C hR S
-- X9_most
abbrev rm_X9_most : Room := { frames := 0, cells := 0, slots := 0, locals := 0 }
def f_X9_most (x0 : Int32) (S : St) : Option (Int32 × St) :=
  sw x0 1 4 (some (9, S)) fun i => match i with
    | 0 => some (20, S)
    | 1 => some (5, S)
    | 2 => some (3, S)
    | 3 => some (60, S)
    | _ => none
set_option maxHeartbeats 1000000 in
theorem m_X9_most (adr : Nat → Nat) (x0 : Int32) : MtI yX9_most cX9_most 1 (some .int) rm_X9_most adr [.int x0] (f_X9_most x0) := by
  refine MtI.of (by decide +kernel) (Nat.le_of_ble_eq_true rfl) (fun K r S C hR => ?_)
  refine j_start (lv' := [(0, .int x0)]) rfl ?_
  unfold f_X9_most
  refine j_iload_n C dX9_most_0 0 rfl rfl ?_
  refine j_table C dX9_most_1 (tgt := 42) (by decide) ?_ ?_
  · refine j_bipush C dX9_most_42 (v := 9) rfl ?_
    exact j_iret hR dX9_most_44
  · intro i hi
    exact match i, hi with
    | 0, _ => ⟨_, 32, rfl, by decide, by
      refine j_bipush C dX9_most_32 (v := 20) rfl ?_
      exact j_iret hR dX9_most_34⟩
    | 1, _ => ⟨_, 35, rfl, by decide, by
      refine j_iconst C dX9_most_35 (v := 5) rfl ?_
      exact j_iret hR dX9_most_36⟩
    | 2, _ => ⟨_, 37, rfl, by decide, by
      refine j_iconst C dX9_most_37 (v := 3) rfl ?_
      exact j_iret hR dX9_most_38⟩
    | 3, _ => ⟨_, 39, rfl, by decide, by
      refine j_bipush C dX9_most_39 (v := 60) rfl ?_
      exact j_iret hR dX9_most_41⟩
    | i + 4, hi => absurd hi (by omega)
-- X9_readsItem
abbrev rm_X9_readsItem : Room := { frames := 6, cells := 0, slots := 0, locals := 131 }
def f_X9_readsItem_24  (S : St) : Option (Int32 × St) :=
    some (0, S)
set_option maxHeartbeats 1000000 in
theorem b_X9_readsItem_24 {K : Kt} {adr : Nat → Nat} {r : Int32 × St} (C : Cx K cX9_readsItem RX9 3 adr rm_X9_readsItem) (hR : ∀ (pc : Nat) (lv : List (Nat × Value)), (r.1 = 0 ∨ r.1 = 1) → decode cX9_readsItem pc = .ok (.ireturn, 1) → K pc lv [.int r.1] r.2)  (S : St) : J K r (f_X9_readsItem_24  S) 24 [] [] S := by
    unfold f_X9_readsItem_24
    refine j_iconst C dX9_readsItem_24 (v := 0) rfl ?_
    exact j_zret hR (by decide) dX9_readsItem_25
def f_X9_readsItem  (S : St) : Option (Int32 × St) :=
  bd (f_X9_which (S.1 27 14) S) fun v2 S1 =>
  if v2 < 0 then (f_X9_readsItem_24 S1)
  else (if (((S1.1 27 18) >>> (v2 &&& 31)) &&& 1) = 1 then (f_X9_readsItem_24 S1)
    else (if v2 = 0 then (bd (f_X9_readsCell S1) fun v13 S12 =>
        bz v13 (some (v13, S12)))
      else (lt (upI S1 27 18 ((S1.1 27 18) ||| (1 <<< (v2 &&& 31)))) fun S3 =>
        bdV (f_X9_take S3) fun S4 =>
        bd (f_X9_least v2 S4) fun v6 S5 =>
        bd (f_X9_most v2 S5) fun v8 S7 =>
        bd (f_X9_keeps v6 v8 S7) fun v10 S9 =>
        ck v2 6 (lt (upI S9 39 v2.toNatClampNeg (S9.1 27 23)) fun S11 =>
        bz v10 (some (v10, S11))))))
set_option maxHeartbeats 1000000 in
theorem m_X9_readsItem (adr : Nat → Nat)  : MtI yX9_readsItem cX9_readsItem 3 (some .boolean) rm_X9_readsItem adr [.ref (adr 27)] (f_X9_readsItem ) := by
  refine MtI.ofZ (by decide +kernel) (Nat.le_of_ble_eq_true rfl) (fun K r S C hR => ?_)
  refine j_start (lv' := [(0, .ref (adr 27))]) rfl ?_
  unfold f_X9_readsItem
  refine j_aload_n C dX9_readsItem_0 0 rfl rfl ?_
  refine j_geti C dX9_readsItem_1 fl_X9_79 kd_27 (by decide) (Nat.le_of_ble_eq_true rfl) rfl ?_
  refine j_csi C dX9_readsItem_4 lk_X9_82 mw_X9_which (m_X9_which adr (S.1 27 14)) ⟨rfl, rfl, Nat.le_of_ble_eq_true rfl, Nat.le_of_ble_eq_true rfl⟩ rfl (st := []) (st0 := [.int (S.1 27 14)]) rfl (Nat.le_of_ble_eq_true rfl) (fun v2 S1 => ?_)
  refine j_istore_n C dX9_readsItem_7 rfl (by decide) rfl ?_
  refine j_iload_n C dX9_readsItem_8 0 rfl rfl ?_
  refine j_if_lt C dX9_readsItem_9 (tgt := 24) (by decide) ?_ ?_
  · refine j_sub C [] rfl ?_
    exact b_X9_readsItem_24 C hR S1
  · refine j_aload_n C dX9_readsItem_12 1 rfl rfl ?_
    refine j_geti C dX9_readsItem_13 fl_X9_109 kd_27 (by decide) (Nat.le_of_ble_eq_true rfl) rfl ?_
    refine j_iload_n C dX9_readsItem_16 0 rfl rfl ?_
    refine j_ishr C dX9_readsItem_17 ?_
    refine j_iconst C dX9_readsItem_18 (v := 1) rfl ?_
    refine j_iand C dX9_readsItem_19 ?_
    refine j_iconst C dX9_readsItem_20 (v := 1) rfl ?_
    refine j_icmp_ne C dX9_readsItem_21 (tgt := 26) (by decide) ?_ ?_
    · refine j_iload_n C dX9_readsItem_26 0 rfl rfl ?_
      refine j_if_ne C dX9_readsItem_27 (tgt := 35) (by decide) ?_ ?_
      · refine j_aload_n C dX9_readsItem_35 1 rfl rfl ?_
        refine j_dup C dX9_readsItem_36 rfl ?_
        refine j_geti C dX9_readsItem_37 fl_X9_109 kd_27 (by decide) (Nat.le_of_ble_eq_true rfl) rfl ?_
        refine j_iconst C dX9_readsItem_40 (v := 1) rfl ?_
        refine j_iload_n C dX9_readsItem_41 0 rfl rfl ?_
        refine j_ishl C dX9_readsItem_42 ?_
        refine j_ior C dX9_readsItem_43 ?_
        refine j_puti C dX9_readsItem_44 fl_X9_109 fi_X9_18 kd_27 (by decide) (Nat.le_of_ble_eq_true rfl) rfl (fun S3 => ?_)
        refine j_aload_n C dX9_readsItem_47 1 rfl rfl ?_
        refine j_cvv C dX9_readsItem_48 lk_X9_93 mw_X9_take (m_X9_take adr ) ⟨rfl, rfl, Nat.le_of_ble_eq_true rfl, Nat.le_of_ble_eq_true rfl⟩ kd_27 (by decide) (Nat.le_of_ble_eq_true rfl) rfl rfl (st := []) (st0 := [.ref (adr 27)]) rfl (Nat.le_of_ble_eq_true rfl) (fun S4 => ?_)
        refine j_aload_n C dX9_readsItem_51 1 rfl rfl ?_
        refine j_iload_n C dX9_readsItem_52 0 rfl rfl ?_
        refine j_csi C dX9_readsItem_53 lk_X9_116 mw_X9_least (m_X9_least adr v2) ⟨rfl, rfl, Nat.le_of_ble_eq_true rfl, Nat.le_of_ble_eq_true rfl⟩ rfl (st := [.ref (adr 27)]) (st0 := [.int v2, .ref (adr 27)]) rfl (Nat.le_of_ble_eq_true rfl) (fun v6 S5 => ?_)
        refine j_iload_n C dX9_readsItem_56 0 rfl rfl ?_
        refine j_csi C dX9_readsItem_57 lk_X9_119 mw_X9_most (m_X9_most adr v2) ⟨rfl, rfl, Nat.le_of_ble_eq_true rfl, Nat.le_of_ble_eq_true rfl⟩ rfl (st := [.int v6, .ref (adr 27)]) (st0 := [.int v2, .int v6, .ref (adr 27)]) rfl (Nat.le_of_ble_eq_true rfl) (fun v8 S7 => ?_)
        refine j_cvi C dX9_readsItem_60 lk_X9_106 mw_X9_keeps (m_X9_keeps adr v6 v8) ⟨rfl, rfl, Nat.le_of_ble_eq_true rfl, Nat.le_of_ble_eq_true rfl⟩ kd_27 (by decide) (Nat.le_of_ble_eq_true rfl) rfl rfl (st := []) (st0 := [.int v8, .int v6, .ref (adr 27)]) rfl (Nat.le_of_ble_eq_true rfl) (fun v10 S9 => ?_)
        refine j_istore_n C dX9_readsItem_63 rfl (by decide) rfl ?_
        refine j_aload_n C dX9_readsItem_64 2 rfl rfl ?_
        refine j_getr C dX9_readsItem_65 fl_X9_44 kd_27 (by decide) (Nat.le_of_ble_eq_true rfl) rfl ?_
        refine j_iload_n C dX9_readsItem_68 1 rfl rfl ?_
        refine j_aload_n C dX9_readsItem_69 2 rfl rfl ?_
        refine j_geti C dX9_readsItem_70 fl_X9_96 kd_27 (by decide) (Nat.le_of_ble_eq_true rfl) rfl ?_
        refine j_iast C dX9_readsItem_73 kd_39 (Nat.le_of_ble_eq_true rfl) (fun S11 => ?_)
        refine j_iload_n C dX9_readsItem_74 0 rfl rfl ?_
        exact j_zretv hR dX9_readsItem_75
      · refine j_aload_n C dX9_readsItem_30 1 rfl rfl ?_
        refine j_cvi C dX9_readsItem_31 lk_X9_112 mw_X9_readsCell (m_X9_readsCell adr ) ⟨rfl, rfl, Nat.le_of_ble_eq_true rfl, Nat.le_of_ble_eq_true rfl⟩ kd_27 (by decide) (Nat.le_of_ble_eq_true rfl) rfl rfl (st := []) (st0 := [.ref (adr 27)]) rfl (Nat.le_of_ble_eq_true rfl) (fun v13 S12 => ?_)
        exact j_zretv hR dX9_readsItem_34
    · refine j_sub C [] rfl ?_
      exact b_X9_readsItem_24 C hR S1
