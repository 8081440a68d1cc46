-- X7_copyFrom
abbrev rm_X7_copyFrom : Room := { frames := 1, cells := 0, slots := 0, locals := 18 }
def f_X7_copyFrom (b b2 : Nat)  (S : St) : Option (St) :=
  lt (upI S b 0 (S.1 b2 0)) fun S1 =>
  lt (upI S1 b 1 (S1.1 b2 1)) fun S2 =>
  lt (upI S2 b 15 (S2.1 b2 15)) fun S3 =>
  lt (rwI S3 (b + 1) (va_cpy (S3.1 (b2 + 1)) (S3.1 (b + 1)) 0 0 (4 : Int32).toNatClampNeg)) fun S4 =>
  lt (rwI S4 (b + 2) (va_cpy (S4.1 (b2 + 2)) (S4.1 (b + 2)) 0 0 (24 : Int32).toNatClampNeg)) fun S5 =>
  lt (rwI S5 (b + 3) (va_cpy (S5.1 (b2 + 3)) (S5.1 (b + 3)) 0 0 (12 : Int32).toNatClampNeg)) fun S6 =>
  lt (rwI S6 (b + 4) (va_cpy (S6.1 (b2 + 4)) (S6.1 (b + 4)) 0 0 (12 : Int32).toNatClampNeg)) fun S7 =>
  lt (rwI S7 (b + 5) (va_cpy (S7.1 (b2 + 5)) (S7.1 (b + 5)) 0 0 (12 : Int32).toNatClampNeg)) fun S8 =>
  lt (rwI S8 (b + 6) (va_cpy (S8.1 (b2 + 6)) (S8.1 (b + 6)) 0 0 (12 : Int32).toNatClampNeg)) fun S9 =>
  lt (rwI S9 (b + 7) (va_cpy (S9.1 (b2 + 7)) (S9.1 (b + 7)) 0 0 (12 : Int32).toNatClampNeg)) fun S10 =>
  lt (rwI S10 (b + 8) (va_cpy (S10.1 (b2 + 8)) (S10.1 (b + 8)) 0 0 (12 : Int32).toNatClampNeg)) fun S11 =>
  lt (rwI S11 (b + 9) (va_cpy (S11.1 (b2 + 9)) (S11.1 (b + 9)) 0 0 (12 : Int32).toNatClampNeg)) fun S12 =>
  lt (rwI S12 (b + 10) (va_cpy (S12.1 (b2 + 10)) (S12.1 (b + 10)) 0 0 (12 : Int32).toNatClampNeg)) fun S13 =>
  lt (rwI S13 (b + 11) (va_cpy (S13.1 (b2 + 11)) (S13.1 (b + 11)) 0 0 (12 : Int32).toNatClampNeg)) fun S14 =>
  lt (rwI S14 (b + 12) (va_cpy (S14.1 (b2 + 12)) (S14.1 (b + 12)) 0 0 (48 : Int32).toNatClampNeg)) fun S15 =>
  lt (rwI S15 (b + 13) (va_cpy (S15.1 (b2 + 13)) (S15.1 (b + 13)) 0 0 (48 : Int32).toNatClampNeg)) fun S16 =>
  lt (rwI S16 (b + 14) (va_cpy (S16.1 (b2 + 14)) (S16.1 (b + 14)) 0 0 (12 : Int32).toNatClampNeg)) fun S17 =>
  lt (rwI S17 (b + 15) (va_cpy (S17.1 (b2 + 15)) (S17.1 (b + 15)) 0 0 (12 : Int32).toNatClampNeg)) fun S18 =>
  lt (rwI S18 (b + 16) (va_cpy (S18.1 (b2 + 16)) (S18.1 (b + 16)) 0 0 (12 : Int32).toNatClampNeg)) fun S19 =>
  some S19
set_option maxHeartbeats 1000000 in
theorem m_X7_copyFrom (adr : Nat → Nat) (b b2 : Nat) (hb : TrB b) (hb2 : TrB b2)  : MtV yX7_copyFrom cX7_copyFrom 2 none rm_X7_copyFrom adr [.ref (adr (b)), .ref (adr (b2))] (f_X7_copyFrom b b2 ) := by
  refine MtV.of (by decide +kernel) (Nat.le_of_ble_eq_true rfl) (fun K r S C hR => ?_)
  refine j_start (lv' := [(0, .ref (adr (b))), (1, .ref (adr (b2)))]) rfl ?_
  unfold f_X7_copyFrom
  refine j_aload_n C dX7_copyFrom_0 0 rfl rfl ?_
  refine j_aload_n C dX7_copyFrom_1 1 rfl rfl ?_
  refine j_geti C dX7_copyFrom_2 fl_X7_63 (tr_0 hb2) (by decide) (tr_lt hb2 0 (by decide)) rfl ?_
  refine j_puti C dX7_copyFrom_5 fl_X7_63 fi_X7_0 (tr_0 hb) (by decide) (tr_lt hb 0 (by decide)) rfl (fun S1 => ?_)
  refine j_aload_n C dX7_copyFrom_8 0 rfl rfl ?_
  refine j_aload_n C dX7_copyFrom_9 1 rfl rfl ?_
  refine j_geti C dX7_copyFrom_10 fl_X7_67 (tr_0 hb2) (by decide) (tr_lt hb2 0 (by decide)) rfl ?_
  refine j_puti C dX7_copyFrom_13 fl_X7_67 fi_X7_1 (tr_0 hb) (by decide) (tr_lt hb 0 (by decide)) rfl (fun S2 => ?_)
  refine j_aload_n C dX7_copyFrom_16 0 rfl rfl ?_
  refine j_aload_n C dX7_copyFrom_17 1 rfl rfl ?_
  refine j_geti C dX7_copyFrom_18 fl_X7_70 (tr_0 hb2) (by decide) (tr_lt hb2 0 (by decide)) rfl ?_
  refine j_puti C dX7_copyFrom_21 fl_X7_70 fi_X7_15 (tr_0 hb) (by decide) (tr_lt hb 0 (by decide)) rfl (fun S3 => ?_)
  refine j_aload_n C dX7_copyFrom_24 1 rfl rfl ?_
  refine j_getr C dX7_copyFrom_25 fl_X7_9 (tr_0 hb2) (by decide) (tr_lt hb2 0 (by decide)) rfl ?_
  refine j_iconst C dX7_copyFrom_28 (v := 0) rfl ?_
  refine j_aload_n C dX7_copyFrom_29 0 rfl rfl ?_
  refine j_getr C dX7_copyFrom_30 fl_X7_9 (tr_0 hb) (by decide) (tr_lt hb 0 (by decide)) rfl ?_
  refine j_iconst C dX7_copyFrom_33 (v := 0) rfl ?_
  refine j_iconst C dX7_copyFrom_34 (v := 4) rfl ?_
  refine j_copy C dX7_copyFrom_35 (tr_1 hb2) (tr_lt hb2 1 (by decide)) (tr_1 hb) (tr_lt hb 1 (by decide)) (by decide) (by decide) (by decide) lm_X7_76 ms_cp_0 ms_cp_1 ms_cp_2 ⟨Nat.le_of_ble_eq_true rfl, Nat.le_of_ble_eq_true rfl⟩ (fun S4 => ?_)
  refine j_aload_n C dX7_copyFrom_38 1 rfl rfl ?_
  refine j_getr C dX7_copyFrom_39 fl_X7_15 (tr_0 hb2) (by decide) (tr_lt hb2 0 (by decide)) rfl ?_
  refine j_iconst C dX7_copyFrom_42 (v := 0) rfl ?_
  refine j_aload_n C dX7_copyFrom_43 0 rfl rfl ?_
  refine j_getr C dX7_copyFrom_44 fl_X7_15 (tr_0 hb) (by decide) (tr_lt hb 0 (by decide)) rfl ?_
  refine j_iconst C dX7_copyFrom_47 (v := 0) rfl ?_
  refine j_bipush C dX7_copyFrom_48 (v := 24) rfl ?_
  refine j_copy C dX7_copyFrom_50 (tr_2 hb2) (tr_lt hb2 2 (by decide)) (tr_2 hb) (tr_lt hb 2 (by decide)) (by decide) (by decide) (by decide) lm_X7_76 ms_cp_0 ms_cp_1 ms_cp_2 ⟨Nat.le_of_ble_eq_true rfl, Nat.le_of_ble_eq_true rfl⟩ (fun S5 => ?_)
  refine j_aload_n C dX7_copyFrom_53 1 rfl rfl ?_
  refine j_getr C dX7_copyFrom_54 fl_X7_18 (tr_0 hb2) (by decide) (tr_lt hb2 0 (by decide)) rfl ?_
  refine j_iconst C dX7_copyFrom_57 (v := 0) rfl ?_
  refine j_aload_n C dX7_copyFrom_58 0 rfl rfl ?_
  refine j_getr C dX7_copyFrom_59 fl_X7_18 (tr_0 hb) (by decide) (tr_lt hb 0 (by decide)) rfl ?_
  refine j_iconst C dX7_copyFrom_62 (v := 0) rfl ?_
  refine j_bipush C dX7_copyFrom_63 (v := 12) rfl ?_
  refine j_copy C dX7_copyFrom_65 (tr_3 hb2) (tr_lt hb2 3 (by decide)) (tr_3 hb) (tr_lt hb 3 (by decide)) (by decide) (by decide) (by decide) lm_X7_76 ms_cp_0 ms_cp_1 ms_cp_2 ⟨Nat.le_of_ble_eq_true rfl, Nat.le_of_ble_eq_true rfl⟩ (fun S6 => ?_)
  refine j_aload_n C dX7_copyFrom_68 1 rfl rfl ?_
  refine j_getr C dX7_copyFrom_69 fl_X7_21 (tr_0 hb2) (by decide) (tr_lt hb2 0 (by decide)) rfl ?_
  refine j_iconst C dX7_copyFrom_72 (v := 0) rfl ?_
  refine j_aload_n C dX7_copyFrom_73 0 rfl rfl ?_
  refine j_getr C dX7_copyFrom_74 fl_X7_21 (tr_0 hb) (by decide) (tr_lt hb 0 (by decide)) rfl ?_
  refine j_iconst C dX7_copyFrom_77 (v := 0) rfl ?_
  refine j_bipush C dX7_copyFrom_78 (v := 12) rfl ?_
  refine j_copy C dX7_copyFrom_80 (tr_4 hb2) (tr_lt hb2 4 (by decide)) (tr_4 hb) (tr_lt hb 4 (by decide)) (by decide) (by decide) (by decide) lm_X7_76 ms_cp_0 ms_cp_1 ms_cp_2 ⟨Nat.le_of_ble_eq_true rfl, Nat.le_of_ble_eq_true rfl⟩ (fun S7 => ?_)
  refine j_aload_n C dX7_copyFrom_83 1 rfl rfl ?_
  refine j_getr C dX7_copyFrom_84 fl_X7_24 (tr_0 hb2) (by decide) (tr_lt hb2 0 (by decide)) rfl ?_
  refine j_iconst C dX7_copyFrom_87 (v := 0) rfl ?_
  refine j_aload_n C dX7_copyFrom_88 0 rfl rfl ?_
  refine j_getr C dX7_copyFrom_89 fl_X7_24 (tr_0 hb) (by decide) (tr_lt hb 0 (by decide)) rfl ?_
  refine j_iconst C dX7_copyFrom_92 (v := 0) rfl ?_
  refine j_bipush C dX7_copyFrom_93 (v := 12) rfl ?_
  refine j_copy C dX7_copyFrom_95 (tr_5 hb2) (tr_lt hb2 5 (by decide)) (tr_5 hb) (tr_lt hb 5 (by decide)) (by decide) (by decide) (by decide) lm_X7_76 ms_cp_0 ms_cp_1 ms_cp_2 ⟨Nat.le_of_ble_eq_true rfl, Nat.le_of_ble_eq_true rfl⟩ (fun S8 => ?_)
  refine j_aload_n C dX7_copyFrom_98 1 rfl rfl ?_
  refine j_getr C dX7_copyFrom_99 fl_X7_27 (tr_0 hb2) (by decide) (tr_lt hb2 0 (by decide)) rfl ?_
  refine j_iconst C dX7_copyFrom_102 (v := 0) rfl ?_
  refine j_aload_n C dX7_copyFrom_103 0 rfl rfl ?_
  refine j_getr C dX7_copyFrom_104 fl_X7_27 (tr_0 hb) (by decide) (tr_lt hb 0 (by decide)) rfl ?_
  refine j_iconst C dX7_copyFrom_107 (v := 0) rfl ?_
  refine j_bipush C dX7_copyFrom_108 (v := 12) rfl ?_
  refine j_copy C dX7_copyFrom_110 (tr_6 hb2) (tr_lt hb2 6 (by decide)) (tr_6 hb) (tr_lt hb 6 (by decide)) (by decide) (by decide) (by decide) lm_X7_76 ms_cp_0 ms_cp_1 ms_cp_2 ⟨Nat.le_of_ble_eq_true rfl, Nat.le_of_ble_eq_true rfl⟩ (fun S9 => ?_)
  refine j_aload_n C dX7_copyFrom_113 1 rfl rfl ?_
  refine j_getr C dX7_copyFrom_114 fl_X7_30 (tr_0 hb2) (by decide) (tr_lt hb2 0 (by decide)) rfl ?_
  refine j_iconst C dX7_copyFrom_117 (v := 0) rfl ?_
  refine j_aload_n C dX7_copyFrom_118 0 rfl rfl ?_
  refine j_getr C dX7_copyFrom_119 fl_X7_30 (tr_0 hb) (by decide) (tr_lt hb 0 (by decide)) rfl ?_
  refine j_iconst C dX7_copyFrom_122 (v := 0) rfl ?_
  refine j_bipush C dX7_copyFrom_123 (v := 12) rfl ?_
  refine j_copy C dX7_copyFrom_125 (tr_7 hb2) (tr_lt hb2 7 (by decide)) (tr_7 hb) (tr_lt hb 7 (by decide)) (by decide) (by decide) (by decide) lm_X7_76 ms_cp_0 ms_cp_1 ms_cp_2 ⟨Nat.le_of_ble_eq_true rfl, Nat.le_of_ble_eq_true rfl⟩ (fun S10 => ?_)
  refine j_aload_n C dX7_copyFrom_128 1 rfl rfl ?_
  refine j_getr C dX7_copyFrom_129 fl_X7_33 (tr_0 hb2) (by decide) (tr_lt hb2 0 (by decide)) rfl ?_
  refine j_iconst C dX7_copyFrom_132 (v := 0) rfl ?_
  refine j_aload_n C dX7_copyFrom_133 0 rfl rfl ?_
  refine j_getr C dX7_copyFrom_134 fl_X7_33 (tr_0 hb) (by decide) (tr_lt hb 0 (by decide)) rfl ?_
  refine j_iconst C dX7_copyFrom_137 (v := 0) rfl ?_
  refine j_bipush C dX7_copyFrom_138 (v := 12) rfl ?_
  refine j_copy C dX7_copyFrom_140 (tr_8 hb2) (tr_lt hb2 8 (by decide)) (tr_8 hb) (tr_lt hb 8 (by decide)) (by decide) (by decide) (by decide) lm_X7_76 ms_cp_0 ms_cp_1 ms_cp_2 ⟨Nat.le_of_ble_eq_true rfl, Nat.le_of_ble_eq_true rfl⟩ (fun S11 => ?_)
  refine j_aload_n C dX7_copyFrom_143 1 rfl rfl ?_
  refine j_getr C dX7_copyFrom_144 fl_X7_36 (tr_0 hb2) (by decide) (tr_lt hb2 0 (by decide)) rfl ?_
  refine j_iconst C dX7_copyFrom_147 (v := 0) rfl ?_
  refine j_aload_n C dX7_copyFrom_148 0 rfl rfl ?_
  refine j_getr C dX7_copyFrom_149 fl_X7_36 (tr_0 hb) (by decide) (tr_lt hb 0 (by decide)) rfl ?_
  refine j_iconst C dX7_copyFrom_152 (v := 0) rfl ?_
  refine j_bipush C dX7_copyFrom_153 (v := 12) rfl ?_
  refine j_copy C dX7_copyFrom_155 (tr_9 hb2) (tr_lt hb2 9 (by decide)) (tr_9 hb) (tr_lt hb 9 (by decide)) (by decide) (by decide) (by decide) lm_X7_76 ms_cp_0 ms_cp_1 ms_cp_2 ⟨Nat.le_of_ble_eq_true rfl, Nat.le_of_ble_eq_true rfl⟩ (fun S12 => ?_)
  refine j_aload_n C dX7_copyFrom_158 1 rfl rfl ?_
  refine j_getr C dX7_copyFrom_159 fl_X7_39 (tr_0 hb2) (by decide) (tr_lt hb2 0 (by decide)) rfl ?_
  refine j_iconst C dX7_copyFrom_162 (v := 0) rfl ?_
  refine j_aload_n C dX7_copyFrom_163 0 rfl rfl ?_
  refine j_getr C dX7_copyFrom_164 fl_X7_39 (tr_0 hb) (by decide) (tr_lt hb 0 (by decide)) rfl ?_
  refine j_iconst C dX7_copyFrom_167 (v := 0) rfl ?_
  refine j_bipush C dX7_copyFrom_168 (v := 12) rfl ?_
  refine j_copy C dX7_copyFrom_170 (tr_10 hb2) (tr_lt hb2 10 (by decide)) (tr_10 hb) (tr_lt hb 10 (by decide)) (by decide) (by decide) (by decide) lm_X7_76 ms_cp_0 ms_cp_1 ms_cp_2 ⟨Nat.le_of_ble_eq_true rfl, Nat.le_of_ble_eq_true rfl⟩ (fun S13 => ?_)
  refine j_aload_n C dX7_copyFrom_173 1 rfl rfl ?_
  refine j_getr C dX7_copyFrom_174 fl_X7_42 (tr_0 hb2) (by decide) (tr_lt hb2 0 (by decide)) rfl ?_
  refine j_iconst C dX7_copyFrom_177 (v := 0) rfl ?_
  refine j_aload_n C dX7_copyFrom_178 0 rfl rfl ?_
  refine j_getr C dX7_copyFrom_179 fl_X7_42 (tr_0 hb) (by decide) (tr_lt hb 0 (by decide)) rfl ?_
  refine j_iconst C dX7_copyFrom_182 (v := 0) rfl ?_
  refine j_bipush C dX7_copyFrom_183 (v := 12) rfl ?_
  refine j_copy C dX7_copyFrom_185 (tr_11 hb2) (tr_lt hb2 11 (by decide)) (tr_11 hb) (tr_lt hb 11 (by decide)) (by decide) (by decide) (by decide) lm_X7_76 ms_cp_0 ms_cp_1 ms_cp_2 ⟨Nat.le_of_ble_eq_true rfl, Nat.le_of_ble_eq_true rfl⟩ (fun S14 => ?_)
  refine j_aload_n C dX7_copyFrom_188 1 rfl rfl ?_
  refine j_getr C dX7_copyFrom_189 fl_X7_45 (tr_0 hb2) (by decide) (tr_lt hb2 0 (by decide)) rfl ?_
  refine j_iconst C dX7_copyFrom_192 (v := 0) rfl ?_
  refine j_aload_n C dX7_copyFrom_193 0 rfl rfl ?_
  refine j_getr C dX7_copyFrom_194 fl_X7_45 (tr_0 hb) (by decide) (tr_lt hb 0 (by decide)) rfl ?_
  refine j_iconst C dX7_copyFrom_197 (v := 0) rfl ?_
  refine j_bipush C dX7_copyFrom_198 (v := 48) rfl ?_
  refine j_copy C dX7_copyFrom_200 (tr_12 hb2) (tr_lt hb2 12 (by decide)) (tr_12 hb) (tr_lt hb 12 (by decide)) (by decide) (by decide) (by decide) lm_X7_76 ms_cp_0 ms_cp_1 ms_cp_2 ⟨Nat.le_of_ble_eq_true rfl, Nat.le_of_ble_eq_true rfl⟩ (fun S15 => ?_)
  refine j_aload_n C dX7_copyFrom_203 1 rfl rfl ?_
  refine j_getr C dX7_copyFrom_204 fl_X7_48 (tr_0 hb2) (by decide) (tr_lt hb2 0 (by decide)) rfl ?_
  refine j_iconst C dX7_copyFrom_207 (v := 0) rfl ?_
  refine j_aload_n C dX7_copyFrom_208 0 rfl rfl ?_
  refine j_getr C dX7_copyFrom_209 fl_X7_48 (tr_0 hb) (by decide) (tr_lt hb 0 (by decide)) rfl ?_
  refine j_iconst C dX7_copyFrom_212 (v := 0) rfl ?_
  refine j_bipush C dX7_copyFrom_213 (v := 48) rfl ?_
  refine j_copy C dX7_copyFrom_215 (tr_13 hb2) (tr_lt hb2 13 (by decide)) (tr_13 hb) (tr_lt hb 13 (by decide)) (by decide) (by decide) (by decide) lm_X7_76 ms_cp_0 ms_cp_1 ms_cp_2 ⟨Nat.le_of_ble_eq_true rfl, Nat.le_of_ble_eq_true rfl⟩ (fun S16 => ?_)
  refine j_aload_n C dX7_copyFrom_218 1 rfl rfl ?_
  refine j_getr C dX7_copyFrom_219 fl_X7_51 (tr_0 hb2) (by decide) (tr_lt hb2 0 (by decide)) rfl ?_
  refine j_iconst C dX7_copyFrom_222 (v := 0) rfl ?_
  refine j_aload_n C dX7_copyFrom_223 0 rfl rfl ?_
  refine j_getr C dX7_copyFrom_224 fl_X7_51 (tr_0 hb) (by decide) (tr_lt hb 0 (by decide)) rfl ?_
  refine j_iconst C dX7_copyFrom_227 (v := 0) rfl ?_
  refine j_bipush C dX7_copyFrom_228 (v := 12) rfl ?_
  refine j_copy C dX7_copyFrom_230 (tr_14 hb2) (tr_lt hb2 14 (by decide)) (tr_14 hb) (tr_lt hb 14 (by decide)) (by decide) (by decide) (by decide) lm_X7_76 ms_cp_0 ms_cp_1 ms_cp_2 ⟨Nat.le_of_ble_eq_true rfl, Nat.le_of_ble_eq_true rfl⟩ (fun S17 => ?_)
  refine j_aload_n C dX7_copyFrom_233 1 rfl rfl ?_
  refine j_getr C dX7_copyFrom_234 fl_X7_54 (tr_0 hb2) (by decide) (tr_lt hb2 0 (by decide)) rfl ?_
  refine j_iconst C dX7_copyFrom_237 (v := 0) rfl ?_
  refine j_aload_n C dX7_copyFrom_238 0 rfl rfl ?_
  refine j_getr C dX7_copyFrom_239 fl_X7_54 (tr_0 hb) (by decide) (tr_lt hb 0 (by decide)) rfl ?_
  refine j_iconst C dX7_copyFrom_242 (v := 0) rfl ?_
  refine j_bipush C dX7_copyFrom_243 (v := 12) rfl ?_
  refine j_copy C dX7_copyFrom_245 (tr_15 hb2) (tr_lt hb2 15 (by decide)) (tr_15 hb) (tr_lt hb 15 (by decide)) (by decide) (by decide) (by decide) lm_X7_76 ms_cp_0 ms_cp_1 ms_cp_2 ⟨Nat.le_of_ble_eq_true rfl, Nat.le_of_ble_eq_true rfl⟩ (fun S18 => ?_)
  refine j_aload_n C dX7_copyFrom_248 1 rfl rfl ?_
  refine j_getr C dX7_copyFrom_249 fl_X7_57 (tr_0 hb2) (by decide) (tr_lt hb2 0 (by decide)) rfl ?_
  refine j_iconst C dX7_copyFrom_252 (v := 0) rfl ?_
  refine j_aload_n C dX7_copyFrom_253 0 rfl rfl ?_
  refine j_getr C dX7_copyFrom_254 fl_X7_57 (tr_0 hb) (by decide) (tr_lt hb 0 (by decide)) rfl ?_
  refine j_iconst C dX7_copyFrom_257 (v := 0) rfl ?_
  refine j_bipush C dX7_copyFrom_258 (v := 12) rfl ?_
  refine j_copy C dX7_copyFrom_260 (tr_16 hb2) (tr_lt hb2 16 (by decide)) (tr_16 hb) (tr_lt hb 16 (by decide)) (by decide) (by decide) (by decide) lm_X7_76 ms_cp_0 ms_cp_1 ms_cp_2 ⟨Nat.le_of_ble_eq_true rfl, Nat.le_of_ble_eq_true rfl⟩ (fun S19 => ?_)
  exact j_vret hR dX7_copyFrom_263
-- X1_remember
abbrev rm_X1_remember : Room := { frames := 2, cells := 0, slots := 0, locals := 39 }
def f_X1_remember_42 (s0 : Int32) (S : St) : Option (St) :=
    lt (upI S 17 1 s0) fun S3 =>
    lt (if 6 < ((S3.1 17 2) + 1) then 6 else ((S3.1 17 2) + 1)) fun v4 =>
    lt (upI S3 17 2 v4) fun S5 =>
    some S5
set_option maxHeartbeats 1000000 in
theorem b_X1_remember_42 {K : Kt} {adr : Nat → Nat} {r : St} (C : Cx K cX1_remember RX1 3 adr rm_X1_remember) (hR : ∀ (pc : Nat) (lv : List (Nat × Value)), decode cX1_remember pc = .ok (.return_, 1) → K pc lv [] r) (s0 : Int32) (S : St) : J K r (f_X1_remember_42 s0 S) 42 [(0, .ref (adr 17))] [.int s0, .ref (adr 17)] S := by
    unfold f_X1_remember_42
    refine j_puti C dX1_remember_42 fl_X1_22 fi_X1_1 kd_17 (by decide) (Nat.le_of_ble_eq_true rfl) rfl (fun S3 => ?_)
    refine j_aload_n C dX1_remember_45 0 rfl rfl ?_
    refine j_aload_n C dX1_remember_46 0 rfl rfl ?_
    refine j_geti C dX1_remember_47 fl_X1_18 kd_17 (by decide) (Nat.le_of_ble_eq_true rfl) rfl ?_
    refine j_iconst C dX1_remember_50 (v := 1) rfl ?_
    refine j_iadd C dX1_remember_51 ?_
    refine j_bipush C dX1_remember_52 (v := 6) rfl ?_
    refine j_mmin C dX1_remember_54 lm_X1_29 ms_min_1 ms_math ms_min_3 ⟨Nat.le_of_ble_eq_true rfl, Nat.le_of_ble_eq_true rfl⟩ ?_
    refine j_topi (fun v4 => ?_)
    refine j_puti C dX1_remember_57 fl_X1_18 fi_X1_2 kd_17 (by decide) (Nat.le_of_ble_eq_true rfl) rfl (fun S5 => ?_)
    exact j_vret hR dX1_remember_60
def f_X1_remember  (S : St) : Option (St) :=
  ck (S.1 17 1) 6 (bdV (f_X7_copyFrom (59 + 17 * (S.1 17 1).toNatClampNeg) 42 S) fun S2 =>
  if 6 ≤ ((S2.1 17 1) + 1) then (f_X1_remember_42 0 S2)
  else (f_X1_remember_42 ((S2.1 17 1) + 1) S2))
set_option maxHeartbeats 1000000 in
theorem m_X1_remember (adr : Nat → Nat)  : MtV yX1_remember cX1_remember 3 none rm_X1_remember adr [.ref (adr 17), .ref (adr 42)] (f_X1_remember ) := by
  refine MtV.of (by decide +kernel) (Nat.le_of_ble_eq_true rfl) (fun K r S C hR => ?_)
  refine j_start (lv' := [(0, .ref (adr 17)), (1, .ref (adr 42))]) rfl ?_
  unfold f_X1_remember
  refine j_aload_n C dX1_remember_0 0 rfl rfl ?_
  refine j_getr C dX1_remember_1 fl_X1_11 kd_17 (by decide) (Nat.le_of_ble_eq_true rfl) rfl ?_
  refine j_aload_n C dX1_remember_4 0 rfl rfl ?_
  refine j_geti C dX1_remember_5 fl_X1_22 kd_17 (by decide) (Nat.le_of_ble_eq_true rfl) rfl ?_
  refine j_aald C dX1_remember_8 kd_18 (Nat.le_of_ble_eq_true rfl) (b0 := 59) (by decide) (fun hN1 => ?_)
  refine j_astore_n C dX1_remember_9 rfl (by decide) rfl ?_
  refine j_aload_n C dX1_remember_10 0 rfl rfl ?_
  refine j_ifnonnull C dX1_remember_11 (tgt := 15) (by decide) ?_
  refine j_aload_n C dX1_remember_15 0 rfl rfl ?_
  refine j_aload_n C dX1_remember_16 2 rfl rfl ?_
  refine j_cvv C dX1_remember_17 lk_X1_25 mw_X7_copyFrom (m_X7_copyFrom adr (59 + 17 * (S.1 17 1).toNatClampNeg) 42 (trR_59 hN1) trN ) ⟨rfl, rfl, Nat.le_of_ble_eq_true rfl, Nat.le_of_ble_eq_true rfl⟩ (tr_0 (trR_59 hN1)) (by decide) (tr_lt (trR_59 hN1) 0 (by decide)) rfl rfl (st := []) (st0 := [.ref (adr 42), .ref (adr (59 + 17 * (S.1 17 1).toNatClampNeg))]) rfl (Nat.le_of_ble_eq_true rfl) (fun S2 => ?_)
  refine j_aload_n C dX1_remember_20 1 rfl rfl ?_
  refine j_aload_n C dX1_remember_21 1 rfl rfl ?_
  refine j_geti C dX1_remember_22 fl_X1_22 kd_17 (by decide) (Nat.le_of_ble_eq_true rfl) rfl ?_
  refine j_iconst C dX1_remember_25 (v := 1) rfl ?_
  refine j_iadd C dX1_remember_26 ?_
  refine j_bipush C dX1_remember_27 (v := 6) rfl ?_
  refine j_icmp_ge C dX1_remember_29 (tgt := 41) (by decide) ?_ ?_
  · refine j_iconst C dX1_remember_41 (v := 0) rfl ?_
    refine j_sub C [1] rfl ?_
    exact b_X1_remember_42 C hR 0 S2
  · refine j_aload_n C dX1_remember_32 1 rfl rfl ?_
    refine j_geti C dX1_remember_33 fl_X1_22 kd_17 (by decide) (Nat.le_of_ble_eq_true rfl) rfl ?_
    refine j_iconst C dX1_remember_36 (v := 1) rfl ?_
    refine j_iadd C dX1_remember_37 ?_
    refine j_goto C dX1_remember_38 (tgt := 42) (by decide) ?_
    refine j_sub C [1] rfl ?_
    exact b_X1_remember_42 C hR ((S2.1 17 1) + 1) S2
-- X7_tallyOne
abbrev rm_X7_tallyOne : Room := { frames := 0, cells := 0, slots := 0, locals := 0 }
def f_X7_tallyOne (x1 : Int32) (x2 : Int32) (S : St) : Option (St) :=
  ck ((x1 * 6) + x2) 24 (ck ((x1 * 6) + x2) 24 (lt (upI S 44 ((x1 * 6) + x2).toNatClampNeg ((S.1 44 ((x1 * 6) + x2).toNatClampNeg) + 1)) fun S1 =>
  some S1))
set_option maxHeartbeats 1000000 in
theorem m_X7_tallyOne (adr : Nat → Nat) (x1 : Int32) (x2 : Int32) : MtV yX7_tallyOne cX7_tallyOne 3 none rm_X7_tallyOne adr [.ref (adr 42), .int x1, .int x2] (f_X7_tallyOne x1 x2) := by
  refine MtV.of (by decide +kernel) (Nat.le_of_ble_eq_true rfl) (fun K r S C hR => ?_)
  refine j_start (lv' := [(0, .ref (adr 42)), (1, .int x1), (2, .int x2)]) rfl ?_
  unfold f_X7_tallyOne
  refine j_aload_n C dX7_tallyOne_0 0 rfl rfl ?_
  refine j_getr C dX7_tallyOne_1 fl_X7_15 kd_42 (by decide) (Nat.le_of_ble_eq_true rfl) rfl ?_
  refine j_iload_n C dX7_tallyOne_4 1 rfl rfl ?_
  refine j_bipush C dX7_tallyOne_5 (v := 6) rfl ?_
  refine j_imul C dX7_tallyOne_7 ?_
  refine j_iload_n C dX7_tallyOne_8 2 rfl rfl ?_
  refine j_iadd C dX7_tallyOne_9 ?_
  refine j_dup2 C dX7_tallyOne_10 rfl rfl ?_
  refine j_iald C dX7_tallyOne_11 kd_44 (Nat.le_of_ble_eq_true rfl) ?_
  refine j_iconst C dX7_tallyOne_12 (v := 1) rfl ?_
  refine j_iadd C dX7_tallyOne_13 ?_
  refine j_iast C dX7_tallyOne_14 kd_44 (Nat.le_of_ble_eq_true rfl) (fun S1 => ?_)
  exact j_vret hR dX7_tallyOne_15
-- X7_callsOf
abbrev rm_X7_callsOf : Room := { frames := 0, cells := 0, slots := 0, locals := 0 }
def f_X7_callsOf_23 (qa na : Nat) (k4 : Int32 → Int32 → Int32 → St → Option (Int32 × St)) (x1 : Int32) (x3 : Int32) (s0 : Int32) (s1 : Int32) (S : St) : Option (Int32 × St) :=
    lt (s1 + s0) fun v1 =>
    k4 x1 v1 (x3 + 1) S
set_option maxHeartbeats 1000000 in
theorem b_X7_callsOf_23 {K : Kt} {adr : Nat → Nat} {r : Int32 × St} (C : Cx K cX7_callsOf RX7 4 adr rm_X7_callsOf) (hR : ∀ (pc : Nat) (lv : List (Nat × Value)), decode cX7_callsOf pc = .ok (.ireturn, 1) → K pc lv [.int r.1] r.2) (qa na : Nat) (hkq : kd qa = (10, na, [])) (hqN : qa < NC) (k4 : Int32 → Int32 → Int32 → St → Option (Int32 × St)) (h4 : ∀ (x1 : Int32) (x2 : Int32) (x3 : Int32) (S : St), J K r (k4 x1 x2 x3 S) 4 [(0, .ref (adr (qa))), (1, .int x1), (2, .int x2), (3, .int x3)] [] S) (x1 : Int32) (x3 : Int32) (s0 : Int32) (s1 : Int32) (S : St) : J K r (f_X7_callsOf_23 qa na k4 x1 x3 s0 s1 S) 23 [(0, .ref (adr (qa))), (1, .int x1), (3, .int x3)] [.int s0, .int s1] S := by
    unfold f_X7_callsOf_23
    refine j_iadd C dX7_callsOf_23 ?_
    refine j_topi (fun v1 => ?_)
    refine j_istore_n C dX7_callsOf_24 rfl (by decide) rfl ?_
    refine j_iinc C dX7_callsOf_25 (v := x3 + 1) 3 rfl rfl (by decide) rfl ?_
    refine j_goto C dX7_callsOf_28 (tgt := 4) (by decide) ?_
    refine j_sub C [2, 3, 1, 0] rfl ?_
    exact h4 x1 v1 (x3 + 1) S
def f_X7_callsOf_4 (qa na : Nat) : Nat → Int32 → Int32 → Int32 → St → Option (Int32 × St)
  | 0, _, _, _, _ => none
  | n + 1, x1, x2, x3, S =>
    if (Int32.ofNat na) ≤ x3 then (some (x2, S))
    else (ck x3 na (if (S.1 qa x3.toNatClampNeg) = x1 then (f_X7_callsOf_23 qa na (f_X7_callsOf_4 qa na n) x1 x3 1 x2 S)
      else (f_X7_callsOf_23 qa na (f_X7_callsOf_4 qa na n) x1 x3 0 x2 S)))
set_option maxHeartbeats 1000000 in
theorem b_X7_callsOf_4 {K : Kt} {adr : Nat → Nat} {r : Int32 × St} (C : Cx K cX7_callsOf RX7 4 adr rm_X7_callsOf) (hR : ∀ (pc : Nat) (lv : List (Nat × Value)), decode cX7_callsOf pc = .ok (.ireturn, 1) → K pc lv [.int r.1] r.2) (qa na : Nat) (hkq : kd qa = (10, na, [])) (hqN : qa < NC) : ∀ (n : Nat) (x1 : Int32) (x2 : Int32) (x3 : Int32) (S : St), J K r (f_X7_callsOf_4 qa na n x1 x2 x3 S) 4 [(0, .ref (adr (qa))), (1, .int x1), (2, .int x2), (3, .int x3)] [] S := by
  intro n
  induction n with
  | zero => intro x1 x2 x3 S h; cases h
  | succ n ih =>
    intro x1 x2 x3 S
    unfold f_X7_callsOf_4
    refine j_iload_n C dX7_callsOf_4 3 rfl rfl ?_
    refine j_aload_n C dX7_callsOf_5 0 rfl rfl ?_
    refine j_alen C dX7_callsOf_6 hkq hqN (v := (Int32.ofNat na)) rfl ?_
    refine j_icmp_ge C dX7_callsOf_7 (tgt := 31) (by decide) ?_ ?_
    · refine j_iload_n C dX7_callsOf_31 2 rfl rfl ?_
      exact j_iret hR dX7_callsOf_32
    · refine j_iload_n C dX7_callsOf_10 2 rfl rfl ?_
      refine j_aload_n C dX7_callsOf_11 0 rfl rfl ?_
      refine j_iload_n C dX7_callsOf_12 3 rfl rfl ?_
      refine j_iald C dX7_callsOf_13 hkq hqN ?_
      refine j_iload_n C dX7_callsOf_14 1 rfl rfl ?_
      refine j_icmp_ne C dX7_callsOf_15 (tgt := 22) (by decide) ?_ ?_
      · refine j_iconst C dX7_callsOf_22 (v := 0) rfl ?_
        refine j_sub C [0, 1, 3] rfl ?_
        exact b_X7_callsOf_23 C hR qa na hkq hqN (f_X7_callsOf_4 qa na n) ih x1 x3 0 x2 S
      · refine j_iconst C dX7_callsOf_18 (v := 1) rfl ?_
        refine j_goto C dX7_callsOf_19 (tgt := 23) (by decide) ?_
        refine j_sub C [0, 1, 3] rfl ?_
        exact b_X7_callsOf_23 C hR qa na hkq hqN (f_X7_callsOf_4 qa na n) ih x1 x3 1 x2 S
def f_X7_callsOf (qa na : Nat) (x1 : Int32) (S : St) : Option (Int32 × St) :=
  f_X7_callsOf_4 qa na FU x1 0 0 S
set_option maxHeartbeats 1000000 in
theorem m_X7_callsOf (adr : Nat → Nat) (qa na : Nat) (hkq : kd qa = (10, na, [])) (hqN : qa < NC) (x1 : Int32) : MtI yX7_callsOf cX7_callsOf 4 (some .int) rm_X7_callsOf adr [.ref (adr (qa)), .int x1] (f_X7_callsOf qa na x1) := by
  refine MtI.of (by decide +kernel) (Nat.le_of_ble_eq_true rfl) (fun K r S C hR => ?_)
  refine j_start (lv' := [(0, .ref (adr (qa))), (1, .int x1)]) rfl ?_
  unfold f_X7_callsOf
  refine j_iconst C dX7_callsOf_0 (v := 0) rfl ?_
  refine j_istore_n C dX7_callsOf_1 rfl (by decide) rfl ?_
  refine j_iconst C dX7_callsOf_2 (v := 0) rfl ?_
  refine j_istore_n C dX7_callsOf_3 rfl (by decide) rfl ?_
  refine j_sub C [2, 3, 1, 0] rfl ?_
  exact b_X7_callsOf_4 C hR qa na hkq hqN FU x1 0 0 S
-- X7_busy
abbrev rm_X7_busy : Room := { frames := 1, cells := 0, slots := 0, locals := 23 }
def f_X7_busy (x1 : Int32) (S : St) : Option (Int32 × St) :=
  bd (f_X7_callsOf 45 12 x1 S) fun v2 S1 =>
  some (v2, S1)
set_option maxHeartbeats 1000000 in
theorem m_X7_busy (adr : Nat → Nat) (x1 : Int32) : MtI yX7_busy cX7_busy 2 (some .int) rm_X7_busy adr [.ref (adr 42), .int x1] (f_X7_busy x1) := by
  refine MtI.of (by decide +kernel) (Nat.le_of_ble_eq_true rfl) (fun K r S C hR => ?_)
  refine j_start (lv' := [(0, .ref (adr 42)), (1, .int x1)]) rfl ?_
  unfold f_X7_busy
  refine j_aload_n C dX7_busy_0 0 rfl rfl ?_
  refine j_getr C dX7_busy_1 fl_X7_18 kd_42 (by decide) (Nat.le_of_ble_eq_true rfl) rfl ?_
  refine j_iload_n C dX7_busy_4 1 rfl rfl ?_
  refine j_csi C dX7_busy_5 lk_X7_88 mw_X7_callsOf (m_X7_callsOf adr 45 12 kd_45 (Nat.le_of_ble_eq_true rfl) x1) ⟨rfl, rfl, Nat.le_of_ble_eq_true rfl, Nat.le_of_ble_eq_true rfl⟩ rfl (st := []) (st0 := [.int x1, .ref (adr 45)]) rfl (Nat.le_of_ble_eq_true rfl) (fun v2 S1 => ?_)
  exact j_iret hR dX7_busy_8
-- X0_free
abbrev rm_X0_free : Room := { frames := 2, cells := 0, slots := 0, locals := 44 }
def f_X0_free (x1 : Int32) (S : St) : Option (Int32 × St) :=
  ck x1 4 (bd (f_X7_busy x1 S) fun v2 S1 =>
  some ((S.1 10 x1.toNatClampNeg) - v2, S1))
set_option maxHeartbeats 1000000 in
theorem m_X0_free (adr : Nat → Nat) (x1 : Int32) : MtI yX0_free cX0_free 2 (some .int) rm_X0_free adr [.ref (adr 14), .int x1] (f_X0_free x1) := by
  refine MtI.of (by decide +kernel) (Nat.le_of_ble_eq_true rfl) (fun K r S C hR => ?_)
  refine j_start (lv' := [(0, .ref (adr 14)), (1, .int x1)]) rfl ?_
  unfold f_X0_free
  refine j_aload_n C dX0_free_0 0 rfl rfl ?_
  refine j_getr C dX0_free_1 fl_X0_18 kd_14 (by decide) (Nat.le_of_ble_eq_true rfl) rfl ?_
  refine j_getr C dX0_free_4 fl_X0_26 kd_9 (by decide) (Nat.le_of_ble_eq_true rfl) rfl ?_
  refine j_iload_n C dX0_free_7 1 rfl rfl ?_
  refine j_iald C dX0_free_8 kd_10 (Nat.le_of_ble_eq_true rfl) ?_
  refine j_aload_n C dX0_free_9 0 rfl rfl ?_
  refine j_getr C dX0_free_10 fl_X0_22 kd_14 (by decide) (Nat.le_of_ble_eq_true rfl) rfl ?_
  refine j_iload_n C dX0_free_13 1 rfl rfl ?_
  refine j_cvi C dX0_free_14 lk_X0_31 mw_X7_busy (m_X7_busy adr x1) ⟨rfl, rfl, Nat.le_of_ble_eq_true rfl, Nat.le_of_ble_eq_true rfl⟩ kd_42 (by decide) (Nat.le_of_ble_eq_true rfl) rfl rfl (st := [.int (S.1 10 x1.toNatClampNeg)]) (st0 := [.int x1, .ref (adr 42), .int (S.1 10 x1.toNatClampNeg)]) rfl (Nat.le_of_ble_eq_true rfl) (fun v2 S1 => ?_)
  refine j_isub C dX0_free_17 ?_
  exact j_iret hR dX0_free_18
-- X8_chance
abbrev rm_X8_chance : Room := { frames := 1, cells := 0, slots := 0, locals := 14 }
def f_X8_chance (x0 : Int32) (x1 : Int32) (S : St) : Option (Int32 × St) :=
  lt (if ((10 * x0) - x1) < 10 then ((10 * x0) - x1) else 10) fun v1 =>
  lt (if 0 < v1 then v1 else 0) fun v2 =>
  some (v2, S)
set_option maxHeartbeats 1000000 in
theorem m_X8_chance (adr : Nat → Nat) (x0 : Int32) (x1 : Int32) : MtI yX8_chance cX8_chance 2 (some .int) rm_X8_chance adr [.int x0, .int x1] (f_X8_chance x0 x1) := by
  refine MtI.of (by decide +kernel) (Nat.le_of_ble_eq_true rfl) (fun K r S C hR => ?_)
  refine j_start (lv' := [(0, .int x0), (1, .int x1)]) rfl ?_
  unfold f_X8_chance
  refine j_iconst C dX8_chance_0 (v := 0) rfl ?_
  refine j_bipush C dX8_chance_1 (v := 10) rfl ?_
  refine j_bipush C dX8_chance_3 (v := 10) rfl ?_
  refine j_iload_n C dX8_chance_5 0 rfl rfl ?_
  refine j_imul C dX8_chance_6 ?_
  refine j_iload_n C dX8_chance_7 1 rfl rfl ?_
  refine j_isub C dX8_chance_8 ?_
  refine j_mmin C dX8_chance_9 lm_X8_253 ms_min_1 ms_math ms_min_3 ⟨Nat.le_of_ble_eq_true rfl, Nat.le_of_ble_eq_true rfl⟩ ?_
  refine j_topi (fun v1 => ?_)
  refine j_mmax C dX8_chance_12 lm_X8_258 ms_max_1 ms_math ms_max_3 ⟨Nat.le_of_ble_eq_true rfl, Nat.le_of_ble_eq_true rfl⟩ ?_
  refine j_topi (fun v2 => ?_)
  exact j_iret hR dX8_chance_15
-- X0_chanceOf
abbrev rm_X0_chanceOf : Room := { frames := 3, cells := 0, slots := 0, locals := 65 }
def f_X0_chanceOf (x1 : Int32) (S : St) : Option (Int32 × St) :=
  bd (f_X0_free x1 S) fun v2 S1 =>
  ck x1 4 (bd (f_X8_chance v2 (S1.1 43 x1.toNatClampNeg) S1) fun v4 S3 =>
  some (v4, S3))
set_option maxHeartbeats 1000000 in
theorem m_X0_chanceOf (adr : Nat → Nat) (x1 : Int32) : MtI yX0_chanceOf cX0_chanceOf 2 (some .int) rm_X0_chanceOf adr [.ref (adr 14), .int x1] (f_X0_chanceOf x1) := by
  refine MtI.of (by decide +kernel) (Nat.le_of_ble_eq_true rfl) (fun K r S C hR => ?_)
  refine j_start (lv' := [(0, .ref (adr 14)), (1, .int x1)]) rfl ?_
  unfold f_X0_chanceOf
  refine j_aload_n C dX0_chanceOf_0 0 rfl rfl ?_
  refine j_iload_n C dX0_chanceOf_1 1 rfl rfl ?_
  refine j_cvi C dX0_chanceOf_2 lk_X0_37 mw_X0_free (m_X0_free adr x1) ⟨rfl, rfl, Nat.le_of_ble_eq_true rfl, Nat.le_of_ble_eq_true rfl⟩ kd_14 (by decide) (Nat.le_of_ble_eq_true rfl) rfl rfl (st := []) (st0 := [.int x1, .ref (adr 14)]) rfl (Nat.le_of_ble_eq_true rfl) (fun v2 S1 => ?_)
  refine j_aload_n C dX0_chanceOf_5 0 rfl rfl ?_
  refine j_getr C dX0_chanceOf_6 fl_X0_22 kd_14 (by decide) (Nat.le_of_ble_eq_true rfl) rfl ?_
  refine j_getr C dX0_chanceOf_9 fl_X0_40 kd_42 (by decide) (Nat.le_of_ble_eq_true rfl) rfl ?_
  refine j_iload_n C dX0_chanceOf_12 1 rfl rfl ?_
  refine j_iald C dX0_chanceOf_13 kd_43 (Nat.le_of_ble_eq_true rfl) ?_
  refine j_csi C dX0_chanceOf_14 lk_X0_43 mw_X8_chance (m_X8_chance adr v2 (S1.1 43 x1.toNatClampNeg)) ⟨rfl, rfl, Nat.le_of_ble_eq_true rfl, Nat.le_of_ble_eq_true rfl⟩ rfl (st := []) (st0 := [.int (S1.1 43 x1.toNatClampNeg), .int v2]) rfl (Nat.le_of_ble_eq_true rfl) (fun v4 S3 => ?_)
  exact j_iret hR dX0_chanceOf_17
-- X0_draw
abbrev rm_X0_draw : Room := { frames := 0, cells := 0, slots := 0, locals := 0 }
def f_X0_draw  (S : St) : Option (Int32 × St) :=
  lt (upI S 42 0 (((S.1 42 0) * 69069) + 1)) fun S1 =>
  lt (((S1.1 42 0).toUInt32 >>> ((16 : Int32).toUInt32 &&& Int32.toUInt32 31)).toInt32) fun v2 =>
  nz 10 (some (v2 - v2 / 10 * 10, S1))
set_option maxHeartbeats 1000000 in
theorem m_X0_draw (adr : Nat → Nat)  : MtI yX0_draw cX0_draw 1 (some .int) rm_X0_draw adr [.ref (adr 14)] (f_X0_draw ) := by
  refine MtI.of (by decide +kernel) (Nat.le_of_ble_eq_true rfl) (fun K r S C hR => ?_)
  refine j_start (lv' := [(0, .ref (adr 14))]) rfl ?_
  unfold f_X0_draw
  refine j_aload_n C dX0_draw_0 0 rfl rfl ?_
  refine j_getr C dX0_draw_1 fl_X0_22 kd_14 (by decide) (Nat.le_of_ble_eq_true rfl) rfl ?_
  refine j_aload_n C dX0_draw_4 0 rfl rfl ?_
  refine j_getr C dX0_draw_5 fl_X0_22 kd_14 (by decide) (Nat.le_of_ble_eq_true rfl) rfl ?_
  refine j_geti C dX0_draw_8 fl_X0_69 kd_42 (by decide) (Nat.le_of_ble_eq_true rfl) rfl ?_
  refine j_ldc C dX0_draw_11 kc_X0_73 ?_
  refine j_imul C dX0_draw_13 ?_
  refine j_iconst C dX0_draw_14 (v := 1) rfl ?_
  refine j_iadd C dX0_draw_15 ?_
  refine j_puti C dX0_draw_16 fl_X0_69 fi_X7_0 kd_42 (by decide) (Nat.le_of_ble_eq_true rfl) rfl (fun S1 => ?_)
  refine j_aload_n C dX0_draw_19 0 rfl rfl ?_
  refine j_getr C dX0_draw_20 fl_X0_22 kd_14 (by decide) (Nat.le_of_ble_eq_true rfl) rfl ?_
  refine j_geti C dX0_draw_23 fl_X0_69 kd_42 (by decide) (Nat.le_of_ble_eq_true rfl) rfl ?_
  refine j_bipush C dX0_draw_26 (v := 16) rfl ?_
  refine j_iushr C dX0_draw_28 ?_
  refine j_topi (fun v2 => ?_)
  refine j_bipush C dX0_draw_29 (v := 10) rfl ?_
  refine j_irem C dX0_draw_31 ?_
  exact j_iret hR dX0_draw_32
-- X0_isTaken
abbrev rm_X0_isTaken : Room := { frames := 1, cells := 0, slots := 0, locals := 20 }
def f_X0_isTaken_35 (s0 : Int32) (S : St) : Option (Int32 × St) :=
    bz s0 (some (s0, S))
set_option maxHeartbeats 1000000 in
theorem b_X0_isTaken_35 {K : Kt} {adr : Nat → Nat} {r : Int32 × St} (C : Cx K cX0_isTaken RX0 2 adr rm_X0_isTaken) (hR : ∀ (pc : Nat) (lv : List (Nat × Value)), (r.1 = 0 ∨ r.1 = 1) → decode cX0_isTaken pc = .ok (.ireturn, 1) → K pc lv [.int r.1] r.2) (s0 : Int32) (S : St) : J K r (f_X0_isTaken_35 s0 S) 35 [] [.int s0] S := by
    unfold f_X0_isTaken_35
    exact j_zretv hR dX0_isTaken_35
def f_X0_isTaken_21 (s0 : Int32) (S : St) : Option (Int32 × St) :=
    bz s0 (some (s0, S))
set_option maxHeartbeats 1000000 in
theorem b_X0_isTaken_21 {K : Kt} {adr : Nat → Nat} {r : Int32 × St} (C : Cx K cX0_isTaken RX0 2 adr rm_X0_isTaken) (hR : ∀ (pc : Nat) (lv : List (Nat × Value)), (r.1 = 0 ∨ r.1 = 1) → decode cX0_isTaken pc = .ok (.ireturn, 1) → K pc lv [.int r.1] r.2) (s0 : Int32) (S : St) : J K r (f_X0_isTaken_21 s0 S) 21 [] [.int s0] S := by
    unfold f_X0_isTaken_21
    exact j_zretv hR dX0_isTaken_21
def f_X0_isTaken_10 (x1 : Int32) (S : St) : Option (Int32 × St) :=
    if x1 = 10 then (f_X0_isTaken_21 1 S)
    else (f_X0_isTaken_21 0 S)
set_option maxHeartbeats 1000000 in
theorem b_X0_isTaken_10 {K : Kt} {adr : Nat → Nat} {r : Int32 × St} (C : Cx K cX0_isTaken RX0 2 adr rm_X0_isTaken) (hR : ∀ (pc : Nat) (lv : List (Nat × Value)), (r.1 = 0 ∨ r.1 = 1) → decode cX0_isTaken pc = .ok (.ireturn, 1) → K pc lv [.int r.1] r.2) (x1 : Int32) (S : St) : J K r (f_X0_isTaken_10 x1 S) 10 [(1, .int x1)] [] S := by
    unfold f_X0_isTaken_10
    refine j_iload_n C dX0_isTaken_10 0 rfl rfl ?_
    refine j_bipush C dX0_isTaken_11 (v := 10) rfl ?_
    refine j_icmp_ne C dX0_isTaken_13 (tgt := 20) (by decide) ?_ ?_
    · refine j_iconst C dX0_isTaken_20 (v := 0) rfl ?_
      refine j_sub C [] rfl ?_
      exact b_X0_isTaken_21 C hR 0 S
    · refine j_iconst C dX0_isTaken_16 (v := 1) rfl ?_
      refine j_goto C dX0_isTaken_17 (tgt := 21) (by decide) ?_
      refine j_sub C [] rfl ?_
      exact b_X0_isTaken_21 C hR 1 S
def f_X0_isTaken (x1 : Int32) (S : St) : Option (Int32 × St) :=
  if x1 = 0 then (f_X0_isTaken_10 x1 S)
  else (if x1 = 10 then (f_X0_isTaken_10 x1 S)
    else (bd (f_X0_draw S) fun v2 S1 =>
      if x1 ≤ v2 then (f_X0_isTaken_35 0 S1)
      else (f_X0_isTaken_35 1 S1)))
set_option maxHeartbeats 1000000 in
theorem m_X0_isTaken (adr : Nat → Nat) (x1 : Int32) : MtI yX0_isTaken cX0_isTaken 2 (some .boolean) rm_X0_isTaken adr [.ref (adr 14), .int x1] (f_X0_isTaken x1) := by
  refine MtI.ofZ (by decide +kernel) (Nat.le_of_ble_eq_true rfl) (fun K r S C hR => ?_)
  refine j_start (lv' := [(0, .ref (adr 14)), (1, .int x1)]) rfl ?_
  unfold f_X0_isTaken
  refine j_iload_n C dX0_isTaken_0 1 rfl rfl ?_
  refine j_if_eq C dX0_isTaken_1 (tgt := 10) (by decide) ?_ ?_
  · refine j_sub C [1] rfl ?_
    exact b_X0_isTaken_10 C hR x1 S
  · refine j_iload_n C dX0_isTaken_4 1 rfl rfl ?_
    refine j_bipush C dX0_isTaken_5 (v := 10) rfl ?_
    refine j_icmp_ne C dX0_isTaken_7 (tgt := 22) (by decide) ?_ ?_
    · refine j_aload_n C dX0_isTaken_22 0 rfl rfl ?_
      refine j_cvi C dX0_isTaken_23 lk_X0_66 mw_X0_draw (m_X0_draw adr ) ⟨rfl, rfl, Nat.le_of_ble_eq_true rfl, Nat.le_of_ble_eq_true rfl⟩ kd_14 (by decide) (Nat.le_of_ble_eq_true rfl) rfl rfl (st := []) (st0 := [.ref (adr 14)]) rfl (Nat.le_of_ble_eq_true rfl) (fun v2 S1 => ?_)
      refine j_iload_n C dX0_isTaken_26 1 rfl rfl ?_
      refine j_icmp_ge C dX0_isTaken_27 (tgt := 34) (by decide) ?_ ?_
      · refine j_iconst C dX0_isTaken_34 (v := 0) rfl ?_
        refine j_sub C [] rfl ?_
        exact b_X0_isTaken_35 C hR 0 S1
      · refine j_iconst C dX0_isTaken_30 (v := 1) rfl ?_
        refine j_goto C dX0_isTaken_31 (tgt := 35) (by decide) ?_
        refine j_sub C [] rfl ?_
        exact b_X0_isTaken_35 C hR 1 S1
    · refine j_sub C [1] rfl ?_
      exact b_X0_isTaken_10 C hR x1 S
-- X7_clearStreaks
abbrev rm_X7_clearStreaks : Room := { frames := 0, cells := 0, slots := 0, locals := 0 }
def f_X7_clearStreaks_2 : Nat → Int32 → Int32 → St → Option (St)
  | 0, _, _, _ => none
  | n + 1, x1, x2, S =>
    if 4 ≤ x2 then (some S)
    else (ck ((x1 * 4) + x2) 48 (lt (upI S 55 ((x1 * 4) + x2).toNatClampNeg 0) fun S1 =>
      (f_X7_clearStreaks_2 n) x1 (x2 + 1) S1))
set_option maxHeartbeats 1000000 in
theorem b_X7_clearStreaks_2 {K : Kt} {adr : Nat → Nat} {r : St} (C : Cx K cX7_clearStreaks RX7 3 adr rm_X7_clearStreaks) (hR : ∀ (pc : Nat) (lv : List (Nat × Value)), decode cX7_clearStreaks pc = .ok (.return_, 1) → K pc lv [] r) : ∀ (n : Nat) (x1 : Int32) (x2 : Int32) (S : St), J K r (f_X7_clearStreaks_2 n x1 x2 S) 2 [(0, .ref (adr 42)), (1, .int x1), (2, .int x2)] [] S := by
  intro n
  induction n with
  | zero => intro x1 x2 S h; cases h
  | succ n ih =>
    intro x1 x2 S
    unfold f_X7_clearStreaks_2
    refine j_iload_n C dX7_clearStreaks_2 2 rfl rfl ?_
    refine j_iconst C dX7_clearStreaks_3 (v := 4) rfl ?_
    refine j_icmp_ge C dX7_clearStreaks_4 (tgt := 24) (by decide) ?_ ?_
    · exact j_vret hR dX7_clearStreaks_24
    · refine j_aload_n C dX7_clearStreaks_7 0 rfl rfl ?_
      refine j_getr C dX7_clearStreaks_8 fl_X7_48 kd_42 (by decide) (Nat.le_of_ble_eq_true rfl) rfl ?_
      refine j_iload_n C dX7_clearStreaks_11 1 rfl rfl ?_
      refine j_iconst C dX7_clearStreaks_12 (v := 4) rfl ?_
      refine j_imul C dX7_clearStreaks_13 ?_
      refine j_iload_n C dX7_clearStreaks_14 2 rfl rfl ?_
      refine j_iadd C dX7_clearStreaks_15 ?_
      refine j_iconst C dX7_clearStreaks_16 (v := 0) rfl ?_
      refine j_iast C dX7_clearStreaks_17 kd_55 (Nat.le_of_ble_eq_true rfl) (fun S1 => ?_)
      refine j_iinc C dX7_clearStreaks_18 (v := x2 + 1) 2 rfl rfl (by decide) rfl ?_
      refine j_goto C dX7_clearStreaks_21 (tgt := 2) (by decide) ?_
      refine j_sub C [1, 2, 0] rfl ?_
      exact ih x1 (x2 + 1) S1
def f_X7_clearStreaks (x1 : Int32) (S : St) : Option (St) :=
  f_X7_clearStreaks_2 FU x1 0 S
set_option maxHeartbeats 1000000 in
theorem m_X7_clearStreaks (adr : Nat → Nat) (x1 : Int32) : MtV yX7_clearStreaks cX7_clearStreaks 3 none rm_X7_clearStreaks adr [.ref (adr 42), .int x1] (f_X7_clearStreaks x1) := by
  refine MtV.of (by decide +kernel) (Nat.le_of_ble_eq_true rfl) (fun K r S C hR => ?_)
  refine j_start (lv' := [(0, .ref (adr 42)), (1, .int x1)]) rfl ?_
  unfold f_X7_clearStreaks
  refine j_iconst C dX7_clearStreaks_0 (v := 0) rfl ?_
  refine j_istore_n C dX7_clearStreaks_1 rfl (by decide) rfl ?_
  refine j_sub C [1, 2, 0] rfl ?_
  exact b_X7_clearStreaks_2 C hR FU x1 0 S
