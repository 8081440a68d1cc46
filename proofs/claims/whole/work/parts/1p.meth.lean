-- X9_hears
abbrev rm_X9_hears : Room := { frames := 4, cells := 0, slots := 0, locals := 100 }
def f_X9_hears_267 (x9 : Int32) (S : St) : Option (Int32 × St) :=
    bdV (f_X9_serves S) fun S44 =>
    some (x9, S44)
set_option maxHeartbeats 1000000 in
theorem b_X9_hears_267 {K : Kt} {adr : Nat → Nat} {r : Int32 × St} (C : Cx K cX9_hears RX9 10 adr rm_X9_hears) (hR : ∀ (pc : Nat) (lv : List (Nat × Value)), decode cX9_hears pc = .ok (.ireturn, 1) → K pc lv [.int r.1] r.2) (x9 : Int32) (S : St) : J K r (f_X9_hears_267 x9 S) 267 [(0, .ref (adr 27)), (9, .int x9)] [] S := by
    unfold f_X9_hears_267
    refine j_aload_n C dX9_hears_267 0 rfl rfl ?_
    refine j_cvv C dX9_hears_268 lk_X9_229 mw_X9_serves (m_X9_serves adr ) ⟨rfl, rfl, Nat.le_of_ble_eq_true rfl, Nat.le_of_ble_eq_true rfl⟩ kd_27 (by decide) (Nat.le_of_ble_eq_true rfl) rfl rfl (st := []) (st0 := [.ref (adr 27)]) rfl (Nat.le_of_ble_eq_true rfl) (fun S44 => ?_)
    refine j_iload C dX9_hears_271 1 rfl ?_
    exact j_iret hR dX9_hears_273
def f_X9_hears_221 (x1 : Int32) (x6 : Int32) (s0 : Int32) (S : St) : Option (Int32 × St) :=
    if s0 = 1 then (f_X9_hears_267 s0 S)
    else (bd (f_X9_get x1 (10 + x6) S) fun v41 S40 =>
      ck 4 6 (if (64 * (S40.1 35 (4 : Int32).toNatClampNeg)) ≤ v41 then (f_X9_hears_267 s0 S40)
      else (bdV (f_X9_counts x6 11 S40) fun S42 =>
        bdV (f_X9_leaves x1 S42) fun S43 =>
        f_X9_hears_267 4 S43)))
set_option maxHeartbeats 1000000 in
theorem b_X9_hears_221 {K : Kt} {adr : Nat → Nat} {r : Int32 × St} (C : Cx K cX9_hears RX9 10 adr rm_X9_hears) (hR : ∀ (pc : Nat) (lv : List (Nat × Value)), decode cX9_hears pc = .ok (.ireturn, 1) → K pc lv [.int r.1] r.2) (x1 : Int32) (x6 : Int32) (s0 : Int32) (S : St) : J K r (f_X9_hears_221 x1 x6 s0 S) 221 [(0, .ref (adr 27)), (1, .int x1), (6, .int x6)] [.int s0] S := by
    unfold f_X9_hears_221
    refine j_istore C dX9_hears_221 (by decide) rfl ?_
    refine j_iload C dX9_hears_223 0 rfl ?_
    refine j_iconst C dX9_hears_225 (v := 1) rfl ?_
    refine j_icmp_eq C dX9_hears_226 (tgt := 267) (by decide) ?_ ?_
    · refine j_sub C [1, 0] rfl ?_
      exact b_X9_hears_267 C hR s0 S
    · refine j_aload_n C dX9_hears_229 1 rfl rfl ?_
      refine j_iload_n C dX9_hears_230 2 rfl rfl ?_
      refine j_bipush C dX9_hears_231 (v := 10) rfl ?_
      refine j_iload C dX9_hears_233 3 rfl ?_
      refine j_iadd C dX9_hears_235 ?_
      refine j_cvi C dX9_hears_236 lk_X9_141 mw_X9_get (m_X9_get adr x1 (10 + x6)) ⟨rfl, rfl, Nat.le_of_ble_eq_true rfl, Nat.le_of_ble_eq_true rfl⟩ kd_27 (by decide) (Nat.le_of_ble_eq_true rfl) rfl rfl (st := []) (st0 := [.int (10 + x6), .int x1, .ref (adr 27)]) rfl (Nat.le_of_ble_eq_true rfl) (fun v41 S40 => ?_)
      refine j_bipush C dX9_hears_239 (v := 64) rfl ?_
      refine j_aload_n C dX9_hears_241 1 rfl rfl ?_
      refine j_getr C dX9_hears_242 fl_X9_32 kd_27 (by decide) (Nat.le_of_ble_eq_true rfl) rfl ?_
      refine j_iconst C dX9_hears_245 (v := 4) rfl ?_
      refine j_iald C dX9_hears_246 kd_35 (Nat.le_of_ble_eq_true rfl) ?_
      refine j_imul C dX9_hears_247 ?_
      refine j_icmp_ge C dX9_hears_248 (tgt := 267) (by decide) ?_ ?_
      · refine j_sub C [1, 0] rfl ?_
        exact b_X9_hears_267 C hR s0 S40
      · refine j_aload_n C dX9_hears_251 1 rfl rfl ?_
        refine j_iload C dX9_hears_252 3 rfl ?_
        refine j_bipush C dX9_hears_254 (v := 11) rfl ?_
        refine j_cvv C dX9_hears_256 lk_X9_170 mw_X9_counts (m_X9_counts adr x6 11) ⟨rfl, rfl, Nat.le_of_ble_eq_true rfl, Nat.le_of_ble_eq_true rfl⟩ kd_27 (by decide) (Nat.le_of_ble_eq_true rfl) rfl rfl (st := []) (st0 := [.int 11, .int x6, .ref (adr 27)]) rfl (Nat.le_of_ble_eq_true rfl) (fun S42 => ?_)
        refine j_aload_n C dX9_hears_259 1 rfl rfl ?_
        refine j_iload_n C dX9_hears_260 2 rfl rfl ?_
        refine j_cvv C dX9_hears_261 lk_X9_226 mw_X9_leaves (m_X9_leaves adr x1) ⟨rfl, rfl, Nat.le_of_ble_eq_true rfl, Nat.le_of_ble_eq_true rfl⟩ kd_27 (by decide) (Nat.le_of_ble_eq_true rfl) rfl rfl (st := []) (st0 := [.int x1, .ref (adr 27)]) rfl (Nat.le_of_ble_eq_true rfl) (fun S43 => ?_)
        refine j_iconst C dX9_hears_264 (v := 4) rfl ?_
        refine j_istore C dX9_hears_265 (by decide) rfl ?_
        refine j_sub C [1, 0] rfl ?_
        exact b_X9_hears_267 C hR 4 S43
def f_X9_hears_183 (x1 : Int32) (x6 : Int32) (x8 : Int32) (S : St) : Option (Int32 × St) :=
    lt (upI S 27 26 0) fun S35 =>
    if x8 = (-9) then (f_X9_hears_221 x1 x6 0 S35)
    else (bd (f_X9_get x1 2 S35) fun v37 S36 =>
      if v37 = x8 then (f_X9_hears_221 x1 x6 2 S36)
      else (bd (f_X9_asks x1 x8 S36) fun v39 S38 =>
        f_X9_hears_221 x1 x6 v39 S38))
set_option maxHeartbeats 1000000 in
theorem b_X9_hears_183 {K : Kt} {adr : Nat → Nat} {r : Int32 × St} (C : Cx K cX9_hears RX9 10 adr rm_X9_hears) (hR : ∀ (pc : Nat) (lv : List (Nat × Value)), decode cX9_hears pc = .ok (.ireturn, 1) → K pc lv [.int r.1] r.2) (x1 : Int32) (x6 : Int32) (x8 : Int32) (S : St) : J K r (f_X9_hears_183 x1 x6 x8 S) 183 [(0, .ref (adr 27)), (1, .int x1), (6, .int x6), (8, .int x8)] [] S := by
    unfold f_X9_hears_183
    refine j_aload_n C dX9_hears_183 0 rfl rfl ?_
    refine j_iconst C dX9_hears_184 (v := 0) rfl ?_
    refine j_puti C dX9_hears_185 fl_X9_189 fi_X9_26 kd_27 (by decide) (Nat.le_of_ble_eq_true rfl) rfl (fun S35 => ?_)
    refine j_iload C dX9_hears_188 3 rfl ?_
    refine j_bipush C dX9_hears_190 (v := -9) rfl ?_
    refine j_icmp_ne C dX9_hears_192 (tgt := 199) (by decide) ?_ ?_
    · refine j_aload_n C dX9_hears_199 0 rfl rfl ?_
      refine j_iload_n C dX9_hears_200 1 rfl rfl ?_
      refine j_iconst C dX9_hears_201 (v := 2) rfl ?_
      refine j_cvi C dX9_hears_202 lk_X9_141 mw_X9_get (m_X9_get adr x1 2) ⟨rfl, rfl, Nat.le_of_ble_eq_true rfl, Nat.le_of_ble_eq_true rfl⟩ kd_27 (by decide) (Nat.le_of_ble_eq_true rfl) rfl rfl (st := []) (st0 := [.int 2, .int x1, .ref (adr 27)]) rfl (Nat.le_of_ble_eq_true rfl) (fun v37 S36 => ?_)
      refine j_iload C dX9_hears_205 3 rfl ?_
      refine j_icmp_ne C dX9_hears_207 (tgt := 214) (by decide) ?_ ?_
      · refine j_aload_n C dX9_hears_214 0 rfl rfl ?_
        refine j_iload_n C dX9_hears_215 1 rfl rfl ?_
        refine j_iload C dX9_hears_216 3 rfl ?_
        refine j_cvi C dX9_hears_218 lk_X9_223 mw_X9_asks (m_X9_asks adr x1 x8) ⟨rfl, rfl, Nat.le_of_ble_eq_true rfl, Nat.le_of_ble_eq_true rfl⟩ kd_27 (by decide) (Nat.le_of_ble_eq_true rfl) rfl rfl (st := []) (st0 := [.int x8, .int x1, .ref (adr 27)]) rfl (Nat.le_of_ble_eq_true rfl) (fun v39 S38 => ?_)
        refine j_sub C [0, 1, 2] rfl ?_
        exact b_X9_hears_221 C hR x1 x6 v39 S38
      · refine j_iconst C dX9_hears_210 (v := 2) rfl ?_
        refine j_goto C dX9_hears_211 (tgt := 221) (by decide) ?_
        refine j_sub C [0, 1, 2] rfl ?_
        exact b_X9_hears_221 C hR x1 x6 2 S36
    · refine j_iconst C dX9_hears_195 (v := 0) rfl ?_
      refine j_goto C dX9_hears_196 (tgt := 221) (by decide) ?_
      refine j_sub C [0, 1, 2] rfl ?_
      exact b_X9_hears_221 C hR x1 x6 0 S35
def f_X9_hears_46  (S : St) : Option (Int32 × St) :=
    some ((-1), S)
set_option maxHeartbeats 1000000 in
theorem b_X9_hears_46 {K : Kt} {adr : Nat → Nat} {r : Int32 × St} (C : Cx K cX9_hears RX9 10 adr rm_X9_hears) (hR : ∀ (pc : Nat) (lv : List (Nat × Value)), decode cX9_hears pc = .ok (.ireturn, 1) → K pc lv [.int r.1] r.2)  (S : St) : J K r (f_X9_hears_46  S) 46 [] [] S := by
    unfold f_X9_hears_46
    refine j_iconst C dX9_hears_46 (v := -1) rfl ?_
    exact j_iret hR dX9_hears_47
def f_X9_hears (x1 : Int32) (x2 : Int32) (x3 : Int32) (x4 : Int32) (x5 : Int32) (S : St) : Option (Int32 × St) :=
  bd (f_X9_isCall x1 S) fun v2 S1 =>
  if v2 = 0 then (f_X9_hears_46 S1)
  else (bd (f_X9_isValue 0 x2 S1) fun v4 S3 =>
    if v4 = 0 then (f_X9_hears_46 S3)
    else (bd (f_X9_isValue 1 x3 S3) fun v6 S5 =>
      if v6 = 0 then (f_X9_hears_46 S5)
      else (bd (f_X9_isValue 2 x4 S5) fun v8 S7 =>
        if v8 = 0 then (f_X9_hears_46 S7)
        else (bd (f_X9_isValue 3 x5 S7) fun v10 S9 =>
          if v10 = 0 then (f_X9_hears_46 S9)
          else (bdV (f_X9_minds S9) fun S11 =>
            bd (f_X9_get x1 1 S11) fun v13 S12 =>
            bd (f_X9_get x1 (10 + v13) S12) fun v15 S14 =>
            bdV (f_X9_listens x1 0 x2 S14) fun S16 =>
            bdV (f_X9_listens x1 1 x3 S16) fun S17 =>
            bdV (f_X9_listens x1 2 x4 S17) fun S18 =>
            bdV (f_X9_listens x1 3 x5 S18) fun S19 =>
            bd (f_X9_get x1 4 S19) fun v21 S20 =>
            bdV (f_X9_set x1 4 (v21 + 1) S20) fun S22 =>
            bd (f_X9_get x1 9 S22) fun v24 S23 =>
            bdV (f_X9_set x1 9 (v24 + 1) S23) fun S25 =>
            bd (f_X9_get x1 (10 + v13) S25) fun v27 S26 =>
            bdV (f_X9_set x1 7 (v15 - v27) S26) fun S28 =>
            bdV (f_X9_streaks x1 S28) fun S29 =>
            bd (f_X9_target x1 S29) fun v31 S30 =>
            bd (f_X9_get x1 2 S30) fun v33 S32 =>
            if v33 = v31 then (f_X9_hears_183 x1 v13 v31 S32)
            else (bdV (f_X9_set x1 2 (-9) S32) fun S34 =>
              f_X9_hears_183 x1 v13 v31 S34))))))
set_option maxHeartbeats 1000000 in
theorem m_X9_hears (adr : Nat → Nat) (x1 : Int32) (x2 : Int32) (x3 : Int32) (x4 : Int32) (x5 : Int32) : MtI yX9_hears cX9_hears 10 (some .int) rm_X9_hears adr [.ref (adr 27), .int x1, .int x2, .int x3, .int x4, .int x5] (f_X9_hears x1 x2 x3 x4 x5) := by
  refine MtI.of (by decide +kernel) (Nat.le_of_ble_eq_true rfl) (fun K r S C hR => ?_)
  refine j_start (lv' := [(0, .ref (adr 27)), (1, .int x1), (2, .int x2), (3, .int x3), (4, .int x4), (5, .int x5)]) rfl ?_
  unfold f_X9_hears
  refine j_aload_n C dX9_hears_0 0 rfl rfl ?_
  refine j_iload_n C dX9_hears_1 1 rfl rfl ?_
  refine j_cvi C dX9_hears_2 lk_X9_208 mw_X9_isCall (m_X9_isCall adr x1) ⟨rfl, rfl, Nat.le_of_ble_eq_true rfl, Nat.le_of_ble_eq_true rfl⟩ kd_27 (by decide) (Nat.le_of_ble_eq_true rfl) rfl rfl (st := []) (st0 := [.int x1, .ref (adr 27)]) rfl (Nat.le_of_ble_eq_true rfl) (fun v2 S1 => ?_)
  refine j_if_eq C dX9_hears_5 (tgt := 46) (by decide) ?_ ?_
  · refine j_sub C [] rfl ?_
    exact b_X9_hears_46 C hR S1
  · refine j_aload_n C dX9_hears_8 0 rfl rfl ?_
    refine j_iconst C dX9_hears_9 (v := 0) rfl ?_
    refine j_iload_n C dX9_hears_10 2 rfl rfl ?_
    refine j_cvi C dX9_hears_11 lk_X9_211 mw_X9_isValue (m_X9_isValue adr 0 x2) ⟨rfl, rfl, Nat.le_of_ble_eq_true rfl, Nat.le_of_ble_eq_true rfl⟩ kd_27 (by decide) (Nat.le_of_ble_eq_true rfl) rfl rfl (st := []) (st0 := [.int x2, .int 0, .ref (adr 27)]) rfl (Nat.le_of_ble_eq_true rfl) (fun v4 S3 => ?_)
    refine j_if_eq C dX9_hears_14 (tgt := 46) (by decide) ?_ ?_
    · refine j_sub C [] rfl ?_
      exact b_X9_hears_46 C hR S3
    · refine j_aload_n C dX9_hears_17 0 rfl rfl ?_
      refine j_iconst C dX9_hears_18 (v := 1) rfl ?_
      refine j_iload_n C dX9_hears_19 3 rfl rfl ?_
      refine j_cvi C dX9_hears_20 lk_X9_211 mw_X9_isValue (m_X9_isValue adr 1 x3) ⟨rfl, rfl, Nat.le_of_ble_eq_true rfl, Nat.le_of_ble_eq_true rfl⟩ kd_27 (by decide) (Nat.le_of_ble_eq_true rfl) rfl rfl (st := []) (st0 := [.int x3, .int 1, .ref (adr 27)]) rfl (Nat.le_of_ble_eq_true rfl) (fun v6 S5 => ?_)
      refine j_if_eq C dX9_hears_23 (tgt := 46) (by decide) ?_ ?_
      · refine j_sub C [] rfl ?_
        exact b_X9_hears_46 C hR S5
      · refine j_aload_n C dX9_hears_26 0 rfl rfl ?_
        refine j_iconst C dX9_hears_27 (v := 2) rfl ?_
        refine j_iload C dX9_hears_28 4 rfl ?_
        refine j_cvi C dX9_hears_30 lk_X9_211 mw_X9_isValue (m_X9_isValue adr 2 x4) ⟨rfl, rfl, Nat.le_of_ble_eq_true rfl, Nat.le_of_ble_eq_true rfl⟩ kd_27 (by decide) (Nat.le_of_ble_eq_true rfl) rfl rfl (st := []) (st0 := [.int x4, .int 2, .ref (adr 27)]) rfl (Nat.le_of_ble_eq_true rfl) (fun v8 S7 => ?_)
        refine j_if_eq C dX9_hears_33 (tgt := 46) (by decide) ?_ ?_
        · refine j_sub C [] rfl ?_
          exact b_X9_hears_46 C hR S7
        · refine j_aload_n C dX9_hears_36 0 rfl rfl ?_
          refine j_iconst C dX9_hears_37 (v := 3) rfl ?_
          refine j_iload C dX9_hears_38 5 rfl ?_
          refine j_cvi C dX9_hears_40 lk_X9_211 mw_X9_isValue (m_X9_isValue adr 3 x5) ⟨rfl, rfl, Nat.le_of_ble_eq_true rfl, Nat.le_of_ble_eq_true rfl⟩ kd_27 (by decide) (Nat.le_of_ble_eq_true rfl) rfl rfl (st := []) (st0 := [.int x5, .int 3, .ref (adr 27)]) rfl (Nat.le_of_ble_eq_true rfl) (fun v10 S9 => ?_)
          refine j_if_ne C dX9_hears_43 (tgt := 48) (by decide) ?_ ?_
          · refine j_aload_n C dX9_hears_48 0 rfl rfl ?_
            refine j_cvv C dX9_hears_49 lk_X9_167 mw_X9_minds (m_X9_minds adr ) ⟨rfl, rfl, Nat.le_of_ble_eq_true rfl, Nat.le_of_ble_eq_true rfl⟩ kd_27 (by decide) (Nat.le_of_ble_eq_true rfl) rfl rfl (st := []) (st0 := [.ref (adr 27)]) rfl (Nat.le_of_ble_eq_true rfl) (fun S11 => ?_)
            refine j_aload_n C dX9_hears_52 0 rfl rfl ?_
            refine j_iload_n C dX9_hears_53 1 rfl rfl ?_
            refine j_iconst C dX9_hears_54 (v := 1) rfl ?_
            refine j_cvi C dX9_hears_55 lk_X9_141 mw_X9_get (m_X9_get adr x1 1) ⟨rfl, rfl, Nat.le_of_ble_eq_true rfl, Nat.le_of_ble_eq_true rfl⟩ kd_27 (by decide) (Nat.le_of_ble_eq_true rfl) rfl rfl (st := []) (st0 := [.int 1, .int x1, .ref (adr 27)]) rfl (Nat.le_of_ble_eq_true rfl) (fun v13 S12 => ?_)
            refine j_istore C dX9_hears_58 (by decide) rfl ?_
            refine j_aload_n C dX9_hears_60 1 rfl rfl ?_
            refine j_iload_n C dX9_hears_61 2 rfl rfl ?_
            refine j_bipush C dX9_hears_62 (v := 10) rfl ?_
            refine j_iload C dX9_hears_64 0 rfl ?_
            refine j_iadd C dX9_hears_66 ?_
            refine j_cvi C dX9_hears_67 lk_X9_141 mw_X9_get (m_X9_get adr x1 (10 + v13)) ⟨rfl, rfl, Nat.le_of_ble_eq_true rfl, Nat.le_of_ble_eq_true rfl⟩ kd_27 (by decide) (Nat.le_of_ble_eq_true rfl) rfl rfl (st := []) (st0 := [.int (10 + v13), .int x1, .ref (adr 27)]) rfl (Nat.le_of_ble_eq_true rfl) (fun v15 S14 => ?_)
            refine j_istore C dX9_hears_70 (by decide) rfl ?_
            refine j_aload_n C dX9_hears_72 2 rfl rfl ?_
            refine j_iload_n C dX9_hears_73 3 rfl rfl ?_
            refine j_iconst C dX9_hears_74 (v := 0) rfl ?_
            refine j_iload_n C dX9_hears_75 4 rfl rfl ?_
            refine j_cvv C dX9_hears_76 lk_X9_214 mw_X9_listens (m_X9_listens adr x1 0 x2) ⟨rfl, rfl, Nat.le_of_ble_eq_true rfl, Nat.le_of_ble_eq_true rfl⟩ kd_27 (by decide) (Nat.le_of_ble_eq_true rfl) rfl rfl (st := []) (st0 := [.int x2, .int 0, .int x1, .ref (adr 27)]) rfl (Nat.le_of_ble_eq_true rfl) (fun S16 => ?_)
            refine j_aload_n C dX9_hears_79 2 rfl rfl ?_
            refine j_iload_n C dX9_hears_80 3 rfl rfl ?_
            refine j_iconst C dX9_hears_81 (v := 1) rfl ?_
            refine j_iload_n C dX9_hears_82 5 rfl rfl ?_
            refine j_cvv C dX9_hears_83 lk_X9_214 mw_X9_listens (m_X9_listens adr x1 1 x3) ⟨rfl, rfl, Nat.le_of_ble_eq_true rfl, Nat.le_of_ble_eq_true rfl⟩ kd_27 (by decide) (Nat.le_of_ble_eq_true rfl) rfl rfl (st := []) (st0 := [.int x3, .int 1, .int x1, .ref (adr 27)]) rfl (Nat.le_of_ble_eq_true rfl) (fun S17 => ?_)
            refine j_aload_n C dX9_hears_86 2 rfl rfl ?_
            refine j_iload_n C dX9_hears_87 3 rfl rfl ?_
            refine j_iconst C dX9_hears_88 (v := 2) rfl ?_
            refine j_iload C dX9_hears_89 6 rfl ?_
            refine j_cvv C dX9_hears_91 lk_X9_214 mw_X9_listens (m_X9_listens adr x1 2 x4) ⟨rfl, rfl, Nat.le_of_ble_eq_true rfl, Nat.le_of_ble_eq_true rfl⟩ kd_27 (by decide) (Nat.le_of_ble_eq_true rfl) rfl rfl (st := []) (st0 := [.int x4, .int 2, .int x1, .ref (adr 27)]) rfl (Nat.le_of_ble_eq_true rfl) (fun S18 => ?_)
            refine j_aload_n C dX9_hears_94 2 rfl rfl ?_
            refine j_iload_n C dX9_hears_95 3 rfl rfl ?_
            refine j_iconst C dX9_hears_96 (v := 3) rfl ?_
            refine j_iload C dX9_hears_97 7 rfl ?_
            refine j_cvv C dX9_hears_99 lk_X9_214 mw_X9_listens (m_X9_listens adr x1 3 x5) ⟨rfl, rfl, Nat.le_of_ble_eq_true rfl, Nat.le_of_ble_eq_true rfl⟩ kd_27 (by decide) (Nat.le_of_ble_eq_true rfl) rfl rfl (st := []) (st0 := [.int x5, .int 3, .int x1, .ref (adr 27)]) rfl (Nat.le_of_ble_eq_true rfl) (fun S19 => ?_)
            refine j_aload_n C dX9_hears_102 2 rfl rfl ?_
            refine j_iload_n C dX9_hears_103 3 rfl rfl ?_
            refine j_iconst C dX9_hears_104 (v := 4) rfl ?_
            refine j_aload_n C dX9_hears_105 2 rfl rfl ?_
            refine j_iload_n C dX9_hears_106 3 rfl rfl ?_
            refine j_iconst C dX9_hears_107 (v := 4) rfl ?_
            refine j_cvi C dX9_hears_108 lk_X9_141 mw_X9_get (m_X9_get adr x1 4) ⟨rfl, rfl, Nat.le_of_ble_eq_true rfl, Nat.le_of_ble_eq_true rfl⟩ kd_27 (by decide) (Nat.le_of_ble_eq_true rfl) rfl rfl (st := [.int 4, .int x1, .ref (adr 27)]) (st0 := [.int 4, .int x1, .ref (adr 27), .int 4, .int x1, .ref (adr 27)]) rfl (Nat.le_of_ble_eq_true rfl) (fun v21 S20 => ?_)
            refine j_iconst C dX9_hears_111 (v := 1) rfl ?_
            refine j_iadd C dX9_hears_112 ?_
            refine j_cvv C dX9_hears_113 lk_X9_179 mw_X9_set (m_X9_set adr x1 4 (v21 + 1)) ⟨rfl, rfl, Nat.le_of_ble_eq_true rfl, Nat.le_of_ble_eq_true rfl⟩ kd_27 (by decide) (Nat.le_of_ble_eq_true rfl) rfl rfl (st := []) (st0 := [.int (v21 + 1), .int 4, .int x1, .ref (adr 27)]) rfl (Nat.le_of_ble_eq_true rfl) (fun S22 => ?_)
            refine j_aload_n C dX9_hears_116 2 rfl rfl ?_
            refine j_iload_n C dX9_hears_117 3 rfl rfl ?_
            refine j_bipush C dX9_hears_118 (v := 9) rfl ?_
            refine j_aload_n C dX9_hears_120 2 rfl rfl ?_
            refine j_iload_n C dX9_hears_121 3 rfl rfl ?_
            refine j_bipush C dX9_hears_122 (v := 9) rfl ?_
            refine j_cvi C dX9_hears_124 lk_X9_141 mw_X9_get (m_X9_get adr x1 9) ⟨rfl, rfl, Nat.le_of_ble_eq_true rfl, Nat.le_of_ble_eq_true rfl⟩ kd_27 (by decide) (Nat.le_of_ble_eq_true rfl) rfl rfl (st := [.int 9, .int x1, .ref (adr 27)]) (st0 := [.int 9, .int x1, .ref (adr 27), .int 9, .int x1, .ref (adr 27)]) rfl (Nat.le_of_ble_eq_true rfl) (fun v24 S23 => ?_)
            refine j_iconst C dX9_hears_127 (v := 1) rfl ?_
            refine j_iadd C dX9_hears_128 ?_
            refine j_cvv C dX9_hears_129 lk_X9_179 mw_X9_set (m_X9_set adr x1 9 (v24 + 1)) ⟨rfl, rfl, Nat.le_of_ble_eq_true rfl, Nat.le_of_ble_eq_true rfl⟩ kd_27 (by decide) (Nat.le_of_ble_eq_true rfl) rfl rfl (st := []) (st0 := [.int (v24 + 1), .int 9, .int x1, .ref (adr 27)]) rfl (Nat.le_of_ble_eq_true rfl) (fun S25 => ?_)
            refine j_aload_n C dX9_hears_132 2 rfl rfl ?_
            refine j_iload_n C dX9_hears_133 3 rfl rfl ?_
            refine j_bipush C dX9_hears_134 (v := 7) rfl ?_
            refine j_iload C dX9_hears_136 0 rfl ?_
            refine j_aload_n C dX9_hears_138 2 rfl rfl ?_
            refine j_iload_n C dX9_hears_139 3 rfl rfl ?_
            refine j_bipush C dX9_hears_140 (v := 10) rfl ?_
            refine j_iload C dX9_hears_142 1 rfl ?_
            refine j_iadd C dX9_hears_144 ?_
            refine j_cvi C dX9_hears_145 lk_X9_141 mw_X9_get (m_X9_get adr x1 (10 + v13)) ⟨rfl, rfl, Nat.le_of_ble_eq_true rfl, Nat.le_of_ble_eq_true rfl⟩ kd_27 (by decide) (Nat.le_of_ble_eq_true rfl) rfl rfl (st := [.int v15, .int 7, .int x1, .ref (adr 27)]) (st0 := [.int (10 + v13), .int x1, .ref (adr 27), .int v15, .int 7, .int x1, .ref (adr 27)]) rfl (Nat.le_of_ble_eq_true rfl) (fun v27 S26 => ?_)
            refine j_isub C dX9_hears_148 ?_
            refine j_cvv C dX9_hears_149 lk_X9_179 mw_X9_set (m_X9_set adr x1 7 (v15 - v27)) ⟨rfl, rfl, Nat.le_of_ble_eq_true rfl, Nat.le_of_ble_eq_true rfl⟩ kd_27 (by decide) (Nat.le_of_ble_eq_true rfl) rfl rfl (st := []) (st0 := [.int (v15 - v27), .int 7, .int x1, .ref (adr 27)]) rfl (Nat.le_of_ble_eq_true rfl) (fun S28 => ?_)
            refine j_aload_n C dX9_hears_152 2 rfl rfl ?_
            refine j_iload_n C dX9_hears_153 3 rfl rfl ?_
            refine j_cvv C dX9_hears_154 lk_X9_217 mw_X9_streaks (m_X9_streaks adr x1) ⟨rfl, rfl, Nat.le_of_ble_eq_true rfl, Nat.le_of_ble_eq_true rfl⟩ kd_27 (by decide) (Nat.le_of_ble_eq_true rfl) rfl rfl (st := []) (st0 := [.int x1, .ref (adr 27)]) rfl (Nat.le_of_ble_eq_true rfl) (fun S29 => ?_)
            refine j_aload_n C dX9_hears_157 2 rfl rfl ?_
            refine j_iload_n C dX9_hears_158 3 rfl rfl ?_
            refine j_cvi C dX9_hears_159 lk_X9_220 mw_X9_target (m_X9_target adr x1) ⟨rfl, rfl, Nat.le_of_ble_eq_true rfl, Nat.le_of_ble_eq_true rfl⟩ kd_27 (by decide) (Nat.le_of_ble_eq_true rfl) rfl rfl (st := []) (st0 := [.int x1, .ref (adr 27)]) rfl (Nat.le_of_ble_eq_true rfl) (fun v31 S30 => ?_)
            refine j_istore C dX9_hears_162 (by decide) rfl ?_
            refine j_aload_n C dX9_hears_164 3 rfl rfl ?_
            refine j_iload_n C dX9_hears_165 4 rfl rfl ?_
            refine j_iconst C dX9_hears_166 (v := 2) rfl ?_
            refine j_cvi C dX9_hears_167 lk_X9_141 mw_X9_get (m_X9_get adr x1 2) ⟨rfl, rfl, Nat.le_of_ble_eq_true rfl, Nat.le_of_ble_eq_true rfl⟩ kd_27 (by decide) (Nat.le_of_ble_eq_true rfl) rfl rfl (st := []) (st0 := [.int 2, .int x1, .ref (adr 27)]) rfl (Nat.le_of_ble_eq_true rfl) (fun v33 S32 => ?_)
            refine j_iload C dX9_hears_170 0 rfl ?_
            refine j_icmp_eq C dX9_hears_172 (tgt := 183) (by decide) ?_ ?_
            · refine j_sub C [3, 4, 2, 0] rfl ?_
              exact b_X9_hears_183 C hR x1 v13 v31 S32
            · refine j_aload_n C dX9_hears_175 3 rfl rfl ?_
              refine j_iload_n C dX9_hears_176 4 rfl rfl ?_
              refine j_iconst C dX9_hears_177 (v := 2) rfl ?_
              refine j_bipush C dX9_hears_178 (v := -9) rfl ?_
              refine j_cvv C dX9_hears_180 lk_X9_179 mw_X9_set (m_X9_set adr x1 2 (-9)) ⟨rfl, rfl, Nat.le_of_ble_eq_true rfl, Nat.le_of_ble_eq_true rfl⟩ kd_27 (by decide) (Nat.le_of_ble_eq_true rfl) rfl rfl (st := []) (st0 := [.int (-9), .int 2, .int x1, .ref (adr 27)]) rfl (Nat.le_of_ble_eq_true rfl) (fun S34 => ?_)
              refine j_sub C [3, 4, 2, 0] rfl ?_
              exact b_X9_hears_183 C hR x1 v13 v31 S34
          · refine j_sub C [] rfl ?_
            exact b_X9_hears_46 C hR S9
-- X9_ends
abbrev rm_X9_ends : Room := { frames := 4, cells := 0, slots := 0, locals := 100 }
def f_X9_ends (x1 : Int32) (S : St) : Option (Int32 × St) :=
  bd (f_X9_isCall x1 S) fun v2 S1 =>
  if v2 = 0 then (some ((-1), S1))
  else (bdV (f_X9_minds S1) fun S3 =>
    lt (upI S3 27 26 0) fun S4 =>
    bdV (f_X9_leaves x1 S4) fun S5 =>
    bdV (f_X9_serves S5) fun S6 =>
    some (S6.1 27 26, S6))
set_option maxHeartbeats 1000000 in
theorem m_X9_ends (adr : Nat → Nat) (x1 : Int32) : MtI yX9_ends cX9_ends 2 (some .int) rm_X9_ends adr [.ref (adr 27), .int x1] (f_X9_ends x1) := by
  refine MtI.of (by decide +kernel) (Nat.le_of_ble_eq_true rfl) (fun K r S C hR => ?_)
  refine j_start (lv' := [(0, .ref (adr 27)), (1, .int x1)]) rfl ?_
  unfold f_X9_ends
  refine j_aload_n C dX9_ends_0 0 rfl rfl ?_
  refine j_iload_n C dX9_ends_1 1 rfl rfl ?_
  refine j_cvi C dX9_ends_2 lk_X9_208 mw_X9_isCall (m_X9_isCall adr x1) ⟨rfl, rfl, Nat.le_of_ble_eq_true rfl, Nat.le_of_ble_eq_true rfl⟩ kd_27 (by decide) (Nat.le_of_ble_eq_true rfl) rfl rfl (st := []) (st0 := [.int x1, .ref (adr 27)]) rfl (Nat.le_of_ble_eq_true rfl) (fun v2 S1 => ?_)
  refine j_if_ne C dX9_ends_5 (tgt := 10) (by decide) ?_ ?_
  · refine j_aload_n C dX9_ends_10 0 rfl rfl ?_
    refine j_cvv C dX9_ends_11 lk_X9_167 mw_X9_minds (m_X9_minds adr ) ⟨rfl, rfl, Nat.le_of_ble_eq_true rfl, Nat.le_of_ble_eq_true rfl⟩ kd_27 (by decide) (Nat.le_of_ble_eq_true rfl) rfl rfl (st := []) (st0 := [.ref (adr 27)]) rfl (Nat.le_of_ble_eq_true rfl) (fun S3 => ?_)
    refine j_aload_n C dX9_ends_14 0 rfl rfl ?_
    refine j_iconst C dX9_ends_15 (v := 0) rfl ?_
    refine j_puti C dX9_ends_16 fl_X9_189 fi_X9_26 kd_27 (by decide) (Nat.le_of_ble_eq_true rfl) rfl (fun S4 => ?_)
    refine j_aload_n C dX9_ends_19 0 rfl rfl ?_
    refine j_iload_n C dX9_ends_20 1 rfl rfl ?_
    refine j_cvv C dX9_ends_21 lk_X9_226 mw_X9_leaves (m_X9_leaves adr x1) ⟨rfl, rfl, Nat.le_of_ble_eq_true rfl, Nat.le_of_ble_eq_true rfl⟩ kd_27 (by decide) (Nat.le_of_ble_eq_true rfl) rfl rfl (st := []) (st0 := [.int x1, .ref (adr 27)]) rfl (Nat.le_of_ble_eq_true rfl) (fun S5 => ?_)
    refine j_aload_n C dX9_ends_24 0 rfl rfl ?_
    refine j_cvv C dX9_ends_25 lk_X9_229 mw_X9_serves (m_X9_serves adr ) ⟨rfl, rfl, Nat.le_of_ble_eq_true rfl, Nat.le_of_ble_eq_true rfl⟩ kd_27 (by decide) (Nat.le_of_ble_eq_true rfl) rfl rfl (st := []) (st0 := [.ref (adr 27)]) rfl (Nat.le_of_ble_eq_true rfl) (fun S6 => ?_)
    refine j_aload_n C dX9_ends_28 0 rfl rfl ?_
    refine j_geti C dX9_ends_29 fl_X9_189 kd_27 (by decide) (Nat.le_of_ble_eq_true rfl) rfl ?_
    exact j_iret hR dX9_ends_32
  · refine j_iconst C dX9_ends_8 (v := -1) rfl ?_
    exact j_iret hR dX9_ends_9
-- X9_guards
abbrev rm_X9_guards : Room := { frames := 2, cells := 0, slots := 0, locals := 46 }
def f_X9_guards_27  (S : St) : Option (Int32 × St) :=
    some ((-1), S)
set_option maxHeartbeats 1000000 in
theorem b_X9_guards_27 {K : Kt} {adr : Nat → Nat} {r : Int32 × St} (C : Cx K cX9_guards RX9 4 adr rm_X9_guards) (hR : ∀ (pc : Nat) (lv : List (Nat × Value)), decode cX9_guards pc = .ok (.ireturn, 1) → K pc lv [.int r.1] r.2)  (S : St) : J K r (f_X9_guards_27  S) 27 [] [] S := by
    unfold f_X9_guards_27
    refine j_iconst C dX9_guards_27 (v := -1) rfl ?_
    exact j_iret hR dX9_guards_28
def f_X9_guards (x1 : Int32) (x2 : Int32) (S : St) : Option (Int32 × St) :=
  bd (f_X9_isCell x1 S) fun v2 S1 =>
  if v2 = 0 then (f_X9_guards_27 S1)
  else (ck x1 4 (bd (f_X9_in x2.toInt64 0 ((10 * (S1.1 33 x1.toNatClampNeg)).toInt64) S1) fun v4 S3 =>
    if v4 = 0 then (f_X9_guards_27 S3)
    else (ck (216 + x1) 2547 (lt (S3.1 28 (216 + x1).toNatClampNeg) fun v5 =>
      if v5 = x2 then (some ((-2), S3))
      else (bdV (f_X9_minds S3) fun S6 =>
        ck (216 + x1) 2547 (lt (upI S6 28 (216 + x1).toNatClampNeg x2) fun S7 =>
        some (v5, S7)))))))
set_option maxHeartbeats 1000000 in
theorem m_X9_guards (adr : Nat → Nat) (x1 : Int32) (x2 : Int32) : MtI yX9_guards cX9_guards 4 (some .int) rm_X9_guards adr [.ref (adr 27), .int x1, .int x2] (f_X9_guards x1 x2) := by
  refine MtI.of (by decide +kernel) (Nat.le_of_ble_eq_true rfl) (fun K r S C hR => ?_)
  refine j_start (lv' := [(0, .ref (adr 27)), (1, .int x1), (2, .int x2)]) rfl ?_
  unfold f_X9_guards
  refine j_aload_n C dX9_guards_0 0 rfl rfl ?_
  refine j_iload_n C dX9_guards_1 1 rfl rfl ?_
  refine j_cvi C dX9_guards_2 lk_X9_158 mw_X9_isCell (m_X9_isCell adr x1) ⟨rfl, rfl, Nat.le_of_ble_eq_true rfl, Nat.le_of_ble_eq_true rfl⟩ kd_27 (by decide) (Nat.le_of_ble_eq_true rfl) rfl rfl (st := []) (st0 := [.int x1, .ref (adr 27)]) rfl (Nat.le_of_ble_eq_true rfl) (fun v2 S1 => ?_)
  refine j_if_eq C dX9_guards_5 (tgt := 27) (by decide) ?_ ?_
  · refine j_sub C [] rfl ?_
    exact b_X9_guards_27 C hR S1
  · refine j_iload_n C dX9_guards_8 2 rfl rfl ?_
    refine j_i2l C dX9_guards_9 ?_
    refine j_lconst C dX9_guards_10 (v := 0) rfl ?_
    refine j_bipush C dX9_guards_11 (v := 10) rfl ?_
    refine j_aload_n C dX9_guards_13 0 rfl rfl ?_
    refine j_getr C dX9_guards_14 fl_X9_26 kd_27 (by decide) (Nat.le_of_ble_eq_true rfl) rfl ?_
    refine j_iload_n C dX9_guards_17 1 rfl rfl ?_
    refine j_iald C dX9_guards_18 kd_33 (Nat.le_of_ble_eq_true rfl) ?_
    refine j_imul C dX9_guards_19 ?_
    refine j_i2l C dX9_guards_20 ?_
    refine j_csi C dX9_guards_21 lk_X9_66 mw_X9_in (m_X9_in adr x2.toInt64 0 ((10 * (S1.1 33 x1.toNatClampNeg)).toInt64)) ⟨rfl, rfl, Nat.le_of_ble_eq_true rfl, Nat.le_of_ble_eq_true rfl⟩ rfl (st := []) (st0 := [.long ((10 * (S1.1 33 x1.toNatClampNeg)).toInt64), .long 0, .long x2.toInt64]) rfl (Nat.le_of_ble_eq_true rfl) (fun v4 S3 => ?_)
    refine j_if_ne C dX9_guards_24 (tgt := 29) (by decide) ?_ ?_
    · refine j_aload_n C dX9_guards_29 0 rfl rfl ?_
      refine j_getr C dX9_guards_30 fl_X9_7 kd_27 (by decide) (Nat.le_of_ble_eq_true rfl) rfl ?_
      refine j_sipush C dX9_guards_33 (v := 216) rfl ?_
      refine j_iload_n C dX9_guards_36 1 rfl rfl ?_
      refine j_iadd C dX9_guards_37 ?_
      refine j_iald C dX9_guards_38 kd_28 (Nat.le_of_ble_eq_true rfl) ?_
      refine j_topi (fun v5 => ?_)
      refine j_istore_n C dX9_guards_39 rfl (by decide) rfl ?_
      refine j_iload_n C dX9_guards_40 0 rfl rfl ?_
      refine j_iload_n C dX9_guards_41 3 rfl rfl ?_
      refine j_icmp_ne C dX9_guards_42 (tgt := 48) (by decide) ?_ ?_
      · refine j_aload_n C dX9_guards_48 1 rfl rfl ?_
        refine j_cvv C dX9_guards_49 lk_X9_167 mw_X9_minds (m_X9_minds adr ) ⟨rfl, rfl, Nat.le_of_ble_eq_true rfl, Nat.le_of_ble_eq_true rfl⟩ kd_27 (by decide) (Nat.le_of_ble_eq_true rfl) rfl rfl (st := []) (st0 := [.ref (adr 27)]) rfl (Nat.le_of_ble_eq_true rfl) (fun S6 => ?_)
        refine j_aload_n C dX9_guards_52 1 rfl rfl ?_
        refine j_getr C dX9_guards_53 fl_X9_7 kd_27 (by decide) (Nat.le_of_ble_eq_true rfl) rfl ?_
        refine j_sipush C dX9_guards_56 (v := 216) rfl ?_
        refine j_iload_n C dX9_guards_59 2 rfl rfl ?_
        refine j_iadd C dX9_guards_60 ?_
        refine j_iload_n C dX9_guards_61 3 rfl rfl ?_
        refine j_iast C dX9_guards_62 kd_28 (Nat.le_of_ble_eq_true rfl) (fun S7 => ?_)
        refine j_iload_n C dX9_guards_63 0 rfl rfl ?_
        exact j_iret hR dX9_guards_64
      · refine j_bipush C dX9_guards_45 (v := -2) rfl ?_
        exact j_iret hR dX9_guards_47
    · refine j_sub C [] rfl ?_
      exact b_X9_guards_27 C hR S3
-- X9_seeds
abbrev rm_X9_seeds : Room := { frames := 0, cells := 0, slots := 0, locals := 0 }
def f_X9_seeds (x1 : Int32) (S : St) : Option (Int32 × St) :=
  ck 281 2547 (lt (S.1 28 (281 : Int32).toNatClampNeg) fun v1 =>
  ck 281 2547 (lt (upI S 28 (281 : Int32).toNatClampNeg x1) fun S2 =>
  some (v1, S2)))
set_option maxHeartbeats 1000000 in
theorem m_X9_seeds (adr : Nat → Nat) (x1 : Int32) : MtI yX9_seeds cX9_seeds 3 (some .int) rm_X9_seeds adr [.ref (adr 27), .int x1] (f_X9_seeds x1) := by
  refine MtI.of (by decide +kernel) (Nat.le_of_ble_eq_true rfl) (fun K r S C hR => ?_)
  refine j_start (lv' := [(0, .ref (adr 27)), (1, .int x1)]) rfl ?_
  unfold f_X9_seeds
  refine j_aload_n C dX9_seeds_0 0 rfl rfl ?_
  refine j_getr C dX9_seeds_1 fl_X9_7 kd_27 (by decide) (Nat.le_of_ble_eq_true rfl) rfl ?_
  refine j_sipush C dX9_seeds_4 (v := 281) rfl ?_
  refine j_iald C dX9_seeds_7 kd_28 (Nat.le_of_ble_eq_true rfl) ?_
  refine j_topi (fun v1 => ?_)
  refine j_istore_n C dX9_seeds_8 rfl (by decide) rfl ?_
  refine j_aload_n C dX9_seeds_9 1 rfl rfl ?_
  refine j_getr C dX9_seeds_10 fl_X9_7 kd_27 (by decide) (Nat.le_of_ble_eq_true rfl) rfl ?_
  refine j_sipush C dX9_seeds_13 (v := 281) rfl ?_
  refine j_iload_n C dX9_seeds_16 2 rfl rfl ?_
  refine j_iast C dX9_seeds_17 kd_28 (Nat.le_of_ble_eq_true rfl) (fun S2 => ?_)
  refine j_iload_n C dX9_seeds_18 0 rfl rfl ?_
  exact j_iret hR dX9_seeds_19
-- X9_undo
abbrev rm_X9_undo : Room := { frames := 1, cells := 0, slots := 0, locals := 23 }
def f_X9_undo  (S : St) : Option (Int32 × St) :=
  if (S.1 27 2) = 0 then (some ((-2), S))
  else (lt (upI S 27 2 ((S.1 27 2) - 1)) fun S1 =>
    bdV (f_X9_copy (849 + (283 * (S1.1 27 2))) 0 S1) fun S2 =>
    some (S2.1 27 2, S2))
set_option maxHeartbeats 1000000 in
theorem m_X9_undo (adr : Nat → Nat)  : MtI yX9_undo cX9_undo 1 (some .int) rm_X9_undo adr [.ref (adr 27)] (f_X9_undo ) := by
  refine MtI.of (by decide +kernel) (Nat.le_of_ble_eq_true rfl) (fun K r S C hR => ?_)
  refine j_start (lv' := [(0, .ref (adr 27))]) rfl ?_
  unfold f_X9_undo
  refine j_aload_n C dX9_undo_0 0 rfl rfl ?_
  refine j_geti C dX9_undo_1 fl_X9_54 kd_27 (by decide) (Nat.le_of_ble_eq_true rfl) rfl ?_
  refine j_if_ne C dX9_undo_4 (tgt := 10) (by decide) ?_ ?_
  · refine j_aload_n C dX9_undo_10 0 rfl rfl ?_
    refine j_dup C dX9_undo_11 rfl ?_
    refine j_geti C dX9_undo_12 fl_X9_54 kd_27 (by decide) (Nat.le_of_ble_eq_true rfl) rfl ?_
    refine j_iconst C dX9_undo_15 (v := 1) rfl ?_
    refine j_isub C dX9_undo_16 ?_
    refine j_puti C dX9_undo_17 fl_X9_54 fi_X9_2 kd_27 (by decide) (Nat.le_of_ble_eq_true rfl) rfl (fun S1 => ?_)
    refine j_aload_n C dX9_undo_20 0 rfl rfl ?_
    refine j_sipush C dX9_undo_21 (v := 849) rfl ?_
    refine j_sipush C dX9_undo_24 (v := 283) rfl ?_
    refine j_aload_n C dX9_undo_27 0 rfl rfl ?_
    refine j_geti C dX9_undo_28 fl_X9_54 kd_27 (by decide) (Nat.le_of_ble_eq_true rfl) rfl ?_
    refine j_imul C dX9_undo_31 ?_
    refine j_iadd C dX9_undo_32 ?_
    refine j_iconst C dX9_undo_33 (v := 0) rfl ?_
    refine j_cvv C dX9_undo_34 lk_X9_58 mw_X9_copy (m_X9_copy adr (849 + (283 * (S1.1 27 2))) 0) ⟨rfl, rfl, Nat.le_of_ble_eq_true rfl, Nat.le_of_ble_eq_true rfl⟩ kd_27 (by decide) (Nat.le_of_ble_eq_true rfl) rfl rfl (st := []) (st0 := [.int 0, .int (849 + (283 * (S1.1 27 2))), .ref (adr 27)]) rfl (Nat.le_of_ble_eq_true rfl) (fun S2 => ?_)
    refine j_aload_n C dX9_undo_37 0 rfl rfl ?_
    refine j_geti C dX9_undo_38 fl_X9_54 kd_27 (by decide) (Nat.le_of_ble_eq_true rfl) rfl ?_
    exact j_iret hR dX9_undo_41
  · refine j_bipush C dX9_undo_7 (v := -2) rfl ?_
    exact j_iret hR dX9_undo_9
-- X9_cell
abbrev rm_X9_cell : Room := { frames := 4, cells := 0, slots := 0, locals := 87 }
def f_X9_cell_20  (S : St) : Option (Int32 × St) :=
    some ((-1), S)
set_option maxHeartbeats 1000000 in
theorem b_X9_cell_20 {K : Kt} {adr : Nat → Nat} {r : Int32 × St} (C : Cx K cX9_cell RX9 3 adr rm_X9_cell) (hR : ∀ (pc : Nat) (lv : List (Nat × Value)), decode cX9_cell pc = .ok (.ireturn, 1) → K pc lv [.int r.1] r.2)  (S : St) : J K r (f_X9_cell_20  S) 20 [] [] S := by
    unfold f_X9_cell_20
    refine j_iconst C dX9_cell_20 (v := -1) rfl ?_
    exact j_iret hR dX9_cell_21
def f_X9_cell (x1 : Int32) (x2 : Int32) (S : St) : Option (Int32 × St) :=
  bd (f_X9_isCell x1 S) fun v2 S1 =>
  if v2 = 0 then (f_X9_cell_20 S1)
  else (bd (f_X9_in x2.toInt64 0 11 S1) fun v4 S3 =>
    if v4 = 0 then (f_X9_cell_20 S3)
    else (sw x2 0 5 (ck (((220 + (6 * x1)) + x2) - 6) 2547 (some (S3.1 28 (((220 + (6 * x1)) + x2) - 6).toNatClampNeg, S3))) fun i => match i with
        | 0 => ck x1 4 (some (S3.1 33 x1.toNatClampNeg, S3))
        | 1 => ck (216 + x1) 2547 (some (S3.1 28 (216 + x1).toNatClampNeg, S3))
        | 2 => ck x1 4 (some (S3.1 34 x1.toNatClampNeg, S3))
        | 3 => bd (f_X9_busy x1 S3) fun v6 S5 =>
          some (v6, S5)
        | 4 => bd (f_X9_waiting x1 S3) fun v8 S7 =>
          some (v8, S7)
        | 5 => bd (f_X9_chance x1 S3) fun v10 S9 =>
          some (v10, S9)
        | _ => none))
set_option maxHeartbeats 1000000 in
theorem m_X9_cell (adr : Nat → Nat) (x1 : Int32) (x2 : Int32) : MtI yX9_cell cX9_cell 3 (some .int) rm_X9_cell adr [.ref (adr 27), .int x1, .int x2] (f_X9_cell x1 x2) := by
  refine MtI.of (by decide +kernel) (Nat.le_of_ble_eq_true rfl) (fun K r S C hR => ?_)
  refine j_start (lv' := [(0, .ref (adr 27)), (1, .int x1), (2, .int x2)]) rfl ?_
  unfold f_X9_cell
  refine j_aload_n C dX9_cell_0 0 rfl rfl ?_
  refine j_iload_n C dX9_cell_1 1 rfl rfl ?_
  refine j_cvi C dX9_cell_2 lk_X9_158 mw_X9_isCell (m_X9_isCell adr x1) ⟨rfl, rfl, Nat.le_of_ble_eq_true rfl, Nat.le_of_ble_eq_true rfl⟩ kd_27 (by decide) (Nat.le_of_ble_eq_true rfl) rfl rfl (st := []) (st0 := [.int x1, .ref (adr 27)]) rfl (Nat.le_of_ble_eq_true rfl) (fun v2 S1 => ?_)
  refine j_if_eq C dX9_cell_5 (tgt := 20) (by decide) ?_ ?_
  · refine j_sub C [] rfl ?_
    exact b_X9_cell_20 C hR S1
  · refine j_iload_n C dX9_cell_8 2 rfl rfl ?_
    refine j_i2l C dX9_cell_9 ?_
    refine j_lconst C dX9_cell_10 (v := 0) rfl ?_
    refine j_ldc2 C dX9_cell_11 kc_X9_139 ?_
    refine j_csi C dX9_cell_14 lk_X9_66 mw_X9_in (m_X9_in adr x2.toInt64 0 11) ⟨rfl, rfl, Nat.le_of_ble_eq_true rfl, Nat.le_of_ble_eq_true rfl⟩ rfl (st := []) (st0 := [.long 11, .long 0, .long x2.toInt64]) rfl (Nat.le_of_ble_eq_true rfl) (fun v4 S3 => ?_)
    refine j_if_ne C dX9_cell_17 (tgt := 22) (by decide) ?_ ?_
    · refine j_iload_n C dX9_cell_22 2 rfl rfl ?_
      refine j_table C dX9_cell_23 (tgt := 103) (by decide) ?_ ?_
      · refine j_aload_n C dX9_cell_103 0 rfl rfl ?_
        refine j_getr C dX9_cell_104 fl_X9_7 kd_27 (by decide) (Nat.le_of_ble_eq_true rfl) rfl ?_
        refine j_sipush C dX9_cell_107 (v := 220) rfl ?_
        refine j_bipush C dX9_cell_110 (v := 6) rfl ?_
        refine j_iload_n C dX9_cell_112 1 rfl rfl ?_
        refine j_imul C dX9_cell_113 ?_
        refine j_iadd C dX9_cell_114 ?_
        refine j_iload_n C dX9_cell_115 2 rfl rfl ?_
        refine j_iadd C dX9_cell_116 ?_
        refine j_bipush C dX9_cell_117 (v := 6) rfl ?_
        refine j_isub C dX9_cell_119 ?_
        refine j_iald C dX9_cell_120 kd_28 (Nat.le_of_ble_eq_true rfl) ?_
        exact j_iret hR dX9_cell_121
      · intro i hi
        exact match i, hi with
        | 0, _ => ⟨_, 60, rfl, by decide, by
          refine j_aload_n C dX9_cell_60 0 rfl rfl ?_
          refine j_getr C dX9_cell_61 fl_X9_26 kd_27 (by decide) (Nat.le_of_ble_eq_true rfl) rfl ?_
          refine j_iload_n C dX9_cell_64 1 rfl rfl ?_
          refine j_iald C dX9_cell_65 kd_33 (Nat.le_of_ble_eq_true rfl) ?_
          exact j_iret hR dX9_cell_66⟩
        | 1, _ => ⟨_, 67, rfl, by decide, by
          refine j_aload_n C dX9_cell_67 0 rfl rfl ?_
          refine j_getr C dX9_cell_68 fl_X9_7 kd_27 (by decide) (Nat.le_of_ble_eq_true rfl) rfl ?_
          refine j_sipush C dX9_cell_71 (v := 216) rfl ?_
          refine j_iload_n C dX9_cell_74 1 rfl rfl ?_
          refine j_iadd C dX9_cell_75 ?_
          refine j_iald C dX9_cell_76 kd_28 (Nat.le_of_ble_eq_true rfl) ?_
          exact j_iret hR dX9_cell_77⟩
        | 2, _ => ⟨_, 78, rfl, by decide, by
          refine j_aload_n C dX9_cell_78 0 rfl rfl ?_
          refine j_getr C dX9_cell_79 fl_X9_29 kd_27 (by decide) (Nat.le_of_ble_eq_true rfl) rfl ?_
          refine j_iload_n C dX9_cell_82 1 rfl rfl ?_
          refine j_iald C dX9_cell_83 kd_34 (Nat.le_of_ble_eq_true rfl) ?_
          exact j_iret hR dX9_cell_84⟩
        | 3, _ => ⟨_, 85, rfl, by decide, by
          refine j_aload_n C dX9_cell_85 0 rfl rfl ?_
          refine j_iload_n C dX9_cell_86 1 rfl rfl ?_
          refine j_cvi C dX9_cell_87 lk_X9_145 mw_X9_busy (m_X9_busy adr x1) ⟨rfl, rfl, Nat.le_of_ble_eq_true rfl, Nat.le_of_ble_eq_true rfl⟩ kd_27 (by decide) (Nat.le_of_ble_eq_true rfl) rfl rfl (st := []) (st0 := [.int x1, .ref (adr 27)]) rfl (Nat.le_of_ble_eq_true rfl) (fun v6 S5 => ?_)
          exact j_iret hR dX9_cell_90⟩
        | 4, _ => ⟨_, 91, rfl, by decide, by
          refine j_aload_n C dX9_cell_91 0 rfl rfl ?_
          refine j_iload_n C dX9_cell_92 1 rfl rfl ?_
          refine j_cvi C dX9_cell_93 lk_X9_205 mw_X9_waiting (m_X9_waiting adr x1) ⟨rfl, rfl, Nat.le_of_ble_eq_true rfl, Nat.le_of_ble_eq_true rfl⟩ kd_27 (by decide) (Nat.le_of_ble_eq_true rfl) rfl rfl (st := []) (st0 := [.int x1, .ref (adr 27)]) rfl (Nat.le_of_ble_eq_true rfl) (fun v8 S7 => ?_)
          exact j_iret hR dX9_cell_96⟩
        | 5, _ => ⟨_, 97, rfl, by decide, by
          refine j_aload_n C dX9_cell_97 0 rfl rfl ?_
          refine j_iload_n C dX9_cell_98 1 rfl rfl ?_
          refine j_cvi C dX9_cell_99 lk_X9_173 mw_X9_chance (m_X9_chance adr x1) ⟨rfl, rfl, Nat.le_of_ble_eq_true rfl, Nat.le_of_ble_eq_true rfl⟩ kd_27 (by decide) (Nat.le_of_ble_eq_true rfl) rfl rfl (st := []) (st0 := [.int x1, .ref (adr 27)]) rfl (Nat.le_of_ble_eq_true rfl) (fun v10 S9 => ?_)
          exact j_iret hR dX9_cell_102⟩
        | i + 6, hi => absurd hi (by omega)
    · refine j_sub C [] rfl ?_
      exact b_X9_cell_20 C hR S3
