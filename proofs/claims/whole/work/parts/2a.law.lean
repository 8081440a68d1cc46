/-! ===== the law's loop ===== -/
def Scr (K : Kt) (cc : ByteArray) (b L : Nat) (xs : Nat → Int32) : Prop := (∀ (pc : Nat) (lv : List (Nat × Value)) (st : List Value) (S : St), decode cc pc = .ok (.arraylength, 1) → K (pc + 1) lv (.int (Int32.ofNat L) :: st) S → K pc lv (.ref b :: st) S) ∧ (∀ (pc : Nat) (lv : List (Nat × Value)) (st : List Value) (S : St) (i : Int32), decode cc pc = .ok (.iaload, 1) → vp_in i L → K (pc + 1) lv (.int (xs i.toNatClampNeg) :: st) S → K pc lv (.int i :: .ref b :: st) S)
theorem j_slen {ρ : Type} {K : Kt} {cc : ByteArray} {b L : Nat} {xs : Nat → Int32} {r : ρ} {X : Option ρ} {pc : Nat} {lv : List (Nat × Value)} {st : List Value} {S : St} (hS : Scr K cc b L xs) (d : decode cc pc = .ok (.arraylength, 1)) (h : J K r X (pc + 1) lv (.int (Int32.ofNat L) :: st) S) : J K r X pc lv (.ref b :: st) S := fun hX => hS.1 pc lv st S d (h hX)
theorem j_sld {ρ : Type} {K : Kt} {cc : ByteArray} {b L : Nat} {xs : Nat → Int32} {r : ρ} {X : Option ρ} {pc : Nat} {lv : List (Nat × Value)} {st : List Value} {S : St} {i : Int32} (hS : Scr K cc b L xs) (d : decode cc pc = .ok (.iaload, 1)) (h : J K r X (pc + 1) lv (.int (xs i.toNatClampNeg) :: st) S) : J K r (ck i L X) pc lv (.int i :: .ref b :: st) S := fun hX => by
  obtain ⟨hin, hX⟩ := ck_some hX
  exact hS.2 pc lv st S i d hin (h hX)
def f_L_835 (L : Nat) (xs : Nat → Int32) (k18 : Int32 → St → Option (Unit)) (x3 : Int32) (S : St) : Option (Unit) :=
    k18 (x3 + 7) S
set_option maxHeartbeats 4000000 in
theorem b_L_835 {K : Kt} {adr : Nat → Nat} {r : Unit} (C : Cx K cL_law RL 4 adr room_1) (hR : ∀ (pc : Nat) (lv : List (Nat × Value)) (S : St), decode code pc = .ok (.ireturn, 1) → K pc lv [.int 1] S) (L : Nat) (xs : Nat → Int32) (b : Nat) (hS : Scr K code b L xs) (k18 : Int32 → St → Option (Unit)) (h18 : ∀ (x3 : Int32) (S : St), J K r (k18 x3 S) 18 [(0, .ref b), (1, .ref (adr 0)), (2, .ref (adr 27)), (3, .int x3)] [] S) (x3 : Int32) (S : St) : J K r (f_L_835 L xs k18 x3 S) 835 [(0, .ref b), (1, .ref (adr 0)), (2, .ref (adr 27)), (3, .int x3)] [] S := by
    unfold f_L_835
    refine j_iinc C dL_law_835 (v := x3 + 7) 3 rfl rfl (by decide) rfl ?_
    refine j_goto C dL_law_838 (tgt := 18) (by decide) ?_
    refine j_sub C [1, 2, 3, 0] rfl ?_
    exact h18 (x3 + 7) S
def f_L_18 (L : Nat) (xs : Nat → Int32) : Nat → Int32 → St → Option (Unit)
  | 0, _, _ => none
  | n + 1, x3, S =>
    if ((Int32.ofNat L) - 7) < x3 then (some ())
    else (ck x3 L (sw ((xs x3.toNatClampNeg) &&& 31) 0 21 (f_L_835 L xs (f_L_18 L xs n) x3 S) fun i => match i with
        | 0 => ck (x3 + 1) L (bd (f_X8_type (xs (x3 + 1).toNatClampNeg) S) fun v2 S1 =>
          ck (x3 + 1) L (bd (f_X9_type (xs (x3 + 1).toNatClampNeg) S1) fun v4 S3 =>
          if v2 = v4 then (f_L_835 L xs (f_L_18 L xs n) x3 S3)
          else (none)))
        | 1 => bd (f_X8_clear S) fun v6 S5 =>
          bd (f_X9_clear S5) fun v8 S7 =>
          if v6 = v8 then (f_L_835 L xs (f_L_18 L xs n) x3 S7)
          else (none)
        | 2 => bd (f_X8_tells S) fun v10 S9 =>
          bd (f_X9_tells S9) fun v12 S11 =>
          if v10 = v12 then (f_L_835 L xs (f_L_18 L xs n) x3 S11)
          else (none)
        | 3 => ck (x3 + 1) L (ck (x3 + 2) L (bd (f_X8_offers (xs (x3 + 1).toNatClampNeg) (xs (x3 + 2).toNatClampNeg) S) fun v14 S13 =>
          ck (x3 + 1) L (ck (x3 + 2) L (bd (f_X9_offers (xs (x3 + 1).toNatClampNeg) (xs (x3 + 2).toNatClampNeg) S13) fun v16 S15 =>
          if v14 = v16 then (f_L_835 L xs (f_L_18 L xs n) x3 S15)
          else (none)))))
        | 4 => ck (x3 + 1) L (ck (x3 + 2) L (ck (x3 + 3) L (ck (x3 + 4) L (ck (x3 + 5) L (bd (f_X8_hears (xs (x3 + 1).toNatClampNeg) (xs (x3 + 2).toNatClampNeg) (xs (x3 + 3).toNatClampNeg) (xs (x3 + 4).toNatClampNeg) (xs (x3 + 5).toNatClampNeg) S) fun v18 S17 =>
          ck (x3 + 1) L (ck (x3 + 2) L (ck (x3 + 3) L (ck (x3 + 4) L (ck (x3 + 5) L (bd (f_X9_hears (xs (x3 + 1).toNatClampNeg) (xs (x3 + 2).toNatClampNeg) (xs (x3 + 3).toNatClampNeg) (xs (x3 + 4).toNatClampNeg) (xs (x3 + 5).toNatClampNeg) S17) fun v20 S19 =>
          if v18 = v20 then (f_L_835 L xs (f_L_18 L xs n) x3 S19)
          else (none)))))))))))
        | 5 => ck (x3 + 1) L (bd (f_X8_ends (xs (x3 + 1).toNatClampNeg) S) fun v22 S21 =>
          ck (x3 + 1) L (bd (f_X9_ends (xs (x3 + 1).toNatClampNeg) S21) fun v24 S23 =>
          if v22 = v24 then (f_L_835 L xs (f_L_18 L xs n) x3 S23)
          else (none)))
        | 6 => ck (x3 + 1) L (ck (x3 + 2) L (bd (f_X8_guards (xs (x3 + 1).toNatClampNeg) (xs (x3 + 2).toNatClampNeg) S) fun v26 S25 =>
          ck (x3 + 1) L (ck (x3 + 2) L (bd (f_X9_guards (xs (x3 + 1).toNatClampNeg) (xs (x3 + 2).toNatClampNeg) S25) fun v28 S27 =>
          if v26 = v28 then (f_L_835 L xs (f_L_18 L xs n) x3 S27)
          else (none)))))
        | 7 => ck (x3 + 1) L (bd (f_X8_seeds (xs (x3 + 1).toNatClampNeg) S) fun v30 S29 =>
          ck (x3 + 1) L (bd (f_X9_seeds (xs (x3 + 1).toNatClampNeg) S29) fun v32 S31 =>
          if v30 = v32 then (f_L_835 L xs (f_L_18 L xs n) x3 S31)
          else (none)))
        | 8 => bd (f_X8_undo S) fun v34 S33 =>
          bd (f_X9_undo S33) fun v36 S35 =>
          if v34 = v36 then (f_L_835 L xs (f_L_18 L xs n) x3 S35)
          else (none)
        | 9 => ck (x3 + 1) L (ck (x3 + 2) L (bd (f_X8_cell (xs (x3 + 1).toNatClampNeg) (xs (x3 + 2).toNatClampNeg) S) fun v38 S37 =>
          ck (x3 + 1) L (ck (x3 + 2) L (bd (f_X9_cell (xs (x3 + 1).toNatClampNeg) (xs (x3 + 2).toNatClampNeg) S37) fun v40 S39 =>
          if v38 = v40 then (f_L_835 L xs (f_L_18 L xs n) x3 S39)
          else (none)))))
        | 10 => ck (x3 + 1) L (ck (x3 + 2) L (bd (f_X8_call (xs (x3 + 1).toNatClampNeg) (xs (x3 + 2).toNatClampNeg) S) fun v42 S41 =>
          ck (x3 + 1) L (ck (x3 + 2) L (bd (f_X9_call (xs (x3 + 1).toNatClampNeg) (xs (x3 + 2).toNatClampNeg) S41) fun v44 S43 =>
          if v42 = v44 then (f_L_835 L xs (f_L_18 L xs n) x3 S43)
          else (none)))))
        | 11 => ck (x3 + 1) L (ck (x3 + 2) L (ck (x3 + 3) L (bd (f_X8_level (xs (x3 + 1).toNatClampNeg) (xs (x3 + 2).toNatClampNeg) (xs (x3 + 3).toNatClampNeg) S) fun v46 S45 =>
          ck (x3 + 1) L (ck (x3 + 2) L (ck (x3 + 3) L (bd (f_X9_level (xs (x3 + 1).toNatClampNeg) (xs (x3 + 2).toNatClampNeg) (xs (x3 + 3).toNatClampNeg) S45) fun v48 S47 =>
          if v46 = v48 then (f_L_835 L xs (f_L_18 L xs n) x3 S47)
          else (none)))))))
        | 12 => ck (x3 + 1) L (ck (x3 + 2) L (bd (f_X8_queued (xs (x3 + 1).toNatClampNeg) (xs (x3 + 2).toNatClampNeg) S) fun v50 S49 =>
          ck (x3 + 1) L (ck (x3 + 2) L (bd (f_X9_queued (xs (x3 + 1).toNatClampNeg) (xs (x3 + 2).toNatClampNeg) S49) fun v52 S51 =>
          if v50 = v52 then (f_L_835 L xs (f_L_18 L xs n) x3 S51)
          else (none)))))
        | 13 => ck (x3 + 1) L (ck (x3 + 2) L (bd (f_X8_pair (xs (x3 + 1).toNatClampNeg) (xs (x3 + 2).toNatClampNeg) S) fun v54 S53 =>
          ck (x3 + 1) L (ck (x3 + 2) L (bd (f_X9_pair (xs (x3 + 1).toNatClampNeg) (xs (x3 + 2).toNatClampNeg) S53) fun v56 S55 =>
          if v54 = v56 then (f_L_835 L xs (f_L_18 L xs n) x3 S55)
          else (none)))))
        | 14 => ck (x3 + 1) L (ck (x3 + 2) L (ck (x3 + 3) L (ck (x3 + 4) L (ck (x3 + 5) L (ck (x3 + 6) L (bd (f_X8_lost (xs (x3 + 1).toNatClampNeg) (xs (x3 + 2).toNatClampNeg) (xs (x3 + 3).toNatClampNeg) (xs (x3 + 4).toNatClampNeg) (xs (x3 + 5).toNatClampNeg) (xs (x3 + 6).toNatClampNeg) S) fun v58 S57 =>
          ck (x3 + 1) L (ck (x3 + 2) L (ck (x3 + 3) L (ck (x3 + 4) L (ck (x3 + 5) L (ck (x3 + 6) L (bd (f_X9_lost (xs (x3 + 1).toNatClampNeg) (xs (x3 + 2).toNatClampNeg) (xs (x3 + 3).toNatClampNeg) (xs (x3 + 4).toNatClampNeg) (xs (x3 + 5).toNatClampNeg) (xs (x3 + 6).toNatClampNeg) S57) fun v60 S59 =>
          if (lg_cmp v58 v60) = 0 then (f_L_835 L xs (f_L_18 L xs n) x3 S59)
          else (none)))))))))))))
        | 15 => ck (x3 + 1) L (ck (x3 + 2) L (ck (x3 + 3) L (ck (x3 + 4) L (ck (x3 + 5) L (bd (f_X8_best (xs (x3 + 1).toNatClampNeg) (xs (x3 + 2).toNatClampNeg) (xs (x3 + 3).toNatClampNeg) (xs (x3 + 4).toNatClampNeg) (xs (x3 + 5).toNatClampNeg) S) fun v62 S61 =>
          ck (x3 + 1) L (ck (x3 + 2) L (ck (x3 + 3) L (ck (x3 + 4) L (ck (x3 + 5) L (bd (f_X9_best (xs (x3 + 1).toNatClampNeg) (xs (x3 + 2).toNatClampNeg) (xs (x3 + 3).toNatClampNeg) (xs (x3 + 4).toNatClampNeg) (xs (x3 + 5).toNatClampNeg) S61) fun v64 S63 =>
          if v62 = v64 then (f_L_835 L xs (f_L_18 L xs n) x3 S63)
          else (none)))))))))))
        | 16 => ck (x3 + 1) L (ck (x3 + 2) L (bd (f_X8_sees (xs (x3 + 1).toNatClampNeg) (xs (x3 + 2).toNatClampNeg) S) fun v66 S65 =>
          ck (x3 + 1) L (ck (x3 + 2) L (bd (f_X9_sees (xs (x3 + 1).toNatClampNeg) (xs (x3 + 2).toNatClampNeg) S65) fun v68 S67 =>
          if v66 = v68 then (f_L_835 L xs (f_L_18 L xs n) x3 S67)
          else (none)))))
        | 17 => bd (f_X8_forget S) fun v70 S69 =>
          bd (f_X9_forget S69) fun v72 S71 =>
          if v70 = v72 then (f_L_835 L xs (f_L_18 L xs n) x3 S71)
          else (none)
        | 18 => ck (x3 + 1) L (ck (x3 + 2) L (bd (f_X8_unseen (xs (x3 + 1).toNatClampNeg) (xs (x3 + 2).toNatClampNeg) S) fun v74 S73 =>
          ck (x3 + 1) L (ck (x3 + 2) L (bd (f_X9_unseen (xs (x3 + 1).toNatClampNeg) (xs (x3 + 2).toNatClampNeg) S73) fun v76 S75 =>
          if v74 = v76 then (f_L_835 L xs (f_L_18 L xs n) x3 S75)
          else (none)))))
        | 19 => ck (x3 + 1) L (bd (f_X8_keep (xs (x3 + 1).toNatClampNeg) S) fun v78 S77 =>
          ck (x3 + 1) L (bd (f_X9_keep (xs (x3 + 1).toNatClampNeg) S77) fun v80 S79 =>
          if v78 = v80 then (f_L_835 L xs (f_L_18 L xs n) x3 S79)
          else (none)))
        | 20 => ck (x3 + 1) L (bd (f_X8_back (xs (x3 + 1).toNatClampNeg) S) fun v82 S81 =>
          ck (x3 + 1) L (bd (f_X9_back (xs (x3 + 1).toNatClampNeg) S81) fun v84 S83 =>
          if v82 = v84 then (f_L_835 L xs (f_L_18 L xs n) x3 S83)
          else (none)))
        | 21 => ck (x3 + 1) L (bd (f_X8_count (xs (x3 + 1).toNatClampNeg) S) fun v86 S85 =>
          ck (x3 + 1) L (bd (f_X9_count (xs (x3 + 1).toNatClampNeg) S85) fun v88 S87 =>
          if v86 = v88 then (f_L_835 L xs (f_L_18 L xs n) x3 S87)
          else (none)))
        | _ => none))
set_option maxHeartbeats 4000000 in
theorem b_L_18 {K : Kt} {adr : Nat → Nat} {r : Unit} (C : Cx K cL_law RL 4 adr room_1) (hR : ∀ (pc : Nat) (lv : List (Nat × Value)) (S : St), decode code pc = .ok (.ireturn, 1) → K pc lv [.int 1] S) (L : Nat) (xs : Nat → Int32) (b : Nat) (hS : Scr K code b L xs) : ∀ (n : Nat) (x3 : Int32) (S : St), J K r (f_L_18 L xs n x3 S) 18 [(0, .ref b), (1, .ref (adr 0)), (2, .ref (adr 27)), (3, .int x3)] [] S := by
  intro n
  induction n with
  | zero => intro x3 S h; cases h
  | succ n ih =>
    intro x3 S
    unfold f_L_18
    refine j_iload_n C dL_law_18 3 rfl rfl ?_
    refine j_aload_n C dL_law_19 0 rfl rfl ?_
    refine j_slen hS dL_law_20 ?_
    refine j_bipush C dL_law_21 (v := 7) rfl ?_
    refine j_isub C dL_law_23 ?_
    refine j_icmp_gt C dL_law_24 (tgt := 841) (by decide) ?_ ?_
    · refine j_iconst C dL_law_841 (v := 1) rfl ?_
      exact fun _ => hR _ _ _ dL_law_842
    · refine j_aload_n C dL_law_27 0 rfl rfl ?_
      refine j_iload_n C dL_law_28 3 rfl rfl ?_
      refine j_sld hS dL_law_29 ?_
      refine j_bipush C dL_law_30 (v := 31) rfl ?_
      refine j_iand C dL_law_32 ?_
      refine j_table C dL_law_33 (tgt := 835) (by decide) ?_ ?_
      · exact b_L_835 C hR L xs b hS (f_L_18 L xs n) ih x3 S
      · intro i hi
        exact match i, hi with
        | 0, _ => ⟨_, 136, rfl, by decide, by
          refine j_aload_n C dL_law_136 1 rfl rfl ?_
          refine j_aload_n C dL_law_137 0 rfl rfl ?_
          refine j_iload_n C dL_law_138 3 rfl rfl ?_
          refine j_iconst C dL_law_139 (v := 1) rfl ?_
          refine j_iadd C dL_law_140 ?_
          refine j_sld hS dL_law_141 ?_
          refine j_cvi C dL_law_142 lk_L_13 mw_X8_type (m_X8_type adr (xs (x3 + 1).toNatClampNeg)) ⟨rfl, rfl, Nat.le_of_ble_eq_true rfl, Nat.le_of_ble_eq_true rfl⟩ kd_0 (by decide) (Nat.le_of_ble_eq_true rfl) rfl rfl (st := []) (st0 := [.int (xs (x3 + 1).toNatClampNeg), .ref (adr 0)]) rfl (Nat.le_of_ble_eq_true rfl) (fun v2 S1 => ?_)
          refine j_aload_n C dL_law_145 2 rfl rfl ?_
          refine j_aload_n C dL_law_146 0 rfl rfl ?_
          refine j_iload_n C dL_law_147 3 rfl rfl ?_
          refine j_iconst C dL_law_148 (v := 1) rfl ?_
          refine j_iadd C dL_law_149 ?_
          refine j_sld hS dL_law_150 ?_
          refine j_cvi C dL_law_151 lk_L_17 mw_X9_type (m_X9_type adr (xs (x3 + 1).toNatClampNeg)) ⟨rfl, rfl, Nat.le_of_ble_eq_true rfl, Nat.le_of_ble_eq_true rfl⟩ kd_27 (by decide) (Nat.le_of_ble_eq_true rfl) rfl rfl (st := [.int v2]) (st0 := [.int (xs (x3 + 1).toNatClampNeg), .ref (adr 27), .int v2]) rfl (Nat.le_of_ble_eq_true rfl) (fun v4 S3 => ?_)
          refine j_icmp_eq C dL_law_154 (tgt := 835) (by decide) ?_ ?_
          · exact b_L_835 C hR L xs b hS (f_L_18 L xs n) ih x3 S3
          · refine j_iconst C dL_law_157 (v := 0) rfl ?_
            exact fun h => by cases h⟩
        | 1, _ => ⟨_, 159, rfl, by decide, by
          refine j_aload_n C dL_law_159 1 rfl rfl ?_
          refine j_cvi C dL_law_160 lk_L_18 mw_X8_clear (m_X8_clear adr ) ⟨rfl, rfl, Nat.le_of_ble_eq_true rfl, Nat.le_of_ble_eq_true rfl⟩ kd_0 (by decide) (Nat.le_of_ble_eq_true rfl) rfl rfl (st := []) (st0 := [.ref (adr 0)]) rfl (Nat.le_of_ble_eq_true rfl) (fun v6 S5 => ?_)
          refine j_aload_n C dL_law_163 2 rfl rfl ?_
          refine j_cvi C dL_law_164 lk_L_22 mw_X9_clear (m_X9_clear adr ) ⟨rfl, rfl, Nat.le_of_ble_eq_true rfl, Nat.le_of_ble_eq_true rfl⟩ kd_27 (by decide) (Nat.le_of_ble_eq_true rfl) rfl rfl (st := [.int v6]) (st0 := [.ref (adr 27), .int v6]) rfl (Nat.le_of_ble_eq_true rfl) (fun v8 S7 => ?_)
          refine j_icmp_eq C dL_law_167 (tgt := 835) (by decide) ?_ ?_
          · exact b_L_835 C hR L xs b hS (f_L_18 L xs n) ih x3 S7
          · refine j_iconst C dL_law_170 (v := 0) rfl ?_
            exact fun h => by cases h⟩
        | 2, _ => ⟨_, 172, rfl, by decide, by
          refine j_aload_n C dL_law_172 1 rfl rfl ?_
          refine j_cvi C dL_law_173 lk_L_23 mw_X8_tells (m_X8_tells adr ) ⟨rfl, rfl, Nat.le_of_ble_eq_true rfl, Nat.le_of_ble_eq_true rfl⟩ kd_0 (by decide) (Nat.le_of_ble_eq_true rfl) rfl rfl (st := []) (st0 := [.ref (adr 0)]) rfl (Nat.le_of_ble_eq_true rfl) (fun v10 S9 => ?_)
          refine j_aload_n C dL_law_176 2 rfl rfl ?_
          refine j_cvi C dL_law_177 lk_L_26 mw_X9_tells (m_X9_tells adr ) ⟨rfl, rfl, Nat.le_of_ble_eq_true rfl, Nat.le_of_ble_eq_true rfl⟩ kd_27 (by decide) (Nat.le_of_ble_eq_true rfl) rfl rfl (st := [.int v10]) (st0 := [.ref (adr 27), .int v10]) rfl (Nat.le_of_ble_eq_true rfl) (fun v12 S11 => ?_)
          refine j_icmp_eq C dL_law_180 (tgt := 835) (by decide) ?_ ?_
          · exact b_L_835 C hR L xs b hS (f_L_18 L xs n) ih x3 S11
          · refine j_iconst C dL_law_183 (v := 0) rfl ?_
            exact fun h => by cases h⟩
        | 3, _ => ⟨_, 185, rfl, by decide, by
          refine j_aload_n C dL_law_185 1 rfl rfl ?_
          refine j_aload_n C dL_law_186 0 rfl rfl ?_
          refine j_iload_n C dL_law_187 3 rfl rfl ?_
          refine j_iconst C dL_law_188 (v := 1) rfl ?_
          refine j_iadd C dL_law_189 ?_
          refine j_sld hS dL_law_190 ?_
          refine j_aload_n C dL_law_191 0 rfl rfl ?_
          refine j_iload_n C dL_law_192 3 rfl rfl ?_
          refine j_iconst C dL_law_193 (v := 2) rfl ?_
          refine j_iadd C dL_law_194 ?_
          refine j_sld hS dL_law_195 ?_
          refine j_cvi C dL_law_196 lk_L_27 mw_X8_offers (m_X8_offers adr (xs (x3 + 1).toNatClampNeg) (xs (x3 + 2).toNatClampNeg)) ⟨rfl, rfl, Nat.le_of_ble_eq_true rfl, Nat.le_of_ble_eq_true rfl⟩ kd_0 (by decide) (Nat.le_of_ble_eq_true rfl) rfl rfl (st := []) (st0 := [.int (xs (x3 + 2).toNatClampNeg), .int (xs (x3 + 1).toNatClampNeg), .ref (adr 0)]) rfl (Nat.le_of_ble_eq_true rfl) (fun v14 S13 => ?_)
          refine j_aload_n C dL_law_199 2 rfl rfl ?_
          refine j_aload_n C dL_law_200 0 rfl rfl ?_
          refine j_iload_n C dL_law_201 3 rfl rfl ?_
          refine j_iconst C dL_law_202 (v := 1) rfl ?_
          refine j_iadd C dL_law_203 ?_
          refine j_sld hS dL_law_204 ?_
          refine j_aload_n C dL_law_205 0 rfl rfl ?_
          refine j_iload_n C dL_law_206 3 rfl rfl ?_
          refine j_iconst C dL_law_207 (v := 2) rfl ?_
          refine j_iadd C dL_law_208 ?_
          refine j_sld hS dL_law_209 ?_
          refine j_cvi C dL_law_210 lk_L_31 mw_X9_offers (m_X9_offers adr (xs (x3 + 1).toNatClampNeg) (xs (x3 + 2).toNatClampNeg)) ⟨rfl, rfl, Nat.le_of_ble_eq_true rfl, Nat.le_of_ble_eq_true rfl⟩ kd_27 (by decide) (Nat.le_of_ble_eq_true rfl) rfl rfl (st := [.int v14]) (st0 := [.int (xs (x3 + 2).toNatClampNeg), .int (xs (x3 + 1).toNatClampNeg), .ref (adr 27), .int v14]) rfl (Nat.le_of_ble_eq_true rfl) (fun v16 S15 => ?_)
          refine j_icmp_eq C dL_law_213 (tgt := 835) (by decide) ?_ ?_
          · exact b_L_835 C hR L xs b hS (f_L_18 L xs n) ih x3 S15
          · refine j_iconst C dL_law_216 (v := 0) rfl ?_
            exact fun h => by cases h⟩
        | 4, _ => ⟨_, 218, rfl, by decide, by
          refine j_aload_n C dL_law_218 1 rfl rfl ?_
          refine j_aload_n C dL_law_219 0 rfl rfl ?_
          refine j_iload_n C dL_law_220 3 rfl rfl ?_
          refine j_iconst C dL_law_221 (v := 1) rfl ?_
          refine j_iadd C dL_law_222 ?_
          refine j_sld hS dL_law_223 ?_
          refine j_aload_n C dL_law_224 0 rfl rfl ?_
          refine j_iload_n C dL_law_225 3 rfl rfl ?_
          refine j_iconst C dL_law_226 (v := 2) rfl ?_
          refine j_iadd C dL_law_227 ?_
          refine j_sld hS dL_law_228 ?_
          refine j_aload_n C dL_law_229 0 rfl rfl ?_
          refine j_iload_n C dL_law_230 3 rfl rfl ?_
          refine j_iconst C dL_law_231 (v := 3) rfl ?_
          refine j_iadd C dL_law_232 ?_
          refine j_sld hS dL_law_233 ?_
          refine j_aload_n C dL_law_234 0 rfl rfl ?_
          refine j_iload_n C dL_law_235 3 rfl rfl ?_
          refine j_iconst C dL_law_236 (v := 4) rfl ?_
          refine j_iadd C dL_law_237 ?_
          refine j_sld hS dL_law_238 ?_
          refine j_aload_n C dL_law_239 0 rfl rfl ?_
          refine j_iload_n C dL_law_240 3 rfl rfl ?_
          refine j_iconst C dL_law_241 (v := 5) rfl ?_
          refine j_iadd C dL_law_242 ?_
          refine j_sld hS dL_law_243 ?_
          refine j_cvi C dL_law_244 lk_L_32 mw_X8_hears (m_X8_hears adr (xs (x3 + 1).toNatClampNeg) (xs (x3 + 2).toNatClampNeg) (xs (x3 + 3).toNatClampNeg) (xs (x3 + 4).toNatClampNeg) (xs (x3 + 5).toNatClampNeg)) ⟨rfl, rfl, Nat.le_of_ble_eq_true rfl, Nat.le_of_ble_eq_true rfl⟩ kd_0 (by decide) (Nat.le_of_ble_eq_true rfl) rfl rfl (st := []) (st0 := [.int (xs (x3 + 5).toNatClampNeg), .int (xs (x3 + 4).toNatClampNeg), .int (xs (x3 + 3).toNatClampNeg), .int (xs (x3 + 2).toNatClampNeg), .int (xs (x3 + 1).toNatClampNeg), .ref (adr 0)]) rfl (Nat.le_of_ble_eq_true rfl) (fun v18 S17 => ?_)
          refine j_aload_n C dL_law_247 2 rfl rfl ?_
          refine j_aload_n C dL_law_248 0 rfl rfl ?_
          refine j_iload_n C dL_law_249 3 rfl rfl ?_
          refine j_iconst C dL_law_250 (v := 1) rfl ?_
          refine j_iadd C dL_law_251 ?_
          refine j_sld hS dL_law_252 ?_
          refine j_aload_n C dL_law_253 0 rfl rfl ?_
          refine j_iload_n C dL_law_254 3 rfl rfl ?_
          refine j_iconst C dL_law_255 (v := 2) rfl ?_
          refine j_iadd C dL_law_256 ?_
          refine j_sld hS dL_law_257 ?_
          refine j_aload_n C dL_law_258 0 rfl rfl ?_
          refine j_iload_n C dL_law_259 3 rfl rfl ?_
          refine j_iconst C dL_law_260 (v := 3) rfl ?_
          refine j_iadd C dL_law_261 ?_
          refine j_sld hS dL_law_262 ?_
          refine j_aload_n C dL_law_263 0 rfl rfl ?_
          refine j_iload_n C dL_law_264 3 rfl rfl ?_
          refine j_iconst C dL_law_265 (v := 4) rfl ?_
          refine j_iadd C dL_law_266 ?_
          refine j_sld hS dL_law_267 ?_
          refine j_aload_n C dL_law_268 0 rfl rfl ?_
          refine j_iload_n C dL_law_269 3 rfl rfl ?_
          refine j_iconst C dL_law_270 (v := 5) rfl ?_
          refine j_iadd C dL_law_271 ?_
          refine j_sld hS dL_law_272 ?_
          refine j_cvi C dL_law_273 lk_L_36 mw_X9_hears (m_X9_hears adr (xs (x3 + 1).toNatClampNeg) (xs (x3 + 2).toNatClampNeg) (xs (x3 + 3).toNatClampNeg) (xs (x3 + 4).toNatClampNeg) (xs (x3 + 5).toNatClampNeg)) ⟨rfl, rfl, Nat.le_of_ble_eq_true rfl, Nat.le_of_ble_eq_true rfl⟩ kd_27 (by decide) (Nat.le_of_ble_eq_true rfl) rfl rfl (st := [.int v18]) (st0 := [.int (xs (x3 + 5).toNatClampNeg), .int (xs (x3 + 4).toNatClampNeg), .int (xs (x3 + 3).toNatClampNeg), .int (xs (x3 + 2).toNatClampNeg), .int (xs (x3 + 1).toNatClampNeg), .ref (adr 27), .int v18]) rfl (Nat.le_of_ble_eq_true rfl) (fun v20 S19 => ?_)
          refine j_icmp_eq C dL_law_276 (tgt := 835) (by decide) ?_ ?_
          · exact b_L_835 C hR L xs b hS (f_L_18 L xs n) ih x3 S19
          · refine j_iconst C dL_law_279 (v := 0) rfl ?_
            exact fun h => by cases h⟩
        | 5, _ => ⟨_, 281, rfl, by decide, by
          refine j_aload_n C dL_law_281 1 rfl rfl ?_
          refine j_aload_n C dL_law_282 0 rfl rfl ?_
          refine j_iload_n C dL_law_283 3 rfl rfl ?_
          refine j_iconst C dL_law_284 (v := 1) rfl ?_
          refine j_iadd C dL_law_285 ?_
          refine j_sld hS dL_law_286 ?_
          refine j_cvi C dL_law_287 lk_L_37 mw_X8_ends (m_X8_ends adr (xs (x3 + 1).toNatClampNeg)) ⟨rfl, rfl, Nat.le_of_ble_eq_true rfl, Nat.le_of_ble_eq_true rfl⟩ kd_0 (by decide) (Nat.le_of_ble_eq_true rfl) rfl rfl (st := []) (st0 := [.int (xs (x3 + 1).toNatClampNeg), .ref (adr 0)]) rfl (Nat.le_of_ble_eq_true rfl) (fun v22 S21 => ?_)
          refine j_aload_n C dL_law_290 2 rfl rfl ?_
          refine j_aload_n C dL_law_291 0 rfl rfl ?_
          refine j_iload_n C dL_law_292 3 rfl rfl ?_
          refine j_iconst C dL_law_293 (v := 1) rfl ?_
          refine j_iadd C dL_law_294 ?_
          refine j_sld hS dL_law_295 ?_
          refine j_cvi C dL_law_296 lk_L_40 mw_X9_ends (m_X9_ends adr (xs (x3 + 1).toNatClampNeg)) ⟨rfl, rfl, Nat.le_of_ble_eq_true rfl, Nat.le_of_ble_eq_true rfl⟩ kd_27 (by decide) (Nat.le_of_ble_eq_true rfl) rfl rfl (st := [.int v22]) (st0 := [.int (xs (x3 + 1).toNatClampNeg), .ref (adr 27), .int v22]) rfl (Nat.le_of_ble_eq_true rfl) (fun v24 S23 => ?_)
          refine j_icmp_eq C dL_law_299 (tgt := 835) (by decide) ?_ ?_
          · exact b_L_835 C hR L xs b hS (f_L_18 L xs n) ih x3 S23
          · refine j_iconst C dL_law_302 (v := 0) rfl ?_
            exact fun h => by cases h⟩
        | 6, _ => ⟨_, 304, rfl, by decide, by
          refine j_aload_n C dL_law_304 1 rfl rfl ?_
          refine j_aload_n C dL_law_305 0 rfl rfl ?_
          refine j_iload_n C dL_law_306 3 rfl rfl ?_
          refine j_iconst C dL_law_307 (v := 1) rfl ?_
          refine j_iadd C dL_law_308 ?_
          refine j_sld hS dL_law_309 ?_
          refine j_aload_n C dL_law_310 0 rfl rfl ?_
          refine j_iload_n C dL_law_311 3 rfl rfl ?_
          refine j_iconst C dL_law_312 (v := 2) rfl ?_
          refine j_iadd C dL_law_313 ?_
          refine j_sld hS dL_law_314 ?_
          refine j_cvi C dL_law_315 lk_L_41 mw_X8_guards (m_X8_guards adr (xs (x3 + 1).toNatClampNeg) (xs (x3 + 2).toNatClampNeg)) ⟨rfl, rfl, Nat.le_of_ble_eq_true rfl, Nat.le_of_ble_eq_true rfl⟩ kd_0 (by decide) (Nat.le_of_ble_eq_true rfl) rfl rfl (st := []) (st0 := [.int (xs (x3 + 2).toNatClampNeg), .int (xs (x3 + 1).toNatClampNeg), .ref (adr 0)]) rfl (Nat.le_of_ble_eq_true rfl) (fun v26 S25 => ?_)
          refine j_aload_n C dL_law_318 2 rfl rfl ?_
          refine j_aload_n C dL_law_319 0 rfl rfl ?_
          refine j_iload_n C dL_law_320 3 rfl rfl ?_
          refine j_iconst C dL_law_321 (v := 1) rfl ?_
          refine j_iadd C dL_law_322 ?_
          refine j_sld hS dL_law_323 ?_
          refine j_aload_n C dL_law_324 0 rfl rfl ?_
          refine j_iload_n C dL_law_325 3 rfl rfl ?_
          refine j_iconst C dL_law_326 (v := 2) rfl ?_
          refine j_iadd C dL_law_327 ?_
          refine j_sld hS dL_law_328 ?_
          refine j_cvi C dL_law_329 lk_L_44 mw_X9_guards (m_X9_guards adr (xs (x3 + 1).toNatClampNeg) (xs (x3 + 2).toNatClampNeg)) ⟨rfl, rfl, Nat.le_of_ble_eq_true rfl, Nat.le_of_ble_eq_true rfl⟩ kd_27 (by decide) (Nat.le_of_ble_eq_true rfl) rfl rfl (st := [.int v26]) (st0 := [.int (xs (x3 + 2).toNatClampNeg), .int (xs (x3 + 1).toNatClampNeg), .ref (adr 27), .int v26]) rfl (Nat.le_of_ble_eq_true rfl) (fun v28 S27 => ?_)
          refine j_icmp_eq C dL_law_332 (tgt := 835) (by decide) ?_ ?_
          · exact b_L_835 C hR L xs b hS (f_L_18 L xs n) ih x3 S27
          · refine j_iconst C dL_law_335 (v := 0) rfl ?_
            exact fun h => by cases h⟩
        | 7, _ => ⟨_, 337, rfl, by decide, by
          refine j_aload_n C dL_law_337 1 rfl rfl ?_
          refine j_aload_n C dL_law_338 0 rfl rfl ?_
          refine j_iload_n C dL_law_339 3 rfl rfl ?_
          refine j_iconst C dL_law_340 (v := 1) rfl ?_
          refine j_iadd C dL_law_341 ?_
          refine j_sld hS dL_law_342 ?_
          refine j_cvi C dL_law_343 lk_L_45 mw_X8_seeds (m_X8_seeds adr (xs (x3 + 1).toNatClampNeg)) ⟨rfl, rfl, Nat.le_of_ble_eq_true rfl, Nat.le_of_ble_eq_true rfl⟩ kd_0 (by decide) (Nat.le_of_ble_eq_true rfl) rfl rfl (st := []) (st0 := [.int (xs (x3 + 1).toNatClampNeg), .ref (adr 0)]) rfl (Nat.le_of_ble_eq_true rfl) (fun v30 S29 => ?_)
          refine j_aload_n C dL_law_346 2 rfl rfl ?_
          refine j_aload_n C dL_law_347 0 rfl rfl ?_
          refine j_iload_n C dL_law_348 3 rfl rfl ?_
          refine j_iconst C dL_law_349 (v := 1) rfl ?_
          refine j_iadd C dL_law_350 ?_
          refine j_sld hS dL_law_351 ?_
          refine j_cvi C dL_law_352 lk_L_48 mw_X9_seeds (m_X9_seeds adr (xs (x3 + 1).toNatClampNeg)) ⟨rfl, rfl, Nat.le_of_ble_eq_true rfl, Nat.le_of_ble_eq_true rfl⟩ kd_27 (by decide) (Nat.le_of_ble_eq_true rfl) rfl rfl (st := [.int v30]) (st0 := [.int (xs (x3 + 1).toNatClampNeg), .ref (adr 27), .int v30]) rfl (Nat.le_of_ble_eq_true rfl) (fun v32 S31 => ?_)
          refine j_icmp_eq C dL_law_355 (tgt := 835) (by decide) ?_ ?_
          · exact b_L_835 C hR L xs b hS (f_L_18 L xs n) ih x3 S31
          · refine j_iconst C dL_law_358 (v := 0) rfl ?_
            exact fun h => by cases h⟩
        | 8, _ => ⟨_, 360, rfl, by decide, by
          refine j_aload_n C dL_law_360 1 rfl rfl ?_
          refine j_cvi C dL_law_361 lk_L_49 mw_X8_undo (m_X8_undo adr ) ⟨rfl, rfl, Nat.le_of_ble_eq_true rfl, Nat.le_of_ble_eq_true rfl⟩ kd_0 (by decide) (Nat.le_of_ble_eq_true rfl) rfl rfl (st := []) (st0 := [.ref (adr 0)]) rfl (Nat.le_of_ble_eq_true rfl) (fun v34 S33 => ?_)
          refine j_aload_n C dL_law_364 2 rfl rfl ?_
          refine j_cvi C dL_law_365 lk_L_52 mw_X9_undo (m_X9_undo adr ) ⟨rfl, rfl, Nat.le_of_ble_eq_true rfl, Nat.le_of_ble_eq_true rfl⟩ kd_27 (by decide) (Nat.le_of_ble_eq_true rfl) rfl rfl (st := [.int v34]) (st0 := [.ref (adr 27), .int v34]) rfl (Nat.le_of_ble_eq_true rfl) (fun v36 S35 => ?_)
          refine j_icmp_eq C dL_law_368 (tgt := 835) (by decide) ?_ ?_
          · exact b_L_835 C hR L xs b hS (f_L_18 L xs n) ih x3 S35
          · refine j_iconst C dL_law_371 (v := 0) rfl ?_
            exact fun h => by cases h⟩
        | 9, _ => ⟨_, 373, rfl, by decide, by
          refine j_aload_n C dL_law_373 1 rfl rfl ?_
          refine j_aload_n C dL_law_374 0 rfl rfl ?_
          refine j_iload_n C dL_law_375 3 rfl rfl ?_
          refine j_iconst C dL_law_376 (v := 1) rfl ?_
          refine j_iadd C dL_law_377 ?_
          refine j_sld hS dL_law_378 ?_
          refine j_aload_n C dL_law_379 0 rfl rfl ?_
          refine j_iload_n C dL_law_380 3 rfl rfl ?_
          refine j_iconst C dL_law_381 (v := 2) rfl ?_
          refine j_iadd C dL_law_382 ?_
          refine j_sld hS dL_law_383 ?_
          refine j_cvi C dL_law_384 lk_L_53 mw_X8_cell (m_X8_cell adr (xs (x3 + 1).toNatClampNeg) (xs (x3 + 2).toNatClampNeg)) ⟨rfl, rfl, Nat.le_of_ble_eq_true rfl, Nat.le_of_ble_eq_true rfl⟩ kd_0 (by decide) (Nat.le_of_ble_eq_true rfl) rfl rfl (st := []) (st0 := [.int (xs (x3 + 2).toNatClampNeg), .int (xs (x3 + 1).toNatClampNeg), .ref (adr 0)]) rfl (Nat.le_of_ble_eq_true rfl) (fun v38 S37 => ?_)
          refine j_aload_n C dL_law_387 2 rfl rfl ?_
          refine j_aload_n C dL_law_388 0 rfl rfl ?_
          refine j_iload_n C dL_law_389 3 rfl rfl ?_
          refine j_iconst C dL_law_390 (v := 1) rfl ?_
          refine j_iadd C dL_law_391 ?_
          refine j_sld hS dL_law_392 ?_
          refine j_aload_n C dL_law_393 0 rfl rfl ?_
          refine j_iload_n C dL_law_394 3 rfl rfl ?_
          refine j_iconst C dL_law_395 (v := 2) rfl ?_
          refine j_iadd C dL_law_396 ?_
          refine j_sld hS dL_law_397 ?_
          refine j_cvi C dL_law_398 lk_L_56 mw_X9_cell (m_X9_cell adr (xs (x3 + 1).toNatClampNeg) (xs (x3 + 2).toNatClampNeg)) ⟨rfl, rfl, Nat.le_of_ble_eq_true rfl, Nat.le_of_ble_eq_true rfl⟩ kd_27 (by decide) (Nat.le_of_ble_eq_true rfl) rfl rfl (st := [.int v38]) (st0 := [.int (xs (x3 + 2).toNatClampNeg), .int (xs (x3 + 1).toNatClampNeg), .ref (adr 27), .int v38]) rfl (Nat.le_of_ble_eq_true rfl) (fun v40 S39 => ?_)
          refine j_icmp_eq C dL_law_401 (tgt := 835) (by decide) ?_ ?_
          · exact b_L_835 C hR L xs b hS (f_L_18 L xs n) ih x3 S39
          · refine j_iconst C dL_law_404 (v := 0) rfl ?_
            exact fun h => by cases h⟩
        | 10, _ => ⟨_, 406, rfl, by decide, by
          refine j_aload_n C dL_law_406 1 rfl rfl ?_
          refine j_aload_n C dL_law_407 0 rfl rfl ?_
          refine j_iload_n C dL_law_408 3 rfl rfl ?_
          refine j_iconst C dL_law_409 (v := 1) rfl ?_
          refine j_iadd C dL_law_410 ?_
          refine j_sld hS dL_law_411 ?_
          refine j_aload_n C dL_law_412 0 rfl rfl ?_
          refine j_iload_n C dL_law_413 3 rfl rfl ?_
          refine j_iconst C dL_law_414 (v := 2) rfl ?_
          refine j_iadd C dL_law_415 ?_
          refine j_sld hS dL_law_416 ?_
          refine j_cvi C dL_law_417 lk_L_57 mw_X8_call (m_X8_call adr (xs (x3 + 1).toNatClampNeg) (xs (x3 + 2).toNatClampNeg)) ⟨rfl, rfl, Nat.le_of_ble_eq_true rfl, Nat.le_of_ble_eq_true rfl⟩ kd_0 (by decide) (Nat.le_of_ble_eq_true rfl) rfl rfl (st := []) (st0 := [.int (xs (x3 + 2).toNatClampNeg), .int (xs (x3 + 1).toNatClampNeg), .ref (adr 0)]) rfl (Nat.le_of_ble_eq_true rfl) (fun v42 S41 => ?_)
          refine j_aload_n C dL_law_420 2 rfl rfl ?_
          refine j_aload_n C dL_law_421 0 rfl rfl ?_
          refine j_iload_n C dL_law_422 3 rfl rfl ?_
          refine j_iconst C dL_law_423 (v := 1) rfl ?_
          refine j_iadd C dL_law_424 ?_
          refine j_sld hS dL_law_425 ?_
          refine j_aload_n C dL_law_426 0 rfl rfl ?_
          refine j_iload_n C dL_law_427 3 rfl rfl ?_
          refine j_iconst C dL_law_428 (v := 2) rfl ?_
          refine j_iadd C dL_law_429 ?_
          refine j_sld hS dL_law_430 ?_
          refine j_cvi C dL_law_431 lk_L_60 mw_X9_call (m_X9_call adr (xs (x3 + 1).toNatClampNeg) (xs (x3 + 2).toNatClampNeg)) ⟨rfl, rfl, Nat.le_of_ble_eq_true rfl, Nat.le_of_ble_eq_true rfl⟩ kd_27 (by decide) (Nat.le_of_ble_eq_true rfl) rfl rfl (st := [.int v42]) (st0 := [.int (xs (x3 + 2).toNatClampNeg), .int (xs (x3 + 1).toNatClampNeg), .ref (adr 27), .int v42]) rfl (Nat.le_of_ble_eq_true rfl) (fun v44 S43 => ?_)
          refine j_icmp_eq C dL_law_434 (tgt := 835) (by decide) ?_ ?_
          · exact b_L_835 C hR L xs b hS (f_L_18 L xs n) ih x3 S43
          · refine j_iconst C dL_law_437 (v := 0) rfl ?_
            exact fun h => by cases h⟩
        | 11, _ => ⟨_, 439, rfl, by decide, by
          refine j_aload_n C dL_law_439 1 rfl rfl ?_
          refine j_aload_n C dL_law_440 0 rfl rfl ?_
          refine j_iload_n C dL_law_441 3 rfl rfl ?_
          refine j_iconst C dL_law_442 (v := 1) rfl ?_
          refine j_iadd C dL_law_443 ?_
          refine j_sld hS dL_law_444 ?_
          refine j_aload_n C dL_law_445 0 rfl rfl ?_
          refine j_iload_n C dL_law_446 3 rfl rfl ?_
          refine j_iconst C dL_law_447 (v := 2) rfl ?_
          refine j_iadd C dL_law_448 ?_
          refine j_sld hS dL_law_449 ?_
          refine j_aload_n C dL_law_450 0 rfl rfl ?_
          refine j_iload_n C dL_law_451 3 rfl rfl ?_
          refine j_iconst C dL_law_452 (v := 3) rfl ?_
          refine j_iadd C dL_law_453 ?_
          refine j_sld hS dL_law_454 ?_
          refine j_cvi C dL_law_455 lk_L_61 mw_X8_level (m_X8_level adr (xs (x3 + 1).toNatClampNeg) (xs (x3 + 2).toNatClampNeg) (xs (x3 + 3).toNatClampNeg)) ⟨rfl, rfl, Nat.le_of_ble_eq_true rfl, Nat.le_of_ble_eq_true rfl⟩ kd_0 (by decide) (Nat.le_of_ble_eq_true rfl) rfl rfl (st := []) (st0 := [.int (xs (x3 + 3).toNatClampNeg), .int (xs (x3 + 2).toNatClampNeg), .int (xs (x3 + 1).toNatClampNeg), .ref (adr 0)]) rfl (Nat.le_of_ble_eq_true rfl) (fun v46 S45 => ?_)
          refine j_aload_n C dL_law_458 2 rfl rfl ?_
          refine j_aload_n C dL_law_459 0 rfl rfl ?_
          refine j_iload_n C dL_law_460 3 rfl rfl ?_
          refine j_iconst C dL_law_461 (v := 1) rfl ?_
          refine j_iadd C dL_law_462 ?_
          refine j_sld hS dL_law_463 ?_
          refine j_aload_n C dL_law_464 0 rfl rfl ?_
          refine j_iload_n C dL_law_465 3 rfl rfl ?_
          refine j_iconst C dL_law_466 (v := 2) rfl ?_
          refine j_iadd C dL_law_467 ?_
          refine j_sld hS dL_law_468 ?_
          refine j_aload_n C dL_law_469 0 rfl rfl ?_
          refine j_iload_n C dL_law_470 3 rfl rfl ?_
          refine j_iconst C dL_law_471 (v := 3) rfl ?_
          refine j_iadd C dL_law_472 ?_
          refine j_sld hS dL_law_473 ?_
          refine j_cvi C dL_law_474 lk_L_65 mw_X9_level (m_X9_level adr (xs (x3 + 1).toNatClampNeg) (xs (x3 + 2).toNatClampNeg) (xs (x3 + 3).toNatClampNeg)) ⟨rfl, rfl, Nat.le_of_ble_eq_true rfl, Nat.le_of_ble_eq_true rfl⟩ kd_27 (by decide) (Nat.le_of_ble_eq_true rfl) rfl rfl (st := [.int v46]) (st0 := [.int (xs (x3 + 3).toNatClampNeg), .int (xs (x3 + 2).toNatClampNeg), .int (xs (x3 + 1).toNatClampNeg), .ref (adr 27), .int v46]) rfl (Nat.le_of_ble_eq_true rfl) (fun v48 S47 => ?_)
          refine j_icmp_eq C dL_law_477 (tgt := 835) (by decide) ?_ ?_
          · exact b_L_835 C hR L xs b hS (f_L_18 L xs n) ih x3 S47
          · refine j_iconst C dL_law_480 (v := 0) rfl ?_
            exact fun h => by cases h⟩
        | 12, _ => ⟨_, 482, rfl, by decide, by
          refine j_aload_n C dL_law_482 1 rfl rfl ?_
          refine j_aload_n C dL_law_483 0 rfl rfl ?_
          refine j_iload_n C dL_law_484 3 rfl rfl ?_
          refine j_iconst C dL_law_485 (v := 1) rfl ?_
          refine j_iadd C dL_law_486 ?_
          refine j_sld hS dL_law_487 ?_
          refine j_aload_n C dL_law_488 0 rfl rfl ?_
          refine j_iload_n C dL_law_489 3 rfl rfl ?_
          refine j_iconst C dL_law_490 (v := 2) rfl ?_
          refine j_iadd C dL_law_491 ?_
          refine j_sld hS dL_law_492 ?_
          refine j_cvi C dL_law_493 lk_L_66 mw_X8_queued (m_X8_queued adr (xs (x3 + 1).toNatClampNeg) (xs (x3 + 2).toNatClampNeg)) ⟨rfl, rfl, Nat.le_of_ble_eq_true rfl, Nat.le_of_ble_eq_true rfl⟩ kd_0 (by decide) (Nat.le_of_ble_eq_true rfl) rfl rfl (st := []) (st0 := [.int (xs (x3 + 2).toNatClampNeg), .int (xs (x3 + 1).toNatClampNeg), .ref (adr 0)]) rfl (Nat.le_of_ble_eq_true rfl) (fun v50 S49 => ?_)
          refine j_aload_n C dL_law_496 2 rfl rfl ?_
          refine j_aload_n C dL_law_497 0 rfl rfl ?_
          refine j_iload_n C dL_law_498 3 rfl rfl ?_
          refine j_iconst C dL_law_499 (v := 1) rfl ?_
          refine j_iadd C dL_law_500 ?_
          refine j_sld hS dL_law_501 ?_
          refine j_aload_n C dL_law_502 0 rfl rfl ?_
          refine j_iload_n C dL_law_503 3 rfl rfl ?_
          refine j_iconst C dL_law_504 (v := 2) rfl ?_
          refine j_iadd C dL_law_505 ?_
          refine j_sld hS dL_law_506 ?_
          refine j_cvi C dL_law_507 lk_L_69 mw_X9_queued (m_X9_queued adr (xs (x3 + 1).toNatClampNeg) (xs (x3 + 2).toNatClampNeg)) ⟨rfl, rfl, Nat.le_of_ble_eq_true rfl, Nat.le_of_ble_eq_true rfl⟩ kd_27 (by decide) (Nat.le_of_ble_eq_true rfl) rfl rfl (st := [.int v50]) (st0 := [.int (xs (x3 + 2).toNatClampNeg), .int (xs (x3 + 1).toNatClampNeg), .ref (adr 27), .int v50]) rfl (Nat.le_of_ble_eq_true rfl) (fun v52 S51 => ?_)
          refine j_icmp_eq C dL_law_510 (tgt := 835) (by decide) ?_ ?_
          · exact b_L_835 C hR L xs b hS (f_L_18 L xs n) ih x3 S51
          · refine j_iconst C dL_law_513 (v := 0) rfl ?_
            exact fun h => by cases h⟩
        | 13, _ => ⟨_, 515, rfl, by decide, by
          refine j_aload_n C dL_law_515 1 rfl rfl ?_
          refine j_aload_n C dL_law_516 0 rfl rfl ?_
          refine j_iload_n C dL_law_517 3 rfl rfl ?_
          refine j_iconst C dL_law_518 (v := 1) rfl ?_
          refine j_iadd C dL_law_519 ?_
          refine j_sld hS dL_law_520 ?_
          refine j_aload_n C dL_law_521 0 rfl rfl ?_
          refine j_iload_n C dL_law_522 3 rfl rfl ?_
          refine j_iconst C dL_law_523 (v := 2) rfl ?_
          refine j_iadd C dL_law_524 ?_
          refine j_sld hS dL_law_525 ?_
          refine j_cvi C dL_law_526 lk_L_70 mw_X8_pair (m_X8_pair adr (xs (x3 + 1).toNatClampNeg) (xs (x3 + 2).toNatClampNeg)) ⟨rfl, rfl, Nat.le_of_ble_eq_true rfl, Nat.le_of_ble_eq_true rfl⟩ kd_0 (by decide) (Nat.le_of_ble_eq_true rfl) rfl rfl (st := []) (st0 := [.int (xs (x3 + 2).toNatClampNeg), .int (xs (x3 + 1).toNatClampNeg), .ref (adr 0)]) rfl (Nat.le_of_ble_eq_true rfl) (fun v54 S53 => ?_)
          refine j_aload_n C dL_law_529 2 rfl rfl ?_
          refine j_aload_n C dL_law_530 0 rfl rfl ?_
          refine j_iload_n C dL_law_531 3 rfl rfl ?_
          refine j_iconst C dL_law_532 (v := 1) rfl ?_
          refine j_iadd C dL_law_533 ?_
          refine j_sld hS dL_law_534 ?_
          refine j_aload_n C dL_law_535 0 rfl rfl ?_
          refine j_iload_n C dL_law_536 3 rfl rfl ?_
          refine j_iconst C dL_law_537 (v := 2) rfl ?_
          refine j_iadd C dL_law_538 ?_
          refine j_sld hS dL_law_539 ?_
          refine j_cvi C dL_law_540 lk_L_73 mw_X9_pair (m_X9_pair adr (xs (x3 + 1).toNatClampNeg) (xs (x3 + 2).toNatClampNeg)) ⟨rfl, rfl, Nat.le_of_ble_eq_true rfl, Nat.le_of_ble_eq_true rfl⟩ kd_27 (by decide) (Nat.le_of_ble_eq_true rfl) rfl rfl (st := [.int v54]) (st0 := [.int (xs (x3 + 2).toNatClampNeg), .int (xs (x3 + 1).toNatClampNeg), .ref (adr 27), .int v54]) rfl (Nat.le_of_ble_eq_true rfl) (fun v56 S55 => ?_)
          refine j_icmp_eq C dL_law_543 (tgt := 835) (by decide) ?_ ?_
          · exact b_L_835 C hR L xs b hS (f_L_18 L xs n) ih x3 S55
          · refine j_iconst C dL_law_546 (v := 0) rfl ?_
            exact fun h => by cases h⟩
        | 14, _ => ⟨_, 548, rfl, by decide, by
          refine j_aload_n C dL_law_548 1 rfl rfl ?_
          refine j_aload_n C dL_law_549 0 rfl rfl ?_
          refine j_iload_n C dL_law_550 3 rfl rfl ?_
          refine j_iconst C dL_law_551 (v := 1) rfl ?_
          refine j_iadd C dL_law_552 ?_
          refine j_sld hS dL_law_553 ?_
          refine j_aload_n C dL_law_554 0 rfl rfl ?_
          refine j_iload_n C dL_law_555 3 rfl rfl ?_
          refine j_iconst C dL_law_556 (v := 2) rfl ?_
          refine j_iadd C dL_law_557 ?_
          refine j_sld hS dL_law_558 ?_
          refine j_aload_n C dL_law_559 0 rfl rfl ?_
          refine j_iload_n C dL_law_560 3 rfl rfl ?_
          refine j_iconst C dL_law_561 (v := 3) rfl ?_
          refine j_iadd C dL_law_562 ?_
          refine j_sld hS dL_law_563 ?_
          refine j_aload_n C dL_law_564 0 rfl rfl ?_
          refine j_iload_n C dL_law_565 3 rfl rfl ?_
          refine j_iconst C dL_law_566 (v := 4) rfl ?_
          refine j_iadd C dL_law_567 ?_
          refine j_sld hS dL_law_568 ?_
          refine j_aload_n C dL_law_569 0 rfl rfl ?_
          refine j_iload_n C dL_law_570 3 rfl rfl ?_
          refine j_iconst C dL_law_571 (v := 5) rfl ?_
          refine j_iadd C dL_law_572 ?_
          refine j_sld hS dL_law_573 ?_
          refine j_aload_n C dL_law_574 0 rfl rfl ?_
          refine j_iload_n C dL_law_575 3 rfl rfl ?_
          refine j_bipush C dL_law_576 (v := 6) rfl ?_
          refine j_iadd C dL_law_578 ?_
          refine j_sld hS dL_law_579 ?_
          refine j_cvl C dL_law_580 lk_L_74 mw_X8_lost (m_X8_lost adr (xs (x3 + 1).toNatClampNeg) (xs (x3 + 2).toNatClampNeg) (xs (x3 + 3).toNatClampNeg) (xs (x3 + 4).toNatClampNeg) (xs (x3 + 5).toNatClampNeg) (xs (x3 + 6).toNatClampNeg)) ⟨rfl, rfl, Nat.le_of_ble_eq_true rfl, Nat.le_of_ble_eq_true rfl⟩ kd_0 (by decide) (Nat.le_of_ble_eq_true rfl) rfl rfl (st := []) (st0 := [.int (xs (x3 + 6).toNatClampNeg), .int (xs (x3 + 5).toNatClampNeg), .int (xs (x3 + 4).toNatClampNeg), .int (xs (x3 + 3).toNatClampNeg), .int (xs (x3 + 2).toNatClampNeg), .int (xs (x3 + 1).toNatClampNeg), .ref (adr 0)]) rfl (Nat.le_of_ble_eq_true rfl) (fun v58 S57 => ?_)
          refine j_aload_n C dL_law_583 2 rfl rfl ?_
          refine j_aload_n C dL_law_584 0 rfl rfl ?_
          refine j_iload_n C dL_law_585 3 rfl rfl ?_
          refine j_iconst C dL_law_586 (v := 1) rfl ?_
          refine j_iadd C dL_law_587 ?_
          refine j_sld hS dL_law_588 ?_
          refine j_aload_n C dL_law_589 0 rfl rfl ?_
          refine j_iload_n C dL_law_590 3 rfl rfl ?_
          refine j_iconst C dL_law_591 (v := 2) rfl ?_
          refine j_iadd C dL_law_592 ?_
          refine j_sld hS dL_law_593 ?_
          refine j_aload_n C dL_law_594 0 rfl rfl ?_
          refine j_iload_n C dL_law_595 3 rfl rfl ?_
          refine j_iconst C dL_law_596 (v := 3) rfl ?_
          refine j_iadd C dL_law_597 ?_
          refine j_sld hS dL_law_598 ?_
          refine j_aload_n C dL_law_599 0 rfl rfl ?_
          refine j_iload_n C dL_law_600 3 rfl rfl ?_
          refine j_iconst C dL_law_601 (v := 4) rfl ?_
          refine j_iadd C dL_law_602 ?_
          refine j_sld hS dL_law_603 ?_
          refine j_aload_n C dL_law_604 0 rfl rfl ?_
          refine j_iload_n C dL_law_605 3 rfl rfl ?_
          refine j_iconst C dL_law_606 (v := 5) rfl ?_
          refine j_iadd C dL_law_607 ?_
          refine j_sld hS dL_law_608 ?_
          refine j_aload_n C dL_law_609 0 rfl rfl ?_
          refine j_iload_n C dL_law_610 3 rfl rfl ?_
          refine j_bipush C dL_law_611 (v := 6) rfl ?_
          refine j_iadd C dL_law_613 ?_
          refine j_sld hS dL_law_614 ?_
          refine j_cvl C dL_law_615 lk_L_78 mw_X9_lost (m_X9_lost adr (xs (x3 + 1).toNatClampNeg) (xs (x3 + 2).toNatClampNeg) (xs (x3 + 3).toNatClampNeg) (xs (x3 + 4).toNatClampNeg) (xs (x3 + 5).toNatClampNeg) (xs (x3 + 6).toNatClampNeg)) ⟨rfl, rfl, Nat.le_of_ble_eq_true rfl, Nat.le_of_ble_eq_true rfl⟩ kd_27 (by decide) (Nat.le_of_ble_eq_true rfl) rfl rfl (st := [.long v58]) (st0 := [.int (xs (x3 + 6).toNatClampNeg), .int (xs (x3 + 5).toNatClampNeg), .int (xs (x3 + 4).toNatClampNeg), .int (xs (x3 + 3).toNatClampNeg), .int (xs (x3 + 2).toNatClampNeg), .int (xs (x3 + 1).toNatClampNeg), .ref (adr 27), .long v58]) rfl (Nat.le_of_ble_eq_true rfl) (fun v60 S59 => ?_)
          refine j_lcmp C dL_law_618 ?_
          refine j_if_eq C dL_law_619 (tgt := 835) (by decide) ?_ ?_
          · exact b_L_835 C hR L xs b hS (f_L_18 L xs n) ih x3 S59
          · refine j_iconst C dL_law_622 (v := 0) rfl ?_
            exact fun h => by cases h⟩
        | 15, _ => ⟨_, 624, rfl, by decide, by
          refine j_aload_n C dL_law_624 1 rfl rfl ?_
          refine j_aload_n C dL_law_625 0 rfl rfl ?_
          refine j_iload_n C dL_law_626 3 rfl rfl ?_
          refine j_iconst C dL_law_627 (v := 1) rfl ?_
          refine j_iadd C dL_law_628 ?_
          refine j_sld hS dL_law_629 ?_
          refine j_aload_n C dL_law_630 0 rfl rfl ?_
          refine j_iload_n C dL_law_631 3 rfl rfl ?_
          refine j_iconst C dL_law_632 (v := 2) rfl ?_
          refine j_iadd C dL_law_633 ?_
          refine j_sld hS dL_law_634 ?_
          refine j_aload_n C dL_law_635 0 rfl rfl ?_
          refine j_iload_n C dL_law_636 3 rfl rfl ?_
          refine j_iconst C dL_law_637 (v := 3) rfl ?_
          refine j_iadd C dL_law_638 ?_
          refine j_sld hS dL_law_639 ?_
          refine j_aload_n C dL_law_640 0 rfl rfl ?_
          refine j_iload_n C dL_law_641 3 rfl rfl ?_
          refine j_iconst C dL_law_642 (v := 4) rfl ?_
          refine j_iadd C dL_law_643 ?_
          refine j_sld hS dL_law_644 ?_
          refine j_aload_n C dL_law_645 0 rfl rfl ?_
          refine j_iload_n C dL_law_646 3 rfl rfl ?_
          refine j_iconst C dL_law_647 (v := 5) rfl ?_
          refine j_iadd C dL_law_648 ?_
          refine j_sld hS dL_law_649 ?_
          refine j_cvi C dL_law_650 lk_L_79 mw_X8_best (m_X8_best adr (xs (x3 + 1).toNatClampNeg) (xs (x3 + 2).toNatClampNeg) (xs (x3 + 3).toNatClampNeg) (xs (x3 + 4).toNatClampNeg) (xs (x3 + 5).toNatClampNeg)) ⟨rfl, rfl, Nat.le_of_ble_eq_true rfl, Nat.le_of_ble_eq_true rfl⟩ kd_0 (by decide) (Nat.le_of_ble_eq_true rfl) rfl rfl (st := []) (st0 := [.int (xs (x3 + 5).toNatClampNeg), .int (xs (x3 + 4).toNatClampNeg), .int (xs (x3 + 3).toNatClampNeg), .int (xs (x3 + 2).toNatClampNeg), .int (xs (x3 + 1).toNatClampNeg), .ref (adr 0)]) rfl (Nat.le_of_ble_eq_true rfl) (fun v62 S61 => ?_)
          refine j_aload_n C dL_law_653 2 rfl rfl ?_
          refine j_aload_n C dL_law_654 0 rfl rfl ?_
          refine j_iload_n C dL_law_655 3 rfl rfl ?_
          refine j_iconst C dL_law_656 (v := 1) rfl ?_
          refine j_iadd C dL_law_657 ?_
          refine j_sld hS dL_law_658 ?_
          refine j_aload_n C dL_law_659 0 rfl rfl ?_
          refine j_iload_n C dL_law_660 3 rfl rfl ?_
          refine j_iconst C dL_law_661 (v := 2) rfl ?_
          refine j_iadd C dL_law_662 ?_
          refine j_sld hS dL_law_663 ?_
          refine j_aload_n C dL_law_664 0 rfl rfl ?_
          refine j_iload_n C dL_law_665 3 rfl rfl ?_
          refine j_iconst C dL_law_666 (v := 3) rfl ?_
          refine j_iadd C dL_law_667 ?_
          refine j_sld hS dL_law_668 ?_
          refine j_aload_n C dL_law_669 0 rfl rfl ?_
          refine j_iload_n C dL_law_670 3 rfl rfl ?_
          refine j_iconst C dL_law_671 (v := 4) rfl ?_
          refine j_iadd C dL_law_672 ?_
          refine j_sld hS dL_law_673 ?_
          refine j_aload_n C dL_law_674 0 rfl rfl ?_
          refine j_iload_n C dL_law_675 3 rfl rfl ?_
          refine j_iconst C dL_law_676 (v := 5) rfl ?_
          refine j_iadd C dL_law_677 ?_
          refine j_sld hS dL_law_678 ?_
          refine j_cvi C dL_law_679 lk_L_82 mw_X9_best (m_X9_best adr (xs (x3 + 1).toNatClampNeg) (xs (x3 + 2).toNatClampNeg) (xs (x3 + 3).toNatClampNeg) (xs (x3 + 4).toNatClampNeg) (xs (x3 + 5).toNatClampNeg)) ⟨rfl, rfl, Nat.le_of_ble_eq_true rfl, Nat.le_of_ble_eq_true rfl⟩ kd_27 (by decide) (Nat.le_of_ble_eq_true rfl) rfl rfl (st := [.int v62]) (st0 := [.int (xs (x3 + 5).toNatClampNeg), .int (xs (x3 + 4).toNatClampNeg), .int (xs (x3 + 3).toNatClampNeg), .int (xs (x3 + 2).toNatClampNeg), .int (xs (x3 + 1).toNatClampNeg), .ref (adr 27), .int v62]) rfl (Nat.le_of_ble_eq_true rfl) (fun v64 S63 => ?_)
          refine j_icmp_eq C dL_law_682 (tgt := 835) (by decide) ?_ ?_
          · exact b_L_835 C hR L xs b hS (f_L_18 L xs n) ih x3 S63
          · refine j_iconst C dL_law_685 (v := 0) rfl ?_
            exact fun h => by cases h⟩
        | 16, _ => ⟨_, 687, rfl, by decide, by
          refine j_aload_n C dL_law_687 1 rfl rfl ?_
          refine j_aload_n C dL_law_688 0 rfl rfl ?_
          refine j_iload_n C dL_law_689 3 rfl rfl ?_
          refine j_iconst C dL_law_690 (v := 1) rfl ?_
          refine j_iadd C dL_law_691 ?_
          refine j_sld hS dL_law_692 ?_
          refine j_aload_n C dL_law_693 0 rfl rfl ?_
          refine j_iload_n C dL_law_694 3 rfl rfl ?_
          refine j_iconst C dL_law_695 (v := 2) rfl ?_
          refine j_iadd C dL_law_696 ?_
          refine j_sld hS dL_law_697 ?_
          refine j_cvi C dL_law_698 lk_L_83 mw_X8_sees (m_X8_sees adr (xs (x3 + 1).toNatClampNeg) (xs (x3 + 2).toNatClampNeg)) ⟨rfl, rfl, Nat.le_of_ble_eq_true rfl, Nat.le_of_ble_eq_true rfl⟩ kd_0 (by decide) (Nat.le_of_ble_eq_true rfl) rfl rfl (st := []) (st0 := [.int (xs (x3 + 2).toNatClampNeg), .int (xs (x3 + 1).toNatClampNeg), .ref (adr 0)]) rfl (Nat.le_of_ble_eq_true rfl) (fun v66 S65 => ?_)
          refine j_aload_n C dL_law_701 2 rfl rfl ?_
          refine j_aload_n C dL_law_702 0 rfl rfl ?_
          refine j_iload_n C dL_law_703 3 rfl rfl ?_
          refine j_iconst C dL_law_704 (v := 1) rfl ?_
          refine j_iadd C dL_law_705 ?_
          refine j_sld hS dL_law_706 ?_
          refine j_aload_n C dL_law_707 0 rfl rfl ?_
          refine j_iload_n C dL_law_708 3 rfl rfl ?_
          refine j_iconst C dL_law_709 (v := 2) rfl ?_
          refine j_iadd C dL_law_710 ?_
          refine j_sld hS dL_law_711 ?_
          refine j_cvi C dL_law_712 lk_L_86 mw_X9_sees (m_X9_sees adr (xs (x3 + 1).toNatClampNeg) (xs (x3 + 2).toNatClampNeg)) ⟨rfl, rfl, Nat.le_of_ble_eq_true rfl, Nat.le_of_ble_eq_true rfl⟩ kd_27 (by decide) (Nat.le_of_ble_eq_true rfl) rfl rfl (st := [.int v66]) (st0 := [.int (xs (x3 + 2).toNatClampNeg), .int (xs (x3 + 1).toNatClampNeg), .ref (adr 27), .int v66]) rfl (Nat.le_of_ble_eq_true rfl) (fun v68 S67 => ?_)
          refine j_icmp_eq C dL_law_715 (tgt := 835) (by decide) ?_ ?_
          · exact b_L_835 C hR L xs b hS (f_L_18 L xs n) ih x3 S67
          · refine j_iconst C dL_law_718 (v := 0) rfl ?_
            exact fun h => by cases h⟩
        | 17, _ => ⟨_, 720, rfl, by decide, by
          refine j_aload_n C dL_law_720 1 rfl rfl ?_
          refine j_cvi C dL_law_721 lk_L_87 mw_X8_forget (m_X8_forget adr ) ⟨rfl, rfl, Nat.le_of_ble_eq_true rfl, Nat.le_of_ble_eq_true rfl⟩ kd_0 (by decide) (Nat.le_of_ble_eq_true rfl) rfl rfl (st := []) (st0 := [.ref (adr 0)]) rfl (Nat.le_of_ble_eq_true rfl) (fun v70 S69 => ?_)
          refine j_aload_n C dL_law_724 2 rfl rfl ?_
          refine j_cvi C dL_law_725 lk_L_90 mw_X9_forget (m_X9_forget adr ) ⟨rfl, rfl, Nat.le_of_ble_eq_true rfl, Nat.le_of_ble_eq_true rfl⟩ kd_27 (by decide) (Nat.le_of_ble_eq_true rfl) rfl rfl (st := [.int v70]) (st0 := [.ref (adr 27), .int v70]) rfl (Nat.le_of_ble_eq_true rfl) (fun v72 S71 => ?_)
          refine j_icmp_eq C dL_law_728 (tgt := 835) (by decide) ?_ ?_
          · exact b_L_835 C hR L xs b hS (f_L_18 L xs n) ih x3 S71
          · refine j_iconst C dL_law_731 (v := 0) rfl ?_
            exact fun h => by cases h⟩
        | 18, _ => ⟨_, 733, rfl, by decide, by
          refine j_aload_n C dL_law_733 1 rfl rfl ?_
          refine j_aload_n C dL_law_734 0 rfl rfl ?_
          refine j_iload_n C dL_law_735 3 rfl rfl ?_
          refine j_iconst C dL_law_736 (v := 1) rfl ?_
          refine j_iadd C dL_law_737 ?_
          refine j_sld hS dL_law_738 ?_
          refine j_aload_n C dL_law_739 0 rfl rfl ?_
          refine j_iload_n C dL_law_740 3 rfl rfl ?_
          refine j_iconst C dL_law_741 (v := 2) rfl ?_
          refine j_iadd C dL_law_742 ?_
          refine j_sld hS dL_law_743 ?_
          refine j_cvi C dL_law_744 lk_L_91 mw_X8_unseen (m_X8_unseen adr (xs (x3 + 1).toNatClampNeg) (xs (x3 + 2).toNatClampNeg)) ⟨rfl, rfl, Nat.le_of_ble_eq_true rfl, Nat.le_of_ble_eq_true rfl⟩ kd_0 (by decide) (Nat.le_of_ble_eq_true rfl) rfl rfl (st := []) (st0 := [.int (xs (x3 + 2).toNatClampNeg), .int (xs (x3 + 1).toNatClampNeg), .ref (adr 0)]) rfl (Nat.le_of_ble_eq_true rfl) (fun v74 S73 => ?_)
          refine j_aload_n C dL_law_747 2 rfl rfl ?_
          refine j_aload_n C dL_law_748 0 rfl rfl ?_
          refine j_iload_n C dL_law_749 3 rfl rfl ?_
          refine j_iconst C dL_law_750 (v := 1) rfl ?_
          refine j_iadd C dL_law_751 ?_
          refine j_sld hS dL_law_752 ?_
          refine j_aload_n C dL_law_753 0 rfl rfl ?_
          refine j_iload_n C dL_law_754 3 rfl rfl ?_
          refine j_iconst C dL_law_755 (v := 2) rfl ?_
          refine j_iadd C dL_law_756 ?_
          refine j_sld hS dL_law_757 ?_
          refine j_cvi C dL_law_758 lk_L_94 mw_X9_unseen (m_X9_unseen adr (xs (x3 + 1).toNatClampNeg) (xs (x3 + 2).toNatClampNeg)) ⟨rfl, rfl, Nat.le_of_ble_eq_true rfl, Nat.le_of_ble_eq_true rfl⟩ kd_27 (by decide) (Nat.le_of_ble_eq_true rfl) rfl rfl (st := [.int v74]) (st0 := [.int (xs (x3 + 2).toNatClampNeg), .int (xs (x3 + 1).toNatClampNeg), .ref (adr 27), .int v74]) rfl (Nat.le_of_ble_eq_true rfl) (fun v76 S75 => ?_)
          refine j_icmp_eq C dL_law_761 (tgt := 835) (by decide) ?_ ?_
          · exact b_L_835 C hR L xs b hS (f_L_18 L xs n) ih x3 S75
          · refine j_iconst C dL_law_764 (v := 0) rfl ?_
            exact fun h => by cases h⟩
        | 19, _ => ⟨_, 766, rfl, by decide, by
          refine j_aload_n C dL_law_766 1 rfl rfl ?_
          refine j_aload_n C dL_law_767 0 rfl rfl ?_
          refine j_iload_n C dL_law_768 3 rfl rfl ?_
          refine j_iconst C dL_law_769 (v := 1) rfl ?_
          refine j_iadd C dL_law_770 ?_
          refine j_sld hS dL_law_771 ?_
          refine j_cvi C dL_law_772 lk_L_95 mw_X8_keep (m_X8_keep adr (xs (x3 + 1).toNatClampNeg)) ⟨rfl, rfl, Nat.le_of_ble_eq_true rfl, Nat.le_of_ble_eq_true rfl⟩ kd_0 (by decide) (Nat.le_of_ble_eq_true rfl) rfl rfl (st := []) (st0 := [.int (xs (x3 + 1).toNatClampNeg), .ref (adr 0)]) rfl (Nat.le_of_ble_eq_true rfl) (fun v78 S77 => ?_)
          refine j_aload_n C dL_law_775 2 rfl rfl ?_
          refine j_aload_n C dL_law_776 0 rfl rfl ?_
          refine j_iload_n C dL_law_777 3 rfl rfl ?_
          refine j_iconst C dL_law_778 (v := 1) rfl ?_
          refine j_iadd C dL_law_779 ?_
          refine j_sld hS dL_law_780 ?_
          refine j_cvi C dL_law_781 lk_L_98 mw_X9_keep (m_X9_keep adr (xs (x3 + 1).toNatClampNeg)) ⟨rfl, rfl, Nat.le_of_ble_eq_true rfl, Nat.le_of_ble_eq_true rfl⟩ kd_27 (by decide) (Nat.le_of_ble_eq_true rfl) rfl rfl (st := [.int v78]) (st0 := [.int (xs (x3 + 1).toNatClampNeg), .ref (adr 27), .int v78]) rfl (Nat.le_of_ble_eq_true rfl) (fun v80 S79 => ?_)
          refine j_icmp_eq C dL_law_784 (tgt := 835) (by decide) ?_ ?_
          · exact b_L_835 C hR L xs b hS (f_L_18 L xs n) ih x3 S79
          · refine j_iconst C dL_law_787 (v := 0) rfl ?_
            exact fun h => by cases h⟩
        | 20, _ => ⟨_, 789, rfl, by decide, by
          refine j_aload_n C dL_law_789 1 rfl rfl ?_
          refine j_aload_n C dL_law_790 0 rfl rfl ?_
          refine j_iload_n C dL_law_791 3 rfl rfl ?_
          refine j_iconst C dL_law_792 (v := 1) rfl ?_
          refine j_iadd C dL_law_793 ?_
          refine j_sld hS dL_law_794 ?_
          refine j_cvi C dL_law_795 lk_L_99 mw_X8_back (m_X8_back adr (xs (x3 + 1).toNatClampNeg)) ⟨rfl, rfl, Nat.le_of_ble_eq_true rfl, Nat.le_of_ble_eq_true rfl⟩ kd_0 (by decide) (Nat.le_of_ble_eq_true rfl) rfl rfl (st := []) (st0 := [.int (xs (x3 + 1).toNatClampNeg), .ref (adr 0)]) rfl (Nat.le_of_ble_eq_true rfl) (fun v82 S81 => ?_)
          refine j_aload_n C dL_law_798 2 rfl rfl ?_
          refine j_aload_n C dL_law_799 0 rfl rfl ?_
          refine j_iload_n C dL_law_800 3 rfl rfl ?_
          refine j_iconst C dL_law_801 (v := 1) rfl ?_
          refine j_iadd C dL_law_802 ?_
          refine j_sld hS dL_law_803 ?_
          refine j_cvi C dL_law_804 lk_L_102 mw_X9_back (m_X9_back adr (xs (x3 + 1).toNatClampNeg)) ⟨rfl, rfl, Nat.le_of_ble_eq_true rfl, Nat.le_of_ble_eq_true rfl⟩ kd_27 (by decide) (Nat.le_of_ble_eq_true rfl) rfl rfl (st := [.int v82]) (st0 := [.int (xs (x3 + 1).toNatClampNeg), .ref (adr 27), .int v82]) rfl (Nat.le_of_ble_eq_true rfl) (fun v84 S83 => ?_)
          refine j_icmp_eq C dL_law_807 (tgt := 835) (by decide) ?_ ?_
          · exact b_L_835 C hR L xs b hS (f_L_18 L xs n) ih x3 S83
          · refine j_iconst C dL_law_810 (v := 0) rfl ?_
            exact fun h => by cases h⟩
        | 21, _ => ⟨_, 812, rfl, by decide, by
          refine j_aload_n C dL_law_812 1 rfl rfl ?_
          refine j_aload_n C dL_law_813 0 rfl rfl ?_
          refine j_iload_n C dL_law_814 3 rfl rfl ?_
          refine j_iconst C dL_law_815 (v := 1) rfl ?_
          refine j_iadd C dL_law_816 ?_
          refine j_sld hS dL_law_817 ?_
          refine j_cvi C dL_law_818 lk_L_103 mw_X8_count (m_X8_count adr (xs (x3 + 1).toNatClampNeg)) ⟨rfl, rfl, Nat.le_of_ble_eq_true rfl, Nat.le_of_ble_eq_true rfl⟩ kd_0 (by decide) (Nat.le_of_ble_eq_true rfl) rfl rfl (st := []) (st0 := [.int (xs (x3 + 1).toNatClampNeg), .ref (adr 0)]) rfl (Nat.le_of_ble_eq_true rfl) (fun v86 S85 => ?_)
          refine j_aload_n C dL_law_821 2 rfl rfl ?_
          refine j_aload_n C dL_law_822 0 rfl rfl ?_
          refine j_iload_n C dL_law_823 3 rfl rfl ?_
          refine j_iconst C dL_law_824 (v := 1) rfl ?_
          refine j_iadd C dL_law_825 ?_
          refine j_sld hS dL_law_826 ?_
          refine j_cvi C dL_law_827 lk_L_106 mw_X9_count (m_X9_count adr (xs (x3 + 1).toNatClampNeg)) ⟨rfl, rfl, Nat.le_of_ble_eq_true rfl, Nat.le_of_ble_eq_true rfl⟩ kd_27 (by decide) (Nat.le_of_ble_eq_true rfl) rfl rfl (st := [.int v86]) (st0 := [.int (xs (x3 + 1).toNatClampNeg), .ref (adr 27), .int v86]) rfl (Nat.le_of_ble_eq_true rfl) (fun v88 S87 => ?_)
          refine j_icmp_eq C dL_law_830 (tgt := 835) (by decide) ?_ ?_
          · exact b_L_835 C hR L xs b hS (f_L_18 L xs n) ih x3 S87
          · refine j_iconst C dL_law_833 (v := 0) rfl ?_
            exact fun h => by cases h⟩
        | i + 22, hi => absurd hi (by omega)
