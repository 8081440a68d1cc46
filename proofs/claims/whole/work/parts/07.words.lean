theorem in_X0 : ∀ w ∈ u_ws RX0 TX0 5, w ∈ lw_good := by
  intro w hw
  obtain ⟨k, hk, rfl⟩ := List.mem_map.mp hw
  have hk := List.mem_range.mp hk
  exact match k, hk with
  | 0, _ => gd_of (List.mem_of_getElem? (i := 309) (by decide +kernel)) (by decide +kernel)
  | 1, _ => gd_of (List.mem_of_getElem? (i := 311) (by decide +kernel)) (by decide +kernel)
  | 2, _ => gd_of (List.mem_of_getElem? (i := 313) (by decide +kernel)) (by decide +kernel)
  | 3, _ => gd_of (List.mem_of_getElem? (i := 315) (by decide +kernel)) (by decide +kernel)
  | 4, _ => gd_of (List.mem_of_getElem? (i := 317) (by decide +kernel)) (by decide +kernel)
  | k + 5, h => absurd h (by omega)
theorem in_X1 : ∀ w ∈ u_ws RX1 TX1 3, w ∈ lw_good := by
  intro w hw
  obtain ⟨k, hk, rfl⟩ := List.mem_map.mp hw
  have hk := List.mem_range.mp hk
  exact match k, hk with
  | 0, _ => gd_of (List.mem_of_getElem? (i := 333) (by decide +kernel)) (by decide +kernel)
  | 1, _ => gd_of (List.mem_of_getElem? (i := 335) (by decide +kernel)) (by decide +kernel)
  | 2, _ => gd_of (List.mem_of_getElem? (i := 337) (by decide +kernel)) (by decide +kernel)
  | k + 3, h => absurd h (by omega)
theorem in_X2 : ∀ w ∈ u_ws RX2 TX2 2, w ∈ lw_good := by
  intro w hw
  obtain ⟨k, hk, rfl⟩ := List.mem_map.mp hw
  have hk := List.mem_range.mp hk
  exact match k, hk with
  | 0, _ => gd_of (List.mem_of_getElem? (i := 350) (by decide +kernel)) (by decide +kernel)
  | 1, _ => gd_of (List.mem_of_getElem? (i := 352) (by decide +kernel)) (by decide +kernel)
  | k + 2, h => absurd h (by omega)
theorem in_X3 : ∀ w ∈ u_ws RX3 TX3 3, w ∈ lw_good := by
  intro w hw
  obtain ⟨k, hk, rfl⟩ := List.mem_map.mp hw
  have hk := List.mem_range.mp hk
  exact match k, hk with
  | 0, _ => gd_of (List.mem_of_getElem? (i := 365) (by decide +kernel)) (by decide +kernel)
  | 1, _ => gd_of (List.mem_of_getElem? (i := 367) (by decide +kernel)) (by decide +kernel)
  | 2, _ => gd_of (List.mem_of_getElem? (i := 369) (by decide +kernel)) (by decide +kernel)
  | k + 3, h => absurd h (by omega)
theorem in_X4 : ∀ w ∈ u_ws RX4 TX4 8, w ∈ lw_good := by
  intro w hw
  obtain ⟨k, hk, rfl⟩ := List.mem_map.mp hw
  have hk := List.mem_range.mp hk
  exact match k, hk with
  | 0, _ => gd_of (List.mem_of_getElem? (i := 179) (by decide +kernel)) (by decide +kernel)
  | 1, _ => gd_of (List.mem_of_getElem? (i := 181) (by decide +kernel)) (by decide +kernel)
  | 2, _ => gd_of (List.mem_of_getElem? (i := 183) (by decide +kernel)) (by decide +kernel)
  | 3, _ => gd_of (List.mem_of_getElem? (i := 185) (by decide +kernel)) (by decide +kernel)
  | 4, _ => gd_of (List.mem_of_getElem? (i := 187) (by decide +kernel)) (by decide +kernel)
  | 5, _ => gd_of (List.mem_of_getElem? (i := 189) (by decide +kernel)) (by decide +kernel)
  | 6, _ => gd_of (List.mem_of_getElem? (i := 191) (by decide +kernel)) (by decide +kernel)
  | 7, _ => gd_of (List.mem_of_getElem? (i := 193) (by decide +kernel)) (by decide +kernel)
  | k + 8, h => absurd h (by omega)
theorem in_X5 : ∀ w ∈ u_ws RX5 TX5 3, w ∈ lw_good := by
  intro w hw
  obtain ⟨k, hk, rfl⟩ := List.mem_map.mp hw
  have hk := List.mem_range.mp hk
  exact match k, hk with
  | 0, _ => gd_of (List.mem_of_getElem? (i := 383) (by decide +kernel)) (by decide +kernel)
  | 1, _ => gd_of (List.mem_of_getElem? (i := 385) (by decide +kernel)) (by decide +kernel)
  | 2, _ => gd_of (List.mem_of_getElem? (i := 387) (by decide +kernel)) (by decide +kernel)
  | k + 3, h => absurd h (by omega)
theorem in_X6 : ∀ w ∈ u_ws RX6 TX6 5, w ∈ lw_good := by
  intro w hw
  obtain ⟨k, hk, rfl⟩ := List.mem_map.mp hw
  have hk := List.mem_range.mp hk
  exact match k, hk with
  | 0, _ => gd_of (List.mem_of_getElem? (i := 157) (by decide +kernel)) (by decide +kernel)
  | 1, _ => gd_of (List.mem_of_getElem? (i := 159) (by decide +kernel)) (by decide +kernel)
  | 2, _ => gd_of (List.mem_of_getElem? (i := 161) (by decide +kernel)) (by decide +kernel)
  | 3, _ => gd_of (List.mem_of_getElem? (i := 163) (by decide +kernel)) (by decide +kernel)
  | 4, _ => gd_of (List.mem_of_getElem? (i := 165) (by decide +kernel)) (by decide +kernel)
  | k + 5, h => absurd h (by omega)
theorem in_X7 : ∀ w ∈ u_ws RX7 TX7 19, w ∈ lw_good := by
  intro w hw
  obtain ⟨k, hk, rfl⟩ := List.mem_map.mp hw
  have hk := List.mem_range.mp hk
  exact match k, hk with
  | 0, _ => gd_of (List.mem_of_getElem? (i := 259) (by decide +kernel)) (by decide +kernel)
  | 1, _ => gd_of (List.mem_of_getElem? (i := 261) (by decide +kernel)) (by decide +kernel)
  | 2, _ => gd_of (List.mem_of_getElem? (i := 263) (by decide +kernel)) (by decide +kernel)
  | 3, _ => gd_of (List.mem_of_getElem? (i := 265) (by decide +kernel)) (by decide +kernel)
  | 4, _ => gd_of (List.mem_of_getElem? (i := 267) (by decide +kernel)) (by decide +kernel)
  | 5, _ => gd_of (List.mem_of_getElem? (i := 269) (by decide +kernel)) (by decide +kernel)
  | 6, _ => gd_of (List.mem_of_getElem? (i := 271) (by decide +kernel)) (by decide +kernel)
  | 7, _ => gd_of (List.mem_of_getElem? (i := 273) (by decide +kernel)) (by decide +kernel)
  | 8, _ => gd_of (List.mem_of_getElem? (i := 275) (by decide +kernel)) (by decide +kernel)
  | 9, _ => gd_of (List.mem_of_getElem? (i := 277) (by decide +kernel)) (by decide +kernel)
  | 10, _ => gd_of (List.mem_of_getElem? (i := 279) (by decide +kernel)) (by decide +kernel)
  | 11, _ => gd_of (List.mem_of_getElem? (i := 281) (by decide +kernel)) (by decide +kernel)
  | 12, _ => gd_of (List.mem_of_getElem? (i := 283) (by decide +kernel)) (by decide +kernel)
  | 13, _ => gd_of (List.mem_of_getElem? (i := 285) (by decide +kernel)) (by decide +kernel)
  | 14, _ => gd_of (List.mem_of_getElem? (i := 287) (by decide +kernel)) (by decide +kernel)
  | 15, _ => gd_of (List.mem_of_getElem? (i := 289) (by decide +kernel)) (by decide +kernel)
  | 16, _ => gd_of (List.mem_of_getElem? (i := 291) (by decide +kernel)) (by decide +kernel)
  | 17, _ => gd_of (List.mem_of_getElem? (i := 293) (by decide +kernel)) (by decide +kernel)
  | 18, _ => gd_of (List.mem_of_getElem? (i := 295) (by decide +kernel)) (by decide +kernel)
  | k + 19, h => absurd h (by omega)
theorem in_X8 : ∀ w ∈ u_ws RX8 TX8 8, w ∈ lw_good := by
  intro w hw
  obtain ⟨k, hk, rfl⟩ := List.mem_map.mp hw
  have hk := List.mem_range.mp hk
  exact match k, hk with
  | 0, _ => gd_of (List.mem_of_getElem? (i := 398) (by decide +kernel)) (by decide +kernel)
  | 1, _ => gd_of (List.mem_of_getElem? (i := 400) (by decide +kernel)) (by decide +kernel)
  | 2, _ => gd_of (List.mem_of_getElem? (i := 402) (by decide +kernel)) (by decide +kernel)
  | 3, _ => gd_of (List.mem_of_getElem? (i := 404) (by decide +kernel)) (by decide +kernel)
  | 4, _ => gd_of (List.mem_of_getElem? (i := 406) (by decide +kernel)) (by decide +kernel)
  | 5, _ => gd_of (List.mem_of_getElem? (i := 408) (by decide +kernel)) (by decide +kernel)
  | 6, _ => gd_of (List.mem_of_getElem? (i := 410) (by decide +kernel)) (by decide +kernel)
  | 7, _ => gd_of (List.mem_of_getElem? (i := 412) (by decide +kernel)) (by decide +kernel)
  | k + 8, h => absurd h (by omega)
theorem in_X9 : ∀ w ∈ u_ws RX9 TX9 28, w ∈ lw_good := by
  intro w hw
  obtain ⟨k, hk, rfl⟩ := List.mem_map.mp hw
  have hk := List.mem_range.mp hk
  exact match k, hk with
  | 0, _ => gd_of (List.mem_of_getElem? (i := 836) (by decide +kernel)) (by decide +kernel)
  | 1, _ => gd_of (List.mem_of_getElem? (i := 838) (by decide +kernel)) (by decide +kernel)
  | 2, _ => gd_of (List.mem_of_getElem? (i := 840) (by decide +kernel)) (by decide +kernel)
  | 3, _ => gd_of (List.mem_of_getElem? (i := 842) (by decide +kernel)) (by decide +kernel)
  | 4, _ => gd_of (List.mem_of_getElem? (i := 844) (by decide +kernel)) (by decide +kernel)
  | 5, _ => gd_of (List.mem_of_getElem? (i := 846) (by decide +kernel)) (by decide +kernel)
  | 6, _ => gd_of (List.mem_of_getElem? (i := 848) (by decide +kernel)) (by decide +kernel)
  | 7, _ => gd_of (List.mem_of_getElem? (i := 850) (by decide +kernel)) (by decide +kernel)
  | 8, _ => gd_of (List.mem_of_getElem? (i := 852) (by decide +kernel)) (by decide +kernel)
  | 9, _ => gd_of (List.mem_of_getElem? (i := 854) (by decide +kernel)) (by decide +kernel)
  | 10, _ => gd_of (List.mem_of_getElem? (i := 856) (by decide +kernel)) (by decide +kernel)
  | 11, _ => gd_of (List.mem_of_getElem? (i := 858) (by decide +kernel)) (by decide +kernel)
  | 12, _ => gd_of (List.mem_of_getElem? (i := 860) (by decide +kernel)) (by decide +kernel)
  | 13, _ => gd_of (List.mem_of_getElem? (i := 862) (by decide +kernel)) (by decide +kernel)
  | 14, _ => gd_of (List.mem_of_getElem? (i := 864) (by decide +kernel)) (by decide +kernel)
  | 15, _ => gd_of (List.mem_of_getElem? (i := 866) (by decide +kernel)) (by decide +kernel)
  | 16, _ => gd_of (List.mem_of_getElem? (i := 868) (by decide +kernel)) (by decide +kernel)
  | 17, _ => gd_of (List.mem_of_getElem? (i := 870) (by decide +kernel)) (by decide +kernel)
  | 18, _ => gd_of (List.mem_of_getElem? (i := 872) (by decide +kernel)) (by decide +kernel)
  | 19, _ => gd_of (List.mem_of_getElem? (i := 874) (by decide +kernel)) (by decide +kernel)
  | 20, _ => gd_of (List.mem_of_getElem? (i := 876) (by decide +kernel)) (by decide +kernel)
  | 21, _ => gd_of (List.mem_of_getElem? (i := 878) (by decide +kernel)) (by decide +kernel)
  | 22, _ => gd_of (List.mem_of_getElem? (i := 880) (by decide +kernel)) (by decide +kernel)
  | 23, _ => gd_of (List.mem_of_getElem? (i := 882) (by decide +kernel)) (by decide +kernel)
  | 24, _ => gd_of (List.mem_of_getElem? (i := 884) (by decide +kernel)) (by decide +kernel)
  | 25, _ => gd_of (List.mem_of_getElem? (i := 886) (by decide +kernel)) (by decide +kernel)
  | 26, _ => gd_of (List.mem_of_getElem? (i := 888) (by decide +kernel)) (by decide +kernel)
  | 27, _ => gd_of (List.mem_of_getElem? (i := 890) (by decide +kernel)) (by decide +kernel)
  | k + 28, h => absurd h (by omega)
-- GuardCells 1 ('java/lang/Object', '<init>', '()V')
theorem lk_X8_9 : Lk RX8 9 yX4_init := Or.inr (ne_of (List.mem_of_getElem? (i := 119) (by decide +kernel)) rfl)
theorem fl_X8_10 : Fl RX8 10 8 0 := ⟨RX8, TX8, 8, tyX8, rfl, by decide, in_X8, tyX8_ok, nmX8, rfl, Or.inl (gd_of (List.mem_of_getElem? (i := 390) (by decide +kernel)) (by decide +kernel))⟩
theorem lk_X8_18 : Lk RX8 18 yX6_init := Or.inr (ne_of (List.mem_of_getElem? (i := 197) (by decide +kernel)) rfl)
theorem fl_X8_19 : Fl RX8 19 8 1 := ⟨RX8, TX8, 8, tyX8, rfl, by decide, in_X8, tyX8_ok, nmX8, rfl, Or.inl (gd_of (List.mem_of_getElem? (i := 391) (by decide +kernel)) (by decide +kernel))⟩
theorem lk_X8_25 : Lk RX8 25 yX7_init := Or.inr (ne_of (List.mem_of_getElem? (i := 200) (by decide +kernel)) rfl)
theorem fl_X8_26 : Fl RX8 26 8 2 := ⟨RX8, TX8, 8, tyX8, rfl, by decide, in_X8, tyX8_ok, nmX8, rfl, Or.inl (gd_of (List.mem_of_getElem? (i := 392) (by decide +kernel)) (by decide +kernel))⟩
theorem lk_X8_32 : Lk RX8 32 yX0_init := Or.inr (ne_of (List.mem_of_getElem? (i := 300) (by decide +kernel)) rfl)
theorem fl_X8_35 : Fl RX8 35 8 3 := ⟨RX8, TX8, 8, tyX8, rfl, by decide, in_X8, tyX8_ok, nmX8, rfl, Or.inl (gd_of (List.mem_of_getElem? (i := 393) (by decide +kernel)) (by decide +kernel))⟩
theorem lk_X8_41 : Lk RX8 41 yX1_init := Or.inr (ne_of (List.mem_of_getElem? (i := 322) (by decide +kernel)) rfl)
theorem fl_X8_42 : Fl RX8 42 8 4 := ⟨RX8, TX8, 8, tyX8, rfl, by decide, in_X8, tyX8_ok, nmX8, rfl, Or.inl (gd_of (List.mem_of_getElem? (i := 394) (by decide +kernel)) (by decide +kernel))⟩
theorem lk_X8_48 : Lk RX8 48 yX2_init := Or.inr (ne_of (List.mem_of_getElem? (i := 342) (by decide +kernel)) rfl)
theorem fl_X8_49 : Fl RX8 49 8 5 := ⟨RX8, TX8, 8, tyX8, rfl, by decide, in_X8, tyX8_ok, nmX8, rfl, Or.inl (gd_of (List.mem_of_getElem? (i := 395) (by decide +kernel)) (by decide +kernel))⟩
theorem lk_X8_55 : Lk RX8 55 yX3_init := Or.inr (ne_of (List.mem_of_getElem? (i := 358) (by decide +kernel)) rfl)
theorem fl_X8_56 : Fl RX8 56 8 6 := ⟨RX8, TX8, 8, tyX8, rfl, by decide, in_X8, tyX8_ok, nmX8, rfl, Or.inl (gd_of (List.mem_of_getElem? (i := 396) (by decide +kernel)) (by decide +kernel))⟩
theorem lk_X8_62 : Lk RX8 62 yX5_init := Or.inr (ne_of (List.mem_of_getElem? (i := 375) (by decide +kernel)) rfl)
theorem fl_X8_63 : Fl RX8 63 8 7 := ⟨RX8, TX8, 8, tyX8, rfl, by decide, in_X8, tyX8_ok, nmX8, rfl, Or.inl (gd_of (List.mem_of_getElem? (i := 397) (by decide +kernel)) (by decide +kernel))⟩
theorem lk_X8_67 : Lk RX8 67 yX8_within := Or.inl (gd_of (List.mem_of_getElem? (i := 419) (by decide +kernel)) (by decide +kernel))
theorem lk_X8_71 : Lk RX8 71 yX4_append := Or.inr (ne_of (List.mem_of_getElem? (i := 422) (by decide +kernel)) rfl)
theorem fl_X8_75 : Fl RX8 75 4 1 := ⟨RX4, TX4, 8, tyX4, rfl, by decide, in_X4, tyX4_ok, nmX4, rfl, Or.inr (ne_of (List.mem_of_getElem? (i := 171) (by decide +kernel)) rfl)⟩
theorem lk_X8_79 : Lk RX8 79 yX4_read := Or.inr (ne_of (List.mem_of_getElem? (i := 434) (by decide +kernel)) rfl)
theorem fl_X8_83 : Fl RX8 83 4 2 := ⟨RX4, TX4, 8, tyX4, rfl, by decide, in_X4, tyX4_ok, nmX4, rfl, Or.inr (ne_of (List.mem_of_getElem? (i := 173) (by decide +kernel)) rfl)⟩
theorem lk_X8_86 : Lk RX8 86 yX6_copyFrom := Or.inr (ne_of (List.mem_of_getElem? (i := 487) (by decide +kernel)) rfl)
theorem lk_X8_90 : Lk RX8 90 yX7_begin := Or.inr (ne_of (List.mem_of_getElem? (i := 491) (by decide +kernel)) rfl)
theorem lk_X8_93 : Lk RX8 93 yX1_forgetAll := Or.inr (ne_of (List.mem_of_getElem? (i := 496) (by decide +kernel)) rfl)
theorem lk_X8_96 : Lk RX8 96 yX2_forgetAll := Or.inr (ne_of (List.mem_of_getElem? (i := 500) (by decide +kernel)) rfl)
theorem fl_X8_97 : Fl RX8 97 5 0 := ⟨RX5, TX5, 3, tyX5, rfl, by decide, in_X5, tyX5_ok, nmX5, rfl, Or.inr (ne_of (List.mem_of_getElem? (i := 380) (by decide +kernel)) rfl)⟩
theorem lk_X8_100 : Lk RX8 100 yX6_has := Or.inr (ne_of (List.mem_of_getElem? (i := 508) (by decide +kernel)) rfl)
theorem lk_X8_103 : Lk RX8 103 yX7_lowestAbsent := Or.inr (ne_of (List.mem_of_getElem? (i := 512) (by decide +kernel)) rfl)
theorem lk_X8_106 : Lk RX8 106 yX1_remember := Or.inr (ne_of (List.mem_of_getElem? (i := 516) (by decide +kernel)) rfl)
theorem lk_X8_110 : Lk RX8 110 yX0_offer := Or.inr (ne_of (List.mem_of_getElem? (i := 525) (by decide +kernel)) rfl)
theorem lk_X8_114 : Lk RX8 114 yX7_has := Or.inr (ne_of (List.mem_of_getElem? (i := 577) (by decide +kernel)) rfl)
theorem lk_X8_115 : Lk RX8 115 yX8_canHear := Or.inl (gd_of (List.mem_of_getElem? (i := 581) (by decide +kernel)) (by decide +kernel))
theorem lk_X8_119 : Lk RX8 119 yX0_setValues := Or.inr (ne_of (List.mem_of_getElem? (i := 585) (by decide +kernel)) rfl)
theorem lk_X8_123 : Lk RX8 123 yX0_hear := Or.inr (ne_of (List.mem_of_getElem? (i := 589) (by decide +kernel)) rfl)
theorem lk_X8_127 : Lk RX8 127 yX0_end := Or.inr (ne_of (List.mem_of_getElem? (i := 666) (by decide +kernel)) rfl)
theorem lk_X8_130 : Lk RX8 130 yX6_mostGuard := Or.inr (ne_of (List.mem_of_getElem? (i := 674) (by decide +kernel)) rfl)
theorem fl_X8_133 : Fl RX8 133 7 2 := ⟨RX7, TX7, 19, tyX7, rfl, by decide, in_X7, tyX7_ok, nmX7, rfl, Or.inr (ne_of (List.mem_of_getElem? (i := 217) (by decide +kernel)) rfl)⟩
theorem fl_X8_137 : Fl RX8 137 7 0 := ⟨RX7, TX7, 19, tyX7, rfl, by decide, in_X7, tyX7_ok, nmX7, rfl, Or.inr (ne_of (List.mem_of_getElem? (i := 213) (by decide +kernel)) rfl)⟩
theorem lk_X8_140 : Lk RX8 140 yX1_bringBack := Or.inr (ne_of (List.mem_of_getElem? (i := 683) (by decide +kernel)) rfl)
theorem fl_X8_144 : Fl RX8 144 1 2 := ⟨RX1, TX1, 3, tyX1, rfl, by decide, in_X1, tyX1_ok, nmX1, rfl, Or.inr (ne_of (List.mem_of_getElem? (i := 332) (by decide +kernel)) rfl)⟩
theorem fl_X8_147 : Fl RX8 147 6 1 := ⟨RX6, TX6, 5, tyX6, rfl, by decide, in_X6, tyX6_ok, nmX6, rfl, Or.inr (ne_of (List.mem_of_getElem? (i := 145) (by decide +kernel)) rfl)⟩
theorem fl_X8_150 : Fl RX8 150 6 3 := ⟨RX6, TX6, 5, tyX6, rfl, by decide, in_X6, tyX6_ok, nmX6, rfl, Or.inr (ne_of (List.mem_of_getElem? (i := 151) (by decide +kernel)) rfl)⟩
theorem lk_X8_153 : Lk RX8 153 yX7_busy := Or.inr (ne_of (List.mem_of_getElem? (i := 691) (by decide +kernel)) rfl)
theorem lk_X8_156 : Lk RX8 156 yX7_waiting := Or.inr (ne_of (List.mem_of_getElem? (i := 692) (by decide +kernel)) rfl)
theorem lk_X8_159 : Lk RX8 159 yX0_chanceOf := Or.inr (ne_of (List.mem_of_getElem? (i := 693) (by decide +kernel)) rfl)
theorem fl_X8_162 : Fl RX8 162 7 3 := ⟨RX7, TX7, 19, tyX7, rfl, by decide, in_X7, tyX7_ok, nmX7, rfl, Or.inr (ne_of (List.mem_of_getElem? (i := 219) (by decide +kernel)) rfl)⟩
theorem kc_X8_165 : Cond.constant RX8 165 (-1000000) ∈ lw_good := gd_of (List.mem_of_getElem? (i := 698) (by decide +kernel)) (by decide +kernel)
theorem fl_X8_166 : Fl RX8 166 7 4 := ⟨RX7, TX7, 19, tyX7, rfl, by decide, in_X7, tyX7_ok, nmX7, rfl, Or.inr (ne_of (List.mem_of_getElem? (i := 222) (by decide +kernel)) rfl)⟩
theorem fl_X8_169 : Fl RX8 169 7 5 := ⟨RX7, TX7, 19, tyX7, rfl, by decide, in_X7, tyX7_ok, nmX7, rfl, Or.inr (ne_of (List.mem_of_getElem? (i := 225) (by decide +kernel)) rfl)⟩
theorem fl_X8_172 : Fl RX8 172 7 7 := ⟨RX7, TX7, 19, tyX7, rfl, by decide, in_X7, tyX7_ok, nmX7, rfl, Or.inr (ne_of (List.mem_of_getElem? (i := 230) (by decide +kernel)) rfl)⟩
theorem fl_X8_175 : Fl RX8 175 7 9 := ⟨RX7, TX7, 19, tyX7, rfl, by decide, in_X7, tyX7_ok, nmX7, rfl, Or.inr (ne_of (List.mem_of_getElem? (i := 234) (by decide +kernel)) rfl)⟩
theorem fl_X8_178 : Fl RX8 178 7 10 := ⟨RX7, TX7, 19, tyX7, rfl, by decide, in_X7, tyX7_ok, nmX7, rfl, Or.inr (ne_of (List.mem_of_getElem? (i := 237) (by decide +kernel)) rfl)⟩
theorem fl_X8_181 : Fl RX8 181 7 11 := ⟨RX7, TX7, 19, tyX7, rfl, by decide, in_X7, tyX7_ok, nmX7, rfl, Or.inr (ne_of (List.mem_of_getElem? (i := 241) (by decide +kernel)) rfl)⟩
theorem fl_X8_184 : Fl RX8 184 7 12 := ⟨RX7, TX7, 19, tyX7, rfl, by decide, in_X7, tyX7_ok, nmX7, rfl, Or.inr (ne_of (List.mem_of_getElem? (i := 243) (by decide +kernel)) rfl)⟩
theorem fl_X8_187 : Fl RX8 187 7 13 := ⟨RX7, TX7, 19, tyX7, rfl, by decide, in_X7, tyX7_ok, nmX7, rfl, Or.inr (ne_of (List.mem_of_getElem? (i := 247) (by decide +kernel)) rfl)⟩
theorem fl_X8_190 : Fl RX8 190 7 14 := ⟨RX7, TX7, 19, tyX7, rfl, by decide, in_X7, tyX7_ok, nmX7, rfl, Or.inr (ne_of (List.mem_of_getElem? (i := 250) (by decide +kernel)) rfl)⟩
theorem lk_X8_193 : Lk RX8 193 yX0_waiter := Or.inr (ne_of (List.mem_of_getElem? (i := 707) (by decide +kernel)) rfl)
theorem fl_X8_196 : Fl RX8 196 7 15 := ⟨RX7, TX7, 19, tyX7, rfl, by decide, in_X7, tyX7_ok, nmX7, rfl, Or.inr (ne_of (List.mem_of_getElem? (i := 252) (by decide +kernel)) rfl)⟩
theorem fl_X8_199 : Fl RX8 199 7 16 := ⟨RX7, TX7, 19, tyX7, rfl, by decide, in_X7, tyX7_ok, nmX7, rfl, Or.inr (ne_of (List.mem_of_getElem? (i := 254) (by decide +kernel)) rfl)⟩
theorem fl_X8_202 : Fl RX8 202 7 17 := ⟨RX7, TX7, 19, tyX7, rfl, by decide, in_X7, tyX7_ok, nmX7, rfl, Or.inr (ne_of (List.mem_of_getElem? (i := 256) (by decide +kernel)) rfl)⟩
theorem fl_X8_205 : Fl RX8 205 7 18 := ⟨RX7, TX7, 19, tyX7, rfl, by decide, in_X7, tyX7_ok, nmX7, rfl, Or.inr (ne_of (List.mem_of_getElem? (i := 258) (by decide +kernel)) rfl)⟩
theorem lk_X8_208 : Lk RX8 208 yX8_areRates := Or.inl (gd_of (List.mem_of_getElem? (i := 716) (by decide +kernel)) (by decide +kernel))
theorem kc_X8_211 : Cond.constantLong RX8 211 (-1) ∈ lw_good := gd_of (List.mem_of_getElem? (i := 719) (by decide +kernel)) (by decide +kernel)
theorem lk_X8_213 : Lk RX8 213 yX3_weigh := Or.inr (ne_of (List.mem_of_getElem? (i := 720) (by decide +kernel)) rfl)
theorem lk_X8_217 : Lk RX8 217 yX3_upper := Or.inr (ne_of (List.mem_of_getElem? (i := 730) (by decide +kernel)) rfl)
theorem lk_X8_221 : Lk RX8 221 yX3_lower := Or.inr (ne_of (List.mem_of_getElem? (i := 734) (by decide +kernel)) rfl)
theorem lk_X8_224 : Lk RX8 224 yX8_commonDivisor := Or.inl (gd_of (List.mem_of_getElem? (i := 743) (by decide +kernel)) (by decide +kernel))
theorem lk_X8_228 : Lk RX8 228 yX3_losesMovingAtMostOnceIn := Or.inr (ne_of (List.mem_of_getElem? (i := 750) (by decide +kernel)) rfl)
theorem lk_X8_231 : Lk RX8 231 yX5_add := Or.inr (ne_of (List.mem_of_getElem? (i := 760) (by decide +kernel)) rfl)
theorem lk_X8_234 : Lk RX8 234 yX5_allow := Or.inr (ne_of (List.mem_of_getElem? (i := 772) (by decide +kernel)) rfl)
theorem lk_X8_237 : Lk RX8 237 yX2_store := Or.inr (ne_of (List.mem_of_getElem? (i := 781) (by decide +kernel)) rfl)
theorem lk_X8_241 : Lk RX8 241 yX7_present := Or.inr (ne_of (List.mem_of_getElem? (i := 786) (by decide +kernel)) rfl)
theorem lk_X8_244 : Lk RX8 244 yX2_bringBack := Or.inr (ne_of (List.mem_of_getElem? (i := 794) (by decide +kernel)) rfl)
theorem fl_X8_247 : Fl RX8 247 6 0 := ⟨RX6, TX6, 5, tyX6, rfl, by decide, in_X6, tyX6_ok, nmX6, rfl, Or.inr (ne_of (List.mem_of_getElem? (i := 141) (by decide +kernel)) rfl)⟩
theorem fl_X8_250 : Fl RX8 250 6 4 := ⟨RX6, TX6, 5, tyX6, rfl, by decide, in_X6, tyX6_ok, nmX6, rfl, Or.inr (ne_of (List.mem_of_getElem? (i := 156) (by decide +kernel)) rfl)⟩
theorem lm_X8_253 : Cond.methodLink RX8 253 Lib.Math.min.name ∈ lw_good := gd_of (List.mem_of_getElem? (i := 552) (by decide +kernel)) (by decide +kernel)
theorem lm_X8_258 : Cond.methodLink RX8 258 Lib.Math.max.name ∈ lw_good := gd_of (List.mem_of_getElem? (i := 553) (by decide +kernel)) (by decide +kernel)
-- GuardCells$Exchange 3 ('java/lang/Object', '<init>', '()V')
theorem fl_X0_9 : Fl RX0 9 0 2 := ⟨RX0, TX0, 5, tyX0, rfl, by decide, in_X0, tyX0_ok, nmX0, rfl, Or.inl (gd_of (List.mem_of_getElem? (i := 306) (by decide +kernel)) (by decide +kernel))⟩
theorem fl_X0_15 : Fl RX0 15 0 3 := ⟨RX0, TX0, 5, tyX0, rfl, by decide, in_X0, tyX0_ok, nmX0, rfl, Or.inl (gd_of (List.mem_of_getElem? (i := 307) (by decide +kernel)) (by decide +kernel))⟩
theorem fl_X0_18 : Fl RX0 18 0 0 := ⟨RX0, TX0, 5, tyX0, rfl, by decide, in_X0, tyX0_ok, nmX0, rfl, Or.inl (gd_of (List.mem_of_getElem? (i := 304) (by decide +kernel)) (by decide +kernel))⟩
theorem fl_X0_22 : Fl RX0 22 0 1 := ⟨RX0, TX0, 5, tyX0, rfl, by decide, in_X0, tyX0_ok, nmX0, rfl, Or.inl (gd_of (List.mem_of_getElem? (i := 305) (by decide +kernel)) (by decide +kernel))⟩
theorem fl_X0_26 : Fl RX0 26 6 1 := ⟨RX6, TX6, 5, tyX6, rfl, by decide, in_X6, tyX6_ok, nmX6, rfl, Or.inr (ne_of (List.mem_of_getElem? (i := 143) (by decide +kernel)) rfl)⟩
theorem lk_X0_31 : Lk RX0 31 yX7_busy := Or.inr (ne_of (List.mem_of_getElem? (i := 542) (by decide +kernel)) rfl)
theorem lk_X0_37 : Lk RX0 37 yX0_free := Or.inl (gd_of (List.mem_of_getElem? (i := 538) (by decide +kernel)) (by decide +kernel))
theorem fl_X0_40 : Fl RX0 40 7 2 := ⟨RX7, TX7, 19, tyX7, rfl, by decide, in_X7, tyX7_ok, nmX7, rfl, Or.inr (ne_of (List.mem_of_getElem? (i := 216) (by decide +kernel)) rfl)⟩
theorem lk_X0_43 : Lk RX0 43 yX8_chance := Or.inr (ne_of (List.mem_of_getElem? (i := 549) (by decide +kernel)) rfl)
theorem lk_X0_47 : Lk RX0 47 yX7_tallyOne := Or.inr (ne_of (List.mem_of_getElem? (i := 529) (by decide +kernel)) rfl)
theorem lk_X0_51 : Lk RX0 51 yX7_lowestAbsent := Or.inr (ne_of (List.mem_of_getElem? (i := 533) (by decide +kernel)) rfl)
theorem lk_X0_55 : Lk RX0 55 yX0_chanceOf := Or.inl (gd_of (List.mem_of_getElem? (i := 534) (by decide +kernel)) (by decide +kernel))
theorem lk_X0_58 : Lk RX0 58 yX0_isTaken := Or.inl (gd_of (List.mem_of_getElem? (i := 556) (by decide +kernel)) (by decide +kernel))
theorem lk_X0_62 : Lk RX0 62 yX7_appear := Or.inr (ne_of (List.mem_of_getElem? (i := 565) (by decide +kernel)) rfl)
theorem lk_X0_66 : Lk RX0 66 yX0_draw := Or.inl (gd_of (List.mem_of_getElem? (i := 560) (by decide +kernel)) (by decide +kernel))
theorem fl_X0_69 : Fl RX0 69 7 0 := ⟨RX7, TX7, 19, tyX7, rfl, by decide, in_X7, tyX7_ok, nmX7, rfl, Or.inr (ne_of (List.mem_of_getElem? (i := 212) (by decide +kernel)) rfl)⟩
theorem kc_X0_73 : Cond.constant RX0 73 (69069) ∈ lw_good := gd_of (List.mem_of_getElem? (i := 564) (by decide +kernel)) (by decide +kernel)
theorem fl_X0_74 : Fl RX0 74 7 7 := ⟨RX7, TX7, 19, tyX7, rfl, by decide, in_X7, tyX7_ok, nmX7, rfl, Or.inr (ne_of (List.mem_of_getElem? (i := 229) (by decide +kernel)) rfl)⟩
theorem fl_X0_77 : Fl RX0 77 7 8 := ⟨RX7, TX7, 19, tyX7, rfl, by decide, in_X7, tyX7_ok, nmX7, rfl, Or.inr (ne_of (List.mem_of_getElem? (i := 232) (by decide +kernel)) rfl)⟩
theorem lk_X0_80 : Lk RX0 80 yX0_smoothLevels := Or.inl (gd_of (List.mem_of_getElem? (i := 593) (by decide +kernel)) (by decide +kernel))
theorem lk_X0_84 : Lk RX0 84 yX0_countStreaks := Or.inl (gd_of (List.mem_of_getElem? (i := 601) (by decide +kernel)) (by decide +kernel))
theorem lk_X0_87 : Lk RX0 87 yX0_targetOf := Or.inl (gd_of (List.mem_of_getElem? (i := 605) (by decide +kernel)) (by decide +kernel))
theorem lk_X0_90 : Lk RX0 90 yX0_follow := Or.inl (gd_of (List.mem_of_getElem? (i := 609) (by decide +kernel)) (by decide +kernel))
theorem lk_X0_93 : Lk RX0 93 yX7_ownLevel := Or.inr (ne_of (List.mem_of_getElem? (i := 597) (by decide +kernel)) rfl)
theorem fl_X0_96 : Fl RX0 96 6 4 := ⟨RX6, TX6, 5, tyX6, rfl, by decide, in_X6, tyX6_ok, nmX6, rfl, Or.inr (ne_of (List.mem_of_getElem? (i := 155) (by decide +kernel)) rfl)⟩
theorem fl_X0_99 : Fl RX0 99 7 4 := ⟨RX7, TX7, 19, tyX7, rfl, by decide, in_X7, tyX7_ok, nmX7, rfl, Or.inr (ne_of (List.mem_of_getElem? (i := 221) (by decide +kernel)) rfl)⟩
theorem lk_X0_102 : Lk RX0 102 yX0_vanish := Or.inl (gd_of (List.mem_of_getElem? (i := 638) (by decide +kernel)) (by decide +kernel))
theorem lk_X0_105 : Lk RX0 105 yX0_serveFreed := Or.inl (gd_of (List.mem_of_getElem? (i := 642) (by decide +kernel)) (by decide +kernel))
theorem fl_X0_108 : Fl RX0 108 6 0 := ⟨RX6, TX6, 5, tyX6, rfl, by decide, in_X6, tyX6_ok, nmX6, rfl, Or.inr (ne_of (List.mem_of_getElem? (i := 140) (by decide +kernel)) rfl)⟩
theorem fl_X0_111 : Fl RX0 111 7 13 := ⟨RX7, TX7, 19, tyX7, rfl, by decide, in_X7, tyX7_ok, nmX7, rfl, Or.inr (ne_of (List.mem_of_getElem? (i := 246) (by decide +kernel)) rfl)⟩
theorem fl_X0_114 : Fl RX0 114 7 11 := ⟨RX7, TX7, 19, tyX7, rfl, by decide, in_X7, tyX7_ok, nmX7, rfl, Or.inr (ne_of (List.mem_of_getElem? (i := 240) (by decide +kernel)) rfl)⟩
theorem fl_X0_117 : Fl RX0 117 7 14 := ⟨RX7, TX7, 19, tyX7, rfl, by decide, in_X7, tyX7_ok, nmX7, rfl, Or.inr (ne_of (List.mem_of_getElem? (i := 249) (by decide +kernel)) rfl)⟩
theorem fl_X0_120 : Fl RX0 120 7 5 := ⟨RX7, TX7, 19, tyX7, rfl, by decide, in_X7, tyX7_ok, nmX7, rfl, Or.inr (ne_of (List.mem_of_getElem? (i := 224) (by decide +kernel)) rfl)⟩
theorem lk_X0_123 : Lk RX0 123 yX0_ask := Or.inl (gd_of (List.mem_of_getElem? (i := 613) (by decide +kernel)) (by decide +kernel))
theorem lk_X0_126 : Lk RX0 126 yX0_move := Or.inl (gd_of (List.mem_of_getElem? (i := 617) (by decide +kernel)) (by decide +kernel))
theorem lk_X0_129 : Lk RX0 129 yX7_waiting := Or.inr (ne_of (List.mem_of_getElem? (i := 630) (by decide +kernel)) rfl)
theorem fl_X0_132 : Fl RX0 132 6 3 := ⟨RX6, TX6, 5, tyX6, rfl, by decide, in_X6, tyX6_ok, nmX6, rfl, Or.inr (ne_of (List.mem_of_getElem? (i := 152) (by decide +kernel)) rfl)⟩
theorem lk_X0_135 : Lk RX0 135 yX7_beginWaiting := Or.inr (ne_of (List.mem_of_getElem? (i := 634) (by decide +kernel)) rfl)
theorem lk_X0_138 : Lk RX0 138 yX0_noteFreed := Or.inl (gd_of (List.mem_of_getElem? (i := 626) (by decide +kernel)) (by decide +kernel))
theorem fl_X0_141 : Fl RX0 141 7 12 := ⟨RX7, TX7, 19, tyX7, rfl, by decide, in_X7, tyX7_ok, nmX7, rfl, Or.inr (ne_of (List.mem_of_getElem? (i := 244) (by decide +kernel)) rfl)⟩
theorem fl_X0_144 : Fl RX0 144 7 10 := ⟨RX7, TX7, 19, tyX7, rfl, by decide, in_X7, tyX7_ok, nmX7, rfl, Or.inr (ne_of (List.mem_of_getElem? (i := 238) (by decide +kernel)) rfl)⟩
theorem fl_X0_147 : Fl RX0 147 7 9 := ⟨RX7, TX7, 19, tyX7, rfl, by decide, in_X7, tyX7_ok, nmX7, rfl, Or.inr (ne_of (List.mem_of_getElem? (i := 235) (by decide +kernel)) rfl)⟩
theorem lk_X0_150 : Lk RX0 150 yX7_clearStreaks := Or.inr (ne_of (List.mem_of_getElem? (i := 621) (by decide +kernel)) rfl)
theorem lk_X0_153 : Lk RX0 153 yX7_countPair := Or.inr (ne_of (List.mem_of_getElem? (i := 622) (by decide +kernel)) rfl)
theorem fl_X0_156 : Fl RX0 156 0 4 := ⟨RX0, TX0, 5, tyX0, rfl, by decide, in_X0, tyX0_ok, nmX0, rfl, Or.inl (gd_of (List.mem_of_getElem? (i := 308) (by decide +kernel)) (by decide +kernel))⟩
theorem lk_X0_159 : Lk RX0 159 yX0_waiter := Or.inl (gd_of (List.mem_of_getElem? (i := 646) (by decide +kernel)) (by decide +kernel))
theorem lk_X0_162 : Lk RX0 162 yX0_aheadOf := Or.inl (gd_of (List.mem_of_getElem? (i := 650) (by decide +kernel)) (by decide +kernel))
theorem lk_X0_165 : Lk RX0 165 yX0_isBefore := Or.inl (gd_of (List.mem_of_getElem? (i := 654) (by decide +kernel)) (by decide +kernel))
theorem lk_X0_169 : Lk RX0 169 yX0_waitsLonger := Or.inl (gd_of (List.mem_of_getElem? (i := 658) (by decide +kernel)) (by decide +kernel))
theorem fl_X0_172 : Fl RX0 172 7 6 := ⟨RX7, TX7, 19, tyX7, rfl, by decide, in_X7, tyX7_ok, nmX7, rfl, Or.inr (ne_of (List.mem_of_getElem? (i := 227) (by decide +kernel)) rfl)⟩
-- GuardCells$History 3 ('java/lang/Object', '<init>', '()V')
theorem fl_X1_11 : Fl RX1 11 1 0 := ⟨RX1, TX1, 3, tyX1, rfl, by decide, in_X1, tyX1_ok, nmX1, rfl, Or.inl (gd_of (List.mem_of_getElem? (i := 329) (by decide +kernel)) (by decide +kernel))⟩
theorem lk_X1_17 : Lk RX1 17 yX7_init := Or.inr (ne_of (List.mem_of_getElem? (i := 328) (by decide +kernel)) rfl)
theorem fl_X1_18 : Fl RX1 18 1 2 := ⟨RX1, TX1, 3, tyX1, rfl, by decide, in_X1, tyX1_ok, nmX1, rfl, Or.inl (gd_of (List.mem_of_getElem? (i := 331) (by decide +kernel)) (by decide +kernel))⟩
theorem fl_X1_22 : Fl RX1 22 1 1 := ⟨RX1, TX1, 3, tyX1, rfl, by decide, in_X1, tyX1_ok, nmX1, rfl, Or.inl (gd_of (List.mem_of_getElem? (i := 330) (by decide +kernel)) (by decide +kernel))⟩
theorem lk_X1_25 : Lk RX1 25 yX7_copyFrom := Or.inr (ne_of (List.mem_of_getElem? (i := 520) (by decide +kernel)) rfl)
theorem lm_X1_29 : Cond.methodLink RX1 29 Lib.Math.min.name ∈ lw_good := gd_of (List.mem_of_getElem? (i := 524) (by decide +kernel)) (by decide +kernel)
-- GuardCells$Images 3 ('java/lang/Object', '<init>', '()V')
theorem fl_X2_11 : Fl RX2 11 2 0 := ⟨RX2, TX2, 2, tyX2, rfl, by decide, in_X2, tyX2_ok, nmX2, rfl, Or.inl (gd_of (List.mem_of_getElem? (i := 348) (by decide +kernel)) (by decide +kernel))⟩
theorem fl_X2_17 : Fl RX2 17 2 1 := ⟨RX2, TX2, 2, tyX2, rfl, by decide, in_X2, tyX2_ok, nmX2, rfl, Or.inl (gd_of (List.mem_of_getElem? (i := 349) (by decide +kernel)) (by decide +kernel))⟩
theorem lk_X2_21 : Lk RX2 21 yX7_init := Or.inr (ne_of (List.mem_of_getElem? (i := 347) (by decide +kernel)) rfl)
theorem lk_X2_22 : Lk RX2 22 yX7_copyFrom := Or.inr (ne_of (List.mem_of_getElem? (i := 785) (by decide +kernel)) rfl)
-- GuardCells$LongRun 3 ('java/lang/Object', '<init>', '()V')
theorem fl_X3_9 : Fl RX3 9 3 0 := ⟨RX3, TX3, 3, tyX3, rfl, by decide, in_X3, tyX3_ok, nmX3, rfl, Or.inl (gd_of (List.mem_of_getElem? (i := 362) (by decide +kernel)) (by decide +kernel))⟩
theorem lm_X3_15 : Cond.methodLink RX3 15 Lib.Math.min.name ∈ lw_good := gd_of (List.mem_of_getElem? (i := 724) (by decide +kernel)) (by decide +kernel)
theorem fl_X3_21 : Fl RX3 21 3 1 := ⟨RX3, TX3, 3, tyX3, rfl, by decide, in_X3, tyX3_ok, nmX3, rfl, Or.inl (gd_of (List.mem_of_getElem? (i := 363) (by decide +kernel)) (by decide +kernel))⟩
theorem fl_X3_25 : Fl RX3 25 3 2 := ⟨RX3, TX3, 3, tyX3, rfl, by decide, in_X3, tyX3_ok, nmX3, rfl, Or.inl (gd_of (List.mem_of_getElem? (i := 364) (by decide +kernel)) (by decide +kernel))⟩
theorem lk_X3_28 : Lk RX3 28 yX3_chanceWith := Or.inl (gd_of (List.mem_of_getElem? (i := 725) (by decide +kernel)) (by decide +kernel))
theorem lk_X3_32 : Lk RX3 32 yX8_chance := Or.inr (ne_of (List.mem_of_getElem? (i := 729) (by decide +kernel)) rfl)
theorem kc_X3_35 : Cond.constantLong RX3 35 (10) ∈ lw_good := gd_of (List.mem_of_getElem? (i := 738) (by decide +kernel)) (by decide +kernel)
theorem lk_X3_37 : Lk RX3 37 yX3_allWeights := Or.inl (gd_of (List.mem_of_getElem? (i := 739) (by decide +kernel)) (by decide +kernel))
theorem lk_X3_41 : Lk RX3 41 yX3_upper := Or.inl (gd_of (List.mem_of_getElem? (i := 754) (by decide +kernel)) (by decide +kernel))
theorem lk_X3_45 : Lk RX3 45 yX3_lower := Or.inl (gd_of (List.mem_of_getElem? (i := 755) (by decide +kernel)) (by decide +kernel))
-- GuardCells$Reader 3 ('java/lang/Object', '<init>', '()V')
theorem fl_X4_9 : Fl RX4 9 4 0 := ⟨RX4, TX4, 8, tyX4, rfl, by decide, in_X4, tyX4_ok, nmX4, rfl, Or.inl (gd_of (List.mem_of_getElem? (i := 169) (by decide +kernel)) (by decide +kernel))⟩
theorem lk_X4_17 : Lk RX4 17 yX6_init := Or.inr (ne_of (List.mem_of_getElem? (i := 125) (by decide +kernel)) rfl)
theorem fl_X4_18 : Fl RX4 18 4 2 := ⟨RX4, TX4, 8, tyX4, rfl, by decide, in_X4, tyX4_ok, nmX4, rfl, Or.inl (gd_of (List.mem_of_getElem? (i := 172) (by decide +kernel)) (by decide +kernel))⟩
theorem fl_X4_22 : Fl RX4 22 4 3 := ⟨RX4, TX4, 8, tyX4, rfl, by decide, in_X4, tyX4_ok, nmX4, rfl, Or.inl (gd_of (List.mem_of_getElem? (i := 174) (by decide +kernel)) (by decide +kernel))⟩
theorem fl_X4_25 : Fl RX4 25 4 1 := ⟨RX4, TX4, 8, tyX4, rfl, by decide, in_X4, tyX4_ok, nmX4, rfl, Or.inl (gd_of (List.mem_of_getElem? (i := 170) (by decide +kernel)) (by decide +kernel))⟩
theorem lk_X4_29 : Lk RX4 29 yX6_begin := Or.inr (ne_of (List.mem_of_getElem? (i := 438) (by decide +kernel)) rfl)
theorem lk_X4_32 : Lk RX4 32 yJ7_fill_53178 := Or.inl (gd_of (List.mem_of_getElem? (i := 439) (by decide +kernel)) (by decide +kernel))
theorem fl_X4_38 : Fl RX4 38 4 4 := ⟨RX4, TX4, 8, tyX4, rfl, by decide, in_X4, tyX4_ok, nmX4, rfl, Or.inl (gd_of (List.mem_of_getElem? (i := 175) (by decide +kernel)) (by decide +kernel))⟩
theorem lk_X4_41 : Lk RX4 41 yX4_nextToken := Or.inl (gd_of (List.mem_of_getElem? (i := 440) (by decide +kernel)) (by decide +kernel))
theorem fl_X4_44 : Fl RX4 44 4 6 := ⟨RX4, TX4, 8, tyX4, rfl, by decide, in_X4, tyX4_ok, nmX4, rfl, Or.inl (gd_of (List.mem_of_getElem? (i := 177) (by decide +kernel)) (by decide +kernel))⟩
theorem fl_X4_47 : Fl RX4 47 4 7 := ⟨RX4, TX4, 8, tyX4, rfl, by decide, in_X4, tyX4_ok, nmX4, rfl, Or.inl (gd_of (List.mem_of_getElem? (i := 178) (by decide +kernel)) (by decide +kernel))⟩
theorem lk_X4_50 : Lk RX4 50 yX4_readCell := Or.inl (gd_of (List.mem_of_getElem? (i := 462) (by decide +kernel)) (by decide +kernel))
theorem lk_X4_54 : Lk RX4 54 yX4_settingOf := Or.inl (gd_of (List.mem_of_getElem? (i := 457) (by decide +kernel)) (by decide +kernel))
theorem lk_X4_58 : Lk RX4 58 yX4_readSetting := Or.inl (gd_of (List.mem_of_getElem? (i := 479) (by decide +kernel)) (by decide +kernel))
theorem fl_X4_62 : Fl RX4 62 4 5 := ⟨RX4, TX4, 8, tyX4, rfl, by decide, in_X4, tyX4_ok, nmX4, rfl, Or.inl (gd_of (List.mem_of_getElem? (i := 176) (by decide +kernel)) (by decide +kernel))⟩
theorem fl_X4_65 : Fl RX4 65 6 0 := ⟨RX6, TX6, 5, tyX6, rfl, by decide, in_X6, tyX6_ok, nmX6, rfl, Or.inr (ne_of (List.mem_of_getElem? (i := 139) (by decide +kernel)) rfl)⟩
theorem lk_X4_68 : Lk RX4 68 yX4_readNumber := Or.inl (gd_of (List.mem_of_getElem? (i := 466) (by decide +kernel)) (by decide +kernel))
theorem fl_X4_72 : Fl RX4 72 6 1 := ⟨RX6, TX6, 5, tyX6, rfl, by decide, in_X6, tyX6_ok, nmX6, rfl, Or.inr (ne_of (List.mem_of_getElem? (i := 144) (by decide +kernel)) rfl)⟩
theorem lk_X4_75 : Lk RX4 75 yX6_mostGuard := Or.inr (ne_of (List.mem_of_getElem? (i := 471) (by decide +kernel)) rfl)
theorem fl_X4_78 : Fl RX4 78 6 2 := ⟨RX6, TX6, 5, tyX6, rfl, by decide, in_X6, tyX6_ok, nmX6, rfl, Or.inr (ne_of (List.mem_of_getElem? (i := 148) (by decide +kernel)) rfl)⟩
theorem fl_X4_81 : Fl RX4 81 6 3 := ⟨RX6, TX6, 5, tyX6, rfl, by decide, in_X6, tyX6_ok, nmX6, rfl, Or.inr (ne_of (List.mem_of_getElem? (i := 150) (by decide +kernel)) rfl)⟩
theorem lk_X4_84 : Lk RX4 84 yX4_readStop := Or.inl (gd_of (List.mem_of_getElem? (i := 475) (by decide +kernel)) (by decide +kernel))
theorem fs_X4_87 : Cond.fieldLinkNest RX4 87 RX8 "SETTING_LEAST" "[I" RX8 ∈ lw_nest := ne_of (List.mem_of_getElem? (i := 483) (by decide +kernel)) rfl
theorem fs_X4_90 : Cond.fieldLinkNest RX4 90 RX8 "SETTING_MOST" "[I" RX8 ∈ lw_nest := ne_of (List.mem_of_getElem? (i := 485) (by decide +kernel)) rfl
theorem fl_X4_93 : Fl RX4 93 6 4 := ⟨RX6, TX6, 5, tyX6, rfl, by decide, in_X6, tyX6_ok, nmX6, rfl, Or.inr (ne_of (List.mem_of_getElem? (i := 154) (by decide +kernel)) rfl)⟩
theorem lk_X4_96 : Lk RX4 96 yX8_within := Or.inr (ne_of (List.mem_of_getElem? (i := 470) (by decide +kernel)) rfl)
theorem lk_X4_100 : Lk RX4 100 yX4_isFigure := Or.inl (gd_of (List.mem_of_getElem? (i := 444) (by decide +kernel)) (by decide +kernel))
theorem lk_X4_103 : Lk RX4 103 yX4_scanNumber := Or.inl (gd_of (List.mem_of_getElem? (i := 447) (by decide +kernel)) (by decide +kernel))
theorem lk_X4_106 : Lk RX4 106 yX4_kindOf := Or.inl (gd_of (List.mem_of_getElem? (i := 454) (by decide +kernel)) (by decide +kernel))
theorem lm_X4_109 : Cond.methodLink RX4 109 Lib.Math.min.name ∈ lw_good := gd_of (List.mem_of_getElem? (i := 451) (by decide +kernel)) (by decide +kernel)
theorem fs_X4_115 : Cond.fieldLinkNest RX4 115 RX8 "SETTING_LETTER" "[C" RX8 ∈ lw_nest := ne_of (List.mem_of_getElem? (i := 460) (by decide +kernel)) rfl
-- GuardCells$Sightings 3 ('java/lang/Object', '<init>', '()V')
theorem fl_X5_9 : Fl RX5 9 5 1 := ⟨RX5, TX5, 3, tyX5, rfl, by decide, in_X5, tyX5_ok, nmX5, rfl, Or.inl (gd_of (List.mem_of_getElem? (i := 381) (by decide +kernel)) (by decide +kernel))⟩
theorem fl_X5_15 : Fl RX5 15 5 2 := ⟨RX5, TX5, 3, tyX5, rfl, by decide, in_X5, tyX5_ok, nmX5, rfl, Or.inl (gd_of (List.mem_of_getElem? (i := 382) (by decide +kernel)) (by decide +kernel))⟩
theorem fl_X5_18 : Fl RX5 18 5 0 := ⟨RX5, TX5, 3, tyX5, rfl, by decide, in_X5, tyX5_ok, nmX5, rfl, Or.inl (gd_of (List.mem_of_getElem? (i := 379) (by decide +kernel)) (by decide +kernel))⟩
theorem lk_X5_22 : Lk RX5 22 yX8_chance := Or.inr (ne_of (List.mem_of_getElem? (i := 776) (by decide +kernel)) rfl)
-- GuardCells$Told 3 ('java/lang/Object', '<init>', '()V')
theorem fl_X6_9 : Fl RX6 9 6 1 := ⟨RX6, TX6, 5, tyX6, rfl, by decide, in_X6, tyX6_ok, nmX6, rfl, Or.inl (gd_of (List.mem_of_getElem? (i := 142) (by decide +kernel)) (by decide +kernel))⟩
theorem fl_X6_15 : Fl RX6 15 6 2 := ⟨RX6, TX6, 5, tyX6, rfl, by decide, in_X6, tyX6_ok, nmX6, rfl, Or.inl (gd_of (List.mem_of_getElem? (i := 146) (by decide +kernel)) (by decide +kernel))⟩
theorem fl_X6_18 : Fl RX6 18 6 3 := ⟨RX6, TX6, 5, tyX6, rfl, by decide, in_X6, tyX6_ok, nmX6, rfl, Or.inl (gd_of (List.mem_of_getElem? (i := 149) (by decide +kernel)) (by decide +kernel))⟩
theorem fl_X6_21 : Fl RX6 21 6 4 := ⟨RX6, TX6, 5, tyX6, rfl, by decide, in_X6, tyX6_ok, nmX6, rfl, Or.inl (gd_of (List.mem_of_getElem? (i := 153) (by decide +kernel)) (by decide +kernel))⟩
theorem lk_X6_24 : Lk RX6 24 yX6_begin := Or.inl (gd_of (List.mem_of_getElem? (i := 129) (by decide +kernel)) (by decide +kernel))
theorem fl_X6_27 : Fl RX6 27 6 0 := ⟨RX6, TX6, 5, tyX6, rfl, by decide, in_X6, tyX6_ok, nmX6, rfl, Or.inl (gd_of (List.mem_of_getElem? (i := 138) (by decide +kernel)) (by decide +kernel))⟩
theorem fs_X6_31 : Cond.fieldLinkNest RX6 31 RX8 "SETTING_FIRST" "[I" RX8 ∈ lw_nest := ne_of (List.mem_of_getElem? (i := 133) (by decide +kernel)) rfl
theorem lm_X6_34 : Cond.methodLink RX6 34 arraycopyName ∈ lw_good := gd_of (List.mem_of_getElem? (i := 135) (by decide +kernel)) (by decide +kernel)
-- GuardCells$Traffic 3 ('java/lang/Object', '<init>', '()V')
theorem fl_X7_9 : Fl RX7 9 7 2 := ⟨RX7, TX7, 19, tyX7, rfl, by decide, in_X7, tyX7_ok, nmX7, rfl, Or.inl (gd_of (List.mem_of_getElem? (i := 215) (by decide +kernel)) (by decide +kernel))⟩
theorem fl_X7_15 : Fl RX7 15 7 3 := ⟨RX7, TX7, 19, tyX7, rfl, by decide, in_X7, tyX7_ok, nmX7, rfl, Or.inl (gd_of (List.mem_of_getElem? (i := 218) (by decide +kernel)) (by decide +kernel))⟩
theorem fl_X7_18 : Fl RX7 18 7 4 := ⟨RX7, TX7, 19, tyX7, rfl, by decide, in_X7, tyX7_ok, nmX7, rfl, Or.inl (gd_of (List.mem_of_getElem? (i := 220) (by decide +kernel)) (by decide +kernel))⟩
theorem fl_X7_21 : Fl RX7 21 7 5 := ⟨RX7, TX7, 19, tyX7, rfl, by decide, in_X7, tyX7_ok, nmX7, rfl, Or.inl (gd_of (List.mem_of_getElem? (i := 223) (by decide +kernel)) (by decide +kernel))⟩
theorem fl_X7_24 : Fl RX7 24 7 6 := ⟨RX7, TX7, 19, tyX7, rfl, by decide, in_X7, tyX7_ok, nmX7, rfl, Or.inl (gd_of (List.mem_of_getElem? (i := 226) (by decide +kernel)) (by decide +kernel))⟩
theorem fl_X7_27 : Fl RX7 27 7 7 := ⟨RX7, TX7, 19, tyX7, rfl, by decide, in_X7, tyX7_ok, nmX7, rfl, Or.inl (gd_of (List.mem_of_getElem? (i := 228) (by decide +kernel)) (by decide +kernel))⟩
theorem fl_X7_30 : Fl RX7 30 7 8 := ⟨RX7, TX7, 19, tyX7, rfl, by decide, in_X7, tyX7_ok, nmX7, rfl, Or.inl (gd_of (List.mem_of_getElem? (i := 231) (by decide +kernel)) (by decide +kernel))⟩
theorem fl_X7_33 : Fl RX7 33 7 9 := ⟨RX7, TX7, 19, tyX7, rfl, by decide, in_X7, tyX7_ok, nmX7, rfl, Or.inl (gd_of (List.mem_of_getElem? (i := 233) (by decide +kernel)) (by decide +kernel))⟩
theorem fl_X7_36 : Fl RX7 36 7 10 := ⟨RX7, TX7, 19, tyX7, rfl, by decide, in_X7, tyX7_ok, nmX7, rfl, Or.inl (gd_of (List.mem_of_getElem? (i := 236) (by decide +kernel)) (by decide +kernel))⟩
theorem fl_X7_39 : Fl RX7 39 7 11 := ⟨RX7, TX7, 19, tyX7, rfl, by decide, in_X7, tyX7_ok, nmX7, rfl, Or.inl (gd_of (List.mem_of_getElem? (i := 239) (by decide +kernel)) (by decide +kernel))⟩
theorem fl_X7_42 : Fl RX7 42 7 12 := ⟨RX7, TX7, 19, tyX7, rfl, by decide, in_X7, tyX7_ok, nmX7, rfl, Or.inl (gd_of (List.mem_of_getElem? (i := 242) (by decide +kernel)) (by decide +kernel))⟩
theorem fl_X7_45 : Fl RX7 45 7 13 := ⟨RX7, TX7, 19, tyX7, rfl, by decide, in_X7, tyX7_ok, nmX7, rfl, Or.inl (gd_of (List.mem_of_getElem? (i := 245) (by decide +kernel)) (by decide +kernel))⟩
theorem fl_X7_48 : Fl RX7 48 7 14 := ⟨RX7, TX7, 19, tyX7, rfl, by decide, in_X7, tyX7_ok, nmX7, rfl, Or.inl (gd_of (List.mem_of_getElem? (i := 248) (by decide +kernel)) (by decide +kernel))⟩
theorem fl_X7_51 : Fl RX7 51 7 16 := ⟨RX7, TX7, 19, tyX7, rfl, by decide, in_X7, tyX7_ok, nmX7, rfl, Or.inl (gd_of (List.mem_of_getElem? (i := 253) (by decide +kernel)) (by decide +kernel))⟩
theorem fl_X7_54 : Fl RX7 54 7 17 := ⟨RX7, TX7, 19, tyX7, rfl, by decide, in_X7, tyX7_ok, nmX7, rfl, Or.inl (gd_of (List.mem_of_getElem? (i := 255) (by decide +kernel)) (by decide +kernel))⟩
theorem fl_X7_57 : Fl RX7 57 7 18 := ⟨RX7, TX7, 19, tyX7, rfl, by decide, in_X7, tyX7_ok, nmX7, rfl, Or.inl (gd_of (List.mem_of_getElem? (i := 257) (by decide +kernel)) (by decide +kernel))⟩
theorem lk_X7_60 : Lk RX7 60 yX7_clearCalls := Or.inl (gd_of (List.mem_of_getElem? (i := 204) (by decide +kernel)) (by decide +kernel))
theorem fl_X7_63 : Fl RX7 63 7 0 := ⟨RX7, TX7, 19, tyX7, rfl, by decide, in_X7, tyX7_ok, nmX7, rfl, Or.inl (gd_of (List.mem_of_getElem? (i := 211) (by decide +kernel)) (by decide +kernel))⟩
theorem fl_X7_67 : Fl RX7 67 7 1 := ⟨RX7, TX7, 19, tyX7, rfl, by decide, in_X7, tyX7_ok, nmX7, rfl, Or.inl (gd_of (List.mem_of_getElem? (i := 214) (by decide +kernel)) (by decide +kernel))⟩
theorem fl_X7_70 : Fl RX7 70 7 15 := ⟨RX7, TX7, 19, tyX7, rfl, by decide, in_X7, tyX7_ok, nmX7, rfl, Or.inl (gd_of (List.mem_of_getElem? (i := 251) (by decide +kernel)) (by decide +kernel))⟩
theorem fl_X7_73 : Fl RX7 73 6 2 := ⟨RX6, TX6, 5, tyX6, rfl, by decide, in_X6, tyX6_ok, nmX6, rfl, Or.inr (ne_of (List.mem_of_getElem? (i := 147) (by decide +kernel)) rfl)⟩
theorem lm_X7_76 : Cond.methodLink RX7 76 arraycopyName ∈ lw_good := gd_of (List.mem_of_getElem? (i := 495) (by decide +kernel)) (by decide +kernel)
theorem lk_X7_82 : Lk RX7 82 yJ7_fill_53178 := Or.inl (gd_of (List.mem_of_getElem? (i := 208) (by decide +kernel)) (by decide +kernel))
theorem lk_X7_88 : Lk RX7 88 yX7_callsOf := Or.inl (gd_of (List.mem_of_getElem? (i := 546) (by decide +kernel)) (by decide +kernel))
theorem lk_X7_92 : Lk RX7 92 yX7_clearStreaks := Or.inl (gd_of (List.mem_of_getElem? (i := 569) (by decide +kernel)) (by decide +kernel))
theorem lk_L_9 : Lk RL 9 yX8_init := Or.inl (gd_of (List.mem_of_getElem? (i := 111) (by decide +kernel)) (by decide +kernel))
theorem lk_L_12 : Lk RL 12 yX9_init := Or.inl (gd_of (List.mem_of_getElem? (i := 804) (by decide +kernel)) (by decide +kernel))
theorem lk_L_13 : Lk RL 13 yX8_type := Or.inl (gd_of (List.mem_of_getElem? (i := 415) (by decide +kernel)) (by decide +kernel))
theorem lk_L_17 : Lk RL 17 yX9_type := Or.inl (gd_of (List.mem_of_getElem? (i := 893) (by decide +kernel)) (by decide +kernel))
theorem lk_L_18 : Lk RL 18 yX8_clear := Or.inl (gd_of (List.mem_of_getElem? (i := 426) (by decide +kernel)) (by decide +kernel))
theorem lk_L_22 : Lk RL 22 yX9_clear := Or.inl (gd_of (List.mem_of_getElem? (i := 901) (by decide +kernel)) (by decide +kernel))
theorem lk_L_23 : Lk RL 23 yX8_tells := Or.inl (gd_of (List.mem_of_getElem? (i := 430) (by decide +kernel)) (by decide +kernel))
theorem lk_L_26 : Lk RL 26 yX9_tells := Or.inl (gd_of (List.mem_of_getElem? (i := 905) (by decide +kernel)) (by decide +kernel))
theorem lk_L_27 : Lk RL 27 yX8_offers := Or.inl (gd_of (List.mem_of_getElem? (i := 504) (by decide +kernel)) (by decide +kernel))
theorem lk_L_31 : Lk RL 31 yX9_offers := Or.inl (gd_of (List.mem_of_getElem? (i := 947) (by decide +kernel)) (by decide +kernel))
theorem lk_L_32 : Lk RL 32 yX8_hears := Or.inl (gd_of (List.mem_of_getElem? (i := 573) (by decide +kernel)) (by decide +kernel))
theorem lk_L_36 : Lk RL 36 yX9_hears := Or.inl (gd_of (List.mem_of_getElem? (i := 1003) (by decide +kernel)) (by decide +kernel))
theorem lk_L_37 : Lk RL 37 yX8_ends := Or.inl (gd_of (List.mem_of_getElem? (i := 662) (by decide +kernel)) (by decide +kernel))
theorem lk_L_40 : Lk RL 40 yX9_ends := Or.inl (gd_of (List.mem_of_getElem? (i := 1064) (by decide +kernel)) (by decide +kernel))
theorem lk_L_41 : Lk RL 41 yX8_guards := Or.inl (gd_of (List.mem_of_getElem? (i := 670) (by decide +kernel)) (by decide +kernel))
theorem lk_L_44 : Lk RL 44 yX9_guards := Or.inl (gd_of (List.mem_of_getElem? (i := 1068) (by decide +kernel)) (by decide +kernel))
theorem lk_L_45 : Lk RL 45 yX8_seeds := Or.inl (gd_of (List.mem_of_getElem? (i := 675) (by decide +kernel)) (by decide +kernel))
theorem lk_L_48 : Lk RL 48 yX9_seeds := Or.inl (gd_of (List.mem_of_getElem? (i := 1072) (by decide +kernel)) (by decide +kernel))
theorem lk_L_49 : Lk RL 49 yX8_undo := Or.inl (gd_of (List.mem_of_getElem? (i := 679) (by decide +kernel)) (by decide +kernel))
theorem lk_L_52 : Lk RL 52 yX9_undo := Or.inl (gd_of (List.mem_of_getElem? (i := 1076) (by decide +kernel)) (by decide +kernel))
theorem lk_L_53 : Lk RL 53 yX8_cell := Or.inl (gd_of (List.mem_of_getElem? (i := 687) (by decide +kernel)) (by decide +kernel))
theorem lk_L_56 : Lk RL 56 yX9_cell := Or.inl (gd_of (List.mem_of_getElem? (i := 1080) (by decide +kernel)) (by decide +kernel))
theorem lk_L_57 : Lk RL 57 yX8_call := Or.inl (gd_of (List.mem_of_getElem? (i := 694) (by decide +kernel)) (by decide +kernel))
theorem lk_L_60 : Lk RL 60 yX9_call := Or.inl (gd_of (List.mem_of_getElem? (i := 1084) (by decide +kernel)) (by decide +kernel))
theorem lk_L_61 : Lk RL 61 yX8_level := Or.inl (gd_of (List.mem_of_getElem? (i := 699) (by decide +kernel)) (by decide +kernel))
theorem lk_L_65 : Lk RL 65 yX9_level := Or.inl (gd_of (List.mem_of_getElem? (i := 1090) (by decide +kernel)) (by decide +kernel))
theorem lk_L_66 : Lk RL 66 yX8_queued := Or.inl (gd_of (List.mem_of_getElem? (i := 703) (by decide +kernel)) (by decide +kernel))
theorem lk_L_69 : Lk RL 69 yX9_queued := Or.inl (gd_of (List.mem_of_getElem? (i := 1094) (by decide +kernel)) (by decide +kernel))
theorem lk_L_70 : Lk RL 70 yX8_pair := Or.inl (gd_of (List.mem_of_getElem? (i := 708) (by decide +kernel)) (by decide +kernel))
theorem lk_L_73 : Lk RL 73 yX9_pair := Or.inl (gd_of (List.mem_of_getElem? (i := 1098) (by decide +kernel)) (by decide +kernel))
theorem lk_L_74 : Lk RL 74 yX8_lost := Or.inl (gd_of (List.mem_of_getElem? (i := 712) (by decide +kernel)) (by decide +kernel))
theorem lk_L_78 : Lk RL 78 yX9_lost := Or.inl (gd_of (List.mem_of_getElem? (i := 1103) (by decide +kernel)) (by decide +kernel))
theorem lk_L_79 : Lk RL 79 yX8_best := Or.inl (gd_of (List.mem_of_getElem? (i := 746) (by decide +kernel)) (by decide +kernel))
theorem lk_L_82 : Lk RL 82 yX9_best := Or.inl (gd_of (List.mem_of_getElem? (i := 1120) (by decide +kernel)) (by decide +kernel))
theorem lk_L_83 : Lk RL 83 yX8_sees := Or.inl (gd_of (List.mem_of_getElem? (i := 756) (by decide +kernel)) (by decide +kernel))
theorem lk_L_86 : Lk RL 86 yX9_sees := Or.inl (gd_of (List.mem_of_getElem? (i := 1125) (by decide +kernel)) (by decide +kernel))
theorem lk_L_87 : Lk RL 87 yX8_forget := Or.inl (gd_of (List.mem_of_getElem? (i := 764) (by decide +kernel)) (by decide +kernel))
theorem lk_L_90 : Lk RL 90 yX9_forget := Or.inl (gd_of (List.mem_of_getElem? (i := 1129) (by decide +kernel)) (by decide +kernel))
theorem lk_L_91 : Lk RL 91 yX8_unseen := Or.inl (gd_of (List.mem_of_getElem? (i := 768) (by decide +kernel)) (by decide +kernel))
theorem lk_L_94 : Lk RL 94 yX9_unseen := Or.inl (gd_of (List.mem_of_getElem? (i := 1133) (by decide +kernel)) (by decide +kernel))
theorem lk_L_95 : Lk RL 95 yX8_keep := Or.inl (gd_of (List.mem_of_getElem? (i := 777) (by decide +kernel)) (by decide +kernel))
theorem lk_L_98 : Lk RL 98 yX9_keep := Or.inl (gd_of (List.mem_of_getElem? (i := 1141) (by decide +kernel)) (by decide +kernel))
theorem lk_L_99 : Lk RL 99 yX8_back := Or.inl (gd_of (List.mem_of_getElem? (i := 790) (by decide +kernel)) (by decide +kernel))
theorem lk_L_102 : Lk RL 102 yX9_back := Or.inl (gd_of (List.mem_of_getElem? (i := 1145) (by decide +kernel)) (by decide +kernel))
theorem lk_L_103 : Lk RL 103 yX8_count := Or.inl (gd_of (List.mem_of_getElem? (i := 798) (by decide +kernel)) (by decide +kernel))
theorem lk_L_106 : Lk RL 106 yX9_count := Or.inl (gd_of (List.mem_of_getElem? (i := 1149) (by decide +kernel)) (by decide +kernel))
-- GuardCellsModel 1 ('java/lang/Object', '<init>', '()V')
theorem fl_X9_7 : Fl RX9 7 9 0 := ⟨RX9, TX9, 28, tyX9, rfl, by decide, in_X9, tyX9_ok, nmX9, rfl, Or.inl (gd_of (List.mem_of_getElem? (i := 808) (by decide +kernel)) (by decide +kernel))⟩
theorem fl_X9_13 : Fl RX9 13 9 1 := ⟨RX9, TX9, 28, tyX9, rfl, by decide, in_X9, tyX9_ok, nmX9, rfl, Or.inl (gd_of (List.mem_of_getElem? (i := 809) (by decide +kernel)) (by decide +kernel))⟩
theorem fl_X9_17 : Fl RX9 17 9 3 := ⟨RX9, TX9, 28, tyX9, rfl, by decide, in_X9, tyX9_ok, nmX9, rfl, Or.inl (gd_of (List.mem_of_getElem? (i := 811) (by decide +kernel)) (by decide +kernel))⟩
theorem fl_X9_20 : Fl RX9 20 9 4 := ⟨RX9, TX9, 28, tyX9, rfl, by decide, in_X9, tyX9_ok, nmX9, rfl, Or.inl (gd_of (List.mem_of_getElem? (i := 812) (by decide +kernel)) (by decide +kernel))⟩
theorem fl_X9_23 : Fl RX9 23 9 6 := ⟨RX9, TX9, 28, tyX9, rfl, by decide, in_X9, tyX9_ok, nmX9, rfl, Or.inl (gd_of (List.mem_of_getElem? (i := 814) (by decide +kernel)) (by decide +kernel))⟩
theorem fl_X9_26 : Fl RX9 26 9 9 := ⟨RX9, TX9, 28, tyX9, rfl, by decide, in_X9, tyX9_ok, nmX9, rfl, Or.inl (gd_of (List.mem_of_getElem? (i := 817) (by decide +kernel)) (by decide +kernel))⟩
theorem fl_X9_29 : Fl RX9 29 9 10 := ⟨RX9, TX9, 28, tyX9, rfl, by decide, in_X9, tyX9_ok, nmX9, rfl, Or.inl (gd_of (List.mem_of_getElem? (i := 818) (by decide +kernel)) (by decide +kernel))⟩
theorem fl_X9_32 : Fl RX9 32 9 11 := ⟨RX9, TX9, 28, tyX9, rfl, by decide, in_X9, tyX9_ok, nmX9, rfl, Or.inl (gd_of (List.mem_of_getElem? (i := 819) (by decide +kernel)) (by decide +kernel))⟩
theorem fl_X9_35 : Fl RX9 35 9 19 := ⟨RX9, TX9, 28, tyX9, rfl, by decide, in_X9, tyX9_ok, nmX9, rfl, Or.inl (gd_of (List.mem_of_getElem? (i := 827) (by decide +kernel)) (by decide +kernel))⟩
theorem fl_X9_38 : Fl RX9 38 9 20 := ⟨RX9, TX9, 28, tyX9, rfl, by decide, in_X9, tyX9_ok, nmX9, rfl, Or.inl (gd_of (List.mem_of_getElem? (i := 828) (by decide +kernel)) (by decide +kernel))⟩
theorem fl_X9_41 : Fl RX9 41 9 21 := ⟨RX9, TX9, 28, tyX9, rfl, by decide, in_X9, tyX9_ok, nmX9, rfl, Or.inl (gd_of (List.mem_of_getElem? (i := 829) (by decide +kernel)) (by decide +kernel))⟩
theorem fl_X9_44 : Fl RX9 44 9 22 := ⟨RX9, TX9, 28, tyX9, rfl, by decide, in_X9, tyX9_ok, nmX9, rfl, Or.inl (gd_of (List.mem_of_getElem? (i := 830) (by decide +kernel)) (by decide +kernel))⟩
theorem fl_X9_47 : Fl RX9 47 9 24 := ⟨RX9, TX9, 28, tyX9, rfl, by decide, in_X9, tyX9_ok, nmX9, rfl, Or.inl (gd_of (List.mem_of_getElem? (i := 832) (by decide +kernel)) (by decide +kernel))⟩
theorem fl_X9_50 : Fl RX9 50 9 27 := ⟨RX9, TX9, 28, tyX9, rfl, by decide, in_X9, tyX9_ok, nmX9, rfl, Or.inl (gd_of (List.mem_of_getElem? (i := 835) (by decide +kernel)) (by decide +kernel))⟩
theorem fl_X9_54 : Fl RX9 54 9 2 := ⟨RX9, TX9, 28, tyX9, rfl, by decide, in_X9, tyX9_ok, nmX9, rfl, Or.inl (gd_of (List.mem_of_getElem? (i := 810) (by decide +kernel)) (by decide +kernel))⟩
theorem lk_X9_58 : Lk RX9 58 yX9_copy := Or.inl (gd_of (List.mem_of_getElem? (i := 968) (by decide +kernel)) (by decide +kernel))
theorem kc_X9_62 : Cond.constantLong RX9 62 (48) ∈ lw_good := gd_of (List.mem_of_getElem? (i := 923) (by decide +kernel)) (by decide +kernel)
theorem kc_X9_64 : Cond.constantLong RX9 64 (57) ∈ lw_good := gd_of (List.mem_of_getElem? (i := 924) (by decide +kernel)) (by decide +kernel)
theorem lk_X9_66 : Lk RX9 66 yX9_in := Or.inl (gd_of (List.mem_of_getElem? (i := 898) (by decide +kernel)) (by decide +kernel))
theorem fl_X9_70 : Fl RX9 70 9 12 := ⟨RX9, TX9, 28, tyX9, rfl, by decide, in_X9, tyX9_ok, nmX9, rfl, Or.inl (gd_of (List.mem_of_getElem? (i := 820) (by decide +kernel)) (by decide +kernel))⟩
theorem fl_X9_73 : Fl RX9 73 9 7 := ⟨RX9, TX9, 28, tyX9, rfl, by decide, in_X9, tyX9_ok, nmX9, rfl, Or.inl (gd_of (List.mem_of_getElem? (i := 815) (by decide +kernel)) (by decide +kernel))⟩
theorem fl_X9_76 : Fl RX9 76 9 13 := ⟨RX9, TX9, 28, tyX9, rfl, by decide, in_X9, tyX9_ok, nmX9, rfl, Or.inl (gd_of (List.mem_of_getElem? (i := 821) (by decide +kernel)) (by decide +kernel))⟩
theorem fl_X9_79 : Fl RX9 79 9 14 := ⟨RX9, TX9, 28, tyX9, rfl, by decide, in_X9, tyX9_ok, nmX9, rfl, Or.inl (gd_of (List.mem_of_getElem? (i := 822) (by decide +kernel)) (by decide +kernel))⟩
theorem lk_X9_82 : Lk RX9 82 yX9_which := Or.inl (gd_of (List.mem_of_getElem? (i := 917) (by decide +kernel)) (by decide +kernel))
theorem lk_X9_86 : Lk RX9 86 yX9_isFigure := Or.inl (gd_of (List.mem_of_getElem? (i := 920) (by decide +kernel)) (by decide +kernel))
theorem fl_X9_90 : Fl RX9 90 9 15 := ⟨RX9, TX9, 28, tyX9, rfl, by decide, in_X9, tyX9_ok, nmX9, rfl, Or.inl (gd_of (List.mem_of_getElem? (i := 823) (by decide +kernel)) (by decide +kernel))⟩
theorem lk_X9_93 : Lk RX9 93 yX9_take := Or.inl (gd_of (List.mem_of_getElem? (i := 913) (by decide +kernel)) (by decide +kernel))
theorem fl_X9_96 : Fl RX9 96 9 23 := ⟨RX9, TX9, 28, tyX9, rfl, by decide, in_X9, tyX9_ok, nmX9, rfl, Or.inl (gd_of (List.mem_of_getElem? (i := 831) (by decide +kernel)) (by decide +kernel))⟩
theorem lk_X9_99 : Lk RX9 99 yX9_readsNumber := Or.inl (gd_of (List.mem_of_getElem? (i := 937) (by decide +kernel)) (by decide +kernel))
theorem fl_X9_103 : Fl RX9 103 9 17 := ⟨RX9, TX9, 28, tyX9, rfl, by decide, in_X9, tyX9_ok, nmX9, rfl, Or.inl (gd_of (List.mem_of_getElem? (i := 825) (by decide +kernel)) (by decide +kernel))⟩
theorem lk_X9_106 : Lk RX9 106 yX9_keeps := Or.inl (gd_of (List.mem_of_getElem? (i := 933) (by decide +kernel)) (by decide +kernel))
theorem fl_X9_109 : Fl RX9 109 9 18 := ⟨RX9, TX9, 28, tyX9, rfl, by decide, in_X9, tyX9_ok, nmX9, rfl, Or.inl (gd_of (List.mem_of_getElem? (i := 826) (by decide +kernel)) (by decide +kernel))⟩
theorem lk_X9_112 : Lk RX9 112 yX9_readsCell := Or.inl (gd_of (List.mem_of_getElem? (i := 929) (by decide +kernel)) (by decide +kernel))
theorem lk_X9_116 : Lk RX9 116 yX9_least := Or.inl (gd_of (List.mem_of_getElem? (i := 941) (by decide +kernel)) (by decide +kernel))
theorem lk_X9_119 : Lk RX9 119 yX9_most := Or.inl (gd_of (List.mem_of_getElem? (i := 944) (by decide +kernel)) (by decide +kernel))
theorem fl_X9_122 : Fl RX9 122 9 16 := ⟨RX9, TX9, 28, tyX9, rfl, by decide, in_X9, tyX9_ok, nmX9, rfl, Or.inl (gd_of (List.mem_of_getElem? (i := 824) (by decide +kernel)) (by decide +kernel))⟩
theorem lk_X9_125 : Lk RX9 125 yX9_readsItem := Or.inl (gd_of (List.mem_of_getElem? (i := 925) (by decide +kernel)) (by decide +kernel))
theorem kc_X9_128 : Cond.constantLong RX9 128 (255) ∈ lw_good := gd_of (List.mem_of_getElem? (i := 897) (by decide +kernel)) (by decide +kernel)
theorem lk_X9_130 : Lk RX9 130 yX9_reads := Or.inl (gd_of (List.mem_of_getElem? (i := 909) (by decide +kernel)) (by decide +kernel))
theorem fl_X9_133 : Fl RX9 133 9 8 := ⟨RX9, TX9, 28, tyX9, rfl, by decide, in_X9, tyX9_ok, nmX9, rfl, Or.inl (gd_of (List.mem_of_getElem? (i := 816) (by decide +kernel)) (by decide +kernel))⟩
theorem fl_X9_136 : Fl RX9 136 9 5 := ⟨RX9, TX9, 28, tyX9, rfl, by decide, in_X9, tyX9_ok, nmX9, rfl, Or.inl (gd_of (List.mem_of_getElem? (i := 813) (by decide +kernel)) (by decide +kernel))⟩
theorem kc_X9_139 : Cond.constantLong RX9 139 (11) ∈ lw_good := gd_of (List.mem_of_getElem? (i := 1011) (by decide +kernel)) (by decide +kernel)
theorem lk_X9_141 : Lk RX9 141 yX9_get := Or.inl (gd_of (List.mem_of_getElem? (i := 960) (by decide +kernel)) (by decide +kernel))
theorem lk_X9_145 : Lk RX9 145 yX9_busy := Or.inl (gd_of (List.mem_of_getElem? (i := 984) (by decide +kernel)) (by decide +kernel))
theorem lk_X9_148 : Lk RX9 148 yX9_lesser := Or.inl (gd_of (List.mem_of_getElem? (i := 991) (by decide +kernel)) (by decide +kernel))
theorem lk_X9_151 : Lk RX9 151 yX9_free := Or.inl (gd_of (List.mem_of_getElem? (i := 980) (by decide +kernel)) (by decide +kernel))
theorem lk_X9_154 : Lk RX9 154 yX9_chanceBy := Or.inl (gd_of (List.mem_of_getElem? (i := 988) (by decide +kernel)) (by decide +kernel))
theorem kc_X9_157 : Cond.constant RX9 157 (69069) ∈ lw_good := gd_of (List.mem_of_getElem? (i := 998) (by decide +kernel)) (by decide +kernel)
theorem lk_X9_158 : Lk RX9 158 yX9_isCell := Or.inl (gd_of (List.mem_of_getElem? (i := 951) (by decide +kernel)) (by decide +kernel))
theorem kc_X9_161 : Cond.constantLong RX9 161 (100) ∈ lw_good := gd_of (List.mem_of_getElem? (i := 955) (by decide +kernel)) (by decide +kernel)
theorem lk_X9_163 : Lk RX9 163 yX9_calls := Or.inl (gd_of (List.mem_of_getElem? (i := 956) (by decide +kernel)) (by decide +kernel))
theorem lk_X9_167 : Lk RX9 167 yX9_minds := Or.inl (gd_of (List.mem_of_getElem? (i := 964) (by decide +kernel)) (by decide +kernel))
theorem lk_X9_170 : Lk RX9 170 yX9_counts := Or.inl (gd_of (List.mem_of_getElem? (i := 972) (by decide +kernel)) (by decide +kernel))
theorem lk_X9_173 : Lk RX9 173 yX9_chance := Or.inl (gd_of (List.mem_of_getElem? (i := 976) (by decide +kernel)) (by decide +kernel))
theorem lk_X9_176 : Lk RX9 176 yX9_draw := Or.inl (gd_of (List.mem_of_getElem? (i := 994) (by decide +kernel)) (by decide +kernel))
theorem lk_X9_179 : Lk RX9 179 yX9_set := Or.inl (gd_of (List.mem_of_getElem? (i := 999) (by decide +kernel)) (by decide +kernel))
theorem fl_X9_183 : Fl RX9 183 9 25 := ⟨RX9, TX9, 28, tyX9, rfl, by decide, in_X9, tyX9_ok, nmX9, rfl, Or.inl (gd_of (List.mem_of_getElem? (i := 833) (by decide +kernel)) (by decide +kernel))⟩
theorem lk_X9_186 : Lk RX9 186 yX9_pairs := Or.inl (gd_of (List.mem_of_getElem? (i := 1036) (by decide +kernel)) (by decide +kernel))
theorem fl_X9_189 : Fl RX9 189 9 26 := ⟨RX9, TX9, 28, tyX9, rfl, by decide, in_X9, tyX9_ok, nmX9, rfl, Or.inl (gd_of (List.mem_of_getElem? (i := 834) (by decide +kernel)) (by decide +kernel))⟩
theorem lk_X9_192 : Lk RX9 192 yX9_frees := Or.inl (gd_of (List.mem_of_getElem? (i := 1040) (by decide +kernel)) (by decide +kernel))
theorem lk_X9_196 : Lk RX9 196 yX9_isAhead := Or.inl (gd_of (List.mem_of_getElem? (i := 1060) (by decide +kernel)) (by decide +kernel))
theorem lk_X9_199 : Lk RX9 199 yX9_queuedAt := Or.inl (gd_of (List.mem_of_getElem? (i := 1056) (by decide +kernel)) (by decide +kernel))
theorem lk_X9_202 : Lk RX9 202 yX9_moves := Or.inl (gd_of (List.mem_of_getElem? (i := 1032) (by decide +kernel)) (by decide +kernel))
theorem lk_X9_205 : Lk RX9 205 yX9_waiting := Or.inl (gd_of (List.mem_of_getElem? (i := 1044) (by decide +kernel)) (by decide +kernel))
theorem lk_X9_208 : Lk RX9 208 yX9_isCall := Or.inl (gd_of (List.mem_of_getElem? (i := 1007) (by decide +kernel)) (by decide +kernel))
theorem lk_X9_211 : Lk RX9 211 yX9_isValue := Or.inl (gd_of (List.mem_of_getElem? (i := 1012) (by decide +kernel)) (by decide +kernel))
theorem lk_X9_214 : Lk RX9 214 yX9_listens := Or.inl (gd_of (List.mem_of_getElem? (i := 1016) (by decide +kernel)) (by decide +kernel))
theorem lk_X9_217 : Lk RX9 217 yX9_streaks := Or.inl (gd_of (List.mem_of_getElem? (i := 1020) (by decide +kernel)) (by decide +kernel))
theorem lk_X9_220 : Lk RX9 220 yX9_target := Or.inl (gd_of (List.mem_of_getElem? (i := 1024) (by decide +kernel)) (by decide +kernel))
theorem lk_X9_223 : Lk RX9 223 yX9_asks := Or.inl (gd_of (List.mem_of_getElem? (i := 1028) (by decide +kernel)) (by decide +kernel))
theorem lk_X9_226 : Lk RX9 226 yX9_leaves := Or.inl (gd_of (List.mem_of_getElem? (i := 1048) (by decide +kernel)) (by decide +kernel))
theorem lk_X9_229 : Lk RX9 229 yX9_serves := Or.inl (gd_of (List.mem_of_getElem? (i := 1052) (by decide +kernel)) (by decide +kernel))
theorem kc_X9_232 : Cond.constantLong RX9 232 (6) ∈ lw_good := gd_of (List.mem_of_getElem? (i := 1088) (by decide +kernel)) (by decide +kernel)
theorem kc_X9_234 : Cond.constant RX9 234 (-1000000) ∈ lw_good := gd_of (List.mem_of_getElem? (i := 1089) (by decide +kernel)) (by decide +kernel)
theorem kc_X9_235 : Cond.constantLong RX9 235 (2) ∈ lw_good := gd_of (List.mem_of_getElem? (i := 1102) (by decide +kernel)) (by decide +kernel)
theorem kc_X9_237 : Cond.constantLong RX9 237 (9) ∈ lw_good := gd_of (List.mem_of_getElem? (i := 1110) (by decide +kernel)) (by decide +kernel)
theorem lk_X9_239 : Lk RX9 239 yX9_areRates := Or.inl (gd_of (List.mem_of_getElem? (i := 1107) (by decide +kernel)) (by decide +kernel))
theorem kc_X9_243 : Cond.constantLong RX9 243 (-1) ∈ lw_good := gd_of (List.mem_of_getElem? (i := 1111) (by decide +kernel)) (by decide +kernel)
theorem kc_X9_245 : Cond.constantLong RX9 245 (10) ∈ lw_good := gd_of (List.mem_of_getElem? (i := 1112) (by decide +kernel)) (by decide +kernel)
theorem lk_X9_247 : Lk RX9 247 yX9_shares := Or.inl (gd_of (List.mem_of_getElem? (i := 1113) (by decide +kernel)) (by decide +kernel))
theorem lk_X9_251 : Lk RX9 251 yX9_divisor := Or.inl (gd_of (List.mem_of_getElem? (i := 1117) (by decide +kernel)) (by decide +kernel))
theorem kc_X9_255 : Cond.constantLong RX9 255 (1000) ∈ lw_good := gd_of (List.mem_of_getElem? (i := 1124) (by decide +kernel)) (by decide +kernel)
theorem lk_X9_257 : Lk RX9 257 yX9_couldBe := Or.inl (gd_of (List.mem_of_getElem? (i := 1137) (by decide +kernel)) (by decide +kernel))
theorem fi_X0_4 : Fi 0 4 := fun _ _ _ h => by cases h; exact ⟨rfl, by decide +kernel⟩
theorem fi_X1_1 : Fi 1 1 := fun _ _ _ h => by cases h; exact ⟨rfl, by decide +kernel⟩
theorem fi_X1_2 : Fi 1 2 := fun _ _ _ h => by cases h; exact ⟨rfl, by decide +kernel⟩
theorem fi_X3_1 : Fi 3 1 := fun _ _ _ h => by cases h; exact ⟨rfl, by decide +kernel⟩
theorem fi_X3_2 : Fi 3 2 := fun _ _ _ h => by cases h; exact ⟨rfl, by decide +kernel⟩
theorem fi_X4_1 : Fi 4 1 := fun _ _ _ h => by cases h; exact ⟨rfl, by decide +kernel⟩
theorem fi_X4_4 : Fi 4 4 := fun _ _ _ h => by cases h; exact ⟨rfl, by decide +kernel⟩
theorem fi_X4_5 : Fi 4 5 := fun _ _ _ h => by cases h; exact ⟨rfl, by decide +kernel⟩
theorem fi_X4_6 : Fi 4 6 := fun _ _ _ h => by cases h; exact ⟨rfl, by decide +kernel⟩
theorem fi_X4_7 : Fi 4 7 := fun _ _ _ h => by cases h; exact ⟨rfl, by decide +kernel⟩
theorem fi_X5_0 : Fi 5 0 := fun _ _ _ h => by cases h; exact ⟨rfl, by decide +kernel⟩
theorem fi_X6_0 : Fi 6 0 := fun _ _ _ h => by cases h; exact ⟨rfl, by decide +kernel⟩
theorem fi_X7_0 : Fi 7 0 := fun _ _ _ h => by cases h; exact ⟨rfl, by decide +kernel⟩
theorem fi_X7_1 : Fi 7 1 := fun _ _ _ h => by cases h; exact ⟨rfl, by decide +kernel⟩
theorem fi_X7_15 : Fi 7 15 := fun _ _ _ h => by cases h; exact ⟨rfl, by decide +kernel⟩
theorem fi_X9_2 : Fi 9 2 := fun _ _ _ h => by cases h; exact ⟨rfl, by decide +kernel⟩
theorem fi_X9_5 : Fi 9 5 := fun _ _ _ h => by cases h; exact ⟨rfl, by decide +kernel⟩
theorem fi_X9_7 : Fi 9 7 := fun _ _ _ h => by cases h; exact ⟨rfl, by decide +kernel⟩
theorem fi_X9_8 : Fi 9 8 := fun _ _ _ h => by cases h; exact ⟨rfl, by decide +kernel⟩
theorem fi_X9_12 : Fi 9 12 := fun _ _ _ h => by cases h; exact ⟨rfl, by decide +kernel⟩
theorem fi_X9_13 : Fi 9 13 := fun _ _ _ h => by cases h; exact ⟨rfl, by decide +kernel⟩
theorem fi_X9_14 : Fi 9 14 := fun _ _ _ h => by cases h; exact ⟨rfl, by decide +kernel⟩
theorem fi_X9_15 : Fi 9 15 := fun _ _ _ h => by cases h; exact ⟨rfl, by decide +kernel⟩
theorem fi_X9_16 : Fi 9 16 := fun _ _ _ h => by cases h; exact ⟨rfl, by decide +kernel⟩
theorem fi_X9_17 : Fi 9 17 := fun _ _ _ h => by cases h; exact ⟨rfl, by decide +kernel⟩
theorem fi_X9_18 : Fi 9 18 := fun _ _ _ h => by cases h; exact ⟨rfl, by decide +kernel⟩
theorem fi_X9_23 : Fi 9 23 := fun _ _ _ h => by cases h; exact ⟨rfl, by decide +kernel⟩
theorem fi_X9_25 : Fi 9 25 := fun _ _ _ h => by cases h; exact ⟨rfl, by decide +kernel⟩
theorem fi_X9_26 : Fi 9 26 := fun _ _ _ h => by cases h; exact ⟨rfl, by decide +kernel⟩
