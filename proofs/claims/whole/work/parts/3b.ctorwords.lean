theorem oi_2 : Cond.instanceMethod Lib.objectInit ∈ lw_good := gd_of (List.mem_of_getElem? (i := 115) (by decide +kernel)) (by decide +kernel)
theorem oi_3 : Cond.code Lib.objectInit ⟨#[0xb1]⟩ 1 none ∈ lw_good := gd_of (List.mem_of_getElem? (i := 116) (by decide +kernel)) (by decide +kernel)
theorem lo_X8_1 : Cond.methodLink RX8 1 Lib.objectInit ∈ lw_good := gd_of (List.mem_of_getElem? (i := 114) (by decide +kernel)) (by decide +kernel)
theorem lo_X0_3 : Cond.methodLink RX0 3 Lib.objectInit ∈ lw_good := gd_of (List.mem_of_getElem? (i := 303) (by decide +kernel)) (by decide +kernel)
theorem lo_X1_3 : Cond.methodLink RX1 3 Lib.objectInit ∈ lw_good := gd_of (List.mem_of_getElem? (i := 325) (by decide +kernel)) (by decide +kernel)
theorem lo_X2_3 : Cond.methodLink RX2 3 Lib.objectInit ∈ lw_good := gd_of (List.mem_of_getElem? (i := 345) (by decide +kernel)) (by decide +kernel)
theorem lo_X3_3 : Cond.methodLink RX3 3 Lib.objectInit ∈ lw_good := gd_of (List.mem_of_getElem? (i := 361) (by decide +kernel)) (by decide +kernel)
theorem lo_X4_3 : Cond.methodLink RX4 3 Lib.objectInit ∈ lw_good := gd_of (List.mem_of_getElem? (i := 122) (by decide +kernel)) (by decide +kernel)
theorem lo_X5_3 : Cond.methodLink RX5 3 Lib.objectInit ∈ lw_good := gd_of (List.mem_of_getElem? (i := 378) (by decide +kernel)) (by decide +kernel)
theorem lo_X6_3 : Cond.methodLink RX6 3 Lib.objectInit ∈ lw_good := gd_of (List.mem_of_getElem? (i := 128) (by decide +kernel)) (by decide +kernel)
theorem lo_X7_3 : Cond.methodLink RX7 3 Lib.objectInit ∈ lw_good := gd_of (List.mem_of_getElem? (i := 203) (by decide +kernel)) (by decide +kernel)
theorem lo_X9_1 : Cond.methodLink RX9 1 Lib.objectInit ∈ lw_good := gd_of (List.mem_of_getElem? (i := 807) (by decide +kernel)) (by decide +kernel)
theorem kl_X8_7 : Cond.classLink RX8 7 RX4 ∈ lw_good := gd_of (List.mem_of_getElem? (i := 117) (by decide +kernel)) (by decide +kernel)
theorem kl_X8_16 : Cond.classLink RX8 16 RX6 ∈ lw_good := gd_of (List.mem_of_getElem? (i := 196) (by decide +kernel)) (by decide +kernel)
theorem kl_X8_23 : Cond.classLink RX8 23 RX7 ∈ lw_good := gd_of (List.mem_of_getElem? (i := 198) (by decide +kernel)) (by decide +kernel)
theorem kl_X8_30 : Cond.classLink RX8 30 RX0 ∈ lw_good := gd_of (List.mem_of_getElem? (i := 298) (by decide +kernel)) (by decide +kernel)
theorem kl_X8_39 : Cond.classLink RX8 39 RX1 ∈ lw_good := gd_of (List.mem_of_getElem? (i := 320) (by decide +kernel)) (by decide +kernel)
theorem kl_X8_46 : Cond.classLink RX8 46 RX2 ∈ lw_good := gd_of (List.mem_of_getElem? (i := 340) (by decide +kernel)) (by decide +kernel)
theorem kl_X8_53 : Cond.classLink RX8 53 RX3 ∈ lw_good := gd_of (List.mem_of_getElem? (i := 356) (by decide +kernel)) (by decide +kernel)
theorem kl_X8_60 : Cond.classLink RX8 60 RX5 ∈ lw_good := gd_of (List.mem_of_getElem? (i := 373) (by decide +kernel)) (by decide +kernel)
theorem kl_X1_9 : Cond.classLink RX1 9 RX7 ∈ lw_good := gd_of (List.mem_of_getElem? (i := 326) (by decide +kernel)) (by decide +kernel)
theorem kl_X2_9 : Cond.classLink RX2 9 RX7 ∈ lw_good := gd_of (List.mem_of_getElem? (i := 346) (by decide +kernel)) (by decide +kernel)
theorem kl_X4_15 : Cond.classLink RX4 15 RX6 ∈ lw_good := gd_of (List.mem_of_getElem? (i := 123) (by decide +kernel)) (by decide +kernel)
theorem kl_L_7 : Cond.classLink RL 7 RX8 ∈ lw_good := gd_of (List.mem_of_getElem? (i := 109) (by decide +kernel)) (by decide +kernel)
theorem kl_L_10 : Cond.classLink RL 10 RX9 ∈ lw_good := gd_of (List.mem_of_getElem? (i := 802) (by decide +kernel)) (by decide +kernel)
theorem kn_X8 : Cond.instantiable RX8 8 ∈ lw_good := gd_of (List.mem_of_getElem? (i := 110) (by decide +kernel)) (by decide +kernel)
theorem kn_X4 : Cond.instantiable RX4 8 ∈ lw_good := gd_of (List.mem_of_getElem? (i := 118) (by decide +kernel)) (by decide +kernel)
theorem kn_X6 : Cond.instantiable RX6 5 ∈ lw_good := gd_of (List.mem_of_getElem? (i := 124) (by decide +kernel)) (by decide +kernel)
theorem kn_X7 : Cond.instantiable RX7 19 ∈ lw_good := gd_of (List.mem_of_getElem? (i := 199) (by decide +kernel)) (by decide +kernel)
theorem kn_X0 : Cond.instantiable RX0 5 ∈ lw_good := gd_of (List.mem_of_getElem? (i := 299) (by decide +kernel)) (by decide +kernel)
theorem kn_X1 : Cond.instantiable RX1 3 ∈ lw_good := gd_of (List.mem_of_getElem? (i := 321) (by decide +kernel)) (by decide +kernel)
theorem kn_X2 : Cond.instantiable RX2 2 ∈ lw_good := gd_of (List.mem_of_getElem? (i := 341) (by decide +kernel)) (by decide +kernel)
theorem kn_X3 : Cond.instantiable RX3 3 ∈ lw_good := gd_of (List.mem_of_getElem? (i := 357) (by decide +kernel)) (by decide +kernel)
theorem kn_X5 : Cond.instantiable RX5 3 ∈ lw_good := gd_of (List.mem_of_getElem? (i := 374) (by decide +kernel)) (by decide +kernel)
theorem kn_X9 : Cond.instantiable RX9 28 ∈ lw_good := gd_of (List.mem_of_getElem? (i := 803) (by decide +kernel)) (by decide +kernel)
theorem ki_L : Cond.initialized RL ∈ lw_good := gd_of (List.mem_of_getElem? (i := 95) (by decide +kernel)) (by decide +kernel)
theorem ki_X8 : Cond.initialized RX8 ∈ lw_good := gd_of (List.mem_of_getElem? (i := 96) (by decide +kernel)) (by decide +kernel)
theorem ki_X4 : Cond.initialized RX4 ∈ lw_good := gd_of (List.mem_of_getElem? (i := 97) (by decide +kernel)) (by decide +kernel)
theorem ki_X6 : Cond.initialized RX6 ∈ lw_good := gd_of (List.mem_of_getElem? (i := 98) (by decide +kernel)) (by decide +kernel)
theorem ki_X7 : Cond.initialized RX7 ∈ lw_good := gd_of (List.mem_of_getElem? (i := 100) (by decide +kernel)) (by decide +kernel)
theorem ki_X0 : Cond.initialized RX0 ∈ lw_good := gd_of (List.mem_of_getElem? (i := 102) (by decide +kernel)) (by decide +kernel)
theorem ki_X1 : Cond.initialized RX1 ∈ lw_good := gd_of (List.mem_of_getElem? (i := 103) (by decide +kernel)) (by decide +kernel)
theorem ki_X2 : Cond.initialized RX2 ∈ lw_good := gd_of (List.mem_of_getElem? (i := 104) (by decide +kernel)) (by decide +kernel)
theorem ki_X3 : Cond.initialized RX3 ∈ lw_good := gd_of (List.mem_of_getElem? (i := 105) (by decide +kernel)) (by decide +kernel)
theorem ki_X5 : Cond.initialized RX5 ∈ lw_good := gd_of (List.mem_of_getElem? (i := 106) (by decide +kernel)) (by decide +kernel)
theorem ki_X9 : Cond.initialized RX9 ∈ lw_good := gd_of (List.mem_of_getElem? (i := 107) (by decide +kernel)) (by decide +kernel)
theorem ka_int : Cond.arrayClass .int ∈ lw_good := gd_of (List.mem_of_getElem? (i := 168) (by decide +kernel)) (by decide +kernel)
theorem ka_boolean : Cond.arrayClass .boolean ∈ lw_good := gd_of (List.mem_of_getElem? (i := 355) (by decide +kernel)) (by decide +kernel)
theorem ka_long : Cond.arrayClass .long ∈ lw_good := gd_of (List.mem_of_getElem? (i := 372) (by decide +kernel)) (by decide +kernel)
theorem mw_X8_init : MWi yX8_init cX8_init 1 0 := ⟨⟨gd_of (List.mem_of_getElem? (i := 96) (by decide +kernel)) (by decide +kernel), gd_of (List.mem_of_getElem? (i := 113) (by decide +kernel)) rfl, by decide +kernel⟩, rfl, gd_of (List.mem_of_getElem? (i := 112) (by decide +kernel)) (by decide +kernel)⟩
theorem mw_X4_init : MWi yX4_init cX4_init 1 0 := ⟨⟨gd_of (List.mem_of_getElem? (i := 97) (by decide +kernel)) (by decide +kernel), gd_of (List.mem_of_getElem? (i := 121) (by decide +kernel)) rfl, by decide +kernel⟩, rfl, gd_of (List.mem_of_getElem? (i := 120) (by decide +kernel)) (by decide +kernel)⟩
theorem mw_X6_init : MWi yX6_init cX6_init 1 0 := ⟨⟨gd_of (List.mem_of_getElem? (i := 98) (by decide +kernel)) (by decide +kernel), gd_of (List.mem_of_getElem? (i := 127) (by decide +kernel)) rfl, by decide +kernel⟩, rfl, gd_of (List.mem_of_getElem? (i := 126) (by decide +kernel)) (by decide +kernel)⟩
theorem mw_X7_init : MWi yX7_init cX7_init 1 0 := ⟨⟨gd_of (List.mem_of_getElem? (i := 100) (by decide +kernel)) (by decide +kernel), gd_of (List.mem_of_getElem? (i := 202) (by decide +kernel)) rfl, by decide +kernel⟩, rfl, gd_of (List.mem_of_getElem? (i := 201) (by decide +kernel)) (by decide +kernel)⟩
theorem mw_X0_init : MWi yX0_init cX0_init 3 2 := ⟨⟨gd_of (List.mem_of_getElem? (i := 102) (by decide +kernel)) (by decide +kernel), gd_of (List.mem_of_getElem? (i := 302) (by decide +kernel)) rfl, by decide +kernel⟩, rfl, gd_of (List.mem_of_getElem? (i := 301) (by decide +kernel)) (by decide +kernel)⟩
theorem mw_X1_init : MWi yX1_init cX1_init 2 0 := ⟨⟨gd_of (List.mem_of_getElem? (i := 103) (by decide +kernel)) (by decide +kernel), gd_of (List.mem_of_getElem? (i := 324) (by decide +kernel)) rfl, by decide +kernel⟩, rfl, gd_of (List.mem_of_getElem? (i := 323) (by decide +kernel)) (by decide +kernel)⟩
theorem mw_X2_init : MWi yX2_init cX2_init 2 0 := ⟨⟨gd_of (List.mem_of_getElem? (i := 104) (by decide +kernel)) (by decide +kernel), gd_of (List.mem_of_getElem? (i := 344) (by decide +kernel)) rfl, by decide +kernel⟩, rfl, gd_of (List.mem_of_getElem? (i := 343) (by decide +kernel)) (by decide +kernel)⟩
theorem mw_X3_init : MWi yX3_init cX3_init 1 0 := ⟨⟨gd_of (List.mem_of_getElem? (i := 105) (by decide +kernel)) (by decide +kernel), gd_of (List.mem_of_getElem? (i := 360) (by decide +kernel)) rfl, by decide +kernel⟩, rfl, gd_of (List.mem_of_getElem? (i := 359) (by decide +kernel)) (by decide +kernel)⟩
theorem mw_X5_init : MWi yX5_init cX5_init 1 0 := ⟨⟨gd_of (List.mem_of_getElem? (i := 106) (by decide +kernel)) (by decide +kernel), gd_of (List.mem_of_getElem? (i := 377) (by decide +kernel)) rfl, by decide +kernel⟩, rfl, gd_of (List.mem_of_getElem? (i := 376) (by decide +kernel)) (by decide +kernel)⟩
theorem mw_X9_init : MWi yX9_init cX9_init 1 0 := ⟨⟨gd_of (List.mem_of_getElem? (i := 107) (by decide +kernel)) (by decide +kernel), gd_of (List.mem_of_getElem? (i := 806) (by decide +kernel)) rfl, by decide +kernel⟩, rfl, gd_of (List.mem_of_getElem? (i := 805) (by decide +kernel)) (by decide +kernel)⟩
theorem dv_X0 : ∀ j, j < 5 → defaultValue (tyX0 j) = vp_V [.null, .null, .null, .null, .int 0] j := fun j hj => match j, hj with
  | 0, _ => rfl
  | 1, _ => rfl
  | 2, _ => rfl
  | 3, _ => rfl
  | 4, _ => rfl
  | k + 5, h => absurd h (by omega)
theorem fo_X0_18 : Fo RX0 18 0 0 := ⟨TX0, 5, tyX0, .object "GuardCells$Told", rfl, by decide, in_X0, tyX0_ok, nmX0, rfl, gd_of (List.mem_of_getElem? (i := 304) (by decide +kernel)) (by decide +kernel), rfl, by decide +kernel, fun _ => ⟨rfl, rfl⟩⟩
theorem fo_X0_22 : Fo RX0 22 0 1 := ⟨TX0, 5, tyX0, .object "GuardCells$Traffic", rfl, by decide, in_X0, tyX0_ok, nmX0, rfl, gd_of (List.mem_of_getElem? (i := 305) (by decide +kernel)) (by decide +kernel), rfl, by decide +kernel, fun _ => ⟨rfl, rfl⟩⟩
theorem fo_X0_9 : Fo RX0 9 0 2 := ⟨TX0, 5, tyX0, .array .int, rfl, by decide, in_X0, tyX0_ok, nmX0, rfl, gd_of (List.mem_of_getElem? (i := 306) (by decide +kernel)) (by decide +kernel), rfl, by decide +kernel, fun _ => ⟨rfl, rfl⟩⟩
theorem fo_X0_15 : Fo RX0 15 0 3 := ⟨TX0, 5, tyX0, .array .int, rfl, by decide, in_X0, tyX0_ok, nmX0, rfl, gd_of (List.mem_of_getElem? (i := 307) (by decide +kernel)) (by decide +kernel), rfl, by decide +kernel, fun _ => ⟨rfl, rfl⟩⟩
theorem dv_X1 : ∀ j, j < 3 → defaultValue (tyX1 j) = vp_V [.null, .int 0, .int 0] j := fun j hj => match j, hj with
  | 0, _ => rfl
  | 1, _ => rfl
  | 2, _ => rfl
  | k + 3, h => absurd h (by omega)
theorem fo_X1_11 : Fo RX1 11 1 0 := ⟨TX1, 3, tyX1, .array (.object "GuardCells$Traffic"), rfl, by decide, in_X1, tyX1_ok, nmX1, rfl, gd_of (List.mem_of_getElem? (i := 329) (by decide +kernel)) (by decide +kernel), rfl, by decide +kernel, fun _ => ⟨rfl, rfl⟩⟩
theorem dv_X2 : ∀ j, j < 2 → defaultValue (tyX2 j) = vp_V [.null, .null] j := fun j hj => match j, hj with
  | 0, _ => rfl
  | 1, _ => rfl
  | k + 2, h => absurd h (by omega)
theorem fo_X2_11 : Fo RX2 11 2 0 := ⟨TX2, 2, tyX2, .array (.object "GuardCells$Traffic"), rfl, by decide, in_X2, tyX2_ok, nmX2, rfl, gd_of (List.mem_of_getElem? (i := 348) (by decide +kernel)) (by decide +kernel), rfl, by decide +kernel, fun _ => ⟨rfl, rfl⟩⟩
theorem fo_X2_17 : Fo RX2 17 2 1 := ⟨TX2, 2, tyX2, .array .boolean, rfl, by decide, in_X2, tyX2_ok, nmX2, rfl, gd_of (List.mem_of_getElem? (i := 349) (by decide +kernel)) (by decide +kernel), rfl, by decide +kernel, fun _ => ⟨rfl, rfl⟩⟩
theorem dv_X3 : ∀ j, j < 3 → defaultValue (tyX3 j) = vp_V [.null, .int 0, .int 0] j := fun j hj => match j, hj with
  | 0, _ => rfl
  | 1, _ => rfl
  | 2, _ => rfl
  | k + 3, h => absurd h (by omega)
theorem fo_X3_9 : Fo RX3 9 3 0 := ⟨TX3, 3, tyX3, .array .long, rfl, by decide, in_X3, tyX3_ok, nmX3, rfl, gd_of (List.mem_of_getElem? (i := 362) (by decide +kernel)) (by decide +kernel), rfl, by decide +kernel, fun _ => ⟨rfl, rfl⟩⟩
theorem dv_X4 : ∀ j, j < 8 → defaultValue (tyX4 j) = vp_V [.null, .int 0, .null, .null, .int 0, .int 0, .int 0, .int 0] j := fun j hj => match j, hj with
  | 0, _ => rfl
  | 1, _ => rfl
  | 2, _ => rfl
  | 3, _ => rfl
  | 4, _ => rfl
  | 5, _ => rfl
  | 6, _ => rfl
  | 7, _ => rfl
  | k + 8, h => absurd h (by omega)
theorem fo_X4_9 : Fo RX4 9 4 0 := ⟨TX4, 8, tyX4, .array .int, rfl, by decide, in_X4, tyX4_ok, nmX4, rfl, gd_of (List.mem_of_getElem? (i := 169) (by decide +kernel)) (by decide +kernel), rfl, by decide +kernel, fun _ => ⟨rfl, rfl⟩⟩
theorem fo_X4_18 : Fo RX4 18 4 2 := ⟨TX4, 8, tyX4, .object "GuardCells$Told", rfl, by decide, in_X4, tyX4_ok, nmX4, rfl, gd_of (List.mem_of_getElem? (i := 172) (by decide +kernel)) (by decide +kernel), rfl, by decide +kernel, fun _ => ⟨rfl, rfl⟩⟩
theorem fo_X4_22 : Fo RX4 22 4 3 := ⟨TX4, 8, tyX4, .array .int, rfl, by decide, in_X4, tyX4_ok, nmX4, rfl, gd_of (List.mem_of_getElem? (i := 174) (by decide +kernel)) (by decide +kernel), rfl, by decide +kernel, fun _ => ⟨rfl, rfl⟩⟩
theorem dv_X5 : ∀ j, j < 3 → defaultValue (tyX5 j) = vp_V [.int 0, .null, .null] j := fun j hj => match j, hj with
  | 0, _ => rfl
  | 1, _ => rfl
  | 2, _ => rfl
  | k + 3, h => absurd h (by omega)
theorem fo_X5_9 : Fo RX5 9 5 1 := ⟨TX5, 3, tyX5, .array .int, rfl, by decide, in_X5, tyX5_ok, nmX5, rfl, gd_of (List.mem_of_getElem? (i := 381) (by decide +kernel)) (by decide +kernel), rfl, by decide +kernel, fun _ => ⟨rfl, rfl⟩⟩
theorem fo_X5_15 : Fo RX5 15 5 2 := ⟨TX5, 3, tyX5, .array .int, rfl, by decide, in_X5, tyX5_ok, nmX5, rfl, gd_of (List.mem_of_getElem? (i := 382) (by decide +kernel)) (by decide +kernel), rfl, by decide +kernel, fun _ => ⟨rfl, rfl⟩⟩
theorem dv_X6 : ∀ j, j < 5 → defaultValue (tyX6 j) = vp_V [.int 0, .null, .null, .null, .null] j := fun j hj => match j, hj with
  | 0, _ => rfl
  | 1, _ => rfl
  | 2, _ => rfl
  | 3, _ => rfl
  | 4, _ => rfl
  | k + 5, h => absurd h (by omega)
theorem fo_X6_9 : Fo RX6 9 6 1 := ⟨TX6, 5, tyX6, .array .int, rfl, by decide, in_X6, tyX6_ok, nmX6, rfl, gd_of (List.mem_of_getElem? (i := 142) (by decide +kernel)) (by decide +kernel), rfl, by decide +kernel, fun _ => ⟨rfl, rfl⟩⟩
theorem fo_X6_15 : Fo RX6 15 6 2 := ⟨TX6, 5, tyX6, .array .int, rfl, by decide, in_X6, tyX6_ok, nmX6, rfl, gd_of (List.mem_of_getElem? (i := 146) (by decide +kernel)) (by decide +kernel), rfl, by decide +kernel, fun _ => ⟨rfl, rfl⟩⟩
theorem fo_X6_18 : Fo RX6 18 6 3 := ⟨TX6, 5, tyX6, .array .int, rfl, by decide, in_X6, tyX6_ok, nmX6, rfl, gd_of (List.mem_of_getElem? (i := 149) (by decide +kernel)) (by decide +kernel), rfl, by decide +kernel, fun _ => ⟨rfl, rfl⟩⟩
theorem fo_X6_21 : Fo RX6 21 6 4 := ⟨TX6, 5, tyX6, .array .int, rfl, by decide, in_X6, tyX6_ok, nmX6, rfl, gd_of (List.mem_of_getElem? (i := 153) (by decide +kernel)) (by decide +kernel), rfl, by decide +kernel, fun _ => ⟨rfl, rfl⟩⟩
theorem dv_X7 : ∀ j, j < 19 → defaultValue (tyX7 j) = vp_V [.int 0, .int 0, .null, .null, .null, .null, .null, .null, .null, .null, .null, .null, .null, .null, .null, .int 0, .null, .null, .null] j := fun j hj => match j, hj with
  | 0, _ => rfl
  | 1, _ => rfl
  | 2, _ => rfl
  | 3, _ => rfl
  | 4, _ => rfl
  | 5, _ => rfl
  | 6, _ => rfl
  | 7, _ => rfl
  | 8, _ => rfl
  | 9, _ => rfl
  | 10, _ => rfl
  | 11, _ => rfl
  | 12, _ => rfl
  | 13, _ => rfl
  | 14, _ => rfl
  | 15, _ => rfl
  | 16, _ => rfl
  | 17, _ => rfl
  | 18, _ => rfl
  | k + 19, h => absurd h (by omega)
theorem fo_X7_9 : Fo RX7 9 7 2 := ⟨TX7, 19, tyX7, .array .int, rfl, by decide, in_X7, tyX7_ok, nmX7, rfl, gd_of (List.mem_of_getElem? (i := 215) (by decide +kernel)) (by decide +kernel), rfl, by decide +kernel, fun _ => ⟨rfl, rfl⟩⟩
theorem fo_X7_15 : Fo RX7 15 7 3 := ⟨TX7, 19, tyX7, .array .int, rfl, by decide, in_X7, tyX7_ok, nmX7, rfl, gd_of (List.mem_of_getElem? (i := 218) (by decide +kernel)) (by decide +kernel), rfl, by decide +kernel, fun _ => ⟨rfl, rfl⟩⟩
theorem fo_X7_18 : Fo RX7 18 7 4 := ⟨TX7, 19, tyX7, .array .int, rfl, by decide, in_X7, tyX7_ok, nmX7, rfl, gd_of (List.mem_of_getElem? (i := 220) (by decide +kernel)) (by decide +kernel), rfl, by decide +kernel, fun _ => ⟨rfl, rfl⟩⟩
theorem fo_X7_21 : Fo RX7 21 7 5 := ⟨TX7, 19, tyX7, .array .int, rfl, by decide, in_X7, tyX7_ok, nmX7, rfl, gd_of (List.mem_of_getElem? (i := 223) (by decide +kernel)) (by decide +kernel), rfl, by decide +kernel, fun _ => ⟨rfl, rfl⟩⟩
theorem fo_X7_24 : Fo RX7 24 7 6 := ⟨TX7, 19, tyX7, .array .int, rfl, by decide, in_X7, tyX7_ok, nmX7, rfl, gd_of (List.mem_of_getElem? (i := 226) (by decide +kernel)) (by decide +kernel), rfl, by decide +kernel, fun _ => ⟨rfl, rfl⟩⟩
theorem fo_X7_27 : Fo RX7 27 7 7 := ⟨TX7, 19, tyX7, .array .int, rfl, by decide, in_X7, tyX7_ok, nmX7, rfl, gd_of (List.mem_of_getElem? (i := 228) (by decide +kernel)) (by decide +kernel), rfl, by decide +kernel, fun _ => ⟨rfl, rfl⟩⟩
theorem fo_X7_30 : Fo RX7 30 7 8 := ⟨TX7, 19, tyX7, .array .int, rfl, by decide, in_X7, tyX7_ok, nmX7, rfl, gd_of (List.mem_of_getElem? (i := 231) (by decide +kernel)) (by decide +kernel), rfl, by decide +kernel, fun _ => ⟨rfl, rfl⟩⟩
theorem fo_X7_33 : Fo RX7 33 7 9 := ⟨TX7, 19, tyX7, .array .int, rfl, by decide, in_X7, tyX7_ok, nmX7, rfl, gd_of (List.mem_of_getElem? (i := 233) (by decide +kernel)) (by decide +kernel), rfl, by decide +kernel, fun _ => ⟨rfl, rfl⟩⟩
theorem fo_X7_36 : Fo RX7 36 7 10 := ⟨TX7, 19, tyX7, .array .int, rfl, by decide, in_X7, tyX7_ok, nmX7, rfl, gd_of (List.mem_of_getElem? (i := 236) (by decide +kernel)) (by decide +kernel), rfl, by decide +kernel, fun _ => ⟨rfl, rfl⟩⟩
theorem fo_X7_39 : Fo RX7 39 7 11 := ⟨TX7, 19, tyX7, .array .int, rfl, by decide, in_X7, tyX7_ok, nmX7, rfl, gd_of (List.mem_of_getElem? (i := 239) (by decide +kernel)) (by decide +kernel), rfl, by decide +kernel, fun _ => ⟨rfl, rfl⟩⟩
theorem fo_X7_42 : Fo RX7 42 7 12 := ⟨TX7, 19, tyX7, .array .int, rfl, by decide, in_X7, tyX7_ok, nmX7, rfl, gd_of (List.mem_of_getElem? (i := 242) (by decide +kernel)) (by decide +kernel), rfl, by decide +kernel, fun _ => ⟨rfl, rfl⟩⟩
theorem fo_X7_45 : Fo RX7 45 7 13 := ⟨TX7, 19, tyX7, .array .int, rfl, by decide, in_X7, tyX7_ok, nmX7, rfl, gd_of (List.mem_of_getElem? (i := 245) (by decide +kernel)) (by decide +kernel), rfl, by decide +kernel, fun _ => ⟨rfl, rfl⟩⟩
theorem fo_X7_48 : Fo RX7 48 7 14 := ⟨TX7, 19, tyX7, .array .int, rfl, by decide, in_X7, tyX7_ok, nmX7, rfl, gd_of (List.mem_of_getElem? (i := 248) (by decide +kernel)) (by decide +kernel), rfl, by decide +kernel, fun _ => ⟨rfl, rfl⟩⟩
theorem fo_X7_51 : Fo RX7 51 7 16 := ⟨TX7, 19, tyX7, .array .int, rfl, by decide, in_X7, tyX7_ok, nmX7, rfl, gd_of (List.mem_of_getElem? (i := 253) (by decide +kernel)) (by decide +kernel), rfl, by decide +kernel, fun _ => ⟨rfl, rfl⟩⟩
theorem fo_X7_54 : Fo RX7 54 7 17 := ⟨TX7, 19, tyX7, .array .int, rfl, by decide, in_X7, tyX7_ok, nmX7, rfl, gd_of (List.mem_of_getElem? (i := 255) (by decide +kernel)) (by decide +kernel), rfl, by decide +kernel, fun _ => ⟨rfl, rfl⟩⟩
theorem fo_X7_57 : Fo RX7 57 7 18 := ⟨TX7, 19, tyX7, .array .int, rfl, by decide, in_X7, tyX7_ok, nmX7, rfl, gd_of (List.mem_of_getElem? (i := 257) (by decide +kernel)) (by decide +kernel), rfl, by decide +kernel, fun _ => ⟨rfl, rfl⟩⟩
theorem dv_X8 : ∀ j, j < 8 → defaultValue (tyX8 j) = vp_V [.null, .null, .null, .null, .null, .null, .null, .null] j := fun j hj => match j, hj with
  | 0, _ => rfl
  | 1, _ => rfl
  | 2, _ => rfl
  | 3, _ => rfl
  | 4, _ => rfl
  | 5, _ => rfl
  | 6, _ => rfl
  | 7, _ => rfl
  | k + 8, h => absurd h (by omega)
theorem fo_X8_10 : Fo RX8 10 8 0 := ⟨TX8, 8, tyX8, .object "GuardCells$Reader", rfl, by decide, in_X8, tyX8_ok, nmX8, rfl, gd_of (List.mem_of_getElem? (i := 390) (by decide +kernel)) (by decide +kernel), rfl, by decide +kernel, fun _ => ⟨rfl, rfl⟩⟩
theorem fo_X8_19 : Fo RX8 19 8 1 := ⟨TX8, 8, tyX8, .object "GuardCells$Told", rfl, by decide, in_X8, tyX8_ok, nmX8, rfl, gd_of (List.mem_of_getElem? (i := 391) (by decide +kernel)) (by decide +kernel), rfl, by decide +kernel, fun _ => ⟨rfl, rfl⟩⟩
theorem fo_X8_26 : Fo RX8 26 8 2 := ⟨TX8, 8, tyX8, .object "GuardCells$Traffic", rfl, by decide, in_X8, tyX8_ok, nmX8, rfl, gd_of (List.mem_of_getElem? (i := 392) (by decide +kernel)) (by decide +kernel), rfl, by decide +kernel, fun _ => ⟨rfl, rfl⟩⟩
theorem fo_X8_35 : Fo RX8 35 8 3 := ⟨TX8, 8, tyX8, .object "GuardCells$Exchange", rfl, by decide, in_X8, tyX8_ok, nmX8, rfl, gd_of (List.mem_of_getElem? (i := 393) (by decide +kernel)) (by decide +kernel), rfl, by decide +kernel, fun _ => ⟨rfl, rfl⟩⟩
theorem fo_X8_42 : Fo RX8 42 8 4 := ⟨TX8, 8, tyX8, .object "GuardCells$History", rfl, by decide, in_X8, tyX8_ok, nmX8, rfl, gd_of (List.mem_of_getElem? (i := 394) (by decide +kernel)) (by decide +kernel), rfl, by decide +kernel, fun _ => ⟨rfl, rfl⟩⟩
theorem fo_X8_49 : Fo RX8 49 8 5 := ⟨TX8, 8, tyX8, .object "GuardCells$Images", rfl, by decide, in_X8, tyX8_ok, nmX8, rfl, gd_of (List.mem_of_getElem? (i := 395) (by decide +kernel)) (by decide +kernel), rfl, by decide +kernel, fun _ => ⟨rfl, rfl⟩⟩
theorem fo_X8_56 : Fo RX8 56 8 6 := ⟨TX8, 8, tyX8, .object "GuardCells$LongRun", rfl, by decide, in_X8, tyX8_ok, nmX8, rfl, gd_of (List.mem_of_getElem? (i := 396) (by decide +kernel)) (by decide +kernel), rfl, by decide +kernel, fun _ => ⟨rfl, rfl⟩⟩
theorem fo_X8_63 : Fo RX8 63 8 7 := ⟨TX8, 8, tyX8, .object "GuardCells$Sightings", rfl, by decide, in_X8, tyX8_ok, nmX8, rfl, gd_of (List.mem_of_getElem? (i := 397) (by decide +kernel)) (by decide +kernel), rfl, by decide +kernel, fun _ => ⟨rfl, rfl⟩⟩
theorem dv_X9 : ∀ j, j < 28 → defaultValue (tyX9 j) = vp_V [.null, .null, .int 0, .null, .null, .int 0, .null, .int 0, .int 0, .null, .null, .null, .int 0, .int 0, .int 0, .int 0, .int 0, .int 0, .int 0, .null, .null, .null, .null, .int 0, .null, .int 0, .int 0, .null] j := fun j hj => match j, hj with
  | 0, _ => rfl
  | 1, _ => rfl
  | 2, _ => rfl
  | 3, _ => rfl
  | 4, _ => rfl
  | 5, _ => rfl
  | 6, _ => rfl
  | 7, _ => rfl
  | 8, _ => rfl
  | 9, _ => rfl
  | 10, _ => rfl
  | 11, _ => rfl
  | 12, _ => rfl
  | 13, _ => rfl
  | 14, _ => rfl
  | 15, _ => rfl
  | 16, _ => rfl
  | 17, _ => rfl
  | 18, _ => rfl
  | 19, _ => rfl
  | 20, _ => rfl
  | 21, _ => rfl
  | 22, _ => rfl
  | 23, _ => rfl
  | 24, _ => rfl
  | 25, _ => rfl
  | 26, _ => rfl
  | 27, _ => rfl
  | k + 28, h => absurd h (by omega)
theorem fo_X9_7 : Fo RX9 7 9 0 := ⟨TX9, 28, tyX9, .array .int, rfl, by decide, in_X9, tyX9_ok, nmX9, rfl, gd_of (List.mem_of_getElem? (i := 808) (by decide +kernel)) (by decide +kernel), rfl, by decide +kernel, fun _ => ⟨rfl, rfl⟩⟩
theorem fo_X9_13 : Fo RX9 13 9 1 := ⟨TX9, 28, tyX9, .array .boolean, rfl, by decide, in_X9, tyX9_ok, nmX9, rfl, gd_of (List.mem_of_getElem? (i := 809) (by decide +kernel)) (by decide +kernel), rfl, by decide +kernel, fun _ => ⟨rfl, rfl⟩⟩
theorem fo_X9_17 : Fo RX9 17 9 3 := ⟨TX9, 28, tyX9, .array .int, rfl, by decide, in_X9, tyX9_ok, nmX9, rfl, gd_of (List.mem_of_getElem? (i := 811) (by decide +kernel)) (by decide +kernel), rfl, by decide +kernel, fun _ => ⟨rfl, rfl⟩⟩
theorem fo_X9_20 : Fo RX9 20 9 4 := ⟨TX9, 28, tyX9, .array .int, rfl, by decide, in_X9, tyX9_ok, nmX9, rfl, gd_of (List.mem_of_getElem? (i := 812) (by decide +kernel)) (by decide +kernel), rfl, by decide +kernel, fun _ => ⟨rfl, rfl⟩⟩
theorem fo_X9_23 : Fo RX9 23 9 6 := ⟨TX9, 28, tyX9, .array .int, rfl, by decide, in_X9, tyX9_ok, nmX9, rfl, gd_of (List.mem_of_getElem? (i := 814) (by decide +kernel)) (by decide +kernel), rfl, by decide +kernel, fun _ => ⟨rfl, rfl⟩⟩
theorem fo_X9_26 : Fo RX9 26 9 9 := ⟨TX9, 28, tyX9, .array .int, rfl, by decide, in_X9, tyX9_ok, nmX9, rfl, gd_of (List.mem_of_getElem? (i := 817) (by decide +kernel)) (by decide +kernel), rfl, by decide +kernel, fun _ => ⟨rfl, rfl⟩⟩
theorem fo_X9_29 : Fo RX9 29 9 10 := ⟨TX9, 28, tyX9, .array .int, rfl, by decide, in_X9, tyX9_ok, nmX9, rfl, gd_of (List.mem_of_getElem? (i := 818) (by decide +kernel)) (by decide +kernel), rfl, by decide +kernel, fun _ => ⟨rfl, rfl⟩⟩
theorem fo_X9_32 : Fo RX9 32 9 11 := ⟨TX9, 28, tyX9, .array .int, rfl, by decide, in_X9, tyX9_ok, nmX9, rfl, gd_of (List.mem_of_getElem? (i := 819) (by decide +kernel)) (by decide +kernel), rfl, by decide +kernel, fun _ => ⟨rfl, rfl⟩⟩
theorem fo_X9_35 : Fo RX9 35 9 19 := ⟨TX9, 28, tyX9, .array .int, rfl, by decide, in_X9, tyX9_ok, nmX9, rfl, gd_of (List.mem_of_getElem? (i := 827) (by decide +kernel)) (by decide +kernel), rfl, by decide +kernel, fun _ => ⟨rfl, rfl⟩⟩
theorem fo_X9_38 : Fo RX9 38 9 20 := ⟨TX9, 28, tyX9, .array .int, rfl, by decide, in_X9, tyX9_ok, nmX9, rfl, gd_of (List.mem_of_getElem? (i := 828) (by decide +kernel)) (by decide +kernel), rfl, by decide +kernel, fun _ => ⟨rfl, rfl⟩⟩
theorem fo_X9_41 : Fo RX9 41 9 21 := ⟨TX9, 28, tyX9, .array .int, rfl, by decide, in_X9, tyX9_ok, nmX9, rfl, gd_of (List.mem_of_getElem? (i := 829) (by decide +kernel)) (by decide +kernel), rfl, by decide +kernel, fun _ => ⟨rfl, rfl⟩⟩
theorem fo_X9_44 : Fo RX9 44 9 22 := ⟨TX9, 28, tyX9, .array .int, rfl, by decide, in_X9, tyX9_ok, nmX9, rfl, gd_of (List.mem_of_getElem? (i := 830) (by decide +kernel)) (by decide +kernel), rfl, by decide +kernel, fun _ => ⟨rfl, rfl⟩⟩
theorem fo_X9_47 : Fo RX9 47 9 24 := ⟨TX9, 28, tyX9, .array .int, rfl, by decide, in_X9, tyX9_ok, nmX9, rfl, gd_of (List.mem_of_getElem? (i := 832) (by decide +kernel)) (by decide +kernel), rfl, by decide +kernel, fun _ => ⟨rfl, rfl⟩⟩
theorem fo_X9_50 : Fo RX9 50 9 27 := ⟨TX9, 28, tyX9, .array .long, rfl, by decide, in_X9, tyX9_ok, nmX9, rfl, gd_of (List.mem_of_getElem? (i := 835) (by decide +kernel)) (by decide +kernel), rfl, by decide +kernel, fun _ => ⟨rfl, rfl⟩⟩
theorem vd_nodup : ∀ l : List Nat, l.Nodup → va_nd l = true
  | [], _ => rfl
  | a :: l, h => by
    have h' := List.nodup_cons.mp h
    simp [va_nd, h'.1, vd_nodup l h'.2]
section CL
variable {K : Kc} {cc b : ByteArray} {own nm : String} {nL : Nat} {R : Room} {cy : Nat → ClassId} {pc : Nat} {lv : List (Nat × Value)} {st : List Value} {ws : va_W} {cN sN : Nat}
/-- a constructor's call on the cell that was made last -/
theorem c_callL (C : Cc K cc own nL R cy nm) {q : Nat} {e : va_E} {idx n np mc ms : Nat} {y : MethodName} {rm : Room} {As st0 : List Value} {Post : va_W → Prop} (d : decode cc pc = .ok (.invokespecial idx, 3)) (hlk : Lk own idx y) (mw : MWi y b n np) (hM : Ct y b n rm (.ref q :: As) cy [(q, e)] Post mc ms) (hrm : Rc rm n R mc ms) (hn : As.length = np) (hst : st0 = As.reverse ++ .ref q :: st) (hroom : (st.map fun v => v.category).sum ≤ 8) (hcs : cN + mc ≤ R.cells ∧ sN + ms ≤ R.slots) (h : ∀ w, Post w → K (pc + 3) lv st (ws ++ w) (cN + mc) (sN + ms)) : K pc lv st0 (ws ++ [(q, e)]) cN sN := by
  refine c_callI C d hlk mw hM hrm [ws.length] (List.range ws.length) (by simp) (wr := ws) ?_ (by simp [va_nd]) (vd_nodup _ List.nodup_range) (fun i hi => ?_) hn hst hroom hcs h
  · apply List.ext_getElem?
    intro i
    by_cases hi : i < ws.length
    · rw [List.getElem?_map, List.getElem?_range hi, List.getElem?_map]
      simp [List.getElem?_append_left hi, hi]
    · rw [List.getElem?_eq_none (by simp; omega), List.getElem?_eq_none (by simp; omega)]
  · have := List.mem_range.mp hi
    simp
    omega
theorem c_ws (ws' : va_W) (e : ws = ws') (h : K pc lv st ws' cN sN) : K pc lv st ws cN sN := by rw [e]; exact h
end CL
