section
-- ===== PART A: goes FIRST, ahead of the names: the tables' words, and 'selects' of the private methods out of them =====
/-- a private method of a class that the tables say can be made, by its rows of tables_1 -/
def lw_okq (q : MethodName × Nat) : Prop := (q.1.cls ≠ "java/lang/invoke/MethodHandle" ∧ q.1.cls ≠ "java/lang/invoke/VarHandle") ∧ Cond.instantiable q.1.cls q.2 ∈ tables_1 ∧ Cond.privateMethod q.1 ∈ tables_1 ∧ Cond.instanceMethod q.1 ∈ tables_1
theorem lw_p0 : lw_okq (⟨"GuardCells$Told", "begin", "()V"⟩, 5) := ⟨⟨by decide +kernel, by decide +kernel⟩, List.mem_of_getElem? (i := 29) (by decide +kernel), List.mem_of_getElem? (i := 35) (by decide +kernel), List.mem_of_getElem? (i := 36) (by decide +kernel)⟩
theorem lw_p1 : lw_okq (⟨"GuardCells$Traffic", "clearCalls", "()V"⟩, 19) := ⟨⟨by decide +kernel, by decide +kernel⟩, List.mem_of_getElem? (i := 104) (by decide +kernel), List.mem_of_getElem? (i := 110) (by decide +kernel), List.mem_of_getElem? (i := 111) (by decide +kernel)⟩
theorem lw_p2 : lw_okq (⟨"GuardCells$Reader", "append", "(I)Z"⟩, 8) := ⟨⟨by decide +kernel, by decide +kernel⟩, List.mem_of_getElem? (i := 23) (by decide +kernel), List.mem_of_getElem? (i := 328) (by decide +kernel), List.mem_of_getElem? (i := 329) (by decide +kernel)⟩
theorem lw_p3 : lw_okq (⟨"GuardCells$Reader", "read", "()I"⟩, 8) := ⟨⟨by decide +kernel, by decide +kernel⟩, List.mem_of_getElem? (i := 23) (by decide +kernel), List.mem_of_getElem? (i := 340) (by decide +kernel), List.mem_of_getElem? (i := 341) (by decide +kernel)⟩
theorem lw_p4 : lw_okq (⟨"GuardCells$Reader", "nextToken", "()V"⟩, 8) := ⟨⟨by decide +kernel, by decide +kernel⟩, List.mem_of_getElem? (i := 23) (by decide +kernel), List.mem_of_getElem? (i := 346) (by decide +kernel), List.mem_of_getElem? (i := 347) (by decide +kernel)⟩
theorem lw_p5 : lw_okq (⟨"GuardCells$Reader", "scanNumber", "()V"⟩, 8) := ⟨⟨by decide +kernel, by decide +kernel⟩, List.mem_of_getElem? (i := 23) (by decide +kernel), List.mem_of_getElem? (i := 353) (by decide +kernel), List.mem_of_getElem? (i := 354) (by decide +kernel)⟩
theorem lw_p6 : lw_okq (⟨"GuardCells$Reader", "readCell", "()Z"⟩, 8) := ⟨⟨by decide +kernel, by decide +kernel⟩, List.mem_of_getElem? (i := 23) (by decide +kernel), List.mem_of_getElem? (i := 368) (by decide +kernel), List.mem_of_getElem? (i := 369) (by decide +kernel)⟩
theorem lw_p7 : lw_okq (⟨"GuardCells$Reader", "readNumber", "(II)Z"⟩, 8) := ⟨⟨by decide +kernel, by decide +kernel⟩, List.mem_of_getElem? (i := 23) (by decide +kernel), List.mem_of_getElem? (i := 372) (by decide +kernel), List.mem_of_getElem? (i := 373) (by decide +kernel)⟩
theorem lw_p8 : lw_okq (⟨"GuardCells$Told", "mostGuard", "(I)I"⟩, 5) := ⟨⟨by decide +kernel, by decide +kernel⟩, List.mem_of_getElem? (i := 29) (by decide +kernel), List.mem_of_getElem? (i := 377) (by decide +kernel), List.mem_of_getElem? (i := 378) (by decide +kernel)⟩
theorem lw_p9 : lw_okq (⟨"GuardCells$Reader", "readStop", "()Z"⟩, 8) := ⟨⟨by decide +kernel, by decide +kernel⟩, List.mem_of_getElem? (i := 23) (by decide +kernel), List.mem_of_getElem? (i := 381) (by decide +kernel), List.mem_of_getElem? (i := 382) (by decide +kernel)⟩
theorem lw_p10 : lw_okq (⟨"GuardCells$Reader", "readSetting", "(I)Z"⟩, 8) := ⟨⟨by decide +kernel, by decide +kernel⟩, List.mem_of_getElem? (i := 23) (by decide +kernel), List.mem_of_getElem? (i := 385) (by decide +kernel), List.mem_of_getElem? (i := 386) (by decide +kernel)⟩
theorem lw_p11 : lw_okq (⟨"GuardCells$Told", "copyFrom", "(LGuardCells$Told;)V"⟩, 5) := ⟨⟨by decide +kernel, by decide +kernel⟩, List.mem_of_getElem? (i := 29) (by decide +kernel), List.mem_of_getElem? (i := 393) (by decide +kernel), List.mem_of_getElem? (i := 394) (by decide +kernel)⟩
theorem lw_p12 : lw_okq (⟨"GuardCells$Traffic", "begin", "(LGuardCells$Told;)V"⟩, 19) := ⟨⟨by decide +kernel, by decide +kernel⟩, List.mem_of_getElem? (i := 104) (by decide +kernel), List.mem_of_getElem? (i := 397) (by decide +kernel), List.mem_of_getElem? (i := 398) (by decide +kernel)⟩
theorem lw_p13 : lw_okq (⟨"GuardCells$History", "forgetAll", "()V"⟩, 3) := ⟨⟨by decide +kernel, by decide +kernel⟩, List.mem_of_getElem? (i := 226) (by decide +kernel), List.mem_of_getElem? (i := 402) (by decide +kernel), List.mem_of_getElem? (i := 403) (by decide +kernel)⟩
theorem lw_p14 : lw_okq (⟨"GuardCells$Images", "forgetAll", "()V"⟩, 2) := ⟨⟨by decide +kernel, by decide +kernel⟩, List.mem_of_getElem? (i := 246) (by decide +kernel), List.mem_of_getElem? (i := 406) (by decide +kernel), List.mem_of_getElem? (i := 407) (by decide +kernel)⟩
theorem lw_p15 : lw_okq (⟨"GuardCells$Told", "has", "(I)Z"⟩, 5) := ⟨⟨by decide +kernel, by decide +kernel⟩, List.mem_of_getElem? (i := 29) (by decide +kernel), List.mem_of_getElem? (i := 414) (by decide +kernel), List.mem_of_getElem? (i := 415) (by decide +kernel)⟩
def lw_privs_1 : List (MethodName × Nat) := [(⟨"GuardCells$Told", "begin", "()V"⟩, 5), (⟨"GuardCells$Traffic", "clearCalls", "()V"⟩, 19), (⟨"GuardCells$Reader", "append", "(I)Z"⟩, 8), (⟨"GuardCells$Reader", "read", "()I"⟩, 8), (⟨"GuardCells$Reader", "nextToken", "()V"⟩, 8), (⟨"GuardCells$Reader", "scanNumber", "()V"⟩, 8), (⟨"GuardCells$Reader", "readCell", "()Z"⟩, 8), (⟨"GuardCells$Reader", "readNumber", "(II)Z"⟩, 8), (⟨"GuardCells$Told", "mostGuard", "(I)I"⟩, 5), (⟨"GuardCells$Reader", "readStop", "()Z"⟩, 8), (⟨"GuardCells$Reader", "readSetting", "(I)Z"⟩, 8), (⟨"GuardCells$Told", "copyFrom", "(LGuardCells$Told;)V"⟩, 5), (⟨"GuardCells$Traffic", "begin", "(LGuardCells$Told;)V"⟩, 19), (⟨"GuardCells$History", "forgetAll", "()V"⟩, 3), (⟨"GuardCells$Images", "forgetAll", "()V"⟩, 2), (⟨"GuardCells$Told", "has", "(I)Z"⟩, 5)]
theorem lw_r1 : ∀ q ∈ lw_privs_1, lw_okq q := List.forall_mem_cons.mpr ⟨lw_p0, List.forall_mem_cons.mpr ⟨lw_p1, List.forall_mem_cons.mpr ⟨lw_p2, List.forall_mem_cons.mpr ⟨lw_p3, List.forall_mem_cons.mpr ⟨lw_p4, List.forall_mem_cons.mpr ⟨lw_p5, List.forall_mem_cons.mpr ⟨lw_p6, List.forall_mem_cons.mpr ⟨lw_p7, List.forall_mem_cons.mpr ⟨lw_p8, List.forall_mem_cons.mpr ⟨lw_p9, List.forall_mem_cons.mpr ⟨lw_p10, List.forall_mem_cons.mpr ⟨lw_p11, List.forall_mem_cons.mpr ⟨lw_p12, List.forall_mem_cons.mpr ⟨lw_p13, List.forall_mem_cons.mpr ⟨lw_p14, List.forall_mem_cons.mpr ⟨lw_p15, fun _ h => absurd h List.not_mem_nil⟩⟩⟩⟩⟩⟩⟩⟩⟩⟩⟩⟩⟩⟩⟩⟩
theorem lw_p16 : lw_okq (⟨"GuardCells$Traffic", "lowestAbsent", "()I"⟩, 19) := ⟨⟨by decide +kernel, by decide +kernel⟩, List.mem_of_getElem? (i := 104) (by decide +kernel), List.mem_of_getElem? (i := 418) (by decide +kernel), List.mem_of_getElem? (i := 419) (by decide +kernel)⟩
theorem lw_p17 : lw_okq (⟨"GuardCells$History", "remember", "(LGuardCells$Traffic;)V"⟩, 3) := ⟨⟨by decide +kernel, by decide +kernel⟩, List.mem_of_getElem? (i := 226) (by decide +kernel), List.mem_of_getElem? (i := 422) (by decide +kernel), List.mem_of_getElem? (i := 423) (by decide +kernel)⟩
theorem lw_p18 : lw_okq (⟨"GuardCells$Traffic", "copyFrom", "(LGuardCells$Traffic;)V"⟩, 19) := ⟨⟨by decide +kernel, by decide +kernel⟩, List.mem_of_getElem? (i := 104) (by decide +kernel), List.mem_of_getElem? (i := 426) (by decide +kernel), List.mem_of_getElem? (i := 427) (by decide +kernel)⟩
theorem lw_p19 : lw_okq (⟨"GuardCells$Exchange", "offer", "(II)I"⟩, 5) := ⟨⟨by decide +kernel, by decide +kernel⟩, List.mem_of_getElem? (i := 204) (by decide +kernel), List.mem_of_getElem? (i := 431) (by decide +kernel), List.mem_of_getElem? (i := 432) (by decide +kernel)⟩
theorem lw_p20 : lw_okq (⟨"GuardCells$Traffic", "tallyOne", "(II)V"⟩, 19) := ⟨⟨by decide +kernel, by decide +kernel⟩, List.mem_of_getElem? (i := 104) (by decide +kernel), List.mem_of_getElem? (i := 435) (by decide +kernel), List.mem_of_getElem? (i := 436) (by decide +kernel)⟩
theorem lw_p21 : lw_okq (⟨"GuardCells$Exchange", "chanceOf", "(I)I"⟩, 5) := ⟨⟨by decide +kernel, by decide +kernel⟩, List.mem_of_getElem? (i := 204) (by decide +kernel), List.mem_of_getElem? (i := 440) (by decide +kernel), List.mem_of_getElem? (i := 441) (by decide +kernel)⟩
theorem lw_p22 : lw_okq (⟨"GuardCells$Exchange", "free", "(I)I"⟩, 5) := ⟨⟨by decide +kernel, by decide +kernel⟩, List.mem_of_getElem? (i := 204) (by decide +kernel), List.mem_of_getElem? (i := 444) (by decide +kernel), List.mem_of_getElem? (i := 445) (by decide +kernel)⟩
theorem lw_p23 : lw_okq (⟨"GuardCells$Traffic", "busy", "(I)I"⟩, 19) := ⟨⟨by decide +kernel, by decide +kernel⟩, List.mem_of_getElem? (i := 104) (by decide +kernel), List.mem_of_getElem? (i := 448) (by decide +kernel), List.mem_of_getElem? (i := 449) (by decide +kernel)⟩
theorem lw_p24 : lw_okq (⟨"GuardCells$Exchange", "isTaken", "(I)Z"⟩, 5) := ⟨⟨by decide +kernel, by decide +kernel⟩, List.mem_of_getElem? (i := 204) (by decide +kernel), List.mem_of_getElem? (i := 462) (by decide +kernel), List.mem_of_getElem? (i := 463) (by decide +kernel)⟩
theorem lw_p25 : lw_okq (⟨"GuardCells$Exchange", "draw", "()I"⟩, 5) := ⟨⟨by decide +kernel, by decide +kernel⟩, List.mem_of_getElem? (i := 204) (by decide +kernel), List.mem_of_getElem? (i := 466) (by decide +kernel), List.mem_of_getElem? (i := 467) (by decide +kernel)⟩
theorem lw_p26 : lw_okq (⟨"GuardCells$Traffic", "appear", "(III)V"⟩, 19) := ⟨⟨by decide +kernel, by decide +kernel⟩, List.mem_of_getElem? (i := 104) (by decide +kernel), List.mem_of_getElem? (i := 471) (by decide +kernel), List.mem_of_getElem? (i := 472) (by decide +kernel)⟩
theorem lw_p27 : lw_okq (⟨"GuardCells$Traffic", "clearStreaks", "(I)V"⟩, 19) := ⟨⟨by decide +kernel, by decide +kernel⟩, List.mem_of_getElem? (i := 104) (by decide +kernel), List.mem_of_getElem? (i := 475) (by decide +kernel), List.mem_of_getElem? (i := 476) (by decide +kernel)⟩
theorem lw_p28 : lw_okq (⟨"GuardCells$Traffic", "has", "(I)Z"⟩, 19) := ⟨⟨by decide +kernel, by decide +kernel⟩, List.mem_of_getElem? (i := 104) (by decide +kernel), List.mem_of_getElem? (i := 483) (by decide +kernel), List.mem_of_getElem? (i := 484) (by decide +kernel)⟩
theorem lw_p29 : lw_okq (⟨"GuardCells", "canHear", "(II)Z"⟩, 8) := ⟨⟨by decide +kernel, by decide +kernel⟩, List.mem_of_getElem? (i := 15) (by decide +kernel), List.mem_of_getElem? (i := 487) (by decide +kernel), List.mem_of_getElem? (i := 488) (by decide +kernel)⟩
theorem lw_p30 : lw_okq (⟨"GuardCells$Exchange", "setValues", "(IIII)V"⟩, 5) := ⟨⟨by decide +kernel, by decide +kernel⟩, List.mem_of_getElem? (i := 204) (by decide +kernel), List.mem_of_getElem? (i := 491) (by decide +kernel), List.mem_of_getElem? (i := 492) (by decide +kernel)⟩
theorem lw_p31 : lw_okq (⟨"GuardCells$Exchange", "hear", "(I)I"⟩, 5) := ⟨⟨by decide +kernel, by decide +kernel⟩, List.mem_of_getElem? (i := 204) (by decide +kernel), List.mem_of_getElem? (i := 495) (by decide +kernel), List.mem_of_getElem? (i := 496) (by decide +kernel)⟩
def lw_privs_2 : List (MethodName × Nat) := [(⟨"GuardCells$Traffic", "lowestAbsent", "()I"⟩, 19), (⟨"GuardCells$History", "remember", "(LGuardCells$Traffic;)V"⟩, 3), (⟨"GuardCells$Traffic", "copyFrom", "(LGuardCells$Traffic;)V"⟩, 19), (⟨"GuardCells$Exchange", "offer", "(II)I"⟩, 5), (⟨"GuardCells$Traffic", "tallyOne", "(II)V"⟩, 19), (⟨"GuardCells$Exchange", "chanceOf", "(I)I"⟩, 5), (⟨"GuardCells$Exchange", "free", "(I)I"⟩, 5), (⟨"GuardCells$Traffic", "busy", "(I)I"⟩, 19), (⟨"GuardCells$Exchange", "isTaken", "(I)Z"⟩, 5), (⟨"GuardCells$Exchange", "draw", "()I"⟩, 5), (⟨"GuardCells$Traffic", "appear", "(III)V"⟩, 19), (⟨"GuardCells$Traffic", "clearStreaks", "(I)V"⟩, 19), (⟨"GuardCells$Traffic", "has", "(I)Z"⟩, 19), (⟨"GuardCells", "canHear", "(II)Z"⟩, 8), (⟨"GuardCells$Exchange", "setValues", "(IIII)V"⟩, 5), (⟨"GuardCells$Exchange", "hear", "(I)I"⟩, 5)]
theorem lw_r2 : ∀ q ∈ lw_privs_2, lw_okq q := List.forall_mem_cons.mpr ⟨lw_p16, List.forall_mem_cons.mpr ⟨lw_p17, List.forall_mem_cons.mpr ⟨lw_p18, List.forall_mem_cons.mpr ⟨lw_p19, List.forall_mem_cons.mpr ⟨lw_p20, List.forall_mem_cons.mpr ⟨lw_p21, List.forall_mem_cons.mpr ⟨lw_p22, List.forall_mem_cons.mpr ⟨lw_p23, List.forall_mem_cons.mpr ⟨lw_p24, List.forall_mem_cons.mpr ⟨lw_p25, List.forall_mem_cons.mpr ⟨lw_p26, List.forall_mem_cons.mpr ⟨lw_p27, List.forall_mem_cons.mpr ⟨lw_p28, List.forall_mem_cons.mpr ⟨lw_p29, List.forall_mem_cons.mpr ⟨lw_p30, List.forall_mem_cons.mpr ⟨lw_p31, fun _ h => absurd h List.not_mem_nil⟩⟩⟩⟩⟩⟩⟩⟩⟩⟩⟩⟩⟩⟩⟩⟩
theorem lw_p32 : lw_okq (⟨"GuardCells$Exchange", "smoothLevels", "(I)V"⟩, 5) := ⟨⟨by decide +kernel, by decide +kernel⟩, List.mem_of_getElem? (i := 204) (by decide +kernel), List.mem_of_getElem? (i := 499) (by decide +kernel), List.mem_of_getElem? (i := 500) (by decide +kernel)⟩
theorem lw_p33 : lw_okq (⟨"GuardCells$Traffic", "ownLevel", "(I)I"⟩, 19) := ⟨⟨by decide +kernel, by decide +kernel⟩, List.mem_of_getElem? (i := 104) (by decide +kernel), List.mem_of_getElem? (i := 503) (by decide +kernel), List.mem_of_getElem? (i := 504) (by decide +kernel)⟩
theorem lw_p34 : lw_okq (⟨"GuardCells$Exchange", "countStreaks", "(I)V"⟩, 5) := ⟨⟨by decide +kernel, by decide +kernel⟩, List.mem_of_getElem? (i := 204) (by decide +kernel), List.mem_of_getElem? (i := 507) (by decide +kernel), List.mem_of_getElem? (i := 508) (by decide +kernel)⟩
theorem lw_p35 : lw_okq (⟨"GuardCells$Exchange", "targetOf", "(I)I"⟩, 5) := ⟨⟨by decide +kernel, by decide +kernel⟩, List.mem_of_getElem? (i := 204) (by decide +kernel), List.mem_of_getElem? (i := 511) (by decide +kernel), List.mem_of_getElem? (i := 512) (by decide +kernel)⟩
theorem lw_p36 : lw_okq (⟨"GuardCells$Exchange", "follow", "(II)I"⟩, 5) := ⟨⟨by decide +kernel, by decide +kernel⟩, List.mem_of_getElem? (i := 204) (by decide +kernel), List.mem_of_getElem? (i := 515) (by decide +kernel), List.mem_of_getElem? (i := 516) (by decide +kernel)⟩
theorem lw_p37 : lw_okq (⟨"GuardCells$Exchange", "ask", "(II)I"⟩, 5) := ⟨⟨by decide +kernel, by decide +kernel⟩, List.mem_of_getElem? (i := 204) (by decide +kernel), List.mem_of_getElem? (i := 519) (by decide +kernel), List.mem_of_getElem? (i := 520) (by decide +kernel)⟩
theorem lw_p38 : lw_okq (⟨"GuardCells$Exchange", "move", "(II)V"⟩, 5) := ⟨⟨by decide +kernel, by decide +kernel⟩, List.mem_of_getElem? (i := 204) (by decide +kernel), List.mem_of_getElem? (i := 523) (by decide +kernel), List.mem_of_getElem? (i := 524) (by decide +kernel)⟩
theorem lw_p39 : lw_okq (⟨"GuardCells$Traffic", "countPair", "(II)V"⟩, 19) := ⟨⟨by decide +kernel, by decide +kernel⟩, List.mem_of_getElem? (i := 104) (by decide +kernel), List.mem_of_getElem? (i := 528) (by decide +kernel), List.mem_of_getElem? (i := 529) (by decide +kernel)⟩
theorem lw_p40 : lw_okq (⟨"GuardCells$Exchange", "noteFreed", "(I)V"⟩, 5) := ⟨⟨by decide +kernel, by decide +kernel⟩, List.mem_of_getElem? (i := 204) (by decide +kernel), List.mem_of_getElem? (i := 532) (by decide +kernel), List.mem_of_getElem? (i := 533) (by decide +kernel)⟩
theorem lw_p41 : lw_okq (⟨"GuardCells$Traffic", "waiting", "(I)I"⟩, 19) := ⟨⟨by decide +kernel, by decide +kernel⟩, List.mem_of_getElem? (i := 104) (by decide +kernel), List.mem_of_getElem? (i := 536) (by decide +kernel), List.mem_of_getElem? (i := 537) (by decide +kernel)⟩
theorem lw_p42 : lw_okq (⟨"GuardCells$Traffic", "beginWaiting", "(II)V"⟩, 19) := ⟨⟨by decide +kernel, by decide +kernel⟩, List.mem_of_getElem? (i := 104) (by decide +kernel), List.mem_of_getElem? (i := 540) (by decide +kernel), List.mem_of_getElem? (i := 541) (by decide +kernel)⟩
theorem lw_p43 : lw_okq (⟨"GuardCells$Exchange", "vanish", "(I)V"⟩, 5) := ⟨⟨by decide +kernel, by decide +kernel⟩, List.mem_of_getElem? (i := 204) (by decide +kernel), List.mem_of_getElem? (i := 544) (by decide +kernel), List.mem_of_getElem? (i := 545) (by decide +kernel)⟩
theorem lw_p44 : lw_okq (⟨"GuardCells$Exchange", "serveFreed", "()I"⟩, 5) := ⟨⟨by decide +kernel, by decide +kernel⟩, List.mem_of_getElem? (i := 204) (by decide +kernel), List.mem_of_getElem? (i := 548) (by decide +kernel), List.mem_of_getElem? (i := 549) (by decide +kernel)⟩
theorem lw_p45 : lw_okq (⟨"GuardCells$Exchange", "waiter", "(II)I"⟩, 5) := ⟨⟨by decide +kernel, by decide +kernel⟩, List.mem_of_getElem? (i := 204) (by decide +kernel), List.mem_of_getElem? (i := 552) (by decide +kernel), List.mem_of_getElem? (i := 553) (by decide +kernel)⟩
theorem lw_p46 : lw_okq (⟨"GuardCells$Exchange", "aheadOf", "(II)I"⟩, 5) := ⟨⟨by decide +kernel, by decide +kernel⟩, List.mem_of_getElem? (i := 204) (by decide +kernel), List.mem_of_getElem? (i := 556) (by decide +kernel), List.mem_of_getElem? (i := 557) (by decide +kernel)⟩
theorem lw_p47 : lw_okq (⟨"GuardCells$Exchange", "isBefore", "(II)Z"⟩, 5) := ⟨⟨by decide +kernel, by decide +kernel⟩, List.mem_of_getElem? (i := 204) (by decide +kernel), List.mem_of_getElem? (i := 560) (by decide +kernel), List.mem_of_getElem? (i := 561) (by decide +kernel)⟩
def lw_privs_3 : List (MethodName × Nat) := [(⟨"GuardCells$Exchange", "smoothLevels", "(I)V"⟩, 5), (⟨"GuardCells$Traffic", "ownLevel", "(I)I"⟩, 19), (⟨"GuardCells$Exchange", "countStreaks", "(I)V"⟩, 5), (⟨"GuardCells$Exchange", "targetOf", "(I)I"⟩, 5), (⟨"GuardCells$Exchange", "follow", "(II)I"⟩, 5), (⟨"GuardCells$Exchange", "ask", "(II)I"⟩, 5), (⟨"GuardCells$Exchange", "move", "(II)V"⟩, 5), (⟨"GuardCells$Traffic", "countPair", "(II)V"⟩, 19), (⟨"GuardCells$Exchange", "noteFreed", "(I)V"⟩, 5), (⟨"GuardCells$Traffic", "waiting", "(I)I"⟩, 19), (⟨"GuardCells$Traffic", "beginWaiting", "(II)V"⟩, 19), (⟨"GuardCells$Exchange", "vanish", "(I)V"⟩, 5), (⟨"GuardCells$Exchange", "serveFreed", "()I"⟩, 5), (⟨"GuardCells$Exchange", "waiter", "(II)I"⟩, 5), (⟨"GuardCells$Exchange", "aheadOf", "(II)I"⟩, 5), (⟨"GuardCells$Exchange", "isBefore", "(II)Z"⟩, 5)]
theorem lw_r3 : ∀ q ∈ lw_privs_3, lw_okq q := List.forall_mem_cons.mpr ⟨lw_p32, List.forall_mem_cons.mpr ⟨lw_p33, List.forall_mem_cons.mpr ⟨lw_p34, List.forall_mem_cons.mpr ⟨lw_p35, List.forall_mem_cons.mpr ⟨lw_p36, List.forall_mem_cons.mpr ⟨lw_p37, List.forall_mem_cons.mpr ⟨lw_p38, List.forall_mem_cons.mpr ⟨lw_p39, List.forall_mem_cons.mpr ⟨lw_p40, List.forall_mem_cons.mpr ⟨lw_p41, List.forall_mem_cons.mpr ⟨lw_p42, List.forall_mem_cons.mpr ⟨lw_p43, List.forall_mem_cons.mpr ⟨lw_p44, List.forall_mem_cons.mpr ⟨lw_p45, List.forall_mem_cons.mpr ⟨lw_p46, List.forall_mem_cons.mpr ⟨lw_p47, fun _ h => absurd h List.not_mem_nil⟩⟩⟩⟩⟩⟩⟩⟩⟩⟩⟩⟩⟩⟩⟩⟩
theorem lw_p48 : lw_okq (⟨"GuardCells$Exchange", "waitsLonger", "(II)Z"⟩, 5) := ⟨⟨by decide +kernel, by decide +kernel⟩, List.mem_of_getElem? (i := 204) (by decide +kernel), List.mem_of_getElem? (i := 564) (by decide +kernel), List.mem_of_getElem? (i := 565) (by decide +kernel)⟩
theorem lw_p49 : lw_okq (⟨"GuardCells$Exchange", "end", "(I)I"⟩, 5) := ⟨⟨by decide +kernel, by decide +kernel⟩, List.mem_of_getElem? (i := 204) (by decide +kernel), List.mem_of_getElem? (i := 572) (by decide +kernel), List.mem_of_getElem? (i := 573) (by decide +kernel)⟩
theorem lw_p50 : lw_okq (⟨"GuardCells$History", "bringBack", "(LGuardCells$Traffic;)Z"⟩, 3) := ⟨⟨by decide +kernel, by decide +kernel⟩, List.mem_of_getElem? (i := 226) (by decide +kernel), List.mem_of_getElem? (i := 589) (by decide +kernel), List.mem_of_getElem? (i := 590) (by decide +kernel)⟩
theorem lw_p51 : lw_okq (⟨"GuardCells$LongRun", "weigh", "(IIIII)V"⟩, 3) := ⟨⟨by decide +kernel, by decide +kernel⟩, List.mem_of_getElem? (i := 262) (by decide +kernel), List.mem_of_getElem? (i := 626) (by decide +kernel), List.mem_of_getElem? (i := 627) (by decide +kernel)⟩
theorem lw_p52 : lw_okq (⟨"GuardCells$LongRun", "chanceWith", "(I)I"⟩, 3) := ⟨⟨by decide +kernel, by decide +kernel⟩, List.mem_of_getElem? (i := 262) (by decide +kernel), List.mem_of_getElem? (i := 631) (by decide +kernel), List.mem_of_getElem? (i := 632) (by decide +kernel)⟩
theorem lw_p53 : lw_okq (⟨"GuardCells$LongRun", "upper", "(I)J"⟩, 3) := ⟨⟨by decide +kernel, by decide +kernel⟩, List.mem_of_getElem? (i := 262) (by decide +kernel), List.mem_of_getElem? (i := 636) (by decide +kernel), List.mem_of_getElem? (i := 637) (by decide +kernel)⟩
theorem lw_p54 : lw_okq (⟨"GuardCells$LongRun", "lower", "(I)J"⟩, 3) := ⟨⟨by decide +kernel, by decide +kernel⟩, List.mem_of_getElem? (i := 262) (by decide +kernel), List.mem_of_getElem? (i := 640) (by decide +kernel), List.mem_of_getElem? (i := 641) (by decide +kernel)⟩
theorem lw_p55 : lw_okq (⟨"GuardCells$LongRun", "allWeights", "()J"⟩, 3) := ⟨⟨by decide +kernel, by decide +kernel⟩, List.mem_of_getElem? (i := 262) (by decide +kernel), List.mem_of_getElem? (i := 645) (by decide +kernel), List.mem_of_getElem? (i := 646) (by decide +kernel)⟩
theorem lw_p56 : lw_okq (⟨"GuardCells$LongRun", "losesMovingAtMostOnceIn", "(I)Z"⟩, 3) := ⟨⟨by decide +kernel, by decide +kernel⟩, List.mem_of_getElem? (i := 262) (by decide +kernel), List.mem_of_getElem? (i := 656) (by decide +kernel), List.mem_of_getElem? (i := 657) (by decide +kernel)⟩
theorem lw_p57 : lw_okq (⟨"GuardCells$Sightings", "add", "(II)Z"⟩, 3) := ⟨⟨by decide +kernel, by decide +kernel⟩, List.mem_of_getElem? (i := 279) (by decide +kernel), List.mem_of_getElem? (i := 666) (by decide +kernel), List.mem_of_getElem? (i := 667) (by decide +kernel)⟩
theorem lw_p58 : lw_okq (⟨"GuardCells$Sightings", "allow", "(I)Z"⟩, 3) := ⟨⟨by decide +kernel, by decide +kernel⟩, List.mem_of_getElem? (i := 279) (by decide +kernel), List.mem_of_getElem? (i := 678) (by decide +kernel), List.mem_of_getElem? (i := 679) (by decide +kernel)⟩
theorem lw_p59 : lw_okq (⟨"GuardCells$Images", "store", "(ILGuardCells$Traffic;)V"⟩, 2) := ⟨⟨by decide +kernel, by decide +kernel⟩, List.mem_of_getElem? (i := 246) (by decide +kernel), List.mem_of_getElem? (i := 687) (by decide +kernel), List.mem_of_getElem? (i := 688) (by decide +kernel)⟩
theorem lw_p60 : lw_okq (⟨"GuardCells$Traffic", "present", "()I"⟩, 19) := ⟨⟨by decide +kernel, by decide +kernel⟩, List.mem_of_getElem? (i := 104) (by decide +kernel), List.mem_of_getElem? (i := 692) (by decide +kernel), List.mem_of_getElem? (i := 693) (by decide +kernel)⟩
theorem lw_p61 : lw_okq (⟨"GuardCells$Images", "bringBack", "(ILGuardCells$Traffic;)Z"⟩, 2) := ⟨⟨by decide +kernel, by decide +kernel⟩, List.mem_of_getElem? (i := 246) (by decide +kernel), List.mem_of_getElem? (i := 700) (by decide +kernel), List.mem_of_getElem? (i := 701) (by decide +kernel)⟩
theorem lw_p62 : lw_okq (⟨"GuardCellsModel", "reads", "()Z"⟩, 28) := ⟨⟨by decide +kernel, by decide +kernel⟩, List.mem_of_getElem? (i := 708) (by decide +kernel), List.mem_of_getElem? (i := 815) (by decide +kernel), List.mem_of_getElem? (i := 816) (by decide +kernel)⟩
theorem lw_p63 : lw_okq (⟨"GuardCellsModel", "take", "()V"⟩, 28) := ⟨⟨by decide +kernel, by decide +kernel⟩, List.mem_of_getElem? (i := 708) (by decide +kernel), List.mem_of_getElem? (i := 819) (by decide +kernel), List.mem_of_getElem? (i := 820) (by decide +kernel)⟩
def lw_privs_4 : List (MethodName × Nat) := [(⟨"GuardCells$Exchange", "waitsLonger", "(II)Z"⟩, 5), (⟨"GuardCells$Exchange", "end", "(I)I"⟩, 5), (⟨"GuardCells$History", "bringBack", "(LGuardCells$Traffic;)Z"⟩, 3), (⟨"GuardCells$LongRun", "weigh", "(IIIII)V"⟩, 3), (⟨"GuardCells$LongRun", "chanceWith", "(I)I"⟩, 3), (⟨"GuardCells$LongRun", "upper", "(I)J"⟩, 3), (⟨"GuardCells$LongRun", "lower", "(I)J"⟩, 3), (⟨"GuardCells$LongRun", "allWeights", "()J"⟩, 3), (⟨"GuardCells$LongRun", "losesMovingAtMostOnceIn", "(I)Z"⟩, 3), (⟨"GuardCells$Sightings", "add", "(II)Z"⟩, 3), (⟨"GuardCells$Sightings", "allow", "(I)Z"⟩, 3), (⟨"GuardCells$Images", "store", "(ILGuardCells$Traffic;)V"⟩, 2), (⟨"GuardCells$Traffic", "present", "()I"⟩, 19), (⟨"GuardCells$Images", "bringBack", "(ILGuardCells$Traffic;)Z"⟩, 2), (⟨"GuardCellsModel", "reads", "()Z"⟩, 28), (⟨"GuardCellsModel", "take", "()V"⟩, 28)]
theorem lw_r4 : ∀ q ∈ lw_privs_4, lw_okq q := List.forall_mem_cons.mpr ⟨lw_p48, List.forall_mem_cons.mpr ⟨lw_p49, List.forall_mem_cons.mpr ⟨lw_p50, List.forall_mem_cons.mpr ⟨lw_p51, List.forall_mem_cons.mpr ⟨lw_p52, List.forall_mem_cons.mpr ⟨lw_p53, List.forall_mem_cons.mpr ⟨lw_p54, List.forall_mem_cons.mpr ⟨lw_p55, List.forall_mem_cons.mpr ⟨lw_p56, List.forall_mem_cons.mpr ⟨lw_p57, List.forall_mem_cons.mpr ⟨lw_p58, List.forall_mem_cons.mpr ⟨lw_p59, List.forall_mem_cons.mpr ⟨lw_p60, List.forall_mem_cons.mpr ⟨lw_p61, List.forall_mem_cons.mpr ⟨lw_p62, List.forall_mem_cons.mpr ⟨lw_p63, fun _ h => absurd h List.not_mem_nil⟩⟩⟩⟩⟩⟩⟩⟩⟩⟩⟩⟩⟩⟩⟩⟩
theorem lw_p64 : lw_okq (⟨"GuardCellsModel", "readsItem", "()Z"⟩, 28) := ⟨⟨by decide +kernel, by decide +kernel⟩, List.mem_of_getElem? (i := 708) (by decide +kernel), List.mem_of_getElem? (i := 831) (by decide +kernel), List.mem_of_getElem? (i := 832) (by decide +kernel)⟩
theorem lw_p65 : lw_okq (⟨"GuardCellsModel", "readsCell", "()Z"⟩, 28) := ⟨⟨by decide +kernel, by decide +kernel⟩, List.mem_of_getElem? (i := 708) (by decide +kernel), List.mem_of_getElem? (i := 835) (by decide +kernel), List.mem_of_getElem? (i := 836) (by decide +kernel)⟩
theorem lw_p66 : lw_okq (⟨"GuardCellsModel", "keeps", "(II)Z"⟩, 28) := ⟨⟨by decide +kernel, by decide +kernel⟩, List.mem_of_getElem? (i := 708) (by decide +kernel), List.mem_of_getElem? (i := 839) (by decide +kernel), List.mem_of_getElem? (i := 840) (by decide +kernel)⟩
theorem lw_p67 : lw_okq (⟨"GuardCellsModel", "readsNumber", "(II)Z"⟩, 28) := ⟨⟨by decide +kernel, by decide +kernel⟩, List.mem_of_getElem? (i := 708) (by decide +kernel), List.mem_of_getElem? (i := 843) (by decide +kernel), List.mem_of_getElem? (i := 844) (by decide +kernel)⟩
theorem lw_p68 : lw_okq (⟨"GuardCellsModel", "isCell", "(I)Z"⟩, 28) := ⟨⟨by decide +kernel, by decide +kernel⟩, List.mem_of_getElem? (i := 708) (by decide +kernel), List.mem_of_getElem? (i := 857) (by decide +kernel), List.mem_of_getElem? (i := 858) (by decide +kernel)⟩
theorem lw_p69 : lw_okq (⟨"GuardCellsModel", "calls", "()I"⟩, 28) := ⟨⟨by decide +kernel, by decide +kernel⟩, List.mem_of_getElem? (i := 708) (by decide +kernel), List.mem_of_getElem? (i := 862) (by decide +kernel), List.mem_of_getElem? (i := 863) (by decide +kernel)⟩
theorem lw_p70 : lw_okq (⟨"GuardCellsModel", "get", "(II)I"⟩, 28) := ⟨⟨by decide +kernel, by decide +kernel⟩, List.mem_of_getElem? (i := 708) (by decide +kernel), List.mem_of_getElem? (i := 866) (by decide +kernel), List.mem_of_getElem? (i := 867) (by decide +kernel)⟩
theorem lw_p71 : lw_okq (⟨"GuardCellsModel", "minds", "()V"⟩, 28) := ⟨⟨by decide +kernel, by decide +kernel⟩, List.mem_of_getElem? (i := 708) (by decide +kernel), List.mem_of_getElem? (i := 870) (by decide +kernel), List.mem_of_getElem? (i := 871) (by decide +kernel)⟩
theorem lw_p72 : lw_okq (⟨"GuardCellsModel", "copy", "(II)V"⟩, 28) := ⟨⟨by decide +kernel, by decide +kernel⟩, List.mem_of_getElem? (i := 708) (by decide +kernel), List.mem_of_getElem? (i := 874) (by decide +kernel), List.mem_of_getElem? (i := 875) (by decide +kernel)⟩
theorem lw_p73 : lw_okq (⟨"GuardCellsModel", "counts", "(II)V"⟩, 28) := ⟨⟨by decide +kernel, by decide +kernel⟩, List.mem_of_getElem? (i := 708) (by decide +kernel), List.mem_of_getElem? (i := 878) (by decide +kernel), List.mem_of_getElem? (i := 879) (by decide +kernel)⟩
theorem lw_p74 : lw_okq (⟨"GuardCellsModel", "chance", "(I)I"⟩, 28) := ⟨⟨by decide +kernel, by decide +kernel⟩, List.mem_of_getElem? (i := 708) (by decide +kernel), List.mem_of_getElem? (i := 882) (by decide +kernel), List.mem_of_getElem? (i := 883) (by decide +kernel)⟩
theorem lw_p75 : lw_okq (⟨"GuardCellsModel", "free", "(I)I"⟩, 28) := ⟨⟨by decide +kernel, by decide +kernel⟩, List.mem_of_getElem? (i := 708) (by decide +kernel), List.mem_of_getElem? (i := 886) (by decide +kernel), List.mem_of_getElem? (i := 887) (by decide +kernel)⟩
theorem lw_p76 : lw_okq (⟨"GuardCellsModel", "busy", "(I)I"⟩, 28) := ⟨⟨by decide +kernel, by decide +kernel⟩, List.mem_of_getElem? (i := 708) (by decide +kernel), List.mem_of_getElem? (i := 890) (by decide +kernel), List.mem_of_getElem? (i := 891) (by decide +kernel)⟩
theorem lw_p77 : lw_okq (⟨"GuardCellsModel", "draw", "()I"⟩, 28) := ⟨⟨by decide +kernel, by decide +kernel⟩, List.mem_of_getElem? (i := 708) (by decide +kernel), List.mem_of_getElem? (i := 900) (by decide +kernel), List.mem_of_getElem? (i := 901) (by decide +kernel)⟩
theorem lw_p78 : lw_okq (⟨"GuardCellsModel", "set", "(III)V"⟩, 28) := ⟨⟨by decide +kernel, by decide +kernel⟩, List.mem_of_getElem? (i := 708) (by decide +kernel), List.mem_of_getElem? (i := 905) (by decide +kernel), List.mem_of_getElem? (i := 906) (by decide +kernel)⟩
theorem lw_p79 : lw_okq (⟨"GuardCellsModel", "isCall", "(I)Z"⟩, 28) := ⟨⟨by decide +kernel, by decide +kernel⟩, List.mem_of_getElem? (i := 708) (by decide +kernel), List.mem_of_getElem? (i := 913) (by decide +kernel), List.mem_of_getElem? (i := 914) (by decide +kernel)⟩
def lw_privs_5 : List (MethodName × Nat) := [(⟨"GuardCellsModel", "readsItem", "()Z"⟩, 28), (⟨"GuardCellsModel", "readsCell", "()Z"⟩, 28), (⟨"GuardCellsModel", "keeps", "(II)Z"⟩, 28), (⟨"GuardCellsModel", "readsNumber", "(II)Z"⟩, 28), (⟨"GuardCellsModel", "isCell", "(I)Z"⟩, 28), (⟨"GuardCellsModel", "calls", "()I"⟩, 28), (⟨"GuardCellsModel", "get", "(II)I"⟩, 28), (⟨"GuardCellsModel", "minds", "()V"⟩, 28), (⟨"GuardCellsModel", "copy", "(II)V"⟩, 28), (⟨"GuardCellsModel", "counts", "(II)V"⟩, 28), (⟨"GuardCellsModel", "chance", "(I)I"⟩, 28), (⟨"GuardCellsModel", "free", "(I)I"⟩, 28), (⟨"GuardCellsModel", "busy", "(I)I"⟩, 28), (⟨"GuardCellsModel", "draw", "()I"⟩, 28), (⟨"GuardCellsModel", "set", "(III)V"⟩, 28), (⟨"GuardCellsModel", "isCall", "(I)Z"⟩, 28)]
theorem lw_r5 : ∀ q ∈ lw_privs_5, lw_okq q := List.forall_mem_cons.mpr ⟨lw_p64, List.forall_mem_cons.mpr ⟨lw_p65, List.forall_mem_cons.mpr ⟨lw_p66, List.forall_mem_cons.mpr ⟨lw_p67, List.forall_mem_cons.mpr ⟨lw_p68, List.forall_mem_cons.mpr ⟨lw_p69, List.forall_mem_cons.mpr ⟨lw_p70, List.forall_mem_cons.mpr ⟨lw_p71, List.forall_mem_cons.mpr ⟨lw_p72, List.forall_mem_cons.mpr ⟨lw_p73, List.forall_mem_cons.mpr ⟨lw_p74, List.forall_mem_cons.mpr ⟨lw_p75, List.forall_mem_cons.mpr ⟨lw_p76, List.forall_mem_cons.mpr ⟨lw_p77, List.forall_mem_cons.mpr ⟨lw_p78, List.forall_mem_cons.mpr ⟨lw_p79, fun _ h => absurd h List.not_mem_nil⟩⟩⟩⟩⟩⟩⟩⟩⟩⟩⟩⟩⟩⟩⟩⟩
theorem lw_p80 : lw_okq (⟨"GuardCellsModel", "isValue", "(II)Z"⟩, 28) := ⟨⟨by decide +kernel, by decide +kernel⟩, List.mem_of_getElem? (i := 708) (by decide +kernel), List.mem_of_getElem? (i := 918) (by decide +kernel), List.mem_of_getElem? (i := 919) (by decide +kernel)⟩
theorem lw_p81 : lw_okq (⟨"GuardCellsModel", "listens", "(III)V"⟩, 28) := ⟨⟨by decide +kernel, by decide +kernel⟩, List.mem_of_getElem? (i := 708) (by decide +kernel), List.mem_of_getElem? (i := 922) (by decide +kernel), List.mem_of_getElem? (i := 923) (by decide +kernel)⟩
theorem lw_p82 : lw_okq (⟨"GuardCellsModel", "streaks", "(I)V"⟩, 28) := ⟨⟨by decide +kernel, by decide +kernel⟩, List.mem_of_getElem? (i := 708) (by decide +kernel), List.mem_of_getElem? (i := 926) (by decide +kernel), List.mem_of_getElem? (i := 927) (by decide +kernel)⟩
theorem lw_p83 : lw_okq (⟨"GuardCellsModel", "target", "(I)I"⟩, 28) := ⟨⟨by decide +kernel, by decide +kernel⟩, List.mem_of_getElem? (i := 708) (by decide +kernel), List.mem_of_getElem? (i := 930) (by decide +kernel), List.mem_of_getElem? (i := 931) (by decide +kernel)⟩
theorem lw_p84 : lw_okq (⟨"GuardCellsModel", "asks", "(II)I"⟩, 28) := ⟨⟨by decide +kernel, by decide +kernel⟩, List.mem_of_getElem? (i := 708) (by decide +kernel), List.mem_of_getElem? (i := 934) (by decide +kernel), List.mem_of_getElem? (i := 935) (by decide +kernel)⟩
theorem lw_p85 : lw_okq (⟨"GuardCellsModel", "moves", "(II)V"⟩, 28) := ⟨⟨by decide +kernel, by decide +kernel⟩, List.mem_of_getElem? (i := 708) (by decide +kernel), List.mem_of_getElem? (i := 938) (by decide +kernel), List.mem_of_getElem? (i := 939) (by decide +kernel)⟩
theorem lw_p86 : lw_okq (⟨"GuardCellsModel", "pairs", "(II)V"⟩, 28) := ⟨⟨by decide +kernel, by decide +kernel⟩, List.mem_of_getElem? (i := 708) (by decide +kernel), List.mem_of_getElem? (i := 942) (by decide +kernel), List.mem_of_getElem? (i := 943) (by decide +kernel)⟩
theorem lw_p87 : lw_okq (⟨"GuardCellsModel", "frees", "(I)V"⟩, 28) := ⟨⟨by decide +kernel, by decide +kernel⟩, List.mem_of_getElem? (i := 708) (by decide +kernel), List.mem_of_getElem? (i := 946) (by decide +kernel), List.mem_of_getElem? (i := 947) (by decide +kernel)⟩
theorem lw_p88 : lw_okq (⟨"GuardCellsModel", "waiting", "(I)I"⟩, 28) := ⟨⟨by decide +kernel, by decide +kernel⟩, List.mem_of_getElem? (i := 708) (by decide +kernel), List.mem_of_getElem? (i := 950) (by decide +kernel), List.mem_of_getElem? (i := 951) (by decide +kernel)⟩
theorem lw_p89 : lw_okq (⟨"GuardCellsModel", "leaves", "(I)V"⟩, 28) := ⟨⟨by decide +kernel, by decide +kernel⟩, List.mem_of_getElem? (i := 708) (by decide +kernel), List.mem_of_getElem? (i := 954) (by decide +kernel), List.mem_of_getElem? (i := 955) (by decide +kernel)⟩
theorem lw_p90 : lw_okq (⟨"GuardCellsModel", "serves", "()V"⟩, 28) := ⟨⟨by decide +kernel, by decide +kernel⟩, List.mem_of_getElem? (i := 708) (by decide +kernel), List.mem_of_getElem? (i := 958) (by decide +kernel), List.mem_of_getElem? (i := 959) (by decide +kernel)⟩
theorem lw_p91 : lw_okq (⟨"GuardCellsModel", "queuedAt", "(II)I"⟩, 28) := ⟨⟨by decide +kernel, by decide +kernel⟩, List.mem_of_getElem? (i := 708) (by decide +kernel), List.mem_of_getElem? (i := 962) (by decide +kernel), List.mem_of_getElem? (i := 963) (by decide +kernel)⟩
theorem lw_p92 : lw_okq (⟨"GuardCellsModel", "isAhead", "(II)Z"⟩, 28) := ⟨⟨by decide +kernel, by decide +kernel⟩, List.mem_of_getElem? (i := 708) (by decide +kernel), List.mem_of_getElem? (i := 966) (by decide +kernel), List.mem_of_getElem? (i := 967) (by decide +kernel)⟩
theorem lw_p93 : lw_okq (⟨"GuardCellsModel", "shares", "(IIIII)J"⟩, 28) := ⟨⟨by decide +kernel, by decide +kernel⟩, List.mem_of_getElem? (i := 708) (by decide +kernel), List.mem_of_getElem? (i := 1019) (by decide +kernel), List.mem_of_getElem? (i := 1020) (by decide +kernel)⟩
theorem lw_p94 : lw_okq (⟨"GuardCellsModel", "couldBe", "(I)Z"⟩, 28) := ⟨⟨by decide +kernel, by decide +kernel⟩, List.mem_of_getElem? (i := 708) (by decide +kernel), List.mem_of_getElem? (i := 1043) (by decide +kernel), List.mem_of_getElem? (i := 1044) (by decide +kernel)⟩
def lw_privs_6 : List (MethodName × Nat) := [(⟨"GuardCellsModel", "isValue", "(II)Z"⟩, 28), (⟨"GuardCellsModel", "listens", "(III)V"⟩, 28), (⟨"GuardCellsModel", "streaks", "(I)V"⟩, 28), (⟨"GuardCellsModel", "target", "(I)I"⟩, 28), (⟨"GuardCellsModel", "asks", "(II)I"⟩, 28), (⟨"GuardCellsModel", "moves", "(II)V"⟩, 28), (⟨"GuardCellsModel", "pairs", "(II)V"⟩, 28), (⟨"GuardCellsModel", "frees", "(I)V"⟩, 28), (⟨"GuardCellsModel", "waiting", "(I)I"⟩, 28), (⟨"GuardCellsModel", "leaves", "(I)V"⟩, 28), (⟨"GuardCellsModel", "serves", "()V"⟩, 28), (⟨"GuardCellsModel", "queuedAt", "(II)I"⟩, 28), (⟨"GuardCellsModel", "isAhead", "(II)Z"⟩, 28), (⟨"GuardCellsModel", "shares", "(IIIII)J"⟩, 28), (⟨"GuardCellsModel", "couldBe", "(I)Z"⟩, 28)]
theorem lw_r6 : ∀ q ∈ lw_privs_6, lw_okq q := List.forall_mem_cons.mpr ⟨lw_p80, List.forall_mem_cons.mpr ⟨lw_p81, List.forall_mem_cons.mpr ⟨lw_p82, List.forall_mem_cons.mpr ⟨lw_p83, List.forall_mem_cons.mpr ⟨lw_p84, List.forall_mem_cons.mpr ⟨lw_p85, List.forall_mem_cons.mpr ⟨lw_p86, List.forall_mem_cons.mpr ⟨lw_p87, List.forall_mem_cons.mpr ⟨lw_p88, List.forall_mem_cons.mpr ⟨lw_p89, List.forall_mem_cons.mpr ⟨lw_p90, List.forall_mem_cons.mpr ⟨lw_p91, List.forall_mem_cons.mpr ⟨lw_p92, List.forall_mem_cons.mpr ⟨lw_p93, List.forall_mem_cons.mpr ⟨lw_p94, fun _ h => absurd h List.not_mem_nil⟩⟩⟩⟩⟩⟩⟩⟩⟩⟩⟩⟩⟩⟩⟩
def lw_privs : List (MethodName × Nat) := lw_privs_1 ++ (lw_privs_2 ++ (lw_privs_3 ++ (lw_privs_4 ++ (lw_privs_5 ++ (lw_privs_6)))))
def lw_tbl : List Cond := k2_sels lw_privs ++ tables_1
theorem lw_privs_ok : ∀ q ∈ lw_privs, lw_okq q := by
  show ∀ q ∈ lw_privs_1 ++ (lw_privs_2 ++ (lw_privs_3 ++ (lw_privs_4 ++ (lw_privs_5 ++ (lw_privs_6))))), lw_okq q
  exact List.forall_mem_append.mpr ⟨lw_r1, List.forall_mem_append.mpr ⟨lw_r2, List.forall_mem_append.mpr ⟨lw_r3, List.forall_mem_append.mpr ⟨lw_r4, List.forall_mem_append.mpr ⟨lw_r5, lw_r6⟩⟩⟩⟩⟩
end
section
/-! ===== BEGIN words of one list among another's, by their places ===== -/
theorem goodIn_r {big : List Cond} (ws : List Cond) (ps : List Nat) (hp : ws = ps.filterMap (fun i => big[i]?)) (h : ws.all goodWord = true) : GoodIn big ws := by
  intro w hw
  have h1 := List.all_eq_true.mp h w hw
  rw [hp] at hw
  obtain ⟨i, -, hi⟩ := List.mem_filterMap.mp hw
  have hm : w ∈ big := by first | exact List.mem_of_getElem? hi | exact List.getElem?_mem hi
  exact ⟨hm, good_of_word h1⟩
theorem goodIn_app {big a b : List Cond} (ha : GoodIn big a) (hb : GoodIn big b) : GoodIn big (a ++ b) := fun w h => (List.mem_append.mp h).elim (ha w) (hb w)
theorem goodIn_ca {big a b : List Cond} {c : Cond} (ha : GoodIn big (c :: a)) (hb : GoodIn big b) : GoodIn big (c :: (a ++ b)) := fun w h => (List.mem_cons.mp h).elim (fun e => ha w (List.mem_cons.mpr (Or.inl e))) (fun h => (List.mem_append.mp h).elim (fun h => ha w (List.mem_cons.mpr (Or.inr h))) (hb w))
theorem goodIn_sub {big ws : List Cond} (hm : ∀ w ∈ ws, w ∈ big) (h : ws.all goodWord = true) : GoodIn big ws := fun w hw => ⟨hm w hw, good_of_word (List.all_eq_true.mp h w hw)⟩
/-! ===== END ===== -/

/-! ===== BEGIN printed: names, fields, word lists, decode rows ===== -/
def RX0 : String := "GuardCells$Exchange"
def TX0 : u_T := fun k => match k with
  | 0 => ("GuardCells$Exchange", "told", "LGuardCells$Told;", true)
  | 1 => ("GuardCells$Exchange", "now", "LGuardCells$Traffic;", true)
  | 2 => ("GuardCells$Exchange", "values", "[I", true)
  | 3 => ("GuardCells$Exchange", "freed", "[I", true)
  | _ => ("GuardCells$Exchange", "freedMany", "I", false)
def tyX0 : Nat → FieldType := fun k => match k with
  | 0 => .object "GuardCells$Told"
  | 1 => .object "GuardCells$Traffic"
  | 2 => .array .int
  | 3 => .array .int
  | _ => .int
abbrev wsX00 : List Cond := u_ws RX0 TX0 5
theorem nmX0 : ∀ a, a < 5 → ∀ b, b < 5 → a ≠ b → (TX0 a).2.1 ≠ (TX0 b).2.1 := by decide +kernel
theorem tyX0_ok : ∀ k, k < 5 → parseFieldDescriptor (TX0 k).2.2.1 = some (tyX0 k) := by decide +kernel
abbrev cX0_init : ByteArray := prog_2_method_1_code
def yX0_init : MethodName := ⟨RX0, "<init>", "(LGuardCells$Told;LGuardCells$Traffic;)V"⟩
abbrev cX0_free : ByteArray := prog_2_method_2_code
def yX0_free : MethodName := ⟨RX0, "free", "(I)I"⟩
abbrev cX0_chanceOf : ByteArray := prog_2_method_3_code
def yX0_chanceOf : MethodName := ⟨RX0, "chanceOf", "(I)I"⟩
abbrev cX0_offer : ByteArray := prog_2_method_4_code
def yX0_offer : MethodName := ⟨RX0, "offer", "(II)I"⟩
abbrev cX0_isTaken : ByteArray := prog_2_method_5_code
def yX0_isTaken : MethodName := ⟨RX0, "isTaken", "(I)Z"⟩
abbrev cX0_draw : ByteArray := prog_2_method_6_code
def yX0_draw : MethodName := ⟨RX0, "draw", "()I"⟩
abbrev cX0_setValues : ByteArray := prog_2_method_7_code
def yX0_setValues : MethodName := ⟨RX0, "setValues", "(IIII)V"⟩
abbrev cX0_hear : ByteArray := prog_2_method_8_code
def yX0_hear : MethodName := ⟨RX0, "hear", "(I)I"⟩
abbrev cX0_smoothLevels : ByteArray := prog_2_method_9_code
def yX0_smoothLevels : MethodName := ⟨RX0, "smoothLevels", "(I)V"⟩
abbrev cX0_countStreaks : ByteArray := prog_2_method_10_code
def yX0_countStreaks : MethodName := ⟨RX0, "countStreaks", "(I)V"⟩
abbrev cX0_targetOf : ByteArray := prog_2_method_11_code
def yX0_targetOf : MethodName := ⟨RX0, "targetOf", "(I)I"⟩
abbrev cX0_follow : ByteArray := prog_2_method_12_code
def yX0_follow : MethodName := ⟨RX0, "follow", "(II)I"⟩
abbrev cX0_ask : ByteArray := prog_2_method_13_code
def yX0_ask : MethodName := ⟨RX0, "ask", "(II)I"⟩
abbrev cX0_end : ByteArray := prog_2_method_14_code
def yX0_end : MethodName := ⟨RX0, "end", "(I)I"⟩
abbrev cX0_vanish : ByteArray := prog_2_method_15_code
def yX0_vanish : MethodName := ⟨RX0, "vanish", "(I)V"⟩
abbrev cX0_move : ByteArray := prog_2_method_16_code
def yX0_move : MethodName := ⟨RX0, "move", "(II)V"⟩
abbrev cX0_noteFreed : ByteArray := prog_2_method_17_code
def yX0_noteFreed : MethodName := ⟨RX0, "noteFreed", "(I)V"⟩
abbrev cX0_serveFreed : ByteArray := prog_2_method_18_code
def yX0_serveFreed : MethodName := ⟨RX0, "serveFreed", "()I"⟩
abbrev cX0_waiter : ByteArray := prog_2_method_19_code
def yX0_waiter : MethodName := ⟨RX0, "waiter", "(II)I"⟩
abbrev cX0_aheadOf : ByteArray := prog_2_method_20_code
def yX0_aheadOf : MethodName := ⟨RX0, "aheadOf", "(II)I"⟩
abbrev cX0_isBefore : ByteArray := prog_2_method_21_code
def yX0_isBefore : MethodName := ⟨RX0, "isBefore", "(II)Z"⟩
abbrev cX0_waitsLonger : ByteArray := prog_2_method_22_code
def yX0_waitsLonger : MethodName := ⟨RX0, "waitsLonger", "(II)Z"⟩
def RX1 : String := "GuardCells$History"
def TX1 : u_T := fun k => match k with
  | 0 => ("GuardCells$History", "ring", "[LGuardCells$Traffic;", true)
  | 1 => ("GuardCells$History", "next", "I", false)
  | _ => ("GuardCells$History", "known", "I", false)
def tyX1 : Nat → FieldType := fun k => match k with
  | 0 => .array (.object "GuardCells$Traffic")
  | 1 => .int
  | _ => .int
abbrev wsX10 : List Cond := u_ws RX1 TX1 3
theorem nmX1 : ∀ a, a < 3 → ∀ b, b < 3 → a ≠ b → (TX1 a).2.1 ≠ (TX1 b).2.1 := by decide +kernel
theorem tyX1_ok : ∀ k, k < 3 → parseFieldDescriptor (TX1 k).2.2.1 = some (tyX1 k) := by decide +kernel
abbrev cX1_init : ByteArray := prog_3_method_1_code
def yX1_init : MethodName := ⟨RX1, "<init>", "()V"⟩
abbrev cX1_forgetAll : ByteArray := prog_3_method_2_code
def yX1_forgetAll : MethodName := ⟨RX1, "forgetAll", "()V"⟩
abbrev cX1_remember : ByteArray := prog_3_method_3_code
def yX1_remember : MethodName := ⟨RX1, "remember", "(LGuardCells$Traffic;)V"⟩
abbrev cX1_bringBack : ByteArray := prog_3_method_4_code
def yX1_bringBack : MethodName := ⟨RX1, "bringBack", "(LGuardCells$Traffic;)Z"⟩
def RX2 : String := "GuardCells$Images"
def TX2 : u_T := fun k => match k with
  | 0 => ("GuardCells$Images", "rows", "[LGuardCells$Traffic;", true)
  | _ => ("GuardCells$Images", "kept", "[Z", true)
def tyX2 : Nat → FieldType := fun k => match k with
  | 0 => .array (.object "GuardCells$Traffic")
  | _ => .array .boolean
abbrev wsX20 : List Cond := u_ws RX2 TX2 2
theorem nmX2 : ∀ a, a < 2 → ∀ b, b < 2 → a ≠ b → (TX2 a).2.1 ≠ (TX2 b).2.1 := by decide +kernel
theorem tyX2_ok : ∀ k, k < 2 → parseFieldDescriptor (TX2 k).2.2.1 = some (tyX2 k) := by decide +kernel
abbrev cX2_init : ByteArray := prog_4_method_1_code
def yX2_init : MethodName := ⟨RX2, "<init>", "()V"⟩
abbrev cX2_forgetAll : ByteArray := prog_4_method_2_code
def yX2_forgetAll : MethodName := ⟨RX2, "forgetAll", "()V"⟩
abbrev cX2_store : ByteArray := prog_4_method_3_code
def yX2_store : MethodName := ⟨RX2, "store", "(ILGuardCells$Traffic;)V"⟩
abbrev cX2_bringBack : ByteArray := prog_4_method_4_code
def yX2_bringBack : MethodName := ⟨RX2, "bringBack", "(ILGuardCells$Traffic;)Z"⟩
def RX3 : String := "GuardCells$LongRun"
def TX3 : u_T := fun k => match k with
  | 0 => ("GuardCells$LongRun", "weights", "[J", true)
  | 1 => ("GuardCells$LongRun", "channels", "I", false)
  | _ => ("GuardCells$LongRun", "guard", "I", false)
def tyX3 : Nat → FieldType := fun k => match k with
  | 0 => .array .long
  | 1 => .int
  | _ => .int
abbrev wsX30 : List Cond := u_ws RX3 TX3 3
theorem nmX3 : ∀ a, a < 3 → ∀ b, b < 3 → a ≠ b → (TX3 a).2.1 ≠ (TX3 b).2.1 := by decide +kernel
theorem tyX3_ok : ∀ k, k < 3 → parseFieldDescriptor (TX3 k).2.2.1 = some (tyX3 k) := by decide +kernel
abbrev cX3_init : ByteArray := prog_5_method_1_code
def yX3_init : MethodName := ⟨RX3, "<init>", "()V"⟩
abbrev cX3_weigh : ByteArray := prog_5_method_2_code
def yX3_weigh : MethodName := ⟨RX3, "weigh", "(IIIII)V"⟩
abbrev cX3_chanceWith : ByteArray := prog_5_method_3_code
def yX3_chanceWith : MethodName := ⟨RX3, "chanceWith", "(I)I"⟩
abbrev cX3_allWeights : ByteArray := prog_5_method_4_code
def yX3_allWeights : MethodName := ⟨RX3, "allWeights", "()J"⟩
abbrev cX3_upper : ByteArray := prog_5_method_5_code
def yX3_upper : MethodName := ⟨RX3, "upper", "(I)J"⟩
abbrev cX3_lower : ByteArray := prog_5_method_6_code
def yX3_lower : MethodName := ⟨RX3, "lower", "(I)J"⟩
abbrev cX3_losesMovingAtMostOnceIn : ByteArray := prog_5_method_7_code
def yX3_losesMovingAtMostOnceIn : MethodName := ⟨RX3, "losesMovingAtMostOnceIn", "(I)Z"⟩
def RX4 : String := "GuardCells$Reader"
def TX4 : u_T := fun k => match k with
  | 0 => ("GuardCells$Reader", "letters", "[I", true)
  | 1 => ("GuardCells$Reader", "length", "I", false)
  | 2 => ("GuardCells$Reader", "draft", "LGuardCells$Told;", true)
  | 3 => ("GuardCells$Reader", "timesTold", "[I", true)
  | 4 => ("GuardCells$Reader", "at", "I", false)
  | 5 => ("GuardCells$Reader", "start", "I", false)
  | 6 => ("GuardCells$Reader", "kind", "I", false)
  | _ => ("GuardCells$Reader", "value", "I", false)
def tyX4 : Nat → FieldType := fun k => match k with
  | 0 => .array .int
  | 1 => .int
  | 2 => .object "GuardCells$Told"
  | 3 => .array .int
  | 4 => .int
  | 5 => .int
  | 6 => .int
  | _ => .int
abbrev wsX40 : List Cond := u_ws RX4 TX4 8
theorem nmX4 : ∀ a, a < 8 → ∀ b, b < 8 → a ≠ b → (TX4 a).2.1 ≠ (TX4 b).2.1 := by decide +kernel
theorem tyX4_ok : ∀ k, k < 8 → parseFieldDescriptor (TX4 k).2.2.1 = some (tyX4 k) := by decide +kernel
abbrev cX4_init : ByteArray := prog_6_method_1_code
def yX4_init : MethodName := ⟨RX4, "<init>", "()V"⟩
abbrev cX4_append : ByteArray := prog_6_method_2_code
def yX4_append : MethodName := ⟨RX4, "append", "(I)Z"⟩
abbrev cX4_read : ByteArray := prog_6_method_3_code
def yX4_read : MethodName := ⟨RX4, "read", "()I"⟩
abbrev cX4_readCell : ByteArray := prog_6_method_4_code
def yX4_readCell : MethodName := ⟨RX4, "readCell", "()Z"⟩
abbrev cX4_readSetting : ByteArray := prog_6_method_5_code
def yX4_readSetting : MethodName := ⟨RX4, "readSetting", "(I)Z"⟩
abbrev cX4_readNumber : ByteArray := prog_6_method_6_code
def yX4_readNumber : MethodName := ⟨RX4, "readNumber", "(II)Z"⟩
abbrev cX4_readStop : ByteArray := prog_6_method_7_code
def yX4_readStop : MethodName := ⟨RX4, "readStop", "()Z"⟩
abbrev cX4_nextToken : ByteArray := prog_6_method_8_code
def yX4_nextToken : MethodName := ⟨RX4, "nextToken", "()V"⟩
abbrev cX4_scanNumber : ByteArray := prog_6_method_9_code
def yX4_scanNumber : MethodName := ⟨RX4, "scanNumber", "()V"⟩
abbrev cX4_isFigure : ByteArray := prog_6_method_10_code
def yX4_isFigure : MethodName := ⟨RX4, "isFigure", "(I)Z"⟩
abbrev cX4_kindOf : ByteArray := prog_6_method_11_code
def yX4_kindOf : MethodName := ⟨RX4, "kindOf", "(I)I"⟩
abbrev cX4_settingOf : ByteArray := prog_6_method_12_code
def yX4_settingOf : MethodName := ⟨RX4, "settingOf", "(I)I"⟩
def RX5 : String := "GuardCells$Sightings"
def TX5 : u_T := fun k => match k with
  | 0 => ("GuardCells$Sightings", "many", "I", false)
  | 1 => ("GuardCells$Sightings", "free", "[I", true)
  | _ => ("GuardCells$Sightings", "taken", "[I", true)
def tyX5 : Nat → FieldType := fun k => match k with
  | 0 => .int
  | 1 => .array .int
  | _ => .array .int
abbrev wsX50 : List Cond := u_ws RX5 TX5 3
theorem nmX5 : ∀ a, a < 3 → ∀ b, b < 3 → a ≠ b → (TX5 a).2.1 ≠ (TX5 b).2.1 := by decide +kernel
theorem tyX5_ok : ∀ k, k < 3 → parseFieldDescriptor (TX5 k).2.2.1 = some (tyX5 k) := by decide +kernel
abbrev cX5_init : ByteArray := prog_7_method_1_code
def yX5_init : MethodName := ⟨RX5, "<init>", "()V"⟩
abbrev cX5_add : ByteArray := prog_7_method_2_code
def yX5_add : MethodName := ⟨RX5, "add", "(II)Z"⟩
abbrev cX5_allow : ByteArray := prog_7_method_3_code
def yX5_allow : MethodName := ⟨RX5, "allow", "(I)Z"⟩
def RX6 : String := "GuardCells$Told"
def TX6 : u_T := fun k => match k with
  | 0 => ("GuardCells$Told", "cells", "I", false)
  | 1 => ("GuardCells$Told", "channels", "[I", true)
  | 2 => ("GuardCells$Told", "guard", "[I", true)
  | 3 => ("GuardCells$Told", "places", "[I", true)
  | _ => ("GuardCells$Told", "setting", "[I", true)
def tyX6 : Nat → FieldType := fun k => match k with
  | 0 => .int
  | 1 => .array .int
  | 2 => .array .int
  | 3 => .array .int
  | _ => .array .int
abbrev wsX60 : List Cond := u_ws RX6 TX6 5
theorem nmX6 : ∀ a, a < 5 → ∀ b, b < 5 → a ≠ b → (TX6 a).2.1 ≠ (TX6 b).2.1 := by decide +kernel
theorem tyX6_ok : ∀ k, k < 5 → parseFieldDescriptor (TX6 k).2.2.1 = some (tyX6 k) := by decide +kernel
abbrev cX6_init : ByteArray := prog_8_method_1_code
def yX6_init : MethodName := ⟨RX6, "<init>", "()V"⟩
abbrev cX6_begin : ByteArray := prog_8_method_2_code
def yX6_begin : MethodName := ⟨RX6, "begin", "()V"⟩
abbrev cX6_copyFrom : ByteArray := prog_8_method_3_code
def yX6_copyFrom : MethodName := ⟨RX6, "copyFrom", "(LGuardCells$Told;)V"⟩
abbrev cX6_has : ByteArray := prog_8_method_4_code
def yX6_has : MethodName := ⟨RX6, "has", "(I)Z"⟩
abbrev cX6_mostGuard : ByteArray := prog_8_method_5_code
def yX6_mostGuard : MethodName := ⟨RX6, "mostGuard", "(I)I"⟩
def RX7 : String := "GuardCells$Traffic"
def TX7 : u_T := fun k => match k with
  | 0 => ("GuardCells$Traffic", "seed", "I", false)
  | 1 => ("GuardCells$Traffic", "waits", "I", false)
  | 2 => ("GuardCells$Traffic", "guard", "[I", true)
  | 3 => ("GuardCells$Traffic", "tally", "[I", true)
  | 4 => ("GuardCells$Traffic", "own", "[I", true)
  | 5 => ("GuardCells$Traffic", "waitsFor", "[I", true)
  | 6 => ("GuardCells$Traffic", "waitsSince", "[I", true)
  | 7 => ("GuardCells$Traffic", "heard", "[I", true)
  | 8 => ("GuardCells$Traffic", "heardSinceMove", "[I", true)
  | 9 => ("GuardCells$Traffic", "moves", "[I", true)
  | 10 => ("GuardCells$Traffic", "returns", "[I", true)
  | 11 => ("GuardCells$Traffic", "fall", "[I", true)
  | 12 => ("GuardCells$Traffic", "cameFrom", "[I", true)
  | 13 => ("GuardCells$Traffic", "levels", "[I", true)
  | 14 => ("GuardCells$Traffic", "streaks", "[I", true)
  | 15 => ("GuardCells$Traffic", "pairs", "I", false)
  | 16 => ("GuardCells$Traffic", "pairFrom", "[I", true)
  | 17 => ("GuardCells$Traffic", "pairTo", "[I", true)
  | _ => ("GuardCells$Traffic", "pairMoves", "[I", true)
def tyX7 : Nat → FieldType := fun k => match k with
  | 0 => .int
  | 1 => .int
  | 2 => .array .int
  | 3 => .array .int
  | 4 => .array .int
  | 5 => .array .int
  | 6 => .array .int
  | 7 => .array .int
  | 8 => .array .int
  | 9 => .array .int
  | 10 => .array .int
  | 11 => .array .int
  | 12 => .array .int
  | 13 => .array .int
  | 14 => .array .int
  | 15 => .int
  | 16 => .array .int
  | 17 => .array .int
  | _ => .array .int
abbrev wsX70 : List Cond := u_ws RX7 TX7 19
theorem nmX7 : ∀ a, a < 19 → ∀ b, b < 19 → a ≠ b → (TX7 a).2.1 ≠ (TX7 b).2.1 := by decide +kernel
theorem tyX7_ok : ∀ k, k < 19 → parseFieldDescriptor (TX7 k).2.2.1 = some (tyX7 k) := by decide +kernel
abbrev cX7_init : ByteArray := prog_9_method_1_code
def yX7_init : MethodName := ⟨RX7, "<init>", "()V"⟩
abbrev cX7_begin : ByteArray := prog_9_method_2_code
def yX7_begin : MethodName := ⟨RX7, "begin", "(LGuardCells$Told;)V"⟩
abbrev cX7_clearCalls : ByteArray := prog_9_method_3_code
def yX7_clearCalls : MethodName := ⟨RX7, "clearCalls", "()V"⟩
abbrev cX7_copyFrom : ByteArray := prog_9_method_4_code
def yX7_copyFrom : MethodName := ⟨RX7, "copyFrom", "(LGuardCells$Traffic;)V"⟩
abbrev cX7_has : ByteArray := prog_9_method_5_code
def yX7_has : MethodName := ⟨RX7, "has", "(I)Z"⟩
abbrev cX7_present : ByteArray := prog_9_method_6_code
def yX7_present : MethodName := ⟨RX7, "present", "()I"⟩
abbrev cX7_lowestAbsent : ByteArray := prog_9_method_7_code
def yX7_lowestAbsent : MethodName := ⟨RX7, "lowestAbsent", "()I"⟩
abbrev cX7_busy : ByteArray := prog_9_method_8_code
def yX7_busy : MethodName := ⟨RX7, "busy", "(I)I"⟩
abbrev cX7_waiting : ByteArray := prog_9_method_9_code
def yX7_waiting : MethodName := ⟨RX7, "waiting", "(I)I"⟩
abbrev cX7_callsOf : ByteArray := prog_9_method_10_code
def yX7_callsOf : MethodName := ⟨RX7, "callsOf", "([II)I"⟩
abbrev cX7_tallyOne : ByteArray := prog_9_method_11_code
def yX7_tallyOne : MethodName := ⟨RX7, "tallyOne", "(II)V"⟩
abbrev cX7_appear : ByteArray := prog_9_method_12_code
def yX7_appear : MethodName := ⟨RX7, "appear", "(III)V"⟩
abbrev cX7_clearStreaks : ByteArray := prog_9_method_13_code
def yX7_clearStreaks : MethodName := ⟨RX7, "clearStreaks", "(I)V"⟩
abbrev cX7_beginWaiting : ByteArray := prog_9_method_14_code
def yX7_beginWaiting : MethodName := ⟨RX7, "beginWaiting", "(II)V"⟩
abbrev cX7_ownLevel : ByteArray := prog_9_method_15_code
def yX7_ownLevel : MethodName := ⟨RX7, "ownLevel", "(I)I"⟩
abbrev cX7_countPair : ByteArray := prog_9_method_16_code
def yX7_countPair : MethodName := ⟨RX7, "countPair", "(II)V"⟩
def RX8 : String := "GuardCells"
def TX8 : u_T := fun k => match k with
  | 0 => ("GuardCells", "reader", "LGuardCells$Reader;", true)
  | 1 => ("GuardCells", "told", "LGuardCells$Told;", true)
  | 2 => ("GuardCells", "now", "LGuardCells$Traffic;", true)
  | 3 => ("GuardCells", "exchange", "LGuardCells$Exchange;", true)
  | 4 => ("GuardCells", "history", "LGuardCells$History;", true)
  | 5 => ("GuardCells", "images", "LGuardCells$Images;", true)
  | 6 => ("GuardCells", "longRun", "LGuardCells$LongRun;", true)
  | _ => ("GuardCells", "sightings", "LGuardCells$Sightings;", true)
def tyX8 : Nat → FieldType := fun k => match k with
  | 0 => .object "GuardCells$Reader"
  | 1 => .object "GuardCells$Told"
  | 2 => .object "GuardCells$Traffic"
  | 3 => .object "GuardCells$Exchange"
  | 4 => .object "GuardCells$History"
  | 5 => .object "GuardCells$Images"
  | 6 => .object "GuardCells$LongRun"
  | _ => .object "GuardCells$Sightings"
abbrev wsX80 : List Cond := u_ws RX8 TX8 8
theorem nmX8 : ∀ a, a < 8 → ∀ b, b < 8 → a ≠ b → (TX8 a).2.1 ≠ (TX8 b).2.1 := by decide +kernel
theorem tyX8_ok : ∀ k, k < 8 → parseFieldDescriptor (TX8 k).2.2.1 = some (tyX8 k) := by decide +kernel
abbrev cX8_init : ByteArray := prog_1_method_1_code
def yX8_init : MethodName := ⟨RX8, "<init>", "()V"⟩
abbrev cX8_type : ByteArray := prog_1_method_2_code
def yX8_type : MethodName := ⟨RX8, "type", "(I)I"⟩
abbrev cX8_clear : ByteArray := prog_1_method_3_code
def yX8_clear : MethodName := ⟨RX8, "clear", "()I"⟩
abbrev cX8_tells : ByteArray := prog_1_method_4_code
def yX8_tells : MethodName := ⟨RX8, "tells", "()I"⟩
abbrev cX8_offers : ByteArray := prog_1_method_5_code
def yX8_offers : MethodName := ⟨RX8, "offers", "(II)I"⟩
abbrev cX8_hears : ByteArray := prog_1_method_6_code
def yX8_hears : MethodName := ⟨RX8, "hears", "(IIIII)I"⟩
abbrev cX8_ends : ByteArray := prog_1_method_7_code
def yX8_ends : MethodName := ⟨RX8, "ends", "(I)I"⟩
abbrev cX8_guards : ByteArray := prog_1_method_8_code
def yX8_guards : MethodName := ⟨RX8, "guards", "(II)I"⟩
abbrev cX8_seeds : ByteArray := prog_1_method_9_code
def yX8_seeds : MethodName := ⟨RX8, "seeds", "(I)I"⟩
abbrev cX8_undo : ByteArray := prog_1_method_10_code
def yX8_undo : MethodName := ⟨RX8, "undo", "()I"⟩
abbrev cX8_cell : ByteArray := prog_1_method_11_code
def yX8_cell : MethodName := ⟨RX8, "cell", "(II)I"⟩
abbrev cX8_call : ByteArray := prog_1_method_12_code
def yX8_call : MethodName := ⟨RX8, "call", "(II)I"⟩
abbrev cX8_level : ByteArray := prog_1_method_13_code
def yX8_level : MethodName := ⟨RX8, "level", "(III)I"⟩
abbrev cX8_queued : ByteArray := prog_1_method_14_code
def yX8_queued : MethodName := ⟨RX8, "queued", "(II)I"⟩
abbrev cX8_pair : ByteArray := prog_1_method_15_code
def yX8_pair : MethodName := ⟨RX8, "pair", "(II)I"⟩
abbrev cX8_lost : ByteArray := prog_1_method_16_code
def yX8_lost : MethodName := ⟨RX8, "lost", "(IIIIII)J"⟩
abbrev cX8_best : ByteArray := prog_1_method_17_code
def yX8_best : MethodName := ⟨RX8, "best", "(IIIII)I"⟩
abbrev cX8_sees : ByteArray := prog_1_method_18_code
def yX8_sees : MethodName := ⟨RX8, "sees", "(II)I"⟩
abbrev cX8_forget : ByteArray := prog_1_method_19_code
def yX8_forget : MethodName := ⟨RX8, "forget", "()I"⟩
abbrev cX8_unseen : ByteArray := prog_1_method_20_code
def yX8_unseen : MethodName := ⟨RX8, "unseen", "(II)I"⟩
abbrev cX8_keep : ByteArray := prog_1_method_21_code
def yX8_keep : MethodName := ⟨RX8, "keep", "(I)I"⟩
abbrev cX8_back : ByteArray := prog_1_method_22_code
def yX8_back : MethodName := ⟨RX8, "back", "(I)I"⟩
abbrev cX8_count : ByteArray := prog_1_method_23_code
def yX8_count : MethodName := ⟨RX8, "count", "(I)I"⟩
abbrev cX8_within : ByteArray := prog_1_method_24_code
def yX8_within : MethodName := ⟨RX8, "within", "(III)Z"⟩
abbrev cX8_areRates : ByteArray := prog_1_method_25_code
def yX8_areRates : MethodName := ⟨RX8, "areRates", "(III)Z"⟩
abbrev cX8_canHear : ByteArray := prog_1_method_26_code
def yX8_canHear : MethodName := ⟨RX8, "canHear", "(II)Z"⟩
abbrev cX8_chance : ByteArray := prog_1_method_27_code
def yX8_chance : MethodName := ⟨RX8, "chance", "(II)I"⟩
abbrev cX8_commonDivisor : ByteArray := prog_1_method_28_code
def yX8_commonDivisor : MethodName := ⟨RX8, "commonDivisor", "(JJ)J"⟩
def RX9 : String := "GuardCellsModel"
def TX9 : u_T := fun k => match k with
  | 0 => ("GuardCellsModel", "w", "[I", true)
  | 1 => ("GuardCellsModel", "isKept", "[Z", true)
  | 2 => ("GuardCellsModel", "undos", "I", false)
  | 3 => ("GuardCellsModel", "seenFree", "[I", true)
  | 4 => ("GuardCellsModel", "seenTaken", "[I", true)
  | 5 => ("GuardCellsModel", "seen", "I", false)
  | 6 => ("GuardCellsModel", "text", "[I", true)
  | 7 => ("GuardCellsModel", "letters", "I", false)
  | 8 => ("GuardCellsModel", "cells", "I", false)
  | 9 => ("GuardCellsModel", "channels", "[I", true)
  | 10 => ("GuardCellsModel", "places", "[I", true)
  | 11 => ("GuardCellsModel", "tell", "[I", true)
  | 12 => ("GuardCellsModel", "here", "I", false)
  | 13 => ("GuardCellsModel", "begin", "I", false)
  | 14 => ("GuardCellsModel", "token", "I", false)
  | 15 => ("GuardCellsModel", "number", "I", false)
  | 16 => ("GuardCellsModel", "items", "I", false)
  | 17 => ("GuardCellsModel", "newCells", "I", false)
  | 18 => ("GuardCellsModel", "told", "I", false)
  | 19 => ("GuardCellsModel", "newChannels", "[I", true)
  | 20 => ("GuardCellsModel", "newGuards", "[I", true)
  | 21 => ("GuardCellsModel", "newPlaces", "[I", true)
  | 22 => ("GuardCellsModel", "newTell", "[I", true)
  | 23 => ("GuardCellsModel", "last", "I", false)
  | 24 => ("GuardCellsModel", "freed", "[I", true)
  | 25 => ("GuardCellsModel", "freedMany", "I", false)
  | 26 => ("GuardCellsModel", "movedMany", "I", false)
  | _ => ("GuardCellsModel", "share", "[J", true)
def tyX9 : Nat → FieldType := fun k => match k with
  | 0 => .array .int
  | 1 => .array .boolean
  | 2 => .int
  | 3 => .array .int
  | 4 => .array .int
  | 5 => .int
  | 6 => .array .int
  | 7 => .int
  | 8 => .int
  | 9 => .array .int
  | 10 => .array .int
  | 11 => .array .int
  | 12 => .int
  | 13 => .int
  | 14 => .int
  | 15 => .int
  | 16 => .int
  | 17 => .int
  | 18 => .int
  | 19 => .array .int
  | 20 => .array .int
  | 21 => .array .int
  | 22 => .array .int
  | 23 => .int
  | 24 => .array .int
  | 25 => .int
  | 26 => .int
  | _ => .array .long
abbrev wsX90 : List Cond := u_ws RX9 TX9 28
theorem nmX9 : ∀ a, a < 28 → ∀ b, b < 28 → a ≠ b → (TX9 a).2.1 ≠ (TX9 b).2.1 := by decide +kernel
theorem tyX9_ok : ∀ k, k < 28 → parseFieldDescriptor (TX9 k).2.2.1 = some (tyX9 k) := by decide +kernel
abbrev cX9_init : ByteArray := prog_11_method_1_code
def yX9_init : MethodName := ⟨RX9, "<init>", "()V"⟩
abbrev cX9_in : ByteArray := prog_11_method_3_code
def yX9_in : MethodName := ⟨RX9, "in", "(JJJ)Z"⟩
abbrev cX9_lesser : ByteArray := prog_11_method_4_code
def yX9_lesser : MethodName := ⟨RX9, "lesser", "(II)I"⟩
abbrev cX9_copy : ByteArray := prog_11_method_5_code
def yX9_copy : MethodName := ⟨RX9, "copy", "(II)V"⟩
abbrev cX9_minds : ByteArray := prog_11_method_6_code
def yX9_minds : MethodName := ⟨RX9, "minds", "()V"⟩
abbrev cX9_isFigure : ByteArray := prog_11_method_7_code
def yX9_isFigure : MethodName := ⟨RX9, "isFigure", "(I)Z"⟩
abbrev cX9_take : ByteArray := prog_11_method_8_code
def yX9_take : MethodName := ⟨RX9, "take", "()V"⟩
abbrev cX9_which : ByteArray := prog_11_method_9_code
def yX9_which : MethodName := ⟨RX9, "which", "(I)I"⟩
abbrev cX9_readsNumber : ByteArray := prog_11_method_10_code
def yX9_readsNumber : MethodName := ⟨RX9, "readsNumber", "(II)Z"⟩
abbrev cX9_keeps : ByteArray := prog_11_method_11_code
def yX9_keeps : MethodName := ⟨RX9, "keeps", "(II)Z"⟩
abbrev cX9_readsCell : ByteArray := prog_11_method_12_code
def yX9_readsCell : MethodName := ⟨RX9, "readsCell", "()Z"⟩
abbrev cX9_least : ByteArray := prog_11_method_13_code
def yX9_least : MethodName := ⟨RX9, "least", "(I)I"⟩
abbrev cX9_most : ByteArray := prog_11_method_14_code
def yX9_most : MethodName := ⟨RX9, "most", "(I)I"⟩
abbrev cX9_readsItem : ByteArray := prog_11_method_15_code
def yX9_readsItem : MethodName := ⟨RX9, "readsItem", "()Z"⟩
abbrev cX9_reads : ByteArray := prog_11_method_16_code
def yX9_reads : MethodName := ⟨RX9, "reads", "()Z"⟩
abbrev cX9_type : ByteArray := prog_11_method_17_code
def yX9_type : MethodName := ⟨RX9, "type", "(I)I"⟩
abbrev cX9_clear : ByteArray := prog_11_method_18_code
def yX9_clear : MethodName := ⟨RX9, "clear", "()I"⟩
abbrev cX9_tells : ByteArray := prog_11_method_19_code
def yX9_tells : MethodName := ⟨RX9, "tells", "()I"⟩
abbrev cX9_isCell : ByteArray := prog_11_method_20_code
def yX9_isCell : MethodName := ⟨RX9, "isCell", "(I)Z"⟩
abbrev cX9_get : ByteArray := prog_11_method_21_code
def yX9_get : MethodName := ⟨RX9, "get", "(II)I"⟩
abbrev cX9_set : ByteArray := prog_11_method_22_code
def yX9_set : MethodName := ⟨RX9, "set", "(III)V"⟩
abbrev cX9_isCall : ByteArray := prog_11_method_23_code
def yX9_isCall : MethodName := ⟨RX9, "isCall", "(I)Z"⟩
abbrev cX9_calls : ByteArray := prog_11_method_24_code
def yX9_calls : MethodName := ⟨RX9, "calls", "()I"⟩
abbrev cX9_busy : ByteArray := prog_11_method_25_code
def yX9_busy : MethodName := ⟨RX9, "busy", "(I)I"⟩
abbrev cX9_waiting : ByteArray := prog_11_method_26_code
def yX9_waiting : MethodName := ⟨RX9, "waiting", "(I)I"⟩
abbrev cX9_free : ByteArray := prog_11_method_27_code
def yX9_free : MethodName := ⟨RX9, "free", "(I)I"⟩
abbrev cX9_chanceBy : ByteArray := prog_11_method_28_code
def yX9_chanceBy : MethodName := ⟨RX9, "chanceBy", "(II)I"⟩
abbrev cX9_chance : ByteArray := prog_11_method_29_code
def yX9_chance : MethodName := ⟨RX9, "chance", "(I)I"⟩
abbrev cX9_counts : ByteArray := prog_11_method_30_code
def yX9_counts : MethodName := ⟨RX9, "counts", "(II)V"⟩
abbrev cX9_draw : ByteArray := prog_11_method_31_code
def yX9_draw : MethodName := ⟨RX9, "draw", "()I"⟩
abbrev cX9_offers : ByteArray := prog_11_method_32_code
def yX9_offers : MethodName := ⟨RX9, "offers", "(II)I"⟩
abbrev cX9_pairs : ByteArray := prog_11_method_33_code
def yX9_pairs : MethodName := ⟨RX9, "pairs", "(II)V"⟩
abbrev cX9_frees : ByteArray := prog_11_method_34_code
def yX9_frees : MethodName := ⟨RX9, "frees", "(I)V"⟩
abbrev cX9_moves : ByteArray := prog_11_method_35_code
def yX9_moves : MethodName := ⟨RX9, "moves", "(II)V"⟩
abbrev cX9_isAhead : ByteArray := prog_11_method_36_code
def yX9_isAhead : MethodName := ⟨RX9, "isAhead", "(II)Z"⟩
abbrev cX9_queuedAt : ByteArray := prog_11_method_37_code
def yX9_queuedAt : MethodName := ⟨RX9, "queuedAt", "(II)I"⟩
abbrev cX9_serves : ByteArray := prog_11_method_38_code
def yX9_serves : MethodName := ⟨RX9, "serves", "()V"⟩
abbrev cX9_target : ByteArray := prog_11_method_39_code
def yX9_target : MethodName := ⟨RX9, "target", "(I)I"⟩
abbrev cX9_listens : ByteArray := prog_11_method_40_code
def yX9_listens : MethodName := ⟨RX9, "listens", "(III)V"⟩
abbrev cX9_isValue : ByteArray := prog_11_method_41_code
def yX9_isValue : MethodName := ⟨RX9, "isValue", "(II)Z"⟩
abbrev cX9_streaks : ByteArray := prog_11_method_42_code
def yX9_streaks : MethodName := ⟨RX9, "streaks", "(I)V"⟩
abbrev cX9_asks : ByteArray := prog_11_method_43_code
def yX9_asks : MethodName := ⟨RX9, "asks", "(II)I"⟩
abbrev cX9_hears : ByteArray := prog_11_method_44_code
def yX9_hears : MethodName := ⟨RX9, "hears", "(IIIII)I"⟩
abbrev cX9_leaves : ByteArray := prog_11_method_45_code
def yX9_leaves : MethodName := ⟨RX9, "leaves", "(I)V"⟩
abbrev cX9_ends : ByteArray := prog_11_method_46_code
def yX9_ends : MethodName := ⟨RX9, "ends", "(I)I"⟩
abbrev cX9_guards : ByteArray := prog_11_method_47_code
def yX9_guards : MethodName := ⟨RX9, "guards", "(II)I"⟩
abbrev cX9_seeds : ByteArray := prog_11_method_48_code
def yX9_seeds : MethodName := ⟨RX9, "seeds", "(I)I"⟩
abbrev cX9_undo : ByteArray := prog_11_method_49_code
def yX9_undo : MethodName := ⟨RX9, "undo", "()I"⟩
abbrev cX9_cell : ByteArray := prog_11_method_50_code
def yX9_cell : MethodName := ⟨RX9, "cell", "(II)I"⟩
abbrev cX9_call : ByteArray := prog_11_method_51_code
def yX9_call : MethodName := ⟨RX9, "call", "(II)I"⟩
abbrev cX9_level : ByteArray := prog_11_method_52_code
def yX9_level : MethodName := ⟨RX9, "level", "(III)I"⟩
abbrev cX9_queued : ByteArray := prog_11_method_53_code
def yX9_queued : MethodName := ⟨RX9, "queued", "(II)I"⟩
abbrev cX9_pair : ByteArray := prog_11_method_54_code
def yX9_pair : MethodName := ⟨RX9, "pair", "(II)I"⟩
abbrev cX9_shares : ByteArray := prog_11_method_55_code
def yX9_shares : MethodName := ⟨RX9, "shares", "(IIIII)J"⟩
abbrev cX9_areRates : ByteArray := prog_11_method_56_code
def yX9_areRates : MethodName := ⟨RX9, "areRates", "(III)Z"⟩
abbrev cX9_divisor : ByteArray := prog_11_method_57_code
def yX9_divisor : MethodName := ⟨RX9, "divisor", "(JJ)J"⟩
abbrev cX9_lost : ByteArray := prog_11_method_58_code
def yX9_lost : MethodName := ⟨RX9, "lost", "(IIIIII)J"⟩
abbrev cX9_best : ByteArray := prog_11_method_59_code
def yX9_best : MethodName := ⟨RX9, "best", "(IIIII)I"⟩
abbrev cX9_sees : ByteArray := prog_11_method_60_code
def yX9_sees : MethodName := ⟨RX9, "sees", "(II)I"⟩
abbrev cX9_forget : ByteArray := prog_11_method_61_code
def yX9_forget : MethodName := ⟨RX9, "forget", "()I"⟩
abbrev cX9_couldBe : ByteArray := prog_11_method_62_code
def yX9_couldBe : MethodName := ⟨RX9, "couldBe", "(I)Z"⟩
abbrev cX9_unseen : ByteArray := prog_11_method_63_code
def yX9_unseen : MethodName := ⟨RX9, "unseen", "(II)I"⟩
abbrev cX9_keep : ByteArray := prog_11_method_64_code
def yX9_keep : MethodName := ⟨RX9, "keep", "(I)I"⟩
abbrev cX9_back : ByteArray := prog_11_method_65_code
def yX9_back : MethodName := ⟨RX9, "back", "(I)I"⟩
abbrev cX9_count : ByteArray := prog_11_method_66_code
def yX9_count : MethodName := ⟨RX9, "count", "(I)I"⟩
def RJ9 : String := "java/lang/Math"
def TJ9 : u_T := fun k => match k with
  | _ => ("", "", "", false)
def tyJ9 : Nat → FieldType := fun k => match k with
  | _ => .int
abbrev wsJ90 : List Cond := u_ws RJ9 TJ9 0
theorem nmJ9 : ∀ a, a < 0 → ∀ b, b < 0 → a ≠ b → (TJ9 a).2.1 ≠ (TJ9 b).2.1 := by decide +kernel
theorem tyJ9_ok : ∀ k, k < 0 → parseFieldDescriptor (TJ9 k).2.2.1 = some (tyJ9 k) := by decide +kernel
abbrev cJ9_max_7cf53 : ByteArray := prog_12_method_65_code
def yJ9_max_7cf53 : MethodName := ⟨RJ9, "max", "(II)I"⟩
abbrev cJ9_min_7cf53 : ByteArray := prog_12_method_69_code
def yJ9_min_7cf53 : MethodName := ⟨RJ9, "min", "(II)I"⟩
def RJ10 : String := "java/lang/System"
def TJ10 : u_T := fun k => match k with
  | _ => ("", "", "", false)
def tyJ10 : Nat → FieldType := fun k => match k with
  | _ => .int
abbrev wsJ100 : List Cond := u_ws RJ10 TJ10 0
theorem nmJ10 : ∀ a, a < 0 → ∀ b, b < 0 → a ≠ b → (TJ10 a).2.1 ≠ (TJ10 b).2.1 := by decide +kernel
theorem tyJ10_ok : ∀ k, k < 0 → parseFieldDescriptor (TJ10 k).2.2.1 = some (tyJ10 k) := by decide +kernel
def RJ7 : String := "java/util/Arrays"
def TJ7 : u_T := fun k => match k with
  | _ => ("", "", "", false)
def tyJ7 : Nat → FieldType := fun k => match k with
  | _ => .int
abbrev wsJ70 : List Cond := u_ws RJ7 TJ7 0
theorem nmJ7 : ∀ a, a < 0 → ∀ b, b < 0 → a ≠ b → (TJ7 a).2.1 ≠ (TJ7 b).2.1 := by decide +kernel
theorem tyJ7_ok : ∀ k, k < 0 → parseFieldDescriptor (TJ7 k).2.2.1 = some (tyJ7 k) := by decide +kernel
abbrev cJ7_fill_53178 : ByteArray := prog_14_method_103_code
def yJ7_fill_53178 : MethodName := ⟨RJ7, "fill", "([II)V"⟩
def RL : String := "GuardCellsLaw"
abbrev cL_law : ByteArray := code
def yL_law : MethodName := ⟨RL, "law", "([I)Z"⟩
end
section
theorem dX0_init_0 : decode cX0_init 0 = .ok (.aload_n 0, 1) := by decide +kernel
theorem dX0_init_1 : decode cX0_init 1 = .ok (.invokespecial 3, 3) := by decide +kernel
theorem dX0_init_4 : decode cX0_init 4 = .ok (.aload_n 0, 1) := by decide +kernel
theorem dX0_init_5 : decode cX0_init 5 = .ok (.iconst 4, 1) := by decide +kernel
theorem dX0_init_6 : decode cX0_init 6 = .ok (.newarray .int, 2) := by decide +kernel
theorem dX0_init_8 : decode cX0_init 8 = .ok (.putfield 9, 3) := by decide +kernel
theorem dX0_init_11 : decode cX0_init 11 = .ok (.aload_n 0, 1) := by decide +kernel
theorem dX0_init_12 : decode cX0_init 12 = .ok (.bipush 13, 2) := by decide +kernel
theorem dX0_init_14 : decode cX0_init 14 = .ok (.newarray .int, 2) := by decide +kernel
theorem dX0_init_16 : decode cX0_init 16 = .ok (.putfield 15, 3) := by decide +kernel
theorem dX0_init_19 : decode cX0_init 19 = .ok (.aload_n 0, 1) := by decide +kernel
theorem dX0_init_20 : decode cX0_init 20 = .ok (.aload_n 1, 1) := by decide +kernel
theorem dX0_init_21 : decode cX0_init 21 = .ok (.putfield 18, 3) := by decide +kernel
theorem dX0_init_24 : decode cX0_init 24 = .ok (.aload_n 0, 1) := by decide +kernel
theorem dX0_init_25 : decode cX0_init 25 = .ok (.aload_n 2, 1) := by decide +kernel
theorem dX0_init_26 : decode cX0_init 26 = .ok (.putfield 22, 3) := by decide +kernel
theorem dX0_init_29 : decode cX0_init 29 = .ok (.return_, 1) := by decide +kernel
theorem dX0_free_0 : decode cX0_free 0 = .ok (.aload_n 0, 1) := by decide +kernel
theorem dX0_free_1 : decode cX0_free 1 = .ok (.getfield 18, 3) := by decide +kernel
theorem dX0_free_4 : decode cX0_free 4 = .ok (.getfield 26, 3) := by decide +kernel
theorem dX0_free_7 : decode cX0_free 7 = .ok (.iload_n 1, 1) := by decide +kernel
theorem dX0_free_8 : decode cX0_free 8 = .ok (.iaload, 1) := by decide +kernel
theorem dX0_free_9 : decode cX0_free 9 = .ok (.aload_n 0, 1) := by decide +kernel
theorem dX0_free_10 : decode cX0_free 10 = .ok (.getfield 22, 3) := by decide +kernel
theorem dX0_free_13 : decode cX0_free 13 = .ok (.iload_n 1, 1) := by decide +kernel
theorem dX0_free_14 : decode cX0_free 14 = .ok (.invokevirtual 31, 3) := by decide +kernel
theorem dX0_free_17 : decode cX0_free 17 = .ok (.isub, 1) := by decide +kernel
theorem dX0_free_18 : decode cX0_free 18 = .ok (.ireturn, 1) := by decide +kernel
theorem dX0_chanceOf_0 : decode cX0_chanceOf 0 = .ok (.aload_n 0, 1) := by decide +kernel
theorem dX0_chanceOf_1 : decode cX0_chanceOf 1 = .ok (.iload_n 1, 1) := by decide +kernel
theorem dX0_chanceOf_2 : decode cX0_chanceOf 2 = .ok (.invokevirtual 37, 3) := by decide +kernel
theorem dX0_chanceOf_5 : decode cX0_chanceOf 5 = .ok (.aload_n 0, 1) := by decide +kernel
theorem dX0_chanceOf_6 : decode cX0_chanceOf 6 = .ok (.getfield 22, 3) := by decide +kernel
theorem dX0_chanceOf_9 : decode cX0_chanceOf 9 = .ok (.getfield 40, 3) := by decide +kernel
theorem dX0_chanceOf_12 : decode cX0_chanceOf 12 = .ok (.iload_n 1, 1) := by decide +kernel
theorem dX0_chanceOf_13 : decode cX0_chanceOf 13 = .ok (.iaload, 1) := by decide +kernel
theorem dX0_chanceOf_14 : decode cX0_chanceOf 14 = .ok (.invokestatic 43, 3) := by decide +kernel
theorem dX0_chanceOf_17 : decode cX0_chanceOf 17 = .ok (.ireturn, 1) := by decide +kernel
theorem dX0_offer_0 : decode cX0_offer 0 = .ok (.aload_n 0, 1) := by decide +kernel
theorem dX0_offer_1 : decode cX0_offer 1 = .ok (.getfield 22, 3) := by decide +kernel
theorem dX0_offer_4 : decode cX0_offer 4 = .ok (.iload_n 1, 1) := by decide +kernel
theorem dX0_offer_5 : decode cX0_offer 5 = .ok (.iconst 0, 1) := by decide +kernel
theorem dX0_offer_6 : decode cX0_offer 6 = .ok (.invokevirtual 47, 3) := by decide +kernel
theorem dX0_offer_9 : decode cX0_offer 9 = .ok (.aload_n 0, 1) := by decide +kernel
theorem dX0_offer_10 : decode cX0_offer 10 = .ok (.getfield 22, 3) := by decide +kernel
theorem dX0_offer_13 : decode cX0_offer 13 = .ok (.invokevirtual 51, 3) := by decide +kernel
theorem dX0_offer_16 : decode cX0_offer 16 = .ok (.istore_n 3, 1) := by decide +kernel
theorem dX0_offer_17 : decode cX0_offer 17 = .ok (.iload_n 3, 1) := by decide +kernel
theorem dX0_offer_18 : decode cX0_offer 18 = .ok (.bipush (-9), 2) := by decide +kernel
theorem dX0_offer_20 : decode cX0_offer 20 = .ok (.if_icmp .eq 15, 3) := by decide +kernel
theorem dX0_offer_23 : decode cX0_offer 23 = .ok (.aload_n 0, 1) := by decide +kernel
theorem dX0_offer_24 : decode cX0_offer 24 = .ok (.aload_n 0, 1) := by decide +kernel
theorem dX0_offer_25 : decode cX0_offer 25 = .ok (.iload_n 1, 1) := by decide +kernel
theorem dX0_offer_26 : decode cX0_offer 26 = .ok (.invokevirtual 55, 3) := by decide +kernel
theorem dX0_offer_29 : decode cX0_offer 29 = .ok (.invokevirtual 58, 3) := by decide +kernel
theorem dX0_offer_32 : decode cX0_offer 32 = .ok (.ifCond .ne 6, 3) := by decide +kernel
theorem dX0_offer_35 : decode cX0_offer 35 = .ok (.bipush (-9), 2) := by decide +kernel
theorem dX0_offer_37 : decode cX0_offer 37 = .ok (.ireturn, 1) := by decide +kernel
theorem dX0_offer_38 : decode cX0_offer 38 = .ok (.aload_n 0, 1) := by decide +kernel
theorem dX0_offer_39 : decode cX0_offer 39 = .ok (.getfield 22, 3) := by decide +kernel
theorem dX0_offer_42 : decode cX0_offer 42 = .ok (.iload_n 1, 1) := by decide +kernel
theorem dX0_offer_43 : decode cX0_offer 43 = .ok (.iconst 1, 1) := by decide +kernel
theorem dX0_offer_44 : decode cX0_offer 44 = .ok (.invokevirtual 47, 3) := by decide +kernel
theorem dX0_offer_47 : decode cX0_offer 47 = .ok (.aload_n 0, 1) := by decide +kernel
theorem dX0_offer_48 : decode cX0_offer 48 = .ok (.getfield 22, 3) := by decide +kernel
theorem dX0_offer_51 : decode cX0_offer 51 = .ok (.iload_n 3, 1) := by decide +kernel
theorem dX0_offer_52 : decode cX0_offer 52 = .ok (.iload_n 1, 1) := by decide +kernel
theorem dX0_offer_53 : decode cX0_offer 53 = .ok (.iload_n 2, 1) := by decide +kernel
theorem dX0_offer_54 : decode cX0_offer 54 = .ok (.invokevirtual 62, 3) := by decide +kernel
theorem dX0_offer_57 : decode cX0_offer 57 = .ok (.iload_n 3, 1) := by decide +kernel
theorem dX0_offer_58 : decode cX0_offer 58 = .ok (.ireturn, 1) := by decide +kernel
theorem dX0_isTaken_0 : decode cX0_isTaken 0 = .ok (.iload_n 1, 1) := by decide +kernel
theorem dX0_isTaken_1 : decode cX0_isTaken 1 = .ok (.ifCond .eq 9, 3) := by decide +kernel
theorem dX0_isTaken_4 : decode cX0_isTaken 4 = .ok (.iload_n 1, 1) := by decide +kernel
theorem dX0_isTaken_5 : decode cX0_isTaken 5 = .ok (.bipush 10, 2) := by decide +kernel
theorem dX0_isTaken_7 : decode cX0_isTaken 7 = .ok (.if_icmp .ne 15, 3) := by decide +kernel
theorem dX0_isTaken_10 : decode cX0_isTaken 10 = .ok (.iload_n 1, 1) := by decide +kernel
theorem dX0_isTaken_11 : decode cX0_isTaken 11 = .ok (.bipush 10, 2) := by decide +kernel
theorem dX0_isTaken_13 : decode cX0_isTaken 13 = .ok (.if_icmp .ne 7, 3) := by decide +kernel
theorem dX0_isTaken_16 : decode cX0_isTaken 16 = .ok (.iconst 1, 1) := by decide +kernel
theorem dX0_isTaken_17 : decode cX0_isTaken 17 = .ok (.goto 4, 3) := by decide +kernel
theorem dX0_isTaken_20 : decode cX0_isTaken 20 = .ok (.iconst 0, 1) := by decide +kernel
theorem dX0_isTaken_21 : decode cX0_isTaken 21 = .ok (.ireturn, 1) := by decide +kernel
theorem dX0_isTaken_22 : decode cX0_isTaken 22 = .ok (.aload_n 0, 1) := by decide +kernel
theorem dX0_isTaken_23 : decode cX0_isTaken 23 = .ok (.invokevirtual 66, 3) := by decide +kernel
theorem dX0_isTaken_26 : decode cX0_isTaken 26 = .ok (.iload_n 1, 1) := by decide +kernel
theorem dX0_isTaken_27 : decode cX0_isTaken 27 = .ok (.if_icmp .ge 7, 3) := by decide +kernel
theorem dX0_isTaken_30 : decode cX0_isTaken 30 = .ok (.iconst 1, 1) := by decide +kernel
theorem dX0_isTaken_31 : decode cX0_isTaken 31 = .ok (.goto 4, 3) := by decide +kernel
theorem dX0_isTaken_34 : decode cX0_isTaken 34 = .ok (.iconst 0, 1) := by decide +kernel
theorem dX0_isTaken_35 : decode cX0_isTaken 35 = .ok (.ireturn, 1) := by decide +kernel
theorem dX0_draw_0 : decode cX0_draw 0 = .ok (.aload_n 0, 1) := by decide +kernel
theorem dX0_draw_1 : decode cX0_draw 1 = .ok (.getfield 22, 3) := by decide +kernel
theorem dX0_draw_4 : decode cX0_draw 4 = .ok (.aload_n 0, 1) := by decide +kernel
theorem dX0_draw_5 : decode cX0_draw 5 = .ok (.getfield 22, 3) := by decide +kernel
theorem dX0_draw_8 : decode cX0_draw 8 = .ok (.getfield 69, 3) := by decide +kernel
theorem dX0_draw_11 : decode cX0_draw 11 = .ok (.ldc 73, 2) := by decide +kernel
theorem dX0_draw_13 : decode cX0_draw 13 = .ok (.imul, 1) := by decide +kernel
theorem dX0_draw_14 : decode cX0_draw 14 = .ok (.iconst 1, 1) := by decide +kernel
theorem dX0_draw_15 : decode cX0_draw 15 = .ok (.iadd, 1) := by decide +kernel
theorem dX0_draw_16 : decode cX0_draw 16 = .ok (.putfield 69, 3) := by decide +kernel
theorem dX0_draw_19 : decode cX0_draw 19 = .ok (.aload_n 0, 1) := by decide +kernel
theorem dX0_draw_20 : decode cX0_draw 20 = .ok (.getfield 22, 3) := by decide +kernel
theorem dX0_draw_23 : decode cX0_draw 23 = .ok (.getfield 69, 3) := by decide +kernel
theorem dX0_draw_26 : decode cX0_draw 26 = .ok (.bipush 16, 2) := by decide +kernel
theorem dX0_draw_28 : decode cX0_draw 28 = .ok (.iushr, 1) := by decide +kernel
theorem dX0_draw_29 : decode cX0_draw 29 = .ok (.bipush 10, 2) := by decide +kernel
theorem dX0_draw_31 : decode cX0_draw 31 = .ok (.irem, 1) := by decide +kernel
theorem dX0_draw_32 : decode cX0_draw 32 = .ok (.ireturn, 1) := by decide +kernel
theorem dX0_setValues_0 : decode cX0_setValues 0 = .ok (.aload_n 0, 1) := by decide +kernel
theorem dX0_setValues_1 : decode cX0_setValues 1 = .ok (.getfield 9, 3) := by decide +kernel
theorem dX0_setValues_4 : decode cX0_setValues 4 = .ok (.iconst 0, 1) := by decide +kernel
theorem dX0_setValues_5 : decode cX0_setValues 5 = .ok (.iload_n 1, 1) := by decide +kernel
theorem dX0_setValues_6 : decode cX0_setValues 6 = .ok (.iastore, 1) := by decide +kernel
theorem dX0_setValues_7 : decode cX0_setValues 7 = .ok (.aload_n 0, 1) := by decide +kernel
theorem dX0_setValues_8 : decode cX0_setValues 8 = .ok (.getfield 9, 3) := by decide +kernel
theorem dX0_setValues_11 : decode cX0_setValues 11 = .ok (.iconst 1, 1) := by decide +kernel
theorem dX0_setValues_12 : decode cX0_setValues 12 = .ok (.iload_n 2, 1) := by decide +kernel
theorem dX0_setValues_13 : decode cX0_setValues 13 = .ok (.iastore, 1) := by decide +kernel
theorem dX0_setValues_14 : decode cX0_setValues 14 = .ok (.aload_n 0, 1) := by decide +kernel
theorem dX0_setValues_15 : decode cX0_setValues 15 = .ok (.getfield 9, 3) := by decide +kernel
theorem dX0_setValues_18 : decode cX0_setValues 18 = .ok (.iconst 2, 1) := by decide +kernel
theorem dX0_setValues_19 : decode cX0_setValues 19 = .ok (.iload_n 3, 1) := by decide +kernel
theorem dX0_setValues_20 : decode cX0_setValues 20 = .ok (.iastore, 1) := by decide +kernel
theorem dX0_setValues_21 : decode cX0_setValues 21 = .ok (.aload_n 0, 1) := by decide +kernel
theorem dX0_setValues_22 : decode cX0_setValues 22 = .ok (.getfield 9, 3) := by decide +kernel
theorem dX0_setValues_25 : decode cX0_setValues 25 = .ok (.iconst 3, 1) := by decide +kernel
theorem dX0_setValues_26 : decode cX0_setValues 26 = .ok (.iload 4, 2) := by decide +kernel
theorem dX0_setValues_28 : decode cX0_setValues 28 = .ok (.iastore, 1) := by decide +kernel
theorem dX0_setValues_29 : decode cX0_setValues 29 = .ok (.return_, 1) := by decide +kernel
theorem dX0_hear_0 : decode cX0_hear 0 = .ok (.aload_n 0, 1) := by decide +kernel
theorem dX0_hear_1 : decode cX0_hear 1 = .ok (.getfield 22, 3) := by decide +kernel
theorem dX0_hear_4 : decode cX0_hear 4 = .ok (.getfield 74, 3) := by decide +kernel
theorem dX0_hear_7 : decode cX0_hear 7 = .ok (.iload_n 1, 1) := by decide +kernel
theorem dX0_hear_8 : decode cX0_hear 8 = .ok (.dup2, 1) := by decide +kernel
theorem dX0_hear_9 : decode cX0_hear 9 = .ok (.iaload, 1) := by decide +kernel
theorem dX0_hear_10 : decode cX0_hear 10 = .ok (.iconst 1, 1) := by decide +kernel
theorem dX0_hear_11 : decode cX0_hear 11 = .ok (.iadd, 1) := by decide +kernel
theorem dX0_hear_12 : decode cX0_hear 12 = .ok (.iastore, 1) := by decide +kernel
theorem dX0_hear_13 : decode cX0_hear 13 = .ok (.aload_n 0, 1) := by decide +kernel
theorem dX0_hear_14 : decode cX0_hear 14 = .ok (.getfield 22, 3) := by decide +kernel
theorem dX0_hear_17 : decode cX0_hear 17 = .ok (.getfield 77, 3) := by decide +kernel
theorem dX0_hear_20 : decode cX0_hear 20 = .ok (.iload_n 1, 1) := by decide +kernel
theorem dX0_hear_21 : decode cX0_hear 21 = .ok (.dup2, 1) := by decide +kernel
theorem dX0_hear_22 : decode cX0_hear 22 = .ok (.iaload, 1) := by decide +kernel
theorem dX0_hear_23 : decode cX0_hear 23 = .ok (.iconst 1, 1) := by decide +kernel
theorem dX0_hear_24 : decode cX0_hear 24 = .ok (.iadd, 1) := by decide +kernel
theorem dX0_hear_25 : decode cX0_hear 25 = .ok (.iastore, 1) := by decide +kernel
theorem dX0_hear_26 : decode cX0_hear 26 = .ok (.aload_n 0, 1) := by decide +kernel
theorem dX0_hear_27 : decode cX0_hear 27 = .ok (.iload_n 1, 1) := by decide +kernel
theorem dX0_hear_28 : decode cX0_hear 28 = .ok (.invokevirtual 80, 3) := by decide +kernel
theorem dX0_hear_31 : decode cX0_hear 31 = .ok (.aload_n 0, 1) := by decide +kernel
theorem dX0_hear_32 : decode cX0_hear 32 = .ok (.iload_n 1, 1) := by decide +kernel
theorem dX0_hear_33 : decode cX0_hear 33 = .ok (.invokevirtual 84, 3) := by decide +kernel
theorem dX0_hear_36 : decode cX0_hear 36 = .ok (.aload_n 0, 1) := by decide +kernel
theorem dX0_hear_37 : decode cX0_hear 37 = .ok (.iload_n 1, 1) := by decide +kernel
theorem dX0_hear_38 : decode cX0_hear 38 = .ok (.aload_n 0, 1) := by decide +kernel
theorem dX0_hear_39 : decode cX0_hear 39 = .ok (.iload_n 1, 1) := by decide +kernel
theorem dX0_hear_40 : decode cX0_hear 40 = .ok (.invokevirtual 87, 3) := by decide +kernel
theorem dX0_hear_43 : decode cX0_hear 43 = .ok (.invokevirtual 90, 3) := by decide +kernel
theorem dX0_hear_46 : decode cX0_hear 46 = .ok (.istore_n 2, 1) := by decide +kernel
theorem dX0_hear_47 : decode cX0_hear 47 = .ok (.iload_n 2, 1) := by decide +kernel
theorem dX0_hear_48 : decode cX0_hear 48 = .ok (.iconst 1, 1) := by decide +kernel
theorem dX0_hear_49 : decode cX0_hear 49 = .ok (.if_icmp .eq 50, 3) := by decide +kernel
theorem dX0_hear_52 : decode cX0_hear 52 = .ok (.aload_n 0, 1) := by decide +kernel
theorem dX0_hear_53 : decode cX0_hear 53 = .ok (.getfield 22, 3) := by decide +kernel
theorem dX0_hear_56 : decode cX0_hear 56 = .ok (.iload_n 1, 1) := by decide +kernel
theorem dX0_hear_57 : decode cX0_hear 57 = .ok (.invokevirtual 93, 3) := by decide +kernel
theorem dX0_hear_60 : decode cX0_hear 60 = .ok (.bipush 64, 2) := by decide +kernel
theorem dX0_hear_62 : decode cX0_hear 62 = .ok (.aload_n 0, 1) := by decide +kernel
theorem dX0_hear_63 : decode cX0_hear 63 = .ok (.getfield 18, 3) := by decide +kernel
theorem dX0_hear_66 : decode cX0_hear 66 = .ok (.getfield 96, 3) := by decide +kernel
theorem dX0_hear_69 : decode cX0_hear 69 = .ok (.iconst 3, 1) := by decide +kernel
theorem dX0_hear_70 : decode cX0_hear 70 = .ok (.iaload, 1) := by decide +kernel
theorem dX0_hear_71 : decode cX0_hear 71 = .ok (.imul, 1) := by decide +kernel
theorem dX0_hear_72 : decode cX0_hear 72 = .ok (.if_icmp .ge 27, 3) := by decide +kernel
theorem dX0_hear_75 : decode cX0_hear 75 = .ok (.aload_n 0, 1) := by decide +kernel
theorem dX0_hear_76 : decode cX0_hear 76 = .ok (.getfield 22, 3) := by decide +kernel
theorem dX0_hear_79 : decode cX0_hear 79 = .ok (.aload_n 0, 1) := by decide +kernel
theorem dX0_hear_80 : decode cX0_hear 80 = .ok (.getfield 22, 3) := by decide +kernel
theorem dX0_hear_83 : decode cX0_hear 83 = .ok (.getfield 99, 3) := by decide +kernel
theorem dX0_hear_86 : decode cX0_hear 86 = .ok (.iload_n 1, 1) := by decide +kernel
theorem dX0_hear_87 : decode cX0_hear 87 = .ok (.iaload, 1) := by decide +kernel
theorem dX0_hear_88 : decode cX0_hear 88 = .ok (.iconst 5, 1) := by decide +kernel
theorem dX0_hear_89 : decode cX0_hear 89 = .ok (.invokevirtual 47, 3) := by decide +kernel
theorem dX0_hear_92 : decode cX0_hear 92 = .ok (.aload_n 0, 1) := by decide +kernel
theorem dX0_hear_93 : decode cX0_hear 93 = .ok (.iload_n 1, 1) := by decide +kernel
theorem dX0_hear_94 : decode cX0_hear 94 = .ok (.invokevirtual 102, 3) := by decide +kernel
theorem dX0_hear_97 : decode cX0_hear 97 = .ok (.iconst 4, 1) := by decide +kernel
theorem dX0_hear_98 : decode cX0_hear 98 = .ok (.istore_n 2, 1) := by decide +kernel
theorem dX0_hear_99 : decode cX0_hear 99 = .ok (.aload_n 0, 1) := by decide +kernel
theorem dX0_hear_100 : decode cX0_hear 100 = .ok (.invokevirtual 105, 3) := by decide +kernel
theorem dX0_hear_103 : decode cX0_hear 103 = .ok (.pop, 1) := by decide +kernel
theorem dX0_hear_104 : decode cX0_hear 104 = .ok (.iload_n 2, 1) := by decide +kernel
theorem dX0_hear_105 : decode cX0_hear 105 = .ok (.ireturn, 1) := by decide +kernel
theorem dX0_smoothLevels_0 : decode cX0_smoothLevels 0 = .ok (.aload_n 0, 1) := by decide +kernel
theorem dX0_smoothLevels_1 : decode cX0_smoothLevels 1 = .ok (.getfield 22, 3) := by decide +kernel
theorem dX0_smoothLevels_4 : decode cX0_smoothLevels 4 = .ok (.iload_n 1, 1) := by decide +kernel
theorem dX0_smoothLevels_5 : decode cX0_smoothLevels 5 = .ok (.invokevirtual 93, 3) := by decide +kernel
theorem dX0_smoothLevels_8 : decode cX0_smoothLevels 8 = .ok (.istore_n 2, 1) := by decide +kernel
theorem dX0_smoothLevels_9 : decode cX0_smoothLevels 9 = .ok (.aload_n 0, 1) := by decide +kernel
theorem dX0_smoothLevels_10 : decode cX0_smoothLevels 10 = .ok (.getfield 18, 3) := by decide +kernel
theorem dX0_smoothLevels_13 : decode cX0_smoothLevels 13 = .ok (.getfield 96, 3) := by decide +kernel
theorem dX0_smoothLevels_16 : decode cX0_smoothLevels 16 = .ok (.iconst 2, 1) := by decide +kernel
theorem dX0_smoothLevels_17 : decode cX0_smoothLevels 17 = .ok (.iaload, 1) := by decide +kernel
theorem dX0_smoothLevels_18 : decode cX0_smoothLevels 18 = .ok (.istore_n 3, 1) := by decide +kernel
theorem dX0_smoothLevels_19 : decode cX0_smoothLevels 19 = .ok (.iconst 1, 1) := by decide +kernel
theorem dX0_smoothLevels_20 : decode cX0_smoothLevels 20 = .ok (.iload_n 3, 1) := by decide +kernel
theorem dX0_smoothLevels_21 : decode cX0_smoothLevels 21 = .ok (.ishl, 1) := by decide +kernel
theorem dX0_smoothLevels_22 : decode cX0_smoothLevels 22 = .ok (.iconst 1, 1) := by decide +kernel
theorem dX0_smoothLevels_23 : decode cX0_smoothLevels 23 = .ok (.isub, 1) := by decide +kernel
theorem dX0_smoothLevels_24 : decode cX0_smoothLevels 24 = .ok (.istore 4, 2) := by decide +kernel
theorem dX0_smoothLevels_26 : decode cX0_smoothLevels 26 = .ok (.iconst 0, 1) := by decide +kernel
theorem dX0_smoothLevels_27 : decode cX0_smoothLevels 27 = .ok (.istore 5, 2) := by decide +kernel
theorem dX0_smoothLevels_29 : decode cX0_smoothLevels 29 = .ok (.iload 5, 2) := by decide +kernel
theorem dX0_smoothLevels_31 : decode cX0_smoothLevels 31 = .ok (.aload_n 0, 1) := by decide +kernel
theorem dX0_smoothLevels_32 : decode cX0_smoothLevels 32 = .ok (.getfield 18, 3) := by decide +kernel
theorem dX0_smoothLevels_35 : decode cX0_smoothLevels 35 = .ok (.getfield 108, 3) := by decide +kernel
theorem dX0_smoothLevels_38 : decode cX0_smoothLevels 38 = .ok (.if_icmp .ge 59, 3) := by decide +kernel
theorem dX0_smoothLevels_41 : decode cX0_smoothLevels 41 = .ok (.iload 5, 2) := by decide +kernel
theorem dX0_smoothLevels_43 : decode cX0_smoothLevels 43 = .ok (.iconst 4, 1) := by decide +kernel
theorem dX0_smoothLevels_44 : decode cX0_smoothLevels 44 = .ok (.if_icmp .ge 53, 3) := by decide +kernel
theorem dX0_smoothLevels_47 : decode cX0_smoothLevels 47 = .ok (.iload_n 1, 1) := by decide +kernel
theorem dX0_smoothLevels_48 : decode cX0_smoothLevels 48 = .ok (.iconst 4, 1) := by decide +kernel
theorem dX0_smoothLevels_49 : decode cX0_smoothLevels 49 = .ok (.imul, 1) := by decide +kernel
theorem dX0_smoothLevels_50 : decode cX0_smoothLevels 50 = .ok (.iload 5, 2) := by decide +kernel
theorem dX0_smoothLevels_52 : decode cX0_smoothLevels 52 = .ok (.iadd, 1) := by decide +kernel
theorem dX0_smoothLevels_53 : decode cX0_smoothLevels 53 = .ok (.istore 6, 2) := by decide +kernel
theorem dX0_smoothLevels_55 : decode cX0_smoothLevels 55 = .ok (.aload_n 0, 1) := by decide +kernel
theorem dX0_smoothLevels_56 : decode cX0_smoothLevels 56 = .ok (.getfield 22, 3) := by decide +kernel
theorem dX0_smoothLevels_59 : decode cX0_smoothLevels 59 = .ok (.getfield 111, 3) := by decide +kernel
theorem dX0_smoothLevels_62 : decode cX0_smoothLevels 62 = .ok (.iload 6, 2) := by decide +kernel
theorem dX0_smoothLevels_64 : decode cX0_smoothLevels 64 = .ok (.aload_n 0, 1) := by decide +kernel
theorem dX0_smoothLevels_65 : decode cX0_smoothLevels 65 = .ok (.getfield 22, 3) := by decide +kernel
theorem dX0_smoothLevels_68 : decode cX0_smoothLevels 68 = .ok (.getfield 111, 3) := by decide +kernel
theorem dX0_smoothLevels_71 : decode cX0_smoothLevels 71 = .ok (.iload 6, 2) := by decide +kernel
theorem dX0_smoothLevels_73 : decode cX0_smoothLevels 73 = .ok (.iaload, 1) := by decide +kernel
theorem dX0_smoothLevels_74 : decode cX0_smoothLevels 74 = .ok (.iload 4, 2) := by decide +kernel
theorem dX0_smoothLevels_76 : decode cX0_smoothLevels 76 = .ok (.imul, 1) := by decide +kernel
theorem dX0_smoothLevels_77 : decode cX0_smoothLevels 77 = .ok (.bipush 64, 2) := by decide +kernel
theorem dX0_smoothLevels_79 : decode cX0_smoothLevels 79 = .ok (.aload_n 0, 1) := by decide +kernel
theorem dX0_smoothLevels_80 : decode cX0_smoothLevels 80 = .ok (.getfield 9, 3) := by decide +kernel
theorem dX0_smoothLevels_83 : decode cX0_smoothLevels 83 = .ok (.iload 5, 2) := by decide +kernel
theorem dX0_smoothLevels_85 : decode cX0_smoothLevels 85 = .ok (.iaload, 1) := by decide +kernel
theorem dX0_smoothLevels_86 : decode cX0_smoothLevels 86 = .ok (.imul, 1) := by decide +kernel
theorem dX0_smoothLevels_87 : decode cX0_smoothLevels 87 = .ok (.iadd, 1) := by decide +kernel
theorem dX0_smoothLevels_88 : decode cX0_smoothLevels 88 = .ok (.iload_n 3, 1) := by decide +kernel
theorem dX0_smoothLevels_89 : decode cX0_smoothLevels 89 = .ok (.ishr, 1) := by decide +kernel
theorem dX0_smoothLevels_90 : decode cX0_smoothLevels 90 = .ok (.iastore, 1) := by decide +kernel
theorem dX0_smoothLevels_91 : decode cX0_smoothLevels 91 = .ok (.iinc 5 1, 3) := by decide +kernel
theorem dX0_smoothLevels_94 : decode cX0_smoothLevels 94 = .ok (.goto (-65), 3) := by decide +kernel
theorem dX0_smoothLevels_97 : decode cX0_smoothLevels 97 = .ok (.aload_n 0, 1) := by decide +kernel
theorem dX0_smoothLevels_98 : decode cX0_smoothLevels 98 = .ok (.getfield 22, 3) := by decide +kernel
theorem dX0_smoothLevels_101 : decode cX0_smoothLevels 101 = .ok (.getfield 114, 3) := by decide +kernel
theorem dX0_smoothLevels_104 : decode cX0_smoothLevels 104 = .ok (.iload_n 1, 1) := by decide +kernel
theorem dX0_smoothLevels_105 : decode cX0_smoothLevels 105 = .ok (.iload_n 2, 1) := by decide +kernel
theorem dX0_smoothLevels_106 : decode cX0_smoothLevels 106 = .ok (.aload_n 0, 1) := by decide +kernel
theorem dX0_smoothLevels_107 : decode cX0_smoothLevels 107 = .ok (.getfield 22, 3) := by decide +kernel
theorem dX0_smoothLevels_110 : decode cX0_smoothLevels 110 = .ok (.iload_n 1, 1) := by decide +kernel
theorem dX0_smoothLevels_111 : decode cX0_smoothLevels 111 = .ok (.invokevirtual 93, 3) := by decide +kernel
theorem dX0_smoothLevels_114 : decode cX0_smoothLevels 114 = .ok (.isub, 1) := by decide +kernel
theorem dX0_smoothLevels_115 : decode cX0_smoothLevels 115 = .ok (.iastore, 1) := by decide +kernel
theorem dX0_smoothLevels_116 : decode cX0_smoothLevels 116 = .ok (.return_, 1) := by decide +kernel
theorem dX0_countStreaks_0 : decode cX0_countStreaks 0 = .ok (.aload_n 0, 1) := by decide +kernel
theorem dX0_countStreaks_1 : decode cX0_countStreaks 1 = .ok (.getfield 22, 3) := by decide +kernel
theorem dX0_countStreaks_4 : decode cX0_countStreaks 4 = .ok (.iload_n 1, 1) := by decide +kernel
theorem dX0_countStreaks_5 : decode cX0_countStreaks 5 = .ok (.invokevirtual 93, 3) := by decide +kernel
theorem dX0_countStreaks_8 : decode cX0_countStreaks 8 = .ok (.bipush 64, 2) := by decide +kernel
theorem dX0_countStreaks_10 : decode cX0_countStreaks 10 = .ok (.aload_n 0, 1) := by decide +kernel
theorem dX0_countStreaks_11 : decode cX0_countStreaks 11 = .ok (.getfield 18, 3) := by decide +kernel
theorem dX0_countStreaks_14 : decode cX0_countStreaks 14 = .ok (.getfield 96, 3) := by decide +kernel
theorem dX0_countStreaks_17 : decode cX0_countStreaks 17 = .ok (.iconst 0, 1) := by decide +kernel
theorem dX0_countStreaks_18 : decode cX0_countStreaks 18 = .ok (.iaload, 1) := by decide +kernel
theorem dX0_countStreaks_19 : decode cX0_countStreaks 19 = .ok (.imul, 1) := by decide +kernel
theorem dX0_countStreaks_20 : decode cX0_countStreaks 20 = .ok (.iadd, 1) := by decide +kernel
theorem dX0_countStreaks_21 : decode cX0_countStreaks 21 = .ok (.istore_n 2, 1) := by decide +kernel
theorem dX0_countStreaks_22 : decode cX0_countStreaks 22 = .ok (.iconst 0, 1) := by decide +kernel
theorem dX0_countStreaks_23 : decode cX0_countStreaks 23 = .ok (.istore_n 3, 1) := by decide +kernel
theorem dX0_countStreaks_24 : decode cX0_countStreaks 24 = .ok (.iload_n 3, 1) := by decide +kernel
theorem dX0_countStreaks_25 : decode cX0_countStreaks 25 = .ok (.aload_n 0, 1) := by decide +kernel
theorem dX0_countStreaks_26 : decode cX0_countStreaks 26 = .ok (.getfield 18, 3) := by decide +kernel
theorem dX0_countStreaks_29 : decode cX0_countStreaks 29 = .ok (.getfield 108, 3) := by decide +kernel
theorem dX0_countStreaks_32 : decode cX0_countStreaks 32 = .ok (.if_icmp .ge 86, 3) := by decide +kernel
theorem dX0_countStreaks_35 : decode cX0_countStreaks 35 = .ok (.iload_n 3, 1) := by decide +kernel
theorem dX0_countStreaks_36 : decode cX0_countStreaks 36 = .ok (.iconst 4, 1) := by decide +kernel
theorem dX0_countStreaks_37 : decode cX0_countStreaks 37 = .ok (.if_icmp .ge 81, 3) := by decide +kernel
theorem dX0_countStreaks_40 : decode cX0_countStreaks 40 = .ok (.iload_n 1, 1) := by decide +kernel
theorem dX0_countStreaks_41 : decode cX0_countStreaks 41 = .ok (.iconst 4, 1) := by decide +kernel
theorem dX0_countStreaks_42 : decode cX0_countStreaks 42 = .ok (.imul, 1) := by decide +kernel
theorem dX0_countStreaks_43 : decode cX0_countStreaks 43 = .ok (.iload_n 3, 1) := by decide +kernel
theorem dX0_countStreaks_44 : decode cX0_countStreaks 44 = .ok (.iadd, 1) := by decide +kernel
theorem dX0_countStreaks_45 : decode cX0_countStreaks 45 = .ok (.istore 4, 2) := by decide +kernel
theorem dX0_countStreaks_47 : decode cX0_countStreaks 47 = .ok (.iload_n 3, 1) := by decide +kernel
theorem dX0_countStreaks_48 : decode cX0_countStreaks 48 = .ok (.aload_n 0, 1) := by decide +kernel
theorem dX0_countStreaks_49 : decode cX0_countStreaks 49 = .ok (.getfield 22, 3) := by decide +kernel
theorem dX0_countStreaks_52 : decode cX0_countStreaks 52 = .ok (.getfield 99, 3) := by decide +kernel
theorem dX0_countStreaks_55 : decode cX0_countStreaks 55 = .ok (.iload_n 1, 1) := by decide +kernel
theorem dX0_countStreaks_56 : decode cX0_countStreaks 56 = .ok (.iaload, 1) := by decide +kernel
theorem dX0_countStreaks_57 : decode cX0_countStreaks 57 = .ok (.if_icmp .eq 21, 3) := by decide +kernel
theorem dX0_countStreaks_60 : decode cX0_countStreaks 60 = .ok (.aload_n 0, 1) := by decide +kernel
theorem dX0_countStreaks_61 : decode cX0_countStreaks 61 = .ok (.getfield 22, 3) := by decide +kernel
theorem dX0_countStreaks_64 : decode cX0_countStreaks 64 = .ok (.getfield 111, 3) := by decide +kernel
theorem dX0_countStreaks_67 : decode cX0_countStreaks 67 = .ok (.iload 4, 2) := by decide +kernel
theorem dX0_countStreaks_69 : decode cX0_countStreaks 69 = .ok (.iaload, 1) := by decide +kernel
theorem dX0_countStreaks_70 : decode cX0_countStreaks 70 = .ok (.iload_n 2, 1) := by decide +kernel
theorem dX0_countStreaks_71 : decode cX0_countStreaks 71 = .ok (.if_icmp .lt 7, 3) := by decide +kernel
theorem dX0_countStreaks_74 : decode cX0_countStreaks 74 = .ok (.iconst 1, 1) := by decide +kernel
theorem dX0_countStreaks_75 : decode cX0_countStreaks 75 = .ok (.goto 4, 3) := by decide +kernel
theorem dX0_countStreaks_78 : decode cX0_countStreaks 78 = .ok (.iconst 0, 1) := by decide +kernel
theorem dX0_countStreaks_79 : decode cX0_countStreaks 79 = .ok (.istore 5, 2) := by decide +kernel
theorem dX0_countStreaks_81 : decode cX0_countStreaks 81 = .ok (.aload_n 0, 1) := by decide +kernel
theorem dX0_countStreaks_82 : decode cX0_countStreaks 82 = .ok (.getfield 22, 3) := by decide +kernel
theorem dX0_countStreaks_85 : decode cX0_countStreaks 85 = .ok (.getfield 117, 3) := by decide +kernel
theorem dX0_countStreaks_88 : decode cX0_countStreaks 88 = .ok (.iload 4, 2) := by decide +kernel
theorem dX0_countStreaks_90 : decode cX0_countStreaks 90 = .ok (.iload 5, 2) := by decide +kernel
theorem dX0_countStreaks_92 : decode cX0_countStreaks 92 = .ok (.ifCond .eq 18, 3) := by decide +kernel
theorem dX0_countStreaks_95 : decode cX0_countStreaks 95 = .ok (.aload_n 0, 1) := by decide +kernel
theorem dX0_countStreaks_96 : decode cX0_countStreaks 96 = .ok (.getfield 22, 3) := by decide +kernel
theorem dX0_countStreaks_99 : decode cX0_countStreaks 99 = .ok (.getfield 117, 3) := by decide +kernel
theorem dX0_countStreaks_102 : decode cX0_countStreaks 102 = .ok (.iload 4, 2) := by decide +kernel
theorem dX0_countStreaks_104 : decode cX0_countStreaks 104 = .ok (.iaload, 1) := by decide +kernel
theorem dX0_countStreaks_105 : decode cX0_countStreaks 105 = .ok (.iconst 1, 1) := by decide +kernel
theorem dX0_countStreaks_106 : decode cX0_countStreaks 106 = .ok (.iadd, 1) := by decide +kernel
theorem dX0_countStreaks_107 : decode cX0_countStreaks 107 = .ok (.goto 4, 3) := by decide +kernel
theorem dX0_countStreaks_110 : decode cX0_countStreaks 110 = .ok (.iconst 0, 1) := by decide +kernel
theorem dX0_countStreaks_111 : decode cX0_countStreaks 111 = .ok (.iastore, 1) := by decide +kernel
theorem dX0_countStreaks_112 : decode cX0_countStreaks 112 = .ok (.iinc 3 1, 3) := by decide +kernel
theorem dX0_countStreaks_115 : decode cX0_countStreaks 115 = .ok (.goto (-91), 3) := by decide +kernel
theorem dX0_countStreaks_118 : decode cX0_countStreaks 118 = .ok (.return_, 1) := by decide +kernel
theorem dX0_targetOf_0 : decode cX0_targetOf 0 = .ok (.bipush (-9), 2) := by decide +kernel
theorem dX0_targetOf_2 : decode cX0_targetOf 2 = .ok (.istore_n 2, 1) := by decide +kernel
theorem dX0_targetOf_3 : decode cX0_targetOf 3 = .ok (.iconst (-1), 1) := by decide +kernel
theorem dX0_targetOf_4 : decode cX0_targetOf 4 = .ok (.istore_n 3, 1) := by decide +kernel
theorem dX0_targetOf_5 : decode cX0_targetOf 5 = .ok (.iconst 0, 1) := by decide +kernel
theorem dX0_targetOf_6 : decode cX0_targetOf 6 = .ok (.istore 4, 2) := by decide +kernel
theorem dX0_targetOf_8 : decode cX0_targetOf 8 = .ok (.iload 4, 2) := by decide +kernel
theorem dX0_targetOf_10 : decode cX0_targetOf 10 = .ok (.aload_n 0, 1) := by decide +kernel
theorem dX0_targetOf_11 : decode cX0_targetOf 11 = .ok (.getfield 18, 3) := by decide +kernel
theorem dX0_targetOf_14 : decode cX0_targetOf 14 = .ok (.getfield 108, 3) := by decide +kernel
theorem dX0_targetOf_17 : decode cX0_targetOf 17 = .ok (.if_icmp .ge 73, 3) := by decide +kernel
theorem dX0_targetOf_20 : decode cX0_targetOf 20 = .ok (.iload 4, 2) := by decide +kernel
theorem dX0_targetOf_22 : decode cX0_targetOf 22 = .ok (.iconst 4, 1) := by decide +kernel
theorem dX0_targetOf_23 : decode cX0_targetOf 23 = .ok (.if_icmp .ge 67, 3) := by decide +kernel
theorem dX0_targetOf_26 : decode cX0_targetOf 26 = .ok (.iload_n 1, 1) := by decide +kernel
theorem dX0_targetOf_27 : decode cX0_targetOf 27 = .ok (.iconst 4, 1) := by decide +kernel
theorem dX0_targetOf_28 : decode cX0_targetOf 28 = .ok (.imul, 1) := by decide +kernel
theorem dX0_targetOf_29 : decode cX0_targetOf 29 = .ok (.iload 4, 2) := by decide +kernel
theorem dX0_targetOf_31 : decode cX0_targetOf 31 = .ok (.iadd, 1) := by decide +kernel
theorem dX0_targetOf_32 : decode cX0_targetOf 32 = .ok (.istore 5, 2) := by decide +kernel
theorem dX0_targetOf_34 : decode cX0_targetOf 34 = .ok (.aload_n 0, 1) := by decide +kernel
theorem dX0_targetOf_35 : decode cX0_targetOf 35 = .ok (.getfield 22, 3) := by decide +kernel
theorem dX0_targetOf_38 : decode cX0_targetOf 38 = .ok (.getfield 117, 3) := by decide +kernel
theorem dX0_targetOf_41 : decode cX0_targetOf 41 = .ok (.iload 5, 2) := by decide +kernel
theorem dX0_targetOf_43 : decode cX0_targetOf 43 = .ok (.iaload, 1) := by decide +kernel
theorem dX0_targetOf_44 : decode cX0_targetOf 44 = .ok (.aload_n 0, 1) := by decide +kernel
theorem dX0_targetOf_45 : decode cX0_targetOf 45 = .ok (.getfield 18, 3) := by decide +kernel
theorem dX0_targetOf_48 : decode cX0_targetOf 48 = .ok (.getfield 96, 3) := by decide +kernel
theorem dX0_targetOf_51 : decode cX0_targetOf 51 = .ok (.iconst 1, 1) := by decide +kernel
theorem dX0_targetOf_52 : decode cX0_targetOf 52 = .ok (.iaload, 1) := by decide +kernel
theorem dX0_targetOf_53 : decode cX0_targetOf 53 = .ok (.if_icmp .lt 31, 3) := by decide +kernel
theorem dX0_targetOf_56 : decode cX0_targetOf 56 = .ok (.aload_n 0, 1) := by decide +kernel
theorem dX0_targetOf_57 : decode cX0_targetOf 57 = .ok (.getfield 22, 3) := by decide +kernel
theorem dX0_targetOf_60 : decode cX0_targetOf 60 = .ok (.getfield 111, 3) := by decide +kernel
theorem dX0_targetOf_63 : decode cX0_targetOf 63 = .ok (.iload 5, 2) := by decide +kernel
theorem dX0_targetOf_65 : decode cX0_targetOf 65 = .ok (.iaload, 1) := by decide +kernel
theorem dX0_targetOf_66 : decode cX0_targetOf 66 = .ok (.iload_n 3, 1) := by decide +kernel
theorem dX0_targetOf_67 : decode cX0_targetOf 67 = .ok (.if_icmp .le 17, 3) := by decide +kernel
theorem dX0_targetOf_70 : decode cX0_targetOf 70 = .ok (.iload 4, 2) := by decide +kernel
theorem dX0_targetOf_72 : decode cX0_targetOf 72 = .ok (.istore_n 2, 1) := by decide +kernel
theorem dX0_targetOf_73 : decode cX0_targetOf 73 = .ok (.aload_n 0, 1) := by decide +kernel
theorem dX0_targetOf_74 : decode cX0_targetOf 74 = .ok (.getfield 22, 3) := by decide +kernel
theorem dX0_targetOf_77 : decode cX0_targetOf 77 = .ok (.getfield 111, 3) := by decide +kernel
theorem dX0_targetOf_80 : decode cX0_targetOf 80 = .ok (.iload 5, 2) := by decide +kernel
theorem dX0_targetOf_82 : decode cX0_targetOf 82 = .ok (.iaload, 1) := by decide +kernel
theorem dX0_targetOf_83 : decode cX0_targetOf 83 = .ok (.istore_n 3, 1) := by decide +kernel
theorem dX0_targetOf_84 : decode cX0_targetOf 84 = .ok (.iinc 4 1, 3) := by decide +kernel
theorem dX0_targetOf_87 : decode cX0_targetOf 87 = .ok (.goto (-79), 3) := by decide +kernel
theorem dX0_targetOf_90 : decode cX0_targetOf 90 = .ok (.iload_n 2, 1) := by decide +kernel
theorem dX0_targetOf_91 : decode cX0_targetOf 91 = .ok (.ireturn, 1) := by decide +kernel
theorem dX0_follow_0 : decode cX0_follow 0 = .ok (.aload_n 0, 1) := by decide +kernel
theorem dX0_follow_1 : decode cX0_follow 1 = .ok (.getfield 22, 3) := by decide +kernel
theorem dX0_follow_4 : decode cX0_follow 4 = .ok (.getfield 120, 3) := by decide +kernel
theorem dX0_follow_7 : decode cX0_follow 7 = .ok (.iload_n 1, 1) := by decide +kernel
theorem dX0_follow_8 : decode cX0_follow 8 = .ok (.iaload, 1) := by decide +kernel
theorem dX0_follow_9 : decode cX0_follow 9 = .ok (.iload_n 2, 1) := by decide +kernel
theorem dX0_follow_10 : decode cX0_follow 10 = .ok (.if_icmp .eq 14, 3) := by decide +kernel
theorem dX0_follow_13 : decode cX0_follow 13 = .ok (.aload_n 0, 1) := by decide +kernel
theorem dX0_follow_14 : decode cX0_follow 14 = .ok (.getfield 22, 3) := by decide +kernel
theorem dX0_follow_17 : decode cX0_follow 17 = .ok (.getfield 120, 3) := by decide +kernel
theorem dX0_follow_20 : decode cX0_follow 20 = .ok (.iload_n 1, 1) := by decide +kernel
theorem dX0_follow_21 : decode cX0_follow 21 = .ok (.bipush (-9), 2) := by decide +kernel
theorem dX0_follow_23 : decode cX0_follow 23 = .ok (.iastore, 1) := by decide +kernel
theorem dX0_follow_24 : decode cX0_follow 24 = .ok (.iload_n 2, 1) := by decide +kernel
theorem dX0_follow_25 : decode cX0_follow 25 = .ok (.bipush (-9), 2) := by decide +kernel
theorem dX0_follow_27 : decode cX0_follow 27 = .ok (.if_icmp .ne 5, 3) := by decide +kernel
theorem dX0_follow_30 : decode cX0_follow 30 = .ok (.iconst 0, 1) := by decide +kernel
theorem dX0_follow_31 : decode cX0_follow 31 = .ok (.ireturn, 1) := by decide +kernel
theorem dX0_follow_32 : decode cX0_follow 32 = .ok (.aload_n 0, 1) := by decide +kernel
theorem dX0_follow_33 : decode cX0_follow 33 = .ok (.getfield 22, 3) := by decide +kernel
theorem dX0_follow_36 : decode cX0_follow 36 = .ok (.getfield 120, 3) := by decide +kernel
theorem dX0_follow_39 : decode cX0_follow 39 = .ok (.iload_n 1, 1) := by decide +kernel
theorem dX0_follow_40 : decode cX0_follow 40 = .ok (.iaload, 1) := by decide +kernel
theorem dX0_follow_41 : decode cX0_follow 41 = .ok (.iload_n 2, 1) := by decide +kernel
theorem dX0_follow_42 : decode cX0_follow 42 = .ok (.if_icmp .ne 7, 3) := by decide +kernel
theorem dX0_follow_45 : decode cX0_follow 45 = .ok (.iconst 2, 1) := by decide +kernel
theorem dX0_follow_46 : decode cX0_follow 46 = .ok (.goto 9, 3) := by decide +kernel
theorem dX0_follow_49 : decode cX0_follow 49 = .ok (.aload_n 0, 1) := by decide +kernel
theorem dX0_follow_50 : decode cX0_follow 50 = .ok (.iload_n 1, 1) := by decide +kernel
theorem dX0_follow_51 : decode cX0_follow 51 = .ok (.iload_n 2, 1) := by decide +kernel
theorem dX0_follow_52 : decode cX0_follow 52 = .ok (.invokevirtual 123, 3) := by decide +kernel
theorem dX0_follow_55 : decode cX0_follow 55 = .ok (.ireturn, 1) := by decide +kernel
theorem dX0_ask_0 : decode cX0_ask 0 = .ok (.aload_n 0, 1) := by decide +kernel
theorem dX0_ask_1 : decode cX0_ask 1 = .ok (.getfield 22, 3) := by decide +kernel
theorem dX0_ask_4 : decode cX0_ask 4 = .ok (.iload_n 2, 1) := by decide +kernel
theorem dX0_ask_5 : decode cX0_ask 5 = .ok (.iconst 2, 1) := by decide +kernel
theorem dX0_ask_6 : decode cX0_ask 6 = .ok (.invokevirtual 47, 3) := by decide +kernel
theorem dX0_ask_9 : decode cX0_ask 9 = .ok (.aload_n 0, 1) := by decide +kernel
theorem dX0_ask_10 : decode cX0_ask 10 = .ok (.iload_n 2, 1) := by decide +kernel
theorem dX0_ask_11 : decode cX0_ask 11 = .ok (.invokevirtual 37, 3) := by decide +kernel
theorem dX0_ask_14 : decode cX0_ask 14 = .ok (.ifCond .le 11, 3) := by decide +kernel
theorem dX0_ask_17 : decode cX0_ask 17 = .ok (.aload_n 0, 1) := by decide +kernel
theorem dX0_ask_18 : decode cX0_ask 18 = .ok (.iload_n 1, 1) := by decide +kernel
theorem dX0_ask_19 : decode cX0_ask 19 = .ok (.iload_n 2, 1) := by decide +kernel
theorem dX0_ask_20 : decode cX0_ask 20 = .ok (.invokevirtual 126, 3) := by decide +kernel
theorem dX0_ask_23 : decode cX0_ask 23 = .ok (.iconst 1, 1) := by decide +kernel
theorem dX0_ask_24 : decode cX0_ask 24 = .ok (.ireturn, 1) := by decide +kernel
theorem dX0_ask_25 : decode cX0_ask 25 = .ok (.aload_n 0, 1) := by decide +kernel
theorem dX0_ask_26 : decode cX0_ask 26 = .ok (.getfield 22, 3) := by decide +kernel
theorem dX0_ask_29 : decode cX0_ask 29 = .ok (.iload_n 2, 1) := by decide +kernel
theorem dX0_ask_30 : decode cX0_ask 30 = .ok (.invokevirtual 129, 3) := by decide +kernel
theorem dX0_ask_33 : decode cX0_ask 33 = .ok (.aload_n 0, 1) := by decide +kernel
theorem dX0_ask_34 : decode cX0_ask 34 = .ok (.getfield 18, 3) := by decide +kernel
theorem dX0_ask_37 : decode cX0_ask 37 = .ok (.getfield 132, 3) := by decide +kernel
theorem dX0_ask_40 : decode cX0_ask 40 = .ok (.iload_n 2, 1) := by decide +kernel
theorem dX0_ask_41 : decode cX0_ask 41 = .ok (.iaload, 1) := by decide +kernel
theorem dX0_ask_42 : decode cX0_ask 42 = .ok (.if_icmp .ge 14, 3) := by decide +kernel
theorem dX0_ask_45 : decode cX0_ask 45 = .ok (.aload_n 0, 1) := by decide +kernel
theorem dX0_ask_46 : decode cX0_ask 46 = .ok (.getfield 22, 3) := by decide +kernel
theorem dX0_ask_49 : decode cX0_ask 49 = .ok (.iload_n 1, 1) := by decide +kernel
theorem dX0_ask_50 : decode cX0_ask 50 = .ok (.iload_n 2, 1) := by decide +kernel
theorem dX0_ask_51 : decode cX0_ask 51 = .ok (.invokevirtual 135, 3) := by decide +kernel
theorem dX0_ask_54 : decode cX0_ask 54 = .ok (.iconst 2, 1) := by decide +kernel
theorem dX0_ask_55 : decode cX0_ask 55 = .ok (.ireturn, 1) := by decide +kernel
theorem dX0_ask_56 : decode cX0_ask 56 = .ok (.aload_n 0, 1) := by decide +kernel
theorem dX0_ask_57 : decode cX0_ask 57 = .ok (.getfield 22, 3) := by decide +kernel
theorem dX0_ask_60 : decode cX0_ask 60 = .ok (.iload_n 2, 1) := by decide +kernel
theorem dX0_ask_61 : decode cX0_ask 61 = .ok (.iconst 3, 1) := by decide +kernel
theorem dX0_ask_62 : decode cX0_ask 62 = .ok (.invokevirtual 47, 3) := by decide +kernel
theorem dX0_ask_65 : decode cX0_ask 65 = .ok (.iconst 3, 1) := by decide +kernel
theorem dX0_ask_66 : decode cX0_ask 66 = .ok (.ireturn, 1) := by decide +kernel
theorem dX0_end_0 : decode cX0_end 0 = .ok (.aload_n 0, 1) := by decide +kernel
theorem dX0_end_1 : decode cX0_end 1 = .ok (.iload_n 1, 1) := by decide +kernel
theorem dX0_end_2 : decode cX0_end 2 = .ok (.invokevirtual 102, 3) := by decide +kernel
theorem dX0_end_5 : decode cX0_end 5 = .ok (.aload_n 0, 1) := by decide +kernel
theorem dX0_end_6 : decode cX0_end 6 = .ok (.invokevirtual 105, 3) := by decide +kernel
theorem dX0_end_9 : decode cX0_end 9 = .ok (.ireturn, 1) := by decide +kernel
theorem dX0_vanish_0 : decode cX0_vanish 0 = .ok (.aload_n 0, 1) := by decide +kernel
theorem dX0_vanish_1 : decode cX0_vanish 1 = .ok (.getfield 22, 3) := by decide +kernel
theorem dX0_vanish_4 : decode cX0_vanish 4 = .ok (.getfield 99, 3) := by decide +kernel
theorem dX0_vanish_7 : decode cX0_vanish 7 = .ok (.iload_n 1, 1) := by decide +kernel
theorem dX0_vanish_8 : decode cX0_vanish 8 = .ok (.iaload, 1) := by decide +kernel
theorem dX0_vanish_9 : decode cX0_vanish 9 = .ok (.istore_n 2, 1) := by decide +kernel
theorem dX0_vanish_10 : decode cX0_vanish 10 = .ok (.aload_n 0, 1) := by decide +kernel
theorem dX0_vanish_11 : decode cX0_vanish 11 = .ok (.getfield 22, 3) := by decide +kernel
theorem dX0_vanish_14 : decode cX0_vanish 14 = .ok (.getfield 99, 3) := by decide +kernel
theorem dX0_vanish_17 : decode cX0_vanish 17 = .ok (.iload_n 1, 1) := by decide +kernel
theorem dX0_vanish_18 : decode cX0_vanish 18 = .ok (.bipush (-9), 2) := by decide +kernel
theorem dX0_vanish_20 : decode cX0_vanish 20 = .ok (.iastore, 1) := by decide +kernel
theorem dX0_vanish_21 : decode cX0_vanish 21 = .ok (.aload_n 0, 1) := by decide +kernel
theorem dX0_vanish_22 : decode cX0_vanish 22 = .ok (.getfield 22, 3) := by decide +kernel
theorem dX0_vanish_25 : decode cX0_vanish 25 = .ok (.getfield 120, 3) := by decide +kernel
theorem dX0_vanish_28 : decode cX0_vanish 28 = .ok (.iload_n 1, 1) := by decide +kernel
theorem dX0_vanish_29 : decode cX0_vanish 29 = .ok (.bipush (-9), 2) := by decide +kernel
theorem dX0_vanish_31 : decode cX0_vanish 31 = .ok (.iastore, 1) := by decide +kernel
theorem dX0_vanish_32 : decode cX0_vanish 32 = .ok (.aload_n 0, 1) := by decide +kernel
theorem dX0_vanish_33 : decode cX0_vanish 33 = .ok (.iload_n 2, 1) := by decide +kernel
theorem dX0_vanish_34 : decode cX0_vanish 34 = .ok (.invokevirtual 138, 3) := by decide +kernel
theorem dX0_vanish_37 : decode cX0_vanish 37 = .ok (.return_, 1) := by decide +kernel
theorem dX0_move_0 : decode cX0_move 0 = .ok (.aload_n 0, 1) := by decide +kernel
theorem dX0_move_1 : decode cX0_move 1 = .ok (.getfield 22, 3) := by decide +kernel
theorem dX0_move_4 : decode cX0_move 4 = .ok (.getfield 99, 3) := by decide +kernel
theorem dX0_move_7 : decode cX0_move 7 = .ok (.iload_n 1, 1) := by decide +kernel
theorem dX0_move_8 : decode cX0_move 8 = .ok (.iaload, 1) := by decide +kernel
theorem dX0_move_9 : decode cX0_move 9 = .ok (.istore_n 3, 1) := by decide +kernel
theorem dX0_move_10 : decode cX0_move 10 = .ok (.aload_n 0, 1) := by decide +kernel
theorem dX0_move_11 : decode cX0_move 11 = .ok (.getfield 22, 3) := by decide +kernel
theorem dX0_move_14 : decode cX0_move 14 = .ok (.getfield 77, 3) := by decide +kernel
theorem dX0_move_17 : decode cX0_move 17 = .ok (.iload_n 1, 1) := by decide +kernel
theorem dX0_move_18 : decode cX0_move 18 = .ok (.iaload, 1) := by decide +kernel
theorem dX0_move_19 : decode cX0_move 19 = .ok (.aload_n 0, 1) := by decide +kernel
theorem dX0_move_20 : decode cX0_move 20 = .ok (.getfield 18, 3) := by decide +kernel
theorem dX0_move_23 : decode cX0_move 23 = .ok (.getfield 96, 3) := by decide +kernel
theorem dX0_move_26 : decode cX0_move 26 = .ok (.iconst 4, 1) := by decide +kernel
theorem dX0_move_27 : decode cX0_move 27 = .ok (.iaload, 1) := by decide +kernel
theorem dX0_move_28 : decode cX0_move 28 = .ok (.if_icmp .gt 7, 3) := by decide +kernel
theorem dX0_move_31 : decode cX0_move 31 = .ok (.iconst 1, 1) := by decide +kernel
theorem dX0_move_32 : decode cX0_move 32 = .ok (.goto 4, 3) := by decide +kernel
theorem dX0_move_35 : decode cX0_move 35 = .ok (.iconst 0, 1) := by decide +kernel
theorem dX0_move_36 : decode cX0_move 36 = .ok (.istore 4, 2) := by decide +kernel
theorem dX0_move_38 : decode cX0_move 38 = .ok (.aload_n 0, 1) := by decide +kernel
theorem dX0_move_39 : decode cX0_move 39 = .ok (.getfield 22, 3) := by decide +kernel
theorem dX0_move_42 : decode cX0_move 42 = .ok (.getfield 141, 3) := by decide +kernel
theorem dX0_move_45 : decode cX0_move 45 = .ok (.iload_n 1, 1) := by decide +kernel
theorem dX0_move_46 : decode cX0_move 46 = .ok (.iaload, 1) := by decide +kernel
theorem dX0_move_47 : decode cX0_move 47 = .ok (.iload_n 2, 1) := by decide +kernel
theorem dX0_move_48 : decode cX0_move 48 = .ok (.if_icmp .ne 21, 3) := by decide +kernel
theorem dX0_move_51 : decode cX0_move 51 = .ok (.iload 4, 2) := by decide +kernel
theorem dX0_move_53 : decode cX0_move 53 = .ok (.ifCond .eq 16, 3) := by decide +kernel
theorem dX0_move_56 : decode cX0_move 56 = .ok (.aload_n 0, 1) := by decide +kernel
theorem dX0_move_57 : decode cX0_move 57 = .ok (.getfield 22, 3) := by decide +kernel
theorem dX0_move_60 : decode cX0_move 60 = .ok (.getfield 144, 3) := by decide +kernel
theorem dX0_move_63 : decode cX0_move 63 = .ok (.iload_n 1, 1) := by decide +kernel
theorem dX0_move_64 : decode cX0_move 64 = .ok (.dup2, 1) := by decide +kernel
theorem dX0_move_65 : decode cX0_move 65 = .ok (.iaload, 1) := by decide +kernel
theorem dX0_move_66 : decode cX0_move 66 = .ok (.iconst 1, 1) := by decide +kernel
theorem dX0_move_67 : decode cX0_move 67 = .ok (.iadd, 1) := by decide +kernel
theorem dX0_move_68 : decode cX0_move 68 = .ok (.iastore, 1) := by decide +kernel
theorem dX0_move_69 : decode cX0_move 69 = .ok (.aload_n 0, 1) := by decide +kernel
theorem dX0_move_70 : decode cX0_move 70 = .ok (.getfield 22, 3) := by decide +kernel
theorem dX0_move_73 : decode cX0_move 73 = .ok (.getfield 99, 3) := by decide +kernel
theorem dX0_move_76 : decode cX0_move 76 = .ok (.iload_n 1, 1) := by decide +kernel
theorem dX0_move_77 : decode cX0_move 77 = .ok (.iload_n 2, 1) := by decide +kernel
theorem dX0_move_78 : decode cX0_move 78 = .ok (.iastore, 1) := by decide +kernel
theorem dX0_move_79 : decode cX0_move 79 = .ok (.aload_n 0, 1) := by decide +kernel
theorem dX0_move_80 : decode cX0_move 80 = .ok (.getfield 22, 3) := by decide +kernel
theorem dX0_move_83 : decode cX0_move 83 = .ok (.getfield 120, 3) := by decide +kernel
theorem dX0_move_86 : decode cX0_move 86 = .ok (.iload_n 1, 1) := by decide +kernel
theorem dX0_move_87 : decode cX0_move 87 = .ok (.bipush (-9), 2) := by decide +kernel
theorem dX0_move_89 : decode cX0_move 89 = .ok (.iastore, 1) := by decide +kernel
theorem dX0_move_90 : decode cX0_move 90 = .ok (.aload_n 0, 1) := by decide +kernel
theorem dX0_move_91 : decode cX0_move 91 = .ok (.getfield 22, 3) := by decide +kernel
theorem dX0_move_94 : decode cX0_move 94 = .ok (.getfield 141, 3) := by decide +kernel
theorem dX0_move_97 : decode cX0_move 97 = .ok (.iload_n 1, 1) := by decide +kernel
theorem dX0_move_98 : decode cX0_move 98 = .ok (.iload_n 3, 1) := by decide +kernel
theorem dX0_move_99 : decode cX0_move 99 = .ok (.iastore, 1) := by decide +kernel
theorem dX0_move_100 : decode cX0_move 100 = .ok (.aload_n 0, 1) := by decide +kernel
theorem dX0_move_101 : decode cX0_move 101 = .ok (.getfield 22, 3) := by decide +kernel
theorem dX0_move_104 : decode cX0_move 104 = .ok (.getfield 77, 3) := by decide +kernel
theorem dX0_move_107 : decode cX0_move 107 = .ok (.iload_n 1, 1) := by decide +kernel
theorem dX0_move_108 : decode cX0_move 108 = .ok (.iconst 0, 1) := by decide +kernel
theorem dX0_move_109 : decode cX0_move 109 = .ok (.iastore, 1) := by decide +kernel
theorem dX0_move_110 : decode cX0_move 110 = .ok (.aload_n 0, 1) := by decide +kernel
theorem dX0_move_111 : decode cX0_move 111 = .ok (.getfield 22, 3) := by decide +kernel
theorem dX0_move_114 : decode cX0_move 114 = .ok (.getfield 147, 3) := by decide +kernel
theorem dX0_move_117 : decode cX0_move 117 = .ok (.iload_n 1, 1) := by decide +kernel
theorem dX0_move_118 : decode cX0_move 118 = .ok (.dup2, 1) := by decide +kernel
theorem dX0_move_119 : decode cX0_move 119 = .ok (.iaload, 1) := by decide +kernel
theorem dX0_move_120 : decode cX0_move 120 = .ok (.iconst 1, 1) := by decide +kernel
theorem dX0_move_121 : decode cX0_move 121 = .ok (.iadd, 1) := by decide +kernel
theorem dX0_move_122 : decode cX0_move 122 = .ok (.iastore, 1) := by decide +kernel
theorem dX0_move_123 : decode cX0_move 123 = .ok (.aload_n 0, 1) := by decide +kernel
theorem dX0_move_124 : decode cX0_move 124 = .ok (.getfield 22, 3) := by decide +kernel
theorem dX0_move_127 : decode cX0_move 127 = .ok (.getfield 114, 3) := by decide +kernel
theorem dX0_move_130 : decode cX0_move 130 = .ok (.iload_n 1, 1) := by decide +kernel
theorem dX0_move_131 : decode cX0_move 131 = .ok (.iconst 0, 1) := by decide +kernel
theorem dX0_move_132 : decode cX0_move 132 = .ok (.iastore, 1) := by decide +kernel
theorem dX0_move_133 : decode cX0_move 133 = .ok (.aload_n 0, 1) := by decide +kernel
theorem dX0_move_134 : decode cX0_move 134 = .ok (.getfield 22, 3) := by decide +kernel
theorem dX0_move_137 : decode cX0_move 137 = .ok (.iload_n 1, 1) := by decide +kernel
theorem dX0_move_138 : decode cX0_move 138 = .ok (.invokevirtual 150, 3) := by decide +kernel
theorem dX0_move_141 : decode cX0_move 141 = .ok (.aload_n 0, 1) := by decide +kernel
theorem dX0_move_142 : decode cX0_move 142 = .ok (.getfield 22, 3) := by decide +kernel
theorem dX0_move_145 : decode cX0_move 145 = .ok (.iload_n 2, 1) := by decide +kernel
theorem dX0_move_146 : decode cX0_move 146 = .ok (.iconst 4, 1) := by decide +kernel
theorem dX0_move_147 : decode cX0_move 147 = .ok (.invokevirtual 47, 3) := by decide +kernel
theorem dX0_move_150 : decode cX0_move 150 = .ok (.aload_n 0, 1) := by decide +kernel
theorem dX0_move_151 : decode cX0_move 151 = .ok (.getfield 22, 3) := by decide +kernel
theorem dX0_move_154 : decode cX0_move 154 = .ok (.iload_n 3, 1) := by decide +kernel
theorem dX0_move_155 : decode cX0_move 155 = .ok (.iload_n 2, 1) := by decide +kernel
theorem dX0_move_156 : decode cX0_move 156 = .ok (.invokevirtual 153, 3) := by decide +kernel
theorem dX0_move_159 : decode cX0_move 159 = .ok (.aload_n 0, 1) := by decide +kernel
theorem dX0_move_160 : decode cX0_move 160 = .ok (.iload_n 3, 1) := by decide +kernel
theorem dX0_move_161 : decode cX0_move 161 = .ok (.invokevirtual 138, 3) := by decide +kernel
theorem dX0_move_164 : decode cX0_move 164 = .ok (.return_, 1) := by decide +kernel
theorem dX0_noteFreed_0 : decode cX0_noteFreed 0 = .ok (.aload_n 0, 1) := by decide +kernel
theorem dX0_noteFreed_1 : decode cX0_noteFreed 1 = .ok (.getfield 156, 3) := by decide +kernel
theorem dX0_noteFreed_4 : decode cX0_noteFreed 4 = .ok (.aload_n 0, 1) := by decide +kernel
theorem dX0_noteFreed_5 : decode cX0_noteFreed 5 = .ok (.getfield 15, 3) := by decide +kernel
theorem dX0_noteFreed_8 : decode cX0_noteFreed 8 = .ok (.arraylength, 1) := by decide +kernel
theorem dX0_noteFreed_9 : decode cX0_noteFreed 9 = .ok (.if_icmp .ge 23, 3) := by decide +kernel
theorem dX0_noteFreed_12 : decode cX0_noteFreed 12 = .ok (.aload_n 0, 1) := by decide +kernel
theorem dX0_noteFreed_13 : decode cX0_noteFreed 13 = .ok (.getfield 15, 3) := by decide +kernel
theorem dX0_noteFreed_16 : decode cX0_noteFreed 16 = .ok (.aload_n 0, 1) := by decide +kernel
theorem dX0_noteFreed_17 : decode cX0_noteFreed 17 = .ok (.getfield 156, 3) := by decide +kernel
theorem dX0_noteFreed_20 : decode cX0_noteFreed 20 = .ok (.iload_n 1, 1) := by decide +kernel
theorem dX0_noteFreed_21 : decode cX0_noteFreed 21 = .ok (.iastore, 1) := by decide +kernel
theorem dX0_noteFreed_22 : decode cX0_noteFreed 22 = .ok (.aload_n 0, 1) := by decide +kernel
theorem dX0_noteFreed_23 : decode cX0_noteFreed 23 = .ok (.dup, 1) := by decide +kernel
theorem dX0_noteFreed_24 : decode cX0_noteFreed 24 = .ok (.getfield 156, 3) := by decide +kernel
theorem dX0_noteFreed_27 : decode cX0_noteFreed 27 = .ok (.iconst 1, 1) := by decide +kernel
theorem dX0_noteFreed_28 : decode cX0_noteFreed 28 = .ok (.iadd, 1) := by decide +kernel
theorem dX0_noteFreed_29 : decode cX0_noteFreed 29 = .ok (.putfield 156, 3) := by decide +kernel
theorem dX0_noteFreed_32 : decode cX0_noteFreed 32 = .ok (.return_, 1) := by decide +kernel
theorem dX0_serveFreed_0 : decode cX0_serveFreed 0 = .ok (.iconst 0, 1) := by decide +kernel
theorem dX0_serveFreed_1 : decode cX0_serveFreed 1 = .ok (.istore_n 1, 1) := by decide +kernel
theorem dX0_serveFreed_2 : decode cX0_serveFreed 2 = .ok (.iconst 0, 1) := by decide +kernel
theorem dX0_serveFreed_3 : decode cX0_serveFreed 3 = .ok (.istore_n 2, 1) := by decide +kernel
theorem dX0_serveFreed_4 : decode cX0_serveFreed 4 = .ok (.iconst 0, 1) := by decide +kernel
theorem dX0_serveFreed_5 : decode cX0_serveFreed 5 = .ok (.istore_n 3, 1) := by decide +kernel
theorem dX0_serveFreed_6 : decode cX0_serveFreed 6 = .ok (.iload_n 3, 1) := by decide +kernel
theorem dX0_serveFreed_7 : decode cX0_serveFreed 7 = .ok (.bipush 24, 2) := by decide +kernel
theorem dX0_serveFreed_9 : decode cX0_serveFreed 9 = .ok (.if_icmp .gt 81, 3) := by decide +kernel
theorem dX0_serveFreed_12 : decode cX0_serveFreed 12 = .ok (.iload_n 2, 1) := by decide +kernel
theorem dX0_serveFreed_13 : decode cX0_serveFreed 13 = .ok (.aload_n 0, 1) := by decide +kernel
theorem dX0_serveFreed_14 : decode cX0_serveFreed 14 = .ok (.getfield 156, 3) := by decide +kernel
theorem dX0_serveFreed_17 : decode cX0_serveFreed 17 = .ok (.if_icmp .ge 73, 3) := by decide +kernel
theorem dX0_serveFreed_20 : decode cX0_serveFreed 20 = .ok (.iload_n 2, 1) := by decide +kernel
theorem dX0_serveFreed_21 : decode cX0_serveFreed 21 = .ok (.aload_n 0, 1) := by decide +kernel
theorem dX0_serveFreed_22 : decode cX0_serveFreed 22 = .ok (.getfield 15, 3) := by decide +kernel
theorem dX0_serveFreed_25 : decode cX0_serveFreed 25 = .ok (.arraylength, 1) := by decide +kernel
theorem dX0_serveFreed_26 : decode cX0_serveFreed 26 = .ok (.if_icmp .ge 64, 3) := by decide +kernel
theorem dX0_serveFreed_29 : decode cX0_serveFreed 29 = .ok (.aload_n 0, 1) := by decide +kernel
theorem dX0_serveFreed_30 : decode cX0_serveFreed 30 = .ok (.getfield 15, 3) := by decide +kernel
theorem dX0_serveFreed_33 : decode cX0_serveFreed 33 = .ok (.iload_n 2, 1) := by decide +kernel
theorem dX0_serveFreed_34 : decode cX0_serveFreed 34 = .ok (.iaload, 1) := by decide +kernel
theorem dX0_serveFreed_35 : decode cX0_serveFreed 35 = .ok (.istore 4, 2) := by decide +kernel
theorem dX0_serveFreed_37 : decode cX0_serveFreed 37 = .ok (.aload_n 0, 1) := by decide +kernel
theorem dX0_serveFreed_38 : decode cX0_serveFreed 38 = .ok (.iload 4, 2) := by decide +kernel
theorem dX0_serveFreed_40 : decode cX0_serveFreed 40 = .ok (.invokevirtual 37, 3) := by decide +kernel
theorem dX0_serveFreed_43 : decode cX0_serveFreed 43 = .ok (.ifCond .le 13, 3) := by decide +kernel
theorem dX0_serveFreed_46 : decode cX0_serveFreed 46 = .ok (.aload_n 0, 1) := by decide +kernel
theorem dX0_serveFreed_47 : decode cX0_serveFreed 47 = .ok (.iload 4, 2) := by decide +kernel
theorem dX0_serveFreed_49 : decode cX0_serveFreed 49 = .ok (.iconst 0, 1) := by decide +kernel
theorem dX0_serveFreed_50 : decode cX0_serveFreed 50 = .ok (.invokevirtual 159, 3) := by decide +kernel
theorem dX0_serveFreed_53 : decode cX0_serveFreed 53 = .ok (.goto 5, 3) := by decide +kernel
theorem dX0_serveFreed_56 : decode cX0_serveFreed 56 = .ok (.bipush (-9), 2) := by decide +kernel
theorem dX0_serveFreed_58 : decode cX0_serveFreed 58 = .ok (.istore 5, 2) := by decide +kernel
theorem dX0_serveFreed_60 : decode cX0_serveFreed 60 = .ok (.iload 5, 2) := by decide +kernel
theorem dX0_serveFreed_62 : decode cX0_serveFreed 62 = .ok (.bipush (-9), 2) := by decide +kernel
theorem dX0_serveFreed_64 : decode cX0_serveFreed 64 = .ok (.if_icmp .ne 9, 3) := by decide +kernel
theorem dX0_serveFreed_67 : decode cX0_serveFreed 67 = .ok (.iinc 2 1, 3) := by decide +kernel
theorem dX0_serveFreed_70 : decode cX0_serveFreed 70 = .ok (.goto 14, 3) := by decide +kernel
theorem dX0_serveFreed_73 : decode cX0_serveFreed 73 = .ok (.aload_n 0, 1) := by decide +kernel
theorem dX0_serveFreed_74 : decode cX0_serveFreed 74 = .ok (.iload 5, 2) := by decide +kernel
theorem dX0_serveFreed_76 : decode cX0_serveFreed 76 = .ok (.iload 4, 2) := by decide +kernel
theorem dX0_serveFreed_78 : decode cX0_serveFreed 78 = .ok (.invokevirtual 126, 3) := by decide +kernel
theorem dX0_serveFreed_81 : decode cX0_serveFreed 81 = .ok (.iinc 1 1, 3) := by decide +kernel
theorem dX0_serveFreed_84 : decode cX0_serveFreed 84 = .ok (.iinc 3 1, 3) := by decide +kernel
theorem dX0_serveFreed_87 : decode cX0_serveFreed 87 = .ok (.goto (-81), 3) := by decide +kernel
theorem dX0_serveFreed_90 : decode cX0_serveFreed 90 = .ok (.aload_n 0, 1) := by decide +kernel
theorem dX0_serveFreed_91 : decode cX0_serveFreed 91 = .ok (.iconst 0, 1) := by decide +kernel
theorem dX0_serveFreed_92 : decode cX0_serveFreed 92 = .ok (.putfield 156, 3) := by decide +kernel
theorem dX0_serveFreed_95 : decode cX0_serveFreed 95 = .ok (.iload_n 1, 1) := by decide +kernel
theorem dX0_serveFreed_96 : decode cX0_serveFreed 96 = .ok (.ireturn, 1) := by decide +kernel
theorem dX0_waiter_0 : decode cX0_waiter 0 = .ok (.iconst 0, 1) := by decide +kernel
theorem dX0_waiter_1 : decode cX0_waiter 1 = .ok (.istore_n 3, 1) := by decide +kernel
theorem dX0_waiter_2 : decode cX0_waiter 2 = .ok (.iload_n 3, 1) := by decide +kernel
theorem dX0_waiter_3 : decode cX0_waiter 3 = .ok (.bipush 12, 2) := by decide +kernel
theorem dX0_waiter_5 : decode cX0_waiter 5 = .ok (.if_icmp .ge 34, 3) := by decide +kernel
theorem dX0_waiter_8 : decode cX0_waiter 8 = .ok (.aload_n 0, 1) := by decide +kernel
theorem dX0_waiter_9 : decode cX0_waiter 9 = .ok (.getfield 22, 3) := by decide +kernel
theorem dX0_waiter_12 : decode cX0_waiter 12 = .ok (.getfield 120, 3) := by decide +kernel
theorem dX0_waiter_15 : decode cX0_waiter 15 = .ok (.iload_n 3, 1) := by decide +kernel
theorem dX0_waiter_16 : decode cX0_waiter 16 = .ok (.iaload, 1) := by decide +kernel
theorem dX0_waiter_17 : decode cX0_waiter 17 = .ok (.iload_n 1, 1) := by decide +kernel
theorem dX0_waiter_18 : decode cX0_waiter 18 = .ok (.if_icmp .ne 15, 3) := by decide +kernel
theorem dX0_waiter_21 : decode cX0_waiter 21 = .ok (.aload_n 0, 1) := by decide +kernel
theorem dX0_waiter_22 : decode cX0_waiter 22 = .ok (.iload_n 3, 1) := by decide +kernel
theorem dX0_waiter_23 : decode cX0_waiter 23 = .ok (.iload_n 1, 1) := by decide +kernel
theorem dX0_waiter_24 : decode cX0_waiter 24 = .ok (.invokevirtual 162, 3) := by decide +kernel
theorem dX0_waiter_27 : decode cX0_waiter 27 = .ok (.iload_n 2, 1) := by decide +kernel
theorem dX0_waiter_28 : decode cX0_waiter 28 = .ok (.if_icmp .ne 5, 3) := by decide +kernel
theorem dX0_waiter_31 : decode cX0_waiter 31 = .ok (.iload_n 3, 1) := by decide +kernel
theorem dX0_waiter_32 : decode cX0_waiter 32 = .ok (.ireturn, 1) := by decide +kernel
theorem dX0_waiter_33 : decode cX0_waiter 33 = .ok (.iinc 3 1, 3) := by decide +kernel
theorem dX0_waiter_36 : decode cX0_waiter 36 = .ok (.goto (-34), 3) := by decide +kernel
theorem dX0_waiter_39 : decode cX0_waiter 39 = .ok (.bipush (-9), 2) := by decide +kernel
theorem dX0_waiter_41 : decode cX0_waiter 41 = .ok (.ireturn, 1) := by decide +kernel
theorem dX0_aheadOf_0 : decode cX0_aheadOf 0 = .ok (.iconst 0, 1) := by decide +kernel
theorem dX0_aheadOf_1 : decode cX0_aheadOf 1 = .ok (.istore_n 3, 1) := by decide +kernel
theorem dX0_aheadOf_2 : decode cX0_aheadOf 2 = .ok (.iconst 0, 1) := by decide +kernel
theorem dX0_aheadOf_3 : decode cX0_aheadOf 3 = .ok (.istore 4, 2) := by decide +kernel
theorem dX0_aheadOf_5 : decode cX0_aheadOf 5 = .ok (.iload 4, 2) := by decide +kernel
theorem dX0_aheadOf_7 : decode cX0_aheadOf 7 = .ok (.bipush 12, 2) := by decide +kernel
theorem dX0_aheadOf_9 : decode cX0_aheadOf 9 = .ok (.if_icmp .ge 41, 3) := by decide +kernel
theorem dX0_aheadOf_12 : decode cX0_aheadOf 12 = .ok (.iload_n 3, 1) := by decide +kernel
theorem dX0_aheadOf_13 : decode cX0_aheadOf 13 = .ok (.aload_n 0, 1) := by decide +kernel
theorem dX0_aheadOf_14 : decode cX0_aheadOf 14 = .ok (.getfield 22, 3) := by decide +kernel
theorem dX0_aheadOf_17 : decode cX0_aheadOf 17 = .ok (.getfield 120, 3) := by decide +kernel
theorem dX0_aheadOf_20 : decode cX0_aheadOf 20 = .ok (.iload 4, 2) := by decide +kernel
theorem dX0_aheadOf_22 : decode cX0_aheadOf 22 = .ok (.iaload, 1) := by decide +kernel
theorem dX0_aheadOf_23 : decode cX0_aheadOf 23 = .ok (.iload_n 2, 1) := by decide +kernel
theorem dX0_aheadOf_24 : decode cX0_aheadOf 24 = .ok (.if_icmp .ne 17, 3) := by decide +kernel
theorem dX0_aheadOf_27 : decode cX0_aheadOf 27 = .ok (.aload_n 0, 1) := by decide +kernel
theorem dX0_aheadOf_28 : decode cX0_aheadOf 28 = .ok (.iload 4, 2) := by decide +kernel
theorem dX0_aheadOf_30 : decode cX0_aheadOf 30 = .ok (.iload_n 1, 1) := by decide +kernel
theorem dX0_aheadOf_31 : decode cX0_aheadOf 31 = .ok (.invokevirtual 165, 3) := by decide +kernel
theorem dX0_aheadOf_34 : decode cX0_aheadOf 34 = .ok (.ifCond .eq 7, 3) := by decide +kernel
theorem dX0_aheadOf_37 : decode cX0_aheadOf 37 = .ok (.iconst 1, 1) := by decide +kernel
theorem dX0_aheadOf_38 : decode cX0_aheadOf 38 = .ok (.goto 4, 3) := by decide +kernel
theorem dX0_aheadOf_41 : decode cX0_aheadOf 41 = .ok (.iconst 0, 1) := by decide +kernel
theorem dX0_aheadOf_42 : decode cX0_aheadOf 42 = .ok (.iadd, 1) := by decide +kernel
theorem dX0_aheadOf_43 : decode cX0_aheadOf 43 = .ok (.istore_n 3, 1) := by decide +kernel
theorem dX0_aheadOf_44 : decode cX0_aheadOf 44 = .ok (.iinc 4 1, 3) := by decide +kernel
theorem dX0_aheadOf_47 : decode cX0_aheadOf 47 = .ok (.goto (-42), 3) := by decide +kernel
theorem dX0_aheadOf_50 : decode cX0_aheadOf 50 = .ok (.iload_n 3, 1) := by decide +kernel
theorem dX0_aheadOf_51 : decode cX0_aheadOf 51 = .ok (.ireturn, 1) := by decide +kernel
theorem dX0_isBefore_0 : decode cX0_isBefore 0 = .ok (.aload_n 0, 1) := by decide +kernel
theorem dX0_isBefore_1 : decode cX0_isBefore 1 = .ok (.getfield 22, 3) := by decide +kernel
theorem dX0_isBefore_4 : decode cX0_isBefore 4 = .ok (.getfield 114, 3) := by decide +kernel
theorem dX0_isBefore_7 : decode cX0_isBefore 7 = .ok (.iload_n 1, 1) := by decide +kernel
theorem dX0_isBefore_8 : decode cX0_isBefore 8 = .ok (.iaload, 1) := by decide +kernel
theorem dX0_isBefore_9 : decode cX0_isBefore 9 = .ok (.istore_n 3, 1) := by decide +kernel
theorem dX0_isBefore_10 : decode cX0_isBefore 10 = .ok (.aload_n 0, 1) := by decide +kernel
theorem dX0_isBefore_11 : decode cX0_isBefore 11 = .ok (.getfield 22, 3) := by decide +kernel
theorem dX0_isBefore_14 : decode cX0_isBefore 14 = .ok (.getfield 114, 3) := by decide +kernel
theorem dX0_isBefore_17 : decode cX0_isBefore 17 = .ok (.iload_n 2, 1) := by decide +kernel
theorem dX0_isBefore_18 : decode cX0_isBefore 18 = .ok (.iaload, 1) := by decide +kernel
theorem dX0_isBefore_19 : decode cX0_isBefore 19 = .ok (.istore 4, 2) := by decide +kernel
theorem dX0_isBefore_21 : decode cX0_isBefore 21 = .ok (.iload_n 3, 1) := by decide +kernel
theorem dX0_isBefore_22 : decode cX0_isBefore 22 = .ok (.ifCond .le 82, 3) := by decide +kernel
theorem dX0_isBefore_25 : decode cX0_isBefore 25 = .ok (.iload 4, 2) := by decide +kernel
theorem dX0_isBefore_27 : decode cX0_isBefore 27 = .ok (.ifCond .le 77, 3) := by decide +kernel
theorem dX0_isBefore_30 : decode cX0_isBefore 30 = .ok (.bipush 64, 2) := by decide +kernel
theorem dX0_isBefore_32 : decode cX0_isBefore 32 = .ok (.aload_n 0, 1) := by decide +kernel
theorem dX0_isBefore_33 : decode cX0_isBefore 33 = .ok (.getfield 18, 3) := by decide +kernel
theorem dX0_isBefore_36 : decode cX0_isBefore 36 = .ok (.getfield 96, 3) := by decide +kernel
theorem dX0_isBefore_39 : decode cX0_isBefore 39 = .ok (.iconst 3, 1) := by decide +kernel
theorem dX0_isBefore_40 : decode cX0_isBefore 40 = .ok (.iaload, 1) := by decide +kernel
theorem dX0_isBefore_41 : decode cX0_isBefore 41 = .ok (.imul, 1) := by decide +kernel
theorem dX0_isBefore_42 : decode cX0_isBefore 42 = .ok (.istore 5, 2) := by decide +kernel
theorem dX0_isBefore_44 : decode cX0_isBefore 44 = .ok (.aload_n 0, 1) := by decide +kernel
theorem dX0_isBefore_45 : decode cX0_isBefore 45 = .ok (.getfield 22, 3) := by decide +kernel
theorem dX0_isBefore_48 : decode cX0_isBefore 48 = .ok (.iload_n 1, 1) := by decide +kernel
theorem dX0_isBefore_49 : decode cX0_isBefore 49 = .ok (.invokevirtual 93, 3) := by decide +kernel
theorem dX0_isBefore_52 : decode cX0_isBefore 52 = .ok (.iload 5, 2) := by decide +kernel
theorem dX0_isBefore_54 : decode cX0_isBefore 54 = .ok (.isub, 1) := by decide +kernel
theorem dX0_isBefore_55 : decode cX0_isBefore 55 = .ok (.iload 4, 2) := by decide +kernel
theorem dX0_isBefore_57 : decode cX0_isBefore 57 = .ok (.imul, 1) := by decide +kernel
theorem dX0_isBefore_58 : decode cX0_isBefore 58 = .ok (.istore 6, 2) := by decide +kernel
theorem dX0_isBefore_60 : decode cX0_isBefore 60 = .ok (.aload_n 0, 1) := by decide +kernel
theorem dX0_isBefore_61 : decode cX0_isBefore 61 = .ok (.getfield 22, 3) := by decide +kernel
theorem dX0_isBefore_64 : decode cX0_isBefore 64 = .ok (.iload_n 2, 1) := by decide +kernel
theorem dX0_isBefore_65 : decode cX0_isBefore 65 = .ok (.invokevirtual 93, 3) := by decide +kernel
theorem dX0_isBefore_68 : decode cX0_isBefore 68 = .ok (.iload 5, 2) := by decide +kernel
theorem dX0_isBefore_70 : decode cX0_isBefore 70 = .ok (.isub, 1) := by decide +kernel
theorem dX0_isBefore_71 : decode cX0_isBefore 71 = .ok (.iload_n 3, 1) := by decide +kernel
theorem dX0_isBefore_72 : decode cX0_isBefore 72 = .ok (.imul, 1) := by decide +kernel
theorem dX0_isBefore_73 : decode cX0_isBefore 73 = .ok (.istore 7, 2) := by decide +kernel
theorem dX0_isBefore_75 : decode cX0_isBefore 75 = .ok (.iload 6, 2) := by decide +kernel
theorem dX0_isBefore_77 : decode cX0_isBefore 77 = .ok (.iload 7, 2) := by decide +kernel
theorem dX0_isBefore_79 : decode cX0_isBefore 79 = .ok (.if_icmp .eq 18, 3) := by decide +kernel
theorem dX0_isBefore_82 : decode cX0_isBefore 82 = .ok (.iload 6, 2) := by decide +kernel
theorem dX0_isBefore_84 : decode cX0_isBefore 84 = .ok (.iload 7, 2) := by decide +kernel
theorem dX0_isBefore_86 : decode cX0_isBefore 86 = .ok (.if_icmp .ge 7, 3) := by decide +kernel
theorem dX0_isBefore_89 : decode cX0_isBefore 89 = .ok (.iconst 1, 1) := by decide +kernel
theorem dX0_isBefore_90 : decode cX0_isBefore 90 = .ok (.goto 13, 3) := by decide +kernel
theorem dX0_isBefore_93 : decode cX0_isBefore 93 = .ok (.iconst 0, 1) := by decide +kernel
theorem dX0_isBefore_94 : decode cX0_isBefore 94 = .ok (.goto 9, 3) := by decide +kernel
theorem dX0_isBefore_97 : decode cX0_isBefore 97 = .ok (.aload_n 0, 1) := by decide +kernel
theorem dX0_isBefore_98 : decode cX0_isBefore 98 = .ok (.iload_n 1, 1) := by decide +kernel
theorem dX0_isBefore_99 : decode cX0_isBefore 99 = .ok (.iload_n 2, 1) := by decide +kernel
theorem dX0_isBefore_100 : decode cX0_isBefore 100 = .ok (.invokevirtual 169, 3) := by decide +kernel
theorem dX0_isBefore_103 : decode cX0_isBefore 103 = .ok (.ireturn, 1) := by decide +kernel
theorem dX0_isBefore_104 : decode cX0_isBefore 104 = .ok (.iload_n 3, 1) := by decide +kernel
theorem dX0_isBefore_105 : decode cX0_isBefore 105 = .ok (.ifCond .gt 8, 3) := by decide +kernel
theorem dX0_isBefore_108 : decode cX0_isBefore 108 = .ok (.iload 4, 2) := by decide +kernel
theorem dX0_isBefore_110 : decode cX0_isBefore 110 = .ok (.ifCond .le 13, 3) := by decide +kernel
theorem dX0_isBefore_113 : decode cX0_isBefore 113 = .ok (.iload_n 3, 1) := by decide +kernel
theorem dX0_isBefore_114 : decode cX0_isBefore 114 = .ok (.ifCond .le 7, 3) := by decide +kernel
theorem dX0_isBefore_117 : decode cX0_isBefore 117 = .ok (.iconst 1, 1) := by decide +kernel
theorem dX0_isBefore_118 : decode cX0_isBefore 118 = .ok (.goto 4, 3) := by decide +kernel
theorem dX0_isBefore_121 : decode cX0_isBefore 121 = .ok (.iconst 0, 1) := by decide +kernel
theorem dX0_isBefore_122 : decode cX0_isBefore 122 = .ok (.ireturn, 1) := by decide +kernel
theorem dX0_isBefore_123 : decode cX0_isBefore 123 = .ok (.aload_n 0, 1) := by decide +kernel
theorem dX0_isBefore_124 : decode cX0_isBefore 124 = .ok (.iload_n 1, 1) := by decide +kernel
theorem dX0_isBefore_125 : decode cX0_isBefore 125 = .ok (.iload_n 2, 1) := by decide +kernel
theorem dX0_isBefore_126 : decode cX0_isBefore 126 = .ok (.invokevirtual 169, 3) := by decide +kernel
theorem dX0_isBefore_129 : decode cX0_isBefore 129 = .ok (.ireturn, 1) := by decide +kernel
theorem dX0_waitsLonger_0 : decode cX0_waitsLonger 0 = .ok (.aload_n 0, 1) := by decide +kernel
theorem dX0_waitsLonger_1 : decode cX0_waitsLonger 1 = .ok (.getfield 22, 3) := by decide +kernel
theorem dX0_waitsLonger_4 : decode cX0_waitsLonger 4 = .ok (.getfield 172, 3) := by decide +kernel
theorem dX0_waitsLonger_7 : decode cX0_waitsLonger 7 = .ok (.iload_n 1, 1) := by decide +kernel
theorem dX0_waitsLonger_8 : decode cX0_waitsLonger 8 = .ok (.iaload, 1) := by decide +kernel
theorem dX0_waitsLonger_9 : decode cX0_waitsLonger 9 = .ok (.aload_n 0, 1) := by decide +kernel
theorem dX0_waitsLonger_10 : decode cX0_waitsLonger 10 = .ok (.getfield 22, 3) := by decide +kernel
theorem dX0_waitsLonger_13 : decode cX0_waitsLonger 13 = .ok (.getfield 172, 3) := by decide +kernel
theorem dX0_waitsLonger_16 : decode cX0_waitsLonger 16 = .ok (.iload_n 2, 1) := by decide +kernel
theorem dX0_waitsLonger_17 : decode cX0_waitsLonger 17 = .ok (.iaload, 1) := by decide +kernel
theorem dX0_waitsLonger_18 : decode cX0_waitsLonger 18 = .ok (.if_icmp .ge 7, 3) := by decide +kernel
theorem dX0_waitsLonger_21 : decode cX0_waitsLonger 21 = .ok (.iconst 1, 1) := by decide +kernel
theorem dX0_waitsLonger_22 : decode cX0_waitsLonger 22 = .ok (.goto 4, 3) := by decide +kernel
theorem dX0_waitsLonger_25 : decode cX0_waitsLonger 25 = .ok (.iconst 0, 1) := by decide +kernel
theorem dX0_waitsLonger_26 : decode cX0_waitsLonger 26 = .ok (.ireturn, 1) := by decide +kernel
end
section
theorem dX1_init_0 : decode cX1_init 0 = .ok (.aload_n 0, 1) := by decide +kernel
theorem dX1_init_1 : decode cX1_init 1 = .ok (.invokespecial 3, 3) := by decide +kernel
theorem dX1_init_4 : decode cX1_init 4 = .ok (.aload_n 0, 1) := by decide +kernel
theorem dX1_init_5 : decode cX1_init 5 = .ok (.bipush 6, 2) := by decide +kernel
theorem dX1_init_7 : decode cX1_init 7 = .ok (.anewarray 9, 3) := by decide +kernel
theorem dX1_init_10 : decode cX1_init 10 = .ok (.putfield 11, 3) := by decide +kernel
theorem dX1_init_13 : decode cX1_init 13 = .ok (.iconst 0, 1) := by decide +kernel
theorem dX1_init_14 : decode cX1_init 14 = .ok (.istore_n 1, 1) := by decide +kernel
theorem dX1_init_15 : decode cX1_init 15 = .ok (.iload_n 1, 1) := by decide +kernel
theorem dX1_init_16 : decode cX1_init 16 = .ok (.bipush 6, 2) := by decide +kernel
theorem dX1_init_18 : decode cX1_init 18 = .ok (.if_icmp .ge 22, 3) := by decide +kernel
theorem dX1_init_21 : decode cX1_init 21 = .ok (.aload_n 0, 1) := by decide +kernel
theorem dX1_init_22 : decode cX1_init 22 = .ok (.getfield 11, 3) := by decide +kernel
theorem dX1_init_25 : decode cX1_init 25 = .ok (.iload_n 1, 1) := by decide +kernel
theorem dX1_init_26 : decode cX1_init 26 = .ok (.new 9, 3) := by decide +kernel
theorem dX1_init_29 : decode cX1_init 29 = .ok (.dup, 1) := by decide +kernel
theorem dX1_init_30 : decode cX1_init 30 = .ok (.invokespecial 17, 3) := by decide +kernel
theorem dX1_init_33 : decode cX1_init 33 = .ok (.aastore, 1) := by decide +kernel
theorem dX1_init_34 : decode cX1_init 34 = .ok (.iinc 1 1, 3) := by decide +kernel
theorem dX1_init_37 : decode cX1_init 37 = .ok (.goto (-22), 3) := by decide +kernel
theorem dX1_init_40 : decode cX1_init 40 = .ok (.return_, 1) := by decide +kernel
theorem dX1_forgetAll_0 : decode cX1_forgetAll 0 = .ok (.aload_n 0, 1) := by decide +kernel
theorem dX1_forgetAll_1 : decode cX1_forgetAll 1 = .ok (.iconst 0, 1) := by decide +kernel
theorem dX1_forgetAll_2 : decode cX1_forgetAll 2 = .ok (.putfield 18, 3) := by decide +kernel
theorem dX1_forgetAll_5 : decode cX1_forgetAll 5 = .ok (.return_, 1) := by decide +kernel
theorem dX1_remember_0 : decode cX1_remember 0 = .ok (.aload_n 0, 1) := by decide +kernel
theorem dX1_remember_1 : decode cX1_remember 1 = .ok (.getfield 11, 3) := by decide +kernel
theorem dX1_remember_4 : decode cX1_remember 4 = .ok (.aload_n 0, 1) := by decide +kernel
theorem dX1_remember_5 : decode cX1_remember 5 = .ok (.getfield 22, 3) := by decide +kernel
theorem dX1_remember_8 : decode cX1_remember 8 = .ok (.aaload, 1) := by decide +kernel
theorem dX1_remember_9 : decode cX1_remember 9 = .ok (.astore_n 2, 1) := by decide +kernel
theorem dX1_remember_10 : decode cX1_remember 10 = .ok (.aload_n 2, 1) := by decide +kernel
theorem dX1_remember_11 : decode cX1_remember 11 = .ok (.ifnonnull 4, 3) := by decide +kernel
theorem dX1_remember_14 : decode cX1_remember 14 = .ok (.return_, 1) := by decide +kernel
theorem dX1_remember_15 : decode cX1_remember 15 = .ok (.aload_n 2, 1) := by decide +kernel
theorem dX1_remember_16 : decode cX1_remember 16 = .ok (.aload_n 1, 1) := by decide +kernel
theorem dX1_remember_17 : decode cX1_remember 17 = .ok (.invokevirtual 25, 3) := by decide +kernel
theorem dX1_remember_20 : decode cX1_remember 20 = .ok (.aload_n 0, 1) := by decide +kernel
theorem dX1_remember_21 : decode cX1_remember 21 = .ok (.aload_n 0, 1) := by decide +kernel
theorem dX1_remember_22 : decode cX1_remember 22 = .ok (.getfield 22, 3) := by decide +kernel
theorem dX1_remember_25 : decode cX1_remember 25 = .ok (.iconst 1, 1) := by decide +kernel
theorem dX1_remember_26 : decode cX1_remember 26 = .ok (.iadd, 1) := by decide +kernel
theorem dX1_remember_27 : decode cX1_remember 27 = .ok (.bipush 6, 2) := by decide +kernel
theorem dX1_remember_29 : decode cX1_remember 29 = .ok (.if_icmp .ge 12, 3) := by decide +kernel
theorem dX1_remember_32 : decode cX1_remember 32 = .ok (.aload_n 0, 1) := by decide +kernel
theorem dX1_remember_33 : decode cX1_remember 33 = .ok (.getfield 22, 3) := by decide +kernel
theorem dX1_remember_36 : decode cX1_remember 36 = .ok (.iconst 1, 1) := by decide +kernel
theorem dX1_remember_37 : decode cX1_remember 37 = .ok (.iadd, 1) := by decide +kernel
theorem dX1_remember_38 : decode cX1_remember 38 = .ok (.goto 4, 3) := by decide +kernel
theorem dX1_remember_41 : decode cX1_remember 41 = .ok (.iconst 0, 1) := by decide +kernel
theorem dX1_remember_42 : decode cX1_remember 42 = .ok (.putfield 22, 3) := by decide +kernel
theorem dX1_remember_45 : decode cX1_remember 45 = .ok (.aload_n 0, 1) := by decide +kernel
theorem dX1_remember_46 : decode cX1_remember 46 = .ok (.aload_n 0, 1) := by decide +kernel
theorem dX1_remember_47 : decode cX1_remember 47 = .ok (.getfield 18, 3) := by decide +kernel
theorem dX1_remember_50 : decode cX1_remember 50 = .ok (.iconst 1, 1) := by decide +kernel
theorem dX1_remember_51 : decode cX1_remember 51 = .ok (.iadd, 1) := by decide +kernel
theorem dX1_remember_52 : decode cX1_remember 52 = .ok (.bipush 6, 2) := by decide +kernel
theorem dX1_remember_54 : decode cX1_remember 54 = .ok (.invokestatic 29, 3) := by decide +kernel
theorem dX1_remember_57 : decode cX1_remember 57 = .ok (.putfield 18, 3) := by decide +kernel
theorem dX1_remember_60 : decode cX1_remember 60 = .ok (.return_, 1) := by decide +kernel
theorem dX1_bringBack_0 : decode cX1_bringBack 0 = .ok (.aload_n 0, 1) := by decide +kernel
theorem dX1_bringBack_1 : decode cX1_bringBack 1 = .ok (.getfield 22, 3) := by decide +kernel
theorem dX1_bringBack_4 : decode cX1_bringBack 4 = .ok (.ifCond .le 12, 3) := by decide +kernel
theorem dX1_bringBack_7 : decode cX1_bringBack 7 = .ok (.aload_n 0, 1) := by decide +kernel
theorem dX1_bringBack_8 : decode cX1_bringBack 8 = .ok (.getfield 22, 3) := by decide +kernel
theorem dX1_bringBack_11 : decode cX1_bringBack 11 = .ok (.iconst 1, 1) := by decide +kernel
theorem dX1_bringBack_12 : decode cX1_bringBack 12 = .ok (.isub, 1) := by decide +kernel
theorem dX1_bringBack_13 : decode cX1_bringBack 13 = .ok (.goto 4, 3) := by decide +kernel
theorem dX1_bringBack_16 : decode cX1_bringBack 16 = .ok (.iconst 5, 1) := by decide +kernel
theorem dX1_bringBack_17 : decode cX1_bringBack 17 = .ok (.istore_n 2, 1) := by decide +kernel
theorem dX1_bringBack_18 : decode cX1_bringBack 18 = .ok (.aload_n 0, 1) := by decide +kernel
theorem dX1_bringBack_19 : decode cX1_bringBack 19 = .ok (.getfield 11, 3) := by decide +kernel
theorem dX1_bringBack_22 : decode cX1_bringBack 22 = .ok (.iload_n 2, 1) := by decide +kernel
theorem dX1_bringBack_23 : decode cX1_bringBack 23 = .ok (.aaload, 1) := by decide +kernel
theorem dX1_bringBack_24 : decode cX1_bringBack 24 = .ok (.astore_n 3, 1) := by decide +kernel
theorem dX1_bringBack_25 : decode cX1_bringBack 25 = .ok (.aload_n 0, 1) := by decide +kernel
theorem dX1_bringBack_26 : decode cX1_bringBack 26 = .ok (.getfield 18, 3) := by decide +kernel
theorem dX1_bringBack_29 : decode cX1_bringBack 29 = .ok (.ifCond .eq 7, 3) := by decide +kernel
theorem dX1_bringBack_32 : decode cX1_bringBack 32 = .ok (.aload_n 3, 1) := by decide +kernel
theorem dX1_bringBack_33 : decode cX1_bringBack 33 = .ok (.ifnonnull 5, 3) := by decide +kernel
theorem dX1_bringBack_36 : decode cX1_bringBack 36 = .ok (.iconst 0, 1) := by decide +kernel
theorem dX1_bringBack_37 : decode cX1_bringBack 37 = .ok (.ireturn, 1) := by decide +kernel
theorem dX1_bringBack_38 : decode cX1_bringBack 38 = .ok (.aload_n 1, 1) := by decide +kernel
theorem dX1_bringBack_39 : decode cX1_bringBack 39 = .ok (.aload_n 3, 1) := by decide +kernel
theorem dX1_bringBack_40 : decode cX1_bringBack 40 = .ok (.invokevirtual 25, 3) := by decide +kernel
theorem dX1_bringBack_43 : decode cX1_bringBack 43 = .ok (.aload_n 0, 1) := by decide +kernel
theorem dX1_bringBack_44 : decode cX1_bringBack 44 = .ok (.iload_n 2, 1) := by decide +kernel
theorem dX1_bringBack_45 : decode cX1_bringBack 45 = .ok (.putfield 22, 3) := by decide +kernel
theorem dX1_bringBack_48 : decode cX1_bringBack 48 = .ok (.aload_n 0, 1) := by decide +kernel
theorem dX1_bringBack_49 : decode cX1_bringBack 49 = .ok (.dup, 1) := by decide +kernel
theorem dX1_bringBack_50 : decode cX1_bringBack 50 = .ok (.getfield 18, 3) := by decide +kernel
theorem dX1_bringBack_53 : decode cX1_bringBack 53 = .ok (.iconst 1, 1) := by decide +kernel
theorem dX1_bringBack_54 : decode cX1_bringBack 54 = .ok (.isub, 1) := by decide +kernel
theorem dX1_bringBack_55 : decode cX1_bringBack 55 = .ok (.putfield 18, 3) := by decide +kernel
theorem dX1_bringBack_58 : decode cX1_bringBack 58 = .ok (.iconst 1, 1) := by decide +kernel
theorem dX1_bringBack_59 : decode cX1_bringBack 59 = .ok (.ireturn, 1) := by decide +kernel
theorem dX2_init_0 : decode cX2_init 0 = .ok (.aload_n 0, 1) := by decide +kernel
theorem dX2_init_1 : decode cX2_init 1 = .ok (.invokespecial 3, 3) := by decide +kernel
theorem dX2_init_4 : decode cX2_init 4 = .ok (.aload_n 0, 1) := by decide +kernel
theorem dX2_init_5 : decode cX2_init 5 = .ok (.iconst 2, 1) := by decide +kernel
theorem dX2_init_6 : decode cX2_init 6 = .ok (.anewarray 9, 3) := by decide +kernel
theorem dX2_init_9 : decode cX2_init 9 = .ok (.putfield 11, 3) := by decide +kernel
theorem dX2_init_12 : decode cX2_init 12 = .ok (.aload_n 0, 1) := by decide +kernel
theorem dX2_init_13 : decode cX2_init 13 = .ok (.iconst 2, 1) := by decide +kernel
theorem dX2_init_14 : decode cX2_init 14 = .ok (.newarray .boolean, 2) := by decide +kernel
theorem dX2_init_16 : decode cX2_init 16 = .ok (.putfield 17, 3) := by decide +kernel
theorem dX2_init_19 : decode cX2_init 19 = .ok (.iconst 0, 1) := by decide +kernel
theorem dX2_init_20 : decode cX2_init 20 = .ok (.istore_n 1, 1) := by decide +kernel
theorem dX2_init_21 : decode cX2_init 21 = .ok (.iload_n 1, 1) := by decide +kernel
theorem dX2_init_22 : decode cX2_init 22 = .ok (.iconst 2, 1) := by decide +kernel
theorem dX2_init_23 : decode cX2_init 23 = .ok (.if_icmp .ge 22, 3) := by decide +kernel
theorem dX2_init_26 : decode cX2_init 26 = .ok (.aload_n 0, 1) := by decide +kernel
theorem dX2_init_27 : decode cX2_init 27 = .ok (.getfield 11, 3) := by decide +kernel
theorem dX2_init_30 : decode cX2_init 30 = .ok (.iload_n 1, 1) := by decide +kernel
theorem dX2_init_31 : decode cX2_init 31 = .ok (.new 9, 3) := by decide +kernel
theorem dX2_init_34 : decode cX2_init 34 = .ok (.dup, 1) := by decide +kernel
theorem dX2_init_35 : decode cX2_init 35 = .ok (.invokespecial 21, 3) := by decide +kernel
theorem dX2_init_38 : decode cX2_init 38 = .ok (.aastore, 1) := by decide +kernel
theorem dX2_init_39 : decode cX2_init 39 = .ok (.iinc 1 1, 3) := by decide +kernel
theorem dX2_init_42 : decode cX2_init 42 = .ok (.goto (-21), 3) := by decide +kernel
theorem dX2_init_45 : decode cX2_init 45 = .ok (.return_, 1) := by decide +kernel
theorem dX2_forgetAll_0 : decode cX2_forgetAll 0 = .ok (.iconst 0, 1) := by decide +kernel
theorem dX2_forgetAll_1 : decode cX2_forgetAll 1 = .ok (.istore_n 1, 1) := by decide +kernel
theorem dX2_forgetAll_2 : decode cX2_forgetAll 2 = .ok (.iload_n 1, 1) := by decide +kernel
theorem dX2_forgetAll_3 : decode cX2_forgetAll 3 = .ok (.iconst 2, 1) := by decide +kernel
theorem dX2_forgetAll_4 : decode cX2_forgetAll 4 = .ok (.if_icmp .ge 16, 3) := by decide +kernel
theorem dX2_forgetAll_7 : decode cX2_forgetAll 7 = .ok (.aload_n 0, 1) := by decide +kernel
theorem dX2_forgetAll_8 : decode cX2_forgetAll 8 = .ok (.getfield 17, 3) := by decide +kernel
theorem dX2_forgetAll_11 : decode cX2_forgetAll 11 = .ok (.iload_n 1, 1) := by decide +kernel
theorem dX2_forgetAll_12 : decode cX2_forgetAll 12 = .ok (.iconst 0, 1) := by decide +kernel
theorem dX2_forgetAll_13 : decode cX2_forgetAll 13 = .ok (.bastore, 1) := by decide +kernel
theorem dX2_forgetAll_14 : decode cX2_forgetAll 14 = .ok (.iinc 1 1, 3) := by decide +kernel
theorem dX2_forgetAll_17 : decode cX2_forgetAll 17 = .ok (.goto (-15), 3) := by decide +kernel
theorem dX2_forgetAll_20 : decode cX2_forgetAll 20 = .ok (.return_, 1) := by decide +kernel
theorem dX2_store_0 : decode cX2_store 0 = .ok (.aload_n 0, 1) := by decide +kernel
theorem dX2_store_1 : decode cX2_store 1 = .ok (.getfield 11, 3) := by decide +kernel
theorem dX2_store_4 : decode cX2_store 4 = .ok (.iload_n 1, 1) := by decide +kernel
theorem dX2_store_5 : decode cX2_store 5 = .ok (.aaload, 1) := by decide +kernel
theorem dX2_store_6 : decode cX2_store 6 = .ok (.astore_n 3, 1) := by decide +kernel
theorem dX2_store_7 : decode cX2_store 7 = .ok (.aload_n 3, 1) := by decide +kernel
theorem dX2_store_8 : decode cX2_store 8 = .ok (.ifnull 15, 3) := by decide +kernel
theorem dX2_store_11 : decode cX2_store 11 = .ok (.aload_n 3, 1) := by decide +kernel
theorem dX2_store_12 : decode cX2_store 12 = .ok (.aload_n 2, 1) := by decide +kernel
theorem dX2_store_13 : decode cX2_store 13 = .ok (.invokevirtual 22, 3) := by decide +kernel
theorem dX2_store_16 : decode cX2_store 16 = .ok (.aload_n 0, 1) := by decide +kernel
theorem dX2_store_17 : decode cX2_store 17 = .ok (.getfield 17, 3) := by decide +kernel
theorem dX2_store_20 : decode cX2_store 20 = .ok (.iload_n 1, 1) := by decide +kernel
theorem dX2_store_21 : decode cX2_store 21 = .ok (.iconst 1, 1) := by decide +kernel
theorem dX2_store_22 : decode cX2_store 22 = .ok (.bastore, 1) := by decide +kernel
theorem dX2_store_23 : decode cX2_store 23 = .ok (.return_, 1) := by decide +kernel
theorem dX2_bringBack_0 : decode cX2_bringBack 0 = .ok (.aload_n 0, 1) := by decide +kernel
theorem dX2_bringBack_1 : decode cX2_bringBack 1 = .ok (.getfield 11, 3) := by decide +kernel
theorem dX2_bringBack_4 : decode cX2_bringBack 4 = .ok (.iload_n 1, 1) := by decide +kernel
theorem dX2_bringBack_5 : decode cX2_bringBack 5 = .ok (.aaload, 1) := by decide +kernel
theorem dX2_bringBack_6 : decode cX2_bringBack 6 = .ok (.astore_n 3, 1) := by decide +kernel
theorem dX2_bringBack_7 : decode cX2_bringBack 7 = .ok (.aload_n 0, 1) := by decide +kernel
theorem dX2_bringBack_8 : decode cX2_bringBack 8 = .ok (.getfield 17, 3) := by decide +kernel
theorem dX2_bringBack_11 : decode cX2_bringBack 11 = .ok (.iload_n 1, 1) := by decide +kernel
theorem dX2_bringBack_12 : decode cX2_bringBack 12 = .ok (.baload, 1) := by decide +kernel
theorem dX2_bringBack_13 : decode cX2_bringBack 13 = .ok (.ifCond .eq 7, 3) := by decide +kernel
theorem dX2_bringBack_16 : decode cX2_bringBack 16 = .ok (.aload_n 3, 1) := by decide +kernel
theorem dX2_bringBack_17 : decode cX2_bringBack 17 = .ok (.ifnonnull 5, 3) := by decide +kernel
theorem dX2_bringBack_20 : decode cX2_bringBack 20 = .ok (.iconst 0, 1) := by decide +kernel
theorem dX2_bringBack_21 : decode cX2_bringBack 21 = .ok (.ireturn, 1) := by decide +kernel
theorem dX2_bringBack_22 : decode cX2_bringBack 22 = .ok (.aload_n 2, 1) := by decide +kernel
theorem dX2_bringBack_23 : decode cX2_bringBack 23 = .ok (.aload_n 3, 1) := by decide +kernel
theorem dX2_bringBack_24 : decode cX2_bringBack 24 = .ok (.invokevirtual 22, 3) := by decide +kernel
theorem dX2_bringBack_27 : decode cX2_bringBack 27 = .ok (.iconst 1, 1) := by decide +kernel
theorem dX2_bringBack_28 : decode cX2_bringBack 28 = .ok (.ireturn, 1) := by decide +kernel
theorem dX3_init_0 : decode cX3_init 0 = .ok (.aload_n 0, 1) := by decide +kernel
theorem dX3_init_1 : decode cX3_init 1 = .ok (.invokespecial 3, 3) := by decide +kernel
theorem dX3_init_4 : decode cX3_init 4 = .ok (.aload_n 0, 1) := by decide +kernel
theorem dX3_init_5 : decode cX3_init 5 = .ok (.bipush 7, 2) := by decide +kernel
theorem dX3_init_7 : decode cX3_init 7 = .ok (.newarray .long, 2) := by decide +kernel
theorem dX3_init_9 : decode cX3_init 9 = .ok (.putfield 9, 3) := by decide +kernel
theorem dX3_init_12 : decode cX3_init 12 = .ok (.return_, 1) := by decide +kernel
theorem dX3_weigh_0 : decode cX3_weigh 0 = .ok (.aload_n 0, 1) := by decide +kernel
theorem dX3_weigh_1 : decode cX3_weigh 1 = .ok (.iload_n 1, 1) := by decide +kernel
theorem dX3_weigh_2 : decode cX3_weigh 2 = .ok (.bipush 6, 2) := by decide +kernel
theorem dX3_weigh_4 : decode cX3_weigh 4 = .ok (.invokestatic 15, 3) := by decide +kernel
theorem dX3_weigh_7 : decode cX3_weigh 7 = .ok (.putfield 21, 3) := by decide +kernel
theorem dX3_weigh_10 : decode cX3_weigh 10 = .ok (.aload_n 0, 1) := by decide +kernel
theorem dX3_weigh_11 : decode cX3_weigh 11 = .ok (.iload_n 2, 1) := by decide +kernel
theorem dX3_weigh_12 : decode cX3_weigh 12 = .ok (.putfield 25, 3) := by decide +kernel
theorem dX3_weigh_15 : decode cX3_weigh 15 = .ok (.iconst 0, 1) := by decide +kernel
theorem dX3_weigh_16 : decode cX3_weigh 16 = .ok (.istore 6, 2) := by decide +kernel
theorem dX3_weigh_18 : decode cX3_weigh 18 = .ok (.iload 6, 2) := by decide +kernel
theorem dX3_weigh_20 : decode cX3_weigh 20 = .ok (.aload_n 0, 1) := by decide +kernel
theorem dX3_weigh_21 : decode cX3_weigh 21 = .ok (.getfield 21, 3) := by decide +kernel
theorem dX3_weigh_24 : decode cX3_weigh 24 = .ok (.if_icmp .gt 92, 3) := by decide +kernel
theorem dX3_weigh_27 : decode cX3_weigh 27 = .ok (.lconst 1, 1) := by decide +kernel
theorem dX3_weigh_28 : decode cX3_weigh 28 = .ok (.lstore 7, 2) := by decide +kernel
theorem dX3_weigh_30 : decode cX3_weigh 30 = .ok (.iconst 0, 1) := by decide +kernel
theorem dX3_weigh_31 : decode cX3_weigh 31 = .ok (.istore 9, 2) := by decide +kernel
theorem dX3_weigh_33 : decode cX3_weigh 33 = .ok (.iload 9, 2) := by decide +kernel
theorem dX3_weigh_35 : decode cX3_weigh 35 = .ok (.iload 6, 2) := by decide +kernel
theorem dX3_weigh_37 : decode cX3_weigh 37 = .ok (.if_icmp .ge 29, 3) := by decide +kernel
theorem dX3_weigh_40 : decode cX3_weigh 40 = .ok (.lload 7, 2) := by decide +kernel
theorem dX3_weigh_42 : decode cX3_weigh 42 = .ok (.iload_n 3, 1) := by decide +kernel
theorem dX3_weigh_43 : decode cX3_weigh 43 = .ok (.aload_n 0, 1) := by decide +kernel
theorem dX3_weigh_44 : decode cX3_weigh 44 = .ok (.iload 9, 2) := by decide +kernel
theorem dX3_weigh_46 : decode cX3_weigh 46 = .ok (.invokevirtual 28, 3) := by decide +kernel
theorem dX3_weigh_49 : decode cX3_weigh 49 = .ok (.imul, 1) := by decide +kernel
theorem dX3_weigh_50 : decode cX3_weigh 50 = .ok (.bipush 10, 2) := by decide +kernel
theorem dX3_weigh_52 : decode cX3_weigh 52 = .ok (.iload 4, 2) := by decide +kernel
theorem dX3_weigh_54 : decode cX3_weigh 54 = .ok (.imul, 1) := by decide +kernel
theorem dX3_weigh_55 : decode cX3_weigh 55 = .ok (.iadd, 1) := by decide +kernel
theorem dX3_weigh_56 : decode cX3_weigh 56 = .ok (.i2l, 1) := by decide +kernel
theorem dX3_weigh_57 : decode cX3_weigh 57 = .ok (.lmul, 1) := by decide +kernel
theorem dX3_weigh_58 : decode cX3_weigh 58 = .ok (.lstore 7, 2) := by decide +kernel
theorem dX3_weigh_60 : decode cX3_weigh 60 = .ok (.iinc 9 1, 3) := by decide +kernel
theorem dX3_weigh_63 : decode cX3_weigh 63 = .ok (.goto (-30), 3) := by decide +kernel
theorem dX3_weigh_66 : decode cX3_weigh 66 = .ok (.iload 6, 2) := by decide +kernel
theorem dX3_weigh_68 : decode cX3_weigh 68 = .ok (.iconst 1, 1) := by decide +kernel
theorem dX3_weigh_69 : decode cX3_weigh 69 = .ok (.iadd, 1) := by decide +kernel
theorem dX3_weigh_70 : decode cX3_weigh 70 = .ok (.istore 9, 2) := by decide +kernel
theorem dX3_weigh_72 : decode cX3_weigh 72 = .ok (.iload 9, 2) := by decide +kernel
theorem dX3_weigh_74 : decode cX3_weigh 74 = .ok (.aload_n 0, 1) := by decide +kernel
theorem dX3_weigh_75 : decode cX3_weigh 75 = .ok (.getfield 21, 3) := by decide +kernel
theorem dX3_weigh_78 : decode cX3_weigh 78 = .ok (.if_icmp .gt 23, 3) := by decide +kernel
theorem dX3_weigh_81 : decode cX3_weigh 81 = .ok (.lload 7, 2) := by decide +kernel
theorem dX3_weigh_83 : decode cX3_weigh 83 = .ok (.bipush 10, 2) := by decide +kernel
theorem dX3_weigh_85 : decode cX3_weigh 85 = .ok (.iload 9, 2) := by decide +kernel
theorem dX3_weigh_87 : decode cX3_weigh 87 = .ok (.imul, 1) := by decide +kernel
theorem dX3_weigh_88 : decode cX3_weigh 88 = .ok (.iload 5, 2) := by decide +kernel
theorem dX3_weigh_90 : decode cX3_weigh 90 = .ok (.imul, 1) := by decide +kernel
theorem dX3_weigh_91 : decode cX3_weigh 91 = .ok (.i2l, 1) := by decide +kernel
theorem dX3_weigh_92 : decode cX3_weigh 92 = .ok (.lmul, 1) := by decide +kernel
theorem dX3_weigh_93 : decode cX3_weigh 93 = .ok (.lstore 7, 2) := by decide +kernel
theorem dX3_weigh_95 : decode cX3_weigh 95 = .ok (.iinc 9 1, 3) := by decide +kernel
theorem dX3_weigh_98 : decode cX3_weigh 98 = .ok (.goto (-26), 3) := by decide +kernel
theorem dX3_weigh_101 : decode cX3_weigh 101 = .ok (.aload_n 0, 1) := by decide +kernel
theorem dX3_weigh_102 : decode cX3_weigh 102 = .ok (.getfield 9, 3) := by decide +kernel
theorem dX3_weigh_105 : decode cX3_weigh 105 = .ok (.iload 6, 2) := by decide +kernel
theorem dX3_weigh_107 : decode cX3_weigh 107 = .ok (.lload 7, 2) := by decide +kernel
theorem dX3_weigh_109 : decode cX3_weigh 109 = .ok (.lastore, 1) := by decide +kernel
theorem dX3_weigh_110 : decode cX3_weigh 110 = .ok (.iinc 6 1, 3) := by decide +kernel
theorem dX3_weigh_113 : decode cX3_weigh 113 = .ok (.goto (-95), 3) := by decide +kernel
theorem dX3_weigh_116 : decode cX3_weigh 116 = .ok (.return_, 1) := by decide +kernel
theorem dX3_chanceWith_0 : decode cX3_chanceWith 0 = .ok (.aload_n 0, 1) := by decide +kernel
theorem dX3_chanceWith_1 : decode cX3_chanceWith 1 = .ok (.getfield 21, 3) := by decide +kernel
theorem dX3_chanceWith_4 : decode cX3_chanceWith 4 = .ok (.iload_n 1, 1) := by decide +kernel
theorem dX3_chanceWith_5 : decode cX3_chanceWith 5 = .ok (.isub, 1) := by decide +kernel
theorem dX3_chanceWith_6 : decode cX3_chanceWith 6 = .ok (.aload_n 0, 1) := by decide +kernel
theorem dX3_chanceWith_7 : decode cX3_chanceWith 7 = .ok (.getfield 25, 3) := by decide +kernel
theorem dX3_chanceWith_10 : decode cX3_chanceWith 10 = .ok (.invokestatic 32, 3) := by decide +kernel
theorem dX3_chanceWith_13 : decode cX3_chanceWith 13 = .ok (.ireturn, 1) := by decide +kernel
theorem dX3_allWeights_0 : decode cX3_allWeights 0 = .ok (.lconst 0, 1) := by decide +kernel
theorem dX3_allWeights_1 : decode cX3_allWeights 1 = .ok (.lstore_n 1, 1) := by decide +kernel
theorem dX3_allWeights_2 : decode cX3_allWeights 2 = .ok (.iconst 0, 1) := by decide +kernel
theorem dX3_allWeights_3 : decode cX3_allWeights 3 = .ok (.istore_n 3, 1) := by decide +kernel
theorem dX3_allWeights_4 : decode cX3_allWeights 4 = .ok (.iload_n 3, 1) := by decide +kernel
theorem dX3_allWeights_5 : decode cX3_allWeights 5 = .ok (.aload_n 0, 1) := by decide +kernel
theorem dX3_allWeights_6 : decode cX3_allWeights 6 = .ok (.getfield 21, 3) := by decide +kernel
theorem dX3_allWeights_9 : decode cX3_allWeights 9 = .ok (.if_icmp .gt 18, 3) := by decide +kernel
theorem dX3_allWeights_12 : decode cX3_allWeights 12 = .ok (.lload_n 1, 1) := by decide +kernel
theorem dX3_allWeights_13 : decode cX3_allWeights 13 = .ok (.aload_n 0, 1) := by decide +kernel
theorem dX3_allWeights_14 : decode cX3_allWeights 14 = .ok (.getfield 9, 3) := by decide +kernel
theorem dX3_allWeights_17 : decode cX3_allWeights 17 = .ok (.iload_n 3, 1) := by decide +kernel
theorem dX3_allWeights_18 : decode cX3_allWeights 18 = .ok (.laload, 1) := by decide +kernel
theorem dX3_allWeights_19 : decode cX3_allWeights 19 = .ok (.ladd, 1) := by decide +kernel
theorem dX3_allWeights_20 : decode cX3_allWeights 20 = .ok (.lstore_n 1, 1) := by decide +kernel
theorem dX3_allWeights_21 : decode cX3_allWeights 21 = .ok (.iinc 3 1, 3) := by decide +kernel
theorem dX3_allWeights_24 : decode cX3_allWeights 24 = .ok (.goto (-20), 3) := by decide +kernel
theorem dX3_allWeights_27 : decode cX3_allWeights 27 = .ok (.lload_n 1, 1) := by decide +kernel
theorem dX3_allWeights_28 : decode cX3_allWeights 28 = .ok (.lreturn, 1) := by decide +kernel
theorem dX3_upper_0 : decode cX3_upper 0 = .ok (.iload_n 1, 1) := by decide +kernel
theorem dX3_upper_1 : decode cX3_upper 1 = .ok (.iconst 1, 1) := by decide +kernel
theorem dX3_upper_2 : decode cX3_upper 2 = .ok (.if_icmp .ne 13, 3) := by decide +kernel
theorem dX3_upper_5 : decode cX3_upper 5 = .ok (.aload_n 0, 1) := by decide +kernel
theorem dX3_upper_6 : decode cX3_upper 6 = .ok (.getfield 9, 3) := by decide +kernel
theorem dX3_upper_9 : decode cX3_upper 9 = .ok (.aload_n 0, 1) := by decide +kernel
theorem dX3_upper_10 : decode cX3_upper 10 = .ok (.getfield 21, 3) := by decide +kernel
theorem dX3_upper_13 : decode cX3_upper 13 = .ok (.laload, 1) := by decide +kernel
theorem dX3_upper_14 : decode cX3_upper 14 = .ok (.lreturn, 1) := by decide +kernel
theorem dX3_upper_15 : decode cX3_upper 15 = .ok (.lconst 0, 1) := by decide +kernel
theorem dX3_upper_16 : decode cX3_upper 16 = .ok (.lstore_n 2, 1) := by decide +kernel
theorem dX3_upper_17 : decode cX3_upper 17 = .ok (.iconst 0, 1) := by decide +kernel
theorem dX3_upper_18 : decode cX3_upper 18 = .ok (.istore 4, 2) := by decide +kernel
theorem dX3_upper_20 : decode cX3_upper 20 = .ok (.iload 4, 2) := by decide +kernel
theorem dX3_upper_22 : decode cX3_upper 22 = .ok (.aload_n 0, 1) := by decide +kernel
theorem dX3_upper_23 : decode cX3_upper 23 = .ok (.getfield 21, 3) := by decide +kernel
theorem dX3_upper_26 : decode cX3_upper 26 = .ok (.if_icmp .gt 39, 3) := by decide +kernel
theorem dX3_upper_29 : decode cX3_upper 29 = .ok (.lload_n 2, 1) := by decide +kernel
theorem dX3_upper_30 : decode cX3_upper 30 = .ok (.aload_n 0, 1) := by decide +kernel
theorem dX3_upper_31 : decode cX3_upper 31 = .ok (.getfield 9, 3) := by decide +kernel
theorem dX3_upper_34 : decode cX3_upper 34 = .ok (.iload 4, 2) := by decide +kernel
theorem dX3_upper_36 : decode cX3_upper 36 = .ok (.laload, 1) := by decide +kernel
theorem dX3_upper_37 : decode cX3_upper 37 = .ok (.iload_n 1, 1) := by decide +kernel
theorem dX3_upper_38 : decode cX3_upper 38 = .ok (.ifCond .ne 15, 3) := by decide +kernel
theorem dX3_upper_41 : decode cX3_upper 41 = .ok (.bipush 10, 2) := by decide +kernel
theorem dX3_upper_43 : decode cX3_upper 43 = .ok (.aload_n 0, 1) := by decide +kernel
theorem dX3_upper_44 : decode cX3_upper 44 = .ok (.iload 4, 2) := by decide +kernel
theorem dX3_upper_46 : decode cX3_upper 46 = .ok (.invokevirtual 28, 3) := by decide +kernel
theorem dX3_upper_49 : decode cX3_upper 49 = .ok (.isub, 1) := by decide +kernel
theorem dX3_upper_50 : decode cX3_upper 50 = .ok (.goto 5, 3) := by decide +kernel
theorem dX3_upper_53 : decode cX3_upper 53 = .ok (.iload 4, 2) := by decide +kernel
theorem dX3_upper_55 : decode cX3_upper 55 = .ok (.i2l, 1) := by decide +kernel
theorem dX3_upper_56 : decode cX3_upper 56 = .ok (.lmul, 1) := by decide +kernel
theorem dX3_upper_57 : decode cX3_upper 57 = .ok (.ladd, 1) := by decide +kernel
theorem dX3_upper_58 : decode cX3_upper 58 = .ok (.lstore_n 2, 1) := by decide +kernel
theorem dX3_upper_59 : decode cX3_upper 59 = .ok (.iinc 4 1, 3) := by decide +kernel
theorem dX3_upper_62 : decode cX3_upper 62 = .ok (.goto (-42), 3) := by decide +kernel
theorem dX3_upper_65 : decode cX3_upper 65 = .ok (.lload_n 2, 1) := by decide +kernel
theorem dX3_upper_66 : decode cX3_upper 66 = .ok (.lreturn, 1) := by decide +kernel
theorem dX3_lower_0 : decode cX3_lower 0 = .ok (.iload_n 1, 1) := by decide +kernel
theorem dX3_lower_1 : decode cX3_lower 1 = .ok (.ifCond .ne 14, 3) := by decide +kernel
theorem dX3_lower_4 : decode cX3_lower 4 = .ok (.ldc2_w 35, 3) := by decide +kernel
theorem dX3_lower_7 : decode cX3_lower 7 = .ok (.aload_n 0, 1) := by decide +kernel
theorem dX3_lower_8 : decode cX3_lower 8 = .ok (.invokevirtual 37, 3) := by decide +kernel
theorem dX3_lower_11 : decode cX3_lower 11 = .ok (.lmul, 1) := by decide +kernel
theorem dX3_lower_12 : decode cX3_lower 12 = .ok (.goto 7, 3) := by decide +kernel
theorem dX3_lower_15 : decode cX3_lower 15 = .ok (.aload_n 0, 1) := by decide +kernel
theorem dX3_lower_16 : decode cX3_lower 16 = .ok (.invokevirtual 37, 3) := by decide +kernel
theorem dX3_lower_19 : decode cX3_lower 19 = .ok (.lreturn, 1) := by decide +kernel
theorem dX3_losesMovingAtMostOnceIn_0 : decode cX3_losesMovingAtMostOnceIn 0 = .ok (.aload_n 0, 1) := by decide +kernel
theorem dX3_losesMovingAtMostOnceIn_1 : decode cX3_losesMovingAtMostOnceIn 1 = .ok (.iconst 1, 1) := by decide +kernel
theorem dX3_losesMovingAtMostOnceIn_2 : decode cX3_losesMovingAtMostOnceIn 2 = .ok (.invokevirtual 41, 3) := by decide +kernel
theorem dX3_losesMovingAtMostOnceIn_5 : decode cX3_losesMovingAtMostOnceIn 5 = .ok (.iload_n 1, 1) := by decide +kernel
theorem dX3_losesMovingAtMostOnceIn_6 : decode cX3_losesMovingAtMostOnceIn 6 = .ok (.i2l, 1) := by decide +kernel
theorem dX3_losesMovingAtMostOnceIn_7 : decode cX3_losesMovingAtMostOnceIn 7 = .ok (.lmul, 1) := by decide +kernel
theorem dX3_losesMovingAtMostOnceIn_8 : decode cX3_losesMovingAtMostOnceIn 8 = .ok (.aload_n 0, 1) := by decide +kernel
theorem dX3_losesMovingAtMostOnceIn_9 : decode cX3_losesMovingAtMostOnceIn 9 = .ok (.iconst 1, 1) := by decide +kernel
theorem dX3_losesMovingAtMostOnceIn_10 : decode cX3_losesMovingAtMostOnceIn 10 = .ok (.invokevirtual 45, 3) := by decide +kernel
theorem dX3_losesMovingAtMostOnceIn_13 : decode cX3_losesMovingAtMostOnceIn 13 = .ok (.lcmp, 1) := by decide +kernel
theorem dX3_losesMovingAtMostOnceIn_14 : decode cX3_losesMovingAtMostOnceIn 14 = .ok (.ifCond .gt 7, 3) := by decide +kernel
theorem dX3_losesMovingAtMostOnceIn_17 : decode cX3_losesMovingAtMostOnceIn 17 = .ok (.iconst 1, 1) := by decide +kernel
theorem dX3_losesMovingAtMostOnceIn_18 : decode cX3_losesMovingAtMostOnceIn 18 = .ok (.goto 4, 3) := by decide +kernel
theorem dX3_losesMovingAtMostOnceIn_21 : decode cX3_losesMovingAtMostOnceIn 21 = .ok (.iconst 0, 1) := by decide +kernel
theorem dX3_losesMovingAtMostOnceIn_22 : decode cX3_losesMovingAtMostOnceIn 22 = .ok (.ireturn, 1) := by decide +kernel
theorem dX4_init_0 : decode cX4_init 0 = .ok (.aload_n 0, 1) := by decide +kernel
theorem dX4_init_1 : decode cX4_init 1 = .ok (.invokespecial 3, 3) := by decide +kernel
theorem dX4_init_4 : decode cX4_init 4 = .ok (.aload_n 0, 1) := by decide +kernel
theorem dX4_init_5 : decode cX4_init 5 = .ok (.bipush 120, 2) := by decide +kernel
theorem dX4_init_7 : decode cX4_init 7 = .ok (.newarray .int, 2) := by decide +kernel
theorem dX4_init_9 : decode cX4_init 9 = .ok (.putfield 9, 3) := by decide +kernel
theorem dX4_init_12 : decode cX4_init 12 = .ok (.aload_n 0, 1) := by decide +kernel
theorem dX4_init_13 : decode cX4_init 13 = .ok (.new 15, 3) := by decide +kernel
theorem dX4_init_16 : decode cX4_init 16 = .ok (.dup, 1) := by decide +kernel
theorem dX4_init_17 : decode cX4_init 17 = .ok (.invokespecial 17, 3) := by decide +kernel
theorem dX4_init_20 : decode cX4_init 20 = .ok (.putfield 18, 3) := by decide +kernel
theorem dX4_init_23 : decode cX4_init 23 = .ok (.aload_n 0, 1) := by decide +kernel
theorem dX4_init_24 : decode cX4_init 24 = .ok (.iconst 5, 1) := by decide +kernel
theorem dX4_init_25 : decode cX4_init 25 = .ok (.newarray .int, 2) := by decide +kernel
theorem dX4_init_27 : decode cX4_init 27 = .ok (.putfield 22, 3) := by decide +kernel
theorem dX4_init_30 : decode cX4_init 30 = .ok (.return_, 1) := by decide +kernel
theorem dX4_append_0 : decode cX4_append 0 = .ok (.aload_n 0, 1) := by decide +kernel
theorem dX4_append_1 : decode cX4_append 1 = .ok (.getfield 25, 3) := by decide +kernel
theorem dX4_append_4 : decode cX4_append 4 = .ok (.bipush 120, 2) := by decide +kernel
theorem dX4_append_6 : decode cX4_append 6 = .ok (.if_icmp .lt 5, 3) := by decide +kernel
theorem dX4_append_9 : decode cX4_append 9 = .ok (.iconst 0, 1) := by decide +kernel
theorem dX4_append_10 : decode cX4_append 10 = .ok (.ireturn, 1) := by decide +kernel
theorem dX4_append_11 : decode cX4_append 11 = .ok (.aload_n 0, 1) := by decide +kernel
theorem dX4_append_12 : decode cX4_append 12 = .ok (.getfield 9, 3) := by decide +kernel
theorem dX4_append_15 : decode cX4_append 15 = .ok (.aload_n 0, 1) := by decide +kernel
theorem dX4_append_16 : decode cX4_append 16 = .ok (.getfield 25, 3) := by decide +kernel
theorem dX4_append_19 : decode cX4_append 19 = .ok (.iload_n 1, 1) := by decide +kernel
theorem dX4_append_20 : decode cX4_append 20 = .ok (.iastore, 1) := by decide +kernel
theorem dX4_append_21 : decode cX4_append 21 = .ok (.aload_n 0, 1) := by decide +kernel
theorem dX4_append_22 : decode cX4_append 22 = .ok (.dup, 1) := by decide +kernel
theorem dX4_append_23 : decode cX4_append 23 = .ok (.getfield 25, 3) := by decide +kernel
theorem dX4_append_26 : decode cX4_append 26 = .ok (.iconst 1, 1) := by decide +kernel
theorem dX4_append_27 : decode cX4_append 27 = .ok (.iadd, 1) := by decide +kernel
theorem dX4_append_28 : decode cX4_append 28 = .ok (.putfield 25, 3) := by decide +kernel
theorem dX4_append_31 : decode cX4_append 31 = .ok (.iconst 1, 1) := by decide +kernel
theorem dX4_append_32 : decode cX4_append 32 = .ok (.ireturn, 1) := by decide +kernel
theorem dX4_read_0 : decode cX4_read 0 = .ok (.aload_n 0, 1) := by decide +kernel
theorem dX4_read_1 : decode cX4_read 1 = .ok (.getfield 18, 3) := by decide +kernel
theorem dX4_read_4 : decode cX4_read 4 = .ok (.invokevirtual 29, 3) := by decide +kernel
theorem dX4_read_7 : decode cX4_read 7 = .ok (.aload_n 0, 1) := by decide +kernel
theorem dX4_read_8 : decode cX4_read 8 = .ok (.getfield 22, 3) := by decide +kernel
theorem dX4_read_11 : decode cX4_read 11 = .ok (.iconst 0, 1) := by decide +kernel
theorem dX4_read_12 : decode cX4_read 12 = .ok (.invokestatic 32, 3) := by decide +kernel
theorem dX4_read_15 : decode cX4_read 15 = .ok (.aload_n 0, 1) := by decide +kernel
theorem dX4_read_16 : decode cX4_read 16 = .ok (.iconst 0, 1) := by decide +kernel
theorem dX4_read_17 : decode cX4_read 17 = .ok (.putfield 38, 3) := by decide +kernel
theorem dX4_read_20 : decode cX4_read 20 = .ok (.iconst 0, 1) := by decide +kernel
theorem dX4_read_21 : decode cX4_read 21 = .ok (.istore_n 1, 1) := by decide +kernel
theorem dX4_read_22 : decode cX4_read 22 = .ok (.aload_n 0, 1) := by decide +kernel
theorem dX4_read_23 : decode cX4_read 23 = .ok (.invokevirtual 41, 3) := by decide +kernel
theorem dX4_read_26 : decode cX4_read 26 = .ok (.aload_n 0, 1) := by decide +kernel
theorem dX4_read_27 : decode cX4_read 27 = .ok (.getfield 44, 3) := by decide +kernel
theorem dX4_read_30 : decode cX4_read 30 = .ok (.ifCond .eq 78, 3) := by decide +kernel
theorem dX4_read_33 : decode cX4_read 33 = .ok (.iload_n 1, 1) := by decide +kernel
theorem dX4_read_34 : decode cX4_read 34 = .ok (.bipush 120, 2) := by decide +kernel
theorem dX4_read_36 : decode cX4_read 36 = .ok (.if_icmp .ge 72, 3) := by decide +kernel
theorem dX4_read_39 : decode cX4_read 39 = .ok (.aload_n 0, 1) := by decide +kernel
theorem dX4_read_40 : decode cX4_read 40 = .ok (.getfield 44, 3) := by decide +kernel
theorem dX4_read_43 : decode cX4_read 43 = .ok (.iconst 1, 1) := by decide +kernel
theorem dX4_read_44 : decode cX4_read 44 = .ok (.if_icmp .ne 40, 3) := by decide +kernel
theorem dX4_read_47 : decode cX4_read 47 = .ok (.aload_n 0, 1) := by decide +kernel
theorem dX4_read_48 : decode cX4_read 48 = .ok (.getfield 47, 3) := by decide +kernel
theorem dX4_read_51 : decode cX4_read 51 = .ok (.bipush 99, 2) := by decide +kernel
theorem dX4_read_53 : decode cX4_read 53 = .ok (.if_icmp .ne 13, 3) := by decide +kernel
theorem dX4_read_56 : decode cX4_read 56 = .ok (.aload_n 0, 1) := by decide +kernel
theorem dX4_read_57 : decode cX4_read 57 = .ok (.invokevirtual 50, 3) := by decide +kernel
theorem dX4_read_60 : decode cX4_read 60 = .ok (.ifCond .eq 24, 3) := by decide +kernel
theorem dX4_read_63 : decode cX4_read 63 = .ok (.goto 17, 3) := by decide +kernel
theorem dX4_read_66 : decode cX4_read 66 = .ok (.aload_n 0, 1) := by decide +kernel
theorem dX4_read_67 : decode cX4_read 67 = .ok (.aload_n 0, 1) := by decide +kernel
theorem dX4_read_68 : decode cX4_read 68 = .ok (.getfield 47, 3) := by decide +kernel
theorem dX4_read_71 : decode cX4_read 71 = .ok (.invokestatic 54, 3) := by decide +kernel
theorem dX4_read_74 : decode cX4_read 74 = .ok (.invokevirtual 58, 3) := by decide +kernel
theorem dX4_read_77 : decode cX4_read 77 = .ok (.ifCond .eq 7, 3) := by decide +kernel
theorem dX4_read_80 : decode cX4_read 80 = .ok (.iconst 1, 1) := by decide +kernel
theorem dX4_read_81 : decode cX4_read 81 = .ok (.goto 4, 3) := by decide +kernel
theorem dX4_read_84 : decode cX4_read 84 = .ok (.iconst 0, 1) := by decide +kernel
theorem dX4_read_85 : decode cX4_read 85 = .ok (.istore_n 2, 1) := by decide +kernel
theorem dX4_read_86 : decode cX4_read 86 = .ok (.iload_n 2, 1) := by decide +kernel
theorem dX4_read_87 : decode cX4_read 87 = .ok (.ifCond .ne 11, 3) := by decide +kernel
theorem dX4_read_90 : decode cX4_read 90 = .ok (.bipush (-10), 2) := by decide +kernel
theorem dX4_read_92 : decode cX4_read 92 = .ok (.aload_n 0, 1) := by decide +kernel
theorem dX4_read_93 : decode cX4_read 93 = .ok (.getfield 62, 3) := by decide +kernel
theorem dX4_read_96 : decode cX4_read 96 = .ok (.isub, 1) := by decide +kernel
theorem dX4_read_97 : decode cX4_read 97 = .ok (.ireturn, 1) := by decide +kernel
theorem dX4_read_98 : decode cX4_read 98 = .ok (.iinc 1 1, 3) := by decide +kernel
theorem dX4_read_101 : decode cX4_read 101 = .ok (.aload_n 0, 1) := by decide +kernel
theorem dX4_read_102 : decode cX4_read 102 = .ok (.invokevirtual 41, 3) := by decide +kernel
theorem dX4_read_105 : decode cX4_read 105 = .ok (.goto (-79), 3) := by decide +kernel
theorem dX4_read_108 : decode cX4_read 108 = .ok (.iload_n 1, 1) := by decide +kernel
theorem dX4_read_109 : decode cX4_read 109 = .ok (.ireturn, 1) := by decide +kernel
theorem dX4_readCell_0 : decode cX4_readCell 0 = .ok (.aload_n 0, 1) := by decide +kernel
theorem dX4_readCell_1 : decode cX4_readCell 1 = .ok (.getfield 18, 3) := by decide +kernel
theorem dX4_readCell_4 : decode cX4_readCell 4 = .ok (.getfield 65, 3) := by decide +kernel
theorem dX4_readCell_7 : decode cX4_readCell 7 = .ok (.istore_n 1, 1) := by decide +kernel
theorem dX4_readCell_8 : decode cX4_readCell 8 = .ok (.iload_n 1, 1) := by decide +kernel
theorem dX4_readCell_9 : decode cX4_readCell 9 = .ok (.iconst 4, 1) := by decide +kernel
theorem dX4_readCell_10 : decode cX4_readCell 10 = .ok (.if_icmp .ge 13, 3) := by decide +kernel
theorem dX4_readCell_13 : decode cX4_readCell 13 = .ok (.aload_n 0, 1) := by decide +kernel
theorem dX4_readCell_14 : decode cX4_readCell 14 = .ok (.iconst 1, 1) := by decide +kernel
theorem dX4_readCell_15 : decode cX4_readCell 15 = .ok (.bipush 6, 2) := by decide +kernel
theorem dX4_readCell_17 : decode cX4_readCell 17 = .ok (.invokevirtual 68, 3) := by decide +kernel
theorem dX4_readCell_20 : decode cX4_readCell 20 = .ok (.ifCond .ne 5, 3) := by decide +kernel
theorem dX4_readCell_23 : decode cX4_readCell 23 = .ok (.iconst 0, 1) := by decide +kernel
theorem dX4_readCell_24 : decode cX4_readCell 24 = .ok (.ireturn, 1) := by decide +kernel
theorem dX4_readCell_25 : decode cX4_readCell 25 = .ok (.aload_n 0, 1) := by decide +kernel
theorem dX4_readCell_26 : decode cX4_readCell 26 = .ok (.getfield 18, 3) := by decide +kernel
theorem dX4_readCell_29 : decode cX4_readCell 29 = .ok (.getfield 72, 3) := by decide +kernel
theorem dX4_readCell_32 : decode cX4_readCell 32 = .ok (.iload_n 1, 1) := by decide +kernel
theorem dX4_readCell_33 : decode cX4_readCell 33 = .ok (.aload_n 0, 1) := by decide +kernel
theorem dX4_readCell_34 : decode cX4_readCell 34 = .ok (.getfield 47, 3) := by decide +kernel
theorem dX4_readCell_37 : decode cX4_readCell 37 = .ok (.iastore, 1) := by decide +kernel
theorem dX4_readCell_38 : decode cX4_readCell 38 = .ok (.aload_n 0, 1) := by decide +kernel
theorem dX4_readCell_39 : decode cX4_readCell 39 = .ok (.iconst 0, 1) := by decide +kernel
theorem dX4_readCell_40 : decode cX4_readCell 40 = .ok (.aload_n 0, 1) := by decide +kernel
theorem dX4_readCell_41 : decode cX4_readCell 41 = .ok (.getfield 18, 3) := by decide +kernel
theorem dX4_readCell_44 : decode cX4_readCell 44 = .ok (.iload_n 1, 1) := by decide +kernel
theorem dX4_readCell_45 : decode cX4_readCell 45 = .ok (.invokevirtual 75, 3) := by decide +kernel
theorem dX4_readCell_48 : decode cX4_readCell 48 = .ok (.invokevirtual 68, 3) := by decide +kernel
theorem dX4_readCell_51 : decode cX4_readCell 51 = .ok (.ifCond .ne 5, 3) := by decide +kernel
theorem dX4_readCell_54 : decode cX4_readCell 54 = .ok (.iconst 0, 1) := by decide +kernel
theorem dX4_readCell_55 : decode cX4_readCell 55 = .ok (.ireturn, 1) := by decide +kernel
theorem dX4_readCell_56 : decode cX4_readCell 56 = .ok (.aload_n 0, 1) := by decide +kernel
theorem dX4_readCell_57 : decode cX4_readCell 57 = .ok (.getfield 18, 3) := by decide +kernel
theorem dX4_readCell_60 : decode cX4_readCell 60 = .ok (.getfield 78, 3) := by decide +kernel
theorem dX4_readCell_63 : decode cX4_readCell 63 = .ok (.iload_n 1, 1) := by decide +kernel
theorem dX4_readCell_64 : decode cX4_readCell 64 = .ok (.aload_n 0, 1) := by decide +kernel
theorem dX4_readCell_65 : decode cX4_readCell 65 = .ok (.getfield 47, 3) := by decide +kernel
theorem dX4_readCell_68 : decode cX4_readCell 68 = .ok (.iastore, 1) := by decide +kernel
theorem dX4_readCell_69 : decode cX4_readCell 69 = .ok (.aload_n 0, 1) := by decide +kernel
theorem dX4_readCell_70 : decode cX4_readCell 70 = .ok (.iconst 0, 1) := by decide +kernel
theorem dX4_readCell_71 : decode cX4_readCell 71 = .ok (.iconst 4, 1) := by decide +kernel
theorem dX4_readCell_72 : decode cX4_readCell 72 = .ok (.invokevirtual 68, 3) := by decide +kernel
theorem dX4_readCell_75 : decode cX4_readCell 75 = .ok (.ifCond .ne 5, 3) := by decide +kernel
theorem dX4_readCell_78 : decode cX4_readCell 78 = .ok (.iconst 0, 1) := by decide +kernel
theorem dX4_readCell_79 : decode cX4_readCell 79 = .ok (.ireturn, 1) := by decide +kernel
theorem dX4_readCell_80 : decode cX4_readCell 80 = .ok (.aload_n 0, 1) := by decide +kernel
theorem dX4_readCell_81 : decode cX4_readCell 81 = .ok (.getfield 18, 3) := by decide +kernel
theorem dX4_readCell_84 : decode cX4_readCell 84 = .ok (.getfield 81, 3) := by decide +kernel
theorem dX4_readCell_87 : decode cX4_readCell 87 = .ok (.iload_n 1, 1) := by decide +kernel
theorem dX4_readCell_88 : decode cX4_readCell 88 = .ok (.aload_n 0, 1) := by decide +kernel
theorem dX4_readCell_89 : decode cX4_readCell 89 = .ok (.getfield 47, 3) := by decide +kernel
theorem dX4_readCell_92 : decode cX4_readCell 92 = .ok (.iastore, 1) := by decide +kernel
theorem dX4_readCell_93 : decode cX4_readCell 93 = .ok (.aload_n 0, 1) := by decide +kernel
theorem dX4_readCell_94 : decode cX4_readCell 94 = .ok (.getfield 18, 3) := by decide +kernel
theorem dX4_readCell_97 : decode cX4_readCell 97 = .ok (.iload_n 1, 1) := by decide +kernel
theorem dX4_readCell_98 : decode cX4_readCell 98 = .ok (.iconst 1, 1) := by decide +kernel
theorem dX4_readCell_99 : decode cX4_readCell 99 = .ok (.iadd, 1) := by decide +kernel
theorem dX4_readCell_100 : decode cX4_readCell 100 = .ok (.putfield 65, 3) := by decide +kernel
theorem dX4_readCell_103 : decode cX4_readCell 103 = .ok (.aload_n 0, 1) := by decide +kernel
theorem dX4_readCell_104 : decode cX4_readCell 104 = .ok (.invokevirtual 84, 3) := by decide +kernel
theorem dX4_readCell_107 : decode cX4_readCell 107 = .ok (.ireturn, 1) := by decide +kernel
theorem dX4_readSetting_0 : decode cX4_readSetting 0 = .ok (.iload_n 1, 1) := by decide +kernel
theorem dX4_readSetting_1 : decode cX4_readSetting 1 = .ok (.bipush (-9), 2) := by decide +kernel
theorem dX4_readSetting_3 : decode cX4_readSetting 3 = .ok (.if_icmp .eq 12, 3) := by decide +kernel
theorem dX4_readSetting_6 : decode cX4_readSetting 6 = .ok (.aload_n 0, 1) := by decide +kernel
theorem dX4_readSetting_7 : decode cX4_readSetting 7 = .ok (.getfield 22, 3) := by decide +kernel
theorem dX4_readSetting_10 : decode cX4_readSetting 10 = .ok (.iload_n 1, 1) := by decide +kernel
theorem dX4_readSetting_11 : decode cX4_readSetting 11 = .ok (.iaload, 1) := by decide +kernel
theorem dX4_readSetting_12 : decode cX4_readSetting 12 = .ok (.ifCond .le 5, 3) := by decide +kernel
theorem dX4_readSetting_15 : decode cX4_readSetting 15 = .ok (.iconst 0, 1) := by decide +kernel
theorem dX4_readSetting_16 : decode cX4_readSetting 16 = .ok (.ireturn, 1) := by decide +kernel
theorem dX4_readSetting_17 : decode cX4_readSetting 17 = .ok (.aload_n 0, 1) := by decide +kernel
theorem dX4_readSetting_18 : decode cX4_readSetting 18 = .ok (.getfield 22, 3) := by decide +kernel
theorem dX4_readSetting_21 : decode cX4_readSetting 21 = .ok (.iload_n 1, 1) := by decide +kernel
theorem dX4_readSetting_22 : decode cX4_readSetting 22 = .ok (.dup2, 1) := by decide +kernel
theorem dX4_readSetting_23 : decode cX4_readSetting 23 = .ok (.iaload, 1) := by decide +kernel
theorem dX4_readSetting_24 : decode cX4_readSetting 24 = .ok (.iconst 1, 1) := by decide +kernel
theorem dX4_readSetting_25 : decode cX4_readSetting 25 = .ok (.iadd, 1) := by decide +kernel
theorem dX4_readSetting_26 : decode cX4_readSetting 26 = .ok (.iastore, 1) := by decide +kernel
theorem dX4_readSetting_27 : decode cX4_readSetting 27 = .ok (.aload_n 0, 1) := by decide +kernel
theorem dX4_readSetting_28 : decode cX4_readSetting 28 = .ok (.getstatic 87, 3) := by decide +kernel
theorem dX4_readSetting_31 : decode cX4_readSetting 31 = .ok (.iload_n 1, 1) := by decide +kernel
theorem dX4_readSetting_32 : decode cX4_readSetting 32 = .ok (.iaload, 1) := by decide +kernel
theorem dX4_readSetting_33 : decode cX4_readSetting 33 = .ok (.getstatic 90, 3) := by decide +kernel
theorem dX4_readSetting_36 : decode cX4_readSetting 36 = .ok (.iload_n 1, 1) := by decide +kernel
theorem dX4_readSetting_37 : decode cX4_readSetting 37 = .ok (.iaload, 1) := by decide +kernel
theorem dX4_readSetting_38 : decode cX4_readSetting 38 = .ok (.invokevirtual 68, 3) := by decide +kernel
theorem dX4_readSetting_41 : decode cX4_readSetting 41 = .ok (.ifCond .ne 5, 3) := by decide +kernel
theorem dX4_readSetting_44 : decode cX4_readSetting 44 = .ok (.iconst 0, 1) := by decide +kernel
theorem dX4_readSetting_45 : decode cX4_readSetting 45 = .ok (.ireturn, 1) := by decide +kernel
theorem dX4_readSetting_46 : decode cX4_readSetting 46 = .ok (.aload_n 0, 1) := by decide +kernel
theorem dX4_readSetting_47 : decode cX4_readSetting 47 = .ok (.getfield 18, 3) := by decide +kernel
theorem dX4_readSetting_50 : decode cX4_readSetting 50 = .ok (.getfield 93, 3) := by decide +kernel
theorem dX4_readSetting_53 : decode cX4_readSetting 53 = .ok (.iload_n 1, 1) := by decide +kernel
theorem dX4_readSetting_54 : decode cX4_readSetting 54 = .ok (.aload_n 0, 1) := by decide +kernel
theorem dX4_readSetting_55 : decode cX4_readSetting 55 = .ok (.getfield 47, 3) := by decide +kernel
theorem dX4_readSetting_58 : decode cX4_readSetting 58 = .ok (.iastore, 1) := by decide +kernel
theorem dX4_readSetting_59 : decode cX4_readSetting 59 = .ok (.aload_n 0, 1) := by decide +kernel
theorem dX4_readSetting_60 : decode cX4_readSetting 60 = .ok (.invokevirtual 84, 3) := by decide +kernel
theorem dX4_readSetting_63 : decode cX4_readSetting 63 = .ok (.ireturn, 1) := by decide +kernel
theorem dX4_readNumber_0 : decode cX4_readNumber 0 = .ok (.aload_n 0, 1) := by decide +kernel
theorem dX4_readNumber_1 : decode cX4_readNumber 1 = .ok (.invokevirtual 41, 3) := by decide +kernel
theorem dX4_readNumber_4 : decode cX4_readNumber 4 = .ok (.aload_n 0, 1) := by decide +kernel
theorem dX4_readNumber_5 : decode cX4_readNumber 5 = .ok (.getfield 44, 3) := by decide +kernel
theorem dX4_readNumber_8 : decode cX4_readNumber 8 = .ok (.iconst 2, 1) := by decide +kernel
theorem dX4_readNumber_9 : decode cX4_readNumber 9 = .ok (.if_icmp .ne 19, 3) := by decide +kernel
theorem dX4_readNumber_12 : decode cX4_readNumber 12 = .ok (.aload_n 0, 1) := by decide +kernel
theorem dX4_readNumber_13 : decode cX4_readNumber 13 = .ok (.getfield 47, 3) := by decide +kernel
theorem dX4_readNumber_16 : decode cX4_readNumber 16 = .ok (.iload_n 1, 1) := by decide +kernel
theorem dX4_readNumber_17 : decode cX4_readNumber 17 = .ok (.iload_n 2, 1) := by decide +kernel
theorem dX4_readNumber_18 : decode cX4_readNumber 18 = .ok (.invokestatic 96, 3) := by decide +kernel
theorem dX4_readNumber_21 : decode cX4_readNumber 21 = .ok (.ifCond .eq 7, 3) := by decide +kernel
theorem dX4_readNumber_24 : decode cX4_readNumber 24 = .ok (.iconst 1, 1) := by decide +kernel
theorem dX4_readNumber_25 : decode cX4_readNumber 25 = .ok (.goto 4, 3) := by decide +kernel
theorem dX4_readNumber_28 : decode cX4_readNumber 28 = .ok (.iconst 0, 1) := by decide +kernel
theorem dX4_readNumber_29 : decode cX4_readNumber 29 = .ok (.ireturn, 1) := by decide +kernel
theorem dX4_readStop_0 : decode cX4_readStop 0 = .ok (.aload_n 0, 1) := by decide +kernel
theorem dX4_readStop_1 : decode cX4_readStop 1 = .ok (.invokevirtual 41, 3) := by decide +kernel
theorem dX4_readStop_4 : decode cX4_readStop 4 = .ok (.aload_n 0, 1) := by decide +kernel
theorem dX4_readStop_5 : decode cX4_readStop 5 = .ok (.getfield 44, 3) := by decide +kernel
theorem dX4_readStop_8 : decode cX4_readStop 8 = .ok (.iconst 3, 1) := by decide +kernel
theorem dX4_readStop_9 : decode cX4_readStop 9 = .ok (.if_icmp .ne 7, 3) := by decide +kernel
theorem dX4_readStop_12 : decode cX4_readStop 12 = .ok (.iconst 1, 1) := by decide +kernel
theorem dX4_readStop_13 : decode cX4_readStop 13 = .ok (.goto 4, 3) := by decide +kernel
theorem dX4_readStop_16 : decode cX4_readStop 16 = .ok (.iconst 0, 1) := by decide +kernel
theorem dX4_readStop_17 : decode cX4_readStop 17 = .ok (.ireturn, 1) := by decide +kernel
theorem dX4_nextToken_0 : decode cX4_nextToken 0 = .ok (.aload_n 0, 1) := by decide +kernel
theorem dX4_nextToken_1 : decode cX4_nextToken 1 = .ok (.getfield 38, 3) := by decide +kernel
theorem dX4_nextToken_4 : decode cX4_nextToken 4 = .ok (.aload_n 0, 1) := by decide +kernel
theorem dX4_nextToken_5 : decode cX4_nextToken 5 = .ok (.getfield 25, 3) := by decide +kernel
theorem dX4_nextToken_8 : decode cX4_nextToken 8 = .ok (.if_icmp .ge 30, 3) := by decide +kernel
theorem dX4_nextToken_11 : decode cX4_nextToken 11 = .ok (.aload_n 0, 1) := by decide +kernel
theorem dX4_nextToken_12 : decode cX4_nextToken 12 = .ok (.getfield 9, 3) := by decide +kernel
theorem dX4_nextToken_15 : decode cX4_nextToken 15 = .ok (.aload_n 0, 1) := by decide +kernel
theorem dX4_nextToken_16 : decode cX4_nextToken 16 = .ok (.getfield 38, 3) := by decide +kernel
theorem dX4_nextToken_19 : decode cX4_nextToken 19 = .ok (.iaload, 1) := by decide +kernel
theorem dX4_nextToken_20 : decode cX4_nextToken 20 = .ok (.bipush 32, 2) := by decide +kernel
theorem dX4_nextToken_22 : decode cX4_nextToken 22 = .ok (.if_icmp .ne 16, 3) := by decide +kernel
theorem dX4_nextToken_25 : decode cX4_nextToken 25 = .ok (.aload_n 0, 1) := by decide +kernel
theorem dX4_nextToken_26 : decode cX4_nextToken 26 = .ok (.dup, 1) := by decide +kernel
theorem dX4_nextToken_27 : decode cX4_nextToken 27 = .ok (.getfield 38, 3) := by decide +kernel
theorem dX4_nextToken_30 : decode cX4_nextToken 30 = .ok (.iconst 1, 1) := by decide +kernel
theorem dX4_nextToken_31 : decode cX4_nextToken 31 = .ok (.iadd, 1) := by decide +kernel
theorem dX4_nextToken_32 : decode cX4_nextToken 32 = .ok (.putfield 38, 3) := by decide +kernel
theorem dX4_nextToken_35 : decode cX4_nextToken 35 = .ok (.goto (-35), 3) := by decide +kernel
theorem dX4_nextToken_38 : decode cX4_nextToken 38 = .ok (.aload_n 0, 1) := by decide +kernel
theorem dX4_nextToken_39 : decode cX4_nextToken 39 = .ok (.aload_n 0, 1) := by decide +kernel
theorem dX4_nextToken_40 : decode cX4_nextToken 40 = .ok (.getfield 38, 3) := by decide +kernel
theorem dX4_nextToken_43 : decode cX4_nextToken 43 = .ok (.putfield 62, 3) := by decide +kernel
theorem dX4_nextToken_46 : decode cX4_nextToken 46 = .ok (.aload_n 0, 1) := by decide +kernel
theorem dX4_nextToken_47 : decode cX4_nextToken 47 = .ok (.getfield 38, 3) := by decide +kernel
theorem dX4_nextToken_50 : decode cX4_nextToken 50 = .ok (.aload_n 0, 1) := by decide +kernel
theorem dX4_nextToken_51 : decode cX4_nextToken 51 = .ok (.getfield 25, 3) := by decide +kernel
theorem dX4_nextToken_54 : decode cX4_nextToken 54 = .ok (.if_icmp .lt 9, 3) := by decide +kernel
theorem dX4_nextToken_57 : decode cX4_nextToken 57 = .ok (.aload_n 0, 1) := by decide +kernel
theorem dX4_nextToken_58 : decode cX4_nextToken 58 = .ok (.iconst 0, 1) := by decide +kernel
theorem dX4_nextToken_59 : decode cX4_nextToken 59 = .ok (.putfield 44, 3) := by decide +kernel
theorem dX4_nextToken_62 : decode cX4_nextToken 62 = .ok (.return_, 1) := by decide +kernel
theorem dX4_nextToken_63 : decode cX4_nextToken 63 = .ok (.aload_n 0, 1) := by decide +kernel
theorem dX4_nextToken_64 : decode cX4_nextToken 64 = .ok (.getfield 9, 3) := by decide +kernel
theorem dX4_nextToken_67 : decode cX4_nextToken 67 = .ok (.aload_n 0, 1) := by decide +kernel
theorem dX4_nextToken_68 : decode cX4_nextToken 68 = .ok (.getfield 38, 3) := by decide +kernel
theorem dX4_nextToken_71 : decode cX4_nextToken 71 = .ok (.iaload, 1) := by decide +kernel
theorem dX4_nextToken_72 : decode cX4_nextToken 72 = .ok (.invokestatic 100, 3) := by decide +kernel
theorem dX4_nextToken_75 : decode cX4_nextToken 75 = .ok (.ifCond .eq 8, 3) := by decide +kernel
theorem dX4_nextToken_78 : decode cX4_nextToken 78 = .ok (.aload_n 0, 1) := by decide +kernel
theorem dX4_nextToken_79 : decode cX4_nextToken 79 = .ok (.invokevirtual 103, 3) := by decide +kernel
theorem dX4_nextToken_82 : decode cX4_nextToken 82 = .ok (.return_, 1) := by decide +kernel
theorem dX4_nextToken_83 : decode cX4_nextToken 83 = .ok (.aload_n 0, 1) := by decide +kernel
theorem dX4_nextToken_84 : decode cX4_nextToken 84 = .ok (.aload_n 0, 1) := by decide +kernel
theorem dX4_nextToken_85 : decode cX4_nextToken 85 = .ok (.getfield 9, 3) := by decide +kernel
theorem dX4_nextToken_88 : decode cX4_nextToken 88 = .ok (.aload_n 0, 1) := by decide +kernel
theorem dX4_nextToken_89 : decode cX4_nextToken 89 = .ok (.getfield 38, 3) := by decide +kernel
theorem dX4_nextToken_92 : decode cX4_nextToken 92 = .ok (.iaload, 1) := by decide +kernel
theorem dX4_nextToken_93 : decode cX4_nextToken 93 = .ok (.putfield 47, 3) := by decide +kernel
theorem dX4_nextToken_96 : decode cX4_nextToken 96 = .ok (.aload_n 0, 1) := by decide +kernel
theorem dX4_nextToken_97 : decode cX4_nextToken 97 = .ok (.aload_n 0, 1) := by decide +kernel
theorem dX4_nextToken_98 : decode cX4_nextToken 98 = .ok (.getfield 47, 3) := by decide +kernel
theorem dX4_nextToken_101 : decode cX4_nextToken 101 = .ok (.invokestatic 106, 3) := by decide +kernel
theorem dX4_nextToken_104 : decode cX4_nextToken 104 = .ok (.putfield 44, 3) := by decide +kernel
theorem dX4_nextToken_107 : decode cX4_nextToken 107 = .ok (.aload_n 0, 1) := by decide +kernel
theorem dX4_nextToken_108 : decode cX4_nextToken 108 = .ok (.dup, 1) := by decide +kernel
theorem dX4_nextToken_109 : decode cX4_nextToken 109 = .ok (.getfield 38, 3) := by decide +kernel
theorem dX4_nextToken_112 : decode cX4_nextToken 112 = .ok (.iconst 1, 1) := by decide +kernel
theorem dX4_nextToken_113 : decode cX4_nextToken 113 = .ok (.iadd, 1) := by decide +kernel
theorem dX4_nextToken_114 : decode cX4_nextToken 114 = .ok (.putfield 38, 3) := by decide +kernel
theorem dX4_nextToken_117 : decode cX4_nextToken 117 = .ok (.return_, 1) := by decide +kernel
theorem dX4_scanNumber_0 : decode cX4_scanNumber 0 = .ok (.aload_n 0, 1) := by decide +kernel
theorem dX4_scanNumber_1 : decode cX4_scanNumber 1 = .ok (.iconst 0, 1) := by decide +kernel
theorem dX4_scanNumber_2 : decode cX4_scanNumber 2 = .ok (.putfield 47, 3) := by decide +kernel
theorem dX4_scanNumber_5 : decode cX4_scanNumber 5 = .ok (.aload_n 0, 1) := by decide +kernel
theorem dX4_scanNumber_6 : decode cX4_scanNumber 6 = .ok (.getfield 38, 3) := by decide +kernel
theorem dX4_scanNumber_9 : decode cX4_scanNumber 9 = .ok (.aload_n 0, 1) := by decide +kernel
theorem dX4_scanNumber_10 : decode cX4_scanNumber 10 = .ok (.getfield 25, 3) := by decide +kernel
theorem dX4_scanNumber_13 : decode cX4_scanNumber 13 = .ok (.if_icmp .ge 60, 3) := by decide +kernel
theorem dX4_scanNumber_16 : decode cX4_scanNumber 16 = .ok (.aload_n 0, 1) := by decide +kernel
theorem dX4_scanNumber_17 : decode cX4_scanNumber 17 = .ok (.getfield 9, 3) := by decide +kernel
theorem dX4_scanNumber_20 : decode cX4_scanNumber 20 = .ok (.aload_n 0, 1) := by decide +kernel
theorem dX4_scanNumber_21 : decode cX4_scanNumber 21 = .ok (.getfield 38, 3) := by decide +kernel
theorem dX4_scanNumber_24 : decode cX4_scanNumber 24 = .ok (.iaload, 1) := by decide +kernel
theorem dX4_scanNumber_25 : decode cX4_scanNumber 25 = .ok (.invokestatic 100, 3) := by decide +kernel
theorem dX4_scanNumber_28 : decode cX4_scanNumber 28 = .ok (.ifCond .eq 45, 3) := by decide +kernel
theorem dX4_scanNumber_31 : decode cX4_scanNumber 31 = .ok (.aload_n 0, 1) := by decide +kernel
theorem dX4_scanNumber_32 : decode cX4_scanNumber 32 = .ok (.aload_n 0, 1) := by decide +kernel
theorem dX4_scanNumber_33 : decode cX4_scanNumber 33 = .ok (.getfield 47, 3) := by decide +kernel
theorem dX4_scanNumber_36 : decode cX4_scanNumber 36 = .ok (.bipush 100, 2) := by decide +kernel
theorem dX4_scanNumber_38 : decode cX4_scanNumber 38 = .ok (.invokestatic 109, 3) := by decide +kernel
theorem dX4_scanNumber_41 : decode cX4_scanNumber 41 = .ok (.bipush 10, 2) := by decide +kernel
theorem dX4_scanNumber_43 : decode cX4_scanNumber 43 = .ok (.imul, 1) := by decide +kernel
theorem dX4_scanNumber_44 : decode cX4_scanNumber 44 = .ok (.aload_n 0, 1) := by decide +kernel
theorem dX4_scanNumber_45 : decode cX4_scanNumber 45 = .ok (.getfield 9, 3) := by decide +kernel
theorem dX4_scanNumber_48 : decode cX4_scanNumber 48 = .ok (.aload_n 0, 1) := by decide +kernel
theorem dX4_scanNumber_49 : decode cX4_scanNumber 49 = .ok (.getfield 38, 3) := by decide +kernel
theorem dX4_scanNumber_52 : decode cX4_scanNumber 52 = .ok (.iaload, 1) := by decide +kernel
theorem dX4_scanNumber_53 : decode cX4_scanNumber 53 = .ok (.iadd, 1) := by decide +kernel
theorem dX4_scanNumber_54 : decode cX4_scanNumber 54 = .ok (.bipush 48, 2) := by decide +kernel
theorem dX4_scanNumber_56 : decode cX4_scanNumber 56 = .ok (.isub, 1) := by decide +kernel
theorem dX4_scanNumber_57 : decode cX4_scanNumber 57 = .ok (.putfield 47, 3) := by decide +kernel
theorem dX4_scanNumber_60 : decode cX4_scanNumber 60 = .ok (.aload_n 0, 1) := by decide +kernel
theorem dX4_scanNumber_61 : decode cX4_scanNumber 61 = .ok (.dup, 1) := by decide +kernel
theorem dX4_scanNumber_62 : decode cX4_scanNumber 62 = .ok (.getfield 38, 3) := by decide +kernel
theorem dX4_scanNumber_65 : decode cX4_scanNumber 65 = .ok (.iconst 1, 1) := by decide +kernel
theorem dX4_scanNumber_66 : decode cX4_scanNumber 66 = .ok (.iadd, 1) := by decide +kernel
theorem dX4_scanNumber_67 : decode cX4_scanNumber 67 = .ok (.putfield 38, 3) := by decide +kernel
theorem dX4_scanNumber_70 : decode cX4_scanNumber 70 = .ok (.goto (-65), 3) := by decide +kernel
theorem dX4_scanNumber_73 : decode cX4_scanNumber 73 = .ok (.aload_n 0, 1) := by decide +kernel
theorem dX4_scanNumber_74 : decode cX4_scanNumber 74 = .ok (.getfield 9, 3) := by decide +kernel
theorem dX4_scanNumber_77 : decode cX4_scanNumber 77 = .ok (.aload_n 0, 1) := by decide +kernel
theorem dX4_scanNumber_78 : decode cX4_scanNumber 78 = .ok (.getfield 62, 3) := by decide +kernel
theorem dX4_scanNumber_81 : decode cX4_scanNumber 81 = .ok (.iaload, 1) := by decide +kernel
theorem dX4_scanNumber_82 : decode cX4_scanNumber 82 = .ok (.bipush 48, 2) := by decide +kernel
theorem dX4_scanNumber_84 : decode cX4_scanNumber 84 = .ok (.if_icmp .ne 20, 3) := by decide +kernel
theorem dX4_scanNumber_87 : decode cX4_scanNumber 87 = .ok (.aload_n 0, 1) := by decide +kernel
theorem dX4_scanNumber_88 : decode cX4_scanNumber 88 = .ok (.getfield 38, 3) := by decide +kernel
theorem dX4_scanNumber_91 : decode cX4_scanNumber 91 = .ok (.aload_n 0, 1) := by decide +kernel
theorem dX4_scanNumber_92 : decode cX4_scanNumber 92 = .ok (.getfield 62, 3) := by decide +kernel
theorem dX4_scanNumber_95 : decode cX4_scanNumber 95 = .ok (.isub, 1) := by decide +kernel
theorem dX4_scanNumber_96 : decode cX4_scanNumber 96 = .ok (.iconst 1, 1) := by decide +kernel
theorem dX4_scanNumber_97 : decode cX4_scanNumber 97 = .ok (.if_icmp .le 7, 3) := by decide +kernel
theorem dX4_scanNumber_100 : decode cX4_scanNumber 100 = .ok (.iconst 1, 1) := by decide +kernel
theorem dX4_scanNumber_101 : decode cX4_scanNumber 101 = .ok (.goto 4, 3) := by decide +kernel
theorem dX4_scanNumber_104 : decode cX4_scanNumber 104 = .ok (.iconst 0, 1) := by decide +kernel
theorem dX4_scanNumber_105 : decode cX4_scanNumber 105 = .ok (.istore_n 1, 1) := by decide +kernel
theorem dX4_scanNumber_106 : decode cX4_scanNumber 106 = .ok (.aload_n 0, 1) := by decide +kernel
theorem dX4_scanNumber_107 : decode cX4_scanNumber 107 = .ok (.iload_n 1, 1) := by decide +kernel
theorem dX4_scanNumber_108 : decode cX4_scanNumber 108 = .ok (.ifCond .ne 12, 3) := by decide +kernel
theorem dX4_scanNumber_111 : decode cX4_scanNumber 111 = .ok (.aload_n 0, 1) := by decide +kernel
theorem dX4_scanNumber_112 : decode cX4_scanNumber 112 = .ok (.getfield 47, 3) := by decide +kernel
theorem dX4_scanNumber_115 : decode cX4_scanNumber 115 = .ok (.bipush 99, 2) := by decide +kernel
theorem dX4_scanNumber_117 : decode cX4_scanNumber 117 = .ok (.if_icmp .le 7, 3) := by decide +kernel
theorem dX4_scanNumber_120 : decode cX4_scanNumber 120 = .ok (.iconst 4, 1) := by decide +kernel
theorem dX4_scanNumber_121 : decode cX4_scanNumber 121 = .ok (.goto 4, 3) := by decide +kernel
theorem dX4_scanNumber_124 : decode cX4_scanNumber 124 = .ok (.iconst 2, 1) := by decide +kernel
theorem dX4_scanNumber_125 : decode cX4_scanNumber 125 = .ok (.putfield 44, 3) := by decide +kernel
theorem dX4_scanNumber_128 : decode cX4_scanNumber 128 = .ok (.return_, 1) := by decide +kernel
theorem dX4_isFigure_0 : decode cX4_isFigure 0 = .ok (.iload_n 0, 1) := by decide +kernel
theorem dX4_isFigure_1 : decode cX4_isFigure 1 = .ok (.bipush 48, 2) := by decide +kernel
theorem dX4_isFigure_3 : decode cX4_isFigure 3 = .ok (.if_icmp .lt 13, 3) := by decide +kernel
theorem dX4_isFigure_6 : decode cX4_isFigure 6 = .ok (.iload_n 0, 1) := by decide +kernel
theorem dX4_isFigure_7 : decode cX4_isFigure 7 = .ok (.bipush 57, 2) := by decide +kernel
theorem dX4_isFigure_9 : decode cX4_isFigure 9 = .ok (.if_icmp .gt 7, 3) := by decide +kernel
theorem dX4_isFigure_12 : decode cX4_isFigure 12 = .ok (.iconst 1, 1) := by decide +kernel
theorem dX4_isFigure_13 : decode cX4_isFigure 13 = .ok (.goto 4, 3) := by decide +kernel
theorem dX4_isFigure_16 : decode cX4_isFigure 16 = .ok (.iconst 0, 1) := by decide +kernel
theorem dX4_isFigure_17 : decode cX4_isFigure 17 = .ok (.ireturn, 1) := by decide +kernel
theorem dX4_kindOf_0 : decode cX4_kindOf 0 = .ok (.iload_n 0, 1) := by decide +kernel
theorem dX4_kindOf_1 : decode cX4_kindOf 1 = .ok (.bipush 59, 2) := by decide +kernel
theorem dX4_kindOf_3 : decode cX4_kindOf 3 = .ok (.if_icmp .ne 5, 3) := by decide +kernel
theorem dX4_kindOf_6 : decode cX4_kindOf 6 = .ok (.iconst 3, 1) := by decide +kernel
theorem dX4_kindOf_7 : decode cX4_kindOf 7 = .ok (.ireturn, 1) := by decide +kernel
theorem dX4_kindOf_8 : decode cX4_kindOf 8 = .ok (.iload_n 0, 1) := by decide +kernel
theorem dX4_kindOf_9 : decode cX4_kindOf 9 = .ok (.bipush 99, 2) := by decide +kernel
theorem dX4_kindOf_11 : decode cX4_kindOf 11 = .ok (.if_icmp .eq 12, 3) := by decide +kernel
theorem dX4_kindOf_14 : decode cX4_kindOf 14 = .ok (.iload_n 0, 1) := by decide +kernel
theorem dX4_kindOf_15 : decode cX4_kindOf 15 = .ok (.invokestatic 54, 3) := by decide +kernel
theorem dX4_kindOf_18 : decode cX4_kindOf 18 = .ok (.bipush (-9), 2) := by decide +kernel
theorem dX4_kindOf_20 : decode cX4_kindOf 20 = .ok (.if_icmp .eq 7, 3) := by decide +kernel
theorem dX4_kindOf_23 : decode cX4_kindOf 23 = .ok (.iconst 1, 1) := by decide +kernel
theorem dX4_kindOf_24 : decode cX4_kindOf 24 = .ok (.goto 4, 3) := by decide +kernel
theorem dX4_kindOf_27 : decode cX4_kindOf 27 = .ok (.iconst 4, 1) := by decide +kernel
theorem dX4_kindOf_28 : decode cX4_kindOf 28 = .ok (.ireturn, 1) := by decide +kernel
theorem dX4_settingOf_0 : decode cX4_settingOf 0 = .ok (.iconst 0, 1) := by decide +kernel
theorem dX4_settingOf_1 : decode cX4_settingOf 1 = .ok (.istore_n 1, 1) := by decide +kernel
theorem dX4_settingOf_2 : decode cX4_settingOf 2 = .ok (.iload_n 1, 1) := by decide +kernel
theorem dX4_settingOf_3 : decode cX4_settingOf 3 = .ok (.iconst 5, 1) := by decide +kernel
theorem dX4_settingOf_4 : decode cX4_settingOf 4 = .ok (.if_icmp .ge 20, 3) := by decide +kernel
theorem dX4_settingOf_7 : decode cX4_settingOf 7 = .ok (.getstatic 115, 3) := by decide +kernel
theorem dX4_settingOf_10 : decode cX4_settingOf 10 = .ok (.iload_n 1, 1) := by decide +kernel
theorem dX4_settingOf_11 : decode cX4_settingOf 11 = .ok (.caload, 1) := by decide +kernel
theorem dX4_settingOf_12 : decode cX4_settingOf 12 = .ok (.iload_n 0, 1) := by decide +kernel
theorem dX4_settingOf_13 : decode cX4_settingOf 13 = .ok (.if_icmp .ne 5, 3) := by decide +kernel
theorem dX4_settingOf_16 : decode cX4_settingOf 16 = .ok (.iload_n 1, 1) := by decide +kernel
theorem dX4_settingOf_17 : decode cX4_settingOf 17 = .ok (.ireturn, 1) := by decide +kernel
theorem dX4_settingOf_18 : decode cX4_settingOf 18 = .ok (.iinc 1 1, 3) := by decide +kernel
theorem dX4_settingOf_21 : decode cX4_settingOf 21 = .ok (.goto (-19), 3) := by decide +kernel
theorem dX4_settingOf_24 : decode cX4_settingOf 24 = .ok (.bipush (-9), 2) := by decide +kernel
theorem dX4_settingOf_26 : decode cX4_settingOf 26 = .ok (.ireturn, 1) := by decide +kernel
end
section
theorem dX5_init_0 : decode cX5_init 0 = .ok (.aload_n 0, 1) := by decide +kernel
theorem dX5_init_1 : decode cX5_init 1 = .ok (.invokespecial 3, 3) := by decide +kernel
theorem dX5_init_4 : decode cX5_init 4 = .ok (.aload_n 0, 1) := by decide +kernel
theorem dX5_init_5 : decode cX5_init 5 = .ok (.bipush 6, 2) := by decide +kernel
theorem dX5_init_7 : decode cX5_init 7 = .ok (.newarray .int, 2) := by decide +kernel
theorem dX5_init_9 : decode cX5_init 9 = .ok (.putfield 9, 3) := by decide +kernel
theorem dX5_init_12 : decode cX5_init 12 = .ok (.aload_n 0, 1) := by decide +kernel
theorem dX5_init_13 : decode cX5_init 13 = .ok (.bipush 6, 2) := by decide +kernel
theorem dX5_init_15 : decode cX5_init 15 = .ok (.newarray .int, 2) := by decide +kernel
theorem dX5_init_17 : decode cX5_init 17 = .ok (.putfield 15, 3) := by decide +kernel
theorem dX5_init_20 : decode cX5_init 20 = .ok (.return_, 1) := by decide +kernel
theorem dX5_add_0 : decode cX5_add 0 = .ok (.aload_n 0, 1) := by decide +kernel
theorem dX5_add_1 : decode cX5_add 1 = .ok (.getfield 18, 3) := by decide +kernel
theorem dX5_add_4 : decode cX5_add 4 = .ok (.bipush 6, 2) := by decide +kernel
theorem dX5_add_6 : decode cX5_add 6 = .ok (.if_icmp .lt 5, 3) := by decide +kernel
theorem dX5_add_9 : decode cX5_add 9 = .ok (.iconst 0, 1) := by decide +kernel
theorem dX5_add_10 : decode cX5_add 10 = .ok (.ireturn, 1) := by decide +kernel
theorem dX5_add_11 : decode cX5_add 11 = .ok (.aload_n 0, 1) := by decide +kernel
theorem dX5_add_12 : decode cX5_add 12 = .ok (.getfield 9, 3) := by decide +kernel
theorem dX5_add_15 : decode cX5_add 15 = .ok (.aload_n 0, 1) := by decide +kernel
theorem dX5_add_16 : decode cX5_add 16 = .ok (.getfield 18, 3) := by decide +kernel
theorem dX5_add_19 : decode cX5_add 19 = .ok (.iload_n 1, 1) := by decide +kernel
theorem dX5_add_20 : decode cX5_add 20 = .ok (.iastore, 1) := by decide +kernel
theorem dX5_add_21 : decode cX5_add 21 = .ok (.aload_n 0, 1) := by decide +kernel
theorem dX5_add_22 : decode cX5_add 22 = .ok (.getfield 15, 3) := by decide +kernel
theorem dX5_add_25 : decode cX5_add 25 = .ok (.aload_n 0, 1) := by decide +kernel
theorem dX5_add_26 : decode cX5_add 26 = .ok (.getfield 18, 3) := by decide +kernel
theorem dX5_add_29 : decode cX5_add 29 = .ok (.iload_n 2, 1) := by decide +kernel
theorem dX5_add_30 : decode cX5_add 30 = .ok (.iastore, 1) := by decide +kernel
theorem dX5_add_31 : decode cX5_add 31 = .ok (.aload_n 0, 1) := by decide +kernel
theorem dX5_add_32 : decode cX5_add 32 = .ok (.dup, 1) := by decide +kernel
theorem dX5_add_33 : decode cX5_add 33 = .ok (.getfield 18, 3) := by decide +kernel
theorem dX5_add_36 : decode cX5_add 36 = .ok (.iconst 1, 1) := by decide +kernel
theorem dX5_add_37 : decode cX5_add 37 = .ok (.iadd, 1) := by decide +kernel
theorem dX5_add_38 : decode cX5_add 38 = .ok (.putfield 18, 3) := by decide +kernel
theorem dX5_add_41 : decode cX5_add 41 = .ok (.iconst 1, 1) := by decide +kernel
theorem dX5_add_42 : decode cX5_add 42 = .ok (.ireturn, 1) := by decide +kernel
theorem dX5_allow_0 : decode cX5_allow 0 = .ok (.iconst 0, 1) := by decide +kernel
theorem dX5_allow_1 : decode cX5_allow 1 = .ok (.istore_n 2, 1) := by decide +kernel
theorem dX5_allow_2 : decode cX5_allow 2 = .ok (.iload_n 2, 1) := by decide +kernel
theorem dX5_allow_3 : decode cX5_allow 3 = .ok (.aload_n 0, 1) := by decide +kernel
theorem dX5_allow_4 : decode cX5_allow 4 = .ok (.getfield 18, 3) := by decide +kernel
theorem dX5_allow_7 : decode cX5_allow 7 = .ok (.if_icmp .ge 51, 3) := by decide +kernel
theorem dX5_allow_10 : decode cX5_allow 10 = .ok (.iload_n 2, 1) := by decide +kernel
theorem dX5_allow_11 : decode cX5_allow 11 = .ok (.bipush 6, 2) := by decide +kernel
theorem dX5_allow_13 : decode cX5_allow 13 = .ok (.if_icmp .ge 45, 3) := by decide +kernel
theorem dX5_allow_16 : decode cX5_allow 16 = .ok (.aload_n 0, 1) := by decide +kernel
theorem dX5_allow_17 : decode cX5_allow 17 = .ok (.getfield 9, 3) := by decide +kernel
theorem dX5_allow_20 : decode cX5_allow 20 = .ok (.iload_n 2, 1) := by decide +kernel
theorem dX5_allow_21 : decode cX5_allow 21 = .ok (.iaload, 1) := by decide +kernel
theorem dX5_allow_22 : decode cX5_allow 22 = .ok (.iload_n 1, 1) := by decide +kernel
theorem dX5_allow_23 : decode cX5_allow 23 = .ok (.invokestatic 22, 3) := by decide +kernel
theorem dX5_allow_26 : decode cX5_allow 26 = .ok (.istore_n 3, 1) := by decide +kernel
theorem dX5_allow_27 : decode cX5_allow 27 = .ok (.aload_n 0, 1) := by decide +kernel
theorem dX5_allow_28 : decode cX5_allow 28 = .ok (.getfield 15, 3) := by decide +kernel
theorem dX5_allow_31 : decode cX5_allow 31 = .ok (.iload_n 2, 1) := by decide +kernel
theorem dX5_allow_32 : decode cX5_allow 32 = .ok (.iaload, 1) := by decide +kernel
theorem dX5_allow_33 : decode cX5_allow 33 = .ok (.iconst 1, 1) := by decide +kernel
theorem dX5_allow_34 : decode cX5_allow 34 = .ok (.if_icmp .ne 10, 3) := by decide +kernel
theorem dX5_allow_37 : decode cX5_allow 37 = .ok (.iload_n 3, 1) := by decide +kernel
theorem dX5_allow_38 : decode cX5_allow 38 = .ok (.ifCond .ne 14, 3) := by decide +kernel
theorem dX5_allow_41 : decode cX5_allow 41 = .ok (.goto 9, 3) := by decide +kernel
theorem dX5_allow_44 : decode cX5_allow 44 = .ok (.iload_n 3, 1) := by decide +kernel
theorem dX5_allow_45 : decode cX5_allow 45 = .ok (.bipush 10, 2) := by decide +kernel
theorem dX5_allow_47 : decode cX5_allow 47 = .ok (.if_icmp .ne 5, 3) := by decide +kernel
theorem dX5_allow_50 : decode cX5_allow 50 = .ok (.iconst 0, 1) := by decide +kernel
theorem dX5_allow_51 : decode cX5_allow 51 = .ok (.ireturn, 1) := by decide +kernel
theorem dX5_allow_52 : decode cX5_allow 52 = .ok (.iinc 2 1, 3) := by decide +kernel
theorem dX5_allow_55 : decode cX5_allow 55 = .ok (.goto (-53), 3) := by decide +kernel
theorem dX5_allow_58 : decode cX5_allow 58 = .ok (.iconst 1, 1) := by decide +kernel
theorem dX5_allow_59 : decode cX5_allow 59 = .ok (.ireturn, 1) := by decide +kernel
theorem dX6_init_0 : decode cX6_init 0 = .ok (.aload_n 0, 1) := by decide +kernel
theorem dX6_init_1 : decode cX6_init 1 = .ok (.invokespecial 3, 3) := by decide +kernel
theorem dX6_init_4 : decode cX6_init 4 = .ok (.aload_n 0, 1) := by decide +kernel
theorem dX6_init_5 : decode cX6_init 5 = .ok (.iconst 4, 1) := by decide +kernel
theorem dX6_init_6 : decode cX6_init 6 = .ok (.newarray .int, 2) := by decide +kernel
theorem dX6_init_8 : decode cX6_init 8 = .ok (.putfield 9, 3) := by decide +kernel
theorem dX6_init_11 : decode cX6_init 11 = .ok (.aload_n 0, 1) := by decide +kernel
theorem dX6_init_12 : decode cX6_init 12 = .ok (.iconst 4, 1) := by decide +kernel
theorem dX6_init_13 : decode cX6_init 13 = .ok (.newarray .int, 2) := by decide +kernel
theorem dX6_init_15 : decode cX6_init 15 = .ok (.putfield 15, 3) := by decide +kernel
theorem dX6_init_18 : decode cX6_init 18 = .ok (.aload_n 0, 1) := by decide +kernel
theorem dX6_init_19 : decode cX6_init 19 = .ok (.iconst 4, 1) := by decide +kernel
theorem dX6_init_20 : decode cX6_init 20 = .ok (.newarray .int, 2) := by decide +kernel
theorem dX6_init_22 : decode cX6_init 22 = .ok (.putfield 18, 3) := by decide +kernel
theorem dX6_init_25 : decode cX6_init 25 = .ok (.aload_n 0, 1) := by decide +kernel
theorem dX6_init_26 : decode cX6_init 26 = .ok (.iconst 5, 1) := by decide +kernel
theorem dX6_init_27 : decode cX6_init 27 = .ok (.newarray .int, 2) := by decide +kernel
theorem dX6_init_29 : decode cX6_init 29 = .ok (.putfield 21, 3) := by decide +kernel
theorem dX6_init_32 : decode cX6_init 32 = .ok (.aload_n 0, 1) := by decide +kernel
theorem dX6_init_33 : decode cX6_init 33 = .ok (.invokevirtual 24, 3) := by decide +kernel
theorem dX6_init_36 : decode cX6_init 36 = .ok (.return_, 1) := by decide +kernel
theorem dX6_begin_0 : decode cX6_begin 0 = .ok (.aload_n 0, 1) := by decide +kernel
theorem dX6_begin_1 : decode cX6_begin 1 = .ok (.iconst 0, 1) := by decide +kernel
theorem dX6_begin_2 : decode cX6_begin 2 = .ok (.putfield 27, 3) := by decide +kernel
theorem dX6_begin_5 : decode cX6_begin 5 = .ok (.getstatic 31, 3) := by decide +kernel
theorem dX6_begin_8 : decode cX6_begin 8 = .ok (.iconst 0, 1) := by decide +kernel
theorem dX6_begin_9 : decode cX6_begin 9 = .ok (.aload_n 0, 1) := by decide +kernel
theorem dX6_begin_10 : decode cX6_begin 10 = .ok (.getfield 21, 3) := by decide +kernel
theorem dX6_begin_13 : decode cX6_begin 13 = .ok (.iconst 0, 1) := by decide +kernel
theorem dX6_begin_14 : decode cX6_begin 14 = .ok (.iconst 5, 1) := by decide +kernel
theorem dX6_begin_15 : decode cX6_begin 15 = .ok (.invokestatic 34, 3) := by decide +kernel
theorem dX6_begin_18 : decode cX6_begin 18 = .ok (.return_, 1) := by decide +kernel
theorem dX6_copyFrom_0 : decode cX6_copyFrom 0 = .ok (.aload_n 0, 1) := by decide +kernel
theorem dX6_copyFrom_1 : decode cX6_copyFrom 1 = .ok (.aload_n 1, 1) := by decide +kernel
theorem dX6_copyFrom_2 : decode cX6_copyFrom 2 = .ok (.getfield 27, 3) := by decide +kernel
theorem dX6_copyFrom_5 : decode cX6_copyFrom 5 = .ok (.putfield 27, 3) := by decide +kernel
theorem dX6_copyFrom_8 : decode cX6_copyFrom 8 = .ok (.aload_n 1, 1) := by decide +kernel
theorem dX6_copyFrom_9 : decode cX6_copyFrom 9 = .ok (.getfield 9, 3) := by decide +kernel
theorem dX6_copyFrom_12 : decode cX6_copyFrom 12 = .ok (.iconst 0, 1) := by decide +kernel
theorem dX6_copyFrom_13 : decode cX6_copyFrom 13 = .ok (.aload_n 0, 1) := by decide +kernel
theorem dX6_copyFrom_14 : decode cX6_copyFrom 14 = .ok (.getfield 9, 3) := by decide +kernel
theorem dX6_copyFrom_17 : decode cX6_copyFrom 17 = .ok (.iconst 0, 1) := by decide +kernel
theorem dX6_copyFrom_18 : decode cX6_copyFrom 18 = .ok (.iconst 4, 1) := by decide +kernel
theorem dX6_copyFrom_19 : decode cX6_copyFrom 19 = .ok (.invokestatic 34, 3) := by decide +kernel
theorem dX6_copyFrom_22 : decode cX6_copyFrom 22 = .ok (.aload_n 1, 1) := by decide +kernel
theorem dX6_copyFrom_23 : decode cX6_copyFrom 23 = .ok (.getfield 15, 3) := by decide +kernel
theorem dX6_copyFrom_26 : decode cX6_copyFrom 26 = .ok (.iconst 0, 1) := by decide +kernel
theorem dX6_copyFrom_27 : decode cX6_copyFrom 27 = .ok (.aload_n 0, 1) := by decide +kernel
theorem dX6_copyFrom_28 : decode cX6_copyFrom 28 = .ok (.getfield 15, 3) := by decide +kernel
theorem dX6_copyFrom_31 : decode cX6_copyFrom 31 = .ok (.iconst 0, 1) := by decide +kernel
theorem dX6_copyFrom_32 : decode cX6_copyFrom 32 = .ok (.iconst 4, 1) := by decide +kernel
theorem dX6_copyFrom_33 : decode cX6_copyFrom 33 = .ok (.invokestatic 34, 3) := by decide +kernel
theorem dX6_copyFrom_36 : decode cX6_copyFrom 36 = .ok (.aload_n 1, 1) := by decide +kernel
theorem dX6_copyFrom_37 : decode cX6_copyFrom 37 = .ok (.getfield 18, 3) := by decide +kernel
theorem dX6_copyFrom_40 : decode cX6_copyFrom 40 = .ok (.iconst 0, 1) := by decide +kernel
theorem dX6_copyFrom_41 : decode cX6_copyFrom 41 = .ok (.aload_n 0, 1) := by decide +kernel
theorem dX6_copyFrom_42 : decode cX6_copyFrom 42 = .ok (.getfield 18, 3) := by decide +kernel
theorem dX6_copyFrom_45 : decode cX6_copyFrom 45 = .ok (.iconst 0, 1) := by decide +kernel
theorem dX6_copyFrom_46 : decode cX6_copyFrom 46 = .ok (.iconst 4, 1) := by decide +kernel
theorem dX6_copyFrom_47 : decode cX6_copyFrom 47 = .ok (.invokestatic 34, 3) := by decide +kernel
theorem dX6_copyFrom_50 : decode cX6_copyFrom 50 = .ok (.aload_n 1, 1) := by decide +kernel
theorem dX6_copyFrom_51 : decode cX6_copyFrom 51 = .ok (.getfield 21, 3) := by decide +kernel
theorem dX6_copyFrom_54 : decode cX6_copyFrom 54 = .ok (.iconst 0, 1) := by decide +kernel
theorem dX6_copyFrom_55 : decode cX6_copyFrom 55 = .ok (.aload_n 0, 1) := by decide +kernel
theorem dX6_copyFrom_56 : decode cX6_copyFrom 56 = .ok (.getfield 21, 3) := by decide +kernel
theorem dX6_copyFrom_59 : decode cX6_copyFrom 59 = .ok (.iconst 0, 1) := by decide +kernel
theorem dX6_copyFrom_60 : decode cX6_copyFrom 60 = .ok (.iconst 5, 1) := by decide +kernel
theorem dX6_copyFrom_61 : decode cX6_copyFrom 61 = .ok (.invokestatic 34, 3) := by decide +kernel
theorem dX6_copyFrom_64 : decode cX6_copyFrom 64 = .ok (.return_, 1) := by decide +kernel
theorem dX6_has_0 : decode cX6_has 0 = .ok (.iload_n 1, 1) := by decide +kernel
theorem dX6_has_1 : decode cX6_has 1 = .ok (.ifCond .lt 20, 3) := by decide +kernel
theorem dX6_has_4 : decode cX6_has 4 = .ok (.iload_n 1, 1) := by decide +kernel
theorem dX6_has_5 : decode cX6_has 5 = .ok (.aload_n 0, 1) := by decide +kernel
theorem dX6_has_6 : decode cX6_has 6 = .ok (.getfield 27, 3) := by decide +kernel
theorem dX6_has_9 : decode cX6_has 9 = .ok (.if_icmp .ge 12, 3) := by decide +kernel
theorem dX6_has_12 : decode cX6_has 12 = .ok (.iload_n 1, 1) := by decide +kernel
theorem dX6_has_13 : decode cX6_has 13 = .ok (.iconst 4, 1) := by decide +kernel
theorem dX6_has_14 : decode cX6_has 14 = .ok (.if_icmp .ge 7, 3) := by decide +kernel
theorem dX6_has_17 : decode cX6_has 17 = .ok (.iconst 1, 1) := by decide +kernel
theorem dX6_has_18 : decode cX6_has 18 = .ok (.goto 4, 3) := by decide +kernel
theorem dX6_has_21 : decode cX6_has 21 = .ok (.iconst 0, 1) := by decide +kernel
theorem dX6_has_22 : decode cX6_has 22 = .ok (.ireturn, 1) := by decide +kernel
theorem dX6_mostGuard_0 : decode cX6_mostGuard 0 = .ok (.bipush 10, 2) := by decide +kernel
theorem dX6_mostGuard_2 : decode cX6_mostGuard 2 = .ok (.aload_n 0, 1) := by decide +kernel
theorem dX6_mostGuard_3 : decode cX6_mostGuard 3 = .ok (.getfield 9, 3) := by decide +kernel
theorem dX6_mostGuard_6 : decode cX6_mostGuard 6 = .ok (.iload_n 1, 1) := by decide +kernel
theorem dX6_mostGuard_7 : decode cX6_mostGuard 7 = .ok (.iaload, 1) := by decide +kernel
theorem dX6_mostGuard_8 : decode cX6_mostGuard 8 = .ok (.imul, 1) := by decide +kernel
theorem dX6_mostGuard_9 : decode cX6_mostGuard 9 = .ok (.ireturn, 1) := by decide +kernel
theorem dX7_init_0 : decode cX7_init 0 = .ok (.aload_n 0, 1) := by decide +kernel
theorem dX7_init_1 : decode cX7_init 1 = .ok (.invokespecial 3, 3) := by decide +kernel
theorem dX7_init_4 : decode cX7_init 4 = .ok (.aload_n 0, 1) := by decide +kernel
theorem dX7_init_5 : decode cX7_init 5 = .ok (.iconst 4, 1) := by decide +kernel
theorem dX7_init_6 : decode cX7_init 6 = .ok (.newarray .int, 2) := by decide +kernel
theorem dX7_init_8 : decode cX7_init 8 = .ok (.putfield 9, 3) := by decide +kernel
theorem dX7_init_11 : decode cX7_init 11 = .ok (.aload_n 0, 1) := by decide +kernel
theorem dX7_init_12 : decode cX7_init 12 = .ok (.bipush 24, 2) := by decide +kernel
theorem dX7_init_14 : decode cX7_init 14 = .ok (.newarray .int, 2) := by decide +kernel
theorem dX7_init_16 : decode cX7_init 16 = .ok (.putfield 15, 3) := by decide +kernel
theorem dX7_init_19 : decode cX7_init 19 = .ok (.aload_n 0, 1) := by decide +kernel
theorem dX7_init_20 : decode cX7_init 20 = .ok (.bipush 12, 2) := by decide +kernel
theorem dX7_init_22 : decode cX7_init 22 = .ok (.newarray .int, 2) := by decide +kernel
theorem dX7_init_24 : decode cX7_init 24 = .ok (.putfield 18, 3) := by decide +kernel
theorem dX7_init_27 : decode cX7_init 27 = .ok (.aload_n 0, 1) := by decide +kernel
theorem dX7_init_28 : decode cX7_init 28 = .ok (.bipush 12, 2) := by decide +kernel
theorem dX7_init_30 : decode cX7_init 30 = .ok (.newarray .int, 2) := by decide +kernel
theorem dX7_init_32 : decode cX7_init 32 = .ok (.putfield 21, 3) := by decide +kernel
theorem dX7_init_35 : decode cX7_init 35 = .ok (.aload_n 0, 1) := by decide +kernel
theorem dX7_init_36 : decode cX7_init 36 = .ok (.bipush 12, 2) := by decide +kernel
theorem dX7_init_38 : decode cX7_init 38 = .ok (.newarray .int, 2) := by decide +kernel
theorem dX7_init_40 : decode cX7_init 40 = .ok (.putfield 24, 3) := by decide +kernel
theorem dX7_init_43 : decode cX7_init 43 = .ok (.aload_n 0, 1) := by decide +kernel
theorem dX7_init_44 : decode cX7_init 44 = .ok (.bipush 12, 2) := by decide +kernel
theorem dX7_init_46 : decode cX7_init 46 = .ok (.newarray .int, 2) := by decide +kernel
theorem dX7_init_48 : decode cX7_init 48 = .ok (.putfield 27, 3) := by decide +kernel
theorem dX7_init_51 : decode cX7_init 51 = .ok (.aload_n 0, 1) := by decide +kernel
theorem dX7_init_52 : decode cX7_init 52 = .ok (.bipush 12, 2) := by decide +kernel
theorem dX7_init_54 : decode cX7_init 54 = .ok (.newarray .int, 2) := by decide +kernel
theorem dX7_init_56 : decode cX7_init 56 = .ok (.putfield 30, 3) := by decide +kernel
theorem dX7_init_59 : decode cX7_init 59 = .ok (.aload_n 0, 1) := by decide +kernel
theorem dX7_init_60 : decode cX7_init 60 = .ok (.bipush 12, 2) := by decide +kernel
theorem dX7_init_62 : decode cX7_init 62 = .ok (.newarray .int, 2) := by decide +kernel
theorem dX7_init_64 : decode cX7_init 64 = .ok (.putfield 33, 3) := by decide +kernel
theorem dX7_init_67 : decode cX7_init 67 = .ok (.aload_n 0, 1) := by decide +kernel
theorem dX7_init_68 : decode cX7_init 68 = .ok (.bipush 12, 2) := by decide +kernel
theorem dX7_init_70 : decode cX7_init 70 = .ok (.newarray .int, 2) := by decide +kernel
theorem dX7_init_72 : decode cX7_init 72 = .ok (.putfield 36, 3) := by decide +kernel
theorem dX7_init_75 : decode cX7_init 75 = .ok (.aload_n 0, 1) := by decide +kernel
theorem dX7_init_76 : decode cX7_init 76 = .ok (.bipush 12, 2) := by decide +kernel
theorem dX7_init_78 : decode cX7_init 78 = .ok (.newarray .int, 2) := by decide +kernel
theorem dX7_init_80 : decode cX7_init 80 = .ok (.putfield 39, 3) := by decide +kernel
theorem dX7_init_83 : decode cX7_init 83 = .ok (.aload_n 0, 1) := by decide +kernel
theorem dX7_init_84 : decode cX7_init 84 = .ok (.bipush 12, 2) := by decide +kernel
theorem dX7_init_86 : decode cX7_init 86 = .ok (.newarray .int, 2) := by decide +kernel
theorem dX7_init_88 : decode cX7_init 88 = .ok (.putfield 42, 3) := by decide +kernel
theorem dX7_init_91 : decode cX7_init 91 = .ok (.aload_n 0, 1) := by decide +kernel
theorem dX7_init_92 : decode cX7_init 92 = .ok (.bipush 48, 2) := by decide +kernel
theorem dX7_init_94 : decode cX7_init 94 = .ok (.newarray .int, 2) := by decide +kernel
theorem dX7_init_96 : decode cX7_init 96 = .ok (.putfield 45, 3) := by decide +kernel
theorem dX7_init_99 : decode cX7_init 99 = .ok (.aload_n 0, 1) := by decide +kernel
theorem dX7_init_100 : decode cX7_init 100 = .ok (.bipush 48, 2) := by decide +kernel
theorem dX7_init_102 : decode cX7_init 102 = .ok (.newarray .int, 2) := by decide +kernel
theorem dX7_init_104 : decode cX7_init 104 = .ok (.putfield 48, 3) := by decide +kernel
theorem dX7_init_107 : decode cX7_init 107 = .ok (.aload_n 0, 1) := by decide +kernel
theorem dX7_init_108 : decode cX7_init 108 = .ok (.bipush 12, 2) := by decide +kernel
theorem dX7_init_110 : decode cX7_init 110 = .ok (.newarray .int, 2) := by decide +kernel
theorem dX7_init_112 : decode cX7_init 112 = .ok (.putfield 51, 3) := by decide +kernel
theorem dX7_init_115 : decode cX7_init 115 = .ok (.aload_n 0, 1) := by decide +kernel
theorem dX7_init_116 : decode cX7_init 116 = .ok (.bipush 12, 2) := by decide +kernel
theorem dX7_init_118 : decode cX7_init 118 = .ok (.newarray .int, 2) := by decide +kernel
theorem dX7_init_120 : decode cX7_init 120 = .ok (.putfield 54, 3) := by decide +kernel
theorem dX7_init_123 : decode cX7_init 123 = .ok (.aload_n 0, 1) := by decide +kernel
theorem dX7_init_124 : decode cX7_init 124 = .ok (.bipush 12, 2) := by decide +kernel
theorem dX7_init_126 : decode cX7_init 126 = .ok (.newarray .int, 2) := by decide +kernel
theorem dX7_init_128 : decode cX7_init 128 = .ok (.putfield 57, 3) := by decide +kernel
theorem dX7_init_131 : decode cX7_init 131 = .ok (.aload_n 0, 1) := by decide +kernel
theorem dX7_init_132 : decode cX7_init 132 = .ok (.invokevirtual 60, 3) := by decide +kernel
theorem dX7_init_135 : decode cX7_init 135 = .ok (.return_, 1) := by decide +kernel
theorem dX7_begin_0 : decode cX7_begin 0 = .ok (.aload_n 0, 1) := by decide +kernel
theorem dX7_begin_1 : decode cX7_begin 1 = .ok (.iconst 0, 1) := by decide +kernel
theorem dX7_begin_2 : decode cX7_begin 2 = .ok (.putfield 63, 3) := by decide +kernel
theorem dX7_begin_5 : decode cX7_begin 5 = .ok (.aload_n 0, 1) := by decide +kernel
theorem dX7_begin_6 : decode cX7_begin 6 = .ok (.iconst 0, 1) := by decide +kernel
theorem dX7_begin_7 : decode cX7_begin 7 = .ok (.putfield 67, 3) := by decide +kernel
theorem dX7_begin_10 : decode cX7_begin 10 = .ok (.aload_n 0, 1) := by decide +kernel
theorem dX7_begin_11 : decode cX7_begin 11 = .ok (.iconst 0, 1) := by decide +kernel
theorem dX7_begin_12 : decode cX7_begin 12 = .ok (.putfield 70, 3) := by decide +kernel
theorem dX7_begin_15 : decode cX7_begin 15 = .ok (.aload_n 1, 1) := by decide +kernel
theorem dX7_begin_16 : decode cX7_begin 16 = .ok (.getfield 73, 3) := by decide +kernel
theorem dX7_begin_19 : decode cX7_begin 19 = .ok (.iconst 0, 1) := by decide +kernel
theorem dX7_begin_20 : decode cX7_begin 20 = .ok (.aload_n 0, 1) := by decide +kernel
theorem dX7_begin_21 : decode cX7_begin 21 = .ok (.getfield 9, 3) := by decide +kernel
theorem dX7_begin_24 : decode cX7_begin 24 = .ok (.iconst 0, 1) := by decide +kernel
theorem dX7_begin_25 : decode cX7_begin 25 = .ok (.iconst 4, 1) := by decide +kernel
theorem dX7_begin_26 : decode cX7_begin 26 = .ok (.invokestatic 76, 3) := by decide +kernel
theorem dX7_begin_29 : decode cX7_begin 29 = .ok (.aload_n 0, 1) := by decide +kernel
theorem dX7_begin_30 : decode cX7_begin 30 = .ok (.getfield 15, 3) := by decide +kernel
theorem dX7_begin_33 : decode cX7_begin 33 = .ok (.iconst 0, 1) := by decide +kernel
theorem dX7_begin_34 : decode cX7_begin 34 = .ok (.invokestatic 82, 3) := by decide +kernel
theorem dX7_begin_37 : decode cX7_begin 37 = .ok (.aload_n 0, 1) := by decide +kernel
theorem dX7_begin_38 : decode cX7_begin 38 = .ok (.invokevirtual 60, 3) := by decide +kernel
theorem dX7_begin_41 : decode cX7_begin 41 = .ok (.return_, 1) := by decide +kernel
theorem dX7_clearCalls_0 : decode cX7_clearCalls 0 = .ok (.aload_n 0, 1) := by decide +kernel
theorem dX7_clearCalls_1 : decode cX7_clearCalls 1 = .ok (.getfield 18, 3) := by decide +kernel
theorem dX7_clearCalls_4 : decode cX7_clearCalls 4 = .ok (.bipush (-9), 2) := by decide +kernel
theorem dX7_clearCalls_6 : decode cX7_clearCalls 6 = .ok (.invokestatic 82, 3) := by decide +kernel
theorem dX7_clearCalls_9 : decode cX7_clearCalls 9 = .ok (.aload_n 0, 1) := by decide +kernel
theorem dX7_clearCalls_10 : decode cX7_clearCalls 10 = .ok (.getfield 21, 3) := by decide +kernel
theorem dX7_clearCalls_13 : decode cX7_clearCalls 13 = .ok (.bipush (-9), 2) := by decide +kernel
theorem dX7_clearCalls_15 : decode cX7_clearCalls 15 = .ok (.invokestatic 82, 3) := by decide +kernel
theorem dX7_clearCalls_18 : decode cX7_clearCalls 18 = .ok (.return_, 1) := by decide +kernel
theorem dX7_copyFrom_0 : decode cX7_copyFrom 0 = .ok (.aload_n 0, 1) := by decide +kernel
theorem dX7_copyFrom_1 : decode cX7_copyFrom 1 = .ok (.aload_n 1, 1) := by decide +kernel
theorem dX7_copyFrom_2 : decode cX7_copyFrom 2 = .ok (.getfield 63, 3) := by decide +kernel
theorem dX7_copyFrom_5 : decode cX7_copyFrom 5 = .ok (.putfield 63, 3) := by decide +kernel
theorem dX7_copyFrom_8 : decode cX7_copyFrom 8 = .ok (.aload_n 0, 1) := by decide +kernel
theorem dX7_copyFrom_9 : decode cX7_copyFrom 9 = .ok (.aload_n 1, 1) := by decide +kernel
theorem dX7_copyFrom_10 : decode cX7_copyFrom 10 = .ok (.getfield 67, 3) := by decide +kernel
theorem dX7_copyFrom_13 : decode cX7_copyFrom 13 = .ok (.putfield 67, 3) := by decide +kernel
theorem dX7_copyFrom_16 : decode cX7_copyFrom 16 = .ok (.aload_n 0, 1) := by decide +kernel
theorem dX7_copyFrom_17 : decode cX7_copyFrom 17 = .ok (.aload_n 1, 1) := by decide +kernel
theorem dX7_copyFrom_18 : decode cX7_copyFrom 18 = .ok (.getfield 70, 3) := by decide +kernel
theorem dX7_copyFrom_21 : decode cX7_copyFrom 21 = .ok (.putfield 70, 3) := by decide +kernel
theorem dX7_copyFrom_24 : decode cX7_copyFrom 24 = .ok (.aload_n 1, 1) := by decide +kernel
theorem dX7_copyFrom_25 : decode cX7_copyFrom 25 = .ok (.getfield 9, 3) := by decide +kernel
theorem dX7_copyFrom_28 : decode cX7_copyFrom 28 = .ok (.iconst 0, 1) := by decide +kernel
theorem dX7_copyFrom_29 : decode cX7_copyFrom 29 = .ok (.aload_n 0, 1) := by decide +kernel
theorem dX7_copyFrom_30 : decode cX7_copyFrom 30 = .ok (.getfield 9, 3) := by decide +kernel
theorem dX7_copyFrom_33 : decode cX7_copyFrom 33 = .ok (.iconst 0, 1) := by decide +kernel
theorem dX7_copyFrom_34 : decode cX7_copyFrom 34 = .ok (.iconst 4, 1) := by decide +kernel
theorem dX7_copyFrom_35 : decode cX7_copyFrom 35 = .ok (.invokestatic 76, 3) := by decide +kernel
theorem dX7_copyFrom_38 : decode cX7_copyFrom 38 = .ok (.aload_n 1, 1) := by decide +kernel
theorem dX7_copyFrom_39 : decode cX7_copyFrom 39 = .ok (.getfield 15, 3) := by decide +kernel
theorem dX7_copyFrom_42 : decode cX7_copyFrom 42 = .ok (.iconst 0, 1) := by decide +kernel
theorem dX7_copyFrom_43 : decode cX7_copyFrom 43 = .ok (.aload_n 0, 1) := by decide +kernel
theorem dX7_copyFrom_44 : decode cX7_copyFrom 44 = .ok (.getfield 15, 3) := by decide +kernel
theorem dX7_copyFrom_47 : decode cX7_copyFrom 47 = .ok (.iconst 0, 1) := by decide +kernel
theorem dX7_copyFrom_48 : decode cX7_copyFrom 48 = .ok (.bipush 24, 2) := by decide +kernel
theorem dX7_copyFrom_50 : decode cX7_copyFrom 50 = .ok (.invokestatic 76, 3) := by decide +kernel
theorem dX7_copyFrom_53 : decode cX7_copyFrom 53 = .ok (.aload_n 1, 1) := by decide +kernel
theorem dX7_copyFrom_54 : decode cX7_copyFrom 54 = .ok (.getfield 18, 3) := by decide +kernel
theorem dX7_copyFrom_57 : decode cX7_copyFrom 57 = .ok (.iconst 0, 1) := by decide +kernel
theorem dX7_copyFrom_58 : decode cX7_copyFrom 58 = .ok (.aload_n 0, 1) := by decide +kernel
theorem dX7_copyFrom_59 : decode cX7_copyFrom 59 = .ok (.getfield 18, 3) := by decide +kernel
theorem dX7_copyFrom_62 : decode cX7_copyFrom 62 = .ok (.iconst 0, 1) := by decide +kernel
theorem dX7_copyFrom_63 : decode cX7_copyFrom 63 = .ok (.bipush 12, 2) := by decide +kernel
theorem dX7_copyFrom_65 : decode cX7_copyFrom 65 = .ok (.invokestatic 76, 3) := by decide +kernel
theorem dX7_copyFrom_68 : decode cX7_copyFrom 68 = .ok (.aload_n 1, 1) := by decide +kernel
theorem dX7_copyFrom_69 : decode cX7_copyFrom 69 = .ok (.getfield 21, 3) := by decide +kernel
theorem dX7_copyFrom_72 : decode cX7_copyFrom 72 = .ok (.iconst 0, 1) := by decide +kernel
theorem dX7_copyFrom_73 : decode cX7_copyFrom 73 = .ok (.aload_n 0, 1) := by decide +kernel
theorem dX7_copyFrom_74 : decode cX7_copyFrom 74 = .ok (.getfield 21, 3) := by decide +kernel
theorem dX7_copyFrom_77 : decode cX7_copyFrom 77 = .ok (.iconst 0, 1) := by decide +kernel
theorem dX7_copyFrom_78 : decode cX7_copyFrom 78 = .ok (.bipush 12, 2) := by decide +kernel
theorem dX7_copyFrom_80 : decode cX7_copyFrom 80 = .ok (.invokestatic 76, 3) := by decide +kernel
theorem dX7_copyFrom_83 : decode cX7_copyFrom 83 = .ok (.aload_n 1, 1) := by decide +kernel
theorem dX7_copyFrom_84 : decode cX7_copyFrom 84 = .ok (.getfield 24, 3) := by decide +kernel
theorem dX7_copyFrom_87 : decode cX7_copyFrom 87 = .ok (.iconst 0, 1) := by decide +kernel
theorem dX7_copyFrom_88 : decode cX7_copyFrom 88 = .ok (.aload_n 0, 1) := by decide +kernel
theorem dX7_copyFrom_89 : decode cX7_copyFrom 89 = .ok (.getfield 24, 3) := by decide +kernel
theorem dX7_copyFrom_92 : decode cX7_copyFrom 92 = .ok (.iconst 0, 1) := by decide +kernel
theorem dX7_copyFrom_93 : decode cX7_copyFrom 93 = .ok (.bipush 12, 2) := by decide +kernel
theorem dX7_copyFrom_95 : decode cX7_copyFrom 95 = .ok (.invokestatic 76, 3) := by decide +kernel
theorem dX7_copyFrom_98 : decode cX7_copyFrom 98 = .ok (.aload_n 1, 1) := by decide +kernel
theorem dX7_copyFrom_99 : decode cX7_copyFrom 99 = .ok (.getfield 27, 3) := by decide +kernel
theorem dX7_copyFrom_102 : decode cX7_copyFrom 102 = .ok (.iconst 0, 1) := by decide +kernel
theorem dX7_copyFrom_103 : decode cX7_copyFrom 103 = .ok (.aload_n 0, 1) := by decide +kernel
theorem dX7_copyFrom_104 : decode cX7_copyFrom 104 = .ok (.getfield 27, 3) := by decide +kernel
theorem dX7_copyFrom_107 : decode cX7_copyFrom 107 = .ok (.iconst 0, 1) := by decide +kernel
theorem dX7_copyFrom_108 : decode cX7_copyFrom 108 = .ok (.bipush 12, 2) := by decide +kernel
theorem dX7_copyFrom_110 : decode cX7_copyFrom 110 = .ok (.invokestatic 76, 3) := by decide +kernel
theorem dX7_copyFrom_113 : decode cX7_copyFrom 113 = .ok (.aload_n 1, 1) := by decide +kernel
theorem dX7_copyFrom_114 : decode cX7_copyFrom 114 = .ok (.getfield 30, 3) := by decide +kernel
theorem dX7_copyFrom_117 : decode cX7_copyFrom 117 = .ok (.iconst 0, 1) := by decide +kernel
theorem dX7_copyFrom_118 : decode cX7_copyFrom 118 = .ok (.aload_n 0, 1) := by decide +kernel
theorem dX7_copyFrom_119 : decode cX7_copyFrom 119 = .ok (.getfield 30, 3) := by decide +kernel
theorem dX7_copyFrom_122 : decode cX7_copyFrom 122 = .ok (.iconst 0, 1) := by decide +kernel
theorem dX7_copyFrom_123 : decode cX7_copyFrom 123 = .ok (.bipush 12, 2) := by decide +kernel
theorem dX7_copyFrom_125 : decode cX7_copyFrom 125 = .ok (.invokestatic 76, 3) := by decide +kernel
theorem dX7_copyFrom_128 : decode cX7_copyFrom 128 = .ok (.aload_n 1, 1) := by decide +kernel
theorem dX7_copyFrom_129 : decode cX7_copyFrom 129 = .ok (.getfield 33, 3) := by decide +kernel
theorem dX7_copyFrom_132 : decode cX7_copyFrom 132 = .ok (.iconst 0, 1) := by decide +kernel
theorem dX7_copyFrom_133 : decode cX7_copyFrom 133 = .ok (.aload_n 0, 1) := by decide +kernel
theorem dX7_copyFrom_134 : decode cX7_copyFrom 134 = .ok (.getfield 33, 3) := by decide +kernel
theorem dX7_copyFrom_137 : decode cX7_copyFrom 137 = .ok (.iconst 0, 1) := by decide +kernel
theorem dX7_copyFrom_138 : decode cX7_copyFrom 138 = .ok (.bipush 12, 2) := by decide +kernel
theorem dX7_copyFrom_140 : decode cX7_copyFrom 140 = .ok (.invokestatic 76, 3) := by decide +kernel
theorem dX7_copyFrom_143 : decode cX7_copyFrom 143 = .ok (.aload_n 1, 1) := by decide +kernel
theorem dX7_copyFrom_144 : decode cX7_copyFrom 144 = .ok (.getfield 36, 3) := by decide +kernel
theorem dX7_copyFrom_147 : decode cX7_copyFrom 147 = .ok (.iconst 0, 1) := by decide +kernel
theorem dX7_copyFrom_148 : decode cX7_copyFrom 148 = .ok (.aload_n 0, 1) := by decide +kernel
theorem dX7_copyFrom_149 : decode cX7_copyFrom 149 = .ok (.getfield 36, 3) := by decide +kernel
theorem dX7_copyFrom_152 : decode cX7_copyFrom 152 = .ok (.iconst 0, 1) := by decide +kernel
theorem dX7_copyFrom_153 : decode cX7_copyFrom 153 = .ok (.bipush 12, 2) := by decide +kernel
theorem dX7_copyFrom_155 : decode cX7_copyFrom 155 = .ok (.invokestatic 76, 3) := by decide +kernel
theorem dX7_copyFrom_158 : decode cX7_copyFrom 158 = .ok (.aload_n 1, 1) := by decide +kernel
theorem dX7_copyFrom_159 : decode cX7_copyFrom 159 = .ok (.getfield 39, 3) := by decide +kernel
theorem dX7_copyFrom_162 : decode cX7_copyFrom 162 = .ok (.iconst 0, 1) := by decide +kernel
theorem dX7_copyFrom_163 : decode cX7_copyFrom 163 = .ok (.aload_n 0, 1) := by decide +kernel
theorem dX7_copyFrom_164 : decode cX7_copyFrom 164 = .ok (.getfield 39, 3) := by decide +kernel
theorem dX7_copyFrom_167 : decode cX7_copyFrom 167 = .ok (.iconst 0, 1) := by decide +kernel
theorem dX7_copyFrom_168 : decode cX7_copyFrom 168 = .ok (.bipush 12, 2) := by decide +kernel
theorem dX7_copyFrom_170 : decode cX7_copyFrom 170 = .ok (.invokestatic 76, 3) := by decide +kernel
theorem dX7_copyFrom_173 : decode cX7_copyFrom 173 = .ok (.aload_n 1, 1) := by decide +kernel
theorem dX7_copyFrom_174 : decode cX7_copyFrom 174 = .ok (.getfield 42, 3) := by decide +kernel
theorem dX7_copyFrom_177 : decode cX7_copyFrom 177 = .ok (.iconst 0, 1) := by decide +kernel
theorem dX7_copyFrom_178 : decode cX7_copyFrom 178 = .ok (.aload_n 0, 1) := by decide +kernel
theorem dX7_copyFrom_179 : decode cX7_copyFrom 179 = .ok (.getfield 42, 3) := by decide +kernel
theorem dX7_copyFrom_182 : decode cX7_copyFrom 182 = .ok (.iconst 0, 1) := by decide +kernel
theorem dX7_copyFrom_183 : decode cX7_copyFrom 183 = .ok (.bipush 12, 2) := by decide +kernel
theorem dX7_copyFrom_185 : decode cX7_copyFrom 185 = .ok (.invokestatic 76, 3) := by decide +kernel
theorem dX7_copyFrom_188 : decode cX7_copyFrom 188 = .ok (.aload_n 1, 1) := by decide +kernel
theorem dX7_copyFrom_189 : decode cX7_copyFrom 189 = .ok (.getfield 45, 3) := by decide +kernel
theorem dX7_copyFrom_192 : decode cX7_copyFrom 192 = .ok (.iconst 0, 1) := by decide +kernel
theorem dX7_copyFrom_193 : decode cX7_copyFrom 193 = .ok (.aload_n 0, 1) := by decide +kernel
theorem dX7_copyFrom_194 : decode cX7_copyFrom 194 = .ok (.getfield 45, 3) := by decide +kernel
theorem dX7_copyFrom_197 : decode cX7_copyFrom 197 = .ok (.iconst 0, 1) := by decide +kernel
theorem dX7_copyFrom_198 : decode cX7_copyFrom 198 = .ok (.bipush 48, 2) := by decide +kernel
theorem dX7_copyFrom_200 : decode cX7_copyFrom 200 = .ok (.invokestatic 76, 3) := by decide +kernel
theorem dX7_copyFrom_203 : decode cX7_copyFrom 203 = .ok (.aload_n 1, 1) := by decide +kernel
theorem dX7_copyFrom_204 : decode cX7_copyFrom 204 = .ok (.getfield 48, 3) := by decide +kernel
theorem dX7_copyFrom_207 : decode cX7_copyFrom 207 = .ok (.iconst 0, 1) := by decide +kernel
theorem dX7_copyFrom_208 : decode cX7_copyFrom 208 = .ok (.aload_n 0, 1) := by decide +kernel
theorem dX7_copyFrom_209 : decode cX7_copyFrom 209 = .ok (.getfield 48, 3) := by decide +kernel
theorem dX7_copyFrom_212 : decode cX7_copyFrom 212 = .ok (.iconst 0, 1) := by decide +kernel
theorem dX7_copyFrom_213 : decode cX7_copyFrom 213 = .ok (.bipush 48, 2) := by decide +kernel
theorem dX7_copyFrom_215 : decode cX7_copyFrom 215 = .ok (.invokestatic 76, 3) := by decide +kernel
theorem dX7_copyFrom_218 : decode cX7_copyFrom 218 = .ok (.aload_n 1, 1) := by decide +kernel
theorem dX7_copyFrom_219 : decode cX7_copyFrom 219 = .ok (.getfield 51, 3) := by decide +kernel
theorem dX7_copyFrom_222 : decode cX7_copyFrom 222 = .ok (.iconst 0, 1) := by decide +kernel
theorem dX7_copyFrom_223 : decode cX7_copyFrom 223 = .ok (.aload_n 0, 1) := by decide +kernel
theorem dX7_copyFrom_224 : decode cX7_copyFrom 224 = .ok (.getfield 51, 3) := by decide +kernel
theorem dX7_copyFrom_227 : decode cX7_copyFrom 227 = .ok (.iconst 0, 1) := by decide +kernel
theorem dX7_copyFrom_228 : decode cX7_copyFrom 228 = .ok (.bipush 12, 2) := by decide +kernel
theorem dX7_copyFrom_230 : decode cX7_copyFrom 230 = .ok (.invokestatic 76, 3) := by decide +kernel
theorem dX7_copyFrom_233 : decode cX7_copyFrom 233 = .ok (.aload_n 1, 1) := by decide +kernel
theorem dX7_copyFrom_234 : decode cX7_copyFrom 234 = .ok (.getfield 54, 3) := by decide +kernel
theorem dX7_copyFrom_237 : decode cX7_copyFrom 237 = .ok (.iconst 0, 1) := by decide +kernel
theorem dX7_copyFrom_238 : decode cX7_copyFrom 238 = .ok (.aload_n 0, 1) := by decide +kernel
theorem dX7_copyFrom_239 : decode cX7_copyFrom 239 = .ok (.getfield 54, 3) := by decide +kernel
theorem dX7_copyFrom_242 : decode cX7_copyFrom 242 = .ok (.iconst 0, 1) := by decide +kernel
theorem dX7_copyFrom_243 : decode cX7_copyFrom 243 = .ok (.bipush 12, 2) := by decide +kernel
theorem dX7_copyFrom_245 : decode cX7_copyFrom 245 = .ok (.invokestatic 76, 3) := by decide +kernel
theorem dX7_copyFrom_248 : decode cX7_copyFrom 248 = .ok (.aload_n 1, 1) := by decide +kernel
theorem dX7_copyFrom_249 : decode cX7_copyFrom 249 = .ok (.getfield 57, 3) := by decide +kernel
theorem dX7_copyFrom_252 : decode cX7_copyFrom 252 = .ok (.iconst 0, 1) := by decide +kernel
theorem dX7_copyFrom_253 : decode cX7_copyFrom 253 = .ok (.aload_n 0, 1) := by decide +kernel
theorem dX7_copyFrom_254 : decode cX7_copyFrom 254 = .ok (.getfield 57, 3) := by decide +kernel
theorem dX7_copyFrom_257 : decode cX7_copyFrom 257 = .ok (.iconst 0, 1) := by decide +kernel
theorem dX7_copyFrom_258 : decode cX7_copyFrom 258 = .ok (.bipush 12, 2) := by decide +kernel
theorem dX7_copyFrom_260 : decode cX7_copyFrom 260 = .ok (.invokestatic 76, 3) := by decide +kernel
theorem dX7_copyFrom_263 : decode cX7_copyFrom 263 = .ok (.return_, 1) := by decide +kernel
theorem dX7_has_0 : decode cX7_has 0 = .ok (.iload_n 1, 1) := by decide +kernel
theorem dX7_has_1 : decode cX7_has 1 = .ok (.ifCond .lt 24, 3) := by decide +kernel
theorem dX7_has_4 : decode cX7_has 4 = .ok (.iload_n 1, 1) := by decide +kernel
theorem dX7_has_5 : decode cX7_has 5 = .ok (.bipush 12, 2) := by decide +kernel
theorem dX7_has_7 : decode cX7_has 7 = .ok (.if_icmp .ge 18, 3) := by decide +kernel
theorem dX7_has_10 : decode cX7_has 10 = .ok (.aload_n 0, 1) := by decide +kernel
theorem dX7_has_11 : decode cX7_has 11 = .ok (.getfield 18, 3) := by decide +kernel
theorem dX7_has_14 : decode cX7_has 14 = .ok (.iload_n 1, 1) := by decide +kernel
theorem dX7_has_15 : decode cX7_has 15 = .ok (.iaload, 1) := by decide +kernel
theorem dX7_has_16 : decode cX7_has 16 = .ok (.bipush (-9), 2) := by decide +kernel
theorem dX7_has_18 : decode cX7_has 18 = .ok (.if_icmp .eq 7, 3) := by decide +kernel
theorem dX7_has_21 : decode cX7_has 21 = .ok (.iconst 1, 1) := by decide +kernel
theorem dX7_has_22 : decode cX7_has 22 = .ok (.goto 4, 3) := by decide +kernel
theorem dX7_has_25 : decode cX7_has 25 = .ok (.iconst 0, 1) := by decide +kernel
theorem dX7_has_26 : decode cX7_has 26 = .ok (.ireturn, 1) := by decide +kernel
theorem dX7_present_0 : decode cX7_present 0 = .ok (.bipush 12, 2) := by decide +kernel
theorem dX7_present_2 : decode cX7_present 2 = .ok (.aload_n 0, 1) := by decide +kernel
theorem dX7_present_3 : decode cX7_present 3 = .ok (.getfield 18, 3) := by decide +kernel
theorem dX7_present_6 : decode cX7_present 6 = .ok (.bipush (-9), 2) := by decide +kernel
theorem dX7_present_8 : decode cX7_present 8 = .ok (.invokestatic 88, 3) := by decide +kernel
theorem dX7_present_11 : decode cX7_present 11 = .ok (.isub, 1) := by decide +kernel
theorem dX7_present_12 : decode cX7_present 12 = .ok (.ireturn, 1) := by decide +kernel
theorem dX7_lowestAbsent_0 : decode cX7_lowestAbsent 0 = .ok (.iconst 0, 1) := by decide +kernel
theorem dX7_lowestAbsent_1 : decode cX7_lowestAbsent 1 = .ok (.istore_n 1, 1) := by decide +kernel
theorem dX7_lowestAbsent_2 : decode cX7_lowestAbsent 2 = .ok (.iload_n 1, 1) := by decide +kernel
theorem dX7_lowestAbsent_3 : decode cX7_lowestAbsent 3 = .ok (.bipush 12, 2) := by decide +kernel
theorem dX7_lowestAbsent_5 : decode cX7_lowestAbsent 5 = .ok (.if_icmp .ge 22, 3) := by decide +kernel
theorem dX7_lowestAbsent_8 : decode cX7_lowestAbsent 8 = .ok (.aload_n 0, 1) := by decide +kernel
theorem dX7_lowestAbsent_9 : decode cX7_lowestAbsent 9 = .ok (.getfield 18, 3) := by decide +kernel
theorem dX7_lowestAbsent_12 : decode cX7_lowestAbsent 12 = .ok (.iload_n 1, 1) := by decide +kernel
theorem dX7_lowestAbsent_13 : decode cX7_lowestAbsent 13 = .ok (.iaload, 1) := by decide +kernel
theorem dX7_lowestAbsent_14 : decode cX7_lowestAbsent 14 = .ok (.bipush (-9), 2) := by decide +kernel
theorem dX7_lowestAbsent_16 : decode cX7_lowestAbsent 16 = .ok (.if_icmp .ne 5, 3) := by decide +kernel
theorem dX7_lowestAbsent_19 : decode cX7_lowestAbsent 19 = .ok (.iload_n 1, 1) := by decide +kernel
theorem dX7_lowestAbsent_20 : decode cX7_lowestAbsent 20 = .ok (.ireturn, 1) := by decide +kernel
theorem dX7_lowestAbsent_21 : decode cX7_lowestAbsent 21 = .ok (.iinc 1 1, 3) := by decide +kernel
theorem dX7_lowestAbsent_24 : decode cX7_lowestAbsent 24 = .ok (.goto (-22), 3) := by decide +kernel
theorem dX7_lowestAbsent_27 : decode cX7_lowestAbsent 27 = .ok (.bipush (-9), 2) := by decide +kernel
theorem dX7_lowestAbsent_29 : decode cX7_lowestAbsent 29 = .ok (.ireturn, 1) := by decide +kernel
theorem dX7_busy_0 : decode cX7_busy 0 = .ok (.aload_n 0, 1) := by decide +kernel
theorem dX7_busy_1 : decode cX7_busy 1 = .ok (.getfield 18, 3) := by decide +kernel
theorem dX7_busy_4 : decode cX7_busy 4 = .ok (.iload_n 1, 1) := by decide +kernel
theorem dX7_busy_5 : decode cX7_busy 5 = .ok (.invokestatic 88, 3) := by decide +kernel
theorem dX7_busy_8 : decode cX7_busy 8 = .ok (.ireturn, 1) := by decide +kernel
theorem dX7_waiting_0 : decode cX7_waiting 0 = .ok (.aload_n 0, 1) := by decide +kernel
theorem dX7_waiting_1 : decode cX7_waiting 1 = .ok (.getfield 21, 3) := by decide +kernel
theorem dX7_waiting_4 : decode cX7_waiting 4 = .ok (.iload_n 1, 1) := by decide +kernel
theorem dX7_waiting_5 : decode cX7_waiting 5 = .ok (.invokestatic 88, 3) := by decide +kernel
theorem dX7_waiting_8 : decode cX7_waiting 8 = .ok (.ireturn, 1) := by decide +kernel
theorem dX7_callsOf_0 : decode cX7_callsOf 0 = .ok (.iconst 0, 1) := by decide +kernel
theorem dX7_callsOf_1 : decode cX7_callsOf 1 = .ok (.istore_n 2, 1) := by decide +kernel
theorem dX7_callsOf_2 : decode cX7_callsOf 2 = .ok (.iconst 0, 1) := by decide +kernel
theorem dX7_callsOf_3 : decode cX7_callsOf 3 = .ok (.istore_n 3, 1) := by decide +kernel
theorem dX7_callsOf_4 : decode cX7_callsOf 4 = .ok (.iload_n 3, 1) := by decide +kernel
theorem dX7_callsOf_5 : decode cX7_callsOf 5 = .ok (.aload_n 0, 1) := by decide +kernel
theorem dX7_callsOf_6 : decode cX7_callsOf 6 = .ok (.arraylength, 1) := by decide +kernel
theorem dX7_callsOf_7 : decode cX7_callsOf 7 = .ok (.if_icmp .ge 24, 3) := by decide +kernel
theorem dX7_callsOf_10 : decode cX7_callsOf 10 = .ok (.iload_n 2, 1) := by decide +kernel
theorem dX7_callsOf_11 : decode cX7_callsOf 11 = .ok (.aload_n 0, 1) := by decide +kernel
theorem dX7_callsOf_12 : decode cX7_callsOf 12 = .ok (.iload_n 3, 1) := by decide +kernel
theorem dX7_callsOf_13 : decode cX7_callsOf 13 = .ok (.iaload, 1) := by decide +kernel
theorem dX7_callsOf_14 : decode cX7_callsOf 14 = .ok (.iload_n 1, 1) := by decide +kernel
theorem dX7_callsOf_15 : decode cX7_callsOf 15 = .ok (.if_icmp .ne 7, 3) := by decide +kernel
theorem dX7_callsOf_18 : decode cX7_callsOf 18 = .ok (.iconst 1, 1) := by decide +kernel
theorem dX7_callsOf_19 : decode cX7_callsOf 19 = .ok (.goto 4, 3) := by decide +kernel
theorem dX7_callsOf_22 : decode cX7_callsOf 22 = .ok (.iconst 0, 1) := by decide +kernel
theorem dX7_callsOf_23 : decode cX7_callsOf 23 = .ok (.iadd, 1) := by decide +kernel
theorem dX7_callsOf_24 : decode cX7_callsOf 24 = .ok (.istore_n 2, 1) := by decide +kernel
theorem dX7_callsOf_25 : decode cX7_callsOf 25 = .ok (.iinc 3 1, 3) := by decide +kernel
theorem dX7_callsOf_28 : decode cX7_callsOf 28 = .ok (.goto (-24), 3) := by decide +kernel
theorem dX7_callsOf_31 : decode cX7_callsOf 31 = .ok (.iload_n 2, 1) := by decide +kernel
theorem dX7_callsOf_32 : decode cX7_callsOf 32 = .ok (.ireturn, 1) := by decide +kernel
theorem dX7_tallyOne_0 : decode cX7_tallyOne 0 = .ok (.aload_n 0, 1) := by decide +kernel
theorem dX7_tallyOne_1 : decode cX7_tallyOne 1 = .ok (.getfield 15, 3) := by decide +kernel
theorem dX7_tallyOne_4 : decode cX7_tallyOne 4 = .ok (.iload_n 1, 1) := by decide +kernel
theorem dX7_tallyOne_5 : decode cX7_tallyOne 5 = .ok (.bipush 6, 2) := by decide +kernel
theorem dX7_tallyOne_7 : decode cX7_tallyOne 7 = .ok (.imul, 1) := by decide +kernel
theorem dX7_tallyOne_8 : decode cX7_tallyOne 8 = .ok (.iload_n 2, 1) := by decide +kernel
theorem dX7_tallyOne_9 : decode cX7_tallyOne 9 = .ok (.iadd, 1) := by decide +kernel
theorem dX7_tallyOne_10 : decode cX7_tallyOne 10 = .ok (.dup2, 1) := by decide +kernel
theorem dX7_tallyOne_11 : decode cX7_tallyOne 11 = .ok (.iaload, 1) := by decide +kernel
theorem dX7_tallyOne_12 : decode cX7_tallyOne 12 = .ok (.iconst 1, 1) := by decide +kernel
theorem dX7_tallyOne_13 : decode cX7_tallyOne 13 = .ok (.iadd, 1) := by decide +kernel
theorem dX7_tallyOne_14 : decode cX7_tallyOne 14 = .ok (.iastore, 1) := by decide +kernel
theorem dX7_tallyOne_15 : decode cX7_tallyOne 15 = .ok (.return_, 1) := by decide +kernel
theorem dX7_appear_0 : decode cX7_appear 0 = .ok (.aload_n 0, 1) := by decide +kernel
theorem dX7_appear_1 : decode cX7_appear 1 = .ok (.getfield 18, 3) := by decide +kernel
theorem dX7_appear_4 : decode cX7_appear 4 = .ok (.iload_n 1, 1) := by decide +kernel
theorem dX7_appear_5 : decode cX7_appear 5 = .ok (.iload_n 2, 1) := by decide +kernel
theorem dX7_appear_6 : decode cX7_appear 6 = .ok (.iastore, 1) := by decide +kernel
theorem dX7_appear_7 : decode cX7_appear 7 = .ok (.aload_n 0, 1) := by decide +kernel
theorem dX7_appear_8 : decode cX7_appear 8 = .ok (.getfield 21, 3) := by decide +kernel
theorem dX7_appear_11 : decode cX7_appear 11 = .ok (.iload_n 1, 1) := by decide +kernel
theorem dX7_appear_12 : decode cX7_appear 12 = .ok (.bipush (-9), 2) := by decide +kernel
theorem dX7_appear_14 : decode cX7_appear 14 = .ok (.iastore, 1) := by decide +kernel
theorem dX7_appear_15 : decode cX7_appear 15 = .ok (.aload_n 0, 1) := by decide +kernel
theorem dX7_appear_16 : decode cX7_appear 16 = .ok (.getfield 24, 3) := by decide +kernel
theorem dX7_appear_19 : decode cX7_appear 19 = .ok (.iload_n 1, 1) := by decide +kernel
theorem dX7_appear_20 : decode cX7_appear 20 = .ok (.iconst 0, 1) := by decide +kernel
theorem dX7_appear_21 : decode cX7_appear 21 = .ok (.iastore, 1) := by decide +kernel
theorem dX7_appear_22 : decode cX7_appear 22 = .ok (.aload_n 0, 1) := by decide +kernel
theorem dX7_appear_23 : decode cX7_appear 23 = .ok (.getfield 27, 3) := by decide +kernel
theorem dX7_appear_26 : decode cX7_appear 26 = .ok (.iload_n 1, 1) := by decide +kernel
theorem dX7_appear_27 : decode cX7_appear 27 = .ok (.iconst 0, 1) := by decide +kernel
theorem dX7_appear_28 : decode cX7_appear 28 = .ok (.iastore, 1) := by decide +kernel
theorem dX7_appear_29 : decode cX7_appear 29 = .ok (.aload_n 0, 1) := by decide +kernel
theorem dX7_appear_30 : decode cX7_appear 30 = .ok (.getfield 30, 3) := by decide +kernel
theorem dX7_appear_33 : decode cX7_appear 33 = .ok (.iload_n 1, 1) := by decide +kernel
theorem dX7_appear_34 : decode cX7_appear 34 = .ok (.iconst 0, 1) := by decide +kernel
theorem dX7_appear_35 : decode cX7_appear 35 = .ok (.iastore, 1) := by decide +kernel
theorem dX7_appear_36 : decode cX7_appear 36 = .ok (.aload_n 0, 1) := by decide +kernel
theorem dX7_appear_37 : decode cX7_appear 37 = .ok (.getfield 33, 3) := by decide +kernel
theorem dX7_appear_40 : decode cX7_appear 40 = .ok (.iload_n 1, 1) := by decide +kernel
theorem dX7_appear_41 : decode cX7_appear 41 = .ok (.iconst 0, 1) := by decide +kernel
theorem dX7_appear_42 : decode cX7_appear 42 = .ok (.iastore, 1) := by decide +kernel
theorem dX7_appear_43 : decode cX7_appear 43 = .ok (.aload_n 0, 1) := by decide +kernel
theorem dX7_appear_44 : decode cX7_appear 44 = .ok (.getfield 36, 3) := by decide +kernel
theorem dX7_appear_47 : decode cX7_appear 47 = .ok (.iload_n 1, 1) := by decide +kernel
theorem dX7_appear_48 : decode cX7_appear 48 = .ok (.iconst 0, 1) := by decide +kernel
theorem dX7_appear_49 : decode cX7_appear 49 = .ok (.iastore, 1) := by decide +kernel
theorem dX7_appear_50 : decode cX7_appear 50 = .ok (.aload_n 0, 1) := by decide +kernel
theorem dX7_appear_51 : decode cX7_appear 51 = .ok (.getfield 39, 3) := by decide +kernel
theorem dX7_appear_54 : decode cX7_appear 54 = .ok (.iload_n 1, 1) := by decide +kernel
theorem dX7_appear_55 : decode cX7_appear 55 = .ok (.iconst 0, 1) := by decide +kernel
theorem dX7_appear_56 : decode cX7_appear 56 = .ok (.iastore, 1) := by decide +kernel
theorem dX7_appear_57 : decode cX7_appear 57 = .ok (.aload_n 0, 1) := by decide +kernel
theorem dX7_appear_58 : decode cX7_appear 58 = .ok (.getfield 42, 3) := by decide +kernel
theorem dX7_appear_61 : decode cX7_appear 61 = .ok (.iload_n 1, 1) := by decide +kernel
theorem dX7_appear_62 : decode cX7_appear 62 = .ok (.bipush (-9), 2) := by decide +kernel
theorem dX7_appear_64 : decode cX7_appear 64 = .ok (.iastore, 1) := by decide +kernel
theorem dX7_appear_65 : decode cX7_appear 65 = .ok (.iconst 0, 1) := by decide +kernel
theorem dX7_appear_66 : decode cX7_appear 66 = .ok (.istore 4, 2) := by decide +kernel
theorem dX7_appear_68 : decode cX7_appear 68 = .ok (.iload 4, 2) := by decide +kernel
theorem dX7_appear_70 : decode cX7_appear 70 = .ok (.iconst 4, 1) := by decide +kernel
theorem dX7_appear_71 : decode cX7_appear 71 = .ok (.if_icmp .ge 34, 3) := by decide +kernel
theorem dX7_appear_74 : decode cX7_appear 74 = .ok (.aload_n 0, 1) := by decide +kernel
theorem dX7_appear_75 : decode cX7_appear 75 = .ok (.getfield 45, 3) := by decide +kernel
theorem dX7_appear_78 : decode cX7_appear 78 = .ok (.iload_n 1, 1) := by decide +kernel
theorem dX7_appear_79 : decode cX7_appear 79 = .ok (.iconst 4, 1) := by decide +kernel
theorem dX7_appear_80 : decode cX7_appear 80 = .ok (.imul, 1) := by decide +kernel
theorem dX7_appear_81 : decode cX7_appear 81 = .ok (.iload 4, 2) := by decide +kernel
theorem dX7_appear_83 : decode cX7_appear 83 = .ok (.iadd, 1) := by decide +kernel
theorem dX7_appear_84 : decode cX7_appear 84 = .ok (.iload 4, 2) := by decide +kernel
theorem dX7_appear_86 : decode cX7_appear 86 = .ok (.iload_n 2, 1) := by decide +kernel
theorem dX7_appear_87 : decode cX7_appear 87 = .ok (.if_icmp .ne 10, 3) := by decide +kernel
theorem dX7_appear_90 : decode cX7_appear 90 = .ok (.bipush 64, 2) := by decide +kernel
theorem dX7_appear_92 : decode cX7_appear 92 = .ok (.iload_n 3, 1) := by decide +kernel
theorem dX7_appear_93 : decode cX7_appear 93 = .ok (.imul, 1) := by decide +kernel
theorem dX7_appear_94 : decode cX7_appear 94 = .ok (.goto 4, 3) := by decide +kernel
theorem dX7_appear_97 : decode cX7_appear 97 = .ok (.iconst 0, 1) := by decide +kernel
theorem dX7_appear_98 : decode cX7_appear 98 = .ok (.iastore, 1) := by decide +kernel
theorem dX7_appear_99 : decode cX7_appear 99 = .ok (.iinc 4 1, 3) := by decide +kernel
theorem dX7_appear_102 : decode cX7_appear 102 = .ok (.goto (-34), 3) := by decide +kernel
theorem dX7_appear_105 : decode cX7_appear 105 = .ok (.aload_n 0, 1) := by decide +kernel
theorem dX7_appear_106 : decode cX7_appear 106 = .ok (.iload_n 1, 1) := by decide +kernel
theorem dX7_appear_107 : decode cX7_appear 107 = .ok (.invokevirtual 92, 3) := by decide +kernel
theorem dX7_appear_110 : decode cX7_appear 110 = .ok (.return_, 1) := by decide +kernel
theorem dX7_clearStreaks_0 : decode cX7_clearStreaks 0 = .ok (.iconst 0, 1) := by decide +kernel
theorem dX7_clearStreaks_1 : decode cX7_clearStreaks 1 = .ok (.istore_n 2, 1) := by decide +kernel
theorem dX7_clearStreaks_2 : decode cX7_clearStreaks 2 = .ok (.iload_n 2, 1) := by decide +kernel
theorem dX7_clearStreaks_3 : decode cX7_clearStreaks 3 = .ok (.iconst 4, 1) := by decide +kernel
theorem dX7_clearStreaks_4 : decode cX7_clearStreaks 4 = .ok (.if_icmp .ge 20, 3) := by decide +kernel
theorem dX7_clearStreaks_7 : decode cX7_clearStreaks 7 = .ok (.aload_n 0, 1) := by decide +kernel
theorem dX7_clearStreaks_8 : decode cX7_clearStreaks 8 = .ok (.getfield 48, 3) := by decide +kernel
theorem dX7_clearStreaks_11 : decode cX7_clearStreaks 11 = .ok (.iload_n 1, 1) := by decide +kernel
theorem dX7_clearStreaks_12 : decode cX7_clearStreaks 12 = .ok (.iconst 4, 1) := by decide +kernel
theorem dX7_clearStreaks_13 : decode cX7_clearStreaks 13 = .ok (.imul, 1) := by decide +kernel
theorem dX7_clearStreaks_14 : decode cX7_clearStreaks 14 = .ok (.iload_n 2, 1) := by decide +kernel
theorem dX7_clearStreaks_15 : decode cX7_clearStreaks 15 = .ok (.iadd, 1) := by decide +kernel
theorem dX7_clearStreaks_16 : decode cX7_clearStreaks 16 = .ok (.iconst 0, 1) := by decide +kernel
theorem dX7_clearStreaks_17 : decode cX7_clearStreaks 17 = .ok (.iastore, 1) := by decide +kernel
theorem dX7_clearStreaks_18 : decode cX7_clearStreaks 18 = .ok (.iinc 2 1, 3) := by decide +kernel
theorem dX7_clearStreaks_21 : decode cX7_clearStreaks 21 = .ok (.goto (-19), 3) := by decide +kernel
theorem dX7_clearStreaks_24 : decode cX7_clearStreaks 24 = .ok (.return_, 1) := by decide +kernel
theorem dX7_beginWaiting_0 : decode cX7_beginWaiting 0 = .ok (.aload_n 0, 1) := by decide +kernel
theorem dX7_beginWaiting_1 : decode cX7_beginWaiting 1 = .ok (.getfield 21, 3) := by decide +kernel
theorem dX7_beginWaiting_4 : decode cX7_beginWaiting 4 = .ok (.iload_n 1, 1) := by decide +kernel
theorem dX7_beginWaiting_5 : decode cX7_beginWaiting 5 = .ok (.iload_n 2, 1) := by decide +kernel
theorem dX7_beginWaiting_6 : decode cX7_beginWaiting 6 = .ok (.iastore, 1) := by decide +kernel
theorem dX7_beginWaiting_7 : decode cX7_beginWaiting 7 = .ok (.aload_n 0, 1) := by decide +kernel
theorem dX7_beginWaiting_8 : decode cX7_beginWaiting 8 = .ok (.getfield 24, 3) := by decide +kernel
theorem dX7_beginWaiting_11 : decode cX7_beginWaiting 11 = .ok (.iload_n 1, 1) := by decide +kernel
theorem dX7_beginWaiting_12 : decode cX7_beginWaiting 12 = .ok (.aload_n 0, 1) := by decide +kernel
theorem dX7_beginWaiting_13 : decode cX7_beginWaiting 13 = .ok (.getfield 67, 3) := by decide +kernel
theorem dX7_beginWaiting_16 : decode cX7_beginWaiting 16 = .ok (.iastore, 1) := by decide +kernel
theorem dX7_beginWaiting_17 : decode cX7_beginWaiting 17 = .ok (.aload_n 0, 1) := by decide +kernel
theorem dX7_beginWaiting_18 : decode cX7_beginWaiting 18 = .ok (.dup, 1) := by decide +kernel
theorem dX7_beginWaiting_19 : decode cX7_beginWaiting 19 = .ok (.getfield 67, 3) := by decide +kernel
theorem dX7_beginWaiting_22 : decode cX7_beginWaiting 22 = .ok (.iconst 1, 1) := by decide +kernel
theorem dX7_beginWaiting_23 : decode cX7_beginWaiting 23 = .ok (.iadd, 1) := by decide +kernel
theorem dX7_beginWaiting_24 : decode cX7_beginWaiting 24 = .ok (.putfield 67, 3) := by decide +kernel
theorem dX7_beginWaiting_27 : decode cX7_beginWaiting 27 = .ok (.return_, 1) := by decide +kernel
theorem dX7_ownLevel_0 : decode cX7_ownLevel 0 = .ok (.aload_n 0, 1) := by decide +kernel
theorem dX7_ownLevel_1 : decode cX7_ownLevel 1 = .ok (.getfield 45, 3) := by decide +kernel
theorem dX7_ownLevel_4 : decode cX7_ownLevel 4 = .ok (.iload_n 1, 1) := by decide +kernel
theorem dX7_ownLevel_5 : decode cX7_ownLevel 5 = .ok (.iconst 4, 1) := by decide +kernel
theorem dX7_ownLevel_6 : decode cX7_ownLevel 6 = .ok (.imul, 1) := by decide +kernel
theorem dX7_ownLevel_7 : decode cX7_ownLevel 7 = .ok (.aload_n 0, 1) := by decide +kernel
theorem dX7_ownLevel_8 : decode cX7_ownLevel 8 = .ok (.getfield 18, 3) := by decide +kernel
theorem dX7_ownLevel_11 : decode cX7_ownLevel 11 = .ok (.iload_n 1, 1) := by decide +kernel
theorem dX7_ownLevel_12 : decode cX7_ownLevel 12 = .ok (.iaload, 1) := by decide +kernel
theorem dX7_ownLevel_13 : decode cX7_ownLevel 13 = .ok (.iadd, 1) := by decide +kernel
theorem dX7_ownLevel_14 : decode cX7_ownLevel 14 = .ok (.iaload, 1) := by decide +kernel
theorem dX7_ownLevel_15 : decode cX7_ownLevel 15 = .ok (.ireturn, 1) := by decide +kernel
theorem dX7_countPair_0 : decode cX7_countPair 0 = .ok (.iconst 0, 1) := by decide +kernel
theorem dX7_countPair_1 : decode cX7_countPair 1 = .ok (.istore_n 3, 1) := by decide +kernel
theorem dX7_countPair_2 : decode cX7_countPair 2 = .ok (.iload_n 3, 1) := by decide +kernel
theorem dX7_countPair_3 : decode cX7_countPair 3 = .ok (.aload_n 0, 1) := by decide +kernel
theorem dX7_countPair_4 : decode cX7_countPair 4 = .ok (.getfield 70, 3) := by decide +kernel
theorem dX7_countPair_7 : decode cX7_countPair 7 = .ok (.if_icmp .ge 46, 3) := by decide +kernel
theorem dX7_countPair_10 : decode cX7_countPair 10 = .ok (.iload_n 3, 1) := by decide +kernel
theorem dX7_countPair_11 : decode cX7_countPair 11 = .ok (.bipush 12, 2) := by decide +kernel
theorem dX7_countPair_13 : decode cX7_countPair 13 = .ok (.if_icmp .ge 40, 3) := by decide +kernel
theorem dX7_countPair_16 : decode cX7_countPair 16 = .ok (.aload_n 0, 1) := by decide +kernel
theorem dX7_countPair_17 : decode cX7_countPair 17 = .ok (.getfield 51, 3) := by decide +kernel
theorem dX7_countPair_20 : decode cX7_countPair 20 = .ok (.iload_n 3, 1) := by decide +kernel
theorem dX7_countPair_21 : decode cX7_countPair 21 = .ok (.iaload, 1) := by decide +kernel
theorem dX7_countPair_22 : decode cX7_countPair 22 = .ok (.iload_n 1, 1) := by decide +kernel
theorem dX7_countPair_23 : decode cX7_countPair 23 = .ok (.if_icmp .ne 24, 3) := by decide +kernel
theorem dX7_countPair_26 : decode cX7_countPair 26 = .ok (.aload_n 0, 1) := by decide +kernel
theorem dX7_countPair_27 : decode cX7_countPair 27 = .ok (.getfield 54, 3) := by decide +kernel
theorem dX7_countPair_30 : decode cX7_countPair 30 = .ok (.iload_n 3, 1) := by decide +kernel
theorem dX7_countPair_31 : decode cX7_countPair 31 = .ok (.iaload, 1) := by decide +kernel
theorem dX7_countPair_32 : decode cX7_countPair 32 = .ok (.iload_n 2, 1) := by decide +kernel
theorem dX7_countPair_33 : decode cX7_countPair 33 = .ok (.if_icmp .ne 14, 3) := by decide +kernel
theorem dX7_countPair_36 : decode cX7_countPair 36 = .ok (.aload_n 0, 1) := by decide +kernel
theorem dX7_countPair_37 : decode cX7_countPair 37 = .ok (.getfield 57, 3) := by decide +kernel
theorem dX7_countPair_40 : decode cX7_countPair 40 = .ok (.iload_n 3, 1) := by decide +kernel
theorem dX7_countPair_41 : decode cX7_countPair 41 = .ok (.dup2, 1) := by decide +kernel
theorem dX7_countPair_42 : decode cX7_countPair 42 = .ok (.iaload, 1) := by decide +kernel
theorem dX7_countPair_43 : decode cX7_countPair 43 = .ok (.iconst 1, 1) := by decide +kernel
theorem dX7_countPair_44 : decode cX7_countPair 44 = .ok (.iadd, 1) := by decide +kernel
theorem dX7_countPair_45 : decode cX7_countPair 45 = .ok (.iastore, 1) := by decide +kernel
theorem dX7_countPair_46 : decode cX7_countPair 46 = .ok (.return_, 1) := by decide +kernel
theorem dX7_countPair_47 : decode cX7_countPair 47 = .ok (.iinc 3 1, 3) := by decide +kernel
theorem dX7_countPair_50 : decode cX7_countPair 50 = .ok (.goto (-48), 3) := by decide +kernel
theorem dX7_countPair_53 : decode cX7_countPair 53 = .ok (.aload_n 0, 1) := by decide +kernel
theorem dX7_countPair_54 : decode cX7_countPair 54 = .ok (.getfield 70, 3) := by decide +kernel
theorem dX7_countPair_57 : decode cX7_countPair 57 = .ok (.bipush 12, 2) := by decide +kernel
theorem dX7_countPair_59 : decode cX7_countPair 59 = .ok (.if_icmp .ge 43, 3) := by decide +kernel
theorem dX7_countPair_62 : decode cX7_countPair 62 = .ok (.aload_n 0, 1) := by decide +kernel
theorem dX7_countPair_63 : decode cX7_countPair 63 = .ok (.getfield 51, 3) := by decide +kernel
theorem dX7_countPair_66 : decode cX7_countPair 66 = .ok (.aload_n 0, 1) := by decide +kernel
theorem dX7_countPair_67 : decode cX7_countPair 67 = .ok (.getfield 70, 3) := by decide +kernel
theorem dX7_countPair_70 : decode cX7_countPair 70 = .ok (.iload_n 1, 1) := by decide +kernel
theorem dX7_countPair_71 : decode cX7_countPair 71 = .ok (.iastore, 1) := by decide +kernel
theorem dX7_countPair_72 : decode cX7_countPair 72 = .ok (.aload_n 0, 1) := by decide +kernel
theorem dX7_countPair_73 : decode cX7_countPair 73 = .ok (.getfield 54, 3) := by decide +kernel
theorem dX7_countPair_76 : decode cX7_countPair 76 = .ok (.aload_n 0, 1) := by decide +kernel
theorem dX7_countPair_77 : decode cX7_countPair 77 = .ok (.getfield 70, 3) := by decide +kernel
theorem dX7_countPair_80 : decode cX7_countPair 80 = .ok (.iload_n 2, 1) := by decide +kernel
theorem dX7_countPair_81 : decode cX7_countPair 81 = .ok (.iastore, 1) := by decide +kernel
theorem dX7_countPair_82 : decode cX7_countPair 82 = .ok (.aload_n 0, 1) := by decide +kernel
theorem dX7_countPair_83 : decode cX7_countPair 83 = .ok (.getfield 57, 3) := by decide +kernel
theorem dX7_countPair_86 : decode cX7_countPair 86 = .ok (.aload_n 0, 1) := by decide +kernel
theorem dX7_countPair_87 : decode cX7_countPair 87 = .ok (.getfield 70, 3) := by decide +kernel
theorem dX7_countPair_90 : decode cX7_countPair 90 = .ok (.iconst 1, 1) := by decide +kernel
theorem dX7_countPair_91 : decode cX7_countPair 91 = .ok (.iastore, 1) := by decide +kernel
theorem dX7_countPair_92 : decode cX7_countPair 92 = .ok (.aload_n 0, 1) := by decide +kernel
theorem dX7_countPair_93 : decode cX7_countPair 93 = .ok (.dup, 1) := by decide +kernel
theorem dX7_countPair_94 : decode cX7_countPair 94 = .ok (.getfield 70, 3) := by decide +kernel
theorem dX7_countPair_97 : decode cX7_countPair 97 = .ok (.iconst 1, 1) := by decide +kernel
theorem dX7_countPair_98 : decode cX7_countPair 98 = .ok (.iadd, 1) := by decide +kernel
theorem dX7_countPair_99 : decode cX7_countPair 99 = .ok (.putfield 70, 3) := by decide +kernel
theorem dX7_countPair_102 : decode cX7_countPair 102 = .ok (.return_, 1) := by decide +kernel
end
section
theorem dX8_init_0 : decode cX8_init 0 = .ok (.aload_n 0, 1) := by decide +kernel
theorem dX8_init_1 : decode cX8_init 1 = .ok (.invokespecial 1, 3) := by decide +kernel
theorem dX8_init_4 : decode cX8_init 4 = .ok (.aload_n 0, 1) := by decide +kernel
theorem dX8_init_5 : decode cX8_init 5 = .ok (.new 7, 3) := by decide +kernel
theorem dX8_init_8 : decode cX8_init 8 = .ok (.dup, 1) := by decide +kernel
theorem dX8_init_9 : decode cX8_init 9 = .ok (.invokespecial 9, 3) := by decide +kernel
theorem dX8_init_12 : decode cX8_init 12 = .ok (.putfield 10, 3) := by decide +kernel
theorem dX8_init_15 : decode cX8_init 15 = .ok (.aload_n 0, 1) := by decide +kernel
theorem dX8_init_16 : decode cX8_init 16 = .ok (.new 16, 3) := by decide +kernel
theorem dX8_init_19 : decode cX8_init 19 = .ok (.dup, 1) := by decide +kernel
theorem dX8_init_20 : decode cX8_init 20 = .ok (.invokespecial 18, 3) := by decide +kernel
theorem dX8_init_23 : decode cX8_init 23 = .ok (.putfield 19, 3) := by decide +kernel
theorem dX8_init_26 : decode cX8_init 26 = .ok (.aload_n 0, 1) := by decide +kernel
theorem dX8_init_27 : decode cX8_init 27 = .ok (.new 23, 3) := by decide +kernel
theorem dX8_init_30 : decode cX8_init 30 = .ok (.dup, 1) := by decide +kernel
theorem dX8_init_31 : decode cX8_init 31 = .ok (.invokespecial 25, 3) := by decide +kernel
theorem dX8_init_34 : decode cX8_init 34 = .ok (.putfield 26, 3) := by decide +kernel
theorem dX8_init_37 : decode cX8_init 37 = .ok (.aload_n 0, 1) := by decide +kernel
theorem dX8_init_38 : decode cX8_init 38 = .ok (.new 30, 3) := by decide +kernel
theorem dX8_init_41 : decode cX8_init 41 = .ok (.dup, 1) := by decide +kernel
theorem dX8_init_42 : decode cX8_init 42 = .ok (.aload_n 0, 1) := by decide +kernel
theorem dX8_init_43 : decode cX8_init 43 = .ok (.getfield 19, 3) := by decide +kernel
theorem dX8_init_46 : decode cX8_init 46 = .ok (.aload_n 0, 1) := by decide +kernel
theorem dX8_init_47 : decode cX8_init 47 = .ok (.getfield 26, 3) := by decide +kernel
theorem dX8_init_50 : decode cX8_init 50 = .ok (.invokespecial 32, 3) := by decide +kernel
theorem dX8_init_53 : decode cX8_init 53 = .ok (.putfield 35, 3) := by decide +kernel
theorem dX8_init_56 : decode cX8_init 56 = .ok (.aload_n 0, 1) := by decide +kernel
theorem dX8_init_57 : decode cX8_init 57 = .ok (.new 39, 3) := by decide +kernel
theorem dX8_init_60 : decode cX8_init 60 = .ok (.dup, 1) := by decide +kernel
theorem dX8_init_61 : decode cX8_init 61 = .ok (.invokespecial 41, 3) := by decide +kernel
theorem dX8_init_64 : decode cX8_init 64 = .ok (.putfield 42, 3) := by decide +kernel
theorem dX8_init_67 : decode cX8_init 67 = .ok (.aload_n 0, 1) := by decide +kernel
theorem dX8_init_68 : decode cX8_init 68 = .ok (.new 46, 3) := by decide +kernel
theorem dX8_init_71 : decode cX8_init 71 = .ok (.dup, 1) := by decide +kernel
theorem dX8_init_72 : decode cX8_init 72 = .ok (.invokespecial 48, 3) := by decide +kernel
theorem dX8_init_75 : decode cX8_init 75 = .ok (.putfield 49, 3) := by decide +kernel
theorem dX8_init_78 : decode cX8_init 78 = .ok (.aload_n 0, 1) := by decide +kernel
theorem dX8_init_79 : decode cX8_init 79 = .ok (.new 53, 3) := by decide +kernel
theorem dX8_init_82 : decode cX8_init 82 = .ok (.dup, 1) := by decide +kernel
theorem dX8_init_83 : decode cX8_init 83 = .ok (.invokespecial 55, 3) := by decide +kernel
theorem dX8_init_86 : decode cX8_init 86 = .ok (.putfield 56, 3) := by decide +kernel
theorem dX8_init_89 : decode cX8_init 89 = .ok (.aload_n 0, 1) := by decide +kernel
theorem dX8_init_90 : decode cX8_init 90 = .ok (.new 60, 3) := by decide +kernel
theorem dX8_init_93 : decode cX8_init 93 = .ok (.dup, 1) := by decide +kernel
theorem dX8_init_94 : decode cX8_init 94 = .ok (.invokespecial 62, 3) := by decide +kernel
theorem dX8_init_97 : decode cX8_init 97 = .ok (.putfield 63, 3) := by decide +kernel
theorem dX8_init_100 : decode cX8_init 100 = .ok (.return_, 1) := by decide +kernel
theorem dX8_type_0 : decode cX8_type 0 = .ok (.iload_n 1, 1) := by decide +kernel
theorem dX8_type_1 : decode cX8_type 1 = .ok (.iconst 0, 1) := by decide +kernel
theorem dX8_type_2 : decode cX8_type 2 = .ok (.sipush 255, 3) := by decide +kernel
theorem dX8_type_5 : decode cX8_type 5 = .ok (.invokestatic 67, 3) := by decide +kernel
theorem dX8_type_8 : decode cX8_type 8 = .ok (.ifCond .ne 5, 3) := by decide +kernel
theorem dX8_type_11 : decode cX8_type 11 = .ok (.iconst (-1), 1) := by decide +kernel
theorem dX8_type_12 : decode cX8_type 12 = .ok (.ireturn, 1) := by decide +kernel
theorem dX8_type_13 : decode cX8_type 13 = .ok (.aload_n 0, 1) := by decide +kernel
theorem dX8_type_14 : decode cX8_type 14 = .ok (.getfield 10, 3) := by decide +kernel
theorem dX8_type_17 : decode cX8_type 17 = .ok (.iload_n 1, 1) := by decide +kernel
theorem dX8_type_18 : decode cX8_type 18 = .ok (.invokevirtual 71, 3) := by decide +kernel
theorem dX8_type_21 : decode cX8_type 21 = .ok (.ifCond .eq 13, 3) := by decide +kernel
theorem dX8_type_24 : decode cX8_type 24 = .ok (.aload_n 0, 1) := by decide +kernel
theorem dX8_type_25 : decode cX8_type 25 = .ok (.getfield 10, 3) := by decide +kernel
theorem dX8_type_28 : decode cX8_type 28 = .ok (.getfield 75, 3) := by decide +kernel
theorem dX8_type_31 : decode cX8_type 31 = .ok (.goto 5, 3) := by decide +kernel
theorem dX8_type_34 : decode cX8_type 34 = .ok (.bipush (-3), 2) := by decide +kernel
theorem dX8_type_36 : decode cX8_type 36 = .ok (.ireturn, 1) := by decide +kernel
theorem dX8_clear_0 : decode cX8_clear 0 = .ok (.aload_n 0, 1) := by decide +kernel
theorem dX8_clear_1 : decode cX8_clear 1 = .ok (.getfield 10, 3) := by decide +kernel
theorem dX8_clear_4 : decode cX8_clear 4 = .ok (.getfield 75, 3) := by decide +kernel
theorem dX8_clear_7 : decode cX8_clear 7 = .ok (.istore_n 1, 1) := by decide +kernel
theorem dX8_clear_8 : decode cX8_clear 8 = .ok (.aload_n 0, 1) := by decide +kernel
theorem dX8_clear_9 : decode cX8_clear 9 = .ok (.getfield 10, 3) := by decide +kernel
theorem dX8_clear_12 : decode cX8_clear 12 = .ok (.iconst 0, 1) := by decide +kernel
theorem dX8_clear_13 : decode cX8_clear 13 = .ok (.putfield 75, 3) := by decide +kernel
theorem dX8_clear_16 : decode cX8_clear 16 = .ok (.iload_n 1, 1) := by decide +kernel
theorem dX8_clear_17 : decode cX8_clear 17 = .ok (.ireturn, 1) := by decide +kernel
theorem dX8_tells_0 : decode cX8_tells 0 = .ok (.aload_n 0, 1) := by decide +kernel
theorem dX8_tells_1 : decode cX8_tells 1 = .ok (.getfield 10, 3) := by decide +kernel
theorem dX8_tells_4 : decode cX8_tells 4 = .ok (.invokevirtual 79, 3) := by decide +kernel
theorem dX8_tells_7 : decode cX8_tells 7 = .ok (.istore_n 1, 1) := by decide +kernel
theorem dX8_tells_8 : decode cX8_tells 8 = .ok (.iload_n 1, 1) := by decide +kernel
theorem dX8_tells_9 : decode cX8_tells 9 = .ok (.ifCond .ge 5, 3) := by decide +kernel
theorem dX8_tells_12 : decode cX8_tells 12 = .ok (.iload_n 1, 1) := by decide +kernel
theorem dX8_tells_13 : decode cX8_tells 13 = .ok (.ireturn, 1) := by decide +kernel
theorem dX8_tells_14 : decode cX8_tells 14 = .ok (.aload_n 0, 1) := by decide +kernel
theorem dX8_tells_15 : decode cX8_tells 15 = .ok (.getfield 10, 3) := by decide +kernel
theorem dX8_tells_18 : decode cX8_tells 18 = .ok (.iconst 0, 1) := by decide +kernel
theorem dX8_tells_19 : decode cX8_tells 19 = .ok (.putfield 75, 3) := by decide +kernel
theorem dX8_tells_22 : decode cX8_tells 22 = .ok (.aload_n 0, 1) := by decide +kernel
theorem dX8_tells_23 : decode cX8_tells 23 = .ok (.getfield 19, 3) := by decide +kernel
theorem dX8_tells_26 : decode cX8_tells 26 = .ok (.aload_n 0, 1) := by decide +kernel
theorem dX8_tells_27 : decode cX8_tells 27 = .ok (.getfield 10, 3) := by decide +kernel
theorem dX8_tells_30 : decode cX8_tells 30 = .ok (.getfield 83, 3) := by decide +kernel
theorem dX8_tells_33 : decode cX8_tells 33 = .ok (.invokevirtual 86, 3) := by decide +kernel
theorem dX8_tells_36 : decode cX8_tells 36 = .ok (.aload_n 0, 1) := by decide +kernel
theorem dX8_tells_37 : decode cX8_tells 37 = .ok (.getfield 26, 3) := by decide +kernel
theorem dX8_tells_40 : decode cX8_tells 40 = .ok (.aload_n 0, 1) := by decide +kernel
theorem dX8_tells_41 : decode cX8_tells 41 = .ok (.getfield 19, 3) := by decide +kernel
theorem dX8_tells_44 : decode cX8_tells 44 = .ok (.invokevirtual 90, 3) := by decide +kernel
theorem dX8_tells_47 : decode cX8_tells 47 = .ok (.aload_n 0, 1) := by decide +kernel
theorem dX8_tells_48 : decode cX8_tells 48 = .ok (.getfield 42, 3) := by decide +kernel
theorem dX8_tells_51 : decode cX8_tells 51 = .ok (.invokevirtual 93, 3) := by decide +kernel
theorem dX8_tells_54 : decode cX8_tells 54 = .ok (.aload_n 0, 1) := by decide +kernel
theorem dX8_tells_55 : decode cX8_tells 55 = .ok (.getfield 49, 3) := by decide +kernel
theorem dX8_tells_58 : decode cX8_tells 58 = .ok (.invokevirtual 96, 3) := by decide +kernel
theorem dX8_tells_61 : decode cX8_tells 61 = .ok (.aload_n 0, 1) := by decide +kernel
theorem dX8_tells_62 : decode cX8_tells 62 = .ok (.getfield 63, 3) := by decide +kernel
theorem dX8_tells_65 : decode cX8_tells 65 = .ok (.iconst 0, 1) := by decide +kernel
theorem dX8_tells_66 : decode cX8_tells 66 = .ok (.putfield 97, 3) := by decide +kernel
theorem dX8_tells_69 : decode cX8_tells 69 = .ok (.iload_n 1, 1) := by decide +kernel
theorem dX8_tells_70 : decode cX8_tells 70 = .ok (.ireturn, 1) := by decide +kernel
theorem dX8_offers_0 : decode cX8_offers 0 = .ok (.aload_n 0, 1) := by decide +kernel
theorem dX8_offers_1 : decode cX8_offers 1 = .ok (.getfield 19, 3) := by decide +kernel
theorem dX8_offers_4 : decode cX8_offers 4 = .ok (.iload_n 1, 1) := by decide +kernel
theorem dX8_offers_5 : decode cX8_offers 5 = .ok (.invokevirtual 100, 3) := by decide +kernel
theorem dX8_offers_8 : decode cX8_offers 8 = .ok (.ifCond .eq 13, 3) := by decide +kernel
theorem dX8_offers_11 : decode cX8_offers 11 = .ok (.iload_n 2, 1) := by decide +kernel
theorem dX8_offers_12 : decode cX8_offers 12 = .ok (.iconst 0, 1) := by decide +kernel
theorem dX8_offers_13 : decode cX8_offers 13 = .ok (.bipush 100, 2) := by decide +kernel
theorem dX8_offers_15 : decode cX8_offers 15 = .ok (.invokestatic 67, 3) := by decide +kernel
theorem dX8_offers_18 : decode cX8_offers 18 = .ok (.ifCond .ne 5, 3) := by decide +kernel
theorem dX8_offers_21 : decode cX8_offers 21 = .ok (.iconst (-1), 1) := by decide +kernel
theorem dX8_offers_22 : decode cX8_offers 22 = .ok (.ireturn, 1) := by decide +kernel
theorem dX8_offers_23 : decode cX8_offers 23 = .ok (.aload_n 0, 1) := by decide +kernel
theorem dX8_offers_24 : decode cX8_offers 24 = .ok (.getfield 26, 3) := by decide +kernel
theorem dX8_offers_27 : decode cX8_offers 27 = .ok (.invokevirtual 103, 3) := by decide +kernel
theorem dX8_offers_30 : decode cX8_offers 30 = .ok (.bipush (-9), 2) := by decide +kernel
theorem dX8_offers_32 : decode cX8_offers 32 = .ok (.if_icmp .ne 6, 3) := by decide +kernel
theorem dX8_offers_35 : decode cX8_offers 35 = .ok (.bipush (-3), 2) := by decide +kernel
theorem dX8_offers_37 : decode cX8_offers 37 = .ok (.ireturn, 1) := by decide +kernel
theorem dX8_offers_38 : decode cX8_offers 38 = .ok (.aload_n 0, 1) := by decide +kernel
theorem dX8_offers_39 : decode cX8_offers 39 = .ok (.getfield 42, 3) := by decide +kernel
theorem dX8_offers_42 : decode cX8_offers 42 = .ok (.aload_n 0, 1) := by decide +kernel
theorem dX8_offers_43 : decode cX8_offers 43 = .ok (.getfield 26, 3) := by decide +kernel
theorem dX8_offers_46 : decode cX8_offers 46 = .ok (.invokevirtual 106, 3) := by decide +kernel
theorem dX8_offers_49 : decode cX8_offers 49 = .ok (.aload_n 0, 1) := by decide +kernel
theorem dX8_offers_50 : decode cX8_offers 50 = .ok (.getfield 35, 3) := by decide +kernel
theorem dX8_offers_53 : decode cX8_offers 53 = .ok (.iload_n 1, 1) := by decide +kernel
theorem dX8_offers_54 : decode cX8_offers 54 = .ok (.iload_n 2, 1) := by decide +kernel
theorem dX8_offers_55 : decode cX8_offers 55 = .ok (.invokevirtual 110, 3) := by decide +kernel
theorem dX8_offers_58 : decode cX8_offers 58 = .ok (.ireturn, 1) := by decide +kernel
theorem dX8_hears_0 : decode cX8_hears 0 = .ok (.aload_n 0, 1) := by decide +kernel
theorem dX8_hears_1 : decode cX8_hears 1 = .ok (.getfield 26, 3) := by decide +kernel
theorem dX8_hears_4 : decode cX8_hears 4 = .ok (.iload_n 1, 1) := by decide +kernel
theorem dX8_hears_5 : decode cX8_hears 5 = .ok (.invokevirtual 114, 3) := by decide +kernel
theorem dX8_hears_8 : decode cX8_hears 8 = .ok (.ifCond .eq 41, 3) := by decide +kernel
theorem dX8_hears_11 : decode cX8_hears 11 = .ok (.aload_n 0, 1) := by decide +kernel
theorem dX8_hears_12 : decode cX8_hears 12 = .ok (.iconst 0, 1) := by decide +kernel
theorem dX8_hears_13 : decode cX8_hears 13 = .ok (.iload_n 2, 1) := by decide +kernel
theorem dX8_hears_14 : decode cX8_hears 14 = .ok (.invokevirtual 115, 3) := by decide +kernel
theorem dX8_hears_17 : decode cX8_hears 17 = .ok (.ifCond .eq 32, 3) := by decide +kernel
theorem dX8_hears_20 : decode cX8_hears 20 = .ok (.aload_n 0, 1) := by decide +kernel
theorem dX8_hears_21 : decode cX8_hears 21 = .ok (.iconst 1, 1) := by decide +kernel
theorem dX8_hears_22 : decode cX8_hears 22 = .ok (.iload_n 3, 1) := by decide +kernel
theorem dX8_hears_23 : decode cX8_hears 23 = .ok (.invokevirtual 115, 3) := by decide +kernel
theorem dX8_hears_26 : decode cX8_hears 26 = .ok (.ifCond .eq 23, 3) := by decide +kernel
theorem dX8_hears_29 : decode cX8_hears 29 = .ok (.aload_n 0, 1) := by decide +kernel
theorem dX8_hears_30 : decode cX8_hears 30 = .ok (.iconst 2, 1) := by decide +kernel
theorem dX8_hears_31 : decode cX8_hears 31 = .ok (.iload 4, 2) := by decide +kernel
theorem dX8_hears_33 : decode cX8_hears 33 = .ok (.invokevirtual 115, 3) := by decide +kernel
theorem dX8_hears_36 : decode cX8_hears 36 = .ok (.ifCond .eq 13, 3) := by decide +kernel
theorem dX8_hears_39 : decode cX8_hears 39 = .ok (.aload_n 0, 1) := by decide +kernel
theorem dX8_hears_40 : decode cX8_hears 40 = .ok (.iconst 3, 1) := by decide +kernel
theorem dX8_hears_41 : decode cX8_hears 41 = .ok (.iload 5, 2) := by decide +kernel
theorem dX8_hears_43 : decode cX8_hears 43 = .ok (.invokevirtual 115, 3) := by decide +kernel
theorem dX8_hears_46 : decode cX8_hears 46 = .ok (.ifCond .ne 5, 3) := by decide +kernel
theorem dX8_hears_49 : decode cX8_hears 49 = .ok (.iconst (-1), 1) := by decide +kernel
theorem dX8_hears_50 : decode cX8_hears 50 = .ok (.ireturn, 1) := by decide +kernel
theorem dX8_hears_51 : decode cX8_hears 51 = .ok (.aload_n 0, 1) := by decide +kernel
theorem dX8_hears_52 : decode cX8_hears 52 = .ok (.getfield 42, 3) := by decide +kernel
theorem dX8_hears_55 : decode cX8_hears 55 = .ok (.aload_n 0, 1) := by decide +kernel
theorem dX8_hears_56 : decode cX8_hears 56 = .ok (.getfield 26, 3) := by decide +kernel
theorem dX8_hears_59 : decode cX8_hears 59 = .ok (.invokevirtual 106, 3) := by decide +kernel
theorem dX8_hears_62 : decode cX8_hears 62 = .ok (.aload_n 0, 1) := by decide +kernel
theorem dX8_hears_63 : decode cX8_hears 63 = .ok (.getfield 35, 3) := by decide +kernel
theorem dX8_hears_66 : decode cX8_hears 66 = .ok (.iload_n 2, 1) := by decide +kernel
theorem dX8_hears_67 : decode cX8_hears 67 = .ok (.iload_n 3, 1) := by decide +kernel
theorem dX8_hears_68 : decode cX8_hears 68 = .ok (.iload 4, 2) := by decide +kernel
theorem dX8_hears_70 : decode cX8_hears 70 = .ok (.iload 5, 2) := by decide +kernel
theorem dX8_hears_72 : decode cX8_hears 72 = .ok (.invokevirtual 119, 3) := by decide +kernel
theorem dX8_hears_75 : decode cX8_hears 75 = .ok (.aload_n 0, 1) := by decide +kernel
theorem dX8_hears_76 : decode cX8_hears 76 = .ok (.getfield 35, 3) := by decide +kernel
theorem dX8_hears_79 : decode cX8_hears 79 = .ok (.iload_n 1, 1) := by decide +kernel
theorem dX8_hears_80 : decode cX8_hears 80 = .ok (.invokevirtual 123, 3) := by decide +kernel
theorem dX8_hears_83 : decode cX8_hears 83 = .ok (.ireturn, 1) := by decide +kernel
theorem dX8_ends_0 : decode cX8_ends 0 = .ok (.aload_n 0, 1) := by decide +kernel
theorem dX8_ends_1 : decode cX8_ends 1 = .ok (.getfield 26, 3) := by decide +kernel
theorem dX8_ends_4 : decode cX8_ends 4 = .ok (.iload_n 1, 1) := by decide +kernel
theorem dX8_ends_5 : decode cX8_ends 5 = .ok (.invokevirtual 114, 3) := by decide +kernel
theorem dX8_ends_8 : decode cX8_ends 8 = .ok (.ifCond .ne 5, 3) := by decide +kernel
theorem dX8_ends_11 : decode cX8_ends 11 = .ok (.iconst (-1), 1) := by decide +kernel
theorem dX8_ends_12 : decode cX8_ends 12 = .ok (.ireturn, 1) := by decide +kernel
theorem dX8_ends_13 : decode cX8_ends 13 = .ok (.aload_n 0, 1) := by decide +kernel
theorem dX8_ends_14 : decode cX8_ends 14 = .ok (.getfield 42, 3) := by decide +kernel
theorem dX8_ends_17 : decode cX8_ends 17 = .ok (.aload_n 0, 1) := by decide +kernel
theorem dX8_ends_18 : decode cX8_ends 18 = .ok (.getfield 26, 3) := by decide +kernel
theorem dX8_ends_21 : decode cX8_ends 21 = .ok (.invokevirtual 106, 3) := by decide +kernel
theorem dX8_ends_24 : decode cX8_ends 24 = .ok (.aload_n 0, 1) := by decide +kernel
theorem dX8_ends_25 : decode cX8_ends 25 = .ok (.getfield 35, 3) := by decide +kernel
theorem dX8_ends_28 : decode cX8_ends 28 = .ok (.iload_n 1, 1) := by decide +kernel
theorem dX8_ends_29 : decode cX8_ends 29 = .ok (.invokevirtual 127, 3) := by decide +kernel
theorem dX8_ends_32 : decode cX8_ends 32 = .ok (.ireturn, 1) := by decide +kernel
theorem dX8_guards_0 : decode cX8_guards 0 = .ok (.aload_n 0, 1) := by decide +kernel
theorem dX8_guards_1 : decode cX8_guards 1 = .ok (.getfield 19, 3) := by decide +kernel
theorem dX8_guards_4 : decode cX8_guards 4 = .ok (.iload_n 1, 1) := by decide +kernel
theorem dX8_guards_5 : decode cX8_guards 5 = .ok (.invokevirtual 100, 3) := by decide +kernel
theorem dX8_guards_8 : decode cX8_guards 8 = .ok (.ifCond .eq 19, 3) := by decide +kernel
theorem dX8_guards_11 : decode cX8_guards 11 = .ok (.iload_n 2, 1) := by decide +kernel
theorem dX8_guards_12 : decode cX8_guards 12 = .ok (.iconst 0, 1) := by decide +kernel
theorem dX8_guards_13 : decode cX8_guards 13 = .ok (.aload_n 0, 1) := by decide +kernel
theorem dX8_guards_14 : decode cX8_guards 14 = .ok (.getfield 19, 3) := by decide +kernel
theorem dX8_guards_17 : decode cX8_guards 17 = .ok (.iload_n 1, 1) := by decide +kernel
theorem dX8_guards_18 : decode cX8_guards 18 = .ok (.invokevirtual 130, 3) := by decide +kernel
theorem dX8_guards_21 : decode cX8_guards 21 = .ok (.invokestatic 67, 3) := by decide +kernel
theorem dX8_guards_24 : decode cX8_guards 24 = .ok (.ifCond .ne 5, 3) := by decide +kernel
theorem dX8_guards_27 : decode cX8_guards 27 = .ok (.iconst (-1), 1) := by decide +kernel
theorem dX8_guards_28 : decode cX8_guards 28 = .ok (.ireturn, 1) := by decide +kernel
theorem dX8_guards_29 : decode cX8_guards 29 = .ok (.aload_n 0, 1) := by decide +kernel
theorem dX8_guards_30 : decode cX8_guards 30 = .ok (.getfield 26, 3) := by decide +kernel
theorem dX8_guards_33 : decode cX8_guards 33 = .ok (.getfield 133, 3) := by decide +kernel
theorem dX8_guards_36 : decode cX8_guards 36 = .ok (.iload_n 1, 1) := by decide +kernel
theorem dX8_guards_37 : decode cX8_guards 37 = .ok (.iaload, 1) := by decide +kernel
theorem dX8_guards_38 : decode cX8_guards 38 = .ok (.istore_n 3, 1) := by decide +kernel
theorem dX8_guards_39 : decode cX8_guards 39 = .ok (.iload_n 3, 1) := by decide +kernel
theorem dX8_guards_40 : decode cX8_guards 40 = .ok (.iload_n 2, 1) := by decide +kernel
theorem dX8_guards_41 : decode cX8_guards 41 = .ok (.if_icmp .ne 6, 3) := by decide +kernel
theorem dX8_guards_44 : decode cX8_guards 44 = .ok (.bipush (-2), 2) := by decide +kernel
theorem dX8_guards_46 : decode cX8_guards 46 = .ok (.ireturn, 1) := by decide +kernel
theorem dX8_guards_47 : decode cX8_guards 47 = .ok (.aload_n 0, 1) := by decide +kernel
theorem dX8_guards_48 : decode cX8_guards 48 = .ok (.getfield 42, 3) := by decide +kernel
theorem dX8_guards_51 : decode cX8_guards 51 = .ok (.aload_n 0, 1) := by decide +kernel
theorem dX8_guards_52 : decode cX8_guards 52 = .ok (.getfield 26, 3) := by decide +kernel
theorem dX8_guards_55 : decode cX8_guards 55 = .ok (.invokevirtual 106, 3) := by decide +kernel
theorem dX8_guards_58 : decode cX8_guards 58 = .ok (.aload_n 0, 1) := by decide +kernel
theorem dX8_guards_59 : decode cX8_guards 59 = .ok (.getfield 26, 3) := by decide +kernel
theorem dX8_guards_62 : decode cX8_guards 62 = .ok (.getfield 133, 3) := by decide +kernel
theorem dX8_guards_65 : decode cX8_guards 65 = .ok (.iload_n 1, 1) := by decide +kernel
theorem dX8_guards_66 : decode cX8_guards 66 = .ok (.iload_n 2, 1) := by decide +kernel
theorem dX8_guards_67 : decode cX8_guards 67 = .ok (.iastore, 1) := by decide +kernel
theorem dX8_guards_68 : decode cX8_guards 68 = .ok (.iload_n 3, 1) := by decide +kernel
theorem dX8_guards_69 : decode cX8_guards 69 = .ok (.ireturn, 1) := by decide +kernel
theorem dX8_seeds_0 : decode cX8_seeds 0 = .ok (.aload_n 0, 1) := by decide +kernel
theorem dX8_seeds_1 : decode cX8_seeds 1 = .ok (.getfield 26, 3) := by decide +kernel
theorem dX8_seeds_4 : decode cX8_seeds 4 = .ok (.getfield 137, 3) := by decide +kernel
theorem dX8_seeds_7 : decode cX8_seeds 7 = .ok (.istore_n 2, 1) := by decide +kernel
theorem dX8_seeds_8 : decode cX8_seeds 8 = .ok (.aload_n 0, 1) := by decide +kernel
theorem dX8_seeds_9 : decode cX8_seeds 9 = .ok (.getfield 26, 3) := by decide +kernel
theorem dX8_seeds_12 : decode cX8_seeds 12 = .ok (.iload_n 1, 1) := by decide +kernel
theorem dX8_seeds_13 : decode cX8_seeds 13 = .ok (.putfield 137, 3) := by decide +kernel
theorem dX8_seeds_16 : decode cX8_seeds 16 = .ok (.iload_n 2, 1) := by decide +kernel
theorem dX8_seeds_17 : decode cX8_seeds 17 = .ok (.ireturn, 1) := by decide +kernel
theorem dX8_undo_0 : decode cX8_undo 0 = .ok (.aload_n 0, 1) := by decide +kernel
theorem dX8_undo_1 : decode cX8_undo 1 = .ok (.getfield 42, 3) := by decide +kernel
theorem dX8_undo_4 : decode cX8_undo 4 = .ok (.aload_n 0, 1) := by decide +kernel
theorem dX8_undo_5 : decode cX8_undo 5 = .ok (.getfield 26, 3) := by decide +kernel
theorem dX8_undo_8 : decode cX8_undo 8 = .ok (.invokevirtual 140, 3) := by decide +kernel
theorem dX8_undo_11 : decode cX8_undo 11 = .ok (.ifCond .eq 13, 3) := by decide +kernel
theorem dX8_undo_14 : decode cX8_undo 14 = .ok (.aload_n 0, 1) := by decide +kernel
theorem dX8_undo_15 : decode cX8_undo 15 = .ok (.getfield 42, 3) := by decide +kernel
theorem dX8_undo_18 : decode cX8_undo 18 = .ok (.getfield 144, 3) := by decide +kernel
theorem dX8_undo_21 : decode cX8_undo 21 = .ok (.goto 5, 3) := by decide +kernel
theorem dX8_undo_24 : decode cX8_undo 24 = .ok (.bipush (-2), 2) := by decide +kernel
theorem dX8_undo_26 : decode cX8_undo 26 = .ok (.ireturn, 1) := by decide +kernel
theorem dX8_cell_0 : decode cX8_cell 0 = .ok (.aload_n 0, 1) := by decide +kernel
theorem dX8_cell_1 : decode cX8_cell 1 = .ok (.getfield 19, 3) := by decide +kernel
theorem dX8_cell_4 : decode cX8_cell 4 = .ok (.iload_n 1, 1) := by decide +kernel
theorem dX8_cell_5 : decode cX8_cell 5 = .ok (.invokevirtual 100, 3) := by decide +kernel
theorem dX8_cell_8 : decode cX8_cell 8 = .ok (.ifCond .ne 5, 3) := by decide +kernel
theorem dX8_cell_11 : decode cX8_cell 11 = .ok (.iconst (-1), 1) := by decide +kernel
theorem dX8_cell_12 : decode cX8_cell 12 = .ok (.ireturn, 1) := by decide +kernel
theorem dX8_cell_13 : decode cX8_cell 13 = .ok (.iload_n 2, 1) := by decide +kernel
theorem dX8_cell_14 : decode cX8_cell 14 = .ok (.tableswitch 95 0 5 #[38, 48, 58, 68, 77, 86], 38) := by decide +kernel
theorem dX8_cell_52 : decode cX8_cell 52 = .ok (.aload_n 0, 1) := by decide +kernel
theorem dX8_cell_53 : decode cX8_cell 53 = .ok (.getfield 19, 3) := by decide +kernel
theorem dX8_cell_56 : decode cX8_cell 56 = .ok (.getfield 147, 3) := by decide +kernel
theorem dX8_cell_59 : decode cX8_cell 59 = .ok (.iload_n 1, 1) := by decide +kernel
theorem dX8_cell_60 : decode cX8_cell 60 = .ok (.iaload, 1) := by decide +kernel
theorem dX8_cell_61 : decode cX8_cell 61 = .ok (.ireturn, 1) := by decide +kernel
theorem dX8_cell_62 : decode cX8_cell 62 = .ok (.aload_n 0, 1) := by decide +kernel
theorem dX8_cell_63 : decode cX8_cell 63 = .ok (.getfield 26, 3) := by decide +kernel
theorem dX8_cell_66 : decode cX8_cell 66 = .ok (.getfield 133, 3) := by decide +kernel
theorem dX8_cell_69 : decode cX8_cell 69 = .ok (.iload_n 1, 1) := by decide +kernel
theorem dX8_cell_70 : decode cX8_cell 70 = .ok (.iaload, 1) := by decide +kernel
theorem dX8_cell_71 : decode cX8_cell 71 = .ok (.ireturn, 1) := by decide +kernel
theorem dX8_cell_72 : decode cX8_cell 72 = .ok (.aload_n 0, 1) := by decide +kernel
theorem dX8_cell_73 : decode cX8_cell 73 = .ok (.getfield 19, 3) := by decide +kernel
theorem dX8_cell_76 : decode cX8_cell 76 = .ok (.getfield 150, 3) := by decide +kernel
theorem dX8_cell_79 : decode cX8_cell 79 = .ok (.iload_n 1, 1) := by decide +kernel
theorem dX8_cell_80 : decode cX8_cell 80 = .ok (.iaload, 1) := by decide +kernel
theorem dX8_cell_81 : decode cX8_cell 81 = .ok (.ireturn, 1) := by decide +kernel
theorem dX8_cell_82 : decode cX8_cell 82 = .ok (.aload_n 0, 1) := by decide +kernel
theorem dX8_cell_83 : decode cX8_cell 83 = .ok (.getfield 26, 3) := by decide +kernel
theorem dX8_cell_86 : decode cX8_cell 86 = .ok (.iload_n 1, 1) := by decide +kernel
theorem dX8_cell_87 : decode cX8_cell 87 = .ok (.invokevirtual 153, 3) := by decide +kernel
theorem dX8_cell_90 : decode cX8_cell 90 = .ok (.ireturn, 1) := by decide +kernel
theorem dX8_cell_91 : decode cX8_cell 91 = .ok (.aload_n 0, 1) := by decide +kernel
theorem dX8_cell_92 : decode cX8_cell 92 = .ok (.getfield 26, 3) := by decide +kernel
theorem dX8_cell_95 : decode cX8_cell 95 = .ok (.iload_n 1, 1) := by decide +kernel
theorem dX8_cell_96 : decode cX8_cell 96 = .ok (.invokevirtual 156, 3) := by decide +kernel
theorem dX8_cell_99 : decode cX8_cell 99 = .ok (.ireturn, 1) := by decide +kernel
theorem dX8_cell_100 : decode cX8_cell 100 = .ok (.aload_n 0, 1) := by decide +kernel
theorem dX8_cell_101 : decode cX8_cell 101 = .ok (.getfield 35, 3) := by decide +kernel
theorem dX8_cell_104 : decode cX8_cell 104 = .ok (.iload_n 1, 1) := by decide +kernel
theorem dX8_cell_105 : decode cX8_cell 105 = .ok (.invokevirtual 159, 3) := by decide +kernel
theorem dX8_cell_108 : decode cX8_cell 108 = .ok (.ireturn, 1) := by decide +kernel
theorem dX8_cell_109 : decode cX8_cell 109 = .ok (.iload_n 2, 1) := by decide +kernel
theorem dX8_cell_110 : decode cX8_cell 110 = .ok (.bipush 6, 2) := by decide +kernel
theorem dX8_cell_112 : decode cX8_cell 112 = .ok (.bipush 11, 2) := by decide +kernel
theorem dX8_cell_114 : decode cX8_cell 114 = .ok (.invokestatic 67, 3) := by decide +kernel
theorem dX8_cell_117 : decode cX8_cell 117 = .ok (.ifCond .eq 23, 3) := by decide +kernel
theorem dX8_cell_120 : decode cX8_cell 120 = .ok (.aload_n 0, 1) := by decide +kernel
theorem dX8_cell_121 : decode cX8_cell 121 = .ok (.getfield 26, 3) := by decide +kernel
theorem dX8_cell_124 : decode cX8_cell 124 = .ok (.getfield 162, 3) := by decide +kernel
theorem dX8_cell_127 : decode cX8_cell 127 = .ok (.iload_n 1, 1) := by decide +kernel
theorem dX8_cell_128 : decode cX8_cell 128 = .ok (.bipush 6, 2) := by decide +kernel
theorem dX8_cell_130 : decode cX8_cell 130 = .ok (.imul, 1) := by decide +kernel
theorem dX8_cell_131 : decode cX8_cell 131 = .ok (.iload_n 2, 1) := by decide +kernel
theorem dX8_cell_132 : decode cX8_cell 132 = .ok (.iadd, 1) := by decide +kernel
theorem dX8_cell_133 : decode cX8_cell 133 = .ok (.bipush 6, 2) := by decide +kernel
theorem dX8_cell_135 : decode cX8_cell 135 = .ok (.isub, 1) := by decide +kernel
theorem dX8_cell_136 : decode cX8_cell 136 = .ok (.iaload, 1) := by decide +kernel
theorem dX8_cell_137 : decode cX8_cell 137 = .ok (.goto 4, 3) := by decide +kernel
theorem dX8_cell_140 : decode cX8_cell 140 = .ok (.iconst (-1), 1) := by decide +kernel
theorem dX8_cell_141 : decode cX8_cell 141 = .ok (.ireturn, 1) := by decide +kernel
theorem dX8_call_0 : decode cX8_call 0 = .ok (.aload_n 0, 1) := by decide +kernel
theorem dX8_call_1 : decode cX8_call 1 = .ok (.getfield 26, 3) := by decide +kernel
theorem dX8_call_4 : decode cX8_call 4 = .ok (.iload_n 1, 1) := by decide +kernel
theorem dX8_call_5 : decode cX8_call 5 = .ok (.invokevirtual 114, 3) := by decide +kernel
theorem dX8_call_8 : decode cX8_call 8 = .ok (.ifCond .ne 6, 3) := by decide +kernel
theorem dX8_call_11 : decode cX8_call 11 = .ok (.ldc 165, 2) := by decide +kernel
theorem dX8_call_13 : decode cX8_call 13 = .ok (.ireturn, 1) := by decide +kernel
theorem dX8_call_14 : decode cX8_call 14 = .ok (.iload_n 2, 1) := by decide +kernel
theorem dX8_call_15 : decode cX8_call 15 = .ok (.tableswitch 111 0 6 #[41, 51, 61, 71, 81, 91, 101], 41) := by decide +kernel
theorem dX8_call_56 : decode cX8_call 56 = .ok (.aload_n 0, 1) := by decide +kernel
theorem dX8_call_57 : decode cX8_call 57 = .ok (.getfield 26, 3) := by decide +kernel
theorem dX8_call_60 : decode cX8_call 60 = .ok (.getfield 166, 3) := by decide +kernel
theorem dX8_call_63 : decode cX8_call 63 = .ok (.iload_n 1, 1) := by decide +kernel
theorem dX8_call_64 : decode cX8_call 64 = .ok (.iaload, 1) := by decide +kernel
theorem dX8_call_65 : decode cX8_call 65 = .ok (.ireturn, 1) := by decide +kernel
theorem dX8_call_66 : decode cX8_call 66 = .ok (.aload_n 0, 1) := by decide +kernel
theorem dX8_call_67 : decode cX8_call 67 = .ok (.getfield 26, 3) := by decide +kernel
theorem dX8_call_70 : decode cX8_call 70 = .ok (.getfield 169, 3) := by decide +kernel
theorem dX8_call_73 : decode cX8_call 73 = .ok (.iload_n 1, 1) := by decide +kernel
theorem dX8_call_74 : decode cX8_call 74 = .ok (.iaload, 1) := by decide +kernel
theorem dX8_call_75 : decode cX8_call 75 = .ok (.ireturn, 1) := by decide +kernel
theorem dX8_call_76 : decode cX8_call 76 = .ok (.aload_n 0, 1) := by decide +kernel
theorem dX8_call_77 : decode cX8_call 77 = .ok (.getfield 26, 3) := by decide +kernel
theorem dX8_call_80 : decode cX8_call 80 = .ok (.getfield 172, 3) := by decide +kernel
theorem dX8_call_83 : decode cX8_call 83 = .ok (.iload_n 1, 1) := by decide +kernel
theorem dX8_call_84 : decode cX8_call 84 = .ok (.iaload, 1) := by decide +kernel
theorem dX8_call_85 : decode cX8_call 85 = .ok (.ireturn, 1) := by decide +kernel
theorem dX8_call_86 : decode cX8_call 86 = .ok (.aload_n 0, 1) := by decide +kernel
theorem dX8_call_87 : decode cX8_call 87 = .ok (.getfield 26, 3) := by decide +kernel
theorem dX8_call_90 : decode cX8_call 90 = .ok (.getfield 175, 3) := by decide +kernel
theorem dX8_call_93 : decode cX8_call 93 = .ok (.iload_n 1, 1) := by decide +kernel
theorem dX8_call_94 : decode cX8_call 94 = .ok (.iaload, 1) := by decide +kernel
theorem dX8_call_95 : decode cX8_call 95 = .ok (.ireturn, 1) := by decide +kernel
theorem dX8_call_96 : decode cX8_call 96 = .ok (.aload_n 0, 1) := by decide +kernel
theorem dX8_call_97 : decode cX8_call 97 = .ok (.getfield 26, 3) := by decide +kernel
theorem dX8_call_100 : decode cX8_call 100 = .ok (.getfield 178, 3) := by decide +kernel
theorem dX8_call_103 : decode cX8_call 103 = .ok (.iload_n 1, 1) := by decide +kernel
theorem dX8_call_104 : decode cX8_call 104 = .ok (.iaload, 1) := by decide +kernel
theorem dX8_call_105 : decode cX8_call 105 = .ok (.ireturn, 1) := by decide +kernel
theorem dX8_call_106 : decode cX8_call 106 = .ok (.aload_n 0, 1) := by decide +kernel
theorem dX8_call_107 : decode cX8_call 107 = .ok (.getfield 26, 3) := by decide +kernel
theorem dX8_call_110 : decode cX8_call 110 = .ok (.getfield 181, 3) := by decide +kernel
theorem dX8_call_113 : decode cX8_call 113 = .ok (.iload_n 1, 1) := by decide +kernel
theorem dX8_call_114 : decode cX8_call 114 = .ok (.iaload, 1) := by decide +kernel
theorem dX8_call_115 : decode cX8_call 115 = .ok (.ireturn, 1) := by decide +kernel
theorem dX8_call_116 : decode cX8_call 116 = .ok (.aload_n 0, 1) := by decide +kernel
theorem dX8_call_117 : decode cX8_call 117 = .ok (.getfield 26, 3) := by decide +kernel
theorem dX8_call_120 : decode cX8_call 120 = .ok (.getfield 184, 3) := by decide +kernel
theorem dX8_call_123 : decode cX8_call 123 = .ok (.iload_n 1, 1) := by decide +kernel
theorem dX8_call_124 : decode cX8_call 124 = .ok (.iaload, 1) := by decide +kernel
theorem dX8_call_125 : decode cX8_call 125 = .ok (.ireturn, 1) := by decide +kernel
theorem dX8_call_126 : decode cX8_call 126 = .ok (.ldc 165, 2) := by decide +kernel
theorem dX8_call_128 : decode cX8_call 128 = .ok (.ireturn, 1) := by decide +kernel
theorem dX8_level_0 : decode cX8_level 0 = .ok (.aload_n 0, 1) := by decide +kernel
theorem dX8_level_1 : decode cX8_level 1 = .ok (.getfield 26, 3) := by decide +kernel
theorem dX8_level_4 : decode cX8_level 4 = .ok (.iload_n 1, 1) := by decide +kernel
theorem dX8_level_5 : decode cX8_level 5 = .ok (.invokevirtual 114, 3) := by decide +kernel
theorem dX8_level_8 : decode cX8_level 8 = .ok (.ifCond .eq 23, 3) := by decide +kernel
theorem dX8_level_11 : decode cX8_level 11 = .ok (.aload_n 0, 1) := by decide +kernel
theorem dX8_level_12 : decode cX8_level 12 = .ok (.getfield 19, 3) := by decide +kernel
theorem dX8_level_15 : decode cX8_level 15 = .ok (.iload_n 2, 1) := by decide +kernel
theorem dX8_level_16 : decode cX8_level 16 = .ok (.invokevirtual 100, 3) := by decide +kernel
theorem dX8_level_19 : decode cX8_level 19 = .ok (.ifCond .eq 12, 3) := by decide +kernel
theorem dX8_level_22 : decode cX8_level 22 = .ok (.iload_n 3, 1) := by decide +kernel
theorem dX8_level_23 : decode cX8_level 23 = .ok (.iconst 0, 1) := by decide +kernel
theorem dX8_level_24 : decode cX8_level 24 = .ok (.iconst 1, 1) := by decide +kernel
theorem dX8_level_25 : decode cX8_level 25 = .ok (.invokestatic 67, 3) := by decide +kernel
theorem dX8_level_28 : decode cX8_level 28 = .ok (.ifCond .ne 5, 3) := by decide +kernel
theorem dX8_level_31 : decode cX8_level 31 = .ok (.iconst (-1), 1) := by decide +kernel
theorem dX8_level_32 : decode cX8_level 32 = .ok (.ireturn, 1) := by decide +kernel
theorem dX8_level_33 : decode cX8_level 33 = .ok (.iload_n 1, 1) := by decide +kernel
theorem dX8_level_34 : decode cX8_level 34 = .ok (.iconst 4, 1) := by decide +kernel
theorem dX8_level_35 : decode cX8_level 35 = .ok (.imul, 1) := by decide +kernel
theorem dX8_level_36 : decode cX8_level 36 = .ok (.iload_n 2, 1) := by decide +kernel
theorem dX8_level_37 : decode cX8_level 37 = .ok (.iadd, 1) := by decide +kernel
theorem dX8_level_38 : decode cX8_level 38 = .ok (.istore 4, 2) := by decide +kernel
theorem dX8_level_40 : decode cX8_level 40 = .ok (.iload_n 3, 1) := by decide +kernel
theorem dX8_level_41 : decode cX8_level 41 = .ok (.ifCond .ne 16, 3) := by decide +kernel
theorem dX8_level_44 : decode cX8_level 44 = .ok (.aload_n 0, 1) := by decide +kernel
theorem dX8_level_45 : decode cX8_level 45 = .ok (.getfield 26, 3) := by decide +kernel
theorem dX8_level_48 : decode cX8_level 48 = .ok (.getfield 187, 3) := by decide +kernel
theorem dX8_level_51 : decode cX8_level 51 = .ok (.iload 4, 2) := by decide +kernel
theorem dX8_level_53 : decode cX8_level 53 = .ok (.iaload, 1) := by decide +kernel
theorem dX8_level_54 : decode cX8_level 54 = .ok (.goto 13, 3) := by decide +kernel
theorem dX8_level_57 : decode cX8_level 57 = .ok (.aload_n 0, 1) := by decide +kernel
theorem dX8_level_58 : decode cX8_level 58 = .ok (.getfield 26, 3) := by decide +kernel
theorem dX8_level_61 : decode cX8_level 61 = .ok (.getfield 190, 3) := by decide +kernel
theorem dX8_level_64 : decode cX8_level 64 = .ok (.iload 4, 2) := by decide +kernel
theorem dX8_level_66 : decode cX8_level 66 = .ok (.iaload, 1) := by decide +kernel
theorem dX8_level_67 : decode cX8_level 67 = .ok (.ireturn, 1) := by decide +kernel
theorem dX8_queued_0 : decode cX8_queued 0 = .ok (.aload_n 0, 1) := by decide +kernel
theorem dX8_queued_1 : decode cX8_queued 1 = .ok (.getfield 19, 3) := by decide +kernel
theorem dX8_queued_4 : decode cX8_queued 4 = .ok (.iload_n 1, 1) := by decide +kernel
theorem dX8_queued_5 : decode cX8_queued 5 = .ok (.invokevirtual 100, 3) := by decide +kernel
theorem dX8_queued_8 : decode cX8_queued 8 = .ok (.ifCond .eq 7, 3) := by decide +kernel
theorem dX8_queued_11 : decode cX8_queued 11 = .ok (.iload_n 2, 1) := by decide +kernel
theorem dX8_queued_12 : decode cX8_queued 12 = .ok (.ifCond .ge 5, 3) := by decide +kernel
theorem dX8_queued_15 : decode cX8_queued 15 = .ok (.iconst (-1), 1) := by decide +kernel
theorem dX8_queued_16 : decode cX8_queued 16 = .ok (.ireturn, 1) := by decide +kernel
theorem dX8_queued_17 : decode cX8_queued 17 = .ok (.aload_n 0, 1) := by decide +kernel
theorem dX8_queued_18 : decode cX8_queued 18 = .ok (.getfield 35, 3) := by decide +kernel
theorem dX8_queued_21 : decode cX8_queued 21 = .ok (.iload_n 1, 1) := by decide +kernel
theorem dX8_queued_22 : decode cX8_queued 22 = .ok (.iload_n 2, 1) := by decide +kernel
theorem dX8_queued_23 : decode cX8_queued 23 = .ok (.invokevirtual 193, 3) := by decide +kernel
theorem dX8_queued_26 : decode cX8_queued 26 = .ok (.ireturn, 1) := by decide +kernel
theorem dX8_pair_0 : decode cX8_pair 0 = .ok (.iload_n 1, 1) := by decide +kernel
theorem dX8_pair_1 : decode cX8_pair 1 = .ok (.ifCond .lt 12, 3) := by decide +kernel
theorem dX8_pair_4 : decode cX8_pair 4 = .ok (.iload_n 2, 1) := by decide +kernel
theorem dX8_pair_5 : decode cX8_pair 5 = .ok (.iconst 0, 1) := by decide +kernel
theorem dX8_pair_6 : decode cX8_pair 6 = .ok (.iconst 2, 1) := by decide +kernel
theorem dX8_pair_7 : decode cX8_pair 7 = .ok (.invokestatic 67, 3) := by decide +kernel
theorem dX8_pair_10 : decode cX8_pair 10 = .ok (.ifCond .ne 5, 3) := by decide +kernel
theorem dX8_pair_13 : decode cX8_pair 13 = .ok (.iconst (-1), 1) := by decide +kernel
theorem dX8_pair_14 : decode cX8_pair 14 = .ok (.ireturn, 1) := by decide +kernel
theorem dX8_pair_15 : decode cX8_pair 15 = .ok (.iload_n 1, 1) := by decide +kernel
theorem dX8_pair_16 : decode cX8_pair 16 = .ok (.aload_n 0, 1) := by decide +kernel
theorem dX8_pair_17 : decode cX8_pair 17 = .ok (.getfield 26, 3) := by decide +kernel
theorem dX8_pair_20 : decode cX8_pair 20 = .ok (.getfield 196, 3) := by decide +kernel
theorem dX8_pair_23 : decode cX8_pair 23 = .ok (.if_icmp .ge 9, 3) := by decide +kernel
theorem dX8_pair_26 : decode cX8_pair 26 = .ok (.iload_n 1, 1) := by decide +kernel
theorem dX8_pair_27 : decode cX8_pair 27 = .ok (.bipush 12, 2) := by decide +kernel
theorem dX8_pair_29 : decode cX8_pair 29 = .ok (.if_icmp .lt 6, 3) := by decide +kernel
theorem dX8_pair_32 : decode cX8_pair 32 = .ok (.bipush (-9), 2) := by decide +kernel
theorem dX8_pair_34 : decode cX8_pair 34 = .ok (.ireturn, 1) := by decide +kernel
theorem dX8_pair_35 : decode cX8_pair 35 = .ok (.iload_n 2, 1) := by decide +kernel
theorem dX8_pair_36 : decode cX8_pair 36 = .ok (.ifCond .ne 13, 3) := by decide +kernel
theorem dX8_pair_39 : decode cX8_pair 39 = .ok (.aload_n 0, 1) := by decide +kernel
theorem dX8_pair_40 : decode cX8_pair 40 = .ok (.getfield 26, 3) := by decide +kernel
theorem dX8_pair_43 : decode cX8_pair 43 = .ok (.getfield 199, 3) := by decide +kernel
theorem dX8_pair_46 : decode cX8_pair 46 = .ok (.iload_n 1, 1) := by decide +kernel
theorem dX8_pair_47 : decode cX8_pair 47 = .ok (.iaload, 1) := by decide +kernel
theorem dX8_pair_48 : decode cX8_pair 48 = .ok (.ireturn, 1) := by decide +kernel
theorem dX8_pair_49 : decode cX8_pair 49 = .ok (.iload_n 2, 1) := by decide +kernel
theorem dX8_pair_50 : decode cX8_pair 50 = .ok (.iconst 1, 1) := by decide +kernel
theorem dX8_pair_51 : decode cX8_pair 51 = .ok (.if_icmp .ne 15, 3) := by decide +kernel
theorem dX8_pair_54 : decode cX8_pair 54 = .ok (.aload_n 0, 1) := by decide +kernel
theorem dX8_pair_55 : decode cX8_pair 55 = .ok (.getfield 26, 3) := by decide +kernel
theorem dX8_pair_58 : decode cX8_pair 58 = .ok (.getfield 202, 3) := by decide +kernel
theorem dX8_pair_61 : decode cX8_pair 61 = .ok (.iload_n 1, 1) := by decide +kernel
theorem dX8_pair_62 : decode cX8_pair 62 = .ok (.iaload, 1) := by decide +kernel
theorem dX8_pair_63 : decode cX8_pair 63 = .ok (.goto 12, 3) := by decide +kernel
theorem dX8_pair_66 : decode cX8_pair 66 = .ok (.aload_n 0, 1) := by decide +kernel
theorem dX8_pair_67 : decode cX8_pair 67 = .ok (.getfield 26, 3) := by decide +kernel
theorem dX8_pair_70 : decode cX8_pair 70 = .ok (.getfield 205, 3) := by decide +kernel
theorem dX8_pair_73 : decode cX8_pair 73 = .ok (.iload_n 1, 1) := by decide +kernel
theorem dX8_pair_74 : decode cX8_pair 74 = .ok (.iaload, 1) := by decide +kernel
theorem dX8_pair_75 : decode cX8_pair 75 = .ok (.ireturn, 1) := by decide +kernel
theorem dX8_lost_0 : decode cX8_lost 0 = .ok (.aload_n 0, 1) := by decide +kernel
theorem dX8_lost_1 : decode cX8_lost 1 = .ok (.getfield 19, 3) := by decide +kernel
theorem dX8_lost_4 : decode cX8_lost 4 = .ok (.iload_n 1, 1) := by decide +kernel
theorem dX8_lost_5 : decode cX8_lost 5 = .ok (.invokevirtual 100, 3) := by decide +kernel
theorem dX8_lost_8 : decode cX8_lost 8 = .ok (.ifCond .eq 33, 3) := by decide +kernel
theorem dX8_lost_11 : decode cX8_lost 11 = .ok (.iload_n 2, 1) := by decide +kernel
theorem dX8_lost_12 : decode cX8_lost 12 = .ok (.iload_n 3, 1) := by decide +kernel
theorem dX8_lost_13 : decode cX8_lost 13 = .ok (.iload 4, 2) := by decide +kernel
theorem dX8_lost_15 : decode cX8_lost 15 = .ok (.invokestatic 208, 3) := by decide +kernel
theorem dX8_lost_18 : decode cX8_lost 18 = .ok (.ifCond .eq 23, 3) := by decide +kernel
theorem dX8_lost_21 : decode cX8_lost 21 = .ok (.iload 5, 2) := by decide +kernel
theorem dX8_lost_23 : decode cX8_lost 23 = .ok (.iconst 0, 1) := by decide +kernel
theorem dX8_lost_24 : decode cX8_lost 24 = .ok (.iconst 2, 1) := by decide +kernel
theorem dX8_lost_25 : decode cX8_lost 25 = .ok (.invokestatic 67, 3) := by decide +kernel
theorem dX8_lost_28 : decode cX8_lost 28 = .ok (.ifCond .eq 13, 3) := by decide +kernel
theorem dX8_lost_31 : decode cX8_lost 31 = .ok (.iload 6, 2) := by decide +kernel
theorem dX8_lost_33 : decode cX8_lost 33 = .ok (.iconst 0, 1) := by decide +kernel
theorem dX8_lost_34 : decode cX8_lost 34 = .ok (.iconst 1, 1) := by decide +kernel
theorem dX8_lost_35 : decode cX8_lost 35 = .ok (.invokestatic 67, 3) := by decide +kernel
theorem dX8_lost_38 : decode cX8_lost 38 = .ok (.ifCond .ne 7, 3) := by decide +kernel
theorem dX8_lost_41 : decode cX8_lost 41 = .ok (.ldc2_w 211, 3) := by decide +kernel
theorem dX8_lost_44 : decode cX8_lost 44 = .ok (.lreturn, 1) := by decide +kernel
theorem dX8_lost_45 : decode cX8_lost 45 = .ok (.aload_n 0, 1) := by decide +kernel
theorem dX8_lost_46 : decode cX8_lost 46 = .ok (.getfield 56, 3) := by decide +kernel
theorem dX8_lost_49 : decode cX8_lost 49 = .ok (.aload_n 0, 1) := by decide +kernel
theorem dX8_lost_50 : decode cX8_lost 50 = .ok (.getfield 19, 3) := by decide +kernel
theorem dX8_lost_53 : decode cX8_lost 53 = .ok (.getfield 147, 3) := by decide +kernel
theorem dX8_lost_56 : decode cX8_lost 56 = .ok (.iload_n 1, 1) := by decide +kernel
theorem dX8_lost_57 : decode cX8_lost 57 = .ok (.iaload, 1) := by decide +kernel
theorem dX8_lost_58 : decode cX8_lost 58 = .ok (.aload_n 0, 1) := by decide +kernel
theorem dX8_lost_59 : decode cX8_lost 59 = .ok (.getfield 26, 3) := by decide +kernel
theorem dX8_lost_62 : decode cX8_lost 62 = .ok (.getfield 133, 3) := by decide +kernel
theorem dX8_lost_65 : decode cX8_lost 65 = .ok (.iload_n 1, 1) := by decide +kernel
theorem dX8_lost_66 : decode cX8_lost 66 = .ok (.iaload, 1) := by decide +kernel
theorem dX8_lost_67 : decode cX8_lost 67 = .ok (.iload_n 2, 1) := by decide +kernel
theorem dX8_lost_68 : decode cX8_lost 68 = .ok (.iload_n 3, 1) := by decide +kernel
theorem dX8_lost_69 : decode cX8_lost 69 = .ok (.iload 4, 2) := by decide +kernel
theorem dX8_lost_71 : decode cX8_lost 71 = .ok (.invokevirtual 213, 3) := by decide +kernel
theorem dX8_lost_74 : decode cX8_lost 74 = .ok (.aload_n 0, 1) := by decide +kernel
theorem dX8_lost_75 : decode cX8_lost 75 = .ok (.getfield 56, 3) := by decide +kernel
theorem dX8_lost_78 : decode cX8_lost 78 = .ok (.iload 5, 2) := by decide +kernel
theorem dX8_lost_80 : decode cX8_lost 80 = .ok (.invokevirtual 217, 3) := by decide +kernel
theorem dX8_lost_83 : decode cX8_lost 83 = .ok (.lstore 7, 2) := by decide +kernel
theorem dX8_lost_85 : decode cX8_lost 85 = .ok (.aload_n 0, 1) := by decide +kernel
theorem dX8_lost_86 : decode cX8_lost 86 = .ok (.getfield 56, 3) := by decide +kernel
theorem dX8_lost_89 : decode cX8_lost 89 = .ok (.iload 5, 2) := by decide +kernel
theorem dX8_lost_91 : decode cX8_lost 91 = .ok (.invokevirtual 221, 3) := by decide +kernel
theorem dX8_lost_94 : decode cX8_lost 94 = .ok (.lstore 9, 2) := by decide +kernel
theorem dX8_lost_96 : decode cX8_lost 96 = .ok (.lload 7, 2) := by decide +kernel
theorem dX8_lost_98 : decode cX8_lost 98 = .ok (.lload 9, 2) := by decide +kernel
theorem dX8_lost_100 : decode cX8_lost 100 = .ok (.invokestatic 224, 3) := by decide +kernel
theorem dX8_lost_103 : decode cX8_lost 103 = .ok (.lstore 11, 2) := by decide +kernel
theorem dX8_lost_105 : decode cX8_lost 105 = .ok (.lload 11, 2) := by decide +kernel
theorem dX8_lost_107 : decode cX8_lost 107 = .ok (.lconst 0, 1) := by decide +kernel
theorem dX8_lost_108 : decode cX8_lost 108 = .ok (.lcmp, 1) := by decide +kernel
theorem dX8_lost_109 : decode cX8_lost 109 = .ok (.ifCond .gt 7, 3) := by decide +kernel
theorem dX8_lost_112 : decode cX8_lost 112 = .ok (.ldc2_w 211, 3) := by decide +kernel
theorem dX8_lost_115 : decode cX8_lost 115 = .ok (.lreturn, 1) := by decide +kernel
theorem dX8_lost_116 : decode cX8_lost 116 = .ok (.iload 6, 2) := by decide +kernel
theorem dX8_lost_118 : decode cX8_lost 118 = .ok (.ifCond .ne 8, 3) := by decide +kernel
theorem dX8_lost_121 : decode cX8_lost 121 = .ok (.lload 7, 2) := by decide +kernel
theorem dX8_lost_123 : decode cX8_lost 123 = .ok (.goto 5, 3) := by decide +kernel
theorem dX8_lost_126 : decode cX8_lost 126 = .ok (.lload 9, 2) := by decide +kernel
theorem dX8_lost_128 : decode cX8_lost 128 = .ok (.lload 11, 2) := by decide +kernel
theorem dX8_lost_130 : decode cX8_lost 130 = .ok (.ldiv, 1) := by decide +kernel
theorem dX8_lost_131 : decode cX8_lost 131 = .ok (.lreturn, 1) := by decide +kernel
theorem dX8_best_0 : decode cX8_best 0 = .ok (.aload_n 0, 1) := by decide +kernel
theorem dX8_best_1 : decode cX8_best 1 = .ok (.getfield 19, 3) := by decide +kernel
theorem dX8_best_4 : decode cX8_best 4 = .ok (.iload_n 1, 1) := by decide +kernel
theorem dX8_best_5 : decode cX8_best 5 = .ok (.invokevirtual 100, 3) := by decide +kernel
theorem dX8_best_8 : decode cX8_best 8 = .ok (.ifCond .eq 25, 3) := by decide +kernel
theorem dX8_best_11 : decode cX8_best 11 = .ok (.iload_n 2, 1) := by decide +kernel
theorem dX8_best_12 : decode cX8_best 12 = .ok (.iload_n 3, 1) := by decide +kernel
theorem dX8_best_13 : decode cX8_best 13 = .ok (.iload 4, 2) := by decide +kernel
theorem dX8_best_15 : decode cX8_best 15 = .ok (.invokestatic 208, 3) := by decide +kernel
theorem dX8_best_18 : decode cX8_best 18 = .ok (.ifCond .eq 15, 3) := by decide +kernel
theorem dX8_best_21 : decode cX8_best 21 = .ok (.iload 5, 2) := by decide +kernel
theorem dX8_best_23 : decode cX8_best 23 = .ok (.iconst 1, 1) := by decide +kernel
theorem dX8_best_24 : decode cX8_best 24 = .ok (.sipush 1000, 3) := by decide +kernel
theorem dX8_best_27 : decode cX8_best 27 = .ok (.invokestatic 67, 3) := by decide +kernel
theorem dX8_best_30 : decode cX8_best 30 = .ok (.ifCond .ne 5, 3) := by decide +kernel
theorem dX8_best_33 : decode cX8_best 33 = .ok (.iconst (-1), 1) := by decide +kernel
theorem dX8_best_34 : decode cX8_best 34 = .ok (.ireturn, 1) := by decide +kernel
theorem dX8_best_35 : decode cX8_best 35 = .ok (.aload_n 0, 1) := by decide +kernel
theorem dX8_best_36 : decode cX8_best 36 = .ok (.getfield 19, 3) := by decide +kernel
theorem dX8_best_39 : decode cX8_best 39 = .ok (.iload_n 1, 1) := by decide +kernel
theorem dX8_best_40 : decode cX8_best 40 = .ok (.invokevirtual 130, 3) := by decide +kernel
theorem dX8_best_43 : decode cX8_best 43 = .ok (.istore 6, 2) := by decide +kernel
theorem dX8_best_45 : decode cX8_best 45 = .ok (.iconst 0, 1) := by decide +kernel
theorem dX8_best_46 : decode cX8_best 46 = .ok (.istore 7, 2) := by decide +kernel
theorem dX8_best_48 : decode cX8_best 48 = .ok (.iload 7, 2) := by decide +kernel
theorem dX8_best_50 : decode cX8_best 50 = .ok (.iload 6, 2) := by decide +kernel
theorem dX8_best_52 : decode cX8_best 52 = .ok (.if_icmp .gt 46, 3) := by decide +kernel
theorem dX8_best_55 : decode cX8_best 55 = .ok (.aload_n 0, 1) := by decide +kernel
theorem dX8_best_56 : decode cX8_best 56 = .ok (.getfield 56, 3) := by decide +kernel
theorem dX8_best_59 : decode cX8_best 59 = .ok (.aload_n 0, 1) := by decide +kernel
theorem dX8_best_60 : decode cX8_best 60 = .ok (.getfield 19, 3) := by decide +kernel
theorem dX8_best_63 : decode cX8_best 63 = .ok (.getfield 147, 3) := by decide +kernel
theorem dX8_best_66 : decode cX8_best 66 = .ok (.iload_n 1, 1) := by decide +kernel
theorem dX8_best_67 : decode cX8_best 67 = .ok (.iaload, 1) := by decide +kernel
theorem dX8_best_68 : decode cX8_best 68 = .ok (.iload 7, 2) := by decide +kernel
theorem dX8_best_70 : decode cX8_best 70 = .ok (.iload_n 2, 1) := by decide +kernel
theorem dX8_best_71 : decode cX8_best 71 = .ok (.iload_n 3, 1) := by decide +kernel
theorem dX8_best_72 : decode cX8_best 72 = .ok (.iload 4, 2) := by decide +kernel
theorem dX8_best_74 : decode cX8_best 74 = .ok (.invokevirtual 213, 3) := by decide +kernel
theorem dX8_best_77 : decode cX8_best 77 = .ok (.aload_n 0, 1) := by decide +kernel
theorem dX8_best_78 : decode cX8_best 78 = .ok (.getfield 56, 3) := by decide +kernel
theorem dX8_best_81 : decode cX8_best 81 = .ok (.iload 5, 2) := by decide +kernel
theorem dX8_best_83 : decode cX8_best 83 = .ok (.invokevirtual 228, 3) := by decide +kernel
theorem dX8_best_86 : decode cX8_best 86 = .ok (.ifCond .eq 6, 3) := by decide +kernel
theorem dX8_best_89 : decode cX8_best 89 = .ok (.iload 7, 2) := by decide +kernel
theorem dX8_best_91 : decode cX8_best 91 = .ok (.ireturn, 1) := by decide +kernel
theorem dX8_best_92 : decode cX8_best 92 = .ok (.iinc 7 1, 3) := by decide +kernel
theorem dX8_best_95 : decode cX8_best 95 = .ok (.goto (-47), 3) := by decide +kernel
theorem dX8_best_98 : decode cX8_best 98 = .ok (.bipush (-9), 2) := by decide +kernel
theorem dX8_best_100 : decode cX8_best 100 = .ok (.ireturn, 1) := by decide +kernel
theorem dX8_sees_0 : decode cX8_sees 0 = .ok (.iload_n 1, 1) := by decide +kernel
theorem dX8_sees_1 : decode cX8_sees 1 = .ok (.iconst 0, 1) := by decide +kernel
theorem dX8_sees_2 : decode cX8_sees 2 = .ok (.bipush 6, 2) := by decide +kernel
theorem dX8_sees_4 : decode cX8_sees 4 = .ok (.invokestatic 67, 3) := by decide +kernel
theorem dX8_sees_7 : decode cX8_sees 7 = .ok (.ifCond .eq 12, 3) := by decide +kernel
theorem dX8_sees_10 : decode cX8_sees 10 = .ok (.iload_n 2, 1) := by decide +kernel
theorem dX8_sees_11 : decode cX8_sees 11 = .ok (.iconst 0, 1) := by decide +kernel
theorem dX8_sees_12 : decode cX8_sees 12 = .ok (.iconst 1, 1) := by decide +kernel
theorem dX8_sees_13 : decode cX8_sees 13 = .ok (.invokestatic 67, 3) := by decide +kernel
theorem dX8_sees_16 : decode cX8_sees 16 = .ok (.ifCond .ne 5, 3) := by decide +kernel
theorem dX8_sees_19 : decode cX8_sees 19 = .ok (.iconst (-1), 1) := by decide +kernel
theorem dX8_sees_20 : decode cX8_sees 20 = .ok (.ireturn, 1) := by decide +kernel
theorem dX8_sees_21 : decode cX8_sees 21 = .ok (.aload_n 0, 1) := by decide +kernel
theorem dX8_sees_22 : decode cX8_sees 22 = .ok (.getfield 63, 3) := by decide +kernel
theorem dX8_sees_25 : decode cX8_sees 25 = .ok (.iload_n 1, 1) := by decide +kernel
theorem dX8_sees_26 : decode cX8_sees 26 = .ok (.iload_n 2, 1) := by decide +kernel
theorem dX8_sees_27 : decode cX8_sees 27 = .ok (.invokevirtual 231, 3) := by decide +kernel
theorem dX8_sees_30 : decode cX8_sees 30 = .ok (.ifCond .eq 13, 3) := by decide +kernel
theorem dX8_sees_33 : decode cX8_sees 33 = .ok (.aload_n 0, 1) := by decide +kernel
theorem dX8_sees_34 : decode cX8_sees 34 = .ok (.getfield 63, 3) := by decide +kernel
theorem dX8_sees_37 : decode cX8_sees 37 = .ok (.getfield 97, 3) := by decide +kernel
theorem dX8_sees_40 : decode cX8_sees 40 = .ok (.goto 5, 3) := by decide +kernel
theorem dX8_sees_43 : decode cX8_sees 43 = .ok (.bipush (-3), 2) := by decide +kernel
theorem dX8_sees_45 : decode cX8_sees 45 = .ok (.ireturn, 1) := by decide +kernel
theorem dX8_forget_0 : decode cX8_forget 0 = .ok (.aload_n 0, 1) := by decide +kernel
theorem dX8_forget_1 : decode cX8_forget 1 = .ok (.getfield 63, 3) := by decide +kernel
theorem dX8_forget_4 : decode cX8_forget 4 = .ok (.getfield 97, 3) := by decide +kernel
theorem dX8_forget_7 : decode cX8_forget 7 = .ok (.istore_n 1, 1) := by decide +kernel
theorem dX8_forget_8 : decode cX8_forget 8 = .ok (.aload_n 0, 1) := by decide +kernel
theorem dX8_forget_9 : decode cX8_forget 9 = .ok (.getfield 63, 3) := by decide +kernel
theorem dX8_forget_12 : decode cX8_forget 12 = .ok (.iconst 0, 1) := by decide +kernel
theorem dX8_forget_13 : decode cX8_forget 13 = .ok (.putfield 97, 3) := by decide +kernel
theorem dX8_forget_16 : decode cX8_forget 16 = .ok (.iload_n 1, 1) := by decide +kernel
theorem dX8_forget_17 : decode cX8_forget 17 = .ok (.ireturn, 1) := by decide +kernel
theorem dX8_unseen_0 : decode cX8_unseen 0 = .ok (.aload_n 0, 1) := by decide +kernel
theorem dX8_unseen_1 : decode cX8_unseen 1 = .ok (.getfield 19, 3) := by decide +kernel
theorem dX8_unseen_4 : decode cX8_unseen 4 = .ok (.iload_n 1, 1) := by decide +kernel
theorem dX8_unseen_5 : decode cX8_unseen 5 = .ok (.invokevirtual 100, 3) := by decide +kernel
theorem dX8_unseen_8 : decode cX8_unseen 8 = .ok (.ifCond .eq 12, 3) := by decide +kernel
theorem dX8_unseen_11 : decode cX8_unseen 11 = .ok (.iload_n 2, 1) := by decide +kernel
theorem dX8_unseen_12 : decode cX8_unseen 12 = .ok (.iconst 0, 1) := by decide +kernel
theorem dX8_unseen_13 : decode cX8_unseen 13 = .ok (.iconst 2, 1) := by decide +kernel
theorem dX8_unseen_14 : decode cX8_unseen 14 = .ok (.invokestatic 67, 3) := by decide +kernel
theorem dX8_unseen_17 : decode cX8_unseen 17 = .ok (.ifCond .ne 5, 3) := by decide +kernel
theorem dX8_unseen_20 : decode cX8_unseen 20 = .ok (.iconst (-1), 1) := by decide +kernel
theorem dX8_unseen_21 : decode cX8_unseen 21 = .ok (.ireturn, 1) := by decide +kernel
theorem dX8_unseen_22 : decode cX8_unseen 22 = .ok (.iconst 0, 1) := by decide +kernel
theorem dX8_unseen_23 : decode cX8_unseen 23 = .ok (.istore_n 3, 1) := by decide +kernel
theorem dX8_unseen_24 : decode cX8_unseen 24 = .ok (.bipush (-9), 2) := by decide +kernel
theorem dX8_unseen_26 : decode cX8_unseen 26 = .ok (.istore 4, 2) := by decide +kernel
theorem dX8_unseen_28 : decode cX8_unseen 28 = .ok (.bipush (-9), 2) := by decide +kernel
theorem dX8_unseen_30 : decode cX8_unseen 30 = .ok (.istore 5, 2) := by decide +kernel
theorem dX8_unseen_32 : decode cX8_unseen 32 = .ok (.aload_n 0, 1) := by decide +kernel
theorem dX8_unseen_33 : decode cX8_unseen 33 = .ok (.getfield 19, 3) := by decide +kernel
theorem dX8_unseen_36 : decode cX8_unseen 36 = .ok (.iload_n 1, 1) := by decide +kernel
theorem dX8_unseen_37 : decode cX8_unseen 37 = .ok (.invokevirtual 130, 3) := by decide +kernel
theorem dX8_unseen_40 : decode cX8_unseen 40 = .ok (.istore 6, 2) := by decide +kernel
theorem dX8_unseen_42 : decode cX8_unseen 42 = .ok (.iconst 0, 1) := by decide +kernel
theorem dX8_unseen_43 : decode cX8_unseen 43 = .ok (.istore 7, 2) := by decide +kernel
theorem dX8_unseen_45 : decode cX8_unseen 45 = .ok (.iload 7, 2) := by decide +kernel
theorem dX8_unseen_47 : decode cX8_unseen 47 = .ok (.iload 6, 2) := by decide +kernel
theorem dX8_unseen_49 : decode cX8_unseen 49 = .ok (.if_icmp .gt 44, 3) := by decide +kernel
theorem dX8_unseen_52 : decode cX8_unseen 52 = .ok (.aload_n 0, 1) := by decide +kernel
theorem dX8_unseen_53 : decode cX8_unseen 53 = .ok (.getfield 63, 3) := by decide +kernel
theorem dX8_unseen_56 : decode cX8_unseen 56 = .ok (.iload 7, 2) := by decide +kernel
theorem dX8_unseen_58 : decode cX8_unseen 58 = .ok (.invokevirtual 234, 3) := by decide +kernel
theorem dX8_unseen_61 : decode cX8_unseen 61 = .ok (.ifCond .eq 26, 3) := by decide +kernel
theorem dX8_unseen_64 : decode cX8_unseen 64 = .ok (.iinc 3 1, 3) := by decide +kernel
theorem dX8_unseen_67 : decode cX8_unseen 67 = .ok (.iload 4, 2) := by decide +kernel
theorem dX8_unseen_69 : decode cX8_unseen 69 = .ok (.bipush (-9), 2) := by decide +kernel
theorem dX8_unseen_71 : decode cX8_unseen 71 = .ok (.if_icmp .ne 8, 3) := by decide +kernel
theorem dX8_unseen_74 : decode cX8_unseen 74 = .ok (.iload 7, 2) := by decide +kernel
theorem dX8_unseen_76 : decode cX8_unseen 76 = .ok (.goto 5, 3) := by decide +kernel
theorem dX8_unseen_79 : decode cX8_unseen 79 = .ok (.iload 4, 2) := by decide +kernel
theorem dX8_unseen_81 : decode cX8_unseen 81 = .ok (.istore 4, 2) := by decide +kernel
theorem dX8_unseen_83 : decode cX8_unseen 83 = .ok (.iload 7, 2) := by decide +kernel
theorem dX8_unseen_85 : decode cX8_unseen 85 = .ok (.istore 5, 2) := by decide +kernel
theorem dX8_unseen_87 : decode cX8_unseen 87 = .ok (.iinc 7 1, 3) := by decide +kernel
theorem dX8_unseen_90 : decode cX8_unseen 90 = .ok (.goto (-45), 3) := by decide +kernel
theorem dX8_unseen_93 : decode cX8_unseen 93 = .ok (.iload_n 2, 1) := by decide +kernel
theorem dX8_unseen_94 : decode cX8_unseen 94 = .ok (.ifCond .ne 5, 3) := by decide +kernel
theorem dX8_unseen_97 : decode cX8_unseen 97 = .ok (.iload_n 3, 1) := by decide +kernel
theorem dX8_unseen_98 : decode cX8_unseen 98 = .ok (.ireturn, 1) := by decide +kernel
theorem dX8_unseen_99 : decode cX8_unseen 99 = .ok (.iload_n 2, 1) := by decide +kernel
theorem dX8_unseen_100 : decode cX8_unseen 100 = .ok (.iconst 1, 1) := by decide +kernel
theorem dX8_unseen_101 : decode cX8_unseen 101 = .ok (.if_icmp .ne 8, 3) := by decide +kernel
theorem dX8_unseen_104 : decode cX8_unseen 104 = .ok (.iload 4, 2) := by decide +kernel
theorem dX8_unseen_106 : decode cX8_unseen 106 = .ok (.goto 5, 3) := by decide +kernel
theorem dX8_unseen_109 : decode cX8_unseen 109 = .ok (.iload 5, 2) := by decide +kernel
theorem dX8_unseen_111 : decode cX8_unseen 111 = .ok (.ireturn, 1) := by decide +kernel
theorem dX8_keep_0 : decode cX8_keep 0 = .ok (.iload_n 1, 1) := by decide +kernel
theorem dX8_keep_1 : decode cX8_keep 1 = .ok (.iconst 0, 1) := by decide +kernel
theorem dX8_keep_2 : decode cX8_keep 2 = .ok (.iconst 1, 1) := by decide +kernel
theorem dX8_keep_3 : decode cX8_keep 3 = .ok (.invokestatic 67, 3) := by decide +kernel
theorem dX8_keep_6 : decode cX8_keep 6 = .ok (.ifCond .ne 5, 3) := by decide +kernel
theorem dX8_keep_9 : decode cX8_keep 9 = .ok (.iconst (-1), 1) := by decide +kernel
theorem dX8_keep_10 : decode cX8_keep 10 = .ok (.ireturn, 1) := by decide +kernel
theorem dX8_keep_11 : decode cX8_keep 11 = .ok (.aload_n 0, 1) := by decide +kernel
theorem dX8_keep_12 : decode cX8_keep 12 = .ok (.getfield 49, 3) := by decide +kernel
theorem dX8_keep_15 : decode cX8_keep 15 = .ok (.iload_n 1, 1) := by decide +kernel
theorem dX8_keep_16 : decode cX8_keep 16 = .ok (.aload_n 0, 1) := by decide +kernel
theorem dX8_keep_17 : decode cX8_keep 17 = .ok (.getfield 26, 3) := by decide +kernel
theorem dX8_keep_20 : decode cX8_keep 20 = .ok (.invokevirtual 237, 3) := by decide +kernel
theorem dX8_keep_23 : decode cX8_keep 23 = .ok (.aload_n 0, 1) := by decide +kernel
theorem dX8_keep_24 : decode cX8_keep 24 = .ok (.getfield 26, 3) := by decide +kernel
theorem dX8_keep_27 : decode cX8_keep 27 = .ok (.invokevirtual 241, 3) := by decide +kernel
theorem dX8_keep_30 : decode cX8_keep 30 = .ok (.ireturn, 1) := by decide +kernel
theorem dX8_back_0 : decode cX8_back 0 = .ok (.iload_n 1, 1) := by decide +kernel
theorem dX8_back_1 : decode cX8_back 1 = .ok (.iconst 0, 1) := by decide +kernel
theorem dX8_back_2 : decode cX8_back 2 = .ok (.iconst 1, 1) := by decide +kernel
theorem dX8_back_3 : decode cX8_back 3 = .ok (.invokestatic 67, 3) := by decide +kernel
theorem dX8_back_6 : decode cX8_back 6 = .ok (.ifCond .ne 5, 3) := by decide +kernel
theorem dX8_back_9 : decode cX8_back 9 = .ok (.iconst (-1), 1) := by decide +kernel
theorem dX8_back_10 : decode cX8_back 10 = .ok (.ireturn, 1) := by decide +kernel
theorem dX8_back_11 : decode cX8_back 11 = .ok (.aload_n 0, 1) := by decide +kernel
theorem dX8_back_12 : decode cX8_back 12 = .ok (.getfield 49, 3) := by decide +kernel
theorem dX8_back_15 : decode cX8_back 15 = .ok (.iload_n 1, 1) := by decide +kernel
theorem dX8_back_16 : decode cX8_back 16 = .ok (.aload_n 0, 1) := by decide +kernel
theorem dX8_back_17 : decode cX8_back 17 = .ok (.getfield 26, 3) := by decide +kernel
theorem dX8_back_20 : decode cX8_back 20 = .ok (.invokevirtual 244, 3) := by decide +kernel
theorem dX8_back_23 : decode cX8_back 23 = .ok (.ifCond .ne 6, 3) := by decide +kernel
theorem dX8_back_26 : decode cX8_back 26 = .ok (.bipush (-2), 2) := by decide +kernel
theorem dX8_back_28 : decode cX8_back 28 = .ok (.ireturn, 1) := by decide +kernel
theorem dX8_back_29 : decode cX8_back 29 = .ok (.aload_n 0, 1) := by decide +kernel
theorem dX8_back_30 : decode cX8_back 30 = .ok (.getfield 42, 3) := by decide +kernel
theorem dX8_back_33 : decode cX8_back 33 = .ok (.invokevirtual 93, 3) := by decide +kernel
theorem dX8_back_36 : decode cX8_back 36 = .ok (.aload_n 0, 1) := by decide +kernel
theorem dX8_back_37 : decode cX8_back 37 = .ok (.getfield 26, 3) := by decide +kernel
theorem dX8_back_40 : decode cX8_back 40 = .ok (.invokevirtual 241, 3) := by decide +kernel
theorem dX8_back_43 : decode cX8_back 43 = .ok (.ireturn, 1) := by decide +kernel
theorem dX8_count_0 : decode cX8_count 0 = .ok (.iload_n 1, 1) := by decide +kernel
theorem dX8_count_1 : decode cX8_count 1 = .ok (.tableswitch 119 0 11 #[63, 71, 119, 119, 119, 119, 119, 79, 87, 95, 103, 111], 63) := by decide +kernel
theorem dX8_count_64 : decode cX8_count 64 = .ok (.aload_n 0, 1) := by decide +kernel
theorem dX8_count_65 : decode cX8_count 65 = .ok (.getfield 19, 3) := by decide +kernel
theorem dX8_count_68 : decode cX8_count 68 = .ok (.getfield 247, 3) := by decide +kernel
theorem dX8_count_71 : decode cX8_count 71 = .ok (.ireturn, 1) := by decide +kernel
theorem dX8_count_72 : decode cX8_count 72 = .ok (.aload_n 0, 1) := by decide +kernel
theorem dX8_count_73 : decode cX8_count 73 = .ok (.getfield 26, 3) := by decide +kernel
theorem dX8_count_76 : decode cX8_count 76 = .ok (.invokevirtual 241, 3) := by decide +kernel
theorem dX8_count_79 : decode cX8_count 79 = .ok (.ireturn, 1) := by decide +kernel
theorem dX8_count_80 : decode cX8_count 80 = .ok (.aload_n 0, 1) := by decide +kernel
theorem dX8_count_81 : decode cX8_count 81 = .ok (.getfield 26, 3) := by decide +kernel
theorem dX8_count_84 : decode cX8_count 84 = .ok (.getfield 137, 3) := by decide +kernel
theorem dX8_count_87 : decode cX8_count 87 = .ok (.ireturn, 1) := by decide +kernel
theorem dX8_count_88 : decode cX8_count 88 = .ok (.aload_n 0, 1) := by decide +kernel
theorem dX8_count_89 : decode cX8_count 89 = .ok (.getfield 63, 3) := by decide +kernel
theorem dX8_count_92 : decode cX8_count 92 = .ok (.getfield 97, 3) := by decide +kernel
theorem dX8_count_95 : decode cX8_count 95 = .ok (.ireturn, 1) := by decide +kernel
theorem dX8_count_96 : decode cX8_count 96 = .ok (.aload_n 0, 1) := by decide +kernel
theorem dX8_count_97 : decode cX8_count 97 = .ok (.getfield 10, 3) := by decide +kernel
theorem dX8_count_100 : decode cX8_count 100 = .ok (.getfield 75, 3) := by decide +kernel
theorem dX8_count_103 : decode cX8_count 103 = .ok (.ireturn, 1) := by decide +kernel
theorem dX8_count_104 : decode cX8_count 104 = .ok (.aload_n 0, 1) := by decide +kernel
theorem dX8_count_105 : decode cX8_count 105 = .ok (.getfield 42, 3) := by decide +kernel
theorem dX8_count_108 : decode cX8_count 108 = .ok (.getfield 144, 3) := by decide +kernel
theorem dX8_count_111 : decode cX8_count 111 = .ok (.ireturn, 1) := by decide +kernel
theorem dX8_count_112 : decode cX8_count 112 = .ok (.aload_n 0, 1) := by decide +kernel
theorem dX8_count_113 : decode cX8_count 113 = .ok (.getfield 26, 3) := by decide +kernel
theorem dX8_count_116 : decode cX8_count 116 = .ok (.getfield 196, 3) := by decide +kernel
theorem dX8_count_119 : decode cX8_count 119 = .ok (.ireturn, 1) := by decide +kernel
theorem dX8_count_120 : decode cX8_count 120 = .ok (.iload_n 1, 1) := by decide +kernel
theorem dX8_count_121 : decode cX8_count 121 = .ok (.iconst 2, 1) := by decide +kernel
theorem dX8_count_122 : decode cX8_count 122 = .ok (.bipush 6, 2) := by decide +kernel
theorem dX8_count_124 : decode cX8_count 124 = .ok (.invokestatic 67, 3) := by decide +kernel
theorem dX8_count_127 : decode cX8_count 127 = .ok (.ifCond .eq 17, 3) := by decide +kernel
theorem dX8_count_130 : decode cX8_count 130 = .ok (.aload_n 0, 1) := by decide +kernel
theorem dX8_count_131 : decode cX8_count 131 = .ok (.getfield 19, 3) := by decide +kernel
theorem dX8_count_134 : decode cX8_count 134 = .ok (.getfield 250, 3) := by decide +kernel
theorem dX8_count_137 : decode cX8_count 137 = .ok (.iload_n 1, 1) := by decide +kernel
theorem dX8_count_138 : decode cX8_count 138 = .ok (.iconst 2, 1) := by decide +kernel
theorem dX8_count_139 : decode cX8_count 139 = .ok (.isub, 1) := by decide +kernel
theorem dX8_count_140 : decode cX8_count 140 = .ok (.iaload, 1) := by decide +kernel
theorem dX8_count_141 : decode cX8_count 141 = .ok (.goto 5, 3) := by decide +kernel
theorem dX8_count_144 : decode cX8_count 144 = .ok (.ldc 165, 2) := by decide +kernel
theorem dX8_count_146 : decode cX8_count 146 = .ok (.ireturn, 1) := by decide +kernel
theorem dX8_within_0 : decode cX8_within 0 = .ok (.iload_n 0, 1) := by decide +kernel
theorem dX8_within_1 : decode cX8_within 1 = .ok (.iload_n 1, 1) := by decide +kernel
theorem dX8_within_2 : decode cX8_within 2 = .ok (.if_icmp .lt 12, 3) := by decide +kernel
theorem dX8_within_5 : decode cX8_within 5 = .ok (.iload_n 0, 1) := by decide +kernel
theorem dX8_within_6 : decode cX8_within 6 = .ok (.iload_n 2, 1) := by decide +kernel
theorem dX8_within_7 : decode cX8_within 7 = .ok (.if_icmp .gt 7, 3) := by decide +kernel
theorem dX8_within_10 : decode cX8_within 10 = .ok (.iconst 1, 1) := by decide +kernel
theorem dX8_within_11 : decode cX8_within 11 = .ok (.goto 4, 3) := by decide +kernel
theorem dX8_within_14 : decode cX8_within 14 = .ok (.iconst 0, 1) := by decide +kernel
theorem dX8_within_15 : decode cX8_within 15 = .ok (.ireturn, 1) := by decide +kernel
theorem dX8_areRates_0 : decode cX8_areRates 0 = .ok (.iload_n 0, 1) := by decide +kernel
theorem dX8_areRates_1 : decode cX8_areRates 1 = .ok (.iconst 0, 1) := by decide +kernel
theorem dX8_areRates_2 : decode cX8_areRates 2 = .ok (.bipush 9, 2) := by decide +kernel
theorem dX8_areRates_4 : decode cX8_areRates 4 = .ok (.invokestatic 67, 3) := by decide +kernel
theorem dX8_areRates_7 : decode cX8_areRates 7 = .ok (.ifCond .eq 27, 3) := by decide +kernel
theorem dX8_areRates_10 : decode cX8_areRates 10 = .ok (.iload_n 1, 1) := by decide +kernel
theorem dX8_areRates_11 : decode cX8_areRates 11 = .ok (.iconst 0, 1) := by decide +kernel
theorem dX8_areRates_12 : decode cX8_areRates 12 = .ok (.bipush 9, 2) := by decide +kernel
theorem dX8_areRates_14 : decode cX8_areRates 14 = .ok (.invokestatic 67, 3) := by decide +kernel
theorem dX8_areRates_17 : decode cX8_areRates 17 = .ok (.ifCond .eq 17, 3) := by decide +kernel
theorem dX8_areRates_20 : decode cX8_areRates 20 = .ok (.iload_n 2, 1) := by decide +kernel
theorem dX8_areRates_21 : decode cX8_areRates 21 = .ok (.iconst 1, 1) := by decide +kernel
theorem dX8_areRates_22 : decode cX8_areRates 22 = .ok (.bipush 9, 2) := by decide +kernel
theorem dX8_areRates_24 : decode cX8_areRates 24 = .ok (.invokestatic 67, 3) := by decide +kernel
theorem dX8_areRates_27 : decode cX8_areRates 27 = .ok (.ifCond .eq 7, 3) := by decide +kernel
theorem dX8_areRates_30 : decode cX8_areRates 30 = .ok (.iconst 1, 1) := by decide +kernel
theorem dX8_areRates_31 : decode cX8_areRates 31 = .ok (.goto 4, 3) := by decide +kernel
theorem dX8_areRates_34 : decode cX8_areRates 34 = .ok (.iconst 0, 1) := by decide +kernel
theorem dX8_areRates_35 : decode cX8_areRates 35 = .ok (.ireturn, 1) := by decide +kernel
theorem dX8_canHear_0 : decode cX8_canHear 0 = .ok (.iload_n 2, 1) := by decide +kernel
theorem dX8_canHear_1 : decode cX8_canHear 1 = .ok (.iconst 0, 1) := by decide +kernel
theorem dX8_canHear_2 : decode cX8_canHear 2 = .ok (.aload_n 0, 1) := by decide +kernel
theorem dX8_canHear_3 : decode cX8_canHear 3 = .ok (.getfield 19, 3) := by decide +kernel
theorem dX8_canHear_6 : decode cX8_canHear 6 = .ok (.iload_n 1, 1) := by decide +kernel
theorem dX8_canHear_7 : decode cX8_canHear 7 = .ok (.invokevirtual 100, 3) := by decide +kernel
theorem dX8_canHear_10 : decode cX8_canHear 10 = .ok (.ifCond .eq 8, 3) := by decide +kernel
theorem dX8_canHear_13 : decode cX8_canHear 13 = .ok (.bipush 100, 2) := by decide +kernel
theorem dX8_canHear_15 : decode cX8_canHear 15 = .ok (.goto 4, 3) := by decide +kernel
theorem dX8_canHear_18 : decode cX8_canHear 18 = .ok (.iconst 0, 1) := by decide +kernel
theorem dX8_canHear_19 : decode cX8_canHear 19 = .ok (.invokestatic 67, 3) := by decide +kernel
theorem dX8_canHear_22 : decode cX8_canHear 22 = .ok (.ireturn, 1) := by decide +kernel
theorem dX8_chance_0 : decode cX8_chance 0 = .ok (.iconst 0, 1) := by decide +kernel
theorem dX8_chance_1 : decode cX8_chance 1 = .ok (.bipush 10, 2) := by decide +kernel
theorem dX8_chance_3 : decode cX8_chance 3 = .ok (.bipush 10, 2) := by decide +kernel
theorem dX8_chance_5 : decode cX8_chance 5 = .ok (.iload_n 0, 1) := by decide +kernel
theorem dX8_chance_6 : decode cX8_chance 6 = .ok (.imul, 1) := by decide +kernel
theorem dX8_chance_7 : decode cX8_chance 7 = .ok (.iload_n 1, 1) := by decide +kernel
theorem dX8_chance_8 : decode cX8_chance 8 = .ok (.isub, 1) := by decide +kernel
theorem dX8_chance_9 : decode cX8_chance 9 = .ok (.invokestatic 253, 3) := by decide +kernel
theorem dX8_chance_12 : decode cX8_chance 12 = .ok (.invokestatic 258, 3) := by decide +kernel
theorem dX8_chance_15 : decode cX8_chance 15 = .ok (.ireturn, 1) := by decide +kernel
theorem dX8_commonDivisor_0 : decode cX8_commonDivisor 0 = .ok (.lload_n 0, 1) := by decide +kernel
theorem dX8_commonDivisor_1 : decode cX8_commonDivisor 1 = .ok (.lstore 4, 2) := by decide +kernel
theorem dX8_commonDivisor_3 : decode cX8_commonDivisor 3 = .ok (.lload_n 2, 1) := by decide +kernel
theorem dX8_commonDivisor_4 : decode cX8_commonDivisor 4 = .ok (.lstore 6, 2) := by decide +kernel
theorem dX8_commonDivisor_6 : decode cX8_commonDivisor 6 = .ok (.iconst 0, 1) := by decide +kernel
theorem dX8_commonDivisor_7 : decode cX8_commonDivisor 7 = .ok (.istore 8, 2) := by decide +kernel
theorem dX8_commonDivisor_9 : decode cX8_commonDivisor 9 = .ok (.iload 8, 2) := by decide +kernel
theorem dX8_commonDivisor_11 : decode cX8_commonDivisor 11 = .ok (.sipush 200, 3) := by decide +kernel
theorem dX8_commonDivisor_14 : decode cX8_commonDivisor 14 = .ok (.if_icmp .ge 31, 3) := by decide +kernel
theorem dX8_commonDivisor_17 : decode cX8_commonDivisor 17 = .ok (.lload 6, 2) := by decide +kernel
theorem dX8_commonDivisor_19 : decode cX8_commonDivisor 19 = .ok (.lconst 0, 1) := by decide +kernel
theorem dX8_commonDivisor_20 : decode cX8_commonDivisor 20 = .ok (.lcmp, 1) := by decide +kernel
theorem dX8_commonDivisor_21 : decode cX8_commonDivisor 21 = .ok (.ifCond .eq 24, 3) := by decide +kernel
theorem dX8_commonDivisor_24 : decode cX8_commonDivisor 24 = .ok (.lload 4, 2) := by decide +kernel
theorem dX8_commonDivisor_26 : decode cX8_commonDivisor 26 = .ok (.lload 6, 2) := by decide +kernel
theorem dX8_commonDivisor_28 : decode cX8_commonDivisor 28 = .ok (.lrem, 1) := by decide +kernel
theorem dX8_commonDivisor_29 : decode cX8_commonDivisor 29 = .ok (.lstore 9, 2) := by decide +kernel
theorem dX8_commonDivisor_31 : decode cX8_commonDivisor 31 = .ok (.lload 6, 2) := by decide +kernel
theorem dX8_commonDivisor_33 : decode cX8_commonDivisor 33 = .ok (.lstore 4, 2) := by decide +kernel
theorem dX8_commonDivisor_35 : decode cX8_commonDivisor 35 = .ok (.lload 9, 2) := by decide +kernel
theorem dX8_commonDivisor_37 : decode cX8_commonDivisor 37 = .ok (.lstore 6, 2) := by decide +kernel
theorem dX8_commonDivisor_39 : decode cX8_commonDivisor 39 = .ok (.iinc 8 1, 3) := by decide +kernel
theorem dX8_commonDivisor_42 : decode cX8_commonDivisor 42 = .ok (.goto (-33), 3) := by decide +kernel
theorem dX8_commonDivisor_45 : decode cX8_commonDivisor 45 = .ok (.lload 4, 2) := by decide +kernel
theorem dX8_commonDivisor_47 : decode cX8_commonDivisor 47 = .ok (.lreturn, 1) := by decide +kernel
end
section
theorem dX9_init_0 : decode cX9_init 0 = .ok (.aload_n 0, 1) := by decide +kernel
theorem dX9_init_1 : decode cX9_init 1 = .ok (.invokespecial 1, 3) := by decide +kernel
theorem dX9_init_4 : decode cX9_init 4 = .ok (.aload_n 0, 1) := by decide +kernel
theorem dX9_init_5 : decode cX9_init 5 = .ok (.sipush 2547, 3) := by decide +kernel
theorem dX9_init_8 : decode cX9_init 8 = .ok (.newarray .int, 2) := by decide +kernel
theorem dX9_init_10 : decode cX9_init 10 = .ok (.putfield 7, 3) := by decide +kernel
theorem dX9_init_13 : decode cX9_init 13 = .ok (.aload_n 0, 1) := by decide +kernel
theorem dX9_init_14 : decode cX9_init 14 = .ok (.iconst 2, 1) := by decide +kernel
theorem dX9_init_15 : decode cX9_init 15 = .ok (.newarray .boolean, 2) := by decide +kernel
theorem dX9_init_17 : decode cX9_init 17 = .ok (.putfield 13, 3) := by decide +kernel
theorem dX9_init_20 : decode cX9_init 20 = .ok (.aload_n 0, 1) := by decide +kernel
theorem dX9_init_21 : decode cX9_init 21 = .ok (.bipush 6, 2) := by decide +kernel
theorem dX9_init_23 : decode cX9_init 23 = .ok (.newarray .int, 2) := by decide +kernel
theorem dX9_init_25 : decode cX9_init 25 = .ok (.putfield 17, 3) := by decide +kernel
theorem dX9_init_28 : decode cX9_init 28 = .ok (.aload_n 0, 1) := by decide +kernel
theorem dX9_init_29 : decode cX9_init 29 = .ok (.bipush 6, 2) := by decide +kernel
theorem dX9_init_31 : decode cX9_init 31 = .ok (.newarray .int, 2) := by decide +kernel
theorem dX9_init_33 : decode cX9_init 33 = .ok (.putfield 20, 3) := by decide +kernel
theorem dX9_init_36 : decode cX9_init 36 = .ok (.aload_n 0, 1) := by decide +kernel
theorem dX9_init_37 : decode cX9_init 37 = .ok (.bipush 120, 2) := by decide +kernel
theorem dX9_init_39 : decode cX9_init 39 = .ok (.newarray .int, 2) := by decide +kernel
theorem dX9_init_41 : decode cX9_init 41 = .ok (.putfield 23, 3) := by decide +kernel
theorem dX9_init_44 : decode cX9_init 44 = .ok (.aload_n 0, 1) := by decide +kernel
theorem dX9_init_45 : decode cX9_init 45 = .ok (.iconst 4, 1) := by decide +kernel
theorem dX9_init_46 : decode cX9_init 46 = .ok (.newarray .int, 2) := by decide +kernel
theorem dX9_init_48 : decode cX9_init 48 = .ok (.putfield 26, 3) := by decide +kernel
theorem dX9_init_51 : decode cX9_init 51 = .ok (.aload_n 0, 1) := by decide +kernel
theorem dX9_init_52 : decode cX9_init 52 = .ok (.iconst 4, 1) := by decide +kernel
theorem dX9_init_53 : decode cX9_init 53 = .ok (.newarray .int, 2) := by decide +kernel
theorem dX9_init_55 : decode cX9_init 55 = .ok (.putfield 29, 3) := by decide +kernel
theorem dX9_init_58 : decode cX9_init 58 = .ok (.aload_n 0, 1) := by decide +kernel
theorem dX9_init_59 : decode cX9_init 59 = .ok (.bipush 6, 2) := by decide +kernel
theorem dX9_init_61 : decode cX9_init 61 = .ok (.newarray .int, 2) := by decide +kernel
theorem dX9_init_63 : decode cX9_init 63 = .ok (.dup, 1) := by decide +kernel
theorem dX9_init_64 : decode cX9_init 64 = .ok (.iconst 0, 1) := by decide +kernel
theorem dX9_init_65 : decode cX9_init 65 = .ok (.iconst 0, 1) := by decide +kernel
theorem dX9_init_66 : decode cX9_init 66 = .ok (.iastore, 1) := by decide +kernel
theorem dX9_init_67 : decode cX9_init 67 = .ok (.dup, 1) := by decide +kernel
theorem dX9_init_68 : decode cX9_init 68 = .ok (.iconst 1, 1) := by decide +kernel
theorem dX9_init_69 : decode cX9_init 69 = .ok (.iconst 3, 1) := by decide +kernel
theorem dX9_init_70 : decode cX9_init 70 = .ok (.iastore, 1) := by decide +kernel
theorem dX9_init_71 : decode cX9_init 71 = .ok (.dup, 1) := by decide +kernel
theorem dX9_init_72 : decode cX9_init 72 = .ok (.iconst 2, 1) := by decide +kernel
theorem dX9_init_73 : decode cX9_init 73 = .ok (.iconst 2, 1) := by decide +kernel
theorem dX9_init_74 : decode cX9_init 74 = .ok (.iastore, 1) := by decide +kernel
theorem dX9_init_75 : decode cX9_init 75 = .ok (.dup, 1) := by decide +kernel
theorem dX9_init_76 : decode cX9_init 76 = .ok (.iconst 3, 1) := by decide +kernel
theorem dX9_init_77 : decode cX9_init 77 = .ok (.iconst 1, 1) := by decide +kernel
theorem dX9_init_78 : decode cX9_init 78 = .ok (.iastore, 1) := by decide +kernel
theorem dX9_init_79 : decode cX9_init 79 = .ok (.dup, 1) := by decide +kernel
theorem dX9_init_80 : decode cX9_init 80 = .ok (.iconst 4, 1) := by decide +kernel
theorem dX9_init_81 : decode cX9_init 81 = .ok (.bipush 10, 2) := by decide +kernel
theorem dX9_init_83 : decode cX9_init 83 = .ok (.iastore, 1) := by decide +kernel
theorem dX9_init_84 : decode cX9_init 84 = .ok (.dup, 1) := by decide +kernel
theorem dX9_init_85 : decode cX9_init 85 = .ok (.iconst 5, 1) := by decide +kernel
theorem dX9_init_86 : decode cX9_init 86 = .ok (.iconst 3, 1) := by decide +kernel
theorem dX9_init_87 : decode cX9_init 87 = .ok (.iastore, 1) := by decide +kernel
theorem dX9_init_88 : decode cX9_init 88 = .ok (.putfield 32, 3) := by decide +kernel
theorem dX9_init_91 : decode cX9_init 91 = .ok (.aload_n 0, 1) := by decide +kernel
theorem dX9_init_92 : decode cX9_init 92 = .ok (.iconst 4, 1) := by decide +kernel
theorem dX9_init_93 : decode cX9_init 93 = .ok (.newarray .int, 2) := by decide +kernel
theorem dX9_init_95 : decode cX9_init 95 = .ok (.putfield 35, 3) := by decide +kernel
theorem dX9_init_98 : decode cX9_init 98 = .ok (.aload_n 0, 1) := by decide +kernel
theorem dX9_init_99 : decode cX9_init 99 = .ok (.iconst 4, 1) := by decide +kernel
theorem dX9_init_100 : decode cX9_init 100 = .ok (.newarray .int, 2) := by decide +kernel
theorem dX9_init_102 : decode cX9_init 102 = .ok (.putfield 38, 3) := by decide +kernel
theorem dX9_init_105 : decode cX9_init 105 = .ok (.aload_n 0, 1) := by decide +kernel
theorem dX9_init_106 : decode cX9_init 106 = .ok (.iconst 4, 1) := by decide +kernel
theorem dX9_init_107 : decode cX9_init 107 = .ok (.newarray .int, 2) := by decide +kernel
theorem dX9_init_109 : decode cX9_init 109 = .ok (.putfield 41, 3) := by decide +kernel
theorem dX9_init_112 : decode cX9_init 112 = .ok (.aload_n 0, 1) := by decide +kernel
theorem dX9_init_113 : decode cX9_init 113 = .ok (.bipush 6, 2) := by decide +kernel
theorem dX9_init_115 : decode cX9_init 115 = .ok (.newarray .int, 2) := by decide +kernel
theorem dX9_init_117 : decode cX9_init 117 = .ok (.putfield 44, 3) := by decide +kernel
theorem dX9_init_120 : decode cX9_init 120 = .ok (.aload_n 0, 1) := by decide +kernel
theorem dX9_init_121 : decode cX9_init 121 = .ok (.sipush 256, 3) := by decide +kernel
theorem dX9_init_124 : decode cX9_init 124 = .ok (.newarray .int, 2) := by decide +kernel
theorem dX9_init_126 : decode cX9_init 126 = .ok (.putfield 47, 3) := by decide +kernel
theorem dX9_init_129 : decode cX9_init 129 = .ok (.aload_n 0, 1) := by decide +kernel
theorem dX9_init_130 : decode cX9_init 130 = .ok (.bipush 7, 2) := by decide +kernel
theorem dX9_init_132 : decode cX9_init 132 = .ok (.newarray .long, 2) := by decide +kernel
theorem dX9_init_134 : decode cX9_init 134 = .ok (.putfield 50, 3) := by decide +kernel
theorem dX9_init_137 : decode cX9_init 137 = .ok (.return_, 1) := by decide +kernel
theorem dX9_in_0 : decode cX9_in 0 = .ok (.lload_n 0, 1) := by decide +kernel
theorem dX9_in_1 : decode cX9_in 1 = .ok (.lload_n 2, 1) := by decide +kernel
theorem dX9_in_2 : decode cX9_in 2 = .ok (.lcmp, 1) := by decide +kernel
theorem dX9_in_3 : decode cX9_in 3 = .ok (.ifCond .lt 14, 3) := by decide +kernel
theorem dX9_in_6 : decode cX9_in 6 = .ok (.lload_n 0, 1) := by decide +kernel
theorem dX9_in_7 : decode cX9_in 7 = .ok (.lload 4, 2) := by decide +kernel
theorem dX9_in_9 : decode cX9_in 9 = .ok (.lcmp, 1) := by decide +kernel
theorem dX9_in_10 : decode cX9_in 10 = .ok (.ifCond .gt 7, 3) := by decide +kernel
theorem dX9_in_13 : decode cX9_in 13 = .ok (.iconst 1, 1) := by decide +kernel
theorem dX9_in_14 : decode cX9_in 14 = .ok (.goto 4, 3) := by decide +kernel
theorem dX9_in_17 : decode cX9_in 17 = .ok (.iconst 0, 1) := by decide +kernel
theorem dX9_in_18 : decode cX9_in 18 = .ok (.ireturn, 1) := by decide +kernel
theorem dX9_lesser_0 : decode cX9_lesser 0 = .ok (.iload_n 0, 1) := by decide +kernel
theorem dX9_lesser_1 : decode cX9_lesser 1 = .ok (.iload_n 1, 1) := by decide +kernel
theorem dX9_lesser_2 : decode cX9_lesser 2 = .ok (.if_icmp .ge 7, 3) := by decide +kernel
theorem dX9_lesser_5 : decode cX9_lesser 5 = .ok (.iload_n 0, 1) := by decide +kernel
theorem dX9_lesser_6 : decode cX9_lesser 6 = .ok (.goto 4, 3) := by decide +kernel
theorem dX9_lesser_9 : decode cX9_lesser 9 = .ok (.iload_n 1, 1) := by decide +kernel
theorem dX9_lesser_10 : decode cX9_lesser 10 = .ok (.ireturn, 1) := by decide +kernel
theorem dX9_copy_0 : decode cX9_copy 0 = .ok (.iconst 0, 1) := by decide +kernel
theorem dX9_copy_1 : decode cX9_copy 1 = .ok (.istore_n 3, 1) := by decide +kernel
theorem dX9_copy_2 : decode cX9_copy 2 = .ok (.iload_n 3, 1) := by decide +kernel
theorem dX9_copy_3 : decode cX9_copy 3 = .ok (.sipush 283, 3) := by decide +kernel
theorem dX9_copy_6 : decode cX9_copy 6 = .ok (.if_icmp .ge 25, 3) := by decide +kernel
theorem dX9_copy_9 : decode cX9_copy 9 = .ok (.aload_n 0, 1) := by decide +kernel
theorem dX9_copy_10 : decode cX9_copy 10 = .ok (.getfield 7, 3) := by decide +kernel
theorem dX9_copy_13 : decode cX9_copy 13 = .ok (.iload_n 2, 1) := by decide +kernel
theorem dX9_copy_14 : decode cX9_copy 14 = .ok (.iload_n 3, 1) := by decide +kernel
theorem dX9_copy_15 : decode cX9_copy 15 = .ok (.iadd, 1) := by decide +kernel
theorem dX9_copy_16 : decode cX9_copy 16 = .ok (.aload_n 0, 1) := by decide +kernel
theorem dX9_copy_17 : decode cX9_copy 17 = .ok (.getfield 7, 3) := by decide +kernel
theorem dX9_copy_20 : decode cX9_copy 20 = .ok (.iload_n 1, 1) := by decide +kernel
theorem dX9_copy_21 : decode cX9_copy 21 = .ok (.iload_n 3, 1) := by decide +kernel
theorem dX9_copy_22 : decode cX9_copy 22 = .ok (.iadd, 1) := by decide +kernel
theorem dX9_copy_23 : decode cX9_copy 23 = .ok (.iaload, 1) := by decide +kernel
theorem dX9_copy_24 : decode cX9_copy 24 = .ok (.iastore, 1) := by decide +kernel
theorem dX9_copy_25 : decode cX9_copy 25 = .ok (.iinc 3 1, 3) := by decide +kernel
theorem dX9_copy_28 : decode cX9_copy 28 = .ok (.goto (-26), 3) := by decide +kernel
theorem dX9_copy_31 : decode cX9_copy 31 = .ok (.return_, 1) := by decide +kernel
theorem dX9_minds_0 : decode cX9_minds 0 = .ok (.aload_n 0, 1) := by decide +kernel
theorem dX9_minds_1 : decode cX9_minds 1 = .ok (.getfield 54, 3) := by decide +kernel
theorem dX9_minds_4 : decode cX9_minds 4 = .ok (.bipush 6, 2) := by decide +kernel
theorem dX9_minds_6 : decode cX9_minds 6 = .ok (.if_icmp .ne 48, 3) := by decide +kernel
theorem dX9_minds_9 : decode cX9_minds 9 = .ok (.iconst 0, 1) := by decide +kernel
theorem dX9_minds_10 : decode cX9_minds 10 = .ok (.istore_n 1, 1) := by decide +kernel
theorem dX9_minds_11 : decode cX9_minds 11 = .ok (.iload_n 1, 1) := by decide +kernel
theorem dX9_minds_12 : decode cX9_minds 12 = .ok (.sipush 1415, 3) := by decide +kernel
theorem dX9_minds_15 : decode cX9_minds 15 = .ok (.if_icmp .ge 29, 3) := by decide +kernel
theorem dX9_minds_18 : decode cX9_minds 18 = .ok (.aload_n 0, 1) := by decide +kernel
theorem dX9_minds_19 : decode cX9_minds 19 = .ok (.getfield 7, 3) := by decide +kernel
theorem dX9_minds_22 : decode cX9_minds 22 = .ok (.sipush 849, 3) := by decide +kernel
theorem dX9_minds_25 : decode cX9_minds 25 = .ok (.iload_n 1, 1) := by decide +kernel
theorem dX9_minds_26 : decode cX9_minds 26 = .ok (.iadd, 1) := by decide +kernel
theorem dX9_minds_27 : decode cX9_minds 27 = .ok (.aload_n 0, 1) := by decide +kernel
theorem dX9_minds_28 : decode cX9_minds 28 = .ok (.getfield 7, 3) := by decide +kernel
theorem dX9_minds_31 : decode cX9_minds 31 = .ok (.sipush 1132, 3) := by decide +kernel
theorem dX9_minds_34 : decode cX9_minds 34 = .ok (.iload_n 1, 1) := by decide +kernel
theorem dX9_minds_35 : decode cX9_minds 35 = .ok (.iadd, 1) := by decide +kernel
theorem dX9_minds_36 : decode cX9_minds 36 = .ok (.iaload, 1) := by decide +kernel
theorem dX9_minds_37 : decode cX9_minds 37 = .ok (.iastore, 1) := by decide +kernel
theorem dX9_minds_38 : decode cX9_minds 38 = .ok (.iinc 1 1, 3) := by decide +kernel
theorem dX9_minds_41 : decode cX9_minds 41 = .ok (.goto (-30), 3) := by decide +kernel
theorem dX9_minds_44 : decode cX9_minds 44 = .ok (.aload_n 0, 1) := by decide +kernel
theorem dX9_minds_45 : decode cX9_minds 45 = .ok (.dup, 1) := by decide +kernel
theorem dX9_minds_46 : decode cX9_minds 46 = .ok (.getfield 54, 3) := by decide +kernel
theorem dX9_minds_49 : decode cX9_minds 49 = .ok (.iconst 1, 1) := by decide +kernel
theorem dX9_minds_50 : decode cX9_minds 50 = .ok (.isub, 1) := by decide +kernel
theorem dX9_minds_51 : decode cX9_minds 51 = .ok (.putfield 54, 3) := by decide +kernel
theorem dX9_minds_54 : decode cX9_minds 54 = .ok (.aload_n 0, 1) := by decide +kernel
theorem dX9_minds_55 : decode cX9_minds 55 = .ok (.iconst 0, 1) := by decide +kernel
theorem dX9_minds_56 : decode cX9_minds 56 = .ok (.sipush 849, 3) := by decide +kernel
theorem dX9_minds_59 : decode cX9_minds 59 = .ok (.sipush 283, 3) := by decide +kernel
theorem dX9_minds_62 : decode cX9_minds 62 = .ok (.aload_n 0, 1) := by decide +kernel
theorem dX9_minds_63 : decode cX9_minds 63 = .ok (.getfield 54, 3) := by decide +kernel
theorem dX9_minds_66 : decode cX9_minds 66 = .ok (.imul, 1) := by decide +kernel
theorem dX9_minds_67 : decode cX9_minds 67 = .ok (.iadd, 1) := by decide +kernel
theorem dX9_minds_68 : decode cX9_minds 68 = .ok (.invokevirtual 58, 3) := by decide +kernel
theorem dX9_minds_71 : decode cX9_minds 71 = .ok (.aload_n 0, 1) := by decide +kernel
theorem dX9_minds_72 : decode cX9_minds 72 = .ok (.dup, 1) := by decide +kernel
theorem dX9_minds_73 : decode cX9_minds 73 = .ok (.getfield 54, 3) := by decide +kernel
theorem dX9_minds_76 : decode cX9_minds 76 = .ok (.iconst 1, 1) := by decide +kernel
theorem dX9_minds_77 : decode cX9_minds 77 = .ok (.iadd, 1) := by decide +kernel
theorem dX9_minds_78 : decode cX9_minds 78 = .ok (.putfield 54, 3) := by decide +kernel
theorem dX9_minds_81 : decode cX9_minds 81 = .ok (.return_, 1) := by decide +kernel
theorem dX9_isFigure_0 : decode cX9_isFigure 0 = .ok (.iload_n 0, 1) := by decide +kernel
theorem dX9_isFigure_1 : decode cX9_isFigure 1 = .ok (.i2l, 1) := by decide +kernel
theorem dX9_isFigure_2 : decode cX9_isFigure 2 = .ok (.ldc2_w 62, 3) := by decide +kernel
theorem dX9_isFigure_5 : decode cX9_isFigure 5 = .ok (.ldc2_w 64, 3) := by decide +kernel
theorem dX9_isFigure_8 : decode cX9_isFigure 8 = .ok (.invokestatic 66, 3) := by decide +kernel
theorem dX9_isFigure_11 : decode cX9_isFigure 11 = .ok (.ireturn, 1) := by decide +kernel
theorem dX9_take_0 : decode cX9_take 0 = .ok (.aload_n 0, 1) := by decide +kernel
theorem dX9_take_1 : decode cX9_take 1 = .ok (.getfield 70, 3) := by decide +kernel
theorem dX9_take_4 : decode cX9_take 4 = .ok (.aload_n 0, 1) := by decide +kernel
theorem dX9_take_5 : decode cX9_take 5 = .ok (.getfield 73, 3) := by decide +kernel
theorem dX9_take_8 : decode cX9_take 8 = .ok (.if_icmp .ge 30, 3) := by decide +kernel
theorem dX9_take_11 : decode cX9_take 11 = .ok (.aload_n 0, 1) := by decide +kernel
theorem dX9_take_12 : decode cX9_take 12 = .ok (.getfield 23, 3) := by decide +kernel
theorem dX9_take_15 : decode cX9_take 15 = .ok (.aload_n 0, 1) := by decide +kernel
theorem dX9_take_16 : decode cX9_take 16 = .ok (.getfield 70, 3) := by decide +kernel
theorem dX9_take_19 : decode cX9_take 19 = .ok (.iaload, 1) := by decide +kernel
theorem dX9_take_20 : decode cX9_take 20 = .ok (.bipush 32, 2) := by decide +kernel
theorem dX9_take_22 : decode cX9_take 22 = .ok (.if_icmp .ne 16, 3) := by decide +kernel
theorem dX9_take_25 : decode cX9_take 25 = .ok (.aload_n 0, 1) := by decide +kernel
theorem dX9_take_26 : decode cX9_take 26 = .ok (.dup, 1) := by decide +kernel
theorem dX9_take_27 : decode cX9_take 27 = .ok (.getfield 70, 3) := by decide +kernel
theorem dX9_take_30 : decode cX9_take 30 = .ok (.iconst 1, 1) := by decide +kernel
theorem dX9_take_31 : decode cX9_take 31 = .ok (.iadd, 1) := by decide +kernel
theorem dX9_take_32 : decode cX9_take 32 = .ok (.putfield 70, 3) := by decide +kernel
theorem dX9_take_35 : decode cX9_take 35 = .ok (.goto (-35), 3) := by decide +kernel
theorem dX9_take_38 : decode cX9_take 38 = .ok (.aload_n 0, 1) := by decide +kernel
theorem dX9_take_39 : decode cX9_take 39 = .ok (.aload_n 0, 1) := by decide +kernel
theorem dX9_take_40 : decode cX9_take 40 = .ok (.getfield 70, 3) := by decide +kernel
theorem dX9_take_43 : decode cX9_take 43 = .ok (.putfield 76, 3) := by decide +kernel
theorem dX9_take_46 : decode cX9_take 46 = .ok (.aload_n 0, 1) := by decide +kernel
theorem dX9_take_47 : decode cX9_take 47 = .ok (.getfield 70, 3) := by decide +kernel
theorem dX9_take_50 : decode cX9_take 50 = .ok (.aload_n 0, 1) := by decide +kernel
theorem dX9_take_51 : decode cX9_take 51 = .ok (.getfield 73, 3) := by decide +kernel
theorem dX9_take_54 : decode cX9_take 54 = .ok (.if_icmp .ne 9, 3) := by decide +kernel
theorem dX9_take_57 : decode cX9_take 57 = .ok (.aload_n 0, 1) := by decide +kernel
theorem dX9_take_58 : decode cX9_take 58 = .ok (.iconst (-1), 1) := by decide +kernel
theorem dX9_take_59 : decode cX9_take 59 = .ok (.putfield 79, 3) := by decide +kernel
theorem dX9_take_62 : decode cX9_take 62 = .ok (.return_, 1) := by decide +kernel
theorem dX9_take_63 : decode cX9_take 63 = .ok (.aload_n 0, 1) := by decide +kernel
theorem dX9_take_64 : decode cX9_take 64 = .ok (.getfield 23, 3) := by decide +kernel
theorem dX9_take_67 : decode cX9_take 67 = .ok (.aload_n 0, 1) := by decide +kernel
theorem dX9_take_68 : decode cX9_take 68 = .ok (.getfield 70, 3) := by decide +kernel
theorem dX9_take_71 : decode cX9_take 71 = .ok (.iaload, 1) := by decide +kernel
theorem dX9_take_72 : decode cX9_take 72 = .ok (.istore_n 1, 1) := by decide +kernel
theorem dX9_take_73 : decode cX9_take 73 = .ok (.aload_n 0, 1) := by decide +kernel
theorem dX9_take_74 : decode cX9_take 74 = .ok (.iload_n 1, 1) := by decide +kernel
theorem dX9_take_75 : decode cX9_take 75 = .ok (.invokestatic 82, 3) := by decide +kernel
theorem dX9_take_78 : decode cX9_take 78 = .ok (.ifCond .ge 9, 3) := by decide +kernel
theorem dX9_take_81 : decode cX9_take 81 = .ok (.iload_n 1, 1) := by decide +kernel
theorem dX9_take_82 : decode cX9_take 82 = .ok (.bipush 59, 2) := by decide +kernel
theorem dX9_take_84 : decode cX9_take 84 = .ok (.if_icmp .ne 7, 3) := by decide +kernel
theorem dX9_take_87 : decode cX9_take 87 = .ok (.iload_n 1, 1) := by decide +kernel
theorem dX9_take_88 : decode cX9_take 88 = .ok (.goto 4, 3) := by decide +kernel
theorem dX9_take_91 : decode cX9_take 91 = .ok (.iconst 0, 1) := by decide +kernel
theorem dX9_take_92 : decode cX9_take 92 = .ok (.putfield 79, 3) := by decide +kernel
theorem dX9_take_95 : decode cX9_take 95 = .ok (.aload_n 0, 1) := by decide +kernel
theorem dX9_take_96 : decode cX9_take 96 = .ok (.dup, 1) := by decide +kernel
theorem dX9_take_97 : decode cX9_take 97 = .ok (.getfield 70, 3) := by decide +kernel
theorem dX9_take_100 : decode cX9_take 100 = .ok (.iconst 1, 1) := by decide +kernel
theorem dX9_take_101 : decode cX9_take 101 = .ok (.iadd, 1) := by decide +kernel
theorem dX9_take_102 : decode cX9_take 102 = .ok (.putfield 70, 3) := by decide +kernel
theorem dX9_take_105 : decode cX9_take 105 = .ok (.iload_n 1, 1) := by decide +kernel
theorem dX9_take_106 : decode cX9_take 106 = .ok (.invokestatic 86, 3) := by decide +kernel
theorem dX9_take_109 : decode cX9_take 109 = .ok (.ifCond .eq 128, 3) := by decide +kernel
theorem dX9_take_112 : decode cX9_take 112 = .ok (.aload_n 0, 1) := by decide +kernel
theorem dX9_take_113 : decode cX9_take 113 = .ok (.iload_n 1, 1) := by decide +kernel
theorem dX9_take_114 : decode cX9_take 114 = .ok (.bipush 48, 2) := by decide +kernel
theorem dX9_take_116 : decode cX9_take 116 = .ok (.isub, 1) := by decide +kernel
theorem dX9_take_117 : decode cX9_take 117 = .ok (.putfield 90, 3) := by decide +kernel
theorem dX9_take_120 : decode cX9_take 120 = .ok (.aload_n 0, 1) := by decide +kernel
theorem dX9_take_121 : decode cX9_take 121 = .ok (.getfield 70, 3) := by decide +kernel
theorem dX9_take_124 : decode cX9_take 124 = .ok (.aload_n 0, 1) := by decide +kernel
theorem dX9_take_125 : decode cX9_take 125 = .ok (.getfield 73, 3) := by decide +kernel
theorem dX9_take_128 : decode cX9_take 128 = .ok (.if_icmp .ge 71, 3) := by decide +kernel
theorem dX9_take_131 : decode cX9_take 131 = .ok (.aload_n 0, 1) := by decide +kernel
theorem dX9_take_132 : decode cX9_take 132 = .ok (.getfield 23, 3) := by decide +kernel
theorem dX9_take_135 : decode cX9_take 135 = .ok (.aload_n 0, 1) := by decide +kernel
theorem dX9_take_136 : decode cX9_take 136 = .ok (.getfield 70, 3) := by decide +kernel
theorem dX9_take_139 : decode cX9_take 139 = .ok (.iaload, 1) := by decide +kernel
theorem dX9_take_140 : decode cX9_take 140 = .ok (.invokestatic 86, 3) := by decide +kernel
theorem dX9_take_143 : decode cX9_take 143 = .ok (.ifCond .eq 56, 3) := by decide +kernel
theorem dX9_take_146 : decode cX9_take 146 = .ok (.aload_n 0, 1) := by decide +kernel
theorem dX9_take_147 : decode cX9_take 147 = .ok (.aload_n 0, 1) := by decide +kernel
theorem dX9_take_148 : decode cX9_take 148 = .ok (.getfield 90, 3) := by decide +kernel
theorem dX9_take_151 : decode cX9_take 151 = .ok (.bipush 99, 2) := by decide +kernel
theorem dX9_take_153 : decode cX9_take 153 = .ok (.if_icmp .le 10, 3) := by decide +kernel
theorem dX9_take_156 : decode cX9_take 156 = .ok (.aload_n 0, 1) := by decide +kernel
theorem dX9_take_157 : decode cX9_take 157 = .ok (.getfield 90, 3) := by decide +kernel
theorem dX9_take_160 : decode cX9_take 160 = .ok (.goto 23, 3) := by decide +kernel
theorem dX9_take_163 : decode cX9_take 163 = .ok (.bipush 10, 2) := by decide +kernel
theorem dX9_take_165 : decode cX9_take 165 = .ok (.aload_n 0, 1) := by decide +kernel
theorem dX9_take_166 : decode cX9_take 166 = .ok (.getfield 90, 3) := by decide +kernel
theorem dX9_take_169 : decode cX9_take 169 = .ok (.imul, 1) := by decide +kernel
theorem dX9_take_170 : decode cX9_take 170 = .ok (.aload_n 0, 1) := by decide +kernel
theorem dX9_take_171 : decode cX9_take 171 = .ok (.getfield 23, 3) := by decide +kernel
theorem dX9_take_174 : decode cX9_take 174 = .ok (.aload_n 0, 1) := by decide +kernel
theorem dX9_take_175 : decode cX9_take 175 = .ok (.getfield 70, 3) := by decide +kernel
theorem dX9_take_178 : decode cX9_take 178 = .ok (.iaload, 1) := by decide +kernel
theorem dX9_take_179 : decode cX9_take 179 = .ok (.iadd, 1) := by decide +kernel
theorem dX9_take_180 : decode cX9_take 180 = .ok (.bipush 48, 2) := by decide +kernel
theorem dX9_take_182 : decode cX9_take 182 = .ok (.isub, 1) := by decide +kernel
theorem dX9_take_183 : decode cX9_take 183 = .ok (.putfield 90, 3) := by decide +kernel
theorem dX9_take_186 : decode cX9_take 186 = .ok (.aload_n 0, 1) := by decide +kernel
theorem dX9_take_187 : decode cX9_take 187 = .ok (.dup, 1) := by decide +kernel
theorem dX9_take_188 : decode cX9_take 188 = .ok (.getfield 70, 3) := by decide +kernel
theorem dX9_take_191 : decode cX9_take 191 = .ok (.iconst 1, 1) := by decide +kernel
theorem dX9_take_192 : decode cX9_take 192 = .ok (.iadd, 1) := by decide +kernel
theorem dX9_take_193 : decode cX9_take 193 = .ok (.putfield 70, 3) := by decide +kernel
theorem dX9_take_196 : decode cX9_take 196 = .ok (.goto (-76), 3) := by decide +kernel
theorem dX9_take_199 : decode cX9_take 199 = .ok (.aload_n 0, 1) := by decide +kernel
theorem dX9_take_200 : decode cX9_take 200 = .ok (.aload_n 0, 1) := by decide +kernel
theorem dX9_take_201 : decode cX9_take 201 = .ok (.getfield 90, 3) := by decide +kernel
theorem dX9_take_204 : decode cX9_take 204 = .ok (.bipush 99, 2) := by decide +kernel
theorem dX9_take_206 : decode cX9_take 206 = .ok (.if_icmp .gt 22, 3) := by decide +kernel
theorem dX9_take_209 : decode cX9_take 209 = .ok (.iload_n 1, 1) := by decide +kernel
theorem dX9_take_210 : decode cX9_take 210 = .ok (.bipush 48, 2) := by decide +kernel
theorem dX9_take_212 : decode cX9_take 212 = .ok (.if_icmp .ne 20, 3) := by decide +kernel
theorem dX9_take_215 : decode cX9_take 215 = .ok (.aload_n 0, 1) := by decide +kernel
theorem dX9_take_216 : decode cX9_take 216 = .ok (.getfield 70, 3) := by decide +kernel
theorem dX9_take_219 : decode cX9_take 219 = .ok (.aload_n 0, 1) := by decide +kernel
theorem dX9_take_220 : decode cX9_take 220 = .ok (.getfield 76, 3) := by decide +kernel
theorem dX9_take_223 : decode cX9_take 223 = .ok (.isub, 1) := by decide +kernel
theorem dX9_take_224 : decode cX9_take 224 = .ok (.iconst 1, 1) := by decide +kernel
theorem dX9_take_225 : decode cX9_take 225 = .ok (.if_icmp .le 7, 3) := by decide +kernel
theorem dX9_take_228 : decode cX9_take 228 = .ok (.iconst 0, 1) := by decide +kernel
theorem dX9_take_229 : decode cX9_take 229 = .ok (.goto 5, 3) := by decide +kernel
theorem dX9_take_232 : decode cX9_take 232 = .ok (.bipush (-2), 2) := by decide +kernel
theorem dX9_take_234 : decode cX9_take 234 = .ok (.putfield 79, 3) := by decide +kernel
theorem dX9_take_237 : decode cX9_take 237 = .ok (.return_, 1) := by decide +kernel
theorem dX9_which_0 : decode cX9_which 0 = .ok (.iload_n 0, 1) := by decide +kernel
theorem dX9_which_1 : decode cX9_which 1 = .ok (.lookupswitch 71 #[(99, 59), (100, 63), (104, 61), (107, 65), (109, 67), (119, 69)], 59) := by decide +kernel
theorem dX9_which_60 : decode cX9_which 60 = .ok (.iconst 0, 1) := by decide +kernel
theorem dX9_which_61 : decode cX9_which 61 = .ok (.ireturn, 1) := by decide +kernel
theorem dX9_which_62 : decode cX9_which 62 = .ok (.iconst 1, 1) := by decide +kernel
theorem dX9_which_63 : decode cX9_which 63 = .ok (.ireturn, 1) := by decide +kernel
theorem dX9_which_64 : decode cX9_which 64 = .ok (.iconst 2, 1) := by decide +kernel
theorem dX9_which_65 : decode cX9_which 65 = .ok (.ireturn, 1) := by decide +kernel
theorem dX9_which_66 : decode cX9_which 66 = .ok (.iconst 3, 1) := by decide +kernel
theorem dX9_which_67 : decode cX9_which 67 = .ok (.ireturn, 1) := by decide +kernel
theorem dX9_which_68 : decode cX9_which 68 = .ok (.iconst 4, 1) := by decide +kernel
theorem dX9_which_69 : decode cX9_which 69 = .ok (.ireturn, 1) := by decide +kernel
theorem dX9_which_70 : decode cX9_which 70 = .ok (.iconst 5, 1) := by decide +kernel
theorem dX9_which_71 : decode cX9_which 71 = .ok (.ireturn, 1) := by decide +kernel
theorem dX9_which_72 : decode cX9_which 72 = .ok (.bipush (-9), 2) := by decide +kernel
theorem dX9_which_74 : decode cX9_which 74 = .ok (.ireturn, 1) := by decide +kernel
theorem dX9_readsNumber_0 : decode cX9_readsNumber 0 = .ok (.aload_n 0, 1) := by decide +kernel
theorem dX9_readsNumber_1 : decode cX9_readsNumber 1 = .ok (.getfield 79, 3) := by decide +kernel
theorem dX9_readsNumber_4 : decode cX9_readsNumber 4 = .ok (.bipush (-2), 2) := by decide +kernel
theorem dX9_readsNumber_6 : decode cX9_readsNumber 6 = .ok (.if_icmp .ne 22, 3) := by decide +kernel
theorem dX9_readsNumber_9 : decode cX9_readsNumber 9 = .ok (.aload_n 0, 1) := by decide +kernel
theorem dX9_readsNumber_10 : decode cX9_readsNumber 10 = .ok (.getfield 90, 3) := by decide +kernel
theorem dX9_readsNumber_13 : decode cX9_readsNumber 13 = .ok (.i2l, 1) := by decide +kernel
theorem dX9_readsNumber_14 : decode cX9_readsNumber 14 = .ok (.iload_n 1, 1) := by decide +kernel
theorem dX9_readsNumber_15 : decode cX9_readsNumber 15 = .ok (.i2l, 1) := by decide +kernel
theorem dX9_readsNumber_16 : decode cX9_readsNumber 16 = .ok (.iload_n 2, 1) := by decide +kernel
theorem dX9_readsNumber_17 : decode cX9_readsNumber 17 = .ok (.i2l, 1) := by decide +kernel
theorem dX9_readsNumber_18 : decode cX9_readsNumber 18 = .ok (.invokestatic 66, 3) := by decide +kernel
theorem dX9_readsNumber_21 : decode cX9_readsNumber 21 = .ok (.ifCond .eq 7, 3) := by decide +kernel
theorem dX9_readsNumber_24 : decode cX9_readsNumber 24 = .ok (.iconst 1, 1) := by decide +kernel
theorem dX9_readsNumber_25 : decode cX9_readsNumber 25 = .ok (.goto 4, 3) := by decide +kernel
theorem dX9_readsNumber_28 : decode cX9_readsNumber 28 = .ok (.iconst 0, 1) := by decide +kernel
theorem dX9_readsNumber_29 : decode cX9_readsNumber 29 = .ok (.istore_n 3, 1) := by decide +kernel
theorem dX9_readsNumber_30 : decode cX9_readsNumber 30 = .ok (.iload_n 3, 1) := by decide +kernel
theorem dX9_readsNumber_31 : decode cX9_readsNumber 31 = .ok (.ifCond .eq 7, 3) := by decide +kernel
theorem dX9_readsNumber_34 : decode cX9_readsNumber 34 = .ok (.aload_n 0, 1) := by decide +kernel
theorem dX9_readsNumber_35 : decode cX9_readsNumber 35 = .ok (.invokevirtual 93, 3) := by decide +kernel
theorem dX9_readsNumber_38 : decode cX9_readsNumber 38 = .ok (.iload_n 3, 1) := by decide +kernel
theorem dX9_readsNumber_39 : decode cX9_readsNumber 39 = .ok (.ireturn, 1) := by decide +kernel
theorem dX9_keeps_0 : decode cX9_keeps 0 = .ok (.aload_n 0, 1) := by decide +kernel
theorem dX9_keeps_1 : decode cX9_keeps 1 = .ok (.aload_n 0, 1) := by decide +kernel
theorem dX9_keeps_2 : decode cX9_keeps 2 = .ok (.getfield 90, 3) := by decide +kernel
theorem dX9_keeps_5 : decode cX9_keeps 5 = .ok (.putfield 96, 3) := by decide +kernel
theorem dX9_keeps_8 : decode cX9_keeps 8 = .ok (.aload_n 0, 1) := by decide +kernel
theorem dX9_keeps_9 : decode cX9_keeps 9 = .ok (.iload_n 1, 1) := by decide +kernel
theorem dX9_keeps_10 : decode cX9_keeps 10 = .ok (.iload_n 2, 1) := by decide +kernel
theorem dX9_keeps_11 : decode cX9_keeps 11 = .ok (.invokevirtual 99, 3) := by decide +kernel
theorem dX9_keeps_14 : decode cX9_keeps 14 = .ok (.ireturn, 1) := by decide +kernel
theorem dX9_readsCell_0 : decode cX9_readsCell 0 = .ok (.aload_n 0, 1) := by decide +kernel
theorem dX9_readsCell_1 : decode cX9_readsCell 1 = .ok (.getfield 103, 3) := by decide +kernel
theorem dX9_readsCell_4 : decode cX9_readsCell 4 = .ok (.iconst 4, 1) := by decide +kernel
theorem dX9_readsCell_5 : decode cX9_readsCell 5 = .ok (.if_icmp .ne 5, 3) := by decide +kernel
theorem dX9_readsCell_8 : decode cX9_readsCell 8 = .ok (.iconst 0, 1) := by decide +kernel
theorem dX9_readsCell_9 : decode cX9_readsCell 9 = .ok (.ireturn, 1) := by decide +kernel
theorem dX9_readsCell_10 : decode cX9_readsCell 10 = .ok (.aload_n 0, 1) := by decide +kernel
theorem dX9_readsCell_11 : decode cX9_readsCell 11 = .ok (.invokevirtual 93, 3) := by decide +kernel
theorem dX9_readsCell_14 : decode cX9_readsCell 14 = .ok (.aload_n 0, 1) := by decide +kernel
theorem dX9_readsCell_15 : decode cX9_readsCell 15 = .ok (.iconst 1, 1) := by decide +kernel
theorem dX9_readsCell_16 : decode cX9_readsCell 16 = .ok (.bipush 6, 2) := by decide +kernel
theorem dX9_readsCell_18 : decode cX9_readsCell 18 = .ok (.invokevirtual 106, 3) := by decide +kernel
theorem dX9_readsCell_21 : decode cX9_readsCell 21 = .ok (.ifCond .ne 5, 3) := by decide +kernel
theorem dX9_readsCell_24 : decode cX9_readsCell 24 = .ok (.iconst 0, 1) := by decide +kernel
theorem dX9_readsCell_25 : decode cX9_readsCell 25 = .ok (.ireturn, 1) := by decide +kernel
theorem dX9_readsCell_26 : decode cX9_readsCell 26 = .ok (.aload_n 0, 1) := by decide +kernel
theorem dX9_readsCell_27 : decode cX9_readsCell 27 = .ok (.getfield 35, 3) := by decide +kernel
theorem dX9_readsCell_30 : decode cX9_readsCell 30 = .ok (.aload_n 0, 1) := by decide +kernel
theorem dX9_readsCell_31 : decode cX9_readsCell 31 = .ok (.getfield 103, 3) := by decide +kernel
theorem dX9_readsCell_34 : decode cX9_readsCell 34 = .ok (.aload_n 0, 1) := by decide +kernel
theorem dX9_readsCell_35 : decode cX9_readsCell 35 = .ok (.getfield 96, 3) := by decide +kernel
theorem dX9_readsCell_38 : decode cX9_readsCell 38 = .ok (.iastore, 1) := by decide +kernel
theorem dX9_readsCell_39 : decode cX9_readsCell 39 = .ok (.aload_n 0, 1) := by decide +kernel
theorem dX9_readsCell_40 : decode cX9_readsCell 40 = .ok (.iconst 0, 1) := by decide +kernel
theorem dX9_readsCell_41 : decode cX9_readsCell 41 = .ok (.bipush 10, 2) := by decide +kernel
theorem dX9_readsCell_43 : decode cX9_readsCell 43 = .ok (.aload_n 0, 1) := by decide +kernel
theorem dX9_readsCell_44 : decode cX9_readsCell 44 = .ok (.getfield 35, 3) := by decide +kernel
theorem dX9_readsCell_47 : decode cX9_readsCell 47 = .ok (.aload_n 0, 1) := by decide +kernel
theorem dX9_readsCell_48 : decode cX9_readsCell 48 = .ok (.getfield 103, 3) := by decide +kernel
theorem dX9_readsCell_51 : decode cX9_readsCell 51 = .ok (.iaload, 1) := by decide +kernel
theorem dX9_readsCell_52 : decode cX9_readsCell 52 = .ok (.imul, 1) := by decide +kernel
theorem dX9_readsCell_53 : decode cX9_readsCell 53 = .ok (.invokevirtual 106, 3) := by decide +kernel
theorem dX9_readsCell_56 : decode cX9_readsCell 56 = .ok (.ifCond .ne 5, 3) := by decide +kernel
theorem dX9_readsCell_59 : decode cX9_readsCell 59 = .ok (.iconst 0, 1) := by decide +kernel
theorem dX9_readsCell_60 : decode cX9_readsCell 60 = .ok (.ireturn, 1) := by decide +kernel
theorem dX9_readsCell_61 : decode cX9_readsCell 61 = .ok (.aload_n 0, 1) := by decide +kernel
theorem dX9_readsCell_62 : decode cX9_readsCell 62 = .ok (.getfield 38, 3) := by decide +kernel
theorem dX9_readsCell_65 : decode cX9_readsCell 65 = .ok (.aload_n 0, 1) := by decide +kernel
theorem dX9_readsCell_66 : decode cX9_readsCell 66 = .ok (.getfield 103, 3) := by decide +kernel
theorem dX9_readsCell_69 : decode cX9_readsCell 69 = .ok (.aload_n 0, 1) := by decide +kernel
theorem dX9_readsCell_70 : decode cX9_readsCell 70 = .ok (.getfield 96, 3) := by decide +kernel
theorem dX9_readsCell_73 : decode cX9_readsCell 73 = .ok (.iastore, 1) := by decide +kernel
theorem dX9_readsCell_74 : decode cX9_readsCell 74 = .ok (.aload_n 0, 1) := by decide +kernel
theorem dX9_readsCell_75 : decode cX9_readsCell 75 = .ok (.iconst 0, 1) := by decide +kernel
theorem dX9_readsCell_76 : decode cX9_readsCell 76 = .ok (.iconst 4, 1) := by decide +kernel
theorem dX9_readsCell_77 : decode cX9_readsCell 77 = .ok (.invokevirtual 106, 3) := by decide +kernel
theorem dX9_readsCell_80 : decode cX9_readsCell 80 = .ok (.ifCond .ne 5, 3) := by decide +kernel
theorem dX9_readsCell_83 : decode cX9_readsCell 83 = .ok (.iconst 0, 1) := by decide +kernel
theorem dX9_readsCell_84 : decode cX9_readsCell 84 = .ok (.ireturn, 1) := by decide +kernel
theorem dX9_readsCell_85 : decode cX9_readsCell 85 = .ok (.aload_n 0, 1) := by decide +kernel
theorem dX9_readsCell_86 : decode cX9_readsCell 86 = .ok (.getfield 41, 3) := by decide +kernel
theorem dX9_readsCell_89 : decode cX9_readsCell 89 = .ok (.aload_n 0, 1) := by decide +kernel
theorem dX9_readsCell_90 : decode cX9_readsCell 90 = .ok (.getfield 103, 3) := by decide +kernel
theorem dX9_readsCell_93 : decode cX9_readsCell 93 = .ok (.aload_n 0, 1) := by decide +kernel
theorem dX9_readsCell_94 : decode cX9_readsCell 94 = .ok (.getfield 96, 3) := by decide +kernel
theorem dX9_readsCell_97 : decode cX9_readsCell 97 = .ok (.iastore, 1) := by decide +kernel
theorem dX9_readsCell_98 : decode cX9_readsCell 98 = .ok (.aload_n 0, 1) := by decide +kernel
theorem dX9_readsCell_99 : decode cX9_readsCell 99 = .ok (.dup, 1) := by decide +kernel
theorem dX9_readsCell_100 : decode cX9_readsCell 100 = .ok (.getfield 103, 3) := by decide +kernel
theorem dX9_readsCell_103 : decode cX9_readsCell 103 = .ok (.iconst 1, 1) := by decide +kernel
theorem dX9_readsCell_104 : decode cX9_readsCell 104 = .ok (.iadd, 1) := by decide +kernel
theorem dX9_readsCell_105 : decode cX9_readsCell 105 = .ok (.putfield 103, 3) := by decide +kernel
theorem dX9_readsCell_108 : decode cX9_readsCell 108 = .ok (.iconst 1, 1) := by decide +kernel
theorem dX9_readsCell_109 : decode cX9_readsCell 109 = .ok (.ireturn, 1) := by decide +kernel
theorem dX9_least_0 : decode cX9_least 0 = .ok (.iload_n 0, 1) := by decide +kernel
theorem dX9_least_1 : decode cX9_least 1 = .ok (.iconst 2, 1) := by decide +kernel
theorem dX9_least_2 : decode cX9_least 2 = .ok (.if_icmp .eq 8, 3) := by decide +kernel
theorem dX9_least_5 : decode cX9_least 5 = .ok (.iload_n 0, 1) := by decide +kernel
theorem dX9_least_6 : decode cX9_least 6 = .ok (.iconst 5, 1) := by decide +kernel
theorem dX9_least_7 : decode cX9_least 7 = .ok (.if_icmp .ne 7, 3) := by decide +kernel
theorem dX9_least_10 : decode cX9_least 10 = .ok (.iconst 1, 1) := by decide +kernel
theorem dX9_least_11 : decode cX9_least 11 = .ok (.goto 4, 3) := by decide +kernel
theorem dX9_least_14 : decode cX9_least 14 = .ok (.iconst 0, 1) := by decide +kernel
theorem dX9_least_15 : decode cX9_least 15 = .ok (.ireturn, 1) := by decide +kernel
theorem dX9_most_0 : decode cX9_most 0 = .ok (.iload_n 0, 1) := by decide +kernel
theorem dX9_most_1 : decode cX9_most 1 = .ok (.tableswitch 41 1 4 #[31, 34, 36, 38], 31) := by decide +kernel
theorem dX9_most_32 : decode cX9_most 32 = .ok (.bipush 20, 2) := by decide +kernel
theorem dX9_most_34 : decode cX9_most 34 = .ok (.ireturn, 1) := by decide +kernel
theorem dX9_most_35 : decode cX9_most 35 = .ok (.iconst 5, 1) := by decide +kernel
theorem dX9_most_36 : decode cX9_most 36 = .ok (.ireturn, 1) := by decide +kernel
theorem dX9_most_37 : decode cX9_most 37 = .ok (.iconst 3, 1) := by decide +kernel
theorem dX9_most_38 : decode cX9_most 38 = .ok (.ireturn, 1) := by decide +kernel
theorem dX9_most_39 : decode cX9_most 39 = .ok (.bipush 60, 2) := by decide +kernel
theorem dX9_most_41 : decode cX9_most 41 = .ok (.ireturn, 1) := by decide +kernel
theorem dX9_most_42 : decode cX9_most 42 = .ok (.bipush 9, 2) := by decide +kernel
theorem dX9_most_44 : decode cX9_most 44 = .ok (.ireturn, 1) := by decide +kernel
theorem dX9_readsItem_0 : decode cX9_readsItem 0 = .ok (.aload_n 0, 1) := by decide +kernel
theorem dX9_readsItem_1 : decode cX9_readsItem 1 = .ok (.getfield 79, 3) := by decide +kernel
theorem dX9_readsItem_4 : decode cX9_readsItem 4 = .ok (.invokestatic 82, 3) := by decide +kernel
theorem dX9_readsItem_7 : decode cX9_readsItem 7 = .ok (.istore_n 1, 1) := by decide +kernel
theorem dX9_readsItem_8 : decode cX9_readsItem 8 = .ok (.iload_n 1, 1) := by decide +kernel
theorem dX9_readsItem_9 : decode cX9_readsItem 9 = .ok (.ifCond .lt 15, 3) := by decide +kernel
theorem dX9_readsItem_12 : decode cX9_readsItem 12 = .ok (.aload_n 0, 1) := by decide +kernel
theorem dX9_readsItem_13 : decode cX9_readsItem 13 = .ok (.getfield 109, 3) := by decide +kernel
theorem dX9_readsItem_16 : decode cX9_readsItem 16 = .ok (.iload_n 1, 1) := by decide +kernel
theorem dX9_readsItem_17 : decode cX9_readsItem 17 = .ok (.ishr, 1) := by decide +kernel
theorem dX9_readsItem_18 : decode cX9_readsItem 18 = .ok (.iconst 1, 1) := by decide +kernel
theorem dX9_readsItem_19 : decode cX9_readsItem 19 = .ok (.iand, 1) := by decide +kernel
theorem dX9_readsItem_20 : decode cX9_readsItem 20 = .ok (.iconst 1, 1) := by decide +kernel
theorem dX9_readsItem_21 : decode cX9_readsItem 21 = .ok (.if_icmp .ne 5, 3) := by decide +kernel
theorem dX9_readsItem_24 : decode cX9_readsItem 24 = .ok (.iconst 0, 1) := by decide +kernel
theorem dX9_readsItem_25 : decode cX9_readsItem 25 = .ok (.ireturn, 1) := by decide +kernel
theorem dX9_readsItem_26 : decode cX9_readsItem 26 = .ok (.iload_n 1, 1) := by decide +kernel
theorem dX9_readsItem_27 : decode cX9_readsItem 27 = .ok (.ifCond .ne 8, 3) := by decide +kernel
theorem dX9_readsItem_30 : decode cX9_readsItem 30 = .ok (.aload_n 0, 1) := by decide +kernel
theorem dX9_readsItem_31 : decode cX9_readsItem 31 = .ok (.invokevirtual 112, 3) := by decide +kernel
theorem dX9_readsItem_34 : decode cX9_readsItem 34 = .ok (.ireturn, 1) := by decide +kernel
theorem dX9_readsItem_35 : decode cX9_readsItem 35 = .ok (.aload_n 0, 1) := by decide +kernel
theorem dX9_readsItem_36 : decode cX9_readsItem 36 = .ok (.dup, 1) := by decide +kernel
theorem dX9_readsItem_37 : decode cX9_readsItem 37 = .ok (.getfield 109, 3) := by decide +kernel
theorem dX9_readsItem_40 : decode cX9_readsItem 40 = .ok (.iconst 1, 1) := by decide +kernel
theorem dX9_readsItem_41 : decode cX9_readsItem 41 = .ok (.iload_n 1, 1) := by decide +kernel
theorem dX9_readsItem_42 : decode cX9_readsItem 42 = .ok (.ishl, 1) := by decide +kernel
theorem dX9_readsItem_43 : decode cX9_readsItem 43 = .ok (.ior, 1) := by decide +kernel
theorem dX9_readsItem_44 : decode cX9_readsItem 44 = .ok (.putfield 109, 3) := by decide +kernel
theorem dX9_readsItem_47 : decode cX9_readsItem 47 = .ok (.aload_n 0, 1) := by decide +kernel
theorem dX9_readsItem_48 : decode cX9_readsItem 48 = .ok (.invokevirtual 93, 3) := by decide +kernel
theorem dX9_readsItem_51 : decode cX9_readsItem 51 = .ok (.aload_n 0, 1) := by decide +kernel
theorem dX9_readsItem_52 : decode cX9_readsItem 52 = .ok (.iload_n 1, 1) := by decide +kernel
theorem dX9_readsItem_53 : decode cX9_readsItem 53 = .ok (.invokestatic 116, 3) := by decide +kernel
theorem dX9_readsItem_56 : decode cX9_readsItem 56 = .ok (.iload_n 1, 1) := by decide +kernel
theorem dX9_readsItem_57 : decode cX9_readsItem 57 = .ok (.invokestatic 119, 3) := by decide +kernel
theorem dX9_readsItem_60 : decode cX9_readsItem 60 = .ok (.invokevirtual 106, 3) := by decide +kernel
theorem dX9_readsItem_63 : decode cX9_readsItem 63 = .ok (.istore_n 2, 1) := by decide +kernel
theorem dX9_readsItem_64 : decode cX9_readsItem 64 = .ok (.aload_n 0, 1) := by decide +kernel
theorem dX9_readsItem_65 : decode cX9_readsItem 65 = .ok (.getfield 44, 3) := by decide +kernel
theorem dX9_readsItem_68 : decode cX9_readsItem 68 = .ok (.iload_n 1, 1) := by decide +kernel
theorem dX9_readsItem_69 : decode cX9_readsItem 69 = .ok (.aload_n 0, 1) := by decide +kernel
theorem dX9_readsItem_70 : decode cX9_readsItem 70 = .ok (.getfield 96, 3) := by decide +kernel
theorem dX9_readsItem_73 : decode cX9_readsItem 73 = .ok (.iastore, 1) := by decide +kernel
theorem dX9_readsItem_74 : decode cX9_readsItem 74 = .ok (.iload_n 2, 1) := by decide +kernel
theorem dX9_readsItem_75 : decode cX9_readsItem 75 = .ok (.ireturn, 1) := by decide +kernel
theorem dX9_reads_0 : decode cX9_reads 0 = .ok (.aload_n 0, 1) := by decide +kernel
theorem dX9_reads_1 : decode cX9_reads 1 = .ok (.iconst 0, 1) := by decide +kernel
theorem dX9_reads_2 : decode cX9_reads 2 = .ok (.putfield 70, 3) := by decide +kernel
theorem dX9_reads_5 : decode cX9_reads 5 = .ok (.aload_n 0, 1) := by decide +kernel
theorem dX9_reads_6 : decode cX9_reads 6 = .ok (.iconst 0, 1) := by decide +kernel
theorem dX9_reads_7 : decode cX9_reads 7 = .ok (.putfield 122, 3) := by decide +kernel
theorem dX9_reads_10 : decode cX9_reads 10 = .ok (.aload_n 0, 1) := by decide +kernel
theorem dX9_reads_11 : decode cX9_reads 11 = .ok (.iconst 0, 1) := by decide +kernel
theorem dX9_reads_12 : decode cX9_reads 12 = .ok (.putfield 103, 3) := by decide +kernel
theorem dX9_reads_15 : decode cX9_reads 15 = .ok (.aload_n 0, 1) := by decide +kernel
theorem dX9_reads_16 : decode cX9_reads 16 = .ok (.iconst 0, 1) := by decide +kernel
theorem dX9_reads_17 : decode cX9_reads 17 = .ok (.putfield 109, 3) := by decide +kernel
theorem dX9_reads_20 : decode cX9_reads 20 = .ok (.aload_n 0, 1) := by decide +kernel
theorem dX9_reads_21 : decode cX9_reads 21 = .ok (.getfield 44, 3) := by decide +kernel
theorem dX9_reads_24 : decode cX9_reads 24 = .ok (.iconst 1, 1) := by decide +kernel
theorem dX9_reads_25 : decode cX9_reads 25 = .ok (.iconst 3, 1) := by decide +kernel
theorem dX9_reads_26 : decode cX9_reads 26 = .ok (.iastore, 1) := by decide +kernel
theorem dX9_reads_27 : decode cX9_reads 27 = .ok (.aload_n 0, 1) := by decide +kernel
theorem dX9_reads_28 : decode cX9_reads 28 = .ok (.getfield 44, 3) := by decide +kernel
theorem dX9_reads_31 : decode cX9_reads 31 = .ok (.iconst 2, 1) := by decide +kernel
theorem dX9_reads_32 : decode cX9_reads 32 = .ok (.iconst 2, 1) := by decide +kernel
theorem dX9_reads_33 : decode cX9_reads 33 = .ok (.iastore, 1) := by decide +kernel
theorem dX9_reads_34 : decode cX9_reads 34 = .ok (.aload_n 0, 1) := by decide +kernel
theorem dX9_reads_35 : decode cX9_reads 35 = .ok (.getfield 44, 3) := by decide +kernel
theorem dX9_reads_38 : decode cX9_reads 38 = .ok (.iconst 3, 1) := by decide +kernel
theorem dX9_reads_39 : decode cX9_reads 39 = .ok (.iconst 1, 1) := by decide +kernel
theorem dX9_reads_40 : decode cX9_reads 40 = .ok (.iastore, 1) := by decide +kernel
theorem dX9_reads_41 : decode cX9_reads 41 = .ok (.aload_n 0, 1) := by decide +kernel
theorem dX9_reads_42 : decode cX9_reads 42 = .ok (.getfield 44, 3) := by decide +kernel
theorem dX9_reads_45 : decode cX9_reads 45 = .ok (.iconst 4, 1) := by decide +kernel
theorem dX9_reads_46 : decode cX9_reads 46 = .ok (.bipush 10, 2) := by decide +kernel
theorem dX9_reads_48 : decode cX9_reads 48 = .ok (.iastore, 1) := by decide +kernel
theorem dX9_reads_49 : decode cX9_reads 49 = .ok (.aload_n 0, 1) := by decide +kernel
theorem dX9_reads_50 : decode cX9_reads 50 = .ok (.getfield 44, 3) := by decide +kernel
theorem dX9_reads_53 : decode cX9_reads 53 = .ok (.iconst 5, 1) := by decide +kernel
theorem dX9_reads_54 : decode cX9_reads 54 = .ok (.iconst 3, 1) := by decide +kernel
theorem dX9_reads_55 : decode cX9_reads 55 = .ok (.iastore, 1) := by decide +kernel
theorem dX9_reads_56 : decode cX9_reads 56 = .ok (.aload_n 0, 1) := by decide +kernel
theorem dX9_reads_57 : decode cX9_reads 57 = .ok (.invokevirtual 93, 3) := by decide +kernel
theorem dX9_reads_60 : decode cX9_reads 60 = .ok (.aload_n 0, 1) := by decide +kernel
theorem dX9_reads_61 : decode cX9_reads 61 = .ok (.getfield 79, 3) := by decide +kernel
theorem dX9_reads_64 : decode cX9_reads 64 = .ok (.iconst (-1), 1) := by decide +kernel
theorem dX9_reads_65 : decode cX9_reads 65 = .ok (.if_icmp .eq 38, 3) := by decide +kernel
theorem dX9_reads_68 : decode cX9_reads 68 = .ok (.aload_n 0, 1) := by decide +kernel
theorem dX9_reads_69 : decode cX9_reads 69 = .ok (.invokevirtual 125, 3) := by decide +kernel
theorem dX9_reads_72 : decode cX9_reads 72 = .ok (.ifCond .eq 12, 3) := by decide +kernel
theorem dX9_reads_75 : decode cX9_reads 75 = .ok (.aload_n 0, 1) := by decide +kernel
theorem dX9_reads_76 : decode cX9_reads 76 = .ok (.getfield 79, 3) := by decide +kernel
theorem dX9_reads_79 : decode cX9_reads 79 = .ok (.bipush 59, 2) := by decide +kernel
theorem dX9_reads_81 : decode cX9_reads 81 = .ok (.if_icmp .eq 5, 3) := by decide +kernel
theorem dX9_reads_84 : decode cX9_reads 84 = .ok (.iconst 0, 1) := by decide +kernel
theorem dX9_reads_85 : decode cX9_reads 85 = .ok (.ireturn, 1) := by decide +kernel
theorem dX9_reads_86 : decode cX9_reads 86 = .ok (.aload_n 0, 1) := by decide +kernel
theorem dX9_reads_87 : decode cX9_reads 87 = .ok (.dup, 1) := by decide +kernel
theorem dX9_reads_88 : decode cX9_reads 88 = .ok (.getfield 122, 3) := by decide +kernel
theorem dX9_reads_91 : decode cX9_reads 91 = .ok (.iconst 1, 1) := by decide +kernel
theorem dX9_reads_92 : decode cX9_reads 92 = .ok (.iadd, 1) := by decide +kernel
theorem dX9_reads_93 : decode cX9_reads 93 = .ok (.putfield 122, 3) := by decide +kernel
theorem dX9_reads_96 : decode cX9_reads 96 = .ok (.aload_n 0, 1) := by decide +kernel
theorem dX9_reads_97 : decode cX9_reads 97 = .ok (.invokevirtual 93, 3) := by decide +kernel
theorem dX9_reads_100 : decode cX9_reads 100 = .ok (.goto (-40), 3) := by decide +kernel
theorem dX9_reads_103 : decode cX9_reads 103 = .ok (.iconst 1, 1) := by decide +kernel
theorem dX9_reads_104 : decode cX9_reads 104 = .ok (.ireturn, 1) := by decide +kernel
theorem dX9_type_0 : decode cX9_type 0 = .ok (.iload_n 1, 1) := by decide +kernel
theorem dX9_type_1 : decode cX9_type 1 = .ok (.i2l, 1) := by decide +kernel
theorem dX9_type_2 : decode cX9_type 2 = .ok (.lconst 0, 1) := by decide +kernel
theorem dX9_type_3 : decode cX9_type 3 = .ok (.ldc2_w 128, 3) := by decide +kernel
theorem dX9_type_6 : decode cX9_type 6 = .ok (.invokestatic 66, 3) := by decide +kernel
theorem dX9_type_9 : decode cX9_type 9 = .ok (.ifCond .ne 5, 3) := by decide +kernel
theorem dX9_type_12 : decode cX9_type 12 = .ok (.iconst (-1), 1) := by decide +kernel
theorem dX9_type_13 : decode cX9_type 13 = .ok (.ireturn, 1) := by decide +kernel
theorem dX9_type_14 : decode cX9_type 14 = .ok (.aload_n 0, 1) := by decide +kernel
theorem dX9_type_15 : decode cX9_type 15 = .ok (.getfield 73, 3) := by decide +kernel
theorem dX9_type_18 : decode cX9_type 18 = .ok (.bipush 120, 2) := by decide +kernel
theorem dX9_type_20 : decode cX9_type 20 = .ok (.if_icmp .ne 6, 3) := by decide +kernel
theorem dX9_type_23 : decode cX9_type 23 = .ok (.bipush (-3), 2) := by decide +kernel
theorem dX9_type_25 : decode cX9_type 25 = .ok (.ireturn, 1) := by decide +kernel
theorem dX9_type_26 : decode cX9_type 26 = .ok (.aload_n 0, 1) := by decide +kernel
theorem dX9_type_27 : decode cX9_type 27 = .ok (.getfield 23, 3) := by decide +kernel
theorem dX9_type_30 : decode cX9_type 30 = .ok (.aload_n 0, 1) := by decide +kernel
theorem dX9_type_31 : decode cX9_type 31 = .ok (.getfield 73, 3) := by decide +kernel
theorem dX9_type_34 : decode cX9_type 34 = .ok (.iload_n 1, 1) := by decide +kernel
theorem dX9_type_35 : decode cX9_type 35 = .ok (.iastore, 1) := by decide +kernel
theorem dX9_type_36 : decode cX9_type 36 = .ok (.aload_n 0, 1) := by decide +kernel
theorem dX9_type_37 : decode cX9_type 37 = .ok (.dup, 1) := by decide +kernel
theorem dX9_type_38 : decode cX9_type 38 = .ok (.getfield 73, 3) := by decide +kernel
theorem dX9_type_41 : decode cX9_type 41 = .ok (.iconst 1, 1) := by decide +kernel
theorem dX9_type_42 : decode cX9_type 42 = .ok (.iadd, 1) := by decide +kernel
theorem dX9_type_43 : decode cX9_type 43 = .ok (.putfield 73, 3) := by decide +kernel
theorem dX9_type_46 : decode cX9_type 46 = .ok (.aload_n 0, 1) := by decide +kernel
theorem dX9_type_47 : decode cX9_type 47 = .ok (.getfield 73, 3) := by decide +kernel
theorem dX9_type_50 : decode cX9_type 50 = .ok (.ireturn, 1) := by decide +kernel
theorem dX9_clear_0 : decode cX9_clear 0 = .ok (.aload_n 0, 1) := by decide +kernel
theorem dX9_clear_1 : decode cX9_clear 1 = .ok (.getfield 73, 3) := by decide +kernel
theorem dX9_clear_4 : decode cX9_clear 4 = .ok (.istore_n 1, 1) := by decide +kernel
theorem dX9_clear_5 : decode cX9_clear 5 = .ok (.aload_n 0, 1) := by decide +kernel
theorem dX9_clear_6 : decode cX9_clear 6 = .ok (.iconst 0, 1) := by decide +kernel
theorem dX9_clear_7 : decode cX9_clear 7 = .ok (.putfield 73, 3) := by decide +kernel
theorem dX9_clear_10 : decode cX9_clear 10 = .ok (.iload_n 1, 1) := by decide +kernel
theorem dX9_clear_11 : decode cX9_clear 11 = .ok (.ireturn, 1) := by decide +kernel
theorem dX9_tells_0 : decode cX9_tells 0 = .ok (.aload_n 0, 1) := by decide +kernel
theorem dX9_tells_1 : decode cX9_tells 1 = .ok (.invokevirtual 130, 3) := by decide +kernel
theorem dX9_tells_4 : decode cX9_tells 4 = .ok (.ifCond .ne 11, 3) := by decide +kernel
theorem dX9_tells_7 : decode cX9_tells 7 = .ok (.bipush (-10), 2) := by decide +kernel
theorem dX9_tells_9 : decode cX9_tells 9 = .ok (.aload_n 0, 1) := by decide +kernel
theorem dX9_tells_10 : decode cX9_tells 10 = .ok (.getfield 76, 3) := by decide +kernel
theorem dX9_tells_13 : decode cX9_tells 13 = .ok (.isub, 1) := by decide +kernel
theorem dX9_tells_14 : decode cX9_tells 14 = .ok (.ireturn, 1) := by decide +kernel
theorem dX9_tells_15 : decode cX9_tells 15 = .ok (.aload_n 0, 1) := by decide +kernel
theorem dX9_tells_16 : decode cX9_tells 16 = .ok (.aload_n 0, 1) := by decide +kernel
theorem dX9_tells_17 : decode cX9_tells 17 = .ok (.getfield 103, 3) := by decide +kernel
theorem dX9_tells_20 : decode cX9_tells 20 = .ok (.putfield 133, 3) := by decide +kernel
theorem dX9_tells_23 : decode cX9_tells 23 = .ok (.iconst 0, 1) := by decide +kernel
theorem dX9_tells_24 : decode cX9_tells 24 = .ok (.istore_n 1, 1) := by decide +kernel
theorem dX9_tells_25 : decode cX9_tells 25 = .ok (.iload_n 1, 1) := by decide +kernel
theorem dX9_tells_26 : decode cX9_tells 26 = .ok (.sipush 283, 3) := by decide +kernel
theorem dX9_tells_29 : decode cX9_tells 29 = .ok (.if_icmp .ge 16, 3) := by decide +kernel
theorem dX9_tells_32 : decode cX9_tells 32 = .ok (.aload_n 0, 1) := by decide +kernel
theorem dX9_tells_33 : decode cX9_tells 33 = .ok (.getfield 7, 3) := by decide +kernel
theorem dX9_tells_36 : decode cX9_tells 36 = .ok (.iload_n 1, 1) := by decide +kernel
theorem dX9_tells_37 : decode cX9_tells 37 = .ok (.iconst 0, 1) := by decide +kernel
theorem dX9_tells_38 : decode cX9_tells 38 = .ok (.iastore, 1) := by decide +kernel
theorem dX9_tells_39 : decode cX9_tells 39 = .ok (.iinc 1 1, 3) := by decide +kernel
theorem dX9_tells_42 : decode cX9_tells 42 = .ok (.goto (-17), 3) := by decide +kernel
theorem dX9_tells_45 : decode cX9_tells 45 = .ok (.iconst 0, 1) := by decide +kernel
theorem dX9_tells_46 : decode cX9_tells 46 = .ok (.istore_n 1, 1) := by decide +kernel
theorem dX9_tells_47 : decode cX9_tells 47 = .ok (.iload_n 1, 1) := by decide +kernel
theorem dX9_tells_48 : decode cX9_tells 48 = .ok (.iconst 4, 1) := by decide +kernel
theorem dX9_tells_49 : decode cX9_tells 49 = .ok (.if_icmp .ge 49, 3) := by decide +kernel
theorem dX9_tells_52 : decode cX9_tells 52 = .ok (.aload_n 0, 1) := by decide +kernel
theorem dX9_tells_53 : decode cX9_tells 53 = .ok (.getfield 26, 3) := by decide +kernel
theorem dX9_tells_56 : decode cX9_tells 56 = .ok (.iload_n 1, 1) := by decide +kernel
theorem dX9_tells_57 : decode cX9_tells 57 = .ok (.aload_n 0, 1) := by decide +kernel
theorem dX9_tells_58 : decode cX9_tells 58 = .ok (.getfield 35, 3) := by decide +kernel
theorem dX9_tells_61 : decode cX9_tells 61 = .ok (.iload_n 1, 1) := by decide +kernel
theorem dX9_tells_62 : decode cX9_tells 62 = .ok (.iaload, 1) := by decide +kernel
theorem dX9_tells_63 : decode cX9_tells 63 = .ok (.iastore, 1) := by decide +kernel
theorem dX9_tells_64 : decode cX9_tells 64 = .ok (.aload_n 0, 1) := by decide +kernel
theorem dX9_tells_65 : decode cX9_tells 65 = .ok (.getfield 29, 3) := by decide +kernel
theorem dX9_tells_68 : decode cX9_tells 68 = .ok (.iload_n 1, 1) := by decide +kernel
theorem dX9_tells_69 : decode cX9_tells 69 = .ok (.aload_n 0, 1) := by decide +kernel
theorem dX9_tells_70 : decode cX9_tells 70 = .ok (.getfield 41, 3) := by decide +kernel
theorem dX9_tells_73 : decode cX9_tells 73 = .ok (.iload_n 1, 1) := by decide +kernel
theorem dX9_tells_74 : decode cX9_tells 74 = .ok (.iaload, 1) := by decide +kernel
theorem dX9_tells_75 : decode cX9_tells 75 = .ok (.iastore, 1) := by decide +kernel
theorem dX9_tells_76 : decode cX9_tells 76 = .ok (.aload_n 0, 1) := by decide +kernel
theorem dX9_tells_77 : decode cX9_tells 77 = .ok (.getfield 7, 3) := by decide +kernel
theorem dX9_tells_80 : decode cX9_tells 80 = .ok (.sipush 216, 3) := by decide +kernel
theorem dX9_tells_83 : decode cX9_tells 83 = .ok (.iload_n 1, 1) := by decide +kernel
theorem dX9_tells_84 : decode cX9_tells 84 = .ok (.iadd, 1) := by decide +kernel
theorem dX9_tells_85 : decode cX9_tells 85 = .ok (.aload_n 0, 1) := by decide +kernel
theorem dX9_tells_86 : decode cX9_tells 86 = .ok (.getfield 38, 3) := by decide +kernel
theorem dX9_tells_89 : decode cX9_tells 89 = .ok (.iload_n 1, 1) := by decide +kernel
theorem dX9_tells_90 : decode cX9_tells 90 = .ok (.iaload, 1) := by decide +kernel
theorem dX9_tells_91 : decode cX9_tells 91 = .ok (.iastore, 1) := by decide +kernel
theorem dX9_tells_92 : decode cX9_tells 92 = .ok (.iinc 1 1, 3) := by decide +kernel
theorem dX9_tells_95 : decode cX9_tells 95 = .ok (.goto (-48), 3) := by decide +kernel
theorem dX9_tells_98 : decode cX9_tells 98 = .ok (.iconst 0, 1) := by decide +kernel
theorem dX9_tells_99 : decode cX9_tells 99 = .ok (.istore_n 1, 1) := by decide +kernel
theorem dX9_tells_100 : decode cX9_tells 100 = .ok (.iload_n 1, 1) := by decide +kernel
theorem dX9_tells_101 : decode cX9_tells 101 = .ok (.bipush 6, 2) := by decide +kernel
theorem dX9_tells_103 : decode cX9_tells 103 = .ok (.if_icmp .ge 21, 3) := by decide +kernel
theorem dX9_tells_106 : decode cX9_tells 106 = .ok (.aload_n 0, 1) := by decide +kernel
theorem dX9_tells_107 : decode cX9_tells 107 = .ok (.getfield 32, 3) := by decide +kernel
theorem dX9_tells_110 : decode cX9_tells 110 = .ok (.iload_n 1, 1) := by decide +kernel
theorem dX9_tells_111 : decode cX9_tells 111 = .ok (.aload_n 0, 1) := by decide +kernel
theorem dX9_tells_112 : decode cX9_tells 112 = .ok (.getfield 44, 3) := by decide +kernel
theorem dX9_tells_115 : decode cX9_tells 115 = .ok (.iload_n 1, 1) := by decide +kernel
theorem dX9_tells_116 : decode cX9_tells 116 = .ok (.iaload, 1) := by decide +kernel
theorem dX9_tells_117 : decode cX9_tells 117 = .ok (.iastore, 1) := by decide +kernel
theorem dX9_tells_118 : decode cX9_tells 118 = .ok (.iinc 1 1, 3) := by decide +kernel
theorem dX9_tells_121 : decode cX9_tells 121 = .ok (.goto (-21), 3) := by decide +kernel
theorem dX9_tells_124 : decode cX9_tells 124 = .ok (.aload_n 0, 1) := by decide +kernel
theorem dX9_tells_125 : decode cX9_tells 125 = .ok (.iconst 0, 1) := by decide +kernel
theorem dX9_tells_126 : decode cX9_tells 126 = .ok (.putfield 73, 3) := by decide +kernel
theorem dX9_tells_129 : decode cX9_tells 129 = .ok (.aload_n 0, 1) := by decide +kernel
theorem dX9_tells_130 : decode cX9_tells 130 = .ok (.iconst 0, 1) := by decide +kernel
theorem dX9_tells_131 : decode cX9_tells 131 = .ok (.putfield 54, 3) := by decide +kernel
theorem dX9_tells_134 : decode cX9_tells 134 = .ok (.aload_n 0, 1) := by decide +kernel
theorem dX9_tells_135 : decode cX9_tells 135 = .ok (.iconst 0, 1) := by decide +kernel
theorem dX9_tells_136 : decode cX9_tells 136 = .ok (.putfield 136, 3) := by decide +kernel
theorem dX9_tells_139 : decode cX9_tells 139 = .ok (.aload_n 0, 1) := by decide +kernel
theorem dX9_tells_140 : decode cX9_tells 140 = .ok (.getfield 13, 3) := by decide +kernel
theorem dX9_tells_143 : decode cX9_tells 143 = .ok (.iconst 0, 1) := by decide +kernel
theorem dX9_tells_144 : decode cX9_tells 144 = .ok (.iconst 0, 1) := by decide +kernel
theorem dX9_tells_145 : decode cX9_tells 145 = .ok (.bastore, 1) := by decide +kernel
theorem dX9_tells_146 : decode cX9_tells 146 = .ok (.aload_n 0, 1) := by decide +kernel
theorem dX9_tells_147 : decode cX9_tells 147 = .ok (.getfield 13, 3) := by decide +kernel
theorem dX9_tells_150 : decode cX9_tells 150 = .ok (.iconst 1, 1) := by decide +kernel
theorem dX9_tells_151 : decode cX9_tells 151 = .ok (.iconst 0, 1) := by decide +kernel
theorem dX9_tells_152 : decode cX9_tells 152 = .ok (.bastore, 1) := by decide +kernel
theorem dX9_tells_153 : decode cX9_tells 153 = .ok (.aload_n 0, 1) := by decide +kernel
theorem dX9_tells_154 : decode cX9_tells 154 = .ok (.getfield 122, 3) := by decide +kernel
theorem dX9_tells_157 : decode cX9_tells 157 = .ok (.ireturn, 1) := by decide +kernel
theorem dX9_isCell_0 : decode cX9_isCell 0 = .ok (.iload_n 1, 1) := by decide +kernel
theorem dX9_isCell_1 : decode cX9_isCell 1 = .ok (.i2l, 1) := by decide +kernel
theorem dX9_isCell_2 : decode cX9_isCell 2 = .ok (.lconst 0, 1) := by decide +kernel
theorem dX9_isCell_3 : decode cX9_isCell 3 = .ok (.aload_n 0, 1) := by decide +kernel
theorem dX9_isCell_4 : decode cX9_isCell 4 = .ok (.getfield 133, 3) := by decide +kernel
theorem dX9_isCell_7 : decode cX9_isCell 7 = .ok (.iconst 1, 1) := by decide +kernel
theorem dX9_isCell_8 : decode cX9_isCell 8 = .ok (.isub, 1) := by decide +kernel
theorem dX9_isCell_9 : decode cX9_isCell 9 = .ok (.i2l, 1) := by decide +kernel
theorem dX9_isCell_10 : decode cX9_isCell 10 = .ok (.invokestatic 66, 3) := by decide +kernel
theorem dX9_isCell_13 : decode cX9_isCell 13 = .ok (.ireturn, 1) := by decide +kernel
theorem dX9_get_0 : decode cX9_get 0 = .ok (.aload_n 0, 1) := by decide +kernel
theorem dX9_get_1 : decode cX9_get 1 = .ok (.getfield 7, 3) := by decide +kernel
theorem dX9_get_4 : decode cX9_get 4 = .ok (.bipush 18, 2) := by decide +kernel
theorem dX9_get_6 : decode cX9_get 6 = .ok (.iload_n 1, 1) := by decide +kernel
theorem dX9_get_7 : decode cX9_get 7 = .ok (.imul, 1) := by decide +kernel
theorem dX9_get_8 : decode cX9_get 8 = .ok (.iload_n 2, 1) := by decide +kernel
theorem dX9_get_9 : decode cX9_get 9 = .ok (.iadd, 1) := by decide +kernel
theorem dX9_get_10 : decode cX9_get 10 = .ok (.iaload, 1) := by decide +kernel
theorem dX9_get_11 : decode cX9_get 11 = .ok (.ireturn, 1) := by decide +kernel
theorem dX9_set_0 : decode cX9_set 0 = .ok (.aload_n 0, 1) := by decide +kernel
theorem dX9_set_1 : decode cX9_set 1 = .ok (.getfield 7, 3) := by decide +kernel
theorem dX9_set_4 : decode cX9_set 4 = .ok (.bipush 18, 2) := by decide +kernel
theorem dX9_set_6 : decode cX9_set 6 = .ok (.iload_n 1, 1) := by decide +kernel
theorem dX9_set_7 : decode cX9_set 7 = .ok (.imul, 1) := by decide +kernel
theorem dX9_set_8 : decode cX9_set 8 = .ok (.iload_n 2, 1) := by decide +kernel
theorem dX9_set_9 : decode cX9_set 9 = .ok (.iadd, 1) := by decide +kernel
theorem dX9_set_10 : decode cX9_set 10 = .ok (.iload_n 3, 1) := by decide +kernel
theorem dX9_set_11 : decode cX9_set 11 = .ok (.iastore, 1) := by decide +kernel
theorem dX9_set_12 : decode cX9_set 12 = .ok (.return_, 1) := by decide +kernel
theorem dX9_isCall_0 : decode cX9_isCall 0 = .ok (.iload_n 1, 1) := by decide +kernel
theorem dX9_isCall_1 : decode cX9_isCall 1 = .ok (.i2l, 1) := by decide +kernel
theorem dX9_isCall_2 : decode cX9_isCall 2 = .ok (.lconst 0, 1) := by decide +kernel
theorem dX9_isCall_3 : decode cX9_isCall 3 = .ok (.ldc2_w 139, 3) := by decide +kernel
theorem dX9_isCall_6 : decode cX9_isCall 6 = .ok (.invokestatic 66, 3) := by decide +kernel
theorem dX9_isCall_9 : decode cX9_isCall 9 = .ok (.ifCond .eq 17, 3) := by decide +kernel
theorem dX9_isCall_12 : decode cX9_isCall 12 = .ok (.aload_n 0, 1) := by decide +kernel
theorem dX9_isCall_13 : decode cX9_isCall 13 = .ok (.iload_n 1, 1) := by decide +kernel
theorem dX9_isCall_14 : decode cX9_isCall 14 = .ok (.iconst 0, 1) := by decide +kernel
theorem dX9_isCall_15 : decode cX9_isCall 15 = .ok (.invokevirtual 141, 3) := by decide +kernel
theorem dX9_isCall_18 : decode cX9_isCall 18 = .ok (.iconst 1, 1) := by decide +kernel
theorem dX9_isCall_19 : decode cX9_isCall 19 = .ok (.if_icmp .ne 7, 3) := by decide +kernel
theorem dX9_isCall_22 : decode cX9_isCall 22 = .ok (.iconst 1, 1) := by decide +kernel
theorem dX9_isCall_23 : decode cX9_isCall 23 = .ok (.goto 4, 3) := by decide +kernel
theorem dX9_isCall_26 : decode cX9_isCall 26 = .ok (.iconst 0, 1) := by decide +kernel
theorem dX9_isCall_27 : decode cX9_isCall 27 = .ok (.ireturn, 1) := by decide +kernel
theorem dX9_calls_0 : decode cX9_calls 0 = .ok (.iconst 0, 1) := by decide +kernel
theorem dX9_calls_1 : decode cX9_calls 1 = .ok (.istore_n 1, 1) := by decide +kernel
theorem dX9_calls_2 : decode cX9_calls 2 = .ok (.iconst 0, 1) := by decide +kernel
theorem dX9_calls_3 : decode cX9_calls 3 = .ok (.istore_n 2, 1) := by decide +kernel
theorem dX9_calls_4 : decode cX9_calls 4 = .ok (.iload_n 2, 1) := by decide +kernel
theorem dX9_calls_5 : decode cX9_calls 5 = .ok (.bipush 12, 2) := by decide +kernel
theorem dX9_calls_7 : decode cX9_calls 7 = .ok (.if_icmp .ge 18, 3) := by decide +kernel
theorem dX9_calls_10 : decode cX9_calls 10 = .ok (.iload_n 1, 1) := by decide +kernel
theorem dX9_calls_11 : decode cX9_calls 11 = .ok (.aload_n 0, 1) := by decide +kernel
theorem dX9_calls_12 : decode cX9_calls 12 = .ok (.iload_n 2, 1) := by decide +kernel
theorem dX9_calls_13 : decode cX9_calls 13 = .ok (.iconst 0, 1) := by decide +kernel
theorem dX9_calls_14 : decode cX9_calls 14 = .ok (.invokevirtual 141, 3) := by decide +kernel
theorem dX9_calls_17 : decode cX9_calls 17 = .ok (.iadd, 1) := by decide +kernel
theorem dX9_calls_18 : decode cX9_calls 18 = .ok (.istore_n 1, 1) := by decide +kernel
theorem dX9_calls_19 : decode cX9_calls 19 = .ok (.iinc 2 1, 3) := by decide +kernel
theorem dX9_calls_22 : decode cX9_calls 22 = .ok (.goto (-18), 3) := by decide +kernel
theorem dX9_calls_25 : decode cX9_calls 25 = .ok (.iload_n 1, 1) := by decide +kernel
theorem dX9_calls_26 : decode cX9_calls 26 = .ok (.ireturn, 1) := by decide +kernel
theorem dX9_busy_0 : decode cX9_busy 0 = .ok (.iconst 0, 1) := by decide +kernel
theorem dX9_busy_1 : decode cX9_busy 1 = .ok (.istore_n 2, 1) := by decide +kernel
theorem dX9_busy_2 : decode cX9_busy 2 = .ok (.iconst 0, 1) := by decide +kernel
theorem dX9_busy_3 : decode cX9_busy 3 = .ok (.istore_n 3, 1) := by decide +kernel
theorem dX9_busy_4 : decode cX9_busy 4 = .ok (.iload_n 3, 1) := by decide +kernel
theorem dX9_busy_5 : decode cX9_busy 5 = .ok (.bipush 12, 2) := by decide +kernel
theorem dX9_busy_7 : decode cX9_busy 7 = .ok (.if_icmp .ge 37, 3) := by decide +kernel
theorem dX9_busy_10 : decode cX9_busy 10 = .ok (.iload_n 2, 1) := by decide +kernel
theorem dX9_busy_11 : decode cX9_busy 11 = .ok (.aload_n 0, 1) := by decide +kernel
theorem dX9_busy_12 : decode cX9_busy 12 = .ok (.iload_n 3, 1) := by decide +kernel
theorem dX9_busy_13 : decode cX9_busy 13 = .ok (.iconst 0, 1) := by decide +kernel
theorem dX9_busy_14 : decode cX9_busy 14 = .ok (.invokevirtual 141, 3) := by decide +kernel
theorem dX9_busy_17 : decode cX9_busy 17 = .ok (.iconst 1, 1) := by decide +kernel
theorem dX9_busy_18 : decode cX9_busy 18 = .ok (.if_icmp .ne 17, 3) := by decide +kernel
theorem dX9_busy_21 : decode cX9_busy 21 = .ok (.aload_n 0, 1) := by decide +kernel
theorem dX9_busy_22 : decode cX9_busy 22 = .ok (.iload_n 3, 1) := by decide +kernel
theorem dX9_busy_23 : decode cX9_busy 23 = .ok (.iconst 1, 1) := by decide +kernel
theorem dX9_busy_24 : decode cX9_busy 24 = .ok (.invokevirtual 141, 3) := by decide +kernel
theorem dX9_busy_27 : decode cX9_busy 27 = .ok (.iload_n 1, 1) := by decide +kernel
theorem dX9_busy_28 : decode cX9_busy 28 = .ok (.if_icmp .ne 7, 3) := by decide +kernel
theorem dX9_busy_31 : decode cX9_busy 31 = .ok (.iconst 1, 1) := by decide +kernel
theorem dX9_busy_32 : decode cX9_busy 32 = .ok (.goto 4, 3) := by decide +kernel
theorem dX9_busy_35 : decode cX9_busy 35 = .ok (.iconst 0, 1) := by decide +kernel
theorem dX9_busy_36 : decode cX9_busy 36 = .ok (.iadd, 1) := by decide +kernel
theorem dX9_busy_37 : decode cX9_busy 37 = .ok (.istore_n 2, 1) := by decide +kernel
theorem dX9_busy_38 : decode cX9_busy 38 = .ok (.iinc 3 1, 3) := by decide +kernel
theorem dX9_busy_41 : decode cX9_busy 41 = .ok (.goto (-37), 3) := by decide +kernel
theorem dX9_busy_44 : decode cX9_busy 44 = .ok (.iload_n 2, 1) := by decide +kernel
theorem dX9_busy_45 : decode cX9_busy 45 = .ok (.ireturn, 1) := by decide +kernel
theorem dX9_waiting_0 : decode cX9_waiting 0 = .ok (.iconst 0, 1) := by decide +kernel
theorem dX9_waiting_1 : decode cX9_waiting 1 = .ok (.istore_n 2, 1) := by decide +kernel
theorem dX9_waiting_2 : decode cX9_waiting 2 = .ok (.iconst 0, 1) := by decide +kernel
theorem dX9_waiting_3 : decode cX9_waiting 3 = .ok (.istore_n 3, 1) := by decide +kernel
theorem dX9_waiting_4 : decode cX9_waiting 4 = .ok (.iload_n 3, 1) := by decide +kernel
theorem dX9_waiting_5 : decode cX9_waiting 5 = .ok (.bipush 12, 2) := by decide +kernel
theorem dX9_waiting_7 : decode cX9_waiting 7 = .ok (.if_icmp .ge 37, 3) := by decide +kernel
theorem dX9_waiting_10 : decode cX9_waiting 10 = .ok (.iload_n 2, 1) := by decide +kernel
theorem dX9_waiting_11 : decode cX9_waiting 11 = .ok (.aload_n 0, 1) := by decide +kernel
theorem dX9_waiting_12 : decode cX9_waiting 12 = .ok (.iload_n 3, 1) := by decide +kernel
theorem dX9_waiting_13 : decode cX9_waiting 13 = .ok (.iconst 0, 1) := by decide +kernel
theorem dX9_waiting_14 : decode cX9_waiting 14 = .ok (.invokevirtual 141, 3) := by decide +kernel
theorem dX9_waiting_17 : decode cX9_waiting 17 = .ok (.iconst 1, 1) := by decide +kernel
theorem dX9_waiting_18 : decode cX9_waiting 18 = .ok (.if_icmp .ne 17, 3) := by decide +kernel
theorem dX9_waiting_21 : decode cX9_waiting 21 = .ok (.aload_n 0, 1) := by decide +kernel
theorem dX9_waiting_22 : decode cX9_waiting 22 = .ok (.iload_n 3, 1) := by decide +kernel
theorem dX9_waiting_23 : decode cX9_waiting 23 = .ok (.iconst 2, 1) := by decide +kernel
theorem dX9_waiting_24 : decode cX9_waiting 24 = .ok (.invokevirtual 141, 3) := by decide +kernel
theorem dX9_waiting_27 : decode cX9_waiting 27 = .ok (.iload_n 1, 1) := by decide +kernel
theorem dX9_waiting_28 : decode cX9_waiting 28 = .ok (.if_icmp .ne 7, 3) := by decide +kernel
theorem dX9_waiting_31 : decode cX9_waiting 31 = .ok (.iconst 1, 1) := by decide +kernel
theorem dX9_waiting_32 : decode cX9_waiting 32 = .ok (.goto 4, 3) := by decide +kernel
theorem dX9_waiting_35 : decode cX9_waiting 35 = .ok (.iconst 0, 1) := by decide +kernel
theorem dX9_waiting_36 : decode cX9_waiting 36 = .ok (.iadd, 1) := by decide +kernel
theorem dX9_waiting_37 : decode cX9_waiting 37 = .ok (.istore_n 2, 1) := by decide +kernel
theorem dX9_waiting_38 : decode cX9_waiting 38 = .ok (.iinc 3 1, 3) := by decide +kernel
theorem dX9_waiting_41 : decode cX9_waiting 41 = .ok (.goto (-37), 3) := by decide +kernel
theorem dX9_waiting_44 : decode cX9_waiting 44 = .ok (.iload_n 2, 1) := by decide +kernel
theorem dX9_waiting_45 : decode cX9_waiting 45 = .ok (.ireturn, 1) := by decide +kernel
theorem dX9_free_0 : decode cX9_free 0 = .ok (.aload_n 0, 1) := by decide +kernel
theorem dX9_free_1 : decode cX9_free 1 = .ok (.getfield 26, 3) := by decide +kernel
theorem dX9_free_4 : decode cX9_free 4 = .ok (.iload_n 1, 1) := by decide +kernel
theorem dX9_free_5 : decode cX9_free 5 = .ok (.iaload, 1) := by decide +kernel
theorem dX9_free_6 : decode cX9_free 6 = .ok (.aload_n 0, 1) := by decide +kernel
theorem dX9_free_7 : decode cX9_free 7 = .ok (.iload_n 1, 1) := by decide +kernel
theorem dX9_free_8 : decode cX9_free 8 = .ok (.invokevirtual 145, 3) := by decide +kernel
theorem dX9_free_11 : decode cX9_free 11 = .ok (.isub, 1) := by decide +kernel
theorem dX9_free_12 : decode cX9_free 12 = .ok (.ireturn, 1) := by decide +kernel
theorem dX9_chanceBy_0 : decode cX9_chanceBy 0 = .ok (.bipush 10, 2) := by decide +kernel
theorem dX9_chanceBy_2 : decode cX9_chanceBy 2 = .ok (.iload_n 0, 1) := by decide +kernel
theorem dX9_chanceBy_3 : decode cX9_chanceBy 3 = .ok (.imul, 1) := by decide +kernel
theorem dX9_chanceBy_4 : decode cX9_chanceBy 4 = .ok (.iload_n 1, 1) := by decide +kernel
theorem dX9_chanceBy_5 : decode cX9_chanceBy 5 = .ok (.isub, 1) := by decide +kernel
theorem dX9_chanceBy_6 : decode cX9_chanceBy 6 = .ok (.istore_n 2, 1) := by decide +kernel
theorem dX9_chanceBy_7 : decode cX9_chanceBy 7 = .ok (.iload_n 2, 1) := by decide +kernel
theorem dX9_chanceBy_8 : decode cX9_chanceBy 8 = .ok (.ifCond .ge 7, 3) := by decide +kernel
theorem dX9_chanceBy_11 : decode cX9_chanceBy 11 = .ok (.iconst 0, 1) := by decide +kernel
theorem dX9_chanceBy_12 : decode cX9_chanceBy 12 = .ok (.goto 9, 3) := by decide +kernel
theorem dX9_chanceBy_15 : decode cX9_chanceBy 15 = .ok (.iload_n 2, 1) := by decide +kernel
theorem dX9_chanceBy_16 : decode cX9_chanceBy 16 = .ok (.bipush 10, 2) := by decide +kernel
theorem dX9_chanceBy_18 : decode cX9_chanceBy 18 = .ok (.invokestatic 148, 3) := by decide +kernel
theorem dX9_chanceBy_21 : decode cX9_chanceBy 21 = .ok (.ireturn, 1) := by decide +kernel
theorem dX9_chance_0 : decode cX9_chance 0 = .ok (.aload_n 0, 1) := by decide +kernel
theorem dX9_chance_1 : decode cX9_chance 1 = .ok (.iload_n 1, 1) := by decide +kernel
theorem dX9_chance_2 : decode cX9_chance 2 = .ok (.invokevirtual 151, 3) := by decide +kernel
theorem dX9_chance_5 : decode cX9_chance 5 = .ok (.aload_n 0, 1) := by decide +kernel
theorem dX9_chance_6 : decode cX9_chance 6 = .ok (.getfield 7, 3) := by decide +kernel
theorem dX9_chance_9 : decode cX9_chance 9 = .ok (.sipush 216, 3) := by decide +kernel
theorem dX9_chance_12 : decode cX9_chance 12 = .ok (.iload_n 1, 1) := by decide +kernel
theorem dX9_chance_13 : decode cX9_chance 13 = .ok (.iadd, 1) := by decide +kernel
theorem dX9_chance_14 : decode cX9_chance 14 = .ok (.iaload, 1) := by decide +kernel
theorem dX9_chance_15 : decode cX9_chance 15 = .ok (.invokestatic 154, 3) := by decide +kernel
theorem dX9_chance_18 : decode cX9_chance 18 = .ok (.ireturn, 1) := by decide +kernel
theorem dX9_counts_0 : decode cX9_counts 0 = .ok (.aload_n 0, 1) := by decide +kernel
theorem dX9_counts_1 : decode cX9_counts 1 = .ok (.getfield 7, 3) := by decide +kernel
theorem dX9_counts_4 : decode cX9_counts 4 = .ok (.sipush 220, 3) := by decide +kernel
theorem dX9_counts_7 : decode cX9_counts 7 = .ok (.bipush 6, 2) := by decide +kernel
theorem dX9_counts_9 : decode cX9_counts 9 = .ok (.iload_n 1, 1) := by decide +kernel
theorem dX9_counts_10 : decode cX9_counts 10 = .ok (.imul, 1) := by decide +kernel
theorem dX9_counts_11 : decode cX9_counts 11 = .ok (.iadd, 1) := by decide +kernel
theorem dX9_counts_12 : decode cX9_counts 12 = .ok (.iload_n 2, 1) := by decide +kernel
theorem dX9_counts_13 : decode cX9_counts 13 = .ok (.iadd, 1) := by decide +kernel
theorem dX9_counts_14 : decode cX9_counts 14 = .ok (.bipush 6, 2) := by decide +kernel
theorem dX9_counts_16 : decode cX9_counts 16 = .ok (.isub, 1) := by decide +kernel
theorem dX9_counts_17 : decode cX9_counts 17 = .ok (.dup2, 1) := by decide +kernel
theorem dX9_counts_18 : decode cX9_counts 18 = .ok (.iaload, 1) := by decide +kernel
theorem dX9_counts_19 : decode cX9_counts 19 = .ok (.iconst 1, 1) := by decide +kernel
theorem dX9_counts_20 : decode cX9_counts 20 = .ok (.iadd, 1) := by decide +kernel
theorem dX9_counts_21 : decode cX9_counts 21 = .ok (.iastore, 1) := by decide +kernel
theorem dX9_counts_22 : decode cX9_counts 22 = .ok (.return_, 1) := by decide +kernel
theorem dX9_draw_0 : decode cX9_draw 0 = .ok (.aload_n 0, 1) := by decide +kernel
theorem dX9_draw_1 : decode cX9_draw 1 = .ok (.getfield 7, 3) := by decide +kernel
theorem dX9_draw_4 : decode cX9_draw 4 = .ok (.sipush 281, 3) := by decide +kernel
theorem dX9_draw_7 : decode cX9_draw 7 = .ok (.aload_n 0, 1) := by decide +kernel
theorem dX9_draw_8 : decode cX9_draw 8 = .ok (.getfield 7, 3) := by decide +kernel
theorem dX9_draw_11 : decode cX9_draw 11 = .ok (.sipush 281, 3) := by decide +kernel
theorem dX9_draw_14 : decode cX9_draw 14 = .ok (.iaload, 1) := by decide +kernel
theorem dX9_draw_15 : decode cX9_draw 15 = .ok (.ldc 157, 2) := by decide +kernel
theorem dX9_draw_17 : decode cX9_draw 17 = .ok (.imul, 1) := by decide +kernel
theorem dX9_draw_18 : decode cX9_draw 18 = .ok (.iconst 1, 1) := by decide +kernel
theorem dX9_draw_19 : decode cX9_draw 19 = .ok (.iadd, 1) := by decide +kernel
theorem dX9_draw_20 : decode cX9_draw 20 = .ok (.iastore, 1) := by decide +kernel
theorem dX9_draw_21 : decode cX9_draw 21 = .ok (.aload_n 0, 1) := by decide +kernel
theorem dX9_draw_22 : decode cX9_draw 22 = .ok (.getfield 7, 3) := by decide +kernel
theorem dX9_draw_25 : decode cX9_draw 25 = .ok (.sipush 281, 3) := by decide +kernel
theorem dX9_draw_28 : decode cX9_draw 28 = .ok (.iaload, 1) := by decide +kernel
theorem dX9_draw_29 : decode cX9_draw 29 = .ok (.bipush 16, 2) := by decide +kernel
theorem dX9_draw_31 : decode cX9_draw 31 = .ok (.iushr, 1) := by decide +kernel
theorem dX9_draw_32 : decode cX9_draw 32 = .ok (.bipush 10, 2) := by decide +kernel
theorem dX9_draw_34 : decode cX9_draw 34 = .ok (.irem, 1) := by decide +kernel
theorem dX9_draw_35 : decode cX9_draw 35 = .ok (.ireturn, 1) := by decide +kernel
theorem dX9_offers_0 : decode cX9_offers 0 = .ok (.aload_n 0, 1) := by decide +kernel
theorem dX9_offers_1 : decode cX9_offers 1 = .ok (.iload_n 1, 1) := by decide +kernel
theorem dX9_offers_2 : decode cX9_offers 2 = .ok (.invokevirtual 158, 3) := by decide +kernel
theorem dX9_offers_5 : decode cX9_offers 5 = .ok (.ifCond .eq 15, 3) := by decide +kernel
theorem dX9_offers_8 : decode cX9_offers 8 = .ok (.iload_n 2, 1) := by decide +kernel
theorem dX9_offers_9 : decode cX9_offers 9 = .ok (.i2l, 1) := by decide +kernel
theorem dX9_offers_10 : decode cX9_offers 10 = .ok (.lconst 0, 1) := by decide +kernel
theorem dX9_offers_11 : decode cX9_offers 11 = .ok (.ldc2_w 161, 3) := by decide +kernel
theorem dX9_offers_14 : decode cX9_offers 14 = .ok (.invokestatic 66, 3) := by decide +kernel
theorem dX9_offers_17 : decode cX9_offers 17 = .ok (.ifCond .ne 5, 3) := by decide +kernel
theorem dX9_offers_20 : decode cX9_offers 20 = .ok (.iconst (-1), 1) := by decide +kernel
theorem dX9_offers_21 : decode cX9_offers 21 = .ok (.ireturn, 1) := by decide +kernel
theorem dX9_offers_22 : decode cX9_offers 22 = .ok (.aload_n 0, 1) := by decide +kernel
theorem dX9_offers_23 : decode cX9_offers 23 = .ok (.invokevirtual 163, 3) := by decide +kernel
theorem dX9_offers_26 : decode cX9_offers 26 = .ok (.bipush 12, 2) := by decide +kernel
theorem dX9_offers_28 : decode cX9_offers 28 = .ok (.if_icmp .ne 6, 3) := by decide +kernel
theorem dX9_offers_31 : decode cX9_offers 31 = .ok (.bipush (-3), 2) := by decide +kernel
theorem dX9_offers_33 : decode cX9_offers 33 = .ok (.ireturn, 1) := by decide +kernel
theorem dX9_offers_34 : decode cX9_offers 34 = .ok (.aload_n 0, 1) := by decide +kernel
theorem dX9_offers_35 : decode cX9_offers 35 = .ok (.invokevirtual 167, 3) := by decide +kernel
theorem dX9_offers_38 : decode cX9_offers 38 = .ok (.aload_n 0, 1) := by decide +kernel
theorem dX9_offers_39 : decode cX9_offers 39 = .ok (.iload_n 1, 1) := by decide +kernel
theorem dX9_offers_40 : decode cX9_offers 40 = .ok (.bipush 6, 2) := by decide +kernel
theorem dX9_offers_42 : decode cX9_offers 42 = .ok (.invokevirtual 170, 3) := by decide +kernel
theorem dX9_offers_45 : decode cX9_offers 45 = .ok (.aload_n 0, 1) := by decide +kernel
theorem dX9_offers_46 : decode cX9_offers 46 = .ok (.iload_n 1, 1) := by decide +kernel
theorem dX9_offers_47 : decode cX9_offers 47 = .ok (.invokevirtual 173, 3) := by decide +kernel
theorem dX9_offers_50 : decode cX9_offers 50 = .ok (.istore_n 3, 1) := by decide +kernel
theorem dX9_offers_51 : decode cX9_offers 51 = .ok (.iload_n 3, 1) := by decide +kernel
theorem dX9_offers_52 : decode cX9_offers 52 = .ok (.ifCond .eq 17, 3) := by decide +kernel
theorem dX9_offers_55 : decode cX9_offers 55 = .ok (.iload_n 3, 1) := by decide +kernel
theorem dX9_offers_56 : decode cX9_offers 56 = .ok (.bipush 10, 2) := by decide +kernel
theorem dX9_offers_58 : decode cX9_offers 58 = .ok (.if_icmp .ge 14, 3) := by decide +kernel
theorem dX9_offers_61 : decode cX9_offers 61 = .ok (.aload_n 0, 1) := by decide +kernel
theorem dX9_offers_62 : decode cX9_offers 62 = .ok (.invokevirtual 176, 3) := by decide +kernel
theorem dX9_offers_65 : decode cX9_offers 65 = .ok (.iload_n 3, 1) := by decide +kernel
theorem dX9_offers_66 : decode cX9_offers 66 = .ok (.if_icmp .lt 6, 3) := by decide +kernel
theorem dX9_offers_69 : decode cX9_offers 69 = .ok (.bipush (-9), 2) := by decide +kernel
theorem dX9_offers_71 : decode cX9_offers 71 = .ok (.ireturn, 1) := by decide +kernel
theorem dX9_offers_72 : decode cX9_offers 72 = .ok (.aload_n 0, 1) := by decide +kernel
theorem dX9_offers_73 : decode cX9_offers 73 = .ok (.iload_n 1, 1) := by decide +kernel
theorem dX9_offers_74 : decode cX9_offers 74 = .ok (.bipush 7, 2) := by decide +kernel
theorem dX9_offers_76 : decode cX9_offers 76 = .ok (.invokevirtual 170, 3) := by decide +kernel
theorem dX9_offers_79 : decode cX9_offers 79 = .ok (.iconst 0, 1) := by decide +kernel
theorem dX9_offers_80 : decode cX9_offers 80 = .ok (.istore 4, 2) := by decide +kernel
theorem dX9_offers_82 : decode cX9_offers 82 = .ok (.aload_n 0, 1) := by decide +kernel
theorem dX9_offers_83 : decode cX9_offers 83 = .ok (.iload 4, 2) := by decide +kernel
theorem dX9_offers_85 : decode cX9_offers 85 = .ok (.iconst 0, 1) := by decide +kernel
theorem dX9_offers_86 : decode cX9_offers 86 = .ok (.invokevirtual 141, 3) := by decide +kernel
theorem dX9_offers_89 : decode cX9_offers 89 = .ok (.iconst 1, 1) := by decide +kernel
theorem dX9_offers_90 : decode cX9_offers 90 = .ok (.if_icmp .ne 9, 3) := by decide +kernel
theorem dX9_offers_93 : decode cX9_offers 93 = .ok (.iinc 4 1, 3) := by decide +kernel
theorem dX9_offers_96 : decode cX9_offers 96 = .ok (.goto (-14), 3) := by decide +kernel
theorem dX9_offers_99 : decode cX9_offers 99 = .ok (.iconst 0, 1) := by decide +kernel
theorem dX9_offers_100 : decode cX9_offers 100 = .ok (.istore 5, 2) := by decide +kernel
theorem dX9_offers_102 : decode cX9_offers 102 = .ok (.iload 5, 2) := by decide +kernel
theorem dX9_offers_104 : decode cX9_offers 104 = .ok (.bipush 18, 2) := by decide +kernel
theorem dX9_offers_106 : decode cX9_offers 106 = .ok (.if_icmp .ge 18, 3) := by decide +kernel
theorem dX9_offers_109 : decode cX9_offers 109 = .ok (.aload_n 0, 1) := by decide +kernel
theorem dX9_offers_110 : decode cX9_offers 110 = .ok (.iload 4, 2) := by decide +kernel
theorem dX9_offers_112 : decode cX9_offers 112 = .ok (.iload 5, 2) := by decide +kernel
theorem dX9_offers_114 : decode cX9_offers 114 = .ok (.iconst 0, 1) := by decide +kernel
theorem dX9_offers_115 : decode cX9_offers 115 = .ok (.invokevirtual 179, 3) := by decide +kernel
theorem dX9_offers_118 : decode cX9_offers 118 = .ok (.iinc 5 1, 3) := by decide +kernel
theorem dX9_offers_121 : decode cX9_offers 121 = .ok (.goto (-19), 3) := by decide +kernel
theorem dX9_offers_124 : decode cX9_offers 124 = .ok (.aload_n 0, 1) := by decide +kernel
theorem dX9_offers_125 : decode cX9_offers 125 = .ok (.iload 4, 2) := by decide +kernel
theorem dX9_offers_127 : decode cX9_offers 127 = .ok (.iconst 0, 1) := by decide +kernel
theorem dX9_offers_128 : decode cX9_offers 128 = .ok (.iconst 1, 1) := by decide +kernel
theorem dX9_offers_129 : decode cX9_offers 129 = .ok (.invokevirtual 179, 3) := by decide +kernel
theorem dX9_offers_132 : decode cX9_offers 132 = .ok (.aload_n 0, 1) := by decide +kernel
theorem dX9_offers_133 : decode cX9_offers 133 = .ok (.iload 4, 2) := by decide +kernel
theorem dX9_offers_135 : decode cX9_offers 135 = .ok (.iconst 1, 1) := by decide +kernel
theorem dX9_offers_136 : decode cX9_offers 136 = .ok (.iload_n 1, 1) := by decide +kernel
theorem dX9_offers_137 : decode cX9_offers 137 = .ok (.invokevirtual 179, 3) := by decide +kernel
theorem dX9_offers_140 : decode cX9_offers 140 = .ok (.aload_n 0, 1) := by decide +kernel
theorem dX9_offers_141 : decode cX9_offers 141 = .ok (.iload 4, 2) := by decide +kernel
theorem dX9_offers_143 : decode cX9_offers 143 = .ok (.iconst 2, 1) := by decide +kernel
theorem dX9_offers_144 : decode cX9_offers 144 = .ok (.bipush (-9), 2) := by decide +kernel
theorem dX9_offers_146 : decode cX9_offers 146 = .ok (.invokevirtual 179, 3) := by decide +kernel
theorem dX9_offers_149 : decode cX9_offers 149 = .ok (.aload_n 0, 1) := by decide +kernel
theorem dX9_offers_150 : decode cX9_offers 150 = .ok (.iload 4, 2) := by decide +kernel
theorem dX9_offers_152 : decode cX9_offers 152 = .ok (.bipush 8, 2) := by decide +kernel
theorem dX9_offers_154 : decode cX9_offers 154 = .ok (.bipush (-9), 2) := by decide +kernel
theorem dX9_offers_156 : decode cX9_offers 156 = .ok (.invokevirtual 179, 3) := by decide +kernel
theorem dX9_offers_159 : decode cX9_offers 159 = .ok (.aload_n 0, 1) := by decide +kernel
theorem dX9_offers_160 : decode cX9_offers 160 = .ok (.iload 4, 2) := by decide +kernel
theorem dX9_offers_162 : decode cX9_offers 162 = .ok (.bipush 10, 2) := by decide +kernel
theorem dX9_offers_164 : decode cX9_offers 164 = .ok (.iload_n 1, 1) := by decide +kernel
theorem dX9_offers_165 : decode cX9_offers 165 = .ok (.iadd, 1) := by decide +kernel
theorem dX9_offers_166 : decode cX9_offers 166 = .ok (.bipush 64, 2) := by decide +kernel
theorem dX9_offers_168 : decode cX9_offers 168 = .ok (.iload_n 2, 1) := by decide +kernel
theorem dX9_offers_169 : decode cX9_offers 169 = .ok (.imul, 1) := by decide +kernel
theorem dX9_offers_170 : decode cX9_offers 170 = .ok (.invokevirtual 179, 3) := by decide +kernel
theorem dX9_offers_173 : decode cX9_offers 173 = .ok (.iload 4, 2) := by decide +kernel
theorem dX9_offers_175 : decode cX9_offers 175 = .ok (.ireturn, 1) := by decide +kernel
theorem dX9_pairs_0 : decode cX9_pairs 0 = .ok (.iconst 0, 1) := by decide +kernel
theorem dX9_pairs_1 : decode cX9_pairs 1 = .ok (.istore_n 3, 1) := by decide +kernel
theorem dX9_pairs_2 : decode cX9_pairs 2 = .ok (.iload_n 3, 1) := by decide +kernel
theorem dX9_pairs_3 : decode cX9_pairs 3 = .ok (.aload_n 0, 1) := by decide +kernel
theorem dX9_pairs_4 : decode cX9_pairs 4 = .ok (.getfield 7, 3) := by decide +kernel
theorem dX9_pairs_7 : decode cX9_pairs 7 = .ok (.sipush 244, 3) := by decide +kernel
theorem dX9_pairs_10 : decode cX9_pairs 10 = .ok (.iaload, 1) := by decide +kernel
theorem dX9_pairs_11 : decode cX9_pairs 11 = .ok (.if_icmp .ge 43, 3) := by decide +kernel
theorem dX9_pairs_14 : decode cX9_pairs 14 = .ok (.aload_n 0, 1) := by decide +kernel
theorem dX9_pairs_15 : decode cX9_pairs 15 = .ok (.getfield 7, 3) := by decide +kernel
theorem dX9_pairs_18 : decode cX9_pairs 18 = .ok (.sipush 245, 3) := by decide +kernel
theorem dX9_pairs_21 : decode cX9_pairs 21 = .ok (.iconst 3, 1) := by decide +kernel
theorem dX9_pairs_22 : decode cX9_pairs 22 = .ok (.iload_n 3, 1) := by decide +kernel
theorem dX9_pairs_23 : decode cX9_pairs 23 = .ok (.imul, 1) := by decide +kernel
theorem dX9_pairs_24 : decode cX9_pairs 24 = .ok (.iadd, 1) := by decide +kernel
theorem dX9_pairs_25 : decode cX9_pairs 25 = .ok (.iaload, 1) := by decide +kernel
theorem dX9_pairs_26 : decode cX9_pairs 26 = .ok (.iload_n 1, 1) := by decide +kernel
theorem dX9_pairs_27 : decode cX9_pairs 27 = .ok (.if_icmp .ne 21, 3) := by decide +kernel
theorem dX9_pairs_30 : decode cX9_pairs 30 = .ok (.aload_n 0, 1) := by decide +kernel
theorem dX9_pairs_31 : decode cX9_pairs 31 = .ok (.getfield 7, 3) := by decide +kernel
theorem dX9_pairs_34 : decode cX9_pairs 34 = .ok (.sipush 245, 3) := by decide +kernel
theorem dX9_pairs_37 : decode cX9_pairs 37 = .ok (.iconst 3, 1) := by decide +kernel
theorem dX9_pairs_38 : decode cX9_pairs 38 = .ok (.iload_n 3, 1) := by decide +kernel
theorem dX9_pairs_39 : decode cX9_pairs 39 = .ok (.imul, 1) := by decide +kernel
theorem dX9_pairs_40 : decode cX9_pairs 40 = .ok (.iadd, 1) := by decide +kernel
theorem dX9_pairs_41 : decode cX9_pairs 41 = .ok (.iconst 1, 1) := by decide +kernel
theorem dX9_pairs_42 : decode cX9_pairs 42 = .ok (.iadd, 1) := by decide +kernel
theorem dX9_pairs_43 : decode cX9_pairs 43 = .ok (.iaload, 1) := by decide +kernel
theorem dX9_pairs_44 : decode cX9_pairs 44 = .ok (.iload_n 2, 1) := by decide +kernel
theorem dX9_pairs_45 : decode cX9_pairs 45 = .ok (.if_icmp .eq 9, 3) := by decide +kernel
theorem dX9_pairs_48 : decode cX9_pairs 48 = .ok (.iinc 3 1, 3) := by decide +kernel
theorem dX9_pairs_51 : decode cX9_pairs 51 = .ok (.goto (-49), 3) := by decide +kernel
theorem dX9_pairs_54 : decode cX9_pairs 54 = .ok (.iload_n 3, 1) := by decide +kernel
theorem dX9_pairs_55 : decode cX9_pairs 55 = .ok (.aload_n 0, 1) := by decide +kernel
theorem dX9_pairs_56 : decode cX9_pairs 56 = .ok (.getfield 7, 3) := by decide +kernel
theorem dX9_pairs_59 : decode cX9_pairs 59 = .ok (.sipush 244, 3) := by decide +kernel
theorem dX9_pairs_62 : decode cX9_pairs 62 = .ok (.iaload, 1) := by decide +kernel
theorem dX9_pairs_63 : decode cX9_pairs 63 = .ok (.if_icmp .ne 58, 3) := by decide +kernel
theorem dX9_pairs_66 : decode cX9_pairs 66 = .ok (.aload_n 0, 1) := by decide +kernel
theorem dX9_pairs_67 : decode cX9_pairs 67 = .ok (.getfield 7, 3) := by decide +kernel
theorem dX9_pairs_70 : decode cX9_pairs 70 = .ok (.sipush 245, 3) := by decide +kernel
theorem dX9_pairs_73 : decode cX9_pairs 73 = .ok (.iconst 3, 1) := by decide +kernel
theorem dX9_pairs_74 : decode cX9_pairs 74 = .ok (.iload_n 3, 1) := by decide +kernel
theorem dX9_pairs_75 : decode cX9_pairs 75 = .ok (.imul, 1) := by decide +kernel
theorem dX9_pairs_76 : decode cX9_pairs 76 = .ok (.iadd, 1) := by decide +kernel
theorem dX9_pairs_77 : decode cX9_pairs 77 = .ok (.iload_n 1, 1) := by decide +kernel
theorem dX9_pairs_78 : decode cX9_pairs 78 = .ok (.iastore, 1) := by decide +kernel
theorem dX9_pairs_79 : decode cX9_pairs 79 = .ok (.aload_n 0, 1) := by decide +kernel
theorem dX9_pairs_80 : decode cX9_pairs 80 = .ok (.getfield 7, 3) := by decide +kernel
theorem dX9_pairs_83 : decode cX9_pairs 83 = .ok (.sipush 245, 3) := by decide +kernel
theorem dX9_pairs_86 : decode cX9_pairs 86 = .ok (.iconst 3, 1) := by decide +kernel
theorem dX9_pairs_87 : decode cX9_pairs 87 = .ok (.iload_n 3, 1) := by decide +kernel
theorem dX9_pairs_88 : decode cX9_pairs 88 = .ok (.imul, 1) := by decide +kernel
theorem dX9_pairs_89 : decode cX9_pairs 89 = .ok (.iadd, 1) := by decide +kernel
theorem dX9_pairs_90 : decode cX9_pairs 90 = .ok (.iconst 1, 1) := by decide +kernel
theorem dX9_pairs_91 : decode cX9_pairs 91 = .ok (.iadd, 1) := by decide +kernel
theorem dX9_pairs_92 : decode cX9_pairs 92 = .ok (.iload_n 2, 1) := by decide +kernel
theorem dX9_pairs_93 : decode cX9_pairs 93 = .ok (.iastore, 1) := by decide +kernel
theorem dX9_pairs_94 : decode cX9_pairs 94 = .ok (.aload_n 0, 1) := by decide +kernel
theorem dX9_pairs_95 : decode cX9_pairs 95 = .ok (.getfield 7, 3) := by decide +kernel
theorem dX9_pairs_98 : decode cX9_pairs 98 = .ok (.sipush 245, 3) := by decide +kernel
theorem dX9_pairs_101 : decode cX9_pairs 101 = .ok (.iconst 3, 1) := by decide +kernel
theorem dX9_pairs_102 : decode cX9_pairs 102 = .ok (.iload_n 3, 1) := by decide +kernel
theorem dX9_pairs_103 : decode cX9_pairs 103 = .ok (.imul, 1) := by decide +kernel
theorem dX9_pairs_104 : decode cX9_pairs 104 = .ok (.iadd, 1) := by decide +kernel
theorem dX9_pairs_105 : decode cX9_pairs 105 = .ok (.iconst 2, 1) := by decide +kernel
theorem dX9_pairs_106 : decode cX9_pairs 106 = .ok (.iadd, 1) := by decide +kernel
theorem dX9_pairs_107 : decode cX9_pairs 107 = .ok (.iconst 0, 1) := by decide +kernel
theorem dX9_pairs_108 : decode cX9_pairs 108 = .ok (.iastore, 1) := by decide +kernel
theorem dX9_pairs_109 : decode cX9_pairs 109 = .ok (.aload_n 0, 1) := by decide +kernel
theorem dX9_pairs_110 : decode cX9_pairs 110 = .ok (.getfield 7, 3) := by decide +kernel
theorem dX9_pairs_113 : decode cX9_pairs 113 = .ok (.sipush 244, 3) := by decide +kernel
theorem dX9_pairs_116 : decode cX9_pairs 116 = .ok (.dup2, 1) := by decide +kernel
theorem dX9_pairs_117 : decode cX9_pairs 117 = .ok (.iaload, 1) := by decide +kernel
theorem dX9_pairs_118 : decode cX9_pairs 118 = .ok (.iconst 1, 1) := by decide +kernel
theorem dX9_pairs_119 : decode cX9_pairs 119 = .ok (.iadd, 1) := by decide +kernel
theorem dX9_pairs_120 : decode cX9_pairs 120 = .ok (.iastore, 1) := by decide +kernel
theorem dX9_pairs_121 : decode cX9_pairs 121 = .ok (.aload_n 0, 1) := by decide +kernel
theorem dX9_pairs_122 : decode cX9_pairs 122 = .ok (.getfield 7, 3) := by decide +kernel
theorem dX9_pairs_125 : decode cX9_pairs 125 = .ok (.sipush 245, 3) := by decide +kernel
theorem dX9_pairs_128 : decode cX9_pairs 128 = .ok (.iconst 3, 1) := by decide +kernel
theorem dX9_pairs_129 : decode cX9_pairs 129 = .ok (.iload_n 3, 1) := by decide +kernel
theorem dX9_pairs_130 : decode cX9_pairs 130 = .ok (.imul, 1) := by decide +kernel
theorem dX9_pairs_131 : decode cX9_pairs 131 = .ok (.iadd, 1) := by decide +kernel
theorem dX9_pairs_132 : decode cX9_pairs 132 = .ok (.iconst 2, 1) := by decide +kernel
theorem dX9_pairs_133 : decode cX9_pairs 133 = .ok (.iadd, 1) := by decide +kernel
theorem dX9_pairs_134 : decode cX9_pairs 134 = .ok (.dup2, 1) := by decide +kernel
theorem dX9_pairs_135 : decode cX9_pairs 135 = .ok (.iaload, 1) := by decide +kernel
theorem dX9_pairs_136 : decode cX9_pairs 136 = .ok (.iconst 1, 1) := by decide +kernel
theorem dX9_pairs_137 : decode cX9_pairs 137 = .ok (.iadd, 1) := by decide +kernel
theorem dX9_pairs_138 : decode cX9_pairs 138 = .ok (.iastore, 1) := by decide +kernel
theorem dX9_pairs_139 : decode cX9_pairs 139 = .ok (.return_, 1) := by decide +kernel
theorem dX9_frees_0 : decode cX9_frees 0 = .ok (.aload_n 0, 1) := by decide +kernel
theorem dX9_frees_1 : decode cX9_frees 1 = .ok (.getfield 47, 3) := by decide +kernel
theorem dX9_frees_4 : decode cX9_frees 4 = .ok (.aload_n 0, 1) := by decide +kernel
theorem dX9_frees_5 : decode cX9_frees 5 = .ok (.getfield 183, 3) := by decide +kernel
theorem dX9_frees_8 : decode cX9_frees 8 = .ok (.iload_n 1, 1) := by decide +kernel
theorem dX9_frees_9 : decode cX9_frees 9 = .ok (.iastore, 1) := by decide +kernel
theorem dX9_frees_10 : decode cX9_frees 10 = .ok (.aload_n 0, 1) := by decide +kernel
theorem dX9_frees_11 : decode cX9_frees 11 = .ok (.dup, 1) := by decide +kernel
theorem dX9_frees_12 : decode cX9_frees 12 = .ok (.getfield 183, 3) := by decide +kernel
theorem dX9_frees_15 : decode cX9_frees 15 = .ok (.iconst 1, 1) := by decide +kernel
theorem dX9_frees_16 : decode cX9_frees 16 = .ok (.iadd, 1) := by decide +kernel
theorem dX9_frees_17 : decode cX9_frees 17 = .ok (.putfield 183, 3) := by decide +kernel
theorem dX9_frees_20 : decode cX9_frees 20 = .ok (.return_, 1) := by decide +kernel
theorem dX9_moves_0 : decode cX9_moves 0 = .ok (.aload_n 0, 1) := by decide +kernel
theorem dX9_moves_1 : decode cX9_moves 1 = .ok (.iload_n 1, 1) := by decide +kernel
theorem dX9_moves_2 : decode cX9_moves 2 = .ok (.iconst 1, 1) := by decide +kernel
theorem dX9_moves_3 : decode cX9_moves 3 = .ok (.invokevirtual 141, 3) := by decide +kernel
theorem dX9_moves_6 : decode cX9_moves 6 = .ok (.istore_n 3, 1) := by decide +kernel
theorem dX9_moves_7 : decode cX9_moves 7 = .ok (.aload_n 0, 1) := by decide +kernel
theorem dX9_moves_8 : decode cX9_moves 8 = .ok (.iload_n 1, 1) := by decide +kernel
theorem dX9_moves_9 : decode cX9_moves 9 = .ok (.bipush 8, 2) := by decide +kernel
theorem dX9_moves_11 : decode cX9_moves 11 = .ok (.invokevirtual 141, 3) := by decide +kernel
theorem dX9_moves_14 : decode cX9_moves 14 = .ok (.iload_n 2, 1) := by decide +kernel
theorem dX9_moves_15 : decode cX9_moves 15 = .ok (.if_icmp .ne 23, 3) := by decide +kernel
theorem dX9_moves_18 : decode cX9_moves 18 = .ok (.aload_n 0, 1) := by decide +kernel
theorem dX9_moves_19 : decode cX9_moves 19 = .ok (.iload_n 1, 1) := by decide +kernel
theorem dX9_moves_20 : decode cX9_moves 20 = .ok (.bipush 9, 2) := by decide +kernel
theorem dX9_moves_22 : decode cX9_moves 22 = .ok (.invokevirtual 141, 3) := by decide +kernel
theorem dX9_moves_25 : decode cX9_moves 25 = .ok (.aload_n 0, 1) := by decide +kernel
theorem dX9_moves_26 : decode cX9_moves 26 = .ok (.getfield 32, 3) := by decide +kernel
theorem dX9_moves_29 : decode cX9_moves 29 = .ok (.iconst 5, 1) := by decide +kernel
theorem dX9_moves_30 : decode cX9_moves 30 = .ok (.iaload, 1) := by decide +kernel
theorem dX9_moves_31 : decode cX9_moves 31 = .ok (.if_icmp .gt 7, 3) := by decide +kernel
theorem dX9_moves_34 : decode cX9_moves 34 = .ok (.iconst 1, 1) := by decide +kernel
theorem dX9_moves_35 : decode cX9_moves 35 = .ok (.goto 4, 3) := by decide +kernel
theorem dX9_moves_38 : decode cX9_moves 38 = .ok (.iconst 0, 1) := by decide +kernel
theorem dX9_moves_39 : decode cX9_moves 39 = .ok (.istore 4, 2) := by decide +kernel
theorem dX9_moves_41 : decode cX9_moves 41 = .ok (.aload_n 0, 1) := by decide +kernel
theorem dX9_moves_42 : decode cX9_moves 42 = .ok (.iload_n 1, 1) := by decide +kernel
theorem dX9_moves_43 : decode cX9_moves 43 = .ok (.bipush 6, 2) := by decide +kernel
theorem dX9_moves_45 : decode cX9_moves 45 = .ok (.aload_n 0, 1) := by decide +kernel
theorem dX9_moves_46 : decode cX9_moves 46 = .ok (.iload_n 1, 1) := by decide +kernel
theorem dX9_moves_47 : decode cX9_moves 47 = .ok (.bipush 6, 2) := by decide +kernel
theorem dX9_moves_49 : decode cX9_moves 49 = .ok (.invokevirtual 141, 3) := by decide +kernel
theorem dX9_moves_52 : decode cX9_moves 52 = .ok (.iload 4, 2) := by decide +kernel
theorem dX9_moves_54 : decode cX9_moves 54 = .ok (.ifCond .eq 7, 3) := by decide +kernel
theorem dX9_moves_57 : decode cX9_moves 57 = .ok (.iconst 1, 1) := by decide +kernel
theorem dX9_moves_58 : decode cX9_moves 58 = .ok (.goto 4, 3) := by decide +kernel
theorem dX9_moves_61 : decode cX9_moves 61 = .ok (.iconst 0, 1) := by decide +kernel
theorem dX9_moves_62 : decode cX9_moves 62 = .ok (.iadd, 1) := by decide +kernel
theorem dX9_moves_63 : decode cX9_moves 63 = .ok (.invokevirtual 179, 3) := by decide +kernel
theorem dX9_moves_66 : decode cX9_moves 66 = .ok (.aload_n 0, 1) := by decide +kernel
theorem dX9_moves_67 : decode cX9_moves 67 = .ok (.iload_n 1, 1) := by decide +kernel
theorem dX9_moves_68 : decode cX9_moves 68 = .ok (.iconst 5, 1) := by decide +kernel
theorem dX9_moves_69 : decode cX9_moves 69 = .ok (.aload_n 0, 1) := by decide +kernel
theorem dX9_moves_70 : decode cX9_moves 70 = .ok (.iload_n 1, 1) := by decide +kernel
theorem dX9_moves_71 : decode cX9_moves 71 = .ok (.iconst 5, 1) := by decide +kernel
theorem dX9_moves_72 : decode cX9_moves 72 = .ok (.invokevirtual 141, 3) := by decide +kernel
theorem dX9_moves_75 : decode cX9_moves 75 = .ok (.iconst 1, 1) := by decide +kernel
theorem dX9_moves_76 : decode cX9_moves 76 = .ok (.iadd, 1) := by decide +kernel
theorem dX9_moves_77 : decode cX9_moves 77 = .ok (.invokevirtual 179, 3) := by decide +kernel
theorem dX9_moves_80 : decode cX9_moves 80 = .ok (.aload_n 0, 1) := by decide +kernel
theorem dX9_moves_81 : decode cX9_moves 81 = .ok (.iload_n 1, 1) := by decide +kernel
theorem dX9_moves_82 : decode cX9_moves 82 = .ok (.bipush 8, 2) := by decide +kernel
theorem dX9_moves_84 : decode cX9_moves 84 = .ok (.iload_n 3, 1) := by decide +kernel
theorem dX9_moves_85 : decode cX9_moves 85 = .ok (.invokevirtual 179, 3) := by decide +kernel
theorem dX9_moves_88 : decode cX9_moves 88 = .ok (.aload_n 0, 1) := by decide +kernel
theorem dX9_moves_89 : decode cX9_moves 89 = .ok (.iload_n 1, 1) := by decide +kernel
theorem dX9_moves_90 : decode cX9_moves 90 = .ok (.bipush 9, 2) := by decide +kernel
theorem dX9_moves_92 : decode cX9_moves 92 = .ok (.iconst 0, 1) := by decide +kernel
theorem dX9_moves_93 : decode cX9_moves 93 = .ok (.invokevirtual 179, 3) := by decide +kernel
theorem dX9_moves_96 : decode cX9_moves 96 = .ok (.aload_n 0, 1) := by decide +kernel
theorem dX9_moves_97 : decode cX9_moves 97 = .ok (.iload_n 1, 1) := by decide +kernel
theorem dX9_moves_98 : decode cX9_moves 98 = .ok (.iconst 1, 1) := by decide +kernel
theorem dX9_moves_99 : decode cX9_moves 99 = .ok (.iload_n 2, 1) := by decide +kernel
theorem dX9_moves_100 : decode cX9_moves 100 = .ok (.invokevirtual 179, 3) := by decide +kernel
theorem dX9_moves_103 : decode cX9_moves 103 = .ok (.aload_n 0, 1) := by decide +kernel
theorem dX9_moves_104 : decode cX9_moves 104 = .ok (.iload_n 1, 1) := by decide +kernel
theorem dX9_moves_105 : decode cX9_moves 105 = .ok (.iconst 2, 1) := by decide +kernel
theorem dX9_moves_106 : decode cX9_moves 106 = .ok (.bipush (-9), 2) := by decide +kernel
theorem dX9_moves_108 : decode cX9_moves 108 = .ok (.invokevirtual 179, 3) := by decide +kernel
theorem dX9_moves_111 : decode cX9_moves 111 = .ok (.aload_n 0, 1) := by decide +kernel
theorem dX9_moves_112 : decode cX9_moves 112 = .ok (.iload_n 1, 1) := by decide +kernel
theorem dX9_moves_113 : decode cX9_moves 113 = .ok (.bipush 7, 2) := by decide +kernel
theorem dX9_moves_115 : decode cX9_moves 115 = .ok (.iconst 0, 1) := by decide +kernel
theorem dX9_moves_116 : decode cX9_moves 116 = .ok (.invokevirtual 179, 3) := by decide +kernel
theorem dX9_moves_119 : decode cX9_moves 119 = .ok (.iconst 0, 1) := by decide +kernel
theorem dX9_moves_120 : decode cX9_moves 120 = .ok (.istore 5, 2) := by decide +kernel
theorem dX9_moves_122 : decode cX9_moves 122 = .ok (.iload 5, 2) := by decide +kernel
theorem dX9_moves_124 : decode cX9_moves 124 = .ok (.iconst 4, 1) := by decide +kernel
theorem dX9_moves_125 : decode cX9_moves 125 = .ok (.if_icmp .ge 20, 3) := by decide +kernel
theorem dX9_moves_128 : decode cX9_moves 128 = .ok (.aload_n 0, 1) := by decide +kernel
theorem dX9_moves_129 : decode cX9_moves 129 = .ok (.iload_n 1, 1) := by decide +kernel
theorem dX9_moves_130 : decode cX9_moves 130 = .ok (.bipush 14, 2) := by decide +kernel
theorem dX9_moves_132 : decode cX9_moves 132 = .ok (.iload 5, 2) := by decide +kernel
theorem dX9_moves_134 : decode cX9_moves 134 = .ok (.iadd, 1) := by decide +kernel
theorem dX9_moves_135 : decode cX9_moves 135 = .ok (.iconst 0, 1) := by decide +kernel
theorem dX9_moves_136 : decode cX9_moves 136 = .ok (.invokevirtual 179, 3) := by decide +kernel
theorem dX9_moves_139 : decode cX9_moves 139 = .ok (.iinc 5 1, 3) := by decide +kernel
theorem dX9_moves_142 : decode cX9_moves 142 = .ok (.goto (-20), 3) := by decide +kernel
theorem dX9_moves_145 : decode cX9_moves 145 = .ok (.aload_n 0, 1) := by decide +kernel
theorem dX9_moves_146 : decode cX9_moves 146 = .ok (.iload_n 2, 1) := by decide +kernel
theorem dX9_moves_147 : decode cX9_moves 147 = .ok (.bipush 10, 2) := by decide +kernel
theorem dX9_moves_149 : decode cX9_moves 149 = .ok (.invokevirtual 170, 3) := by decide +kernel
theorem dX9_moves_152 : decode cX9_moves 152 = .ok (.aload_n 0, 1) := by decide +kernel
theorem dX9_moves_153 : decode cX9_moves 153 = .ok (.iload_n 3, 1) := by decide +kernel
theorem dX9_moves_154 : decode cX9_moves 154 = .ok (.iload_n 2, 1) := by decide +kernel
theorem dX9_moves_155 : decode cX9_moves 155 = .ok (.invokevirtual 186, 3) := by decide +kernel
theorem dX9_moves_158 : decode cX9_moves 158 = .ok (.aload_n 0, 1) := by decide +kernel
theorem dX9_moves_159 : decode cX9_moves 159 = .ok (.dup, 1) := by decide +kernel
theorem dX9_moves_160 : decode cX9_moves 160 = .ok (.getfield 189, 3) := by decide +kernel
theorem dX9_moves_163 : decode cX9_moves 163 = .ok (.iconst 1, 1) := by decide +kernel
theorem dX9_moves_164 : decode cX9_moves 164 = .ok (.iadd, 1) := by decide +kernel
theorem dX9_moves_165 : decode cX9_moves 165 = .ok (.putfield 189, 3) := by decide +kernel
theorem dX9_moves_168 : decode cX9_moves 168 = .ok (.aload_n 0, 1) := by decide +kernel
theorem dX9_moves_169 : decode cX9_moves 169 = .ok (.iload_n 3, 1) := by decide +kernel
theorem dX9_moves_170 : decode cX9_moves 170 = .ok (.invokevirtual 192, 3) := by decide +kernel
theorem dX9_moves_173 : decode cX9_moves 173 = .ok (.return_, 1) := by decide +kernel
theorem dX9_isAhead_0 : decode cX9_isAhead 0 = .ok (.aload_n 0, 1) := by decide +kernel
theorem dX9_isAhead_1 : decode cX9_isAhead 1 = .ok (.iload_n 1, 1) := by decide +kernel
theorem dX9_isAhead_2 : decode cX9_isAhead 2 = .ok (.bipush 7, 2) := by decide +kernel
theorem dX9_isAhead_4 : decode cX9_isAhead 4 = .ok (.invokevirtual 141, 3) := by decide +kernel
theorem dX9_isAhead_7 : decode cX9_isAhead 7 = .ok (.istore_n 3, 1) := by decide +kernel
theorem dX9_isAhead_8 : decode cX9_isAhead 8 = .ok (.aload_n 0, 1) := by decide +kernel
theorem dX9_isAhead_9 : decode cX9_isAhead 9 = .ok (.iload_n 2, 1) := by decide +kernel
theorem dX9_isAhead_10 : decode cX9_isAhead 10 = .ok (.bipush 7, 2) := by decide +kernel
theorem dX9_isAhead_12 : decode cX9_isAhead 12 = .ok (.invokevirtual 141, 3) := by decide +kernel
theorem dX9_isAhead_15 : decode cX9_isAhead 15 = .ok (.istore 4, 2) := by decide +kernel
theorem dX9_isAhead_17 : decode cX9_isAhead 17 = .ok (.aload_n 0, 1) := by decide +kernel
theorem dX9_isAhead_18 : decode cX9_isAhead 18 = .ok (.iload_n 1, 1) := by decide +kernel
theorem dX9_isAhead_19 : decode cX9_isAhead 19 = .ok (.iconst 3, 1) := by decide +kernel
theorem dX9_isAhead_20 : decode cX9_isAhead 20 = .ok (.invokevirtual 141, 3) := by decide +kernel
theorem dX9_isAhead_23 : decode cX9_isAhead 23 = .ok (.aload_n 0, 1) := by decide +kernel
theorem dX9_isAhead_24 : decode cX9_isAhead 24 = .ok (.iload_n 2, 1) := by decide +kernel
theorem dX9_isAhead_25 : decode cX9_isAhead 25 = .ok (.iconst 3, 1) := by decide +kernel
theorem dX9_isAhead_26 : decode cX9_isAhead 26 = .ok (.invokevirtual 141, 3) := by decide +kernel
theorem dX9_isAhead_29 : decode cX9_isAhead 29 = .ok (.if_icmp .ge 7, 3) := by decide +kernel
theorem dX9_isAhead_32 : decode cX9_isAhead 32 = .ok (.iconst 1, 1) := by decide +kernel
theorem dX9_isAhead_33 : decode cX9_isAhead 33 = .ok (.goto 4, 3) := by decide +kernel
theorem dX9_isAhead_36 : decode cX9_isAhead 36 = .ok (.iconst 0, 1) := by decide +kernel
theorem dX9_isAhead_37 : decode cX9_isAhead 37 = .ok (.istore 5, 2) := by decide +kernel
theorem dX9_isAhead_39 : decode cX9_isAhead 39 = .ok (.iload_n 3, 1) := by decide +kernel
theorem dX9_isAhead_40 : decode cX9_isAhead 40 = .ok (.ifCond .le 8, 3) := by decide +kernel
theorem dX9_isAhead_43 : decode cX9_isAhead 43 = .ok (.iload 4, 2) := by decide +kernel
theorem dX9_isAhead_45 : decode cX9_isAhead 45 = .ok (.ifCond .gt 23, 3) := by decide +kernel
theorem dX9_isAhead_48 : decode cX9_isAhead 48 = .ok (.iload_n 3, 1) := by decide +kernel
theorem dX9_isAhead_49 : decode cX9_isAhead 49 = .ok (.ifCond .gt 13, 3) := by decide +kernel
theorem dX9_isAhead_52 : decode cX9_isAhead 52 = .ok (.iload 4, 2) := by decide +kernel
theorem dX9_isAhead_54 : decode cX9_isAhead 54 = .ok (.ifCond .gt 12, 3) := by decide +kernel
theorem dX9_isAhead_57 : decode cX9_isAhead 57 = .ok (.iload 5, 2) := by decide +kernel
theorem dX9_isAhead_59 : decode cX9_isAhead 59 = .ok (.ifCond .eq 7, 3) := by decide +kernel
theorem dX9_isAhead_62 : decode cX9_isAhead 62 = .ok (.iconst 1, 1) := by decide +kernel
theorem dX9_isAhead_63 : decode cX9_isAhead 63 = .ok (.goto 4, 3) := by decide +kernel
theorem dX9_isAhead_66 : decode cX9_isAhead 66 = .ok (.iconst 0, 1) := by decide +kernel
theorem dX9_isAhead_67 : decode cX9_isAhead 67 = .ok (.ireturn, 1) := by decide +kernel
theorem dX9_isAhead_68 : decode cX9_isAhead 68 = .ok (.aload_n 0, 1) := by decide +kernel
theorem dX9_isAhead_69 : decode cX9_isAhead 69 = .ok (.iload_n 1, 1) := by decide +kernel
theorem dX9_isAhead_70 : decode cX9_isAhead 70 = .ok (.bipush 10, 2) := by decide +kernel
theorem dX9_isAhead_72 : decode cX9_isAhead 72 = .ok (.aload_n 0, 1) := by decide +kernel
theorem dX9_isAhead_73 : decode cX9_isAhead 73 = .ok (.iload_n 1, 1) := by decide +kernel
theorem dX9_isAhead_74 : decode cX9_isAhead 74 = .ok (.iconst 1, 1) := by decide +kernel
theorem dX9_isAhead_75 : decode cX9_isAhead 75 = .ok (.invokevirtual 141, 3) := by decide +kernel
theorem dX9_isAhead_78 : decode cX9_isAhead 78 = .ok (.iadd, 1) := by decide +kernel
theorem dX9_isAhead_79 : decode cX9_isAhead 79 = .ok (.invokevirtual 141, 3) := by decide +kernel
theorem dX9_isAhead_82 : decode cX9_isAhead 82 = .ok (.bipush 64, 2) := by decide +kernel
theorem dX9_isAhead_84 : decode cX9_isAhead 84 = .ok (.aload_n 0, 1) := by decide +kernel
theorem dX9_isAhead_85 : decode cX9_isAhead 85 = .ok (.getfield 32, 3) := by decide +kernel
theorem dX9_isAhead_88 : decode cX9_isAhead 88 = .ok (.iconst 4, 1) := by decide +kernel
theorem dX9_isAhead_89 : decode cX9_isAhead 89 = .ok (.iaload, 1) := by decide +kernel
theorem dX9_isAhead_90 : decode cX9_isAhead 90 = .ok (.imul, 1) := by decide +kernel
theorem dX9_isAhead_91 : decode cX9_isAhead 91 = .ok (.isub, 1) := by decide +kernel
theorem dX9_isAhead_92 : decode cX9_isAhead 92 = .ok (.i2l, 1) := by decide +kernel
theorem dX9_isAhead_93 : decode cX9_isAhead 93 = .ok (.iload 4, 2) := by decide +kernel
theorem dX9_isAhead_95 : decode cX9_isAhead 95 = .ok (.i2l, 1) := by decide +kernel
theorem dX9_isAhead_96 : decode cX9_isAhead 96 = .ok (.lmul, 1) := by decide +kernel
theorem dX9_isAhead_97 : decode cX9_isAhead 97 = .ok (.lstore 6, 2) := by decide +kernel
theorem dX9_isAhead_99 : decode cX9_isAhead 99 = .ok (.aload_n 0, 1) := by decide +kernel
theorem dX9_isAhead_100 : decode cX9_isAhead 100 = .ok (.iload_n 2, 1) := by decide +kernel
theorem dX9_isAhead_101 : decode cX9_isAhead 101 = .ok (.bipush 10, 2) := by decide +kernel
theorem dX9_isAhead_103 : decode cX9_isAhead 103 = .ok (.aload_n 0, 1) := by decide +kernel
theorem dX9_isAhead_104 : decode cX9_isAhead 104 = .ok (.iload_n 2, 1) := by decide +kernel
theorem dX9_isAhead_105 : decode cX9_isAhead 105 = .ok (.iconst 1, 1) := by decide +kernel
theorem dX9_isAhead_106 : decode cX9_isAhead 106 = .ok (.invokevirtual 141, 3) := by decide +kernel
theorem dX9_isAhead_109 : decode cX9_isAhead 109 = .ok (.iadd, 1) := by decide +kernel
theorem dX9_isAhead_110 : decode cX9_isAhead 110 = .ok (.invokevirtual 141, 3) := by decide +kernel
theorem dX9_isAhead_113 : decode cX9_isAhead 113 = .ok (.bipush 64, 2) := by decide +kernel
theorem dX9_isAhead_115 : decode cX9_isAhead 115 = .ok (.aload_n 0, 1) := by decide +kernel
theorem dX9_isAhead_116 : decode cX9_isAhead 116 = .ok (.getfield 32, 3) := by decide +kernel
theorem dX9_isAhead_119 : decode cX9_isAhead 119 = .ok (.iconst 4, 1) := by decide +kernel
theorem dX9_isAhead_120 : decode cX9_isAhead 120 = .ok (.iaload, 1) := by decide +kernel
theorem dX9_isAhead_121 : decode cX9_isAhead 121 = .ok (.imul, 1) := by decide +kernel
theorem dX9_isAhead_122 : decode cX9_isAhead 122 = .ok (.isub, 1) := by decide +kernel
theorem dX9_isAhead_123 : decode cX9_isAhead 123 = .ok (.i2l, 1) := by decide +kernel
theorem dX9_isAhead_124 : decode cX9_isAhead 124 = .ok (.iload_n 3, 1) := by decide +kernel
theorem dX9_isAhead_125 : decode cX9_isAhead 125 = .ok (.i2l, 1) := by decide +kernel
theorem dX9_isAhead_126 : decode cX9_isAhead 126 = .ok (.lmul, 1) := by decide +kernel
theorem dX9_isAhead_127 : decode cX9_isAhead 127 = .ok (.lstore 8, 2) := by decide +kernel
theorem dX9_isAhead_129 : decode cX9_isAhead 129 = .ok (.lload 6, 2) := by decide +kernel
theorem dX9_isAhead_131 : decode cX9_isAhead 131 = .ok (.lload 8, 2) := by decide +kernel
theorem dX9_isAhead_133 : decode cX9_isAhead 133 = .ok (.lcmp, 1) := by decide +kernel
theorem dX9_isAhead_134 : decode cX9_isAhead 134 = .ok (.ifCond .lt 16, 3) := by decide +kernel
theorem dX9_isAhead_137 : decode cX9_isAhead 137 = .ok (.lload 6, 2) := by decide +kernel
theorem dX9_isAhead_139 : decode cX9_isAhead 139 = .ok (.lload 8, 2) := by decide +kernel
theorem dX9_isAhead_141 : decode cX9_isAhead 141 = .ok (.lcmp, 1) := by decide +kernel
theorem dX9_isAhead_142 : decode cX9_isAhead 142 = .ok (.ifCond .ne 12, 3) := by decide +kernel
theorem dX9_isAhead_145 : decode cX9_isAhead 145 = .ok (.iload 5, 2) := by decide +kernel
theorem dX9_isAhead_147 : decode cX9_isAhead 147 = .ok (.ifCond .eq 7, 3) := by decide +kernel
theorem dX9_isAhead_150 : decode cX9_isAhead 150 = .ok (.iconst 1, 1) := by decide +kernel
theorem dX9_isAhead_151 : decode cX9_isAhead 151 = .ok (.goto 4, 3) := by decide +kernel
theorem dX9_isAhead_154 : decode cX9_isAhead 154 = .ok (.iconst 0, 1) := by decide +kernel
theorem dX9_isAhead_155 : decode cX9_isAhead 155 = .ok (.ireturn, 1) := by decide +kernel
end
section
theorem dX9_queuedAt_0 : decode cX9_queuedAt 0 = .ok (.iconst 0, 1) := by decide +kernel
theorem dX9_queuedAt_1 : decode cX9_queuedAt 1 = .ok (.istore_n 3, 1) := by decide +kernel
theorem dX9_queuedAt_2 : decode cX9_queuedAt 2 = .ok (.iload_n 3, 1) := by decide +kernel
theorem dX9_queuedAt_3 : decode cX9_queuedAt 3 = .ok (.bipush 12, 2) := by decide +kernel
theorem dX9_queuedAt_5 : decode cX9_queuedAt 5 = .ok (.if_icmp .ge 116, 3) := by decide +kernel
theorem dX9_queuedAt_8 : decode cX9_queuedAt 8 = .ok (.aload_n 0, 1) := by decide +kernel
theorem dX9_queuedAt_9 : decode cX9_queuedAt 9 = .ok (.iload_n 3, 1) := by decide +kernel
theorem dX9_queuedAt_10 : decode cX9_queuedAt 10 = .ok (.iconst 0, 1) := by decide +kernel
theorem dX9_queuedAt_11 : decode cX9_queuedAt 11 = .ok (.invokevirtual 141, 3) := by decide +kernel
theorem dX9_queuedAt_14 : decode cX9_queuedAt 14 = .ok (.iconst 1, 1) := by decide +kernel
theorem dX9_queuedAt_15 : decode cX9_queuedAt 15 = .ok (.if_icmp .ne 100, 3) := by decide +kernel
theorem dX9_queuedAt_18 : decode cX9_queuedAt 18 = .ok (.aload_n 0, 1) := by decide +kernel
theorem dX9_queuedAt_19 : decode cX9_queuedAt 19 = .ok (.iload_n 3, 1) := by decide +kernel
theorem dX9_queuedAt_20 : decode cX9_queuedAt 20 = .ok (.iconst 2, 1) := by decide +kernel
theorem dX9_queuedAt_21 : decode cX9_queuedAt 21 = .ok (.invokevirtual 141, 3) := by decide +kernel
theorem dX9_queuedAt_24 : decode cX9_queuedAt 24 = .ok (.iload_n 1, 1) := by decide +kernel
theorem dX9_queuedAt_25 : decode cX9_queuedAt 25 = .ok (.if_icmp .ne 90, 3) := by decide +kernel
theorem dX9_queuedAt_28 : decode cX9_queuedAt 28 = .ok (.iconst 0, 1) := by decide +kernel
theorem dX9_queuedAt_29 : decode cX9_queuedAt 29 = .ok (.istore 4, 2) := by decide +kernel
theorem dX9_queuedAt_31 : decode cX9_queuedAt 31 = .ok (.iconst 0, 1) := by decide +kernel
theorem dX9_queuedAt_32 : decode cX9_queuedAt 32 = .ok (.istore 5, 2) := by decide +kernel
theorem dX9_queuedAt_34 : decode cX9_queuedAt 34 = .ok (.iload 5, 2) := by decide +kernel
theorem dX9_queuedAt_36 : decode cX9_queuedAt 36 = .ok (.bipush 12, 2) := by decide +kernel
theorem dX9_queuedAt_38 : decode cX9_queuedAt 38 = .ok (.if_icmp .ge 69, 3) := by decide +kernel
theorem dX9_queuedAt_41 : decode cX9_queuedAt 41 = .ok (.iload 5, 2) := by decide +kernel
theorem dX9_queuedAt_43 : decode cX9_queuedAt 43 = .ok (.iload_n 3, 1) := by decide +kernel
theorem dX9_queuedAt_44 : decode cX9_queuedAt 44 = .ok (.if_icmp .eq 29, 3) := by decide +kernel
theorem dX9_queuedAt_47 : decode cX9_queuedAt 47 = .ok (.aload_n 0, 1) := by decide +kernel
theorem dX9_queuedAt_48 : decode cX9_queuedAt 48 = .ok (.iload 5, 2) := by decide +kernel
theorem dX9_queuedAt_50 : decode cX9_queuedAt 50 = .ok (.iconst 0, 1) := by decide +kernel
theorem dX9_queuedAt_51 : decode cX9_queuedAt 51 = .ok (.invokevirtual 141, 3) := by decide +kernel
theorem dX9_queuedAt_54 : decode cX9_queuedAt 54 = .ok (.iconst 1, 1) := by decide +kernel
theorem dX9_queuedAt_55 : decode cX9_queuedAt 55 = .ok (.if_icmp .ne 18, 3) := by decide +kernel
theorem dX9_queuedAt_58 : decode cX9_queuedAt 58 = .ok (.aload_n 0, 1) := by decide +kernel
theorem dX9_queuedAt_59 : decode cX9_queuedAt 59 = .ok (.iload 5, 2) := by decide +kernel
theorem dX9_queuedAt_61 : decode cX9_queuedAt 61 = .ok (.iconst 2, 1) := by decide +kernel
theorem dX9_queuedAt_62 : decode cX9_queuedAt 62 = .ok (.invokevirtual 141, 3) := by decide +kernel
theorem dX9_queuedAt_65 : decode cX9_queuedAt 65 = .ok (.iload_n 1, 1) := by decide +kernel
theorem dX9_queuedAt_66 : decode cX9_queuedAt 66 = .ok (.if_icmp .ne 7, 3) := by decide +kernel
theorem dX9_queuedAt_69 : decode cX9_queuedAt 69 = .ok (.iconst 1, 1) := by decide +kernel
theorem dX9_queuedAt_70 : decode cX9_queuedAt 70 = .ok (.goto 4, 3) := by decide +kernel
theorem dX9_queuedAt_73 : decode cX9_queuedAt 73 = .ok (.iconst 0, 1) := by decide +kernel
theorem dX9_queuedAt_74 : decode cX9_queuedAt 74 = .ok (.istore 6, 2) := by decide +kernel
theorem dX9_queuedAt_76 : decode cX9_queuedAt 76 = .ok (.iload 4, 2) := by decide +kernel
theorem dX9_queuedAt_78 : decode cX9_queuedAt 78 = .ok (.iload 6, 2) := by decide +kernel
theorem dX9_queuedAt_80 : decode cX9_queuedAt 80 = .ok (.ifCond .eq 17, 3) := by decide +kernel
theorem dX9_queuedAt_83 : decode cX9_queuedAt 83 = .ok (.aload_n 0, 1) := by decide +kernel
theorem dX9_queuedAt_84 : decode cX9_queuedAt 84 = .ok (.iload 5, 2) := by decide +kernel
theorem dX9_queuedAt_86 : decode cX9_queuedAt 86 = .ok (.iload_n 3, 1) := by decide +kernel
theorem dX9_queuedAt_87 : decode cX9_queuedAt 87 = .ok (.invokevirtual 196, 3) := by decide +kernel
theorem dX9_queuedAt_90 : decode cX9_queuedAt 90 = .ok (.ifCond .eq 7, 3) := by decide +kernel
theorem dX9_queuedAt_93 : decode cX9_queuedAt 93 = .ok (.iconst 1, 1) := by decide +kernel
theorem dX9_queuedAt_94 : decode cX9_queuedAt 94 = .ok (.goto 4, 3) := by decide +kernel
theorem dX9_queuedAt_97 : decode cX9_queuedAt 97 = .ok (.iconst 0, 1) := by decide +kernel
theorem dX9_queuedAt_98 : decode cX9_queuedAt 98 = .ok (.iadd, 1) := by decide +kernel
theorem dX9_queuedAt_99 : decode cX9_queuedAt 99 = .ok (.istore 4, 2) := by decide +kernel
theorem dX9_queuedAt_101 : decode cX9_queuedAt 101 = .ok (.iinc 5 1, 3) := by decide +kernel
theorem dX9_queuedAt_104 : decode cX9_queuedAt 104 = .ok (.goto (-70), 3) := by decide +kernel
theorem dX9_queuedAt_107 : decode cX9_queuedAt 107 = .ok (.iload 4, 2) := by decide +kernel
theorem dX9_queuedAt_109 : decode cX9_queuedAt 109 = .ok (.iload_n 2, 1) := by decide +kernel
theorem dX9_queuedAt_110 : decode cX9_queuedAt 110 = .ok (.if_icmp .ne 5, 3) := by decide +kernel
theorem dX9_queuedAt_113 : decode cX9_queuedAt 113 = .ok (.iload_n 3, 1) := by decide +kernel
theorem dX9_queuedAt_114 : decode cX9_queuedAt 114 = .ok (.ireturn, 1) := by decide +kernel
theorem dX9_queuedAt_115 : decode cX9_queuedAt 115 = .ok (.iinc 3 1, 3) := by decide +kernel
theorem dX9_queuedAt_118 : decode cX9_queuedAt 118 = .ok (.goto (-116), 3) := by decide +kernel
theorem dX9_queuedAt_121 : decode cX9_queuedAt 121 = .ok (.bipush (-9), 2) := by decide +kernel
theorem dX9_queuedAt_123 : decode cX9_queuedAt 123 = .ok (.ireturn, 1) := by decide +kernel
theorem dX9_serves_0 : decode cX9_serves 0 = .ok (.iconst 0, 1) := by decide +kernel
theorem dX9_serves_1 : decode cX9_serves 1 = .ok (.istore_n 1, 1) := by decide +kernel
theorem dX9_serves_2 : decode cX9_serves 2 = .ok (.iload_n 1, 1) := by decide +kernel
theorem dX9_serves_3 : decode cX9_serves 3 = .ok (.aload_n 0, 1) := by decide +kernel
theorem dX9_serves_4 : decode cX9_serves 4 = .ok (.getfield 183, 3) := by decide +kernel
theorem dX9_serves_7 : decode cX9_serves 7 = .ok (.if_icmp .ge 53, 3) := by decide +kernel
theorem dX9_serves_10 : decode cX9_serves 10 = .ok (.aload_n 0, 1) := by decide +kernel
theorem dX9_serves_11 : decode cX9_serves 11 = .ok (.getfield 47, 3) := by decide +kernel
theorem dX9_serves_14 : decode cX9_serves 14 = .ok (.iload_n 1, 1) := by decide +kernel
theorem dX9_serves_15 : decode cX9_serves 15 = .ok (.iaload, 1) := by decide +kernel
theorem dX9_serves_16 : decode cX9_serves 16 = .ok (.istore_n 2, 1) := by decide +kernel
theorem dX9_serves_17 : decode cX9_serves 17 = .ok (.aload_n 0, 1) := by decide +kernel
theorem dX9_serves_18 : decode cX9_serves 18 = .ok (.iload_n 2, 1) := by decide +kernel
theorem dX9_serves_19 : decode cX9_serves 19 = .ok (.iconst 0, 1) := by decide +kernel
theorem dX9_serves_20 : decode cX9_serves 20 = .ok (.invokevirtual 199, 3) := by decide +kernel
theorem dX9_serves_23 : decode cX9_serves 23 = .ok (.istore_n 3, 1) := by decide +kernel
theorem dX9_serves_24 : decode cX9_serves 24 = .ok (.aload_n 0, 1) := by decide +kernel
theorem dX9_serves_25 : decode cX9_serves 25 = .ok (.iload_n 2, 1) := by decide +kernel
theorem dX9_serves_26 : decode cX9_serves 26 = .ok (.invokevirtual 151, 3) := by decide +kernel
theorem dX9_serves_29 : decode cX9_serves 29 = .ok (.ifCond .le 25, 3) := by decide +kernel
theorem dX9_serves_32 : decode cX9_serves 32 = .ok (.iload_n 3, 1) := by decide +kernel
theorem dX9_serves_33 : decode cX9_serves 33 = .ok (.bipush (-9), 2) := by decide +kernel
theorem dX9_serves_35 : decode cX9_serves 35 = .ok (.if_icmp .eq 19, 3) := by decide +kernel
theorem dX9_serves_38 : decode cX9_serves 38 = .ok (.aload_n 0, 1) := by decide +kernel
theorem dX9_serves_39 : decode cX9_serves 39 = .ok (.iload_n 3, 1) := by decide +kernel
theorem dX9_serves_40 : decode cX9_serves 40 = .ok (.iload_n 2, 1) := by decide +kernel
theorem dX9_serves_41 : decode cX9_serves 41 = .ok (.invokevirtual 202, 3) := by decide +kernel
theorem dX9_serves_44 : decode cX9_serves 44 = .ok (.aload_n 0, 1) := by decide +kernel
theorem dX9_serves_45 : decode cX9_serves 45 = .ok (.iload_n 2, 1) := by decide +kernel
theorem dX9_serves_46 : decode cX9_serves 46 = .ok (.iconst 0, 1) := by decide +kernel
theorem dX9_serves_47 : decode cX9_serves 47 = .ok (.invokevirtual 199, 3) := by decide +kernel
theorem dX9_serves_50 : decode cX9_serves 50 = .ok (.istore_n 3, 1) := by decide +kernel
theorem dX9_serves_51 : decode cX9_serves 51 = .ok (.goto (-27), 3) := by decide +kernel
theorem dX9_serves_54 : decode cX9_serves 54 = .ok (.iinc 1 1, 3) := by decide +kernel
theorem dX9_serves_57 : decode cX9_serves 57 = .ok (.goto (-55), 3) := by decide +kernel
theorem dX9_serves_60 : decode cX9_serves 60 = .ok (.aload_n 0, 1) := by decide +kernel
theorem dX9_serves_61 : decode cX9_serves 61 = .ok (.iconst 0, 1) := by decide +kernel
theorem dX9_serves_62 : decode cX9_serves 62 = .ok (.putfield 183, 3) := by decide +kernel
theorem dX9_serves_65 : decode cX9_serves 65 = .ok (.return_, 1) := by decide +kernel
theorem dX9_target_0 : decode cX9_target 0 = .ok (.bipush (-9), 2) := by decide +kernel
theorem dX9_target_2 : decode cX9_target 2 = .ok (.istore_n 2, 1) := by decide +kernel
theorem dX9_target_3 : decode cX9_target 3 = .ok (.iconst 0, 1) := by decide +kernel
theorem dX9_target_4 : decode cX9_target 4 = .ok (.istore_n 3, 1) := by decide +kernel
theorem dX9_target_5 : decode cX9_target 5 = .ok (.iload_n 3, 1) := by decide +kernel
theorem dX9_target_6 : decode cX9_target 6 = .ok (.aload_n 0, 1) := by decide +kernel
theorem dX9_target_7 : decode cX9_target 7 = .ok (.getfield 133, 3) := by decide +kernel
theorem dX9_target_10 : decode cX9_target 10 = .ok (.if_icmp .ge 82, 3) := by decide +kernel
theorem dX9_target_13 : decode cX9_target 13 = .ok (.iload_n 3, 1) := by decide +kernel
theorem dX9_target_14 : decode cX9_target 14 = .ok (.aload_n 0, 1) := by decide +kernel
theorem dX9_target_15 : decode cX9_target 15 = .ok (.iload_n 1, 1) := by decide +kernel
theorem dX9_target_16 : decode cX9_target 16 = .ok (.iconst 1, 1) := by decide +kernel
theorem dX9_target_17 : decode cX9_target 17 = .ok (.invokevirtual 141, 3) := by decide +kernel
theorem dX9_target_20 : decode cX9_target 20 = .ok (.if_icmp .eq 25, 3) := by decide +kernel
theorem dX9_target_23 : decode cX9_target 23 = .ok (.aload_n 0, 1) := by decide +kernel
theorem dX9_target_24 : decode cX9_target 24 = .ok (.iload_n 1, 1) := by decide +kernel
theorem dX9_target_25 : decode cX9_target 25 = .ok (.bipush 14, 2) := by decide +kernel
theorem dX9_target_27 : decode cX9_target 27 = .ok (.iload_n 3, 1) := by decide +kernel
theorem dX9_target_28 : decode cX9_target 28 = .ok (.iadd, 1) := by decide +kernel
theorem dX9_target_29 : decode cX9_target 29 = .ok (.invokevirtual 141, 3) := by decide +kernel
theorem dX9_target_32 : decode cX9_target 32 = .ok (.aload_n 0, 1) := by decide +kernel
theorem dX9_target_33 : decode cX9_target 33 = .ok (.getfield 32, 3) := by decide +kernel
theorem dX9_target_36 : decode cX9_target 36 = .ok (.iconst 2, 1) := by decide +kernel
theorem dX9_target_37 : decode cX9_target 37 = .ok (.iaload, 1) := by decide +kernel
theorem dX9_target_38 : decode cX9_target 38 = .ok (.if_icmp .lt 7, 3) := by decide +kernel
theorem dX9_target_41 : decode cX9_target 41 = .ok (.iconst 1, 1) := by decide +kernel
theorem dX9_target_42 : decode cX9_target 42 = .ok (.goto 4, 3) := by decide +kernel
theorem dX9_target_45 : decode cX9_target 45 = .ok (.iconst 0, 1) := by decide +kernel
theorem dX9_target_46 : decode cX9_target 46 = .ok (.istore 4, 2) := by decide +kernel
theorem dX9_target_48 : decode cX9_target 48 = .ok (.iload 4, 2) := by decide +kernel
theorem dX9_target_50 : decode cX9_target 50 = .ok (.ifCond .eq 34, 3) := by decide +kernel
theorem dX9_target_53 : decode cX9_target 53 = .ok (.iload_n 2, 1) := by decide +kernel
theorem dX9_target_54 : decode cX9_target 54 = .ok (.bipush (-9), 2) := by decide +kernel
theorem dX9_target_56 : decode cX9_target 56 = .ok (.if_icmp .eq 24, 3) := by decide +kernel
theorem dX9_target_59 : decode cX9_target 59 = .ok (.aload_n 0, 1) := by decide +kernel
theorem dX9_target_60 : decode cX9_target 60 = .ok (.iload_n 1, 1) := by decide +kernel
theorem dX9_target_61 : decode cX9_target 61 = .ok (.bipush 10, 2) := by decide +kernel
theorem dX9_target_63 : decode cX9_target 63 = .ok (.iload_n 3, 1) := by decide +kernel
theorem dX9_target_64 : decode cX9_target 64 = .ok (.iadd, 1) := by decide +kernel
theorem dX9_target_65 : decode cX9_target 65 = .ok (.invokevirtual 141, 3) := by decide +kernel
theorem dX9_target_68 : decode cX9_target 68 = .ok (.aload_n 0, 1) := by decide +kernel
theorem dX9_target_69 : decode cX9_target 69 = .ok (.iload_n 1, 1) := by decide +kernel
theorem dX9_target_70 : decode cX9_target 70 = .ok (.bipush 10, 2) := by decide +kernel
theorem dX9_target_72 : decode cX9_target 72 = .ok (.iload_n 2, 1) := by decide +kernel
theorem dX9_target_73 : decode cX9_target 73 = .ok (.iadd, 1) := by decide +kernel
theorem dX9_target_74 : decode cX9_target 74 = .ok (.invokevirtual 141, 3) := by decide +kernel
theorem dX9_target_77 : decode cX9_target 77 = .ok (.if_icmp .le 7, 3) := by decide +kernel
theorem dX9_target_80 : decode cX9_target 80 = .ok (.iload_n 3, 1) := by decide +kernel
theorem dX9_target_81 : decode cX9_target 81 = .ok (.goto 4, 3) := by decide +kernel
theorem dX9_target_84 : decode cX9_target 84 = .ok (.iload_n 2, 1) := by decide +kernel
theorem dX9_target_85 : decode cX9_target 85 = .ok (.istore_n 2, 1) := by decide +kernel
theorem dX9_target_86 : decode cX9_target 86 = .ok (.iinc 3 1, 3) := by decide +kernel
theorem dX9_target_89 : decode cX9_target 89 = .ok (.goto (-84), 3) := by decide +kernel
theorem dX9_target_92 : decode cX9_target 92 = .ok (.iload_n 2, 1) := by decide +kernel
theorem dX9_target_93 : decode cX9_target 93 = .ok (.ireturn, 1) := by decide +kernel
theorem dX9_listens_0 : decode cX9_listens 0 = .ok (.iconst 1, 1) := by decide +kernel
theorem dX9_listens_1 : decode cX9_listens 1 = .ok (.aload_n 0, 1) := by decide +kernel
theorem dX9_listens_2 : decode cX9_listens 2 = .ok (.getfield 32, 3) := by decide +kernel
theorem dX9_listens_5 : decode cX9_listens 5 = .ok (.iconst 3, 1) := by decide +kernel
theorem dX9_listens_6 : decode cX9_listens 6 = .ok (.iaload, 1) := by decide +kernel
theorem dX9_listens_7 : decode cX9_listens 7 = .ok (.ishl, 1) := by decide +kernel
theorem dX9_listens_8 : decode cX9_listens 8 = .ok (.istore 4, 2) := by decide +kernel
theorem dX9_listens_10 : decode cX9_listens 10 = .ok (.aload_n 0, 1) := by decide +kernel
theorem dX9_listens_11 : decode cX9_listens 11 = .ok (.iload_n 1, 1) := by decide +kernel
theorem dX9_listens_12 : decode cX9_listens 12 = .ok (.bipush 10, 2) := by decide +kernel
theorem dX9_listens_14 : decode cX9_listens 14 = .ok (.iload_n 2, 1) := by decide +kernel
theorem dX9_listens_15 : decode cX9_listens 15 = .ok (.iadd, 1) := by decide +kernel
theorem dX9_listens_16 : decode cX9_listens 16 = .ok (.aload_n 0, 1) := by decide +kernel
theorem dX9_listens_17 : decode cX9_listens 17 = .ok (.iload_n 1, 1) := by decide +kernel
theorem dX9_listens_18 : decode cX9_listens 18 = .ok (.bipush 10, 2) := by decide +kernel
theorem dX9_listens_20 : decode cX9_listens 20 = .ok (.iload_n 2, 1) := by decide +kernel
theorem dX9_listens_21 : decode cX9_listens 21 = .ok (.iadd, 1) := by decide +kernel
theorem dX9_listens_22 : decode cX9_listens 22 = .ok (.invokevirtual 141, 3) := by decide +kernel
theorem dX9_listens_25 : decode cX9_listens 25 = .ok (.iload 4, 2) := by decide +kernel
theorem dX9_listens_27 : decode cX9_listens 27 = .ok (.iconst 1, 1) := by decide +kernel
theorem dX9_listens_28 : decode cX9_listens 28 = .ok (.isub, 1) := by decide +kernel
theorem dX9_listens_29 : decode cX9_listens 29 = .ok (.imul, 1) := by decide +kernel
theorem dX9_listens_30 : decode cX9_listens 30 = .ok (.bipush 64, 2) := by decide +kernel
theorem dX9_listens_32 : decode cX9_listens 32 = .ok (.iload_n 3, 1) := by decide +kernel
theorem dX9_listens_33 : decode cX9_listens 33 = .ok (.imul, 1) := by decide +kernel
theorem dX9_listens_34 : decode cX9_listens 34 = .ok (.iadd, 1) := by decide +kernel
theorem dX9_listens_35 : decode cX9_listens 35 = .ok (.iload 4, 2) := by decide +kernel
theorem dX9_listens_37 : decode cX9_listens 37 = .ok (.idiv, 1) := by decide +kernel
theorem dX9_listens_38 : decode cX9_listens 38 = .ok (.invokevirtual 179, 3) := by decide +kernel
theorem dX9_listens_41 : decode cX9_listens 41 = .ok (.return_, 1) := by decide +kernel
theorem dX9_isValue_0 : decode cX9_isValue 0 = .ok (.iload_n 2, 1) := by decide +kernel
theorem dX9_isValue_1 : decode cX9_isValue 1 = .ok (.i2l, 1) := by decide +kernel
theorem dX9_isValue_2 : decode cX9_isValue 2 = .ok (.lconst 0, 1) := by decide +kernel
theorem dX9_isValue_3 : decode cX9_isValue 3 = .ok (.iload_n 1, 1) := by decide +kernel
theorem dX9_isValue_4 : decode cX9_isValue 4 = .ok (.aload_n 0, 1) := by decide +kernel
theorem dX9_isValue_5 : decode cX9_isValue 5 = .ok (.getfield 133, 3) := by decide +kernel
theorem dX9_isValue_8 : decode cX9_isValue 8 = .ok (.if_icmp .ge 9, 3) := by decide +kernel
theorem dX9_isValue_11 : decode cX9_isValue 11 = .ok (.ldc2_w 161, 3) := by decide +kernel
theorem dX9_isValue_14 : decode cX9_isValue 14 = .ok (.goto 4, 3) := by decide +kernel
theorem dX9_isValue_17 : decode cX9_isValue 17 = .ok (.lconst 0, 1) := by decide +kernel
theorem dX9_isValue_18 : decode cX9_isValue 18 = .ok (.invokestatic 66, 3) := by decide +kernel
theorem dX9_isValue_21 : decode cX9_isValue 21 = .ok (.ireturn, 1) := by decide +kernel
theorem dX9_streaks_0 : decode cX9_streaks 0 = .ok (.aload_n 0, 1) := by decide +kernel
theorem dX9_streaks_1 : decode cX9_streaks 1 = .ok (.iload_n 1, 1) := by decide +kernel
theorem dX9_streaks_2 : decode cX9_streaks 2 = .ok (.bipush 10, 2) := by decide +kernel
theorem dX9_streaks_4 : decode cX9_streaks 4 = .ok (.aload_n 0, 1) := by decide +kernel
theorem dX9_streaks_5 : decode cX9_streaks 5 = .ok (.iload_n 1, 1) := by decide +kernel
theorem dX9_streaks_6 : decode cX9_streaks 6 = .ok (.iconst 1, 1) := by decide +kernel
theorem dX9_streaks_7 : decode cX9_streaks 7 = .ok (.invokevirtual 141, 3) := by decide +kernel
theorem dX9_streaks_10 : decode cX9_streaks 10 = .ok (.iadd, 1) := by decide +kernel
theorem dX9_streaks_11 : decode cX9_streaks 11 = .ok (.invokevirtual 141, 3) := by decide +kernel
theorem dX9_streaks_14 : decode cX9_streaks 14 = .ok (.istore_n 2, 1) := by decide +kernel
theorem dX9_streaks_15 : decode cX9_streaks 15 = .ok (.iconst 0, 1) := by decide +kernel
theorem dX9_streaks_16 : decode cX9_streaks 16 = .ok (.istore_n 3, 1) := by decide +kernel
theorem dX9_streaks_17 : decode cX9_streaks 17 = .ok (.iload_n 3, 1) := by decide +kernel
theorem dX9_streaks_18 : decode cX9_streaks 18 = .ok (.aload_n 0, 1) := by decide +kernel
theorem dX9_streaks_19 : decode cX9_streaks 19 = .ok (.getfield 133, 3) := by decide +kernel
theorem dX9_streaks_22 : decode cX9_streaks 22 = .ok (.if_icmp .ge 78, 3) := by decide +kernel
theorem dX9_streaks_25 : decode cX9_streaks 25 = .ok (.iload_n 3, 1) := by decide +kernel
theorem dX9_streaks_26 : decode cX9_streaks 26 = .ok (.aload_n 0, 1) := by decide +kernel
theorem dX9_streaks_27 : decode cX9_streaks 27 = .ok (.iload_n 1, 1) := by decide +kernel
theorem dX9_streaks_28 : decode cX9_streaks 28 = .ok (.iconst 1, 1) := by decide +kernel
theorem dX9_streaks_29 : decode cX9_streaks 29 = .ok (.invokevirtual 141, 3) := by decide +kernel
theorem dX9_streaks_32 : decode cX9_streaks 32 = .ok (.if_icmp .eq 30, 3) := by decide +kernel
theorem dX9_streaks_35 : decode cX9_streaks 35 = .ok (.aload_n 0, 1) := by decide +kernel
theorem dX9_streaks_36 : decode cX9_streaks 36 = .ok (.iload_n 1, 1) := by decide +kernel
theorem dX9_streaks_37 : decode cX9_streaks 37 = .ok (.bipush 10, 2) := by decide +kernel
theorem dX9_streaks_39 : decode cX9_streaks 39 = .ok (.iload_n 3, 1) := by decide +kernel
theorem dX9_streaks_40 : decode cX9_streaks 40 = .ok (.iadd, 1) := by decide +kernel
theorem dX9_streaks_41 : decode cX9_streaks 41 = .ok (.invokevirtual 141, 3) := by decide +kernel
theorem dX9_streaks_44 : decode cX9_streaks 44 = .ok (.iload_n 2, 1) := by decide +kernel
theorem dX9_streaks_45 : decode cX9_streaks 45 = .ok (.bipush 64, 2) := by decide +kernel
theorem dX9_streaks_47 : decode cX9_streaks 47 = .ok (.aload_n 0, 1) := by decide +kernel
theorem dX9_streaks_48 : decode cX9_streaks 48 = .ok (.getfield 32, 3) := by decide +kernel
theorem dX9_streaks_51 : decode cX9_streaks 51 = .ok (.iconst 1, 1) := by decide +kernel
theorem dX9_streaks_52 : decode cX9_streaks 52 = .ok (.iaload, 1) := by decide +kernel
theorem dX9_streaks_53 : decode cX9_streaks 53 = .ok (.imul, 1) := by decide +kernel
theorem dX9_streaks_54 : decode cX9_streaks 54 = .ok (.iadd, 1) := by decide +kernel
theorem dX9_streaks_55 : decode cX9_streaks 55 = .ok (.if_icmp .lt 7, 3) := by decide +kernel
theorem dX9_streaks_58 : decode cX9_streaks 58 = .ok (.iconst 1, 1) := by decide +kernel
theorem dX9_streaks_59 : decode cX9_streaks 59 = .ok (.goto 4, 3) := by decide +kernel
theorem dX9_streaks_62 : decode cX9_streaks 62 = .ok (.iconst 0, 1) := by decide +kernel
theorem dX9_streaks_63 : decode cX9_streaks 63 = .ok (.istore 4, 2) := by decide +kernel
theorem dX9_streaks_65 : decode cX9_streaks 65 = .ok (.aload_n 0, 1) := by decide +kernel
theorem dX9_streaks_66 : decode cX9_streaks 66 = .ok (.iload_n 1, 1) := by decide +kernel
theorem dX9_streaks_67 : decode cX9_streaks 67 = .ok (.bipush 14, 2) := by decide +kernel
theorem dX9_streaks_69 : decode cX9_streaks 69 = .ok (.iload_n 3, 1) := by decide +kernel
theorem dX9_streaks_70 : decode cX9_streaks 70 = .ok (.iadd, 1) := by decide +kernel
theorem dX9_streaks_71 : decode cX9_streaks 71 = .ok (.iload 4, 2) := by decide +kernel
theorem dX9_streaks_73 : decode cX9_streaks 73 = .ok (.ifCond .eq 17, 3) := by decide +kernel
theorem dX9_streaks_76 : decode cX9_streaks 76 = .ok (.aload_n 0, 1) := by decide +kernel
theorem dX9_streaks_77 : decode cX9_streaks 77 = .ok (.iload_n 1, 1) := by decide +kernel
theorem dX9_streaks_78 : decode cX9_streaks 78 = .ok (.bipush 14, 2) := by decide +kernel
theorem dX9_streaks_80 : decode cX9_streaks 80 = .ok (.iload_n 3, 1) := by decide +kernel
theorem dX9_streaks_81 : decode cX9_streaks 81 = .ok (.iadd, 1) := by decide +kernel
theorem dX9_streaks_82 : decode cX9_streaks 82 = .ok (.invokevirtual 141, 3) := by decide +kernel
theorem dX9_streaks_85 : decode cX9_streaks 85 = .ok (.iconst 1, 1) := by decide +kernel
theorem dX9_streaks_86 : decode cX9_streaks 86 = .ok (.iadd, 1) := by decide +kernel
theorem dX9_streaks_87 : decode cX9_streaks 87 = .ok (.goto 4, 3) := by decide +kernel
theorem dX9_streaks_90 : decode cX9_streaks 90 = .ok (.iconst 0, 1) := by decide +kernel
theorem dX9_streaks_91 : decode cX9_streaks 91 = .ok (.invokevirtual 179, 3) := by decide +kernel
theorem dX9_streaks_94 : decode cX9_streaks 94 = .ok (.iinc 3 1, 3) := by decide +kernel
theorem dX9_streaks_97 : decode cX9_streaks 97 = .ok (.goto (-80), 3) := by decide +kernel
theorem dX9_streaks_100 : decode cX9_streaks 100 = .ok (.return_, 1) := by decide +kernel
theorem dX9_asks_0 : decode cX9_asks 0 = .ok (.aload_n 0, 1) := by decide +kernel
theorem dX9_asks_1 : decode cX9_asks 1 = .ok (.iload_n 2, 1) := by decide +kernel
theorem dX9_asks_2 : decode cX9_asks 2 = .ok (.bipush 8, 2) := by decide +kernel
theorem dX9_asks_4 : decode cX9_asks 4 = .ok (.invokevirtual 170, 3) := by decide +kernel
theorem dX9_asks_7 : decode cX9_asks 7 = .ok (.aload_n 0, 1) := by decide +kernel
theorem dX9_asks_8 : decode cX9_asks 8 = .ok (.iload_n 2, 1) := by decide +kernel
theorem dX9_asks_9 : decode cX9_asks 9 = .ok (.invokevirtual 151, 3) := by decide +kernel
theorem dX9_asks_12 : decode cX9_asks 12 = .ok (.ifCond .le 11, 3) := by decide +kernel
theorem dX9_asks_15 : decode cX9_asks 15 = .ok (.aload_n 0, 1) := by decide +kernel
theorem dX9_asks_16 : decode cX9_asks 16 = .ok (.iload_n 1, 1) := by decide +kernel
theorem dX9_asks_17 : decode cX9_asks 17 = .ok (.iload_n 2, 1) := by decide +kernel
theorem dX9_asks_18 : decode cX9_asks 18 = .ok (.invokevirtual 202, 3) := by decide +kernel
theorem dX9_asks_21 : decode cX9_asks 21 = .ok (.iconst 1, 1) := by decide +kernel
theorem dX9_asks_22 : decode cX9_asks 22 = .ok (.ireturn, 1) := by decide +kernel
theorem dX9_asks_23 : decode cX9_asks 23 = .ok (.aload_n 0, 1) := by decide +kernel
theorem dX9_asks_24 : decode cX9_asks 24 = .ok (.iload_n 2, 1) := by decide +kernel
theorem dX9_asks_25 : decode cX9_asks 25 = .ok (.invokevirtual 205, 3) := by decide +kernel
theorem dX9_asks_28 : decode cX9_asks 28 = .ok (.aload_n 0, 1) := by decide +kernel
theorem dX9_asks_29 : decode cX9_asks 29 = .ok (.getfield 29, 3) := by decide +kernel
theorem dX9_asks_32 : decode cX9_asks 32 = .ok (.iload_n 2, 1) := by decide +kernel
theorem dX9_asks_33 : decode cX9_asks 33 = .ok (.iaload, 1) := by decide +kernel
theorem dX9_asks_34 : decode cX9_asks 34 = .ok (.if_icmp .ge 38, 3) := by decide +kernel
theorem dX9_asks_37 : decode cX9_asks 37 = .ok (.aload_n 0, 1) := by decide +kernel
theorem dX9_asks_38 : decode cX9_asks 38 = .ok (.iload_n 1, 1) := by decide +kernel
theorem dX9_asks_39 : decode cX9_asks 39 = .ok (.iconst 2, 1) := by decide +kernel
theorem dX9_asks_40 : decode cX9_asks 40 = .ok (.iload_n 2, 1) := by decide +kernel
theorem dX9_asks_41 : decode cX9_asks 41 = .ok (.invokevirtual 179, 3) := by decide +kernel
theorem dX9_asks_44 : decode cX9_asks 44 = .ok (.aload_n 0, 1) := by decide +kernel
theorem dX9_asks_45 : decode cX9_asks 45 = .ok (.iload_n 1, 1) := by decide +kernel
theorem dX9_asks_46 : decode cX9_asks 46 = .ok (.iconst 3, 1) := by decide +kernel
theorem dX9_asks_47 : decode cX9_asks 47 = .ok (.aload_n 0, 1) := by decide +kernel
theorem dX9_asks_48 : decode cX9_asks 48 = .ok (.getfield 7, 3) := by decide +kernel
theorem dX9_asks_51 : decode cX9_asks 51 = .ok (.sipush 282, 3) := by decide +kernel
theorem dX9_asks_54 : decode cX9_asks 54 = .ok (.iaload, 1) := by decide +kernel
theorem dX9_asks_55 : decode cX9_asks 55 = .ok (.invokevirtual 179, 3) := by decide +kernel
theorem dX9_asks_58 : decode cX9_asks 58 = .ok (.aload_n 0, 1) := by decide +kernel
theorem dX9_asks_59 : decode cX9_asks 59 = .ok (.getfield 7, 3) := by decide +kernel
theorem dX9_asks_62 : decode cX9_asks 62 = .ok (.sipush 282, 3) := by decide +kernel
theorem dX9_asks_65 : decode cX9_asks 65 = .ok (.dup2, 1) := by decide +kernel
theorem dX9_asks_66 : decode cX9_asks 66 = .ok (.iaload, 1) := by decide +kernel
theorem dX9_asks_67 : decode cX9_asks 67 = .ok (.iconst 1, 1) := by decide +kernel
theorem dX9_asks_68 : decode cX9_asks 68 = .ok (.iadd, 1) := by decide +kernel
theorem dX9_asks_69 : decode cX9_asks 69 = .ok (.iastore, 1) := by decide +kernel
theorem dX9_asks_70 : decode cX9_asks 70 = .ok (.iconst 2, 1) := by decide +kernel
theorem dX9_asks_71 : decode cX9_asks 71 = .ok (.ireturn, 1) := by decide +kernel
theorem dX9_asks_72 : decode cX9_asks 72 = .ok (.aload_n 0, 1) := by decide +kernel
theorem dX9_asks_73 : decode cX9_asks 73 = .ok (.iload_n 2, 1) := by decide +kernel
theorem dX9_asks_74 : decode cX9_asks 74 = .ok (.bipush 9, 2) := by decide +kernel
theorem dX9_asks_76 : decode cX9_asks 76 = .ok (.invokevirtual 170, 3) := by decide +kernel
theorem dX9_asks_79 : decode cX9_asks 79 = .ok (.iconst 3, 1) := by decide +kernel
theorem dX9_asks_80 : decode cX9_asks 80 = .ok (.ireturn, 1) := by decide +kernel
theorem dX9_hears_0 : decode cX9_hears 0 = .ok (.aload_n 0, 1) := by decide +kernel
theorem dX9_hears_1 : decode cX9_hears 1 = .ok (.iload_n 1, 1) := by decide +kernel
theorem dX9_hears_2 : decode cX9_hears 2 = .ok (.invokevirtual 208, 3) := by decide +kernel
theorem dX9_hears_5 : decode cX9_hears 5 = .ok (.ifCond .eq 41, 3) := by decide +kernel
theorem dX9_hears_8 : decode cX9_hears 8 = .ok (.aload_n 0, 1) := by decide +kernel
theorem dX9_hears_9 : decode cX9_hears 9 = .ok (.iconst 0, 1) := by decide +kernel
theorem dX9_hears_10 : decode cX9_hears 10 = .ok (.iload_n 2, 1) := by decide +kernel
theorem dX9_hears_11 : decode cX9_hears 11 = .ok (.invokevirtual 211, 3) := by decide +kernel
theorem dX9_hears_14 : decode cX9_hears 14 = .ok (.ifCond .eq 32, 3) := by decide +kernel
theorem dX9_hears_17 : decode cX9_hears 17 = .ok (.aload_n 0, 1) := by decide +kernel
theorem dX9_hears_18 : decode cX9_hears 18 = .ok (.iconst 1, 1) := by decide +kernel
theorem dX9_hears_19 : decode cX9_hears 19 = .ok (.iload_n 3, 1) := by decide +kernel
theorem dX9_hears_20 : decode cX9_hears 20 = .ok (.invokevirtual 211, 3) := by decide +kernel
theorem dX9_hears_23 : decode cX9_hears 23 = .ok (.ifCond .eq 23, 3) := by decide +kernel
theorem dX9_hears_26 : decode cX9_hears 26 = .ok (.aload_n 0, 1) := by decide +kernel
theorem dX9_hears_27 : decode cX9_hears 27 = .ok (.iconst 2, 1) := by decide +kernel
theorem dX9_hears_28 : decode cX9_hears 28 = .ok (.iload 4, 2) := by decide +kernel
theorem dX9_hears_30 : decode cX9_hears 30 = .ok (.invokevirtual 211, 3) := by decide +kernel
theorem dX9_hears_33 : decode cX9_hears 33 = .ok (.ifCond .eq 13, 3) := by decide +kernel
theorem dX9_hears_36 : decode cX9_hears 36 = .ok (.aload_n 0, 1) := by decide +kernel
theorem dX9_hears_37 : decode cX9_hears 37 = .ok (.iconst 3, 1) := by decide +kernel
theorem dX9_hears_38 : decode cX9_hears 38 = .ok (.iload 5, 2) := by decide +kernel
theorem dX9_hears_40 : decode cX9_hears 40 = .ok (.invokevirtual 211, 3) := by decide +kernel
theorem dX9_hears_43 : decode cX9_hears 43 = .ok (.ifCond .ne 5, 3) := by decide +kernel
theorem dX9_hears_46 : decode cX9_hears 46 = .ok (.iconst (-1), 1) := by decide +kernel
theorem dX9_hears_47 : decode cX9_hears 47 = .ok (.ireturn, 1) := by decide +kernel
theorem dX9_hears_48 : decode cX9_hears 48 = .ok (.aload_n 0, 1) := by decide +kernel
theorem dX9_hears_49 : decode cX9_hears 49 = .ok (.invokevirtual 167, 3) := by decide +kernel
theorem dX9_hears_52 : decode cX9_hears 52 = .ok (.aload_n 0, 1) := by decide +kernel
theorem dX9_hears_53 : decode cX9_hears 53 = .ok (.iload_n 1, 1) := by decide +kernel
theorem dX9_hears_54 : decode cX9_hears 54 = .ok (.iconst 1, 1) := by decide +kernel
theorem dX9_hears_55 : decode cX9_hears 55 = .ok (.invokevirtual 141, 3) := by decide +kernel
theorem dX9_hears_58 : decode cX9_hears 58 = .ok (.istore 6, 2) := by decide +kernel
theorem dX9_hears_60 : decode cX9_hears 60 = .ok (.aload_n 0, 1) := by decide +kernel
theorem dX9_hears_61 : decode cX9_hears 61 = .ok (.iload_n 1, 1) := by decide +kernel
theorem dX9_hears_62 : decode cX9_hears 62 = .ok (.bipush 10, 2) := by decide +kernel
theorem dX9_hears_64 : decode cX9_hears 64 = .ok (.iload 6, 2) := by decide +kernel
theorem dX9_hears_66 : decode cX9_hears 66 = .ok (.iadd, 1) := by decide +kernel
theorem dX9_hears_67 : decode cX9_hears 67 = .ok (.invokevirtual 141, 3) := by decide +kernel
theorem dX9_hears_70 : decode cX9_hears 70 = .ok (.istore 7, 2) := by decide +kernel
theorem dX9_hears_72 : decode cX9_hears 72 = .ok (.aload_n 0, 1) := by decide +kernel
theorem dX9_hears_73 : decode cX9_hears 73 = .ok (.iload_n 1, 1) := by decide +kernel
theorem dX9_hears_74 : decode cX9_hears 74 = .ok (.iconst 0, 1) := by decide +kernel
theorem dX9_hears_75 : decode cX9_hears 75 = .ok (.iload_n 2, 1) := by decide +kernel
theorem dX9_hears_76 : decode cX9_hears 76 = .ok (.invokevirtual 214, 3) := by decide +kernel
theorem dX9_hears_79 : decode cX9_hears 79 = .ok (.aload_n 0, 1) := by decide +kernel
theorem dX9_hears_80 : decode cX9_hears 80 = .ok (.iload_n 1, 1) := by decide +kernel
theorem dX9_hears_81 : decode cX9_hears 81 = .ok (.iconst 1, 1) := by decide +kernel
theorem dX9_hears_82 : decode cX9_hears 82 = .ok (.iload_n 3, 1) := by decide +kernel
theorem dX9_hears_83 : decode cX9_hears 83 = .ok (.invokevirtual 214, 3) := by decide +kernel
theorem dX9_hears_86 : decode cX9_hears 86 = .ok (.aload_n 0, 1) := by decide +kernel
theorem dX9_hears_87 : decode cX9_hears 87 = .ok (.iload_n 1, 1) := by decide +kernel
theorem dX9_hears_88 : decode cX9_hears 88 = .ok (.iconst 2, 1) := by decide +kernel
theorem dX9_hears_89 : decode cX9_hears 89 = .ok (.iload 4, 2) := by decide +kernel
theorem dX9_hears_91 : decode cX9_hears 91 = .ok (.invokevirtual 214, 3) := by decide +kernel
theorem dX9_hears_94 : decode cX9_hears 94 = .ok (.aload_n 0, 1) := by decide +kernel
theorem dX9_hears_95 : decode cX9_hears 95 = .ok (.iload_n 1, 1) := by decide +kernel
theorem dX9_hears_96 : decode cX9_hears 96 = .ok (.iconst 3, 1) := by decide +kernel
theorem dX9_hears_97 : decode cX9_hears 97 = .ok (.iload 5, 2) := by decide +kernel
theorem dX9_hears_99 : decode cX9_hears 99 = .ok (.invokevirtual 214, 3) := by decide +kernel
theorem dX9_hears_102 : decode cX9_hears 102 = .ok (.aload_n 0, 1) := by decide +kernel
theorem dX9_hears_103 : decode cX9_hears 103 = .ok (.iload_n 1, 1) := by decide +kernel
theorem dX9_hears_104 : decode cX9_hears 104 = .ok (.iconst 4, 1) := by decide +kernel
theorem dX9_hears_105 : decode cX9_hears 105 = .ok (.aload_n 0, 1) := by decide +kernel
theorem dX9_hears_106 : decode cX9_hears 106 = .ok (.iload_n 1, 1) := by decide +kernel
theorem dX9_hears_107 : decode cX9_hears 107 = .ok (.iconst 4, 1) := by decide +kernel
theorem dX9_hears_108 : decode cX9_hears 108 = .ok (.invokevirtual 141, 3) := by decide +kernel
theorem dX9_hears_111 : decode cX9_hears 111 = .ok (.iconst 1, 1) := by decide +kernel
theorem dX9_hears_112 : decode cX9_hears 112 = .ok (.iadd, 1) := by decide +kernel
theorem dX9_hears_113 : decode cX9_hears 113 = .ok (.invokevirtual 179, 3) := by decide +kernel
theorem dX9_hears_116 : decode cX9_hears 116 = .ok (.aload_n 0, 1) := by decide +kernel
theorem dX9_hears_117 : decode cX9_hears 117 = .ok (.iload_n 1, 1) := by decide +kernel
theorem dX9_hears_118 : decode cX9_hears 118 = .ok (.bipush 9, 2) := by decide +kernel
theorem dX9_hears_120 : decode cX9_hears 120 = .ok (.aload_n 0, 1) := by decide +kernel
theorem dX9_hears_121 : decode cX9_hears 121 = .ok (.iload_n 1, 1) := by decide +kernel
theorem dX9_hears_122 : decode cX9_hears 122 = .ok (.bipush 9, 2) := by decide +kernel
theorem dX9_hears_124 : decode cX9_hears 124 = .ok (.invokevirtual 141, 3) := by decide +kernel
theorem dX9_hears_127 : decode cX9_hears 127 = .ok (.iconst 1, 1) := by decide +kernel
theorem dX9_hears_128 : decode cX9_hears 128 = .ok (.iadd, 1) := by decide +kernel
theorem dX9_hears_129 : decode cX9_hears 129 = .ok (.invokevirtual 179, 3) := by decide +kernel
theorem dX9_hears_132 : decode cX9_hears 132 = .ok (.aload_n 0, 1) := by decide +kernel
theorem dX9_hears_133 : decode cX9_hears 133 = .ok (.iload_n 1, 1) := by decide +kernel
theorem dX9_hears_134 : decode cX9_hears 134 = .ok (.bipush 7, 2) := by decide +kernel
theorem dX9_hears_136 : decode cX9_hears 136 = .ok (.iload 7, 2) := by decide +kernel
theorem dX9_hears_138 : decode cX9_hears 138 = .ok (.aload_n 0, 1) := by decide +kernel
theorem dX9_hears_139 : decode cX9_hears 139 = .ok (.iload_n 1, 1) := by decide +kernel
theorem dX9_hears_140 : decode cX9_hears 140 = .ok (.bipush 10, 2) := by decide +kernel
theorem dX9_hears_142 : decode cX9_hears 142 = .ok (.iload 6, 2) := by decide +kernel
theorem dX9_hears_144 : decode cX9_hears 144 = .ok (.iadd, 1) := by decide +kernel
theorem dX9_hears_145 : decode cX9_hears 145 = .ok (.invokevirtual 141, 3) := by decide +kernel
theorem dX9_hears_148 : decode cX9_hears 148 = .ok (.isub, 1) := by decide +kernel
theorem dX9_hears_149 : decode cX9_hears 149 = .ok (.invokevirtual 179, 3) := by decide +kernel
theorem dX9_hears_152 : decode cX9_hears 152 = .ok (.aload_n 0, 1) := by decide +kernel
theorem dX9_hears_153 : decode cX9_hears 153 = .ok (.iload_n 1, 1) := by decide +kernel
theorem dX9_hears_154 : decode cX9_hears 154 = .ok (.invokevirtual 217, 3) := by decide +kernel
theorem dX9_hears_157 : decode cX9_hears 157 = .ok (.aload_n 0, 1) := by decide +kernel
theorem dX9_hears_158 : decode cX9_hears 158 = .ok (.iload_n 1, 1) := by decide +kernel
theorem dX9_hears_159 : decode cX9_hears 159 = .ok (.invokevirtual 220, 3) := by decide +kernel
theorem dX9_hears_162 : decode cX9_hears 162 = .ok (.istore 8, 2) := by decide +kernel
theorem dX9_hears_164 : decode cX9_hears 164 = .ok (.aload_n 0, 1) := by decide +kernel
theorem dX9_hears_165 : decode cX9_hears 165 = .ok (.iload_n 1, 1) := by decide +kernel
theorem dX9_hears_166 : decode cX9_hears 166 = .ok (.iconst 2, 1) := by decide +kernel
theorem dX9_hears_167 : decode cX9_hears 167 = .ok (.invokevirtual 141, 3) := by decide +kernel
theorem dX9_hears_170 : decode cX9_hears 170 = .ok (.iload 8, 2) := by decide +kernel
theorem dX9_hears_172 : decode cX9_hears 172 = .ok (.if_icmp .eq 11, 3) := by decide +kernel
theorem dX9_hears_175 : decode cX9_hears 175 = .ok (.aload_n 0, 1) := by decide +kernel
theorem dX9_hears_176 : decode cX9_hears 176 = .ok (.iload_n 1, 1) := by decide +kernel
theorem dX9_hears_177 : decode cX9_hears 177 = .ok (.iconst 2, 1) := by decide +kernel
theorem dX9_hears_178 : decode cX9_hears 178 = .ok (.bipush (-9), 2) := by decide +kernel
theorem dX9_hears_180 : decode cX9_hears 180 = .ok (.invokevirtual 179, 3) := by decide +kernel
theorem dX9_hears_183 : decode cX9_hears 183 = .ok (.aload_n 0, 1) := by decide +kernel
theorem dX9_hears_184 : decode cX9_hears 184 = .ok (.iconst 0, 1) := by decide +kernel
theorem dX9_hears_185 : decode cX9_hears 185 = .ok (.putfield 189, 3) := by decide +kernel
theorem dX9_hears_188 : decode cX9_hears 188 = .ok (.iload 8, 2) := by decide +kernel
theorem dX9_hears_190 : decode cX9_hears 190 = .ok (.bipush (-9), 2) := by decide +kernel
theorem dX9_hears_192 : decode cX9_hears 192 = .ok (.if_icmp .ne 7, 3) := by decide +kernel
theorem dX9_hears_195 : decode cX9_hears 195 = .ok (.iconst 0, 1) := by decide +kernel
theorem dX9_hears_196 : decode cX9_hears 196 = .ok (.goto 25, 3) := by decide +kernel
theorem dX9_hears_199 : decode cX9_hears 199 = .ok (.aload_n 0, 1) := by decide +kernel
theorem dX9_hears_200 : decode cX9_hears 200 = .ok (.iload_n 1, 1) := by decide +kernel
theorem dX9_hears_201 : decode cX9_hears 201 = .ok (.iconst 2, 1) := by decide +kernel
theorem dX9_hears_202 : decode cX9_hears 202 = .ok (.invokevirtual 141, 3) := by decide +kernel
theorem dX9_hears_205 : decode cX9_hears 205 = .ok (.iload 8, 2) := by decide +kernel
theorem dX9_hears_207 : decode cX9_hears 207 = .ok (.if_icmp .ne 7, 3) := by decide +kernel
theorem dX9_hears_210 : decode cX9_hears 210 = .ok (.iconst 2, 1) := by decide +kernel
theorem dX9_hears_211 : decode cX9_hears 211 = .ok (.goto 10, 3) := by decide +kernel
theorem dX9_hears_214 : decode cX9_hears 214 = .ok (.aload_n 0, 1) := by decide +kernel
theorem dX9_hears_215 : decode cX9_hears 215 = .ok (.iload_n 1, 1) := by decide +kernel
theorem dX9_hears_216 : decode cX9_hears 216 = .ok (.iload 8, 2) := by decide +kernel
theorem dX9_hears_218 : decode cX9_hears 218 = .ok (.invokevirtual 223, 3) := by decide +kernel
theorem dX9_hears_221 : decode cX9_hears 221 = .ok (.istore 9, 2) := by decide +kernel
theorem dX9_hears_223 : decode cX9_hears 223 = .ok (.iload 9, 2) := by decide +kernel
theorem dX9_hears_225 : decode cX9_hears 225 = .ok (.iconst 1, 1) := by decide +kernel
theorem dX9_hears_226 : decode cX9_hears 226 = .ok (.if_icmp .eq 41, 3) := by decide +kernel
theorem dX9_hears_229 : decode cX9_hears 229 = .ok (.aload_n 0, 1) := by decide +kernel
theorem dX9_hears_230 : decode cX9_hears 230 = .ok (.iload_n 1, 1) := by decide +kernel
theorem dX9_hears_231 : decode cX9_hears 231 = .ok (.bipush 10, 2) := by decide +kernel
theorem dX9_hears_233 : decode cX9_hears 233 = .ok (.iload 6, 2) := by decide +kernel
theorem dX9_hears_235 : decode cX9_hears 235 = .ok (.iadd, 1) := by decide +kernel
theorem dX9_hears_236 : decode cX9_hears 236 = .ok (.invokevirtual 141, 3) := by decide +kernel
theorem dX9_hears_239 : decode cX9_hears 239 = .ok (.bipush 64, 2) := by decide +kernel
theorem dX9_hears_241 : decode cX9_hears 241 = .ok (.aload_n 0, 1) := by decide +kernel
theorem dX9_hears_242 : decode cX9_hears 242 = .ok (.getfield 32, 3) := by decide +kernel
theorem dX9_hears_245 : decode cX9_hears 245 = .ok (.iconst 4, 1) := by decide +kernel
theorem dX9_hears_246 : decode cX9_hears 246 = .ok (.iaload, 1) := by decide +kernel
theorem dX9_hears_247 : decode cX9_hears 247 = .ok (.imul, 1) := by decide +kernel
theorem dX9_hears_248 : decode cX9_hears 248 = .ok (.if_icmp .ge 19, 3) := by decide +kernel
theorem dX9_hears_251 : decode cX9_hears 251 = .ok (.aload_n 0, 1) := by decide +kernel
theorem dX9_hears_252 : decode cX9_hears 252 = .ok (.iload 6, 2) := by decide +kernel
theorem dX9_hears_254 : decode cX9_hears 254 = .ok (.bipush 11, 2) := by decide +kernel
theorem dX9_hears_256 : decode cX9_hears 256 = .ok (.invokevirtual 170, 3) := by decide +kernel
theorem dX9_hears_259 : decode cX9_hears 259 = .ok (.aload_n 0, 1) := by decide +kernel
theorem dX9_hears_260 : decode cX9_hears 260 = .ok (.iload_n 1, 1) := by decide +kernel
theorem dX9_hears_261 : decode cX9_hears 261 = .ok (.invokevirtual 226, 3) := by decide +kernel
theorem dX9_hears_264 : decode cX9_hears 264 = .ok (.iconst 4, 1) := by decide +kernel
theorem dX9_hears_265 : decode cX9_hears 265 = .ok (.istore 9, 2) := by decide +kernel
theorem dX9_hears_267 : decode cX9_hears 267 = .ok (.aload_n 0, 1) := by decide +kernel
theorem dX9_hears_268 : decode cX9_hears 268 = .ok (.invokevirtual 229, 3) := by decide +kernel
theorem dX9_hears_271 : decode cX9_hears 271 = .ok (.iload 9, 2) := by decide +kernel
theorem dX9_hears_273 : decode cX9_hears 273 = .ok (.ireturn, 1) := by decide +kernel
theorem dX9_leaves_0 : decode cX9_leaves 0 = .ok (.aload_n 0, 1) := by decide +kernel
theorem dX9_leaves_1 : decode cX9_leaves 1 = .ok (.iload_n 1, 1) := by decide +kernel
theorem dX9_leaves_2 : decode cX9_leaves 2 = .ok (.iconst 0, 1) := by decide +kernel
theorem dX9_leaves_3 : decode cX9_leaves 3 = .ok (.iconst 0, 1) := by decide +kernel
theorem dX9_leaves_4 : decode cX9_leaves 4 = .ok (.invokevirtual 179, 3) := by decide +kernel
theorem dX9_leaves_7 : decode cX9_leaves 7 = .ok (.aload_n 0, 1) := by decide +kernel
theorem dX9_leaves_8 : decode cX9_leaves 8 = .ok (.aload_n 0, 1) := by decide +kernel
theorem dX9_leaves_9 : decode cX9_leaves 9 = .ok (.iload_n 1, 1) := by decide +kernel
theorem dX9_leaves_10 : decode cX9_leaves 10 = .ok (.iconst 1, 1) := by decide +kernel
theorem dX9_leaves_11 : decode cX9_leaves 11 = .ok (.invokevirtual 141, 3) := by decide +kernel
theorem dX9_leaves_14 : decode cX9_leaves 14 = .ok (.invokevirtual 192, 3) := by decide +kernel
theorem dX9_leaves_17 : decode cX9_leaves 17 = .ok (.return_, 1) := by decide +kernel
theorem dX9_ends_0 : decode cX9_ends 0 = .ok (.aload_n 0, 1) := by decide +kernel
theorem dX9_ends_1 : decode cX9_ends 1 = .ok (.iload_n 1, 1) := by decide +kernel
theorem dX9_ends_2 : decode cX9_ends 2 = .ok (.invokevirtual 208, 3) := by decide +kernel
theorem dX9_ends_5 : decode cX9_ends 5 = .ok (.ifCond .ne 5, 3) := by decide +kernel
theorem dX9_ends_8 : decode cX9_ends 8 = .ok (.iconst (-1), 1) := by decide +kernel
theorem dX9_ends_9 : decode cX9_ends 9 = .ok (.ireturn, 1) := by decide +kernel
theorem dX9_ends_10 : decode cX9_ends 10 = .ok (.aload_n 0, 1) := by decide +kernel
theorem dX9_ends_11 : decode cX9_ends 11 = .ok (.invokevirtual 167, 3) := by decide +kernel
theorem dX9_ends_14 : decode cX9_ends 14 = .ok (.aload_n 0, 1) := by decide +kernel
theorem dX9_ends_15 : decode cX9_ends 15 = .ok (.iconst 0, 1) := by decide +kernel
theorem dX9_ends_16 : decode cX9_ends 16 = .ok (.putfield 189, 3) := by decide +kernel
theorem dX9_ends_19 : decode cX9_ends 19 = .ok (.aload_n 0, 1) := by decide +kernel
theorem dX9_ends_20 : decode cX9_ends 20 = .ok (.iload_n 1, 1) := by decide +kernel
theorem dX9_ends_21 : decode cX9_ends 21 = .ok (.invokevirtual 226, 3) := by decide +kernel
theorem dX9_ends_24 : decode cX9_ends 24 = .ok (.aload_n 0, 1) := by decide +kernel
theorem dX9_ends_25 : decode cX9_ends 25 = .ok (.invokevirtual 229, 3) := by decide +kernel
theorem dX9_ends_28 : decode cX9_ends 28 = .ok (.aload_n 0, 1) := by decide +kernel
theorem dX9_ends_29 : decode cX9_ends 29 = .ok (.getfield 189, 3) := by decide +kernel
theorem dX9_ends_32 : decode cX9_ends 32 = .ok (.ireturn, 1) := by decide +kernel
theorem dX9_guards_0 : decode cX9_guards 0 = .ok (.aload_n 0, 1) := by decide +kernel
theorem dX9_guards_1 : decode cX9_guards 1 = .ok (.iload_n 1, 1) := by decide +kernel
theorem dX9_guards_2 : decode cX9_guards 2 = .ok (.invokevirtual 158, 3) := by decide +kernel
theorem dX9_guards_5 : decode cX9_guards 5 = .ok (.ifCond .eq 22, 3) := by decide +kernel
theorem dX9_guards_8 : decode cX9_guards 8 = .ok (.iload_n 2, 1) := by decide +kernel
theorem dX9_guards_9 : decode cX9_guards 9 = .ok (.i2l, 1) := by decide +kernel
theorem dX9_guards_10 : decode cX9_guards 10 = .ok (.lconst 0, 1) := by decide +kernel
theorem dX9_guards_11 : decode cX9_guards 11 = .ok (.bipush 10, 2) := by decide +kernel
theorem dX9_guards_13 : decode cX9_guards 13 = .ok (.aload_n 0, 1) := by decide +kernel
theorem dX9_guards_14 : decode cX9_guards 14 = .ok (.getfield 26, 3) := by decide +kernel
theorem dX9_guards_17 : decode cX9_guards 17 = .ok (.iload_n 1, 1) := by decide +kernel
theorem dX9_guards_18 : decode cX9_guards 18 = .ok (.iaload, 1) := by decide +kernel
theorem dX9_guards_19 : decode cX9_guards 19 = .ok (.imul, 1) := by decide +kernel
theorem dX9_guards_20 : decode cX9_guards 20 = .ok (.i2l, 1) := by decide +kernel
theorem dX9_guards_21 : decode cX9_guards 21 = .ok (.invokestatic 66, 3) := by decide +kernel
theorem dX9_guards_24 : decode cX9_guards 24 = .ok (.ifCond .ne 5, 3) := by decide +kernel
theorem dX9_guards_27 : decode cX9_guards 27 = .ok (.iconst (-1), 1) := by decide +kernel
theorem dX9_guards_28 : decode cX9_guards 28 = .ok (.ireturn, 1) := by decide +kernel
theorem dX9_guards_29 : decode cX9_guards 29 = .ok (.aload_n 0, 1) := by decide +kernel
theorem dX9_guards_30 : decode cX9_guards 30 = .ok (.getfield 7, 3) := by decide +kernel
theorem dX9_guards_33 : decode cX9_guards 33 = .ok (.sipush 216, 3) := by decide +kernel
theorem dX9_guards_36 : decode cX9_guards 36 = .ok (.iload_n 1, 1) := by decide +kernel
theorem dX9_guards_37 : decode cX9_guards 37 = .ok (.iadd, 1) := by decide +kernel
theorem dX9_guards_38 : decode cX9_guards 38 = .ok (.iaload, 1) := by decide +kernel
theorem dX9_guards_39 : decode cX9_guards 39 = .ok (.istore_n 3, 1) := by decide +kernel
theorem dX9_guards_40 : decode cX9_guards 40 = .ok (.iload_n 3, 1) := by decide +kernel
theorem dX9_guards_41 : decode cX9_guards 41 = .ok (.iload_n 2, 1) := by decide +kernel
theorem dX9_guards_42 : decode cX9_guards 42 = .ok (.if_icmp .ne 6, 3) := by decide +kernel
theorem dX9_guards_45 : decode cX9_guards 45 = .ok (.bipush (-2), 2) := by decide +kernel
theorem dX9_guards_47 : decode cX9_guards 47 = .ok (.ireturn, 1) := by decide +kernel
theorem dX9_guards_48 : decode cX9_guards 48 = .ok (.aload_n 0, 1) := by decide +kernel
theorem dX9_guards_49 : decode cX9_guards 49 = .ok (.invokevirtual 167, 3) := by decide +kernel
theorem dX9_guards_52 : decode cX9_guards 52 = .ok (.aload_n 0, 1) := by decide +kernel
theorem dX9_guards_53 : decode cX9_guards 53 = .ok (.getfield 7, 3) := by decide +kernel
theorem dX9_guards_56 : decode cX9_guards 56 = .ok (.sipush 216, 3) := by decide +kernel
theorem dX9_guards_59 : decode cX9_guards 59 = .ok (.iload_n 1, 1) := by decide +kernel
theorem dX9_guards_60 : decode cX9_guards 60 = .ok (.iadd, 1) := by decide +kernel
theorem dX9_guards_61 : decode cX9_guards 61 = .ok (.iload_n 2, 1) := by decide +kernel
theorem dX9_guards_62 : decode cX9_guards 62 = .ok (.iastore, 1) := by decide +kernel
theorem dX9_guards_63 : decode cX9_guards 63 = .ok (.iload_n 3, 1) := by decide +kernel
theorem dX9_guards_64 : decode cX9_guards 64 = .ok (.ireturn, 1) := by decide +kernel
theorem dX9_seeds_0 : decode cX9_seeds 0 = .ok (.aload_n 0, 1) := by decide +kernel
theorem dX9_seeds_1 : decode cX9_seeds 1 = .ok (.getfield 7, 3) := by decide +kernel
theorem dX9_seeds_4 : decode cX9_seeds 4 = .ok (.sipush 281, 3) := by decide +kernel
theorem dX9_seeds_7 : decode cX9_seeds 7 = .ok (.iaload, 1) := by decide +kernel
theorem dX9_seeds_8 : decode cX9_seeds 8 = .ok (.istore_n 2, 1) := by decide +kernel
theorem dX9_seeds_9 : decode cX9_seeds 9 = .ok (.aload_n 0, 1) := by decide +kernel
theorem dX9_seeds_10 : decode cX9_seeds 10 = .ok (.getfield 7, 3) := by decide +kernel
theorem dX9_seeds_13 : decode cX9_seeds 13 = .ok (.sipush 281, 3) := by decide +kernel
theorem dX9_seeds_16 : decode cX9_seeds 16 = .ok (.iload_n 1, 1) := by decide +kernel
theorem dX9_seeds_17 : decode cX9_seeds 17 = .ok (.iastore, 1) := by decide +kernel
theorem dX9_seeds_18 : decode cX9_seeds 18 = .ok (.iload_n 2, 1) := by decide +kernel
theorem dX9_seeds_19 : decode cX9_seeds 19 = .ok (.ireturn, 1) := by decide +kernel
theorem dX9_undo_0 : decode cX9_undo 0 = .ok (.aload_n 0, 1) := by decide +kernel
theorem dX9_undo_1 : decode cX9_undo 1 = .ok (.getfield 54, 3) := by decide +kernel
theorem dX9_undo_4 : decode cX9_undo 4 = .ok (.ifCond .ne 6, 3) := by decide +kernel
theorem dX9_undo_7 : decode cX9_undo 7 = .ok (.bipush (-2), 2) := by decide +kernel
theorem dX9_undo_9 : decode cX9_undo 9 = .ok (.ireturn, 1) := by decide +kernel
theorem dX9_undo_10 : decode cX9_undo 10 = .ok (.aload_n 0, 1) := by decide +kernel
theorem dX9_undo_11 : decode cX9_undo 11 = .ok (.dup, 1) := by decide +kernel
theorem dX9_undo_12 : decode cX9_undo 12 = .ok (.getfield 54, 3) := by decide +kernel
theorem dX9_undo_15 : decode cX9_undo 15 = .ok (.iconst 1, 1) := by decide +kernel
theorem dX9_undo_16 : decode cX9_undo 16 = .ok (.isub, 1) := by decide +kernel
theorem dX9_undo_17 : decode cX9_undo 17 = .ok (.putfield 54, 3) := by decide +kernel
theorem dX9_undo_20 : decode cX9_undo 20 = .ok (.aload_n 0, 1) := by decide +kernel
theorem dX9_undo_21 : decode cX9_undo 21 = .ok (.sipush 849, 3) := by decide +kernel
theorem dX9_undo_24 : decode cX9_undo 24 = .ok (.sipush 283, 3) := by decide +kernel
theorem dX9_undo_27 : decode cX9_undo 27 = .ok (.aload_n 0, 1) := by decide +kernel
theorem dX9_undo_28 : decode cX9_undo 28 = .ok (.getfield 54, 3) := by decide +kernel
theorem dX9_undo_31 : decode cX9_undo 31 = .ok (.imul, 1) := by decide +kernel
theorem dX9_undo_32 : decode cX9_undo 32 = .ok (.iadd, 1) := by decide +kernel
theorem dX9_undo_33 : decode cX9_undo 33 = .ok (.iconst 0, 1) := by decide +kernel
theorem dX9_undo_34 : decode cX9_undo 34 = .ok (.invokevirtual 58, 3) := by decide +kernel
theorem dX9_undo_37 : decode cX9_undo 37 = .ok (.aload_n 0, 1) := by decide +kernel
theorem dX9_undo_38 : decode cX9_undo 38 = .ok (.getfield 54, 3) := by decide +kernel
theorem dX9_undo_41 : decode cX9_undo 41 = .ok (.ireturn, 1) := by decide +kernel
theorem dX9_cell_0 : decode cX9_cell 0 = .ok (.aload_n 0, 1) := by decide +kernel
theorem dX9_cell_1 : decode cX9_cell 1 = .ok (.iload_n 1, 1) := by decide +kernel
theorem dX9_cell_2 : decode cX9_cell 2 = .ok (.invokevirtual 158, 3) := by decide +kernel
theorem dX9_cell_5 : decode cX9_cell 5 = .ok (.ifCond .eq 15, 3) := by decide +kernel
theorem dX9_cell_8 : decode cX9_cell 8 = .ok (.iload_n 2, 1) := by decide +kernel
theorem dX9_cell_9 : decode cX9_cell 9 = .ok (.i2l, 1) := by decide +kernel
theorem dX9_cell_10 : decode cX9_cell 10 = .ok (.lconst 0, 1) := by decide +kernel
theorem dX9_cell_11 : decode cX9_cell 11 = .ok (.ldc2_w 139, 3) := by decide +kernel
theorem dX9_cell_14 : decode cX9_cell 14 = .ok (.invokestatic 66, 3) := by decide +kernel
theorem dX9_cell_17 : decode cX9_cell 17 = .ok (.ifCond .ne 5, 3) := by decide +kernel
theorem dX9_cell_20 : decode cX9_cell 20 = .ok (.iconst (-1), 1) := by decide +kernel
theorem dX9_cell_21 : decode cX9_cell 21 = .ok (.ireturn, 1) := by decide +kernel
theorem dX9_cell_22 : decode cX9_cell 22 = .ok (.iload_n 2, 1) := by decide +kernel
theorem dX9_cell_23 : decode cX9_cell 23 = .ok (.tableswitch 80 0 5 #[37, 44, 55, 62, 68, 74], 37) := by decide +kernel
theorem dX9_cell_60 : decode cX9_cell 60 = .ok (.aload_n 0, 1) := by decide +kernel
theorem dX9_cell_61 : decode cX9_cell 61 = .ok (.getfield 26, 3) := by decide +kernel
theorem dX9_cell_64 : decode cX9_cell 64 = .ok (.iload_n 1, 1) := by decide +kernel
theorem dX9_cell_65 : decode cX9_cell 65 = .ok (.iaload, 1) := by decide +kernel
theorem dX9_cell_66 : decode cX9_cell 66 = .ok (.ireturn, 1) := by decide +kernel
theorem dX9_cell_67 : decode cX9_cell 67 = .ok (.aload_n 0, 1) := by decide +kernel
theorem dX9_cell_68 : decode cX9_cell 68 = .ok (.getfield 7, 3) := by decide +kernel
theorem dX9_cell_71 : decode cX9_cell 71 = .ok (.sipush 216, 3) := by decide +kernel
theorem dX9_cell_74 : decode cX9_cell 74 = .ok (.iload_n 1, 1) := by decide +kernel
theorem dX9_cell_75 : decode cX9_cell 75 = .ok (.iadd, 1) := by decide +kernel
theorem dX9_cell_76 : decode cX9_cell 76 = .ok (.iaload, 1) := by decide +kernel
theorem dX9_cell_77 : decode cX9_cell 77 = .ok (.ireturn, 1) := by decide +kernel
theorem dX9_cell_78 : decode cX9_cell 78 = .ok (.aload_n 0, 1) := by decide +kernel
theorem dX9_cell_79 : decode cX9_cell 79 = .ok (.getfield 29, 3) := by decide +kernel
theorem dX9_cell_82 : decode cX9_cell 82 = .ok (.iload_n 1, 1) := by decide +kernel
theorem dX9_cell_83 : decode cX9_cell 83 = .ok (.iaload, 1) := by decide +kernel
theorem dX9_cell_84 : decode cX9_cell 84 = .ok (.ireturn, 1) := by decide +kernel
theorem dX9_cell_85 : decode cX9_cell 85 = .ok (.aload_n 0, 1) := by decide +kernel
theorem dX9_cell_86 : decode cX9_cell 86 = .ok (.iload_n 1, 1) := by decide +kernel
theorem dX9_cell_87 : decode cX9_cell 87 = .ok (.invokevirtual 145, 3) := by decide +kernel
theorem dX9_cell_90 : decode cX9_cell 90 = .ok (.ireturn, 1) := by decide +kernel
theorem dX9_cell_91 : decode cX9_cell 91 = .ok (.aload_n 0, 1) := by decide +kernel
theorem dX9_cell_92 : decode cX9_cell 92 = .ok (.iload_n 1, 1) := by decide +kernel
theorem dX9_cell_93 : decode cX9_cell 93 = .ok (.invokevirtual 205, 3) := by decide +kernel
theorem dX9_cell_96 : decode cX9_cell 96 = .ok (.ireturn, 1) := by decide +kernel
theorem dX9_cell_97 : decode cX9_cell 97 = .ok (.aload_n 0, 1) := by decide +kernel
theorem dX9_cell_98 : decode cX9_cell 98 = .ok (.iload_n 1, 1) := by decide +kernel
theorem dX9_cell_99 : decode cX9_cell 99 = .ok (.invokevirtual 173, 3) := by decide +kernel
theorem dX9_cell_102 : decode cX9_cell 102 = .ok (.ireturn, 1) := by decide +kernel
theorem dX9_cell_103 : decode cX9_cell 103 = .ok (.aload_n 0, 1) := by decide +kernel
theorem dX9_cell_104 : decode cX9_cell 104 = .ok (.getfield 7, 3) := by decide +kernel
theorem dX9_cell_107 : decode cX9_cell 107 = .ok (.sipush 220, 3) := by decide +kernel
theorem dX9_cell_110 : decode cX9_cell 110 = .ok (.bipush 6, 2) := by decide +kernel
theorem dX9_cell_112 : decode cX9_cell 112 = .ok (.iload_n 1, 1) := by decide +kernel
theorem dX9_cell_113 : decode cX9_cell 113 = .ok (.imul, 1) := by decide +kernel
theorem dX9_cell_114 : decode cX9_cell 114 = .ok (.iadd, 1) := by decide +kernel
theorem dX9_cell_115 : decode cX9_cell 115 = .ok (.iload_n 2, 1) := by decide +kernel
theorem dX9_cell_116 : decode cX9_cell 116 = .ok (.iadd, 1) := by decide +kernel
theorem dX9_cell_117 : decode cX9_cell 117 = .ok (.bipush 6, 2) := by decide +kernel
theorem dX9_cell_119 : decode cX9_cell 119 = .ok (.isub, 1) := by decide +kernel
theorem dX9_cell_120 : decode cX9_cell 120 = .ok (.iaload, 1) := by decide +kernel
theorem dX9_cell_121 : decode cX9_cell 121 = .ok (.ireturn, 1) := by decide +kernel
theorem dX9_call_0 : decode cX9_call 0 = .ok (.aload_n 0, 1) := by decide +kernel
theorem dX9_call_1 : decode cX9_call 1 = .ok (.iload_n 1, 1) := by decide +kernel
theorem dX9_call_2 : decode cX9_call 2 = .ok (.invokevirtual 208, 3) := by decide +kernel
theorem dX9_call_5 : decode cX9_call 5 = .ok (.ifCond .eq 15, 3) := by decide +kernel
theorem dX9_call_8 : decode cX9_call 8 = .ok (.iload_n 2, 1) := by decide +kernel
theorem dX9_call_9 : decode cX9_call 9 = .ok (.i2l, 1) := by decide +kernel
theorem dX9_call_10 : decode cX9_call 10 = .ok (.lconst 0, 1) := by decide +kernel
theorem dX9_call_11 : decode cX9_call 11 = .ok (.ldc2_w 232, 3) := by decide +kernel
theorem dX9_call_14 : decode cX9_call 14 = .ok (.invokestatic 66, 3) := by decide +kernel
theorem dX9_call_17 : decode cX9_call 17 = .ok (.ifCond .ne 6, 3) := by decide +kernel
theorem dX9_call_20 : decode cX9_call 20 = .ok (.ldc 234, 2) := by decide +kernel
theorem dX9_call_22 : decode cX9_call 22 = .ok (.ireturn, 1) := by decide +kernel
theorem dX9_call_23 : decode cX9_call 23 = .ok (.iload_n 2, 1) := by decide +kernel
theorem dX9_call_24 : decode cX9_call 24 = .ok (.tableswitch 84 0 5 #[40, 47, 54, 61, 68, 76], 40) := by decide +kernel
theorem dX9_call_64 : decode cX9_call 64 = .ok (.aload_n 0, 1) := by decide +kernel
theorem dX9_call_65 : decode cX9_call 65 = .ok (.iload_n 1, 1) := by decide +kernel
theorem dX9_call_66 : decode cX9_call 66 = .ok (.iconst 1, 1) := by decide +kernel
theorem dX9_call_67 : decode cX9_call 67 = .ok (.invokevirtual 141, 3) := by decide +kernel
theorem dX9_call_70 : decode cX9_call 70 = .ok (.ireturn, 1) := by decide +kernel
theorem dX9_call_71 : decode cX9_call 71 = .ok (.aload_n 0, 1) := by decide +kernel
theorem dX9_call_72 : decode cX9_call 72 = .ok (.iload_n 1, 1) := by decide +kernel
theorem dX9_call_73 : decode cX9_call 73 = .ok (.iconst 2, 1) := by decide +kernel
theorem dX9_call_74 : decode cX9_call 74 = .ok (.invokevirtual 141, 3) := by decide +kernel
theorem dX9_call_77 : decode cX9_call 77 = .ok (.ireturn, 1) := by decide +kernel
theorem dX9_call_78 : decode cX9_call 78 = .ok (.aload_n 0, 1) := by decide +kernel
theorem dX9_call_79 : decode cX9_call 79 = .ok (.iload_n 1, 1) := by decide +kernel
theorem dX9_call_80 : decode cX9_call 80 = .ok (.iconst 4, 1) := by decide +kernel
theorem dX9_call_81 : decode cX9_call 81 = .ok (.invokevirtual 141, 3) := by decide +kernel
theorem dX9_call_84 : decode cX9_call 84 = .ok (.ireturn, 1) := by decide +kernel
theorem dX9_call_85 : decode cX9_call 85 = .ok (.aload_n 0, 1) := by decide +kernel
theorem dX9_call_86 : decode cX9_call 86 = .ok (.iload_n 1, 1) := by decide +kernel
theorem dX9_call_87 : decode cX9_call 87 = .ok (.iconst 5, 1) := by decide +kernel
theorem dX9_call_88 : decode cX9_call 88 = .ok (.invokevirtual 141, 3) := by decide +kernel
theorem dX9_call_91 : decode cX9_call 91 = .ok (.ireturn, 1) := by decide +kernel
theorem dX9_call_92 : decode cX9_call 92 = .ok (.aload_n 0, 1) := by decide +kernel
theorem dX9_call_93 : decode cX9_call 93 = .ok (.iload_n 1, 1) := by decide +kernel
theorem dX9_call_94 : decode cX9_call 94 = .ok (.bipush 6, 2) := by decide +kernel
theorem dX9_call_96 : decode cX9_call 96 = .ok (.invokevirtual 141, 3) := by decide +kernel
theorem dX9_call_99 : decode cX9_call 99 = .ok (.ireturn, 1) := by decide +kernel
theorem dX9_call_100 : decode cX9_call 100 = .ok (.aload_n 0, 1) := by decide +kernel
theorem dX9_call_101 : decode cX9_call 101 = .ok (.iload_n 1, 1) := by decide +kernel
theorem dX9_call_102 : decode cX9_call 102 = .ok (.bipush 7, 2) := by decide +kernel
theorem dX9_call_104 : decode cX9_call 104 = .ok (.invokevirtual 141, 3) := by decide +kernel
theorem dX9_call_107 : decode cX9_call 107 = .ok (.ireturn, 1) := by decide +kernel
theorem dX9_call_108 : decode cX9_call 108 = .ok (.aload_n 0, 1) := by decide +kernel
theorem dX9_call_109 : decode cX9_call 109 = .ok (.iload_n 1, 1) := by decide +kernel
theorem dX9_call_110 : decode cX9_call 110 = .ok (.bipush 8, 2) := by decide +kernel
theorem dX9_call_112 : decode cX9_call 112 = .ok (.invokevirtual 141, 3) := by decide +kernel
theorem dX9_call_115 : decode cX9_call 115 = .ok (.ireturn, 1) := by decide +kernel
theorem dX9_level_0 : decode cX9_level 0 = .ok (.aload_n 0, 1) := by decide +kernel
theorem dX9_level_1 : decode cX9_level 1 = .ok (.iload_n 1, 1) := by decide +kernel
theorem dX9_level_2 : decode cX9_level 2 = .ok (.invokevirtual 208, 3) := by decide +kernel
theorem dX9_level_5 : decode cX9_level 5 = .ok (.ifCond .eq 21, 3) := by decide +kernel
theorem dX9_level_8 : decode cX9_level 8 = .ok (.aload_n 0, 1) := by decide +kernel
theorem dX9_level_9 : decode cX9_level 9 = .ok (.iload_n 2, 1) := by decide +kernel
theorem dX9_level_10 : decode cX9_level 10 = .ok (.invokevirtual 158, 3) := by decide +kernel
theorem dX9_level_13 : decode cX9_level 13 = .ok (.ifCond .eq 13, 3) := by decide +kernel
theorem dX9_level_16 : decode cX9_level 16 = .ok (.iload_n 3, 1) := by decide +kernel
theorem dX9_level_17 : decode cX9_level 17 = .ok (.i2l, 1) := by decide +kernel
theorem dX9_level_18 : decode cX9_level 18 = .ok (.lconst 0, 1) := by decide +kernel
theorem dX9_level_19 : decode cX9_level 19 = .ok (.lconst 1, 1) := by decide +kernel
theorem dX9_level_20 : decode cX9_level 20 = .ok (.invokestatic 66, 3) := by decide +kernel
theorem dX9_level_23 : decode cX9_level 23 = .ok (.ifCond .ne 5, 3) := by decide +kernel
theorem dX9_level_26 : decode cX9_level 26 = .ok (.iconst (-1), 1) := by decide +kernel
theorem dX9_level_27 : decode cX9_level 27 = .ok (.ireturn, 1) := by decide +kernel
theorem dX9_level_28 : decode cX9_level 28 = .ok (.aload_n 0, 1) := by decide +kernel
theorem dX9_level_29 : decode cX9_level 29 = .ok (.iload_n 1, 1) := by decide +kernel
theorem dX9_level_30 : decode cX9_level 30 = .ok (.iload_n 3, 1) := by decide +kernel
theorem dX9_level_31 : decode cX9_level 31 = .ok (.ifCond .ne 8, 3) := by decide +kernel
theorem dX9_level_34 : decode cX9_level 34 = .ok (.bipush 10, 2) := by decide +kernel
theorem dX9_level_36 : decode cX9_level 36 = .ok (.goto 5, 3) := by decide +kernel
theorem dX9_level_39 : decode cX9_level 39 = .ok (.bipush 14, 2) := by decide +kernel
theorem dX9_level_41 : decode cX9_level 41 = .ok (.iload_n 2, 1) := by decide +kernel
theorem dX9_level_42 : decode cX9_level 42 = .ok (.iadd, 1) := by decide +kernel
theorem dX9_level_43 : decode cX9_level 43 = .ok (.invokevirtual 141, 3) := by decide +kernel
theorem dX9_level_46 : decode cX9_level 46 = .ok (.ireturn, 1) := by decide +kernel
theorem dX9_queued_0 : decode cX9_queued 0 = .ok (.aload_n 0, 1) := by decide +kernel
theorem dX9_queued_1 : decode cX9_queued 1 = .ok (.iload_n 1, 1) := by decide +kernel
theorem dX9_queued_2 : decode cX9_queued 2 = .ok (.invokevirtual 158, 3) := by decide +kernel
theorem dX9_queued_5 : decode cX9_queued 5 = .ok (.ifCond .eq 16, 3) := by decide +kernel
theorem dX9_queued_8 : decode cX9_queued 8 = .ok (.iload_n 2, 1) := by decide +kernel
theorem dX9_queued_9 : decode cX9_queued 9 = .ok (.ifCond .lt 12, 3) := by decide +kernel
theorem dX9_queued_12 : decode cX9_queued 12 = .ok (.aload_n 0, 1) := by decide +kernel
theorem dX9_queued_13 : decode cX9_queued 13 = .ok (.iload_n 1, 1) := by decide +kernel
theorem dX9_queued_14 : decode cX9_queued 14 = .ok (.iload_n 2, 1) := by decide +kernel
theorem dX9_queued_15 : decode cX9_queued 15 = .ok (.invokevirtual 199, 3) := by decide +kernel
theorem dX9_queued_18 : decode cX9_queued 18 = .ok (.goto 4, 3) := by decide +kernel
theorem dX9_queued_21 : decode cX9_queued 21 = .ok (.iconst (-1), 1) := by decide +kernel
theorem dX9_queued_22 : decode cX9_queued 22 = .ok (.ireturn, 1) := by decide +kernel
theorem dX9_pair_0 : decode cX9_pair 0 = .ok (.iload_n 1, 1) := by decide +kernel
theorem dX9_pair_1 : decode cX9_pair 1 = .ok (.ifCond .lt 15, 3) := by decide +kernel
theorem dX9_pair_4 : decode cX9_pair 4 = .ok (.iload_n 2, 1) := by decide +kernel
theorem dX9_pair_5 : decode cX9_pair 5 = .ok (.i2l, 1) := by decide +kernel
theorem dX9_pair_6 : decode cX9_pair 6 = .ok (.lconst 0, 1) := by decide +kernel
theorem dX9_pair_7 : decode cX9_pair 7 = .ok (.ldc2_w 235, 3) := by decide +kernel
theorem dX9_pair_10 : decode cX9_pair 10 = .ok (.invokestatic 66, 3) := by decide +kernel
theorem dX9_pair_13 : decode cX9_pair 13 = .ok (.ifCond .ne 5, 3) := by decide +kernel
theorem dX9_pair_16 : decode cX9_pair 16 = .ok (.iconst (-1), 1) := by decide +kernel
theorem dX9_pair_17 : decode cX9_pair 17 = .ok (.ireturn, 1) := by decide +kernel
theorem dX9_pair_18 : decode cX9_pair 18 = .ok (.iload_n 1, 1) := by decide +kernel
theorem dX9_pair_19 : decode cX9_pair 19 = .ok (.aload_n 0, 1) := by decide +kernel
theorem dX9_pair_20 : decode cX9_pair 20 = .ok (.getfield 7, 3) := by decide +kernel
theorem dX9_pair_23 : decode cX9_pair 23 = .ok (.sipush 244, 3) := by decide +kernel
theorem dX9_pair_26 : decode cX9_pair 26 = .ok (.iaload, 1) := by decide +kernel
theorem dX9_pair_27 : decode cX9_pair 27 = .ok (.if_icmp .ge 20, 3) := by decide +kernel
theorem dX9_pair_30 : decode cX9_pair 30 = .ok (.aload_n 0, 1) := by decide +kernel
theorem dX9_pair_31 : decode cX9_pair 31 = .ok (.getfield 7, 3) := by decide +kernel
theorem dX9_pair_34 : decode cX9_pair 34 = .ok (.sipush 245, 3) := by decide +kernel
theorem dX9_pair_37 : decode cX9_pair 37 = .ok (.iconst 3, 1) := by decide +kernel
theorem dX9_pair_38 : decode cX9_pair 38 = .ok (.iload_n 1, 1) := by decide +kernel
theorem dX9_pair_39 : decode cX9_pair 39 = .ok (.imul, 1) := by decide +kernel
theorem dX9_pair_40 : decode cX9_pair 40 = .ok (.iadd, 1) := by decide +kernel
theorem dX9_pair_41 : decode cX9_pair 41 = .ok (.iload_n 2, 1) := by decide +kernel
theorem dX9_pair_42 : decode cX9_pair 42 = .ok (.iadd, 1) := by decide +kernel
theorem dX9_pair_43 : decode cX9_pair 43 = .ok (.iaload, 1) := by decide +kernel
theorem dX9_pair_44 : decode cX9_pair 44 = .ok (.goto 5, 3) := by decide +kernel
theorem dX9_pair_47 : decode cX9_pair 47 = .ok (.bipush (-9), 2) := by decide +kernel
theorem dX9_pair_49 : decode cX9_pair 49 = .ok (.ireturn, 1) := by decide +kernel
theorem dX9_shares_0 : decode cX9_shares 0 = .ok (.aload_n 0, 1) := by decide +kernel
theorem dX9_shares_1 : decode cX9_shares 1 = .ok (.getfield 26, 3) := by decide +kernel
theorem dX9_shares_4 : decode cX9_shares 4 = .ok (.iload_n 1, 1) := by decide +kernel
theorem dX9_shares_5 : decode cX9_shares 5 = .ok (.iaload, 1) := by decide +kernel
theorem dX9_shares_6 : decode cX9_shares 6 = .ok (.istore 6, 2) := by decide +kernel
theorem dX9_shares_8 : decode cX9_shares 8 = .ok (.lconst 0, 1) := by decide +kernel
theorem dX9_shares_9 : decode cX9_shares 9 = .ok (.lstore 7, 2) := by decide +kernel
theorem dX9_shares_11 : decode cX9_shares 11 = .ok (.iconst 0, 1) := by decide +kernel
theorem dX9_shares_12 : decode cX9_shares 12 = .ok (.istore 9, 2) := by decide +kernel
theorem dX9_shares_14 : decode cX9_shares 14 = .ok (.iload 9, 2) := by decide +kernel
theorem dX9_shares_16 : decode cX9_shares 16 = .ok (.iload 6, 2) := by decide +kernel
theorem dX9_shares_18 : decode cX9_shares 18 = .ok (.if_icmp .gt 111, 3) := by decide +kernel
theorem dX9_shares_21 : decode cX9_shares 21 = .ok (.aload_n 0, 1) := by decide +kernel
theorem dX9_shares_22 : decode cX9_shares 22 = .ok (.getfield 50, 3) := by decide +kernel
theorem dX9_shares_25 : decode cX9_shares 25 = .ok (.iload 9, 2) := by decide +kernel
theorem dX9_shares_27 : decode cX9_shares 27 = .ok (.lconst 1, 1) := by decide +kernel
theorem dX9_shares_28 : decode cX9_shares 28 = .ok (.lastore, 1) := by decide +kernel
theorem dX9_shares_29 : decode cX9_shares 29 = .ok (.iconst 0, 1) := by decide +kernel
theorem dX9_shares_30 : decode cX9_shares 30 = .ok (.istore 10, 2) := by decide +kernel
theorem dX9_shares_32 : decode cX9_shares 32 = .ok (.iload 10, 2) := by decide +kernel
theorem dX9_shares_34 : decode cX9_shares 34 = .ok (.iload 9, 2) := by decide +kernel
theorem dX9_shares_36 : decode cX9_shares 36 = .ok (.if_icmp .ge 37, 3) := by decide +kernel
theorem dX9_shares_39 : decode cX9_shares 39 = .ok (.aload_n 0, 1) := by decide +kernel
theorem dX9_shares_40 : decode cX9_shares 40 = .ok (.getfield 50, 3) := by decide +kernel
theorem dX9_shares_43 : decode cX9_shares 43 = .ok (.iload 9, 2) := by decide +kernel
theorem dX9_shares_45 : decode cX9_shares 45 = .ok (.dup2, 1) := by decide +kernel
theorem dX9_shares_46 : decode cX9_shares 46 = .ok (.laload, 1) := by decide +kernel
theorem dX9_shares_47 : decode cX9_shares 47 = .ok (.iload_n 3, 1) := by decide +kernel
theorem dX9_shares_48 : decode cX9_shares 48 = .ok (.iload 6, 2) := by decide +kernel
theorem dX9_shares_50 : decode cX9_shares 50 = .ok (.iload 10, 2) := by decide +kernel
theorem dX9_shares_52 : decode cX9_shares 52 = .ok (.isub, 1) := by decide +kernel
theorem dX9_shares_53 : decode cX9_shares 53 = .ok (.iload_n 2, 1) := by decide +kernel
theorem dX9_shares_54 : decode cX9_shares 54 = .ok (.invokestatic 154, 3) := by decide +kernel
theorem dX9_shares_57 : decode cX9_shares 57 = .ok (.imul, 1) := by decide +kernel
theorem dX9_shares_58 : decode cX9_shares 58 = .ok (.bipush 10, 2) := by decide +kernel
theorem dX9_shares_60 : decode cX9_shares 60 = .ok (.iload 4, 2) := by decide +kernel
theorem dX9_shares_62 : decode cX9_shares 62 = .ok (.imul, 1) := by decide +kernel
theorem dX9_shares_63 : decode cX9_shares 63 = .ok (.iadd, 1) := by decide +kernel
theorem dX9_shares_64 : decode cX9_shares 64 = .ok (.i2l, 1) := by decide +kernel
theorem dX9_shares_65 : decode cX9_shares 65 = .ok (.lmul, 1) := by decide +kernel
theorem dX9_shares_66 : decode cX9_shares 66 = .ok (.lastore, 1) := by decide +kernel
theorem dX9_shares_67 : decode cX9_shares 67 = .ok (.iinc 10 1, 3) := by decide +kernel
theorem dX9_shares_70 : decode cX9_shares 70 = .ok (.goto (-38), 3) := by decide +kernel
theorem dX9_shares_73 : decode cX9_shares 73 = .ok (.iload 9, 2) := by decide +kernel
theorem dX9_shares_75 : decode cX9_shares 75 = .ok (.iconst 1, 1) := by decide +kernel
theorem dX9_shares_76 : decode cX9_shares 76 = .ok (.iadd, 1) := by decide +kernel
theorem dX9_shares_77 : decode cX9_shares 77 = .ok (.istore 10, 2) := by decide +kernel
theorem dX9_shares_79 : decode cX9_shares 79 = .ok (.iload 10, 2) := by decide +kernel
theorem dX9_shares_81 : decode cX9_shares 81 = .ok (.iload 6, 2) := by decide +kernel
theorem dX9_shares_83 : decode cX9_shares 83 = .ok (.if_icmp .gt 28, 3) := by decide +kernel
theorem dX9_shares_86 : decode cX9_shares 86 = .ok (.aload_n 0, 1) := by decide +kernel
theorem dX9_shares_87 : decode cX9_shares 87 = .ok (.getfield 50, 3) := by decide +kernel
theorem dX9_shares_90 : decode cX9_shares 90 = .ok (.iload 9, 2) := by decide +kernel
theorem dX9_shares_92 : decode cX9_shares 92 = .ok (.dup2, 1) := by decide +kernel
theorem dX9_shares_93 : decode cX9_shares 93 = .ok (.laload, 1) := by decide +kernel
theorem dX9_shares_94 : decode cX9_shares 94 = .ok (.bipush 10, 2) := by decide +kernel
theorem dX9_shares_96 : decode cX9_shares 96 = .ok (.iload 5, 2) := by decide +kernel
theorem dX9_shares_98 : decode cX9_shares 98 = .ok (.imul, 1) := by decide +kernel
theorem dX9_shares_99 : decode cX9_shares 99 = .ok (.iload 10, 2) := by decide +kernel
theorem dX9_shares_101 : decode cX9_shares 101 = .ok (.imul, 1) := by decide +kernel
theorem dX9_shares_102 : decode cX9_shares 102 = .ok (.i2l, 1) := by decide +kernel
theorem dX9_shares_103 : decode cX9_shares 103 = .ok (.lmul, 1) := by decide +kernel
theorem dX9_shares_104 : decode cX9_shares 104 = .ok (.lastore, 1) := by decide +kernel
theorem dX9_shares_105 : decode cX9_shares 105 = .ok (.iinc 10 1, 3) := by decide +kernel
theorem dX9_shares_108 : decode cX9_shares 108 = .ok (.goto (-29), 3) := by decide +kernel
theorem dX9_shares_111 : decode cX9_shares 111 = .ok (.lload 7, 2) := by decide +kernel
theorem dX9_shares_113 : decode cX9_shares 113 = .ok (.aload_n 0, 1) := by decide +kernel
theorem dX9_shares_114 : decode cX9_shares 114 = .ok (.getfield 50, 3) := by decide +kernel
theorem dX9_shares_117 : decode cX9_shares 117 = .ok (.iload 9, 2) := by decide +kernel
theorem dX9_shares_119 : decode cX9_shares 119 = .ok (.laload, 1) := by decide +kernel
theorem dX9_shares_120 : decode cX9_shares 120 = .ok (.ladd, 1) := by decide +kernel
theorem dX9_shares_121 : decode cX9_shares 121 = .ok (.lstore 7, 2) := by decide +kernel
theorem dX9_shares_123 : decode cX9_shares 123 = .ok (.iinc 9 1, 3) := by decide +kernel
theorem dX9_shares_126 : decode cX9_shares 126 = .ok (.goto (-112), 3) := by decide +kernel
theorem dX9_shares_129 : decode cX9_shares 129 = .ok (.lload 7, 2) := by decide +kernel
theorem dX9_shares_131 : decode cX9_shares 131 = .ok (.lreturn, 1) := by decide +kernel
theorem dX9_areRates_0 : decode cX9_areRates 0 = .ok (.iload_n 0, 1) := by decide +kernel
theorem dX9_areRates_1 : decode cX9_areRates 1 = .ok (.i2l, 1) := by decide +kernel
theorem dX9_areRates_2 : decode cX9_areRates 2 = .ok (.lconst 0, 1) := by decide +kernel
theorem dX9_areRates_3 : decode cX9_areRates 3 = .ok (.ldc2_w 237, 3) := by decide +kernel
theorem dX9_areRates_6 : decode cX9_areRates 6 = .ok (.invokestatic 66, 3) := by decide +kernel
theorem dX9_areRates_9 : decode cX9_areRates 9 = .ok (.ifCond .eq 31, 3) := by decide +kernel
theorem dX9_areRates_12 : decode cX9_areRates 12 = .ok (.iload_n 1, 1) := by decide +kernel
theorem dX9_areRates_13 : decode cX9_areRates 13 = .ok (.i2l, 1) := by decide +kernel
theorem dX9_areRates_14 : decode cX9_areRates 14 = .ok (.lconst 0, 1) := by decide +kernel
theorem dX9_areRates_15 : decode cX9_areRates 15 = .ok (.ldc2_w 237, 3) := by decide +kernel
theorem dX9_areRates_18 : decode cX9_areRates 18 = .ok (.invokestatic 66, 3) := by decide +kernel
theorem dX9_areRates_21 : decode cX9_areRates 21 = .ok (.ifCond .eq 19, 3) := by decide +kernel
theorem dX9_areRates_24 : decode cX9_areRates 24 = .ok (.iload_n 2, 1) := by decide +kernel
theorem dX9_areRates_25 : decode cX9_areRates 25 = .ok (.i2l, 1) := by decide +kernel
theorem dX9_areRates_26 : decode cX9_areRates 26 = .ok (.lconst 1, 1) := by decide +kernel
theorem dX9_areRates_27 : decode cX9_areRates 27 = .ok (.ldc2_w 237, 3) := by decide +kernel
theorem dX9_areRates_30 : decode cX9_areRates 30 = .ok (.invokestatic 66, 3) := by decide +kernel
theorem dX9_areRates_33 : decode cX9_areRates 33 = .ok (.ifCond .eq 7, 3) := by decide +kernel
theorem dX9_areRates_36 : decode cX9_areRates 36 = .ok (.iconst 1, 1) := by decide +kernel
theorem dX9_areRates_37 : decode cX9_areRates 37 = .ok (.goto 4, 3) := by decide +kernel
theorem dX9_areRates_40 : decode cX9_areRates 40 = .ok (.iconst 0, 1) := by decide +kernel
theorem dX9_areRates_41 : decode cX9_areRates 41 = .ok (.ireturn, 1) := by decide +kernel
theorem dX9_divisor_0 : decode cX9_divisor 0 = .ok (.lload_n 0, 1) := by decide +kernel
theorem dX9_divisor_1 : decode cX9_divisor 1 = .ok (.lstore 4, 2) := by decide +kernel
theorem dX9_divisor_3 : decode cX9_divisor 3 = .ok (.lload_n 2, 1) := by decide +kernel
theorem dX9_divisor_4 : decode cX9_divisor 4 = .ok (.lstore 6, 2) := by decide +kernel
theorem dX9_divisor_6 : decode cX9_divisor 6 = .ok (.lload 6, 2) := by decide +kernel
theorem dX9_divisor_8 : decode cX9_divisor 8 = .ok (.lconst 0, 1) := by decide +kernel
theorem dX9_divisor_9 : decode cX9_divisor 9 = .ok (.lcmp, 1) := by decide +kernel
theorem dX9_divisor_10 : decode cX9_divisor 10 = .ok (.ifCond .eq 21, 3) := by decide +kernel
theorem dX9_divisor_13 : decode cX9_divisor 13 = .ok (.lload 4, 2) := by decide +kernel
theorem dX9_divisor_15 : decode cX9_divisor 15 = .ok (.lload 6, 2) := by decide +kernel
theorem dX9_divisor_17 : decode cX9_divisor 17 = .ok (.lrem, 1) := by decide +kernel
theorem dX9_divisor_18 : decode cX9_divisor 18 = .ok (.lstore 8, 2) := by decide +kernel
theorem dX9_divisor_20 : decode cX9_divisor 20 = .ok (.lload 6, 2) := by decide +kernel
theorem dX9_divisor_22 : decode cX9_divisor 22 = .ok (.lstore 4, 2) := by decide +kernel
theorem dX9_divisor_24 : decode cX9_divisor 24 = .ok (.lload 8, 2) := by decide +kernel
theorem dX9_divisor_26 : decode cX9_divisor 26 = .ok (.lstore 6, 2) := by decide +kernel
theorem dX9_divisor_28 : decode cX9_divisor 28 = .ok (.goto (-22), 3) := by decide +kernel
theorem dX9_divisor_31 : decode cX9_divisor 31 = .ok (.lload 4, 2) := by decide +kernel
theorem dX9_divisor_33 : decode cX9_divisor 33 = .ok (.lreturn, 1) := by decide +kernel
theorem dX9_lost_0 : decode cX9_lost 0 = .ok (.aload_n 0, 1) := by decide +kernel
theorem dX9_lost_1 : decode cX9_lost 1 = .ok (.iload_n 1, 1) := by decide +kernel
theorem dX9_lost_2 : decode cX9_lost 2 = .ok (.invokevirtual 158, 3) := by decide +kernel
theorem dX9_lost_5 : decode cX9_lost 5 = .ok (.ifCond .eq 37, 3) := by decide +kernel
theorem dX9_lost_8 : decode cX9_lost 8 = .ok (.iload_n 2, 1) := by decide +kernel
theorem dX9_lost_9 : decode cX9_lost 9 = .ok (.iload_n 3, 1) := by decide +kernel
theorem dX9_lost_10 : decode cX9_lost 10 = .ok (.iload 4, 2) := by decide +kernel
theorem dX9_lost_12 : decode cX9_lost 12 = .ok (.invokestatic 239, 3) := by decide +kernel
theorem dX9_lost_15 : decode cX9_lost 15 = .ok (.ifCond .eq 27, 3) := by decide +kernel
theorem dX9_lost_18 : decode cX9_lost 18 = .ok (.iload 5, 2) := by decide +kernel
theorem dX9_lost_20 : decode cX9_lost 20 = .ok (.i2l, 1) := by decide +kernel
theorem dX9_lost_21 : decode cX9_lost 21 = .ok (.lconst 0, 1) := by decide +kernel
theorem dX9_lost_22 : decode cX9_lost 22 = .ok (.ldc2_w 235, 3) := by decide +kernel
theorem dX9_lost_25 : decode cX9_lost 25 = .ok (.invokestatic 66, 3) := by decide +kernel
theorem dX9_lost_28 : decode cX9_lost 28 = .ok (.ifCond .eq 14, 3) := by decide +kernel
theorem dX9_lost_31 : decode cX9_lost 31 = .ok (.iload 6, 2) := by decide +kernel
theorem dX9_lost_33 : decode cX9_lost 33 = .ok (.i2l, 1) := by decide +kernel
theorem dX9_lost_34 : decode cX9_lost 34 = .ok (.lconst 0, 1) := by decide +kernel
theorem dX9_lost_35 : decode cX9_lost 35 = .ok (.lconst 1, 1) := by decide +kernel
theorem dX9_lost_36 : decode cX9_lost 36 = .ok (.invokestatic 66, 3) := by decide +kernel
theorem dX9_lost_39 : decode cX9_lost 39 = .ok (.ifCond .ne 7, 3) := by decide +kernel
theorem dX9_lost_42 : decode cX9_lost 42 = .ok (.ldc2_w 243, 3) := by decide +kernel
theorem dX9_lost_45 : decode cX9_lost 45 = .ok (.lreturn, 1) := by decide +kernel
theorem dX9_lost_46 : decode cX9_lost 46 = .ok (.aload_n 0, 1) := by decide +kernel
theorem dX9_lost_47 : decode cX9_lost 47 = .ok (.getfield 26, 3) := by decide +kernel
theorem dX9_lost_50 : decode cX9_lost 50 = .ok (.iload_n 1, 1) := by decide +kernel
theorem dX9_lost_51 : decode cX9_lost 51 = .ok (.iaload, 1) := by decide +kernel
theorem dX9_lost_52 : decode cX9_lost 52 = .ok (.istore 7, 2) := by decide +kernel
theorem dX9_lost_54 : decode cX9_lost 54 = .ok (.ldc2_w 245, 3) := by decide +kernel
theorem dX9_lost_57 : decode cX9_lost 57 = .ok (.aload_n 0, 1) := by decide +kernel
theorem dX9_lost_58 : decode cX9_lost 58 = .ok (.iload_n 1, 1) := by decide +kernel
theorem dX9_lost_59 : decode cX9_lost 59 = .ok (.aload_n 0, 1) := by decide +kernel
theorem dX9_lost_60 : decode cX9_lost 60 = .ok (.getfield 7, 3) := by decide +kernel
theorem dX9_lost_63 : decode cX9_lost 63 = .ok (.sipush 216, 3) := by decide +kernel
theorem dX9_lost_66 : decode cX9_lost 66 = .ok (.iload_n 1, 1) := by decide +kernel
theorem dX9_lost_67 : decode cX9_lost 67 = .ok (.iadd, 1) := by decide +kernel
theorem dX9_lost_68 : decode cX9_lost 68 = .ok (.iaload, 1) := by decide +kernel
theorem dX9_lost_69 : decode cX9_lost 69 = .ok (.iload_n 2, 1) := by decide +kernel
theorem dX9_lost_70 : decode cX9_lost 70 = .ok (.iload_n 3, 1) := by decide +kernel
theorem dX9_lost_71 : decode cX9_lost 71 = .ok (.iload 4, 2) := by decide +kernel
theorem dX9_lost_73 : decode cX9_lost 73 = .ok (.invokevirtual 247, 3) := by decide +kernel
theorem dX9_lost_76 : decode cX9_lost 76 = .ok (.lmul, 1) := by decide +kernel
theorem dX9_lost_77 : decode cX9_lost 77 = .ok (.lstore 8, 2) := by decide +kernel
theorem dX9_lost_79 : decode cX9_lost 79 = .ok (.lconst 0, 1) := by decide +kernel
theorem dX9_lost_80 : decode cX9_lost 80 = .ok (.lstore 10, 2) := by decide +kernel
theorem dX9_lost_82 : decode cX9_lost 82 = .ok (.iconst 0, 1) := by decide +kernel
theorem dX9_lost_83 : decode cX9_lost 83 = .ok (.istore 12, 2) := by decide +kernel
theorem dX9_lost_85 : decode cX9_lost 85 = .ok (.iload 12, 2) := by decide +kernel
theorem dX9_lost_87 : decode cX9_lost 87 = .ok (.iload 7, 2) := by decide +kernel
theorem dX9_lost_89 : decode cX9_lost 89 = .ok (.if_icmp .gt 83, 3) := by decide +kernel
theorem dX9_lost_92 : decode cX9_lost 92 = .ok (.iload 5, 2) := by decide +kernel
theorem dX9_lost_94 : decode cX9_lost 94 = .ok (.ifCond .ne 27, 3) := by decide +kernel
theorem dX9_lost_97 : decode cX9_lost 97 = .ok (.bipush 10, 2) := by decide +kernel
theorem dX9_lost_99 : decode cX9_lost 99 = .ok (.iload 7, 2) := by decide +kernel
theorem dX9_lost_101 : decode cX9_lost 101 = .ok (.iload 12, 2) := by decide +kernel
theorem dX9_lost_103 : decode cX9_lost 103 = .ok (.isub, 1) := by decide +kernel
theorem dX9_lost_104 : decode cX9_lost 104 = .ok (.aload_n 0, 1) := by decide +kernel
theorem dX9_lost_105 : decode cX9_lost 105 = .ok (.getfield 7, 3) := by decide +kernel
theorem dX9_lost_108 : decode cX9_lost 108 = .ok (.sipush 216, 3) := by decide +kernel
theorem dX9_lost_111 : decode cX9_lost 111 = .ok (.iload_n 1, 1) := by decide +kernel
theorem dX9_lost_112 : decode cX9_lost 112 = .ok (.iadd, 1) := by decide +kernel
theorem dX9_lost_113 : decode cX9_lost 113 = .ok (.iaload, 1) := by decide +kernel
theorem dX9_lost_114 : decode cX9_lost 114 = .ok (.invokestatic 154, 3) := by decide +kernel
theorem dX9_lost_117 : decode cX9_lost 117 = .ok (.isub, 1) := by decide +kernel
theorem dX9_lost_118 : decode cX9_lost 118 = .ok (.goto 30, 3) := by decide +kernel
theorem dX9_lost_121 : decode cX9_lost 121 = .ok (.iload 5, 2) := by decide +kernel
theorem dX9_lost_123 : decode cX9_lost 123 = .ok (.iconst 1, 1) := by decide +kernel
theorem dX9_lost_124 : decode cX9_lost 124 = .ok (.if_icmp .ne 19, 3) := by decide +kernel
theorem dX9_lost_127 : decode cX9_lost 127 = .ok (.iload 12, 2) := by decide +kernel
theorem dX9_lost_129 : decode cX9_lost 129 = .ok (.iload 7, 2) := by decide +kernel
theorem dX9_lost_131 : decode cX9_lost 131 = .ok (.if_icmp .ne 8, 3) := by decide +kernel
theorem dX9_lost_134 : decode cX9_lost 134 = .ok (.bipush 10, 2) := by decide +kernel
theorem dX9_lost_136 : decode cX9_lost 136 = .ok (.goto 12, 3) := by decide +kernel
theorem dX9_lost_139 : decode cX9_lost 139 = .ok (.iconst 0, 1) := by decide +kernel
theorem dX9_lost_140 : decode cX9_lost 140 = .ok (.goto 8, 3) := by decide +kernel
theorem dX9_lost_143 : decode cX9_lost 143 = .ok (.bipush 10, 2) := by decide +kernel
theorem dX9_lost_145 : decode cX9_lost 145 = .ok (.iload 12, 2) := by decide +kernel
theorem dX9_lost_147 : decode cX9_lost 147 = .ok (.imul, 1) := by decide +kernel
theorem dX9_lost_148 : decode cX9_lost 148 = .ok (.istore 13, 2) := by decide +kernel
theorem dX9_lost_150 : decode cX9_lost 150 = .ok (.lload 10, 2) := by decide +kernel
theorem dX9_lost_152 : decode cX9_lost 152 = .ok (.iload 13, 2) := by decide +kernel
theorem dX9_lost_154 : decode cX9_lost 154 = .ok (.i2l, 1) := by decide +kernel
theorem dX9_lost_155 : decode cX9_lost 155 = .ok (.aload_n 0, 1) := by decide +kernel
theorem dX9_lost_156 : decode cX9_lost 156 = .ok (.getfield 50, 3) := by decide +kernel
theorem dX9_lost_159 : decode cX9_lost 159 = .ok (.iload 12, 2) := by decide +kernel
theorem dX9_lost_161 : decode cX9_lost 161 = .ok (.laload, 1) := by decide +kernel
theorem dX9_lost_162 : decode cX9_lost 162 = .ok (.lmul, 1) := by decide +kernel
theorem dX9_lost_163 : decode cX9_lost 163 = .ok (.ladd, 1) := by decide +kernel
theorem dX9_lost_164 : decode cX9_lost 164 = .ok (.lstore 10, 2) := by decide +kernel
theorem dX9_lost_166 : decode cX9_lost 166 = .ok (.iinc 12 1, 3) := by decide +kernel
theorem dX9_lost_169 : decode cX9_lost 169 = .ok (.goto (-84), 3) := by decide +kernel
theorem dX9_lost_172 : decode cX9_lost 172 = .ok (.lload 10, 2) := by decide +kernel
theorem dX9_lost_174 : decode cX9_lost 174 = .ok (.lload 8, 2) := by decide +kernel
theorem dX9_lost_176 : decode cX9_lost 176 = .ok (.invokestatic 251, 3) := by decide +kernel
theorem dX9_lost_179 : decode cX9_lost 179 = .ok (.lstore 12, 2) := by decide +kernel
theorem dX9_lost_181 : decode cX9_lost 181 = .ok (.iload 6, 2) := by decide +kernel
theorem dX9_lost_183 : decode cX9_lost 183 = .ok (.ifCond .ne 11, 3) := by decide +kernel
theorem dX9_lost_186 : decode cX9_lost 186 = .ok (.lload 10, 2) := by decide +kernel
theorem dX9_lost_188 : decode cX9_lost 188 = .ok (.lload 12, 2) := by decide +kernel
theorem dX9_lost_190 : decode cX9_lost 190 = .ok (.ldiv, 1) := by decide +kernel
theorem dX9_lost_191 : decode cX9_lost 191 = .ok (.goto 8, 3) := by decide +kernel
theorem dX9_lost_194 : decode cX9_lost 194 = .ok (.lload 8, 2) := by decide +kernel
theorem dX9_lost_196 : decode cX9_lost 196 = .ok (.lload 12, 2) := by decide +kernel
theorem dX9_lost_198 : decode cX9_lost 198 = .ok (.ldiv, 1) := by decide +kernel
theorem dX9_lost_199 : decode cX9_lost 199 = .ok (.lreturn, 1) := by decide +kernel
theorem dX9_best_0 : decode cX9_best 0 = .ok (.aload_n 0, 1) := by decide +kernel
theorem dX9_best_1 : decode cX9_best 1 = .ok (.iload_n 1, 1) := by decide +kernel
theorem dX9_best_2 : decode cX9_best 2 = .ok (.invokevirtual 158, 3) := by decide +kernel
theorem dX9_best_5 : decode cX9_best 5 = .ok (.ifCond .eq 26, 3) := by decide +kernel
theorem dX9_best_8 : decode cX9_best 8 = .ok (.iload_n 2, 1) := by decide +kernel
theorem dX9_best_9 : decode cX9_best 9 = .ok (.iload_n 3, 1) := by decide +kernel
theorem dX9_best_10 : decode cX9_best 10 = .ok (.iload 4, 2) := by decide +kernel
theorem dX9_best_12 : decode cX9_best 12 = .ok (.invokestatic 239, 3) := by decide +kernel
theorem dX9_best_15 : decode cX9_best 15 = .ok (.ifCond .eq 16, 3) := by decide +kernel
theorem dX9_best_18 : decode cX9_best 18 = .ok (.iload 5, 2) := by decide +kernel
theorem dX9_best_20 : decode cX9_best 20 = .ok (.i2l, 1) := by decide +kernel
theorem dX9_best_21 : decode cX9_best 21 = .ok (.lconst 1, 1) := by decide +kernel
theorem dX9_best_22 : decode cX9_best 22 = .ok (.ldc2_w 255, 3) := by decide +kernel
theorem dX9_best_25 : decode cX9_best 25 = .ok (.invokestatic 66, 3) := by decide +kernel
theorem dX9_best_28 : decode cX9_best 28 = .ok (.ifCond .ne 5, 3) := by decide +kernel
theorem dX9_best_31 : decode cX9_best 31 = .ok (.iconst (-1), 1) := by decide +kernel
theorem dX9_best_32 : decode cX9_best 32 = .ok (.ireturn, 1) := by decide +kernel
theorem dX9_best_33 : decode cX9_best 33 = .ok (.iconst 0, 1) := by decide +kernel
theorem dX9_best_34 : decode cX9_best 34 = .ok (.istore 6, 2) := by decide +kernel
theorem dX9_best_36 : decode cX9_best 36 = .ok (.iload 6, 2) := by decide +kernel
theorem dX9_best_38 : decode cX9_best 38 = .ok (.bipush 10, 2) := by decide +kernel
theorem dX9_best_40 : decode cX9_best 40 = .ok (.aload_n 0, 1) := by decide +kernel
theorem dX9_best_41 : decode cX9_best 41 = .ok (.getfield 26, 3) := by decide +kernel
theorem dX9_best_44 : decode cX9_best 44 = .ok (.iload_n 1, 1) := by decide +kernel
theorem dX9_best_45 : decode cX9_best 45 = .ok (.iaload, 1) := by decide +kernel
theorem dX9_best_46 : decode cX9_best 46 = .ok (.imul, 1) := by decide +kernel
theorem dX9_best_47 : decode cX9_best 47 = .ok (.if_icmp .gt 46, 3) := by decide +kernel
theorem dX9_best_50 : decode cX9_best 50 = .ok (.aload_n 0, 1) := by decide +kernel
theorem dX9_best_51 : decode cX9_best 51 = .ok (.iload_n 1, 1) := by decide +kernel
theorem dX9_best_52 : decode cX9_best 52 = .ok (.iload 6, 2) := by decide +kernel
theorem dX9_best_54 : decode cX9_best 54 = .ok (.iload_n 2, 1) := by decide +kernel
theorem dX9_best_55 : decode cX9_best 55 = .ok (.iload_n 3, 1) := by decide +kernel
theorem dX9_best_56 : decode cX9_best 56 = .ok (.iload 4, 2) := by decide +kernel
theorem dX9_best_58 : decode cX9_best 58 = .ok (.invokevirtual 247, 3) := by decide +kernel
theorem dX9_best_61 : decode cX9_best 61 = .ok (.lstore 7, 2) := by decide +kernel
theorem dX9_best_63 : decode cX9_best 63 = .ok (.iload 5, 2) := by decide +kernel
theorem dX9_best_65 : decode cX9_best 65 = .ok (.i2l, 1) := by decide +kernel
theorem dX9_best_66 : decode cX9_best 66 = .ok (.aload_n 0, 1) := by decide +kernel
theorem dX9_best_67 : decode cX9_best 67 = .ok (.getfield 50, 3) := by decide +kernel
theorem dX9_best_70 : decode cX9_best 70 = .ok (.aload_n 0, 1) := by decide +kernel
theorem dX9_best_71 : decode cX9_best 71 = .ok (.getfield 26, 3) := by decide +kernel
theorem dX9_best_74 : decode cX9_best 74 = .ok (.iload_n 1, 1) := by decide +kernel
theorem dX9_best_75 : decode cX9_best 75 = .ok (.iaload, 1) := by decide +kernel
theorem dX9_best_76 : decode cX9_best 76 = .ok (.laload, 1) := by decide +kernel
theorem dX9_best_77 : decode cX9_best 77 = .ok (.lmul, 1) := by decide +kernel
theorem dX9_best_78 : decode cX9_best 78 = .ok (.lload 7, 2) := by decide +kernel
theorem dX9_best_80 : decode cX9_best 80 = .ok (.lcmp, 1) := by decide +kernel
theorem dX9_best_81 : decode cX9_best 81 = .ok (.ifCond .gt 6, 3) := by decide +kernel
theorem dX9_best_84 : decode cX9_best 84 = .ok (.iload 6, 2) := by decide +kernel
theorem dX9_best_86 : decode cX9_best 86 = .ok (.ireturn, 1) := by decide +kernel
theorem dX9_best_87 : decode cX9_best 87 = .ok (.iinc 6 1, 3) := by decide +kernel
theorem dX9_best_90 : decode cX9_best 90 = .ok (.goto (-54), 3) := by decide +kernel
theorem dX9_best_93 : decode cX9_best 93 = .ok (.bipush (-9), 2) := by decide +kernel
theorem dX9_best_95 : decode cX9_best 95 = .ok (.ireturn, 1) := by decide +kernel
theorem dX9_sees_0 : decode cX9_sees 0 = .ok (.iload_n 1, 1) := by decide +kernel
theorem dX9_sees_1 : decode cX9_sees 1 = .ok (.i2l, 1) := by decide +kernel
theorem dX9_sees_2 : decode cX9_sees 2 = .ok (.lconst 0, 1) := by decide +kernel
theorem dX9_sees_3 : decode cX9_sees 3 = .ok (.ldc2_w 232, 3) := by decide +kernel
theorem dX9_sees_6 : decode cX9_sees 6 = .ok (.invokestatic 66, 3) := by decide +kernel
theorem dX9_sees_9 : decode cX9_sees 9 = .ok (.ifCond .eq 13, 3) := by decide +kernel
theorem dX9_sees_12 : decode cX9_sees 12 = .ok (.iload_n 2, 1) := by decide +kernel
theorem dX9_sees_13 : decode cX9_sees 13 = .ok (.i2l, 1) := by decide +kernel
theorem dX9_sees_14 : decode cX9_sees 14 = .ok (.lconst 0, 1) := by decide +kernel
theorem dX9_sees_15 : decode cX9_sees 15 = .ok (.lconst 1, 1) := by decide +kernel
theorem dX9_sees_16 : decode cX9_sees 16 = .ok (.invokestatic 66, 3) := by decide +kernel
theorem dX9_sees_19 : decode cX9_sees 19 = .ok (.ifCond .ne 5, 3) := by decide +kernel
theorem dX9_sees_22 : decode cX9_sees 22 = .ok (.iconst (-1), 1) := by decide +kernel
theorem dX9_sees_23 : decode cX9_sees 23 = .ok (.ireturn, 1) := by decide +kernel
theorem dX9_sees_24 : decode cX9_sees 24 = .ok (.aload_n 0, 1) := by decide +kernel
theorem dX9_sees_25 : decode cX9_sees 25 = .ok (.getfield 136, 3) := by decide +kernel
theorem dX9_sees_28 : decode cX9_sees 28 = .ok (.bipush 6, 2) := by decide +kernel
theorem dX9_sees_30 : decode cX9_sees 30 = .ok (.if_icmp .ne 6, 3) := by decide +kernel
theorem dX9_sees_33 : decode cX9_sees 33 = .ok (.bipush (-3), 2) := by decide +kernel
theorem dX9_sees_35 : decode cX9_sees 35 = .ok (.ireturn, 1) := by decide +kernel
theorem dX9_sees_36 : decode cX9_sees 36 = .ok (.aload_n 0, 1) := by decide +kernel
theorem dX9_sees_37 : decode cX9_sees 37 = .ok (.getfield 17, 3) := by decide +kernel
theorem dX9_sees_40 : decode cX9_sees 40 = .ok (.aload_n 0, 1) := by decide +kernel
theorem dX9_sees_41 : decode cX9_sees 41 = .ok (.getfield 136, 3) := by decide +kernel
theorem dX9_sees_44 : decode cX9_sees 44 = .ok (.iload_n 1, 1) := by decide +kernel
theorem dX9_sees_45 : decode cX9_sees 45 = .ok (.iastore, 1) := by decide +kernel
theorem dX9_sees_46 : decode cX9_sees 46 = .ok (.aload_n 0, 1) := by decide +kernel
theorem dX9_sees_47 : decode cX9_sees 47 = .ok (.getfield 20, 3) := by decide +kernel
theorem dX9_sees_50 : decode cX9_sees 50 = .ok (.aload_n 0, 1) := by decide +kernel
theorem dX9_sees_51 : decode cX9_sees 51 = .ok (.getfield 136, 3) := by decide +kernel
theorem dX9_sees_54 : decode cX9_sees 54 = .ok (.iload_n 2, 1) := by decide +kernel
theorem dX9_sees_55 : decode cX9_sees 55 = .ok (.iastore, 1) := by decide +kernel
theorem dX9_sees_56 : decode cX9_sees 56 = .ok (.aload_n 0, 1) := by decide +kernel
theorem dX9_sees_57 : decode cX9_sees 57 = .ok (.dup, 1) := by decide +kernel
theorem dX9_sees_58 : decode cX9_sees 58 = .ok (.getfield 136, 3) := by decide +kernel
theorem dX9_sees_61 : decode cX9_sees 61 = .ok (.iconst 1, 1) := by decide +kernel
theorem dX9_sees_62 : decode cX9_sees 62 = .ok (.iadd, 1) := by decide +kernel
theorem dX9_sees_63 : decode cX9_sees 63 = .ok (.putfield 136, 3) := by decide +kernel
theorem dX9_sees_66 : decode cX9_sees 66 = .ok (.aload_n 0, 1) := by decide +kernel
theorem dX9_sees_67 : decode cX9_sees 67 = .ok (.getfield 136, 3) := by decide +kernel
theorem dX9_sees_70 : decode cX9_sees 70 = .ok (.ireturn, 1) := by decide +kernel
theorem dX9_forget_0 : decode cX9_forget 0 = .ok (.aload_n 0, 1) := by decide +kernel
theorem dX9_forget_1 : decode cX9_forget 1 = .ok (.getfield 136, 3) := by decide +kernel
theorem dX9_forget_4 : decode cX9_forget 4 = .ok (.istore_n 1, 1) := by decide +kernel
theorem dX9_forget_5 : decode cX9_forget 5 = .ok (.aload_n 0, 1) := by decide +kernel
theorem dX9_forget_6 : decode cX9_forget 6 = .ok (.iconst 0, 1) := by decide +kernel
theorem dX9_forget_7 : decode cX9_forget 7 = .ok (.putfield 136, 3) := by decide +kernel
theorem dX9_forget_10 : decode cX9_forget 10 = .ok (.iload_n 1, 1) := by decide +kernel
theorem dX9_forget_11 : decode cX9_forget 11 = .ok (.ireturn, 1) := by decide +kernel
theorem dX9_couldBe_0 : decode cX9_couldBe 0 = .ok (.iconst 1, 1) := by decide +kernel
theorem dX9_couldBe_1 : decode cX9_couldBe 1 = .ok (.istore_n 2, 1) := by decide +kernel
theorem dX9_couldBe_2 : decode cX9_couldBe 2 = .ok (.iconst 0, 1) := by decide +kernel
theorem dX9_couldBe_3 : decode cX9_couldBe 3 = .ok (.istore_n 3, 1) := by decide +kernel
theorem dX9_couldBe_4 : decode cX9_couldBe 4 = .ok (.iload_n 3, 1) := by decide +kernel
theorem dX9_couldBe_5 : decode cX9_couldBe 5 = .ok (.aload_n 0, 1) := by decide +kernel
theorem dX9_couldBe_6 : decode cX9_couldBe 6 = .ok (.getfield 136, 3) := by decide +kernel
theorem dX9_couldBe_9 : decode cX9_couldBe 9 = .ok (.if_icmp .ge 56, 3) := by decide +kernel
theorem dX9_couldBe_12 : decode cX9_couldBe 12 = .ok (.aload_n 0, 1) := by decide +kernel
theorem dX9_couldBe_13 : decode cX9_couldBe 13 = .ok (.getfield 17, 3) := by decide +kernel
theorem dX9_couldBe_16 : decode cX9_couldBe 16 = .ok (.iload_n 3, 1) := by decide +kernel
theorem dX9_couldBe_17 : decode cX9_couldBe 17 = .ok (.iaload, 1) := by decide +kernel
theorem dX9_couldBe_18 : decode cX9_couldBe 18 = .ok (.iload_n 1, 1) := by decide +kernel
theorem dX9_couldBe_19 : decode cX9_couldBe 19 = .ok (.invokestatic 154, 3) := by decide +kernel
theorem dX9_couldBe_22 : decode cX9_couldBe 22 = .ok (.istore 4, 2) := by decide +kernel
theorem dX9_couldBe_24 : decode cX9_couldBe 24 = .ok (.iload_n 2, 1) := by decide +kernel
theorem dX9_couldBe_25 : decode cX9_couldBe 25 = .ok (.ifCond .eq 32, 3) := by decide +kernel
theorem dX9_couldBe_28 : decode cX9_couldBe 28 = .ok (.aload_n 0, 1) := by decide +kernel
theorem dX9_couldBe_29 : decode cX9_couldBe 29 = .ok (.getfield 20, 3) := by decide +kernel
theorem dX9_couldBe_32 : decode cX9_couldBe 32 = .ok (.iload_n 3, 1) := by decide +kernel
theorem dX9_couldBe_33 : decode cX9_couldBe 33 = .ok (.iaload, 1) := by decide +kernel
theorem dX9_couldBe_34 : decode cX9_couldBe 34 = .ok (.iconst 1, 1) := by decide +kernel
theorem dX9_couldBe_35 : decode cX9_couldBe 35 = .ok (.if_icmp .ne 11, 3) := by decide +kernel
theorem dX9_couldBe_38 : decode cX9_couldBe 38 = .ok (.iload 4, 2) := by decide +kernel
theorem dX9_couldBe_40 : decode cX9_couldBe 40 = .ok (.ifCond .le 17, 3) := by decide +kernel
theorem dX9_couldBe_43 : decode cX9_couldBe 43 = .ok (.goto 10, 3) := by decide +kernel
theorem dX9_couldBe_46 : decode cX9_couldBe 46 = .ok (.iload 4, 2) := by decide +kernel
theorem dX9_couldBe_48 : decode cX9_couldBe 48 = .ok (.bipush 10, 2) := by decide +kernel
theorem dX9_couldBe_50 : decode cX9_couldBe 50 = .ok (.if_icmp .ge 7, 3) := by decide +kernel
theorem dX9_couldBe_53 : decode cX9_couldBe 53 = .ok (.iconst 1, 1) := by decide +kernel
theorem dX9_couldBe_54 : decode cX9_couldBe 54 = .ok (.goto 4, 3) := by decide +kernel
theorem dX9_couldBe_57 : decode cX9_couldBe 57 = .ok (.iconst 0, 1) := by decide +kernel
theorem dX9_couldBe_58 : decode cX9_couldBe 58 = .ok (.istore_n 2, 1) := by decide +kernel
theorem dX9_couldBe_59 : decode cX9_couldBe 59 = .ok (.iinc 3 1, 3) := by decide +kernel
theorem dX9_couldBe_62 : decode cX9_couldBe 62 = .ok (.goto (-58), 3) := by decide +kernel
theorem dX9_couldBe_65 : decode cX9_couldBe 65 = .ok (.iload_n 2, 1) := by decide +kernel
theorem dX9_couldBe_66 : decode cX9_couldBe 66 = .ok (.ireturn, 1) := by decide +kernel
theorem dX9_unseen_0 : decode cX9_unseen 0 = .ok (.aload_n 0, 1) := by decide +kernel
theorem dX9_unseen_1 : decode cX9_unseen 1 = .ok (.iload_n 1, 1) := by decide +kernel
theorem dX9_unseen_2 : decode cX9_unseen 2 = .ok (.invokevirtual 158, 3) := by decide +kernel
theorem dX9_unseen_5 : decode cX9_unseen 5 = .ok (.ifCond .eq 15, 3) := by decide +kernel
theorem dX9_unseen_8 : decode cX9_unseen 8 = .ok (.iload_n 2, 1) := by decide +kernel
theorem dX9_unseen_9 : decode cX9_unseen 9 = .ok (.i2l, 1) := by decide +kernel
theorem dX9_unseen_10 : decode cX9_unseen 10 = .ok (.lconst 0, 1) := by decide +kernel
theorem dX9_unseen_11 : decode cX9_unseen 11 = .ok (.ldc2_w 235, 3) := by decide +kernel
theorem dX9_unseen_14 : decode cX9_unseen 14 = .ok (.invokestatic 66, 3) := by decide +kernel
theorem dX9_unseen_17 : decode cX9_unseen 17 = .ok (.ifCond .ne 5, 3) := by decide +kernel
theorem dX9_unseen_20 : decode cX9_unseen 20 = .ok (.iconst (-1), 1) := by decide +kernel
theorem dX9_unseen_21 : decode cX9_unseen 21 = .ok (.ireturn, 1) := by decide +kernel
theorem dX9_unseen_22 : decode cX9_unseen 22 = .ok (.iconst 0, 1) := by decide +kernel
theorem dX9_unseen_23 : decode cX9_unseen 23 = .ok (.istore_n 3, 1) := by decide +kernel
theorem dX9_unseen_24 : decode cX9_unseen 24 = .ok (.bipush (-9), 2) := by decide +kernel
theorem dX9_unseen_26 : decode cX9_unseen 26 = .ok (.istore 4, 2) := by decide +kernel
theorem dX9_unseen_28 : decode cX9_unseen 28 = .ok (.bipush (-9), 2) := by decide +kernel
theorem dX9_unseen_30 : decode cX9_unseen 30 = .ok (.istore 5, 2) := by decide +kernel
theorem dX9_unseen_32 : decode cX9_unseen 32 = .ok (.iconst 0, 1) := by decide +kernel
theorem dX9_unseen_33 : decode cX9_unseen 33 = .ok (.istore 6, 2) := by decide +kernel
theorem dX9_unseen_35 : decode cX9_unseen 35 = .ok (.iload 6, 2) := by decide +kernel
theorem dX9_unseen_37 : decode cX9_unseen 37 = .ok (.bipush 10, 2) := by decide +kernel
theorem dX9_unseen_39 : decode cX9_unseen 39 = .ok (.aload_n 0, 1) := by decide +kernel
theorem dX9_unseen_40 : decode cX9_unseen 40 = .ok (.getfield 26, 3) := by decide +kernel
theorem dX9_unseen_43 : decode cX9_unseen 43 = .ok (.iload_n 1, 1) := by decide +kernel
theorem dX9_unseen_44 : decode cX9_unseen 44 = .ok (.iaload, 1) := by decide +kernel
theorem dX9_unseen_45 : decode cX9_unseen 45 = .ok (.imul, 1) := by decide +kernel
theorem dX9_unseen_46 : decode cX9_unseen 46 = .ok (.if_icmp .gt 38, 3) := by decide +kernel
theorem dX9_unseen_49 : decode cX9_unseen 49 = .ok (.aload_n 0, 1) := by decide +kernel
theorem dX9_unseen_50 : decode cX9_unseen 50 = .ok (.iload 6, 2) := by decide +kernel
theorem dX9_unseen_52 : decode cX9_unseen 52 = .ok (.invokevirtual 257, 3) := by decide +kernel
theorem dX9_unseen_55 : decode cX9_unseen 55 = .ok (.ifCond .eq 23, 3) := by decide +kernel
theorem dX9_unseen_58 : decode cX9_unseen 58 = .ok (.iload_n 3, 1) := by decide +kernel
theorem dX9_unseen_59 : decode cX9_unseen 59 = .ok (.ifCond .ne 8, 3) := by decide +kernel
theorem dX9_unseen_62 : decode cX9_unseen 62 = .ok (.iload 6, 2) := by decide +kernel
theorem dX9_unseen_64 : decode cX9_unseen 64 = .ok (.goto 5, 3) := by decide +kernel
theorem dX9_unseen_67 : decode cX9_unseen 67 = .ok (.iload 4, 2) := by decide +kernel
theorem dX9_unseen_69 : decode cX9_unseen 69 = .ok (.istore 4, 2) := by decide +kernel
theorem dX9_unseen_71 : decode cX9_unseen 71 = .ok (.iload 6, 2) := by decide +kernel
theorem dX9_unseen_73 : decode cX9_unseen 73 = .ok (.istore 5, 2) := by decide +kernel
theorem dX9_unseen_75 : decode cX9_unseen 75 = .ok (.iinc 3 1, 3) := by decide +kernel
theorem dX9_unseen_78 : decode cX9_unseen 78 = .ok (.iinc 6 1, 3) := by decide +kernel
theorem dX9_unseen_81 : decode cX9_unseen 81 = .ok (.goto (-46), 3) := by decide +kernel
theorem dX9_unseen_84 : decode cX9_unseen 84 = .ok (.iload_n 2, 1) := by decide +kernel
theorem dX9_unseen_85 : decode cX9_unseen 85 = .ok (.ifCond .ne 7, 3) := by decide +kernel
theorem dX9_unseen_88 : decode cX9_unseen 88 = .ok (.iload_n 3, 1) := by decide +kernel
theorem dX9_unseen_89 : decode cX9_unseen 89 = .ok (.goto 15, 3) := by decide +kernel
theorem dX9_unseen_92 : decode cX9_unseen 92 = .ok (.iload_n 2, 1) := by decide +kernel
theorem dX9_unseen_93 : decode cX9_unseen 93 = .ok (.iconst 1, 1) := by decide +kernel
theorem dX9_unseen_94 : decode cX9_unseen 94 = .ok (.if_icmp .ne 8, 3) := by decide +kernel
theorem dX9_unseen_97 : decode cX9_unseen 97 = .ok (.iload 4, 2) := by decide +kernel
theorem dX9_unseen_99 : decode cX9_unseen 99 = .ok (.goto 5, 3) := by decide +kernel
theorem dX9_unseen_102 : decode cX9_unseen 102 = .ok (.iload 5, 2) := by decide +kernel
theorem dX9_unseen_104 : decode cX9_unseen 104 = .ok (.ireturn, 1) := by decide +kernel
theorem dX9_keep_0 : decode cX9_keep 0 = .ok (.iload_n 1, 1) := by decide +kernel
theorem dX9_keep_1 : decode cX9_keep 1 = .ok (.i2l, 1) := by decide +kernel
theorem dX9_keep_2 : decode cX9_keep 2 = .ok (.lconst 0, 1) := by decide +kernel
theorem dX9_keep_3 : decode cX9_keep 3 = .ok (.lconst 1, 1) := by decide +kernel
theorem dX9_keep_4 : decode cX9_keep 4 = .ok (.invokestatic 66, 3) := by decide +kernel
theorem dX9_keep_7 : decode cX9_keep 7 = .ok (.ifCond .ne 5, 3) := by decide +kernel
theorem dX9_keep_10 : decode cX9_keep 10 = .ok (.iconst (-1), 1) := by decide +kernel
theorem dX9_keep_11 : decode cX9_keep 11 = .ok (.ireturn, 1) := by decide +kernel
theorem dX9_keep_12 : decode cX9_keep 12 = .ok (.aload_n 0, 1) := by decide +kernel
theorem dX9_keep_13 : decode cX9_keep 13 = .ok (.iconst 0, 1) := by decide +kernel
theorem dX9_keep_14 : decode cX9_keep 14 = .ok (.sipush 283, 3) := by decide +kernel
theorem dX9_keep_17 : decode cX9_keep 17 = .ok (.sipush 283, 3) := by decide +kernel
theorem dX9_keep_20 : decode cX9_keep 20 = .ok (.iload_n 1, 1) := by decide +kernel
theorem dX9_keep_21 : decode cX9_keep 21 = .ok (.imul, 1) := by decide +kernel
theorem dX9_keep_22 : decode cX9_keep 22 = .ok (.iadd, 1) := by decide +kernel
theorem dX9_keep_23 : decode cX9_keep 23 = .ok (.invokevirtual 58, 3) := by decide +kernel
theorem dX9_keep_26 : decode cX9_keep 26 = .ok (.aload_n 0, 1) := by decide +kernel
theorem dX9_keep_27 : decode cX9_keep 27 = .ok (.getfield 13, 3) := by decide +kernel
theorem dX9_keep_30 : decode cX9_keep 30 = .ok (.iload_n 1, 1) := by decide +kernel
theorem dX9_keep_31 : decode cX9_keep 31 = .ok (.iconst 1, 1) := by decide +kernel
theorem dX9_keep_32 : decode cX9_keep 32 = .ok (.bastore, 1) := by decide +kernel
theorem dX9_keep_33 : decode cX9_keep 33 = .ok (.aload_n 0, 1) := by decide +kernel
theorem dX9_keep_34 : decode cX9_keep 34 = .ok (.invokevirtual 163, 3) := by decide +kernel
theorem dX9_keep_37 : decode cX9_keep 37 = .ok (.ireturn, 1) := by decide +kernel
theorem dX9_back_0 : decode cX9_back 0 = .ok (.iload_n 1, 1) := by decide +kernel
theorem dX9_back_1 : decode cX9_back 1 = .ok (.i2l, 1) := by decide +kernel
theorem dX9_back_2 : decode cX9_back 2 = .ok (.lconst 0, 1) := by decide +kernel
theorem dX9_back_3 : decode cX9_back 3 = .ok (.lconst 1, 1) := by decide +kernel
theorem dX9_back_4 : decode cX9_back 4 = .ok (.invokestatic 66, 3) := by decide +kernel
theorem dX9_back_7 : decode cX9_back 7 = .ok (.ifCond .ne 5, 3) := by decide +kernel
theorem dX9_back_10 : decode cX9_back 10 = .ok (.iconst (-1), 1) := by decide +kernel
theorem dX9_back_11 : decode cX9_back 11 = .ok (.ireturn, 1) := by decide +kernel
theorem dX9_back_12 : decode cX9_back 12 = .ok (.aload_n 0, 1) := by decide +kernel
theorem dX9_back_13 : decode cX9_back 13 = .ok (.getfield 13, 3) := by decide +kernel
theorem dX9_back_16 : decode cX9_back 16 = .ok (.iload_n 1, 1) := by decide +kernel
theorem dX9_back_17 : decode cX9_back 17 = .ok (.baload, 1) := by decide +kernel
theorem dX9_back_18 : decode cX9_back 18 = .ok (.ifCond .ne 6, 3) := by decide +kernel
theorem dX9_back_21 : decode cX9_back 21 = .ok (.bipush (-2), 2) := by decide +kernel
theorem dX9_back_23 : decode cX9_back 23 = .ok (.ireturn, 1) := by decide +kernel
theorem dX9_back_24 : decode cX9_back 24 = .ok (.aload_n 0, 1) := by decide +kernel
theorem dX9_back_25 : decode cX9_back 25 = .ok (.sipush 283, 3) := by decide +kernel
theorem dX9_back_28 : decode cX9_back 28 = .ok (.sipush 283, 3) := by decide +kernel
theorem dX9_back_31 : decode cX9_back 31 = .ok (.iload_n 1, 1) := by decide +kernel
theorem dX9_back_32 : decode cX9_back 32 = .ok (.imul, 1) := by decide +kernel
theorem dX9_back_33 : decode cX9_back 33 = .ok (.iadd, 1) := by decide +kernel
theorem dX9_back_34 : decode cX9_back 34 = .ok (.iconst 0, 1) := by decide +kernel
theorem dX9_back_35 : decode cX9_back 35 = .ok (.invokevirtual 58, 3) := by decide +kernel
theorem dX9_back_38 : decode cX9_back 38 = .ok (.aload_n 0, 1) := by decide +kernel
theorem dX9_back_39 : decode cX9_back 39 = .ok (.iconst 0, 1) := by decide +kernel
theorem dX9_back_40 : decode cX9_back 40 = .ok (.putfield 54, 3) := by decide +kernel
theorem dX9_back_43 : decode cX9_back 43 = .ok (.aload_n 0, 1) := by decide +kernel
theorem dX9_back_44 : decode cX9_back 44 = .ok (.invokevirtual 163, 3) := by decide +kernel
theorem dX9_back_47 : decode cX9_back 47 = .ok (.ireturn, 1) := by decide +kernel
theorem dX9_count_0 : decode cX9_count 0 = .ok (.iload_n 1, 1) := by decide +kernel
theorem dX9_count_1 : decode cX9_count 1 = .ok (.tableswitch 115 0 11 #[63, 68, 73, 73, 73, 73, 73, 82, 91, 96, 101, 106], 63) := by decide +kernel
theorem dX9_count_64 : decode cX9_count 64 = .ok (.aload_n 0, 1) := by decide +kernel
theorem dX9_count_65 : decode cX9_count 65 = .ok (.getfield 133, 3) := by decide +kernel
theorem dX9_count_68 : decode cX9_count 68 = .ok (.ireturn, 1) := by decide +kernel
theorem dX9_count_69 : decode cX9_count 69 = .ok (.aload_n 0, 1) := by decide +kernel
theorem dX9_count_70 : decode cX9_count 70 = .ok (.invokevirtual 163, 3) := by decide +kernel
theorem dX9_count_73 : decode cX9_count 73 = .ok (.ireturn, 1) := by decide +kernel
theorem dX9_count_74 : decode cX9_count 74 = .ok (.aload_n 0, 1) := by decide +kernel
theorem dX9_count_75 : decode cX9_count 75 = .ok (.getfield 32, 3) := by decide +kernel
theorem dX9_count_78 : decode cX9_count 78 = .ok (.iload_n 1, 1) := by decide +kernel
theorem dX9_count_79 : decode cX9_count 79 = .ok (.iconst 1, 1) := by decide +kernel
theorem dX9_count_80 : decode cX9_count 80 = .ok (.isub, 1) := by decide +kernel
theorem dX9_count_81 : decode cX9_count 81 = .ok (.iaload, 1) := by decide +kernel
theorem dX9_count_82 : decode cX9_count 82 = .ok (.ireturn, 1) := by decide +kernel
theorem dX9_count_83 : decode cX9_count 83 = .ok (.aload_n 0, 1) := by decide +kernel
theorem dX9_count_84 : decode cX9_count 84 = .ok (.getfield 7, 3) := by decide +kernel
theorem dX9_count_87 : decode cX9_count 87 = .ok (.sipush 281, 3) := by decide +kernel
theorem dX9_count_90 : decode cX9_count 90 = .ok (.iaload, 1) := by decide +kernel
theorem dX9_count_91 : decode cX9_count 91 = .ok (.ireturn, 1) := by decide +kernel
theorem dX9_count_92 : decode cX9_count 92 = .ok (.aload_n 0, 1) := by decide +kernel
theorem dX9_count_93 : decode cX9_count 93 = .ok (.getfield 136, 3) := by decide +kernel
theorem dX9_count_96 : decode cX9_count 96 = .ok (.ireturn, 1) := by decide +kernel
theorem dX9_count_97 : decode cX9_count 97 = .ok (.aload_n 0, 1) := by decide +kernel
theorem dX9_count_98 : decode cX9_count 98 = .ok (.getfield 73, 3) := by decide +kernel
theorem dX9_count_101 : decode cX9_count 101 = .ok (.ireturn, 1) := by decide +kernel
theorem dX9_count_102 : decode cX9_count 102 = .ok (.aload_n 0, 1) := by decide +kernel
theorem dX9_count_103 : decode cX9_count 103 = .ok (.getfield 54, 3) := by decide +kernel
theorem dX9_count_106 : decode cX9_count 106 = .ok (.ireturn, 1) := by decide +kernel
theorem dX9_count_107 : decode cX9_count 107 = .ok (.aload_n 0, 1) := by decide +kernel
theorem dX9_count_108 : decode cX9_count 108 = .ok (.getfield 7, 3) := by decide +kernel
theorem dX9_count_111 : decode cX9_count 111 = .ok (.sipush 244, 3) := by decide +kernel
theorem dX9_count_114 : decode cX9_count 114 = .ok (.iaload, 1) := by decide +kernel
theorem dX9_count_115 : decode cX9_count 115 = .ok (.ireturn, 1) := by decide +kernel
theorem dX9_count_116 : decode cX9_count 116 = .ok (.ldc 234, 2) := by decide +kernel
theorem dX9_count_118 : decode cX9_count 118 = .ok (.ireturn, 1) := by decide +kernel
end
section
theorem dL_law_0 : decode cL_law 0 = .ok (.new 7, 3) := by decide +kernel
theorem dL_law_3 : decode cL_law 3 = .ok (.dup, 1) := by decide +kernel
theorem dL_law_4 : decode cL_law 4 = .ok (.invokespecial 9, 3) := by decide +kernel
theorem dL_law_7 : decode cL_law 7 = .ok (.astore_n 1, 1) := by decide +kernel
theorem dL_law_8 : decode cL_law 8 = .ok (.new 10, 3) := by decide +kernel
theorem dL_law_11 : decode cL_law 11 = .ok (.dup, 1) := by decide +kernel
theorem dL_law_12 : decode cL_law 12 = .ok (.invokespecial 12, 3) := by decide +kernel
theorem dL_law_15 : decode cL_law 15 = .ok (.astore_n 2, 1) := by decide +kernel
theorem dL_law_16 : decode cL_law 16 = .ok (.iconst 0, 1) := by decide +kernel
theorem dL_law_17 : decode cL_law 17 = .ok (.istore_n 3, 1) := by decide +kernel
theorem dL_law_18 : decode cL_law 18 = .ok (.iload_n 3, 1) := by decide +kernel
theorem dL_law_19 : decode cL_law 19 = .ok (.aload_n 0, 1) := by decide +kernel
theorem dL_law_20 : decode cL_law 20 = .ok (.arraylength, 1) := by decide +kernel
theorem dL_law_21 : decode cL_law 21 = .ok (.bipush 7, 2) := by decide +kernel
theorem dL_law_23 : decode cL_law 23 = .ok (.isub, 1) := by decide +kernel
theorem dL_law_24 : decode cL_law 24 = .ok (.if_icmp .gt 817, 3) := by decide +kernel
theorem dL_law_27 : decode cL_law 27 = .ok (.aload_n 0, 1) := by decide +kernel
theorem dL_law_28 : decode cL_law 28 = .ok (.iload_n 3, 1) := by decide +kernel
theorem dL_law_29 : decode cL_law 29 = .ok (.iaload, 1) := by decide +kernel
theorem dL_law_30 : decode cL_law 30 = .ok (.bipush 31, 2) := by decide +kernel
theorem dL_law_32 : decode cL_law 32 = .ok (.iand, 1) := by decide +kernel
theorem dL_law_33 : decode cL_law 33 = .ok (.tableswitch 802 0 21 #[103, 126, 139, 152, 185, 248, 271, 304, 327, 340, 373, 406, 449, 482, 515, 591, 654, 687, 700, 733, 756, 779], 103) := by decide +kernel
theorem dL_law_136 : decode cL_law 136 = .ok (.aload_n 1, 1) := by decide +kernel
theorem dL_law_137 : decode cL_law 137 = .ok (.aload_n 0, 1) := by decide +kernel
theorem dL_law_138 : decode cL_law 138 = .ok (.iload_n 3, 1) := by decide +kernel
theorem dL_law_139 : decode cL_law 139 = .ok (.iconst 1, 1) := by decide +kernel
theorem dL_law_140 : decode cL_law 140 = .ok (.iadd, 1) := by decide +kernel
theorem dL_law_141 : decode cL_law 141 = .ok (.iaload, 1) := by decide +kernel
theorem dL_law_142 : decode cL_law 142 = .ok (.invokevirtual 13, 3) := by decide +kernel
theorem dL_law_145 : decode cL_law 145 = .ok (.aload_n 2, 1) := by decide +kernel
theorem dL_law_146 : decode cL_law 146 = .ok (.aload_n 0, 1) := by decide +kernel
theorem dL_law_147 : decode cL_law 147 = .ok (.iload_n 3, 1) := by decide +kernel
theorem dL_law_148 : decode cL_law 148 = .ok (.iconst 1, 1) := by decide +kernel
theorem dL_law_149 : decode cL_law 149 = .ok (.iadd, 1) := by decide +kernel
theorem dL_law_150 : decode cL_law 150 = .ok (.iaload, 1) := by decide +kernel
theorem dL_law_151 : decode cL_law 151 = .ok (.invokevirtual 17, 3) := by decide +kernel
theorem dL_law_154 : decode cL_law 154 = .ok (.if_icmp .eq 681, 3) := by decide +kernel
theorem dL_law_157 : decode cL_law 157 = .ok (.iconst 0, 1) := by decide +kernel
theorem dL_law_158 : decode cL_law 158 = .ok (.ireturn, 1) := by decide +kernel
theorem dL_law_159 : decode cL_law 159 = .ok (.aload_n 1, 1) := by decide +kernel
theorem dL_law_160 : decode cL_law 160 = .ok (.invokevirtual 18, 3) := by decide +kernel
theorem dL_law_163 : decode cL_law 163 = .ok (.aload_n 2, 1) := by decide +kernel
theorem dL_law_164 : decode cL_law 164 = .ok (.invokevirtual 22, 3) := by decide +kernel
theorem dL_law_167 : decode cL_law 167 = .ok (.if_icmp .eq 668, 3) := by decide +kernel
theorem dL_law_170 : decode cL_law 170 = .ok (.iconst 0, 1) := by decide +kernel
theorem dL_law_171 : decode cL_law 171 = .ok (.ireturn, 1) := by decide +kernel
theorem dL_law_172 : decode cL_law 172 = .ok (.aload_n 1, 1) := by decide +kernel
theorem dL_law_173 : decode cL_law 173 = .ok (.invokevirtual 23, 3) := by decide +kernel
theorem dL_law_176 : decode cL_law 176 = .ok (.aload_n 2, 1) := by decide +kernel
theorem dL_law_177 : decode cL_law 177 = .ok (.invokevirtual 26, 3) := by decide +kernel
theorem dL_law_180 : decode cL_law 180 = .ok (.if_icmp .eq 655, 3) := by decide +kernel
theorem dL_law_183 : decode cL_law 183 = .ok (.iconst 0, 1) := by decide +kernel
theorem dL_law_184 : decode cL_law 184 = .ok (.ireturn, 1) := by decide +kernel
theorem dL_law_185 : decode cL_law 185 = .ok (.aload_n 1, 1) := by decide +kernel
theorem dL_law_186 : decode cL_law 186 = .ok (.aload_n 0, 1) := by decide +kernel
theorem dL_law_187 : decode cL_law 187 = .ok (.iload_n 3, 1) := by decide +kernel
theorem dL_law_188 : decode cL_law 188 = .ok (.iconst 1, 1) := by decide +kernel
theorem dL_law_189 : decode cL_law 189 = .ok (.iadd, 1) := by decide +kernel
theorem dL_law_190 : decode cL_law 190 = .ok (.iaload, 1) := by decide +kernel
theorem dL_law_191 : decode cL_law 191 = .ok (.aload_n 0, 1) := by decide +kernel
theorem dL_law_192 : decode cL_law 192 = .ok (.iload_n 3, 1) := by decide +kernel
theorem dL_law_193 : decode cL_law 193 = .ok (.iconst 2, 1) := by decide +kernel
theorem dL_law_194 : decode cL_law 194 = .ok (.iadd, 1) := by decide +kernel
theorem dL_law_195 : decode cL_law 195 = .ok (.iaload, 1) := by decide +kernel
theorem dL_law_196 : decode cL_law 196 = .ok (.invokevirtual 27, 3) := by decide +kernel
theorem dL_law_199 : decode cL_law 199 = .ok (.aload_n 2, 1) := by decide +kernel
theorem dL_law_200 : decode cL_law 200 = .ok (.aload_n 0, 1) := by decide +kernel
theorem dL_law_201 : decode cL_law 201 = .ok (.iload_n 3, 1) := by decide +kernel
theorem dL_law_202 : decode cL_law 202 = .ok (.iconst 1, 1) := by decide +kernel
theorem dL_law_203 : decode cL_law 203 = .ok (.iadd, 1) := by decide +kernel
theorem dL_law_204 : decode cL_law 204 = .ok (.iaload, 1) := by decide +kernel
theorem dL_law_205 : decode cL_law 205 = .ok (.aload_n 0, 1) := by decide +kernel
theorem dL_law_206 : decode cL_law 206 = .ok (.iload_n 3, 1) := by decide +kernel
theorem dL_law_207 : decode cL_law 207 = .ok (.iconst 2, 1) := by decide +kernel
theorem dL_law_208 : decode cL_law 208 = .ok (.iadd, 1) := by decide +kernel
theorem dL_law_209 : decode cL_law 209 = .ok (.iaload, 1) := by decide +kernel
theorem dL_law_210 : decode cL_law 210 = .ok (.invokevirtual 31, 3) := by decide +kernel
theorem dL_law_213 : decode cL_law 213 = .ok (.if_icmp .eq 622, 3) := by decide +kernel
theorem dL_law_216 : decode cL_law 216 = .ok (.iconst 0, 1) := by decide +kernel
theorem dL_law_217 : decode cL_law 217 = .ok (.ireturn, 1) := by decide +kernel
theorem dL_law_218 : decode cL_law 218 = .ok (.aload_n 1, 1) := by decide +kernel
theorem dL_law_219 : decode cL_law 219 = .ok (.aload_n 0, 1) := by decide +kernel
theorem dL_law_220 : decode cL_law 220 = .ok (.iload_n 3, 1) := by decide +kernel
theorem dL_law_221 : decode cL_law 221 = .ok (.iconst 1, 1) := by decide +kernel
theorem dL_law_222 : decode cL_law 222 = .ok (.iadd, 1) := by decide +kernel
theorem dL_law_223 : decode cL_law 223 = .ok (.iaload, 1) := by decide +kernel
theorem dL_law_224 : decode cL_law 224 = .ok (.aload_n 0, 1) := by decide +kernel
theorem dL_law_225 : decode cL_law 225 = .ok (.iload_n 3, 1) := by decide +kernel
theorem dL_law_226 : decode cL_law 226 = .ok (.iconst 2, 1) := by decide +kernel
theorem dL_law_227 : decode cL_law 227 = .ok (.iadd, 1) := by decide +kernel
theorem dL_law_228 : decode cL_law 228 = .ok (.iaload, 1) := by decide +kernel
theorem dL_law_229 : decode cL_law 229 = .ok (.aload_n 0, 1) := by decide +kernel
theorem dL_law_230 : decode cL_law 230 = .ok (.iload_n 3, 1) := by decide +kernel
theorem dL_law_231 : decode cL_law 231 = .ok (.iconst 3, 1) := by decide +kernel
theorem dL_law_232 : decode cL_law 232 = .ok (.iadd, 1) := by decide +kernel
theorem dL_law_233 : decode cL_law 233 = .ok (.iaload, 1) := by decide +kernel
theorem dL_law_234 : decode cL_law 234 = .ok (.aload_n 0, 1) := by decide +kernel
theorem dL_law_235 : decode cL_law 235 = .ok (.iload_n 3, 1) := by decide +kernel
theorem dL_law_236 : decode cL_law 236 = .ok (.iconst 4, 1) := by decide +kernel
theorem dL_law_237 : decode cL_law 237 = .ok (.iadd, 1) := by decide +kernel
theorem dL_law_238 : decode cL_law 238 = .ok (.iaload, 1) := by decide +kernel
theorem dL_law_239 : decode cL_law 239 = .ok (.aload_n 0, 1) := by decide +kernel
theorem dL_law_240 : decode cL_law 240 = .ok (.iload_n 3, 1) := by decide +kernel
theorem dL_law_241 : decode cL_law 241 = .ok (.iconst 5, 1) := by decide +kernel
theorem dL_law_242 : decode cL_law 242 = .ok (.iadd, 1) := by decide +kernel
theorem dL_law_243 : decode cL_law 243 = .ok (.iaload, 1) := by decide +kernel
theorem dL_law_244 : decode cL_law 244 = .ok (.invokevirtual 32, 3) := by decide +kernel
theorem dL_law_247 : decode cL_law 247 = .ok (.aload_n 2, 1) := by decide +kernel
theorem dL_law_248 : decode cL_law 248 = .ok (.aload_n 0, 1) := by decide +kernel
theorem dL_law_249 : decode cL_law 249 = .ok (.iload_n 3, 1) := by decide +kernel
theorem dL_law_250 : decode cL_law 250 = .ok (.iconst 1, 1) := by decide +kernel
theorem dL_law_251 : decode cL_law 251 = .ok (.iadd, 1) := by decide +kernel
theorem dL_law_252 : decode cL_law 252 = .ok (.iaload, 1) := by decide +kernel
theorem dL_law_253 : decode cL_law 253 = .ok (.aload_n 0, 1) := by decide +kernel
theorem dL_law_254 : decode cL_law 254 = .ok (.iload_n 3, 1) := by decide +kernel
theorem dL_law_255 : decode cL_law 255 = .ok (.iconst 2, 1) := by decide +kernel
theorem dL_law_256 : decode cL_law 256 = .ok (.iadd, 1) := by decide +kernel
theorem dL_law_257 : decode cL_law 257 = .ok (.iaload, 1) := by decide +kernel
theorem dL_law_258 : decode cL_law 258 = .ok (.aload_n 0, 1) := by decide +kernel
theorem dL_law_259 : decode cL_law 259 = .ok (.iload_n 3, 1) := by decide +kernel
theorem dL_law_260 : decode cL_law 260 = .ok (.iconst 3, 1) := by decide +kernel
theorem dL_law_261 : decode cL_law 261 = .ok (.iadd, 1) := by decide +kernel
theorem dL_law_262 : decode cL_law 262 = .ok (.iaload, 1) := by decide +kernel
theorem dL_law_263 : decode cL_law 263 = .ok (.aload_n 0, 1) := by decide +kernel
theorem dL_law_264 : decode cL_law 264 = .ok (.iload_n 3, 1) := by decide +kernel
theorem dL_law_265 : decode cL_law 265 = .ok (.iconst 4, 1) := by decide +kernel
theorem dL_law_266 : decode cL_law 266 = .ok (.iadd, 1) := by decide +kernel
theorem dL_law_267 : decode cL_law 267 = .ok (.iaload, 1) := by decide +kernel
theorem dL_law_268 : decode cL_law 268 = .ok (.aload_n 0, 1) := by decide +kernel
theorem dL_law_269 : decode cL_law 269 = .ok (.iload_n 3, 1) := by decide +kernel
theorem dL_law_270 : decode cL_law 270 = .ok (.iconst 5, 1) := by decide +kernel
theorem dL_law_271 : decode cL_law 271 = .ok (.iadd, 1) := by decide +kernel
theorem dL_law_272 : decode cL_law 272 = .ok (.iaload, 1) := by decide +kernel
theorem dL_law_273 : decode cL_law 273 = .ok (.invokevirtual 36, 3) := by decide +kernel
theorem dL_law_276 : decode cL_law 276 = .ok (.if_icmp .eq 559, 3) := by decide +kernel
theorem dL_law_279 : decode cL_law 279 = .ok (.iconst 0, 1) := by decide +kernel
theorem dL_law_280 : decode cL_law 280 = .ok (.ireturn, 1) := by decide +kernel
theorem dL_law_281 : decode cL_law 281 = .ok (.aload_n 1, 1) := by decide +kernel
theorem dL_law_282 : decode cL_law 282 = .ok (.aload_n 0, 1) := by decide +kernel
theorem dL_law_283 : decode cL_law 283 = .ok (.iload_n 3, 1) := by decide +kernel
theorem dL_law_284 : decode cL_law 284 = .ok (.iconst 1, 1) := by decide +kernel
theorem dL_law_285 : decode cL_law 285 = .ok (.iadd, 1) := by decide +kernel
theorem dL_law_286 : decode cL_law 286 = .ok (.iaload, 1) := by decide +kernel
theorem dL_law_287 : decode cL_law 287 = .ok (.invokevirtual 37, 3) := by decide +kernel
theorem dL_law_290 : decode cL_law 290 = .ok (.aload_n 2, 1) := by decide +kernel
theorem dL_law_291 : decode cL_law 291 = .ok (.aload_n 0, 1) := by decide +kernel
theorem dL_law_292 : decode cL_law 292 = .ok (.iload_n 3, 1) := by decide +kernel
theorem dL_law_293 : decode cL_law 293 = .ok (.iconst 1, 1) := by decide +kernel
theorem dL_law_294 : decode cL_law 294 = .ok (.iadd, 1) := by decide +kernel
theorem dL_law_295 : decode cL_law 295 = .ok (.iaload, 1) := by decide +kernel
theorem dL_law_296 : decode cL_law 296 = .ok (.invokevirtual 40, 3) := by decide +kernel
theorem dL_law_299 : decode cL_law 299 = .ok (.if_icmp .eq 536, 3) := by decide +kernel
theorem dL_law_302 : decode cL_law 302 = .ok (.iconst 0, 1) := by decide +kernel
theorem dL_law_303 : decode cL_law 303 = .ok (.ireturn, 1) := by decide +kernel
theorem dL_law_304 : decode cL_law 304 = .ok (.aload_n 1, 1) := by decide +kernel
theorem dL_law_305 : decode cL_law 305 = .ok (.aload_n 0, 1) := by decide +kernel
theorem dL_law_306 : decode cL_law 306 = .ok (.iload_n 3, 1) := by decide +kernel
theorem dL_law_307 : decode cL_law 307 = .ok (.iconst 1, 1) := by decide +kernel
theorem dL_law_308 : decode cL_law 308 = .ok (.iadd, 1) := by decide +kernel
theorem dL_law_309 : decode cL_law 309 = .ok (.iaload, 1) := by decide +kernel
theorem dL_law_310 : decode cL_law 310 = .ok (.aload_n 0, 1) := by decide +kernel
theorem dL_law_311 : decode cL_law 311 = .ok (.iload_n 3, 1) := by decide +kernel
theorem dL_law_312 : decode cL_law 312 = .ok (.iconst 2, 1) := by decide +kernel
theorem dL_law_313 : decode cL_law 313 = .ok (.iadd, 1) := by decide +kernel
theorem dL_law_314 : decode cL_law 314 = .ok (.iaload, 1) := by decide +kernel
theorem dL_law_315 : decode cL_law 315 = .ok (.invokevirtual 41, 3) := by decide +kernel
theorem dL_law_318 : decode cL_law 318 = .ok (.aload_n 2, 1) := by decide +kernel
theorem dL_law_319 : decode cL_law 319 = .ok (.aload_n 0, 1) := by decide +kernel
theorem dL_law_320 : decode cL_law 320 = .ok (.iload_n 3, 1) := by decide +kernel
theorem dL_law_321 : decode cL_law 321 = .ok (.iconst 1, 1) := by decide +kernel
theorem dL_law_322 : decode cL_law 322 = .ok (.iadd, 1) := by decide +kernel
theorem dL_law_323 : decode cL_law 323 = .ok (.iaload, 1) := by decide +kernel
theorem dL_law_324 : decode cL_law 324 = .ok (.aload_n 0, 1) := by decide +kernel
theorem dL_law_325 : decode cL_law 325 = .ok (.iload_n 3, 1) := by decide +kernel
theorem dL_law_326 : decode cL_law 326 = .ok (.iconst 2, 1) := by decide +kernel
theorem dL_law_327 : decode cL_law 327 = .ok (.iadd, 1) := by decide +kernel
theorem dL_law_328 : decode cL_law 328 = .ok (.iaload, 1) := by decide +kernel
theorem dL_law_329 : decode cL_law 329 = .ok (.invokevirtual 44, 3) := by decide +kernel
theorem dL_law_332 : decode cL_law 332 = .ok (.if_icmp .eq 503, 3) := by decide +kernel
theorem dL_law_335 : decode cL_law 335 = .ok (.iconst 0, 1) := by decide +kernel
theorem dL_law_336 : decode cL_law 336 = .ok (.ireturn, 1) := by decide +kernel
theorem dL_law_337 : decode cL_law 337 = .ok (.aload_n 1, 1) := by decide +kernel
theorem dL_law_338 : decode cL_law 338 = .ok (.aload_n 0, 1) := by decide +kernel
theorem dL_law_339 : decode cL_law 339 = .ok (.iload_n 3, 1) := by decide +kernel
theorem dL_law_340 : decode cL_law 340 = .ok (.iconst 1, 1) := by decide +kernel
theorem dL_law_341 : decode cL_law 341 = .ok (.iadd, 1) := by decide +kernel
theorem dL_law_342 : decode cL_law 342 = .ok (.iaload, 1) := by decide +kernel
theorem dL_law_343 : decode cL_law 343 = .ok (.invokevirtual 45, 3) := by decide +kernel
theorem dL_law_346 : decode cL_law 346 = .ok (.aload_n 2, 1) := by decide +kernel
theorem dL_law_347 : decode cL_law 347 = .ok (.aload_n 0, 1) := by decide +kernel
theorem dL_law_348 : decode cL_law 348 = .ok (.iload_n 3, 1) := by decide +kernel
theorem dL_law_349 : decode cL_law 349 = .ok (.iconst 1, 1) := by decide +kernel
theorem dL_law_350 : decode cL_law 350 = .ok (.iadd, 1) := by decide +kernel
theorem dL_law_351 : decode cL_law 351 = .ok (.iaload, 1) := by decide +kernel
theorem dL_law_352 : decode cL_law 352 = .ok (.invokevirtual 48, 3) := by decide +kernel
theorem dL_law_355 : decode cL_law 355 = .ok (.if_icmp .eq 480, 3) := by decide +kernel
theorem dL_law_358 : decode cL_law 358 = .ok (.iconst 0, 1) := by decide +kernel
theorem dL_law_359 : decode cL_law 359 = .ok (.ireturn, 1) := by decide +kernel
theorem dL_law_360 : decode cL_law 360 = .ok (.aload_n 1, 1) := by decide +kernel
theorem dL_law_361 : decode cL_law 361 = .ok (.invokevirtual 49, 3) := by decide +kernel
theorem dL_law_364 : decode cL_law 364 = .ok (.aload_n 2, 1) := by decide +kernel
theorem dL_law_365 : decode cL_law 365 = .ok (.invokevirtual 52, 3) := by decide +kernel
theorem dL_law_368 : decode cL_law 368 = .ok (.if_icmp .eq 467, 3) := by decide +kernel
theorem dL_law_371 : decode cL_law 371 = .ok (.iconst 0, 1) := by decide +kernel
theorem dL_law_372 : decode cL_law 372 = .ok (.ireturn, 1) := by decide +kernel
theorem dL_law_373 : decode cL_law 373 = .ok (.aload_n 1, 1) := by decide +kernel
theorem dL_law_374 : decode cL_law 374 = .ok (.aload_n 0, 1) := by decide +kernel
theorem dL_law_375 : decode cL_law 375 = .ok (.iload_n 3, 1) := by decide +kernel
theorem dL_law_376 : decode cL_law 376 = .ok (.iconst 1, 1) := by decide +kernel
theorem dL_law_377 : decode cL_law 377 = .ok (.iadd, 1) := by decide +kernel
theorem dL_law_378 : decode cL_law 378 = .ok (.iaload, 1) := by decide +kernel
theorem dL_law_379 : decode cL_law 379 = .ok (.aload_n 0, 1) := by decide +kernel
theorem dL_law_380 : decode cL_law 380 = .ok (.iload_n 3, 1) := by decide +kernel
theorem dL_law_381 : decode cL_law 381 = .ok (.iconst 2, 1) := by decide +kernel
theorem dL_law_382 : decode cL_law 382 = .ok (.iadd, 1) := by decide +kernel
theorem dL_law_383 : decode cL_law 383 = .ok (.iaload, 1) := by decide +kernel
theorem dL_law_384 : decode cL_law 384 = .ok (.invokevirtual 53, 3) := by decide +kernel
theorem dL_law_387 : decode cL_law 387 = .ok (.aload_n 2, 1) := by decide +kernel
theorem dL_law_388 : decode cL_law 388 = .ok (.aload_n 0, 1) := by decide +kernel
theorem dL_law_389 : decode cL_law 389 = .ok (.iload_n 3, 1) := by decide +kernel
theorem dL_law_390 : decode cL_law 390 = .ok (.iconst 1, 1) := by decide +kernel
theorem dL_law_391 : decode cL_law 391 = .ok (.iadd, 1) := by decide +kernel
theorem dL_law_392 : decode cL_law 392 = .ok (.iaload, 1) := by decide +kernel
theorem dL_law_393 : decode cL_law 393 = .ok (.aload_n 0, 1) := by decide +kernel
theorem dL_law_394 : decode cL_law 394 = .ok (.iload_n 3, 1) := by decide +kernel
theorem dL_law_395 : decode cL_law 395 = .ok (.iconst 2, 1) := by decide +kernel
theorem dL_law_396 : decode cL_law 396 = .ok (.iadd, 1) := by decide +kernel
theorem dL_law_397 : decode cL_law 397 = .ok (.iaload, 1) := by decide +kernel
theorem dL_law_398 : decode cL_law 398 = .ok (.invokevirtual 56, 3) := by decide +kernel
theorem dL_law_401 : decode cL_law 401 = .ok (.if_icmp .eq 434, 3) := by decide +kernel
theorem dL_law_404 : decode cL_law 404 = .ok (.iconst 0, 1) := by decide +kernel
theorem dL_law_405 : decode cL_law 405 = .ok (.ireturn, 1) := by decide +kernel
theorem dL_law_406 : decode cL_law 406 = .ok (.aload_n 1, 1) := by decide +kernel
theorem dL_law_407 : decode cL_law 407 = .ok (.aload_n 0, 1) := by decide +kernel
theorem dL_law_408 : decode cL_law 408 = .ok (.iload_n 3, 1) := by decide +kernel
theorem dL_law_409 : decode cL_law 409 = .ok (.iconst 1, 1) := by decide +kernel
theorem dL_law_410 : decode cL_law 410 = .ok (.iadd, 1) := by decide +kernel
theorem dL_law_411 : decode cL_law 411 = .ok (.iaload, 1) := by decide +kernel
theorem dL_law_412 : decode cL_law 412 = .ok (.aload_n 0, 1) := by decide +kernel
theorem dL_law_413 : decode cL_law 413 = .ok (.iload_n 3, 1) := by decide +kernel
theorem dL_law_414 : decode cL_law 414 = .ok (.iconst 2, 1) := by decide +kernel
theorem dL_law_415 : decode cL_law 415 = .ok (.iadd, 1) := by decide +kernel
theorem dL_law_416 : decode cL_law 416 = .ok (.iaload, 1) := by decide +kernel
theorem dL_law_417 : decode cL_law 417 = .ok (.invokevirtual 57, 3) := by decide +kernel
theorem dL_law_420 : decode cL_law 420 = .ok (.aload_n 2, 1) := by decide +kernel
theorem dL_law_421 : decode cL_law 421 = .ok (.aload_n 0, 1) := by decide +kernel
theorem dL_law_422 : decode cL_law 422 = .ok (.iload_n 3, 1) := by decide +kernel
theorem dL_law_423 : decode cL_law 423 = .ok (.iconst 1, 1) := by decide +kernel
theorem dL_law_424 : decode cL_law 424 = .ok (.iadd, 1) := by decide +kernel
theorem dL_law_425 : decode cL_law 425 = .ok (.iaload, 1) := by decide +kernel
theorem dL_law_426 : decode cL_law 426 = .ok (.aload_n 0, 1) := by decide +kernel
theorem dL_law_427 : decode cL_law 427 = .ok (.iload_n 3, 1) := by decide +kernel
theorem dL_law_428 : decode cL_law 428 = .ok (.iconst 2, 1) := by decide +kernel
theorem dL_law_429 : decode cL_law 429 = .ok (.iadd, 1) := by decide +kernel
theorem dL_law_430 : decode cL_law 430 = .ok (.iaload, 1) := by decide +kernel
theorem dL_law_431 : decode cL_law 431 = .ok (.invokevirtual 60, 3) := by decide +kernel
theorem dL_law_434 : decode cL_law 434 = .ok (.if_icmp .eq 401, 3) := by decide +kernel
theorem dL_law_437 : decode cL_law 437 = .ok (.iconst 0, 1) := by decide +kernel
theorem dL_law_438 : decode cL_law 438 = .ok (.ireturn, 1) := by decide +kernel
theorem dL_law_439 : decode cL_law 439 = .ok (.aload_n 1, 1) := by decide +kernel
theorem dL_law_440 : decode cL_law 440 = .ok (.aload_n 0, 1) := by decide +kernel
theorem dL_law_441 : decode cL_law 441 = .ok (.iload_n 3, 1) := by decide +kernel
theorem dL_law_442 : decode cL_law 442 = .ok (.iconst 1, 1) := by decide +kernel
theorem dL_law_443 : decode cL_law 443 = .ok (.iadd, 1) := by decide +kernel
theorem dL_law_444 : decode cL_law 444 = .ok (.iaload, 1) := by decide +kernel
theorem dL_law_445 : decode cL_law 445 = .ok (.aload_n 0, 1) := by decide +kernel
theorem dL_law_446 : decode cL_law 446 = .ok (.iload_n 3, 1) := by decide +kernel
theorem dL_law_447 : decode cL_law 447 = .ok (.iconst 2, 1) := by decide +kernel
theorem dL_law_448 : decode cL_law 448 = .ok (.iadd, 1) := by decide +kernel
theorem dL_law_449 : decode cL_law 449 = .ok (.iaload, 1) := by decide +kernel
theorem dL_law_450 : decode cL_law 450 = .ok (.aload_n 0, 1) := by decide +kernel
theorem dL_law_451 : decode cL_law 451 = .ok (.iload_n 3, 1) := by decide +kernel
theorem dL_law_452 : decode cL_law 452 = .ok (.iconst 3, 1) := by decide +kernel
theorem dL_law_453 : decode cL_law 453 = .ok (.iadd, 1) := by decide +kernel
theorem dL_law_454 : decode cL_law 454 = .ok (.iaload, 1) := by decide +kernel
theorem dL_law_455 : decode cL_law 455 = .ok (.invokevirtual 61, 3) := by decide +kernel
theorem dL_law_458 : decode cL_law 458 = .ok (.aload_n 2, 1) := by decide +kernel
theorem dL_law_459 : decode cL_law 459 = .ok (.aload_n 0, 1) := by decide +kernel
theorem dL_law_460 : decode cL_law 460 = .ok (.iload_n 3, 1) := by decide +kernel
theorem dL_law_461 : decode cL_law 461 = .ok (.iconst 1, 1) := by decide +kernel
theorem dL_law_462 : decode cL_law 462 = .ok (.iadd, 1) := by decide +kernel
theorem dL_law_463 : decode cL_law 463 = .ok (.iaload, 1) := by decide +kernel
theorem dL_law_464 : decode cL_law 464 = .ok (.aload_n 0, 1) := by decide +kernel
theorem dL_law_465 : decode cL_law 465 = .ok (.iload_n 3, 1) := by decide +kernel
theorem dL_law_466 : decode cL_law 466 = .ok (.iconst 2, 1) := by decide +kernel
theorem dL_law_467 : decode cL_law 467 = .ok (.iadd, 1) := by decide +kernel
theorem dL_law_468 : decode cL_law 468 = .ok (.iaload, 1) := by decide +kernel
theorem dL_law_469 : decode cL_law 469 = .ok (.aload_n 0, 1) := by decide +kernel
theorem dL_law_470 : decode cL_law 470 = .ok (.iload_n 3, 1) := by decide +kernel
theorem dL_law_471 : decode cL_law 471 = .ok (.iconst 3, 1) := by decide +kernel
theorem dL_law_472 : decode cL_law 472 = .ok (.iadd, 1) := by decide +kernel
theorem dL_law_473 : decode cL_law 473 = .ok (.iaload, 1) := by decide +kernel
theorem dL_law_474 : decode cL_law 474 = .ok (.invokevirtual 65, 3) := by decide +kernel
theorem dL_law_477 : decode cL_law 477 = .ok (.if_icmp .eq 358, 3) := by decide +kernel
theorem dL_law_480 : decode cL_law 480 = .ok (.iconst 0, 1) := by decide +kernel
theorem dL_law_481 : decode cL_law 481 = .ok (.ireturn, 1) := by decide +kernel
theorem dL_law_482 : decode cL_law 482 = .ok (.aload_n 1, 1) := by decide +kernel
theorem dL_law_483 : decode cL_law 483 = .ok (.aload_n 0, 1) := by decide +kernel
theorem dL_law_484 : decode cL_law 484 = .ok (.iload_n 3, 1) := by decide +kernel
theorem dL_law_485 : decode cL_law 485 = .ok (.iconst 1, 1) := by decide +kernel
theorem dL_law_486 : decode cL_law 486 = .ok (.iadd, 1) := by decide +kernel
theorem dL_law_487 : decode cL_law 487 = .ok (.iaload, 1) := by decide +kernel
theorem dL_law_488 : decode cL_law 488 = .ok (.aload_n 0, 1) := by decide +kernel
theorem dL_law_489 : decode cL_law 489 = .ok (.iload_n 3, 1) := by decide +kernel
theorem dL_law_490 : decode cL_law 490 = .ok (.iconst 2, 1) := by decide +kernel
theorem dL_law_491 : decode cL_law 491 = .ok (.iadd, 1) := by decide +kernel
theorem dL_law_492 : decode cL_law 492 = .ok (.iaload, 1) := by decide +kernel
theorem dL_law_493 : decode cL_law 493 = .ok (.invokevirtual 66, 3) := by decide +kernel
theorem dL_law_496 : decode cL_law 496 = .ok (.aload_n 2, 1) := by decide +kernel
theorem dL_law_497 : decode cL_law 497 = .ok (.aload_n 0, 1) := by decide +kernel
theorem dL_law_498 : decode cL_law 498 = .ok (.iload_n 3, 1) := by decide +kernel
theorem dL_law_499 : decode cL_law 499 = .ok (.iconst 1, 1) := by decide +kernel
theorem dL_law_500 : decode cL_law 500 = .ok (.iadd, 1) := by decide +kernel
theorem dL_law_501 : decode cL_law 501 = .ok (.iaload, 1) := by decide +kernel
theorem dL_law_502 : decode cL_law 502 = .ok (.aload_n 0, 1) := by decide +kernel
theorem dL_law_503 : decode cL_law 503 = .ok (.iload_n 3, 1) := by decide +kernel
theorem dL_law_504 : decode cL_law 504 = .ok (.iconst 2, 1) := by decide +kernel
theorem dL_law_505 : decode cL_law 505 = .ok (.iadd, 1) := by decide +kernel
theorem dL_law_506 : decode cL_law 506 = .ok (.iaload, 1) := by decide +kernel
theorem dL_law_507 : decode cL_law 507 = .ok (.invokevirtual 69, 3) := by decide +kernel
theorem dL_law_510 : decode cL_law 510 = .ok (.if_icmp .eq 325, 3) := by decide +kernel
theorem dL_law_513 : decode cL_law 513 = .ok (.iconst 0, 1) := by decide +kernel
theorem dL_law_514 : decode cL_law 514 = .ok (.ireturn, 1) := by decide +kernel
theorem dL_law_515 : decode cL_law 515 = .ok (.aload_n 1, 1) := by decide +kernel
theorem dL_law_516 : decode cL_law 516 = .ok (.aload_n 0, 1) := by decide +kernel
theorem dL_law_517 : decode cL_law 517 = .ok (.iload_n 3, 1) := by decide +kernel
theorem dL_law_518 : decode cL_law 518 = .ok (.iconst 1, 1) := by decide +kernel
theorem dL_law_519 : decode cL_law 519 = .ok (.iadd, 1) := by decide +kernel
theorem dL_law_520 : decode cL_law 520 = .ok (.iaload, 1) := by decide +kernel
theorem dL_law_521 : decode cL_law 521 = .ok (.aload_n 0, 1) := by decide +kernel
theorem dL_law_522 : decode cL_law 522 = .ok (.iload_n 3, 1) := by decide +kernel
theorem dL_law_523 : decode cL_law 523 = .ok (.iconst 2, 1) := by decide +kernel
theorem dL_law_524 : decode cL_law 524 = .ok (.iadd, 1) := by decide +kernel
theorem dL_law_525 : decode cL_law 525 = .ok (.iaload, 1) := by decide +kernel
theorem dL_law_526 : decode cL_law 526 = .ok (.invokevirtual 70, 3) := by decide +kernel
theorem dL_law_529 : decode cL_law 529 = .ok (.aload_n 2, 1) := by decide +kernel
theorem dL_law_530 : decode cL_law 530 = .ok (.aload_n 0, 1) := by decide +kernel
theorem dL_law_531 : decode cL_law 531 = .ok (.iload_n 3, 1) := by decide +kernel
theorem dL_law_532 : decode cL_law 532 = .ok (.iconst 1, 1) := by decide +kernel
theorem dL_law_533 : decode cL_law 533 = .ok (.iadd, 1) := by decide +kernel
theorem dL_law_534 : decode cL_law 534 = .ok (.iaload, 1) := by decide +kernel
theorem dL_law_535 : decode cL_law 535 = .ok (.aload_n 0, 1) := by decide +kernel
theorem dL_law_536 : decode cL_law 536 = .ok (.iload_n 3, 1) := by decide +kernel
theorem dL_law_537 : decode cL_law 537 = .ok (.iconst 2, 1) := by decide +kernel
theorem dL_law_538 : decode cL_law 538 = .ok (.iadd, 1) := by decide +kernel
theorem dL_law_539 : decode cL_law 539 = .ok (.iaload, 1) := by decide +kernel
theorem dL_law_540 : decode cL_law 540 = .ok (.invokevirtual 73, 3) := by decide +kernel
theorem dL_law_543 : decode cL_law 543 = .ok (.if_icmp .eq 292, 3) := by decide +kernel
theorem dL_law_546 : decode cL_law 546 = .ok (.iconst 0, 1) := by decide +kernel
theorem dL_law_547 : decode cL_law 547 = .ok (.ireturn, 1) := by decide +kernel
theorem dL_law_548 : decode cL_law 548 = .ok (.aload_n 1, 1) := by decide +kernel
theorem dL_law_549 : decode cL_law 549 = .ok (.aload_n 0, 1) := by decide +kernel
theorem dL_law_550 : decode cL_law 550 = .ok (.iload_n 3, 1) := by decide +kernel
theorem dL_law_551 : decode cL_law 551 = .ok (.iconst 1, 1) := by decide +kernel
theorem dL_law_552 : decode cL_law 552 = .ok (.iadd, 1) := by decide +kernel
theorem dL_law_553 : decode cL_law 553 = .ok (.iaload, 1) := by decide +kernel
theorem dL_law_554 : decode cL_law 554 = .ok (.aload_n 0, 1) := by decide +kernel
theorem dL_law_555 : decode cL_law 555 = .ok (.iload_n 3, 1) := by decide +kernel
theorem dL_law_556 : decode cL_law 556 = .ok (.iconst 2, 1) := by decide +kernel
theorem dL_law_557 : decode cL_law 557 = .ok (.iadd, 1) := by decide +kernel
theorem dL_law_558 : decode cL_law 558 = .ok (.iaload, 1) := by decide +kernel
theorem dL_law_559 : decode cL_law 559 = .ok (.aload_n 0, 1) := by decide +kernel
theorem dL_law_560 : decode cL_law 560 = .ok (.iload_n 3, 1) := by decide +kernel
theorem dL_law_561 : decode cL_law 561 = .ok (.iconst 3, 1) := by decide +kernel
theorem dL_law_562 : decode cL_law 562 = .ok (.iadd, 1) := by decide +kernel
theorem dL_law_563 : decode cL_law 563 = .ok (.iaload, 1) := by decide +kernel
theorem dL_law_564 : decode cL_law 564 = .ok (.aload_n 0, 1) := by decide +kernel
theorem dL_law_565 : decode cL_law 565 = .ok (.iload_n 3, 1) := by decide +kernel
theorem dL_law_566 : decode cL_law 566 = .ok (.iconst 4, 1) := by decide +kernel
theorem dL_law_567 : decode cL_law 567 = .ok (.iadd, 1) := by decide +kernel
theorem dL_law_568 : decode cL_law 568 = .ok (.iaload, 1) := by decide +kernel
theorem dL_law_569 : decode cL_law 569 = .ok (.aload_n 0, 1) := by decide +kernel
theorem dL_law_570 : decode cL_law 570 = .ok (.iload_n 3, 1) := by decide +kernel
theorem dL_law_571 : decode cL_law 571 = .ok (.iconst 5, 1) := by decide +kernel
theorem dL_law_572 : decode cL_law 572 = .ok (.iadd, 1) := by decide +kernel
theorem dL_law_573 : decode cL_law 573 = .ok (.iaload, 1) := by decide +kernel
theorem dL_law_574 : decode cL_law 574 = .ok (.aload_n 0, 1) := by decide +kernel
theorem dL_law_575 : decode cL_law 575 = .ok (.iload_n 3, 1) := by decide +kernel
theorem dL_law_576 : decode cL_law 576 = .ok (.bipush 6, 2) := by decide +kernel
theorem dL_law_578 : decode cL_law 578 = .ok (.iadd, 1) := by decide +kernel
theorem dL_law_579 : decode cL_law 579 = .ok (.iaload, 1) := by decide +kernel
theorem dL_law_580 : decode cL_law 580 = .ok (.invokevirtual 74, 3) := by decide +kernel
theorem dL_law_583 : decode cL_law 583 = .ok (.aload_n 2, 1) := by decide +kernel
theorem dL_law_584 : decode cL_law 584 = .ok (.aload_n 0, 1) := by decide +kernel
theorem dL_law_585 : decode cL_law 585 = .ok (.iload_n 3, 1) := by decide +kernel
theorem dL_law_586 : decode cL_law 586 = .ok (.iconst 1, 1) := by decide +kernel
theorem dL_law_587 : decode cL_law 587 = .ok (.iadd, 1) := by decide +kernel
theorem dL_law_588 : decode cL_law 588 = .ok (.iaload, 1) := by decide +kernel
theorem dL_law_589 : decode cL_law 589 = .ok (.aload_n 0, 1) := by decide +kernel
theorem dL_law_590 : decode cL_law 590 = .ok (.iload_n 3, 1) := by decide +kernel
theorem dL_law_591 : decode cL_law 591 = .ok (.iconst 2, 1) := by decide +kernel
theorem dL_law_592 : decode cL_law 592 = .ok (.iadd, 1) := by decide +kernel
theorem dL_law_593 : decode cL_law 593 = .ok (.iaload, 1) := by decide +kernel
theorem dL_law_594 : decode cL_law 594 = .ok (.aload_n 0, 1) := by decide +kernel
theorem dL_law_595 : decode cL_law 595 = .ok (.iload_n 3, 1) := by decide +kernel
theorem dL_law_596 : decode cL_law 596 = .ok (.iconst 3, 1) := by decide +kernel
theorem dL_law_597 : decode cL_law 597 = .ok (.iadd, 1) := by decide +kernel
theorem dL_law_598 : decode cL_law 598 = .ok (.iaload, 1) := by decide +kernel
theorem dL_law_599 : decode cL_law 599 = .ok (.aload_n 0, 1) := by decide +kernel
theorem dL_law_600 : decode cL_law 600 = .ok (.iload_n 3, 1) := by decide +kernel
theorem dL_law_601 : decode cL_law 601 = .ok (.iconst 4, 1) := by decide +kernel
theorem dL_law_602 : decode cL_law 602 = .ok (.iadd, 1) := by decide +kernel
theorem dL_law_603 : decode cL_law 603 = .ok (.iaload, 1) := by decide +kernel
theorem dL_law_604 : decode cL_law 604 = .ok (.aload_n 0, 1) := by decide +kernel
theorem dL_law_605 : decode cL_law 605 = .ok (.iload_n 3, 1) := by decide +kernel
theorem dL_law_606 : decode cL_law 606 = .ok (.iconst 5, 1) := by decide +kernel
theorem dL_law_607 : decode cL_law 607 = .ok (.iadd, 1) := by decide +kernel
theorem dL_law_608 : decode cL_law 608 = .ok (.iaload, 1) := by decide +kernel
theorem dL_law_609 : decode cL_law 609 = .ok (.aload_n 0, 1) := by decide +kernel
theorem dL_law_610 : decode cL_law 610 = .ok (.iload_n 3, 1) := by decide +kernel
theorem dL_law_611 : decode cL_law 611 = .ok (.bipush 6, 2) := by decide +kernel
theorem dL_law_613 : decode cL_law 613 = .ok (.iadd, 1) := by decide +kernel
theorem dL_law_614 : decode cL_law 614 = .ok (.iaload, 1) := by decide +kernel
theorem dL_law_615 : decode cL_law 615 = .ok (.invokevirtual 78, 3) := by decide +kernel
theorem dL_law_618 : decode cL_law 618 = .ok (.lcmp, 1) := by decide +kernel
theorem dL_law_619 : decode cL_law 619 = .ok (.ifCond .eq 216, 3) := by decide +kernel
theorem dL_law_622 : decode cL_law 622 = .ok (.iconst 0, 1) := by decide +kernel
theorem dL_law_623 : decode cL_law 623 = .ok (.ireturn, 1) := by decide +kernel
theorem dL_law_624 : decode cL_law 624 = .ok (.aload_n 1, 1) := by decide +kernel
theorem dL_law_625 : decode cL_law 625 = .ok (.aload_n 0, 1) := by decide +kernel
theorem dL_law_626 : decode cL_law 626 = .ok (.iload_n 3, 1) := by decide +kernel
theorem dL_law_627 : decode cL_law 627 = .ok (.iconst 1, 1) := by decide +kernel
theorem dL_law_628 : decode cL_law 628 = .ok (.iadd, 1) := by decide +kernel
theorem dL_law_629 : decode cL_law 629 = .ok (.iaload, 1) := by decide +kernel
theorem dL_law_630 : decode cL_law 630 = .ok (.aload_n 0, 1) := by decide +kernel
theorem dL_law_631 : decode cL_law 631 = .ok (.iload_n 3, 1) := by decide +kernel
theorem dL_law_632 : decode cL_law 632 = .ok (.iconst 2, 1) := by decide +kernel
theorem dL_law_633 : decode cL_law 633 = .ok (.iadd, 1) := by decide +kernel
theorem dL_law_634 : decode cL_law 634 = .ok (.iaload, 1) := by decide +kernel
theorem dL_law_635 : decode cL_law 635 = .ok (.aload_n 0, 1) := by decide +kernel
theorem dL_law_636 : decode cL_law 636 = .ok (.iload_n 3, 1) := by decide +kernel
theorem dL_law_637 : decode cL_law 637 = .ok (.iconst 3, 1) := by decide +kernel
theorem dL_law_638 : decode cL_law 638 = .ok (.iadd, 1) := by decide +kernel
theorem dL_law_639 : decode cL_law 639 = .ok (.iaload, 1) := by decide +kernel
theorem dL_law_640 : decode cL_law 640 = .ok (.aload_n 0, 1) := by decide +kernel
theorem dL_law_641 : decode cL_law 641 = .ok (.iload_n 3, 1) := by decide +kernel
theorem dL_law_642 : decode cL_law 642 = .ok (.iconst 4, 1) := by decide +kernel
theorem dL_law_643 : decode cL_law 643 = .ok (.iadd, 1) := by decide +kernel
theorem dL_law_644 : decode cL_law 644 = .ok (.iaload, 1) := by decide +kernel
theorem dL_law_645 : decode cL_law 645 = .ok (.aload_n 0, 1) := by decide +kernel
theorem dL_law_646 : decode cL_law 646 = .ok (.iload_n 3, 1) := by decide +kernel
theorem dL_law_647 : decode cL_law 647 = .ok (.iconst 5, 1) := by decide +kernel
theorem dL_law_648 : decode cL_law 648 = .ok (.iadd, 1) := by decide +kernel
theorem dL_law_649 : decode cL_law 649 = .ok (.iaload, 1) := by decide +kernel
theorem dL_law_650 : decode cL_law 650 = .ok (.invokevirtual 79, 3) := by decide +kernel
theorem dL_law_653 : decode cL_law 653 = .ok (.aload_n 2, 1) := by decide +kernel
theorem dL_law_654 : decode cL_law 654 = .ok (.aload_n 0, 1) := by decide +kernel
theorem dL_law_655 : decode cL_law 655 = .ok (.iload_n 3, 1) := by decide +kernel
theorem dL_law_656 : decode cL_law 656 = .ok (.iconst 1, 1) := by decide +kernel
theorem dL_law_657 : decode cL_law 657 = .ok (.iadd, 1) := by decide +kernel
theorem dL_law_658 : decode cL_law 658 = .ok (.iaload, 1) := by decide +kernel
theorem dL_law_659 : decode cL_law 659 = .ok (.aload_n 0, 1) := by decide +kernel
theorem dL_law_660 : decode cL_law 660 = .ok (.iload_n 3, 1) := by decide +kernel
theorem dL_law_661 : decode cL_law 661 = .ok (.iconst 2, 1) := by decide +kernel
theorem dL_law_662 : decode cL_law 662 = .ok (.iadd, 1) := by decide +kernel
theorem dL_law_663 : decode cL_law 663 = .ok (.iaload, 1) := by decide +kernel
theorem dL_law_664 : decode cL_law 664 = .ok (.aload_n 0, 1) := by decide +kernel
theorem dL_law_665 : decode cL_law 665 = .ok (.iload_n 3, 1) := by decide +kernel
theorem dL_law_666 : decode cL_law 666 = .ok (.iconst 3, 1) := by decide +kernel
theorem dL_law_667 : decode cL_law 667 = .ok (.iadd, 1) := by decide +kernel
theorem dL_law_668 : decode cL_law 668 = .ok (.iaload, 1) := by decide +kernel
theorem dL_law_669 : decode cL_law 669 = .ok (.aload_n 0, 1) := by decide +kernel
theorem dL_law_670 : decode cL_law 670 = .ok (.iload_n 3, 1) := by decide +kernel
theorem dL_law_671 : decode cL_law 671 = .ok (.iconst 4, 1) := by decide +kernel
theorem dL_law_672 : decode cL_law 672 = .ok (.iadd, 1) := by decide +kernel
theorem dL_law_673 : decode cL_law 673 = .ok (.iaload, 1) := by decide +kernel
theorem dL_law_674 : decode cL_law 674 = .ok (.aload_n 0, 1) := by decide +kernel
theorem dL_law_675 : decode cL_law 675 = .ok (.iload_n 3, 1) := by decide +kernel
theorem dL_law_676 : decode cL_law 676 = .ok (.iconst 5, 1) := by decide +kernel
theorem dL_law_677 : decode cL_law 677 = .ok (.iadd, 1) := by decide +kernel
theorem dL_law_678 : decode cL_law 678 = .ok (.iaload, 1) := by decide +kernel
theorem dL_law_679 : decode cL_law 679 = .ok (.invokevirtual 82, 3) := by decide +kernel
theorem dL_law_682 : decode cL_law 682 = .ok (.if_icmp .eq 153, 3) := by decide +kernel
theorem dL_law_685 : decode cL_law 685 = .ok (.iconst 0, 1) := by decide +kernel
theorem dL_law_686 : decode cL_law 686 = .ok (.ireturn, 1) := by decide +kernel
theorem dL_law_687 : decode cL_law 687 = .ok (.aload_n 1, 1) := by decide +kernel
theorem dL_law_688 : decode cL_law 688 = .ok (.aload_n 0, 1) := by decide +kernel
theorem dL_law_689 : decode cL_law 689 = .ok (.iload_n 3, 1) := by decide +kernel
theorem dL_law_690 : decode cL_law 690 = .ok (.iconst 1, 1) := by decide +kernel
theorem dL_law_691 : decode cL_law 691 = .ok (.iadd, 1) := by decide +kernel
theorem dL_law_692 : decode cL_law 692 = .ok (.iaload, 1) := by decide +kernel
theorem dL_law_693 : decode cL_law 693 = .ok (.aload_n 0, 1) := by decide +kernel
theorem dL_law_694 : decode cL_law 694 = .ok (.iload_n 3, 1) := by decide +kernel
theorem dL_law_695 : decode cL_law 695 = .ok (.iconst 2, 1) := by decide +kernel
theorem dL_law_696 : decode cL_law 696 = .ok (.iadd, 1) := by decide +kernel
theorem dL_law_697 : decode cL_law 697 = .ok (.iaload, 1) := by decide +kernel
theorem dL_law_698 : decode cL_law 698 = .ok (.invokevirtual 83, 3) := by decide +kernel
theorem dL_law_701 : decode cL_law 701 = .ok (.aload_n 2, 1) := by decide +kernel
theorem dL_law_702 : decode cL_law 702 = .ok (.aload_n 0, 1) := by decide +kernel
theorem dL_law_703 : decode cL_law 703 = .ok (.iload_n 3, 1) := by decide +kernel
theorem dL_law_704 : decode cL_law 704 = .ok (.iconst 1, 1) := by decide +kernel
theorem dL_law_705 : decode cL_law 705 = .ok (.iadd, 1) := by decide +kernel
theorem dL_law_706 : decode cL_law 706 = .ok (.iaload, 1) := by decide +kernel
theorem dL_law_707 : decode cL_law 707 = .ok (.aload_n 0, 1) := by decide +kernel
theorem dL_law_708 : decode cL_law 708 = .ok (.iload_n 3, 1) := by decide +kernel
theorem dL_law_709 : decode cL_law 709 = .ok (.iconst 2, 1) := by decide +kernel
theorem dL_law_710 : decode cL_law 710 = .ok (.iadd, 1) := by decide +kernel
theorem dL_law_711 : decode cL_law 711 = .ok (.iaload, 1) := by decide +kernel
theorem dL_law_712 : decode cL_law 712 = .ok (.invokevirtual 86, 3) := by decide +kernel
theorem dL_law_715 : decode cL_law 715 = .ok (.if_icmp .eq 120, 3) := by decide +kernel
theorem dL_law_718 : decode cL_law 718 = .ok (.iconst 0, 1) := by decide +kernel
theorem dL_law_719 : decode cL_law 719 = .ok (.ireturn, 1) := by decide +kernel
theorem dL_law_720 : decode cL_law 720 = .ok (.aload_n 1, 1) := by decide +kernel
theorem dL_law_721 : decode cL_law 721 = .ok (.invokevirtual 87, 3) := by decide +kernel
theorem dL_law_724 : decode cL_law 724 = .ok (.aload_n 2, 1) := by decide +kernel
theorem dL_law_725 : decode cL_law 725 = .ok (.invokevirtual 90, 3) := by decide +kernel
theorem dL_law_728 : decode cL_law 728 = .ok (.if_icmp .eq 107, 3) := by decide +kernel
theorem dL_law_731 : decode cL_law 731 = .ok (.iconst 0, 1) := by decide +kernel
theorem dL_law_732 : decode cL_law 732 = .ok (.ireturn, 1) := by decide +kernel
theorem dL_law_733 : decode cL_law 733 = .ok (.aload_n 1, 1) := by decide +kernel
theorem dL_law_734 : decode cL_law 734 = .ok (.aload_n 0, 1) := by decide +kernel
theorem dL_law_735 : decode cL_law 735 = .ok (.iload_n 3, 1) := by decide +kernel
theorem dL_law_736 : decode cL_law 736 = .ok (.iconst 1, 1) := by decide +kernel
theorem dL_law_737 : decode cL_law 737 = .ok (.iadd, 1) := by decide +kernel
theorem dL_law_738 : decode cL_law 738 = .ok (.iaload, 1) := by decide +kernel
theorem dL_law_739 : decode cL_law 739 = .ok (.aload_n 0, 1) := by decide +kernel
theorem dL_law_740 : decode cL_law 740 = .ok (.iload_n 3, 1) := by decide +kernel
theorem dL_law_741 : decode cL_law 741 = .ok (.iconst 2, 1) := by decide +kernel
theorem dL_law_742 : decode cL_law 742 = .ok (.iadd, 1) := by decide +kernel
theorem dL_law_743 : decode cL_law 743 = .ok (.iaload, 1) := by decide +kernel
theorem dL_law_744 : decode cL_law 744 = .ok (.invokevirtual 91, 3) := by decide +kernel
theorem dL_law_747 : decode cL_law 747 = .ok (.aload_n 2, 1) := by decide +kernel
theorem dL_law_748 : decode cL_law 748 = .ok (.aload_n 0, 1) := by decide +kernel
theorem dL_law_749 : decode cL_law 749 = .ok (.iload_n 3, 1) := by decide +kernel
theorem dL_law_750 : decode cL_law 750 = .ok (.iconst 1, 1) := by decide +kernel
theorem dL_law_751 : decode cL_law 751 = .ok (.iadd, 1) := by decide +kernel
theorem dL_law_752 : decode cL_law 752 = .ok (.iaload, 1) := by decide +kernel
theorem dL_law_753 : decode cL_law 753 = .ok (.aload_n 0, 1) := by decide +kernel
theorem dL_law_754 : decode cL_law 754 = .ok (.iload_n 3, 1) := by decide +kernel
theorem dL_law_755 : decode cL_law 755 = .ok (.iconst 2, 1) := by decide +kernel
theorem dL_law_756 : decode cL_law 756 = .ok (.iadd, 1) := by decide +kernel
theorem dL_law_757 : decode cL_law 757 = .ok (.iaload, 1) := by decide +kernel
theorem dL_law_758 : decode cL_law 758 = .ok (.invokevirtual 94, 3) := by decide +kernel
theorem dL_law_761 : decode cL_law 761 = .ok (.if_icmp .eq 74, 3) := by decide +kernel
theorem dL_law_764 : decode cL_law 764 = .ok (.iconst 0, 1) := by decide +kernel
theorem dL_law_765 : decode cL_law 765 = .ok (.ireturn, 1) := by decide +kernel
theorem dL_law_766 : decode cL_law 766 = .ok (.aload_n 1, 1) := by decide +kernel
theorem dL_law_767 : decode cL_law 767 = .ok (.aload_n 0, 1) := by decide +kernel
theorem dL_law_768 : decode cL_law 768 = .ok (.iload_n 3, 1) := by decide +kernel
theorem dL_law_769 : decode cL_law 769 = .ok (.iconst 1, 1) := by decide +kernel
theorem dL_law_770 : decode cL_law 770 = .ok (.iadd, 1) := by decide +kernel
theorem dL_law_771 : decode cL_law 771 = .ok (.iaload, 1) := by decide +kernel
theorem dL_law_772 : decode cL_law 772 = .ok (.invokevirtual 95, 3) := by decide +kernel
theorem dL_law_775 : decode cL_law 775 = .ok (.aload_n 2, 1) := by decide +kernel
theorem dL_law_776 : decode cL_law 776 = .ok (.aload_n 0, 1) := by decide +kernel
theorem dL_law_777 : decode cL_law 777 = .ok (.iload_n 3, 1) := by decide +kernel
theorem dL_law_778 : decode cL_law 778 = .ok (.iconst 1, 1) := by decide +kernel
theorem dL_law_779 : decode cL_law 779 = .ok (.iadd, 1) := by decide +kernel
theorem dL_law_780 : decode cL_law 780 = .ok (.iaload, 1) := by decide +kernel
theorem dL_law_781 : decode cL_law 781 = .ok (.invokevirtual 98, 3) := by decide +kernel
theorem dL_law_784 : decode cL_law 784 = .ok (.if_icmp .eq 51, 3) := by decide +kernel
theorem dL_law_787 : decode cL_law 787 = .ok (.iconst 0, 1) := by decide +kernel
theorem dL_law_788 : decode cL_law 788 = .ok (.ireturn, 1) := by decide +kernel
theorem dL_law_789 : decode cL_law 789 = .ok (.aload_n 1, 1) := by decide +kernel
theorem dL_law_790 : decode cL_law 790 = .ok (.aload_n 0, 1) := by decide +kernel
theorem dL_law_791 : decode cL_law 791 = .ok (.iload_n 3, 1) := by decide +kernel
theorem dL_law_792 : decode cL_law 792 = .ok (.iconst 1, 1) := by decide +kernel
theorem dL_law_793 : decode cL_law 793 = .ok (.iadd, 1) := by decide +kernel
theorem dL_law_794 : decode cL_law 794 = .ok (.iaload, 1) := by decide +kernel
theorem dL_law_795 : decode cL_law 795 = .ok (.invokevirtual 99, 3) := by decide +kernel
theorem dL_law_798 : decode cL_law 798 = .ok (.aload_n 2, 1) := by decide +kernel
theorem dL_law_799 : decode cL_law 799 = .ok (.aload_n 0, 1) := by decide +kernel
theorem dL_law_800 : decode cL_law 800 = .ok (.iload_n 3, 1) := by decide +kernel
theorem dL_law_801 : decode cL_law 801 = .ok (.iconst 1, 1) := by decide +kernel
theorem dL_law_802 : decode cL_law 802 = .ok (.iadd, 1) := by decide +kernel
theorem dL_law_803 : decode cL_law 803 = .ok (.iaload, 1) := by decide +kernel
theorem dL_law_804 : decode cL_law 804 = .ok (.invokevirtual 102, 3) := by decide +kernel
theorem dL_law_807 : decode cL_law 807 = .ok (.if_icmp .eq 28, 3) := by decide +kernel
theorem dL_law_810 : decode cL_law 810 = .ok (.iconst 0, 1) := by decide +kernel
theorem dL_law_811 : decode cL_law 811 = .ok (.ireturn, 1) := by decide +kernel
theorem dL_law_812 : decode cL_law 812 = .ok (.aload_n 1, 1) := by decide +kernel
theorem dL_law_813 : decode cL_law 813 = .ok (.aload_n 0, 1) := by decide +kernel
theorem dL_law_814 : decode cL_law 814 = .ok (.iload_n 3, 1) := by decide +kernel
theorem dL_law_815 : decode cL_law 815 = .ok (.iconst 1, 1) := by decide +kernel
theorem dL_law_816 : decode cL_law 816 = .ok (.iadd, 1) := by decide +kernel
theorem dL_law_817 : decode cL_law 817 = .ok (.iaload, 1) := by decide +kernel
theorem dL_law_818 : decode cL_law 818 = .ok (.invokevirtual 103, 3) := by decide +kernel
theorem dL_law_821 : decode cL_law 821 = .ok (.aload_n 2, 1) := by decide +kernel
theorem dL_law_822 : decode cL_law 822 = .ok (.aload_n 0, 1) := by decide +kernel
theorem dL_law_823 : decode cL_law 823 = .ok (.iload_n 3, 1) := by decide +kernel
theorem dL_law_824 : decode cL_law 824 = .ok (.iconst 1, 1) := by decide +kernel
theorem dL_law_825 : decode cL_law 825 = .ok (.iadd, 1) := by decide +kernel
theorem dL_law_826 : decode cL_law 826 = .ok (.iaload, 1) := by decide +kernel
theorem dL_law_827 : decode cL_law 827 = .ok (.invokevirtual 106, 3) := by decide +kernel
theorem dL_law_830 : decode cL_law 830 = .ok (.if_icmp .eq 5, 3) := by decide +kernel
theorem dL_law_833 : decode cL_law 833 = .ok (.iconst 0, 1) := by decide +kernel
theorem dL_law_834 : decode cL_law 834 = .ok (.ireturn, 1) := by decide +kernel
theorem dL_law_835 : decode cL_law 835 = .ok (.iinc 3 7, 3) := by decide +kernel
theorem dL_law_838 : decode cL_law 838 = .ok (.goto (-820), 3) := by decide +kernel
theorem dL_law_841 : decode cL_law 841 = .ok (.iconst 1, 1) := by decide +kernel
theorem dL_law_842 : decode cL_law 842 = .ok (.ireturn, 1) := by decide +kernel
theorem dJ9_max_7cf53_0 : decode cJ9_max_7cf53 0 = .ok (.iload_n 0, 1) := by decide +kernel
theorem dJ9_max_7cf53_1 : decode cJ9_max_7cf53 1 = .ok (.iload_n 1, 1) := by decide +kernel
theorem dJ9_max_7cf53_2 : decode cJ9_max_7cf53 2 = .ok (.if_icmp .lt 7, 3) := by decide +kernel
theorem dJ9_max_7cf53_5 : decode cJ9_max_7cf53 5 = .ok (.iload_n 0, 1) := by decide +kernel
theorem dJ9_max_7cf53_6 : decode cJ9_max_7cf53 6 = .ok (.goto 4, 3) := by decide +kernel
theorem dJ9_max_7cf53_9 : decode cJ9_max_7cf53 9 = .ok (.iload_n 1, 1) := by decide +kernel
theorem dJ9_max_7cf53_10 : decode cJ9_max_7cf53 10 = .ok (.ireturn, 1) := by decide +kernel
theorem dJ9_min_7cf53_0 : decode cJ9_min_7cf53 0 = .ok (.iload_n 0, 1) := by decide +kernel
theorem dJ9_min_7cf53_1 : decode cJ9_min_7cf53 1 = .ok (.iload_n 1, 1) := by decide +kernel
theorem dJ9_min_7cf53_2 : decode cJ9_min_7cf53 2 = .ok (.if_icmp .gt 7, 3) := by decide +kernel
theorem dJ9_min_7cf53_5 : decode cJ9_min_7cf53 5 = .ok (.iload_n 0, 1) := by decide +kernel
theorem dJ9_min_7cf53_6 : decode cJ9_min_7cf53 6 = .ok (.goto 4, 3) := by decide +kernel
theorem dJ9_min_7cf53_9 : decode cJ9_min_7cf53 9 = .ok (.iload_n 1, 1) := by decide +kernel
theorem dJ9_min_7cf53_10 : decode cJ9_min_7cf53 10 = .ok (.ireturn, 1) := by decide +kernel
theorem dJ7_fill_53178_0 : decode cJ7_fill_53178 0 = .ok (.iconst 0, 1) := by decide +kernel
theorem dJ7_fill_53178_1 : decode cJ7_fill_53178 1 = .ok (.istore_n 2, 1) := by decide +kernel
theorem dJ7_fill_53178_2 : decode cJ7_fill_53178 2 = .ok (.aload_n 0, 1) := by decide +kernel
theorem dJ7_fill_53178_3 : decode cJ7_fill_53178 3 = .ok (.arraylength, 1) := by decide +kernel
theorem dJ7_fill_53178_4 : decode cJ7_fill_53178 4 = .ok (.istore_n 3, 1) := by decide +kernel
theorem dJ7_fill_53178_5 : decode cJ7_fill_53178 5 = .ok (.iload_n 2, 1) := by decide +kernel
theorem dJ7_fill_53178_6 : decode cJ7_fill_53178 6 = .ok (.iload_n 3, 1) := by decide +kernel
theorem dJ7_fill_53178_7 : decode cJ7_fill_53178 7 = .ok (.if_icmp .ge 13, 3) := by decide +kernel
theorem dJ7_fill_53178_10 : decode cJ7_fill_53178 10 = .ok (.aload_n 0, 1) := by decide +kernel
theorem dJ7_fill_53178_11 : decode cJ7_fill_53178 11 = .ok (.iload_n 2, 1) := by decide +kernel
theorem dJ7_fill_53178_12 : decode cJ7_fill_53178 12 = .ok (.iload_n 1, 1) := by decide +kernel
theorem dJ7_fill_53178_13 : decode cJ7_fill_53178 13 = .ok (.iastore, 1) := by decide +kernel
theorem dJ7_fill_53178_14 : decode cJ7_fill_53178 14 = .ok (.iinc 2 1, 3) := by decide +kernel
theorem dJ7_fill_53178_17 : decode cJ7_fill_53178 17 = .ok (.goto (-12), 3) := by decide +kernel
theorem dJ7_fill_53178_20 : decode cJ7_fill_53178 20 = .ok (.return_, 1) := by decide +kernel
end
section
/-! ===== the pure world: cells by number, what each holds; no method but the constructors makes a cell, no reference changes ===== -/
/-- the numbers of the world: rows of ints by cell (an object's row: its int fields by their place), rows of longs by cell -/
abbrev St : Type := (Nat → Nat → Int32) × (Nat → Nat → Int64)
def rwI (S : St) (k : Nat) (f : Nat → Int32) : St := (fun a => if a = k then f else S.1 a, S.2)
def rwL (S : St) (k : Nat) (f : Nat → Int64) : St := (S.1, fun a => if a = k then f else S.2 a)
def upI (S : St) (k j : Nat) (v : Int32) : St := rwI S k (upd (S.1 k) j v)
def upL (S : St) (k j : Nat) (v : Int64) : St := rwL S k (vp_updL (S.2 k) j v)
/-- a Traffic's cells, from its base on -/
def kdT (b o : Nat) : Nat × Nat × List (Option Nat) := match o with
  | 0 => (7, 0, [none, none, some (b+1), some (b+2), some (b+3), some (b+4), some (b+5), some (b+6), some (b+7), some (b+8), some (b+9), some (b+10), some (b+11), some (b+12), some (b+13), none, some (b+14), some (b+15), some (b+16)])
  | 1 => (10, 4, [])
  | 2 => (10, 24, [])
  | 12 => (10, 48, [])
  | 13 => (10, 48, [])
  | _ => (10, 12, [])
/-- the kind of a cell: its class (below 10), or 10 an int row, 11 a long row, 12 a boolean row, 13 a row of Traffics; a row's length; an object's fields: none a number, some a cell -/
def kd (k : Nat) : Nat × Nat × List (Option Nat) := match k with
  | 0 => (8, 0, [some 1, some 9, some 42, some 14, some 17, some 19, some 22, some 24])
  | 1 => (4, 0, [some 2, none, some 4, some 3, none, none, none, none])
  | 2 => (10, 120, [])
  | 3 => (10, 5, [])
  | 4 => (6, 0, [none, some 5, some 6, some 7, some 8])
  | 5 => (10, 4, [])
  | 6 => (10, 4, [])
  | 7 => (10, 4, [])
  | 8 => (10, 5, [])
  | 9 => (6, 0, [none, some 10, some 11, some 12, some 13])
  | 10 => (10, 4, [])
  | 11 => (10, 4, [])
  | 12 => (10, 4, [])
  | 13 => (10, 5, [])
  | 14 => (0, 0, [some 9, some 42, some 15, some 16, none])
  | 15 => (10, 4, [])
  | 16 => (10, 13, [])
  | 17 => (1, 0, [some 18, none, none])
  | 18 => (13, 6, [some 59, some 76, some 93, some 110, some 127, some 144])
  | 19 => (2, 0, [some 20, some 21])
  | 20 => (13, 2, [some 161, some 178])
  | 21 => (12, 2, [])
  | 22 => (3, 0, [some 23, none, none])
  | 23 => (11, 7, [])
  | 24 => (5, 0, [none, some 25, some 26])
  | 25 => (10, 6, [])
  | 26 => (10, 6, [])
  | 27 => (9, 0, [some 28, some 29, none, some 30, some 31, none, some 32, none, none, some 33, some 34, some 35, none, none, none, none, none, none, none, some 36, some 37, some 38, some 39, none, some 40, none, none, some 41])
  | 28 => (10, 2547, [])
  | 29 => (12, 2, [])
  | 30 => (10, 6, [])
  | 31 => (10, 6, [])
  | 32 => (10, 120, [])
  | 33 => (10, 4, [])
  | 34 => (10, 4, [])
  | 35 => (10, 6, [])
  | 36 => (10, 4, [])
  | 37 => (10, 4, [])
  | 38 => (10, 4, [])
  | 39 => (10, 6, [])
  | 40 => (10, 256, [])
  | 41 => (11, 7, [])
  | k => kdT (42 + 17 * ((k - 42) / 17)) ((k - 42) % 17)
abbrev NC : Nat := 195
abbrev vwCl : List vw_C := [(RX0, TX0, 5), (RX1, TX1, 3), (RX2, TX2, 2), (RX3, TX3, 3), (RX4, TX4, 8), (RX5, TX5, 3), (RX6, TX6, 5), (RX7, TX7, 19), (RX8, TX8, 8), (RX9, TX9, 28)]
def fsOf (adr : Nat → Nat) (f : Nat → Int32) : Nat → List (Option Nat) → List Value
  | _, [] => []
  | j, none :: r => .int (f j) :: fsOf adr f (j + 1) r
  | j, some q :: r => .ref (adr q) :: fsOf adr f (j + 1) r
def cellOf (cy : Nat → ClassId) (adr : Nat → Nat) (S : St) (k : Nat) : va_E :=
  if (kd k).1 < 10 then .inr ((kd k).1, fsOf adr (S.1 k) 0 (kd k).2.2)
  else if (kd k).1 = 10 then .inl (cy 0, (kd k).2.1, .inl (S.1 k))
  else if (kd k).1 = 11 then .inl (cy 1, (kd k).2.1, .inr (.inl (S.2 k)))
  else if (kd k).1 = 12 then .inl (cy 2, (kd k).2.1, .inl (S.1 k))
  else .inl (cy 3, (kd k).2.1, .inr (.inr (.inr (.inr (fun j => ((kd k).2.2.getD j none).map adr)))))
def wsOf (cy : Nat → ClassId) (adr : Nat → Nat) (S : St) : va_W := (List.range NC).map (fun k => (adr k, cellOf cy adr S k))
def tysOf (cy : Nat → ClassId) : List (ClassId × FieldType) := [(cy 0, .int), (cy 1, .long), (cy 2, .boolean), (cy 3, .object "GuardCells$Traffic")]
theorem fsOf_len (adr : Nat → Nat) (f : Nat → Int32) : ∀ (rs : List (Option Nat)) (j : Nat), (fsOf adr f j rs).length = rs.length
  | [], _ => rfl
  | none :: r, j => congrArg Nat.succ (fsOf_len adr f r (j + 1))
  | some _ :: r, j => congrArg Nat.succ (fsOf_len adr f r (j + 1))
theorem fsOf_num (adr : Nat → Nat) (f : Nat → Int32) : ∀ (rs : List (Option Nat)) (j i : Nat), rs[i]? = some none → (fsOf adr f j rs)[i]? = some (.int (f (j + i)))
  | [], _, i, h => by simp at h
  | none :: r, j, 0, _ => rfl
  | some q :: r, j, 0, h => by simp at h
  | none :: r, j, i + 1, h => by
    have := fsOf_num adr f r (j + 1) i (by simpa using h)
    simpa [fsOf, Nat.add_assoc, Nat.add_comm 1 i] using this
  | some q :: r, j, i + 1, h => by
    have := fsOf_num adr f r (j + 1) i (by simpa using h)
    simpa [fsOf, Nat.add_assoc, Nat.add_comm 1 i] using this
theorem fsOf_ref (adr : Nat → Nat) (f : Nat → Int32) : ∀ (rs : List (Option Nat)) (j i q : Nat), rs[i]? = some (some q) → (fsOf adr f j rs)[i]? = some (.ref (adr q))
  | [], _, i, q, h => by simp at h
  | none :: r, j, 0, q, h => by simp at h
  | some q' :: r, j, 0, q, h => by
    simp at h
    simp [fsOf, h]
  | none :: r, j, i + 1, q, h => by
    have := fsOf_ref adr f r (j + 1) i q (by simpa using h)
    simpa [fsOf] using this
  | some q' :: r, j, i + 1, q, h => by
    have := fsOf_ref adr f r (j + 1) i q (by simpa using h)
    simpa [fsOf] using this
theorem fsOf_out (adr : Nat → Nat) (f : Nat → Int32) (i : Nat) (v : Int32) : ∀ (rs : List (Option Nat)) (j : Nat), i < j → fsOf adr (upd f i v) j rs = fsOf adr f j rs
  | [], _, _ => rfl
  | none :: r, j, h => by
    have := fsOf_out adr f i v r (j + 1) (by omega)
    simp [fsOf, this, upd, show ¬ j = i by omega]
  | some q :: r, j, h => by
    have := fsOf_out adr f i v r (j + 1) (by omega)
    simp [fsOf, this]
theorem fsOf_set (adr : Nat → Nat) (f : Nat → Int32) (v : Int32) : ∀ (rs : List (Option Nat)) (j i : Nat), rs[i]? = some none → (fsOf adr f j rs).set i (.int v) = fsOf adr (upd f (j + i) v) j rs
  | [], _, i, h => by simp at h
  | none :: r, j, 0, _ => by
    simp [fsOf, upd, fsOf_out adr f j v r (j + 1) (by omega)]
  | some q :: r, j, 0, h => by simp at h
  | none :: r, j, i + 1, h => by
    have := fsOf_set adr f v r (j + 1) i (by simpa using h)
    rw [show j + 1 + i = j + (i + 1) by omega] at this
    simp [fsOf, this, upd, show ¬ j = j + (i + 1) by omega]
  | some q :: r, j, i + 1, h => by
    have := fsOf_set adr f v r (j + 1) i (by simpa using h)
    rw [show j + 1 + i = j + (i + 1) by omega] at this
    simp [fsOf, this]
theorem cellOf_obj {cy : Nat → ClassId} {adr : Nat → Nat} {S : St} {k t n : Nat} {rs : List (Option Nat)} (h : kd k = (t, n, rs)) (ht : t < 10) : cellOf cy adr S k = .inr (t, fsOf adr (S.1 k) 0 rs) := by
  simp [cellOf, h, ht]
theorem cellOf_int {cy : Nat → ClassId} {adr : Nat → Nat} {S : St} {k n : Nat} {rs : List (Option Nat)} (h : kd k = (10, n, rs)) : cellOf cy adr S k = .inl (cy 0, n, .inl (S.1 k)) := by
  simp [cellOf, h]
theorem cellOf_long {cy : Nat → ClassId} {adr : Nat → Nat} {S : St} {k n : Nat} {rs : List (Option Nat)} (h : kd k = (11, n, rs)) : cellOf cy adr S k = .inl (cy 1, n, .inr (.inl (S.2 k))) := by
  simp [cellOf, h]
theorem cellOf_bool {cy : Nat → ClassId} {adr : Nat → Nat} {S : St} {k n : Nat} {rs : List (Option Nat)} (h : kd k = (12, n, rs)) : cellOf cy adr S k = .inl (cy 2, n, .inl (S.1 k)) := by
  simp [cellOf, h]
theorem cellOf_refs {cy : Nat → ClassId} {adr : Nat → Nat} {S : St} {k n : Nat} {rs : List (Option Nat)} (h : kd k = (13, n, rs)) : cellOf cy adr S k = .inl (cy 3, n, .inr (.inr (.inr (.inr (fun j => (rs.getD j none).map adr))))) := by
  simp [cellOf, h]
theorem cellOf_neI {cy : Nat → ClassId} {adr : Nat → Nat} {S : St} {k k' : Nat} {f : Nat → Int32} (h : k' ≠ k) : cellOf cy adr (rwI S k f) k' = cellOf cy adr S k' := by
  simp [cellOf, rwI, h]
theorem cellOf_neL {cy : Nat → ClassId} {adr : Nat → Nat} {S : St} {k k' : Nat} {f : Nat → Int64} (h : k' ≠ k) : cellOf cy adr (rwL S k f) k' = cellOf cy adr S k' := by
  simp [cellOf, rwL, h]
theorem wsOf_get {cy : Nat → ClassId} {adr : Nat → Nat} {S : St} {k : Nat} (hk : k < NC) : (wsOf cy adr S)[k]? = some (adr k, cellOf cy adr S k) := by
  simp [wsOf, List.getElem?_map, List.getElem?_range hk]
theorem wsOf_len {cy : Nat → ClassId} {adr : Nat → Nat} {S : St} : (wsOf cy adr S).length = NC := by simp [wsOf]
theorem wsOf_at {cy : Nat → ClassId} {adr : Nat → Nat} {S : St} {k : Nat} {q : Nat × va_E} (h : (wsOf cy adr S)[k]? = some q) : k < NC ∧ q.1 = adr k := by
  have hl : k < NC := by
    have := (List.getElem?_eq_some_iff.mp h).1
    rwa [wsOf_len] at this
  rw [wsOf_get hl] at h
  cases h
  exact ⟨hl, rfl⟩
theorem wsOf_set {cy : Nat → ClassId} {adr : Nat → Nat} {S S' : St} {k : Nat} {e : va_E} (hk : k < NC) (he : cellOf cy adr S' k = e) (hne : ∀ k', k' ≠ k → cellOf cy adr S' k' = cellOf cy adr S k') : (wsOf cy adr S).set k (adr k, e) = wsOf cy adr S' := by
  apply List.ext_getElem?
  intro i
  by_cases hi : i = k
  · subst hi
    rw [List.getElem?_set_self (by rw [wsOf_len]; exact hk), wsOf_get hk, he]
  · rw [List.getElem?_set_ne (Ne.symm hi)]
    by_cases hl : i < NC
    · rw [wsOf_get hl, wsOf_get hl, hne i hi]
    · rw [List.getElem?_eq_none (by rw [wsOf_len]; omega), List.getElem?_eq_none (by rw [wsOf_len]; omega)]
/-- which cells the world may change -/
def Aw (adr : Nat → Nat) : Nat → Prop := fun q => ∃ k, k < NC ∧ q = adr k
theorem wsOf_D {cy : Nat → ClassId} {adr : Nat → Nat} {S : St} {A : Nat → Prop} (hi : ∀ i j, i < NC → j < NC → adr i = adr j → i = j) (hA : ∀ k, k < NC → A (adr k)) : va_D A (wsOf cy adr S) := by
  refine ⟨fun i j x y hx hy hxy => ?_, fun k q hq => ?_⟩
  · obtain ⟨h1, e1⟩ := wsOf_at hx
    obtain ⟨h2, e2⟩ := wsOf_at hy
    exact hi i j h1 h2 (by rw [← e1, ← e2]; exact hxy)
  · obtain ⟨h1, e1⟩ := wsOf_at hq
    rw [e1]
    exact hA k h1
end
section
/-! ===== the judgement J: a pure term X of the rest of a method; if X = some r, the machine goes on to the end that r tells ===== -/
def isNest : Cond → Bool
  | .fieldLinkNest _ _ _ _ _ _ => true
  | .methodLinkNest _ _ _ _ => true
  | _ => false
def lw_good : List Cond := lw_tbl.filter goodWord
def lw_nest : List Cond := lw_tbl.filter isNest
theorem gd_of {w : Cond} (h : w ∈ lw_tbl) (g : goodWord w = true) : w ∈ lw_good := List.mem_filter.mpr ⟨h, g⟩
theorem ne_of {w : Cond} (h : w ∈ lw_tbl) (g : isNest w = true) : w ∈ lw_nest := List.mem_filter.mpr ⟨h, g⟩
theorem gd_good {w : Cond} (h : w ∈ lw_good) : (w.onTables && w.keeps) = true ∨ ∃ ty, w = .arrayClass ty := good_of_word (List.mem_filter.mp h).2
theorem nest_warm {s U : State} (hW : s.WarmedH U.vm) (h : ∀ w ∈ lw_nest, va_Nw w s) : ∀ w ∈ lw_nest, va_Nw w U := by
  intro w hw
  have h1 := h w hw
  have hn := (List.mem_filter.mp hw).2
  cases w <;> first | (simp [isNest] at hn; done) | exact va_Nw.warmF hW h1 | exact va_Nw.warmM hW h1
theorem nest_same {s U : State} (hv : s.vm = U.vm) (h : ∀ w ∈ lw_nest, va_Nw w s) : ∀ w ∈ lw_nest, va_Nw w U := by
  intro w hw
  have h1 := h w hw
  have hn := (List.mem_filter.mp hw).2
  cases w <;> first | (simp [isNest] at hn; done) | exact va_Nw.same rfl hv h1
/-- the four static rows -/
def tbLetter : Nat → Int32 := fun j => [104, 100, 107, 109, 119].getD j 0
def tbLeast : Nat → Int32 := fun j => [0, 1, 0, 0, 1].getD j 0
def tbMost : Nat → Int32 := fun j => [20, 5, 3, 60, 9].getD j 0
def tbFirst : Nat → Int32 := fun j => [3, 2, 1, 10, 3].getD j 0
def Sta (n d : String) (ty : FieldType) (f : Nat → Int32) (A : Nat → Prop) (s : State) : Prop := ∃ t : Nat, va_Z RX8 n d (.ref t) A s s.heap ∧ va_T ty t 5 (fun j => .int (f j)) A s s.heap
def Stt (A : Nat → Prop) (s : State) : Prop := Sta "SETTING_LETTER" "[C" .char tbLetter A s ∧ Sta "SETTING_LEAST" "[I" .int tbLeast A s ∧ Sta "SETTING_MOST" "[I" .int tbMost A s ∧ Sta "SETTING_FIRST" "[I" .int tbFirst A s
theorem Sta.to {n d : String} {ty : FieldType} {f : Nat → Int32} {A B : Nat → Prop} {s U : State} {H : Heap} {locs : List Loc} (h : Sta n d ty f A s) (hS : va_S A s.heap H locs) (hAB : ∀ q, B q → A q) (hvm : s.vm.Alike U.vm) (hU : U.heap = H) : Sta n d ty f B U := by
  obtain ⟨t, h1, h2⟩ := h
  refine ⟨t, ?_, ?_⟩
  · rw [hU]; exact ((h1.kept hS.2.1).narrow hAB).moved hvm
  · rw [hU]; exact ((h2.kept hS.2.1).narrow hAB).moved hvm
theorem Stt.to {A B : Nat → Prop} {s U : State} {H : Heap} {locs : List Loc} (h : Stt A s) (hS : va_S A s.heap H locs) (hAB : ∀ q, B q → A q) (hvm : s.vm.Alike U.vm) (hU : U.heap = H) : Stt B U :=
  ⟨h.1.to hS hAB hvm hU, h.2.1.to hS hAB hvm hU, h.2.2.1.to hS hAB hvm hU, h.2.2.2.to hS hAB hvm hU⟩
/-- a state that holds the world S -/
def Wd (D : va_G) (cy : Nat → ClassId) (adr : Nat → Nat) (S : St) (U : State) : Prop :=
  va_P D vwCl (wsOf cy adr S) U.heap ∧ va_K D vwCl (tysOf cy) U ∧ (∀ i j, i < NC → j < NC → adr i = adr j → i = j) ∧ (∀ w ∈ lw_nest, va_Nw w U) ∧ Stt (Aw adr) U
theorem Wd.blind {D : va_G} {cy : Nat → ClassId} {adr : Nat → Nat} {S : St} {av : List Value} : FrameBlind (va_Pc av (Wd D cy adr S)) := by
  intro a U g mk q
  obtain ⟨q0, qP, qK, qI, qN, qS⟩ := q
  exact ⟨q0, qP, va_K.moved (u := U) (U := U.calling g mk a) (Vm.Alike.refl U.vm) qK, qI, nest_same (s := U) (U := U.calling g mk a) rfl qN, qS.to (U := U.calling g mk a) (H := U.heap) (locs := []) va_S.rf (fun _ h => h) (Vm.Alike.refl U.vm) rfl⟩
abbrev Kt : Type := Nat → List (Nat × Value) → List Value → St → Prop
def Gd (p : Program) (l : Launch) (e : Env) (R : Room) (s : State) (m : MethodId) (args : Array Value) (below : List Frame) (meth : Method) (c : Code) (nL : Nat) (D : va_G) (cy : Nat → ClassId) (adr : Nat → Nat) (A : Nat → Prop) (cN sN : Nat) (Q : State → Prop) : Kt := fun pc lv st S =>
  ∀ (H : Heap) (locs : List Loc) (ls : Array Slot), va_P D vwCl (wsOf cy adr S) H → va_S A s.heap H locs → lv_has ls nL lv → W p l e R s m args below meth c H locs cN sN Q (F0 m pc ls st)
/-- a method's body is walked: the machine, its code, the tables' words, the world's addresses -/
def Cx (K : Kt) (cc : ByteArray) (own : String) (nL : Nat) (adr : Nat → Nat) (R : Room) : Prop :=
  ∃ (p : Program) (l : Launch) (e : Env) (s : State) (m : MethodId) (args : Array Value) (below : List Frame) (meth : Method) (c : Code) (D : va_G) (cy : Nat → ClassId) (A : Nat → Prop) (cN sN : Nat) (Q : State → Prop),
    K = Gd p l e R s m args below meth c nL D cy adr A cN sN Q ∧ p.tables.exec = Jvm.exec ∧ c.code = cc ∧ c.maxLocals = nL ∧ s.vm.findClass own = some m.cls ∧ (∀ w ∈ lw_good, w.before args s = true) ∧ (∀ w ∈ lw_nest, va_Nw w s) ∧ va_K D vwCl (tysOf cy) s ∧ (∀ i j, i < NC → j < NC → adr i = adr j → i = j) ∧ (∀ k, k < NC → A (adr k)) ∧ Stt A s ∧ cN ≤ R.cells ∧ sN ≤ R.slots
def J {ρ : Type} (K : Kt) (r : ρ) (X : Option ρ) (pc : Nat) (lv : List (Nat × Value)) (st : List Value) (S : St) : Prop := X = some r → K pc lv st S
/-- an index is looked at; a divisor; a truth value -/
def ck {ρ : Type} (i : Int32) (n : Nat) (X : Option ρ) : Option ρ := if i < 0 ∨ n ≤ i.toNatClampNeg then none else X
def nz {ρ : Type} (y : Int32) (X : Option ρ) : Option ρ := if y = 0 then none else X
def nzL {ρ : Type} (y : Int64) (X : Option ρ) : Option ρ := if y = 0 then none else X
def lt {α β : Type} (a : α) (f : α → β) : β := f a
def bd {α ρ : Type} (m : Option (α × St)) (f : α → St → Option ρ) : Option ρ := m.bind (fun q => f q.1 q.2)
def bdV {ρ : Type} (m : Option St) (f : St → Option ρ) : Option ρ := m.bind f
def bz {ρ : Type} (v : Int32) (X : Option ρ) : Option ρ := if v = 0 ∨ v = 1 then X else none
theorem ck_some {ρ : Type} {i : Int32} {n : Nat} {X : Option ρ} {r : ρ} (h : ck i n X = some r) : vp_in i n ∧ X = some r := by
  unfold ck at h
  split at h
  · cases h
  · rename_i hn
    exact ⟨hn, h⟩
theorem nz_some {ρ : Type} {y : Int32} {X : Option ρ} {r : ρ} (h : nz y X = some r) : ¬ y = 0 ∧ X = some r := by
  unfold nz at h
  split at h
  · cases h
  · rename_i hn
    exact ⟨hn, h⟩
theorem nzL_some {ρ : Type} {y : Int64} {X : Option ρ} {r : ρ} (h : nzL y X = some r) : ¬ y = 0 ∧ X = some r := by
  unfold nzL at h
  split at h
  · cases h
  · rename_i hn
    exact ⟨hn, h⟩
theorem bz_some {ρ : Type} {v : Int32} {X : Option ρ} {r : ρ} (h : bz v X = some r) : (v = 0 ∨ v = 1) ∧ X = some r := by
  unfold bz at h
  split at h
  · rename_i hn
    exact ⟨hn, h⟩
  · cases h
section JR
variable {ρ : Type} {K : Kt} {cc : ByteArray} {own : String} {nL : Nat} {adr : Nat → Nat} {R : Room} {r : ρ} {X Y : Option ρ} {pc : Nat} {lv : List (Nat × Value)} {st : List Value} {S : St}
theorem j_iadd (C : Cx K cc own nL adr R) {x y : Int32} (d : decode cc pc = .ok (.iadd, 1)) (h : J K r X (pc + 1) lv (.int (x + y) :: st) S) : J K r X pc lv (.int y :: .int x :: st) S := by
  obtain ⟨p, l, e, s, m, args, below, meth, c, D, cy, A, cN, sN, Q, rfl, hx, hb, hml, hown, hts, hnw, hK, hI, hA, hSt, hcN, hsN⟩ := C
  intro hX H locs ls hP hS hl
  exact lv_iadd hx hb d (h hX H locs ls hP hS hl)
theorem j_isub (C : Cx K cc own nL adr R) {x y : Int32} (d : decode cc pc = .ok (.isub, 1)) (h : J K r X (pc + 1) lv (.int (x - y) :: st) S) : J K r X pc lv (.int y :: .int x :: st) S := by
  obtain ⟨p, l, e, s, m, args, below, meth, c, D, cy, A, cN, sN, Q, rfl, hx, hb, hml, hown, hts, hnw, hK, hI, hA, hSt, hcN, hsN⟩ := C
  intro hX H locs ls hP hS hl
  exact lv_isub hx hb d (h hX H locs ls hP hS hl)
theorem j_imul (C : Cx K cc own nL adr R) {x y : Int32} (d : decode cc pc = .ok (.imul, 1)) (h : J K r X (pc + 1) lv (.int (x * y) :: st) S) : J K r X pc lv (.int y :: .int x :: st) S := by
  obtain ⟨p, l, e, s, m, args, below, meth, c, D, cy, A, cN, sN, Q, rfl, hx, hb, hml, hown, hts, hnw, hK, hI, hA, hSt, hcN, hsN⟩ := C
  intro hX H locs ls hP hS hl
  exact lv_imul hx hb d (h hX H locs ls hP hS hl)
theorem j_iand (C : Cx K cc own nL adr R) {x y : Int32} (d : decode cc pc = .ok (.iand, 1)) (h : J K r X (pc + 1) lv (.int (x &&& y) :: st) S) : J K r X pc lv (.int y :: .int x :: st) S := by
  obtain ⟨p, l, e, s, m, args, below, meth, c, D, cy, A, cN, sN, Q, rfl, hx, hb, hml, hown, hts, hnw, hK, hI, hA, hSt, hcN, hsN⟩ := C
  intro hX H locs ls hP hS hl
  exact lv_iand hx hb d (h hX H locs ls hP hS hl)
theorem j_ior (C : Cx K cc own nL adr R) {x y : Int32} (d : decode cc pc = .ok (.ior, 1)) (h : J K r X (pc + 1) lv (.int (x ||| y) :: st) S) : J K r X pc lv (.int y :: .int x :: st) S := by
  obtain ⟨p, l, e, s, m, args, below, meth, c, D, cy, A, cN, sN, Q, rfl, hx, hb, hml, hown, hts, hnw, hK, hI, hA, hSt, hcN, hsN⟩ := C
  intro hX H locs ls hP hS hl
  exact lv_ior hx hb d (h hX H locs ls hP hS hl)
theorem j_ishl (C : Cx K cc own nL adr R) {x y : Int32} (d : decode cc pc = .ok (.ishl, 1)) (h : J K r X (pc + 1) lv (.int (x <<< (y &&& 31)) :: st) S) : J K r X pc lv (.int y :: .int x :: st) S := by
  obtain ⟨p, l, e, s, m, args, below, meth, c, D, cy, A, cN, sN, Q, rfl, hx, hb, hml, hown, hts, hnw, hK, hI, hA, hSt, hcN, hsN⟩ := C
  intro hX H locs ls hP hS hl
  exact lv_ishl hx hb d (h hX H locs ls hP hS hl)
theorem j_ishr (C : Cx K cc own nL adr R) {x y : Int32} (d : decode cc pc = .ok (.ishr, 1)) (h : J K r X (pc + 1) lv (.int (x >>> (y &&& 31)) :: st) S) : J K r X pc lv (.int y :: .int x :: st) S := by
  obtain ⟨p, l, e, s, m, args, below, meth, c, D, cy, A, cN, sN, Q, rfl, hx, hb, hml, hown, hts, hnw, hK, hI, hA, hSt, hcN, hsN⟩ := C
  intro hX H locs ls hP hS hl
  exact lv_ishr hx hb d (h hX H locs ls hP hS hl)
theorem j_iushr (C : Cx K cc own nL adr R) {x y : Int32} (d : decode cc pc = .ok (.iushr, 1)) (h : J K r X (pc + 1) lv (.int (x.toUInt32 >>> (y.toUInt32 &&& Int32.toUInt32 31)).toInt32 :: st) S) : J K r X pc lv (.int y :: .int x :: st) S := by
  obtain ⟨p, l, e, s, m, args, below, meth, c, D, cy, A, cN, sN, Q, rfl, hx, hb, hml, hown, hts, hnw, hK, hI, hA, hSt, hcN, hsN⟩ := C
  intro hX H locs ls hP hS hl
  exact lv_iushr hx hb d rfl (h hX H locs ls hP hS hl)
theorem j_i2l (C : Cx K cc own nL adr R) {x : Int32} (d : decode cc pc = .ok (.i2l, 1)) (h : J K r X (pc + 1) lv (.long x.toInt64 :: st) S) : J K r X pc lv (.int x :: st) S := by
  obtain ⟨p, l, e, s, m, args, below, meth, c, D, cy, A, cN, sN, Q, rfl, hx, hb, hml, hown, hts, hnw, hK, hI, hA, hSt, hcN, hsN⟩ := C
  intro hX H locs ls hP hS hl
  exact lv_i2l hx hb d rfl (h hX H locs ls hP hS hl)
theorem j_ladd (C : Cx K cc own nL adr R) {x y : Int64} (d : decode cc pc = .ok (.ladd, 1)) (h : J K r X (pc + 1) lv (.long (x + y) :: st) S) : J K r X pc lv (.long y :: .long x :: st) S := by
  obtain ⟨p, l, e, s, m, args, below, meth, c, D, cy, A, cN, sN, Q, rfl, hx, hb, hml, hown, hts, hnw, hK, hI, hA, hSt, hcN, hsN⟩ := C
  intro hX H locs ls hP hS hl
  exact lv_ladd hx hb d (h hX H locs ls hP hS hl)
theorem j_lmul (C : Cx K cc own nL adr R) {x y : Int64} (d : decode cc pc = .ok (.lmul, 1)) (h : J K r X (pc + 1) lv (.long (x * y) :: st) S) : J K r X pc lv (.long y :: .long x :: st) S := by
  obtain ⟨p, l, e, s, m, args, below, meth, c, D, cy, A, cN, sN, Q, rfl, hx, hb, hml, hown, hts, hnw, hK, hI, hA, hSt, hcN, hsN⟩ := C
  intro hX H locs ls hP hS hl
  exact lv_lmul hx hb d (h hX H locs ls hP hS hl)
theorem j_lcmp (C : Cx K cc own nL adr R) {x y : Int64} (d : decode cc pc = .ok (.lcmp, 1)) (h : J K r X (pc + 1) lv (.int (lg_cmp x y) :: st) S) : J K r X pc lv (.long y :: .long x :: st) S := by
  obtain ⟨p, l, e, s, m, args, below, meth, c, D, cy, A, cN, sN, Q, rfl, hx, hb, hml, hown, hts, hnw, hK, hI, hA, hSt, hcN, hsN⟩ := C
  intro hX H locs ls hP hS hl
  exact W.lcmp hx hb d (h hX H locs ls hP hS hl)
theorem j_iconst (C : Cx K cc own nL adr R) {n : Int} {v : Int32} (d : decode cc pc = .ok (.iconst n, 1)) (hv : Int32.ofInt n = v) (h : J K r X (pc + 1) lv (.int v :: st) S) : J K r X pc lv (st) S := by
  obtain ⟨p, l, e, s, m, args, below, meth, c, D, cy, A, cN, sN, Q, rfl, hx, hb, hml, hown, hts, hnw, hK, hI, hA, hSt, hcN, hsN⟩ := C
  intro hX H locs ls hP hS hl
  exact lv_iconst hx hb d hv (h hX H locs ls hP hS hl)
theorem j_bipush (C : Cx K cc own nL adr R) {n : Int} {v : Int32} (d : decode cc pc = .ok (.bipush n, 2)) (hv : (Int8.ofInt n).toInt32 = v) (h : J K r X (pc + 2) lv (.int v :: st) S) : J K r X pc lv (st) S := by
  obtain ⟨p, l, e, s, m, args, below, meth, c, D, cy, A, cN, sN, Q, rfl, hx, hb, hml, hown, hts, hnw, hK, hI, hA, hSt, hcN, hsN⟩ := C
  intro hX H locs ls hP hS hl
  exact lv_bipush hx hb d hv (h hX H locs ls hP hS hl)
theorem j_sipush (C : Cx K cc own nL adr R) {n : Int} {v : Int32} (d : decode cc pc = .ok (.sipush n, 3)) (hv : (Int16.ofInt n).toInt32 = v) (h : J K r X (pc + 3) lv (.int v :: st) S) : J K r X pc lv (st) S := by
  obtain ⟨p, l, e, s, m, args, below, meth, c, D, cy, A, cN, sN, Q, rfl, hx, hb, hml, hown, hts, hnw, hK, hI, hA, hSt, hcN, hsN⟩ := C
  intro hX H locs ls hP hS hl
  exact lv_sipush hx hb d hv (h hX H locs ls hP hS hl)
theorem j_lconst (C : Cx K cc own nL adr R) {n : Fin 2} {v : Int64} (d : decode cc pc = .ok (.lconst n, 1)) (hv : Int64.ofNat (n : Nat) = v) (h : J K r X (pc + 1) lv (.long v :: st) S) : J K r X pc lv (st) S := by
  obtain ⟨p, l, e, s, m, args, below, meth, c, D, cy, A, cN, sN, Q, rfl, hx, hb, hml, hown, hts, hnw, hK, hI, hA, hSt, hcN, hsN⟩ := C
  intro hX H locs ls hP hS hl
  exact lv_lconst hx hb d hv (h hX H locs ls hP hS hl)
theorem j_ldc (C : Cx K cc own nL adr R) {idx : Nat} {v : Int32} (d : decode cc pc = .ok (.ldc idx, 2)) (hc : Cond.constant own idx v ∈ lw_good) (h : J K r X (pc + 2) lv (.int v :: st) S) : J K r X pc lv (st) S := by
  obtain ⟨p, l, e, s, m, args, below, meth, c, D, cy, A, cN, sN, Q, rfl, hx, hb, hml, hown, hts, hnw, hK, hI, hA, hSt, hcN, hsN⟩ := C
  intro hX H locs ls hP hS hl
  exact lv_ldc hx hb hown (hts _ hc) d (h hX H locs ls hP hS hl)
theorem j_ldc2 (C : Cx K cc own nL adr R) {idx : Nat} {v : Int64} (d : decode cc pc = .ok (.ldc2_w idx, 3)) (hc : Cond.constantLong own idx v ∈ lw_good) (h : J K r X (pc + 3) lv (.long v :: st) S) : J K r X pc lv (st) S := by
  obtain ⟨p, l, e, s, m, args, below, meth, c, D, cy, A, cN, sN, Q, rfl, hx, hb, hml, hown, hts, hnw, hK, hI, hA, hSt, hcN, hsN⟩ := C
  intro hX H locs ls hP hS hl
  exact lv_ldc2 hx hb hown (hts _ hc) d (h hX H locs ls hP hS hl)
theorem j_dup (C : Cx K cc own nL adr R) {va : Value} (d : decode cc pc = .ok (.dup, 1)) (hva : va.category = 1) (h : J K r X (pc + 1) lv (va :: va :: st) S) : J K r X pc lv (va :: st) S := by
  obtain ⟨p, l, e, s, m, args, below, meth, c, D, cy, A, cN, sN, Q, rfl, hx, hb, hml, hown, hts, hnw, hK, hI, hA, hSt, hcN, hsN⟩ := C
  intro hX H locs ls hP hS hl
  exact lv_dup hx hb d hva (h hX H locs ls hP hS hl)
theorem j_pop (C : Cx K cc own nL adr R) {va : Value} (d : decode cc pc = .ok (.pop, 1)) (hva : va.category = 1) (h : J K r X (pc + 1) lv (st) S) : J K r X pc lv (va :: st) S := by
  obtain ⟨p, l, e, s, m, args, below, meth, c, D, cy, A, cN, sN, Q, rfl, hx, hb, hml, hown, hts, hnw, hK, hI, hA, hSt, hcN, hsN⟩ := C
  intro hX H locs ls hP hS hl
  exact lv_pop hx hb d hva (h hX H locs ls hP hS hl)
theorem j_dup2 (C : Cx K cc own nL adr R) {va vb : Value} (d : decode cc pc = .ok (.dup2, 1)) (hva : va.category = 1) (hvb : vb.category = 1) (h : J K r X (pc + 1) lv (va :: vb :: va :: vb :: st) S) : J K r X pc lv (va :: vb :: st) S := by
  obtain ⟨p, l, e, s, m, args, below, meth, c, D, cy, A, cN, sN, Q, rfl, hx, hb, hml, hown, hts, hnw, hK, hI, hA, hSt, hcN, hsN⟩ := C
  intro hX H locs ls hP hS hl
  exact lv_dup2_11 hx hb d hva hvb (h hX H locs ls hP hS hl)
theorem j_iload_n (C : Cx K cc own nL adr R) {k : Fin 4} {i : Nat} {x : Int32} (d : decode cc pc = .ok (.iload_n k, 1)) (q : Nat) (hi : (k : Nat) = i) (hq : lv[q]? = some (i, .int x)) (h : J K r X (pc + 1) lv (.int x :: st) S) : J K r X pc lv (st) S := by
  obtain ⟨p, l, e, s, m, args, below, meth, c, D, cy, A, cN, sN, Q, rfl, hx, hb, hml, hown, hts, hnw, hK, hI, hA, hSt, hcN, hsN⟩ := C
  intro hX H locs ls hP hS hl
  exact lv_iload_n hx hb d hi (lv_at hl q hq) (h hX H locs ls hP hS hl)
theorem j_iload (C : Cx K cc own nL adr R) {i : Nat} {x : Int32} (d : decode cc pc = .ok (.iload i, 2)) (q : Nat) (hq : lv[q]? = some (i, .int x)) (h : J K r X (pc + 2) lv (.int x :: st) S) : J K r X pc lv (st) S := by
  obtain ⟨p, l, e, s, m, args, below, meth, c, D, cy, A, cN, sN, Q, rfl, hx, hb, hml, hown, hts, hnw, hK, hI, hA, hSt, hcN, hsN⟩ := C
  intro hX H locs ls hP hS hl
  exact lv_iload hx hb d (lv_at hl q hq) (h hX H locs ls hP hS hl)
theorem j_istore_n (C : Cx K cc own nL adr R) {k : Fin 4} {i : Nat} {x : Int32} {lv' : List (Nat × Value)} (d : decode cc pc = .ok (.istore_n k, 1)) (hi : (k : Nat) = i) (hn : i < nL) (hl' : (i, Value.int x) :: lv.filter (fun q => !(q.1 == i) && !(q.1 + 1 == i && q.2.category == 2)) = lv') (h : J K r X (pc + 1) lv' st S) : J K r X pc lv (.int x :: st) S := by
  obtain ⟨p, l, e, s, m, args, below, meth, c, D, cy, A, cN, sN, Q, rfl, hx, hb, hml, hown, hts, hnw, hK, hI, hA, hSt, hcN, hsN⟩ := C
  intro hX H locs ls hP hS hl
  exact lv_istore_n hx hb d hi hl hn hl' (fun ls' h' => h hX H locs ls' hP hS h')
theorem j_istore (C : Cx K cc own nL adr R) {i : Nat} {x : Int32} {lv' : List (Nat × Value)} (d : decode cc pc = .ok (.istore i, 2)) (hn : i < nL) (hl' : (i, Value.int x) :: lv.filter (fun q => !(q.1 == i) && !(q.1 + 1 == i && q.2.category == 2)) = lv') (h : J K r X (pc + 2) lv' st S) : J K r X pc lv (.int x :: st) S := by
  obtain ⟨p, l, e, s, m, args, below, meth, c, D, cy, A, cN, sN, Q, rfl, hx, hb, hml, hown, hts, hnw, hK, hI, hA, hSt, hcN, hsN⟩ := C
  intro hX H locs ls hP hS hl
  exact lv_istore hx hb d hl hn hl' (fun ls' h' => h hX H locs ls' hP hS h')
theorem j_lload_n (C : Cx K cc own nL adr R) {k : Fin 4} {i : Nat} {x : Int64} (d : decode cc pc = .ok (.lload_n k, 1)) (q : Nat) (hi : (k : Nat) = i) (hq : lv[q]? = some (i, .long x)) (h : J K r X (pc + 1) lv (.long x :: st) S) : J K r X pc lv (st) S := by
  obtain ⟨p, l, e, s, m, args, below, meth, c, D, cy, A, cN, sN, Q, rfl, hx, hb, hml, hown, hts, hnw, hK, hI, hA, hSt, hcN, hsN⟩ := C
  intro hX H locs ls hP hS hl
  exact lv_lload_n hx hb d hi (lv_at hl q hq) (h hX H locs ls hP hS hl)
theorem j_lload (C : Cx K cc own nL adr R) {i : Nat} {x : Int64} (d : decode cc pc = .ok (.lload i, 2)) (q : Nat) (hq : lv[q]? = some (i, .long x)) (h : J K r X (pc + 2) lv (.long x :: st) S) : J K r X pc lv (st) S := by
  obtain ⟨p, l, e, s, m, args, below, meth, c, D, cy, A, cN, sN, Q, rfl, hx, hb, hml, hown, hts, hnw, hK, hI, hA, hSt, hcN, hsN⟩ := C
  intro hX H locs ls hP hS hl
  exact lv_lload hx hb d (lv_at hl q hq) (h hX H locs ls hP hS hl)
theorem j_lstore_n (C : Cx K cc own nL adr R) {k : Fin 4} {i : Nat} {x : Int64} {lv' : List (Nat × Value)} (d : decode cc pc = .ok (.lstore_n k, 1)) (hi : (k : Nat) = i) (hn : i + 1 < nL) (hl' : (i, Value.long x) :: lv.filter (fun q => !(q.1 == i) && (!(q.1 == i + 1) && !(q.1 + 1 == i && q.2.category == 2))) = lv') (h : J K r X (pc + 1) lv' st S) : J K r X pc lv (.long x :: st) S := by
  obtain ⟨p, l, e, s, m, args, below, meth, c, D, cy, A, cN, sN, Q, rfl, hx, hb, hml, hown, hts, hnw, hK, hI, hA, hSt, hcN, hsN⟩ := C
  intro hX H locs ls hP hS hl
  exact lv_lstore_n hx hb d hi hl hn hl' (fun ls' h' => h hX H locs ls' hP hS h')
theorem j_lstore (C : Cx K cc own nL adr R) {i : Nat} {x : Int64} {lv' : List (Nat × Value)} (d : decode cc pc = .ok (.lstore i, 2)) (hn : i + 1 < nL) (hl' : (i, Value.long x) :: lv.filter (fun q => !(q.1 == i) && (!(q.1 == i + 1) && !(q.1 + 1 == i && q.2.category == 2))) = lv') (h : J K r X (pc + 2) lv' st S) : J K r X pc lv (.long x :: st) S := by
  obtain ⟨p, l, e, s, m, args, below, meth, c, D, cy, A, cN, sN, Q, rfl, hx, hb, hml, hown, hts, hnw, hK, hI, hA, hSt, hcN, hsN⟩ := C
  intro hX H locs ls hP hS hl
  exact lv_lstore hx hb d hl hn hl' (fun ls' h' => h hX H locs ls' hP hS h')
theorem j_aload_n (C : Cx K cc own nL adr R) {k : Fin 4} {i : Nat} {x : Nat} (d : decode cc pc = .ok (.aload_n k, 1)) (q : Nat) (hi : (k : Nat) = i) (hq : lv[q]? = some (i, .ref x)) (h : J K r X (pc + 1) lv (.ref x :: st) S) : J K r X pc lv (st) S := by
  obtain ⟨p, l, e, s, m, args, below, meth, c, D, cy, A, cN, sN, Q, rfl, hx, hb, hml, hown, hts, hnw, hK, hI, hA, hSt, hcN, hsN⟩ := C
  intro hX H locs ls hP hS hl
  exact lv_aload_n hx hb d hi (lv_at hl q hq) (h hX H locs ls hP hS hl)
theorem j_aload (C : Cx K cc own nL adr R) {i : Nat} {x : Nat} (d : decode cc pc = .ok (.aload i, 2)) (q : Nat) (hq : lv[q]? = some (i, .ref x)) (h : J K r X (pc + 2) lv (.ref x :: st) S) : J K r X pc lv (st) S := by
  obtain ⟨p, l, e, s, m, args, below, meth, c, D, cy, A, cN, sN, Q, rfl, hx, hb, hml, hown, hts, hnw, hK, hI, hA, hSt, hcN, hsN⟩ := C
  intro hX H locs ls hP hS hl
  exact lv_aload hx hb d (lv_at hl q hq) (h hX H locs ls hP hS hl)
theorem j_astore_n (C : Cx K cc own nL adr R) {k : Fin 4} {i : Nat} {x : Nat} {lv' : List (Nat × Value)} (d : decode cc pc = .ok (.astore_n k, 1)) (hi : (k : Nat) = i) (hn : i < nL) (hl' : (i, Value.ref x) :: lv.filter (fun q => !(q.1 == i) && !(q.1 + 1 == i && q.2.category == 2)) = lv') (h : J K r X (pc + 1) lv' st S) : J K r X pc lv (.ref x :: st) S := by
  obtain ⟨p, l, e, s, m, args, below, meth, c, D, cy, A, cN, sN, Q, rfl, hx, hb, hml, hown, hts, hnw, hK, hI, hA, hSt, hcN, hsN⟩ := C
  intro hX H locs ls hP hS hl
  exact lv_astore_n hx hb d hi hl hn hl' (fun ls' h' => h hX H locs ls' hP hS h')
theorem j_astore (C : Cx K cc own nL adr R) {i : Nat} {x : Nat} {lv' : List (Nat × Value)} (d : decode cc pc = .ok (.astore i, 2)) (hn : i < nL) (hl' : (i, Value.ref x) :: lv.filter (fun q => !(q.1 == i) && !(q.1 + 1 == i && q.2.category == 2)) = lv') (h : J K r X (pc + 2) lv' st S) : J K r X pc lv (.ref x :: st) S := by
  obtain ⟨p, l, e, s, m, args, below, meth, c, D, cy, A, cN, sN, Q, rfl, hx, hb, hml, hown, hts, hnw, hK, hI, hA, hSt, hcN, hsN⟩ := C
  intro hX H locs ls hP hS hl
  exact lv_astore hx hb d hl hn hl' (fun ls' h' => h hX H locs ls' hP hS h')
theorem j_iinc (C : Cx K cc own nL adr R) {i : Nat} {n : Int} {x : Int32} {v : Int32} {lv' : List (Nat × Value)} (d : decode cc pc = .ok (.iinc i n, 3)) (k : Nat) (hk : lv[k]? = some (i, .int x)) (hv : x + Int32.ofInt n = v) (hn : i < nL) (hl' : (i, Value.int v) :: lv.filter (fun q => !(q.1 == i) && !(q.1 + 1 == i && q.2.category == 2)) = lv') (h : J K r X (pc + 3) lv' st S) : J K r X pc lv st S := by
  obtain ⟨p, l, e, s, m, args, below, meth, c, D, cy, A, cN, sN, Q, rfl, hx, hb, hml, hown, hts, hnw, hK, hI, hA, hSt, hcN, hsN⟩ := C
  intro hX H locs ls hP hS hl
  exact lv_iinc hx hb d hl hk hv hn hl' (fun ls' h' => h hX H locs ls' hP hS h')
theorem j_idiv (C : Cx K cc own nL adr R) {x y : Int32} (d : decode cc pc = .ok (.idiv, 1)) (h : J K r X (pc + 1) lv (.int (x / y) :: st) S) : J K r (nz y X) pc lv (.int y :: .int x :: st) S := by
  obtain ⟨p, l, e, s, m, args, below, meth, c, D, cy, A, cN, sN, Q, rfl, hx, hb, hml, hown, hts, hnw, hK, hI, hA, hSt, hcN, hsN⟩ := C
  intro hX H locs ls hP hS hl
  obtain ⟨hy, hX⟩ := nz_some hX
  exact lv_idiv hx hb d hy (h hX H locs ls hP hS hl)
theorem j_irem (C : Cx K cc own nL adr R) {x y : Int32} (d : decode cc pc = .ok (.irem, 1)) (h : J K r X (pc + 1) lv (.int (x - x / y * y) :: st) S) : J K r (nz y X) pc lv (.int y :: .int x :: st) S := by
  obtain ⟨p, l, e, s, m, args, below, meth, c, D, cy, A, cN, sN, Q, rfl, hx, hb, hml, hown, hts, hnw, hK, hI, hA, hSt, hcN, hsN⟩ := C
  intro hX H locs ls hP hS hl
  obtain ⟨hy, hX⟩ := nz_some hX
  exact lv_irem hx hb d hy (h hX H locs ls hP hS hl)
theorem j_ldiv (C : Cx K cc own nL adr R) {x y : Int64} (d : decode cc pc = .ok (.ldiv, 1)) (h : J K r X (pc + 1) lv (.long (x / y) :: st) S) : J K r (nzL y X) pc lv (.long y :: .long x :: st) S := by
  obtain ⟨p, l, e, s, m, args, below, meth, c, D, cy, A, cN, sN, Q, rfl, hx, hb, hml, hown, hts, hnw, hK, hI, hA, hSt, hcN, hsN⟩ := C
  intro hX H locs ls hP hS hl
  obtain ⟨hy, hX⟩ := nzL_some hX
  exact lv_ldiv hx hb d hy (h hX H locs ls hP hS hl)
theorem j_lrem (C : Cx K cc own nL adr R) {x y : Int64} (d : decode cc pc = .ok (.lrem, 1)) (h : J K r X (pc + 1) lv (.long (x - x / y * y) :: st) S) : J K r (nzL y X) pc lv (.long y :: .long x :: st) S := by
  obtain ⟨p, l, e, s, m, args, below, meth, c, D, cy, A, cN, sN, Q, rfl, hx, hb, hml, hown, hts, hnw, hK, hI, hA, hSt, hcN, hsN⟩ := C
  intro hX H locs ls hP hS hl
  obtain ⟨hy, hX⟩ := nzL_some hX
  exact lv_lrem hx hb d hy (h hX H locs ls hP hS hl)
theorem j_icmp_eq (C : Cx K cc own nL adr R) {x y : Int32} {off : Int} (d : decode cc pc = .ok (.if_icmp .eq off, 3)) (tgt : Nat) (ht : (pc : Int) + off = (tgt : Int)) (h : J K r X tgt lv st S) (h' : J K r Y (pc + 3) lv st S) : J K r (if x = y then X else Y) pc lv (.int y :: .int x :: st) S := by
  obtain ⟨p, l, e, s, m, args, below, meth, c, D, cy, A, cN, sN, Q, rfl, hx, hb, hml, hown, hts, hnw, hK, hI, hA, hSt, hcN, hsN⟩ := C
  intro hX H locs ls hP hS hl
  exact lv_icmp_eq hx hb d ht (fun c1 => h (by rw [if_pos c1] at hX; exact hX) H locs ls hP hS hl) (fun c1 => h' (by rw [if_neg c1] at hX; exact hX) H locs ls hP hS hl)
theorem j_if_eq (C : Cx K cc own nL adr R) {x : Int32} {off : Int} (d : decode cc pc = .ok (.ifCond .eq off, 3)) (tgt : Nat) (ht : (pc : Int) + off = (tgt : Int)) (h : J K r X tgt lv st S) (h' : J K r Y (pc + 3) lv st S) : J K r (if x = 0 then X else Y) pc lv (.int x :: st) S := by
  obtain ⟨p, l, e, s, m, args, below, meth, c, D, cy, A, cN, sN, Q, rfl, hx, hb, hml, hown, hts, hnw, hK, hI, hA, hSt, hcN, hsN⟩ := C
  intro hX H locs ls hP hS hl
  exact lv_if_eq hx hb d ht (fun c1 => h (by rw [if_pos c1] at hX; exact hX) H locs ls hP hS hl) (fun c1 => h' (by rw [if_neg c1] at hX; exact hX) H locs ls hP hS hl)
theorem j_icmp_lt (C : Cx K cc own nL adr R) {x y : Int32} {off : Int} (d : decode cc pc = .ok (.if_icmp .lt off, 3)) (tgt : Nat) (ht : (pc : Int) + off = (tgt : Int)) (h : J K r X tgt lv st S) (h' : J K r Y (pc + 3) lv st S) : J K r (if x < y then X else Y) pc lv (.int y :: .int x :: st) S := by
  obtain ⟨p, l, e, s, m, args, below, meth, c, D, cy, A, cN, sN, Q, rfl, hx, hb, hml, hown, hts, hnw, hK, hI, hA, hSt, hcN, hsN⟩ := C
  intro hX H locs ls hP hS hl
  exact lv_icmp_lt hx hb d ht (fun c1 => h (by rw [if_pos c1] at hX; exact hX) H locs ls hP hS hl) (fun c1 => h' (by rw [if_neg c1] at hX; exact hX) H locs ls hP hS hl)
theorem j_if_lt (C : Cx K cc own nL adr R) {x : Int32} {off : Int} (d : decode cc pc = .ok (.ifCond .lt off, 3)) (tgt : Nat) (ht : (pc : Int) + off = (tgt : Int)) (h : J K r X tgt lv st S) (h' : J K r Y (pc + 3) lv st S) : J K r (if x < 0 then X else Y) pc lv (.int x :: st) S := by
  obtain ⟨p, l, e, s, m, args, below, meth, c, D, cy, A, cN, sN, Q, rfl, hx, hb, hml, hown, hts, hnw, hK, hI, hA, hSt, hcN, hsN⟩ := C
  intro hX H locs ls hP hS hl
  exact lv_if_lt hx hb d ht (fun c1 => h (by rw [if_pos c1] at hX; exact hX) H locs ls hP hS hl) (fun c1 => h' (by rw [if_neg c1] at hX; exact hX) H locs ls hP hS hl)
theorem j_icmp_ge (C : Cx K cc own nL adr R) {x y : Int32} {off : Int} (d : decode cc pc = .ok (.if_icmp .ge off, 3)) (tgt : Nat) (ht : (pc : Int) + off = (tgt : Int)) (h : J K r X tgt lv st S) (h' : J K r Y (pc + 3) lv st S) : J K r (if y ≤ x then X else Y) pc lv (.int y :: .int x :: st) S := by
  obtain ⟨p, l, e, s, m, args, below, meth, c, D, cy, A, cN, sN, Q, rfl, hx, hb, hml, hown, hts, hnw, hK, hI, hA, hSt, hcN, hsN⟩ := C
  intro hX H locs ls hP hS hl
  exact lv_icmp_ge hx hb d ht (fun c1 => h (by rw [if_pos c1] at hX; exact hX) H locs ls hP hS hl) (fun c1 => h' (by rw [if_neg c1] at hX; exact hX) H locs ls hP hS hl)
theorem j_if_ge (C : Cx K cc own nL adr R) {x : Int32} {off : Int} (d : decode cc pc = .ok (.ifCond .ge off, 3)) (tgt : Nat) (ht : (pc : Int) + off = (tgt : Int)) (h : J K r X tgt lv st S) (h' : J K r Y (pc + 3) lv st S) : J K r (if 0 ≤ x then X else Y) pc lv (.int x :: st) S := by
  obtain ⟨p, l, e, s, m, args, below, meth, c, D, cy, A, cN, sN, Q, rfl, hx, hb, hml, hown, hts, hnw, hK, hI, hA, hSt, hcN, hsN⟩ := C
  intro hX H locs ls hP hS hl
  exact lv_if_ge hx hb d ht (fun c1 => h (by rw [if_pos c1] at hX; exact hX) H locs ls hP hS hl) (fun c1 => h' (by rw [if_neg c1] at hX; exact hX) H locs ls hP hS hl)
theorem j_icmp_gt (C : Cx K cc own nL adr R) {x y : Int32} {off : Int} (d : decode cc pc = .ok (.if_icmp .gt off, 3)) (tgt : Nat) (ht : (pc : Int) + off = (tgt : Int)) (h : J K r X tgt lv st S) (h' : J K r Y (pc + 3) lv st S) : J K r (if y < x then X else Y) pc lv (.int y :: .int x :: st) S := by
  obtain ⟨p, l, e, s, m, args, below, meth, c, D, cy, A, cN, sN, Q, rfl, hx, hb, hml, hown, hts, hnw, hK, hI, hA, hSt, hcN, hsN⟩ := C
  intro hX H locs ls hP hS hl
  exact lv_icmp_gt hx hb d ht (fun c1 => h (by rw [if_pos c1] at hX; exact hX) H locs ls hP hS hl) (fun c1 => h' (by rw [if_neg c1] at hX; exact hX) H locs ls hP hS hl)
theorem j_if_gt (C : Cx K cc own nL adr R) {x : Int32} {off : Int} (d : decode cc pc = .ok (.ifCond .gt off, 3)) (tgt : Nat) (ht : (pc : Int) + off = (tgt : Int)) (h : J K r X tgt lv st S) (h' : J K r Y (pc + 3) lv st S) : J K r (if 0 < x then X else Y) pc lv (.int x :: st) S := by
  obtain ⟨p, l, e, s, m, args, below, meth, c, D, cy, A, cN, sN, Q, rfl, hx, hb, hml, hown, hts, hnw, hK, hI, hA, hSt, hcN, hsN⟩ := C
  intro hX H locs ls hP hS hl
  exact lv_if_gt hx hb d ht (fun c1 => h (by rw [if_pos c1] at hX; exact hX) H locs ls hP hS hl) (fun c1 => h' (by rw [if_neg c1] at hX; exact hX) H locs ls hP hS hl)
theorem j_icmp_le (C : Cx K cc own nL adr R) {x y : Int32} {off : Int} (d : decode cc pc = .ok (.if_icmp .le off, 3)) (tgt : Nat) (ht : (pc : Int) + off = (tgt : Int)) (h : J K r X tgt lv st S) (h' : J K r Y (pc + 3) lv st S) : J K r (if x ≤ y then X else Y) pc lv (.int y :: .int x :: st) S := by
  obtain ⟨p, l, e, s, m, args, below, meth, c, D, cy, A, cN, sN, Q, rfl, hx, hb, hml, hown, hts, hnw, hK, hI, hA, hSt, hcN, hsN⟩ := C
  intro hX H locs ls hP hS hl
  exact lv_icmp_le hx hb d ht (fun c1 => h (by rw [if_pos c1] at hX; exact hX) H locs ls hP hS hl) (fun c1 => h' (by rw [if_neg c1] at hX; exact hX) H locs ls hP hS hl)
theorem j_if_le (C : Cx K cc own nL adr R) {x : Int32} {off : Int} (d : decode cc pc = .ok (.ifCond .le off, 3)) (tgt : Nat) (ht : (pc : Int) + off = (tgt : Int)) (h : J K r X tgt lv st S) (h' : J K r Y (pc + 3) lv st S) : J K r (if x ≤ 0 then X else Y) pc lv (.int x :: st) S := by
  obtain ⟨p, l, e, s, m, args, below, meth, c, D, cy, A, cN, sN, Q, rfl, hx, hb, hml, hown, hts, hnw, hK, hI, hA, hSt, hcN, hsN⟩ := C
  intro hX H locs ls hP hS hl
  exact lv_if_le hx hb d ht (fun c1 => h (by rw [if_pos c1] at hX; exact hX) H locs ls hP hS hl) (fun c1 => h' (by rw [if_neg c1] at hX; exact hX) H locs ls hP hS hl)
theorem j_icmp_ne (C : Cx K cc own nL adr R) {x y : Int32} {off : Int} (d : decode cc pc = .ok (.if_icmp .ne off, 3)) (tgt : Nat) (ht : (pc : Int) + off = (tgt : Int)) (h : J K r Y tgt lv st S) (h' : J K r X (pc + 3) lv st S) : J K r (if x = y then X else Y) pc lv (.int y :: .int x :: st) S := by
  obtain ⟨p, l, e, s, m, args, below, meth, c, D, cy, A, cN, sN, Q, rfl, hx, hb, hml, hown, hts, hnw, hK, hI, hA, hSt, hcN, hsN⟩ := C
  intro hX H locs ls hP hS hl
  exact lv_icmp_ne hx hb d ht (fun c1 => h (by rw [if_neg c1] at hX; exact hX) H locs ls hP hS hl) (fun c1 => h' (by rw [if_pos c1] at hX; exact hX) H locs ls hP hS hl)
theorem j_if_ne (C : Cx K cc own nL adr R) {x : Int32} {off : Int} (d : decode cc pc = .ok (.ifCond .ne off, 3)) (tgt : Nat) (ht : (pc : Int) + off = (tgt : Int)) (h : J K r Y tgt lv st S) (h' : J K r X (pc + 3) lv st S) : J K r (if x = 0 then X else Y) pc lv (.int x :: st) S := by
  obtain ⟨p, l, e, s, m, args, below, meth, c, D, cy, A, cN, sN, Q, rfl, hx, hb, hml, hown, hts, hnw, hK, hI, hA, hSt, hcN, hsN⟩ := C
  intro hX H locs ls hP hS hl
  exact lv_if_ne hx hb d ht (fun c1 => h (by rw [if_neg c1] at hX; exact hX) H locs ls hP hS hl) (fun c1 => h' (by rw [if_pos c1] at hX; exact hX) H locs ls hP hS hl)
theorem j_goto (C : Cx K cc own nL adr R) {off : Int} (d : decode cc pc = .ok (.goto off, 3)) (tgt : Nat) (ht : (pc : Int) + off = (tgt : Int)) (h : J K r X tgt lv st S) : J K r X pc lv st S := by
  obtain ⟨p, l, e, s, m, args, below, meth, c, D, cy, A, cN, sN, Q, rfl, hx, hb, hml, hown, hts, hnw, hK, hI, hA, hSt, hcN, hsN⟩ := C
  intro hX H locs ls hP hS hl
  exact lv_goto hx hb d ht (h hX H locs ls hP hS hl)
theorem j_ifnonnull (C : Cx K cc own nL adr R) {q : Nat} {off : Int} (d : decode cc pc = .ok (.ifnonnull off, 3)) (tgt : Nat) (ht : (pc : Int) + off = (tgt : Int)) (h : J K r X tgt lv st S) : J K r X pc lv (.ref q :: st) S := by
  obtain ⟨p, l, e, s, m, args, below, meth, c, D, cy, A, cN, sN, Q, rfl, hx, hb, hml, hown, hts, hnw, hK, hI, hA, hSt, hcN, hsN⟩ := C
  intro hX H locs ls hP hS hl
  exact lv_ifnonnull hx hb d ht (h hX H locs ls hP hS hl)
theorem j_ifnull (C : Cx K cc own nL adr R) {q : Nat} {off : Int} (d : decode cc pc = .ok (.ifnull off, 3)) (h : J K r X (pc + 3) lv st S) : J K r X pc lv (.ref q :: st) S := by
  obtain ⟨p, l, e, s, m, args, below, meth, c, D, cy, A, cN, sN, Q, rfl, hx, hb, hml, hown, hts, hnw, hK, hI, hA, hSt, hcN, hsN⟩ := C
  intro hX H locs ls hP hS hl
  exact lv_ifnull hx hb d (h hX H locs ls hP hS hl)
theorem j_sub (C : Cx K cc own nL adr R) {lv' : List (Nat × Value)} (ks : List Nat) (hs : lv_pick lv ks = lv') (h : J K r X pc lv' st S) : J K r X pc lv st S := by
  obtain ⟨p, l, e, s, m, args, below, meth, c, D, cy, A, cN, sN, Q, rfl, hx, hb, hml, hown, hts, hnw, hK, hI, hA, hSt, hcN, hsN⟩ := C
  intro hX H locs ls hP hS hl
  exact h hX H locs ls hP hS (lv_sub hl ks hs)
theorem j_topi {e : Int32} {Z : Int32 → Option ρ} (h : ∀ x : Int32, J K r (Z x) pc lv (.int x :: st) S) : J K r (lt e Z) pc lv (.int e :: st) S := h e
theorem j_topl {e : Int64} {Z : Int64 → Option ρ} (h : ∀ x : Int64, J K r (Z x) pc lv (.long x :: st) S) : J K r (lt e Z) pc lv (.long e :: st) S := h e
theorem j_eq (he : X = Y) (h : J K r Y pc lv st S) : J K r X pc lv st S := by rw [he]; exact h
theorem j_table (C : Cx K cc own nL adr R) {x : Int32} {dflt lo hi : Int} {offs : Array Int} {len : Nat} (d : decode cc pc = .ok (.tableswitch dflt lo hi offs, len)) (tgt : Nat) (Y' : Nat → Option ρ) (ht : (pc : Int) + dflt = (tgt : Int)) (h : J K r X tgt lv st S) (h' : ∀ i : Nat, (i : Int) ≤ hi - lo → ∃ (off : Int) (tg : Nat), offs[i]? = some off ∧ (pc : Int) + off = (tg : Int) ∧ J K r (Y' i) tg lv st S) : J K r (if x.toInt < lo ∨ hi < x.toInt then X else Y' (x.toInt - lo).toNat) pc lv (.int x :: st) S := by
  obtain ⟨p, l, e, s, m, args, below, meth, c, D, cy, A, cN, sN, Q, rfl, hx, hb, hml, hown, hts, hnw, hK, hI, hA, hSt, hcN, hsN⟩ := C
  intro hX H locs ls hP hS hl
  by_cases h0 : x.toInt < lo ∨ hi < x.toInt
  · rw [if_pos h0] at hX
    exact lv_tableOut hx hb d h0 ht (h hX H locs ls hP hS hl)
  · rw [if_neg h0] at hX
    obtain ⟨off, tg, ho, hg, hj⟩ := h' (x.toInt - lo).toNat (by omega)
    exact lv_tableIn hx hb d (fun q => h0 (Or.inl q)) (fun q => h0 (Or.inr q)) ho hg (hj hX H locs ls hP hS hl)
theorem j_lookup (C : Cx K cc own nL adr R) {x : Int32} {dflt : Int} {ps : Array (Int × Int)} {len : Nat} {off : Int} {tgt : Nat} (d : decode cc pc = .ok (.lookupswitch dflt ps, len)) (hp : (ps.toList.zip (ps.toList.drop 1)).all (fun (a, next) => a.1 < next.1) = true) (ho : Op.lookupswitch.offset ps.toList dflt x.toInt = off) (ht : (pc : Int) + off = (tgt : Int)) (h : J K r X tgt lv st S) : J K r X pc lv (.int x :: st) S := by
  obtain ⟨p, l, e, s, m, args, below, meth, c, D, cy, A, cN, sN, Q, rfl, hx, hb, hml, hown, hts, hnw, hK, hI, hA, hSt, hcN, hsN⟩ := C
  intro hX H locs ls hP hS hl
  exact lv_lookup hx hb d hp ho ht (h hX H locs ls hP hS hl)
/-- a field's link out of the class 'own': the class number ci, the field's place j -/
def Fl (own : String) (idx ci j : Nat) : Prop := ∃ (C : String) (T : u_T) (N : Nat) (ty0 : Nat → FieldType), vwCl[ci]? = some (C, T, N) ∧ j < N ∧ (∀ w ∈ u_ws C T N, w ∈ lw_good) ∧ (∀ k, k < N → parseFieldDescriptor (T k).2.2.1 = some (ty0 k)) ∧ (∀ a, a < N → ∀ b, b < N → a ≠ b → (T a).2.1 ≠ (T b).2.1) ∧ (T j).1 = C ∧ (Cond.fieldLink own idx C (T j).2.1 (T j).2.2.1 ∈ lw_good ∨ Cond.fieldLinkNest own idx C (T j).2.1 (T j).2.2.1 RX8 ∈ lw_nest)
/-- an int field that may be written -/
def Fi (ci j : Nat) : Prop := ∀ (C : String) (T : u_T) (N : Nat), vwCl[ci]? = some (C, T, N) → (T j).2.2.2 = false ∧ parseFieldDescriptor (T j).2.2.1 = some .int
theorem j_get (C : Cx K cc own nL adr R) {idx ci j k n : Nat} {rs : List (Option Nat)} {v : Value} (d : decode cc pc = .ok (.getfield idx, 3)) (f : Fl own idx ci j) (hk : kd k = (ci, n, rs)) (hci : ci < 10) (hkN : k < NC) (hv : (fsOf adr (S.1 k) 0 rs)[j]? = some v) (h : J K r X (pc + 3) lv (v :: st) S) : J K r X pc lv (.ref (adr k) :: st) S := by
  obtain ⟨p, l, e, s, m, args, below, meth, c, D, cy, A, cN, sN, Q, rfl, hx, hb, hml, hown, hts, hnw, hK, hI, hA, hSt, hcN, hsN⟩ := C
  intro hX H locs ls hP hS hl
  obtain ⟨Cn, T, N, ty0, hc, hj, hin, hty, hnm, hT, hlk⟩ := f
  have he : (wsOf cy adr S)[k]? = some (adr k, .inr (ci, fsOf adr (S.1 k) 0 rs)) := by rw [wsOf_get hkN, cellOf_obj hk hci]
  rcases hlk with hlk | hlk
  · exact va_get (C := Cn) (T := T) (N := N) hx hb hts hin hown hK hP k he hc j hj (hts _ hlk) (by rw [hT]; exact fun _ q => q) hv d (h hX H locs ls hP hS hl)
  · exact va_getN (C := Cn) (T := T) (N := N) hx hb hts hin hown hK hP k he hc j hj (va_Nw.use rfl (hnw _ hlk)) (by rw [hT]; exact fun _ q => q) hv d (h hX H locs ls hP hS hl)
theorem j_geti (C : Cx K cc own nL adr R) {idx ci j k n : Nat} {rs : List (Option Nat)} (d : decode cc pc = .ok (.getfield idx, 3)) (f : Fl own idx ci j) (hk : kd k = (ci, n, rs)) (hci : ci < 10) (hkN : k < NC) (hr : rs[j]? = some none) (h : J K r X (pc + 3) lv (.int (S.1 k j) :: st) S) : J K r X pc lv (.ref (adr k) :: st) S := j_get C d f hk hci hkN (by rw [fsOf_num adr (S.1 k) rs 0 j hr, Nat.zero_add]) h
theorem j_getr (C : Cx K cc own nL adr R) {idx ci j k n q : Nat} {rs : List (Option Nat)} (d : decode cc pc = .ok (.getfield idx, 3)) (f : Fl own idx ci j) (hk : kd k = (ci, n, rs)) (hci : ci < 10) (hkN : k < NC) (hr : rs[j]? = some (some q)) (h : J K r X (pc + 3) lv (.ref (adr q) :: st) S) : J K r X pc lv (.ref (adr k) :: st) S := j_get C d f hk hci hkN (fsOf_ref adr (S.1 k) rs 0 j q hr) h
theorem j_puti (C : Cx K cc own nL adr R) {idx ci j k n : Nat} {rs : List (Option Nat)} {v : Int32} {Z : St → Option ρ} (d : decode cc pc = .ok (.putfield idx, 3)) (f : Fl own idx ci j) (fi : Fi ci j) (hk : kd k = (ci, n, rs)) (hci : ci < 10) (hkN : k < NC) (hr : rs[j]? = some none) (h : ∀ S' : St, J K r (Z S') (pc + 3) lv st S') : J K r (lt (upI S k j v) Z) pc lv (.int v :: .ref (adr k) :: st) S := by
  obtain ⟨p, l, e, s, m, args, below, meth, c, D, cy, A, cN, sN, Q, rfl, hx, hb, hml, hown, hts, hnw, hK, hI, hA, hSt, hcN, hsN⟩ := C
  intro hX H locs ls hP hS hl
  obtain ⟨Cn, T, N, ty0, hc, hj, hin, hty, hnm, hT, hlk⟩ := f
  obtain ⟨hfin, hd⟩ := fi Cn T N hc
  have he : (wsOf cy adr S)[k]? = some (adr k, .inr (ci, fsOf adr (S.1 k) 0 rs)) := by rw [wsOf_get hkN, cellOf_obj hk hci]
  have hD : va_D A (wsOf cy adr S) := wsOf_D hI hA
  have hset : (wsOf cy adr S).set k (adr k, .inr (ci, (fsOf adr (S.1 k) 0 rs).set j (.int v))) = wsOf cy adr (upI S k j v) := by
    refine wsOf_set hkN ?_ (fun k' hk' => cellOf_neI hk')
    rw [cellOf_obj hk hci, fsOf_set adr (S.1 k) v rs 0 j hr, Nat.zero_add]
    simp [upI, rwI]
  have hjl : j < (fsOf adr (S.1 k) 0 rs).length := by
    rw [fsOf_len]
    exact (List.getElem?_eq_some_iff.mp hr).1
  rcases hlk with hlk | hlk
  · exact va_put (C := Cn) (T := T) (N := N) (v := .int v) (ty := .int) hx hb hts hin ty0 hty hnm hown hK hP hD hS k he hc j hj (hts _ hlk) (by rw [hT]; exact fun _ q => q) hfin hd rfl rfl hjl d (fun H1 locs1 hP1 _ hS1 => h _ hX H1 locs1 ls (by rw [← hset]; exact hP1) hS1 hl)
  · exact va_putN (C := Cn) (T := T) (N := N) (v := .int v) (ty := .int) hx hb hts hin ty0 hty hnm hown hK hP hD hS k he hc j hj (va_Nw.use rfl (hnw _ hlk)) (by rw [hT]; exact fun _ q => q) hfin hd rfl rfl hjl d (fun H1 locs1 hP1 _ hS1 => h _ hX H1 locs1 ls (by rw [← hset]; exact hP1) hS1 hl)
theorem j_iald (C : Cx K cc own nL adr R) {k n : Nat} {rs : List (Option Nat)} {i : Int32} (d : decode cc pc = .ok (.iaload, 1)) (hk : kd k = (10, n, rs)) (hkN : k < NC) (h : J K r X (pc + 1) lv (.int (S.1 k i.toNatClampNeg) :: st) S) : J K r (ck i n X) pc lv (.int i :: .ref (adr k) :: st) S := by
  obtain ⟨p, l, e, s, m, args, below, meth, c, D, cy, A, cN, sN, Q, rfl, hx, hb, hml, hown, hts, hnw, hK, hI, hA, hSt, hcN, hsN⟩ := C
  intro hX H locs ls hP hS hl
  obtain ⟨hin, hX⟩ := ck_some hX
  exact va_iald hx hb hK hP k 0 (by rw [wsOf_get hkN, cellOf_int hk]) rfl hin d (h hX H locs ls hP hS hl)
theorem j_zald (C : Cx K cc own nL adr R) {k n : Nat} {rs : List (Option Nat)} {i : Int32} (d : decode cc pc = .ok (.baload, 1)) (hk : kd k = (12, n, rs)) (hkN : k < NC) (h : J K r X (pc + 1) lv (.int (S.1 k i.toNatClampNeg) :: st) S) : J K r (ck i n X) pc lv (.int i :: .ref (adr k) :: st) S := by
  obtain ⟨p, l, e, s, m, args, below, meth, c, D, cy, A, cN, sN, Q, rfl, hx, hb, hml, hown, hts, hnw, hK, hI, hA, hSt, hcN, hsN⟩ := C
  intro hX H locs ls hP hS hl
  obtain ⟨hin, hX⟩ := ck_some hX
  exact va_zald hx hb hK hP k 2 (by rw [wsOf_get hkN, cellOf_bool hk]) rfl hin d (h hX H locs ls hP hS hl)
theorem j_lald (C : Cx K cc own nL adr R) {k n : Nat} {rs : List (Option Nat)} {i : Int32} (d : decode cc pc = .ok (.laload, 1)) (hk : kd k = (11, n, rs)) (hkN : k < NC) (h : J K r X (pc + 1) lv (.long (S.2 k i.toNatClampNeg) :: st) S) : J K r (ck i n X) pc lv (.int i :: .ref (adr k) :: st) S := by
  obtain ⟨p, l, e, s, m, args, below, meth, c, D, cy, A, cN, sN, Q, rfl, hx, hb, hml, hown, hts, hnw, hK, hI, hA, hSt, hcN, hsN⟩ := C
  intro hX H locs ls hP hS hl
  obtain ⟨hin, hX⟩ := ck_some hX
  exact va_lald hx hb hK hP k 1 (by rw [wsOf_get hkN, cellOf_long hk]) rfl hin d (h hX H locs ls hP hS hl)
theorem j_iast (C : Cx K cc own nL adr R) {k n : Nat} {rs : List (Option Nat)} {i : Int32} {x : Int32} {Z : St → Option ρ} (d : decode cc pc = .ok (.iastore, 1)) (hk : kd k = (10, n, rs)) (hkN : k < NC) (h : ∀ S' : St, J K r (Z S') (pc + 1) lv st S') : J K r (ck i n (lt (upI S k i.toNatClampNeg x) Z)) pc lv (.int x :: .int i :: .ref (adr k) :: st) S := by
  obtain ⟨p, l, e, s, m, args, below, meth, c, D, cy, A, cN, sN, Q, rfl, hx, hb, hml, hown, hts, hnw, hK, hI, hA, hSt, hcN, hsN⟩ := C
  intro hX H locs ls hP hS hl
  obtain ⟨hin, hX⟩ := ck_some hX
  refine va_iast hx hb hK hP (wsOf_D hI hA) hS k 0 (by rw [wsOf_get hkN, cellOf_int hk]) rfl hin d (fun H1 locs1 hP1 _ hS1 => h _ hX H1 locs1 ls ?_ hS1 hl)
  rw [wsOf_set (S' := upI S k i.toNatClampNeg x) hkN (by rw [cellOf_int hk]; simp [upI, rwI]) (fun k' hk' => cellOf_neI hk')] at hP1
  exact hP1
theorem j_last (C : Cx K cc own nL adr R) {k n : Nat} {rs : List (Option Nat)} {i : Int32} {x : Int64} {Z : St → Option ρ} (d : decode cc pc = .ok (.lastore, 1)) (hk : kd k = (11, n, rs)) (hkN : k < NC) (h : ∀ S' : St, J K r (Z S') (pc + 1) lv st S') : J K r (ck i n (lt (upL S k i.toNatClampNeg x) Z)) pc lv (.long x :: .int i :: .ref (adr k) :: st) S := by
  obtain ⟨p, l, e, s, m, args, below, meth, c, D, cy, A, cN, sN, Q, rfl, hx, hb, hml, hown, hts, hnw, hK, hI, hA, hSt, hcN, hsN⟩ := C
  intro hX H locs ls hP hS hl
  obtain ⟨hin, hX⟩ := ck_some hX
  refine va_last hx hb hK hP (wsOf_D hI hA) hS k 1 (by rw [wsOf_get hkN, cellOf_long hk]) rfl hin d (fun H1 locs1 hP1 _ hS1 => h _ hX H1 locs1 ls ?_ hS1 hl)
  rw [wsOf_set (S' := upL S k i.toNatClampNeg x) hkN (by rw [cellOf_long hk]; simp [upL, rwL]) (fun k' hk' => cellOf_neL hk')] at hP1
  exact hP1
theorem j_zast (C : Cx K cc own nL adr R) {k n : Nat} {rs : List (Option Nat)} {i : Int32} {x : Int32} {Z : St → Option ρ} (d : decode cc pc = .ok (.bastore, 1)) (hk : kd k = (12, n, rs)) (hkN : k < NC) (h : ∀ S' : St, J K r (Z S') (pc + 1) lv st S') : J K r (ck i n (lt (upI S k i.toNatClampNeg (vp_nar .boolean x)) Z)) pc lv (.int x :: .int i :: .ref (adr k) :: st) S := by
  obtain ⟨p, l, e, s, m, args, below, meth, c, D, cy, A, cN, sN, Q, rfl, hx, hb, hml, hown, hts, hnw, hK, hI, hA, hSt, hcN, hsN⟩ := C
  intro hX H locs ls hP hS hl
  obtain ⟨hin, hX⟩ := ck_some hX
  refine va_zast hx hb hK hP (wsOf_D hI hA) hS k 2 (by rw [wsOf_get hkN, cellOf_bool hk]) rfl hin d (fun H1 locs1 hP1 _ hS1 => h _ hX H1 locs1 ls ?_ hS1 hl)
  rw [wsOf_set (S' := upI S k i.toNatClampNeg (vp_nar .boolean x)) hkN (by rw [cellOf_bool hk]; simp [upI, rwI]) (fun k' hk' => cellOf_neI hk')] at hP1
  exact hP1
theorem j_alen (C : Cx K cc own nL adr R) {k n : Nat} {rs : List (Option Nat)} {v : Int32} (d : decode cc pc = .ok (.arraylength, 1)) (hk : kd k = (10, n, rs)) (hkN : k < NC) (hv : Int32.ofNat n = v) (h : J K r X (pc + 1) lv (.int v :: st) S) : J K r X pc lv (.ref (adr k) :: st) S := by
  obtain ⟨p, l, e, s, m, args, below, meth, c, D, cy, A, cN, sN, Q, rfl, hx, hb, hml, hown, hts, hnw, hK, hI, hA, hSt, hcN, hsN⟩ := C
  intro hX H locs ls hP hS hl
  exact va_alen hx hb hK hP k 0 (by rw [wsOf_get hkN, cellOf_int hk]) rfl hv d (h hX H locs ls hP hS hl)
theorem j_aald (C : Cx K cc own nL adr R) {k n b0 : Nat} {rs : List (Option Nat)} {i : Int32} (d : decode cc pc = .ok (.aaload, 1)) (hk : kd k = (13, n, rs)) (hkN : k < NC) (hb0 : ∀ j, j < n → rs.getD j none = some (b0 + 17 * j)) (h : i.toNatClampNeg < n → J K r X (pc + 1) lv (.ref (adr (b0 + 17 * i.toNatClampNeg)) :: st) S) : J K r (ck i n X) pc lv (.int i :: .ref (adr k) :: st) S := by
  obtain ⟨p, l, e, s, m, args, below, meth, c, D, cy, A, cN, sN, Q, rfl, hx, hb, hml, hown, hts, hnw, hK, hI, hA, hSt, hcN, hsN⟩ := C
  intro hX H locs ls hP hS hl
  obtain ⟨hin, hX⟩ := ck_some hX
  have hlt : i.toNatClampNeg < n := Nat.not_le.mp fun q => hin (Or.inr q)
  refine va_aldq hx hb hK hP k 3 (by rw [wsOf_get hkN, cellOf_refs hk]) rfl hin d ?_
  show W _ _ _ _ _ _ _ _ _ _ _ _ _ _ _ (F0 m (pc + 1) ls (va_rf ((rs.getD i.toNatClampNeg none).map adr) :: st))
  rw [hb0 _ hlt]
  exact h hlt hX H locs ls hP hS hl
/-- getstatic SETTING_LETTER, the index by iload_n, the load: three instructions -/
theorem j_stLetter (C : Cx K cc own nL adr R) {idx q : Nat} {kk : Fin 4} {i : Int32} (d : decode cc pc = .ok (.getstatic idx, 3)) (d2 : decode cc (pc + 3) = .ok (.iload_n kk, 1)) (d3 : decode cc (pc + 4) = .ok (.caload, 1)) (hi : lv[q]? = some ((kk : Nat), .int i)) (hlk : Cond.fieldLinkNest own idx RX8 "SETTING_LETTER" "[C" RX8 ∈ lw_nest) (h : J K r X (pc + 5) lv (.int (tbLetter i.toNatClampNeg) :: st) S) : J K r (ck i 5 X) pc lv st S := by
  obtain ⟨p, l, e, s, m, args, below, meth, c, D, cy, A, cN, sN, Q, rfl, hx, hb, hml, hown, hts, hnw, hK, hI, hA, hSt, hcN, hsN⟩ := C
  intro hX H locs ls hP hS hl
  obtain ⟨hin, hX⟩ := ck_some hX
  obtain ⟨t, hZ, hT⟩ := hSt.1
  refine va_getsN hx hb hZ hS hown (va_Nw.use rfl (hnw _ hlk)) (fun _ z => z) d ?_
  refine lv_iload_n hx hb d2 rfl (lv_at hl q hi) ?_
  exact va_tc hx hb hT hS hin rfl d3 (h hX H locs ls hP hS hl)
/-- getstatic SETTING_LEAST, the index by iload_n, the load: three instructions -/
theorem j_stLeast (C : Cx K cc own nL adr R) {idx q : Nat} {kk : Fin 4} {i : Int32} (d : decode cc pc = .ok (.getstatic idx, 3)) (d2 : decode cc (pc + 3) = .ok (.iload_n kk, 1)) (d3 : decode cc (pc + 4) = .ok (.iaload, 1)) (hi : lv[q]? = some ((kk : Nat), .int i)) (hlk : Cond.fieldLinkNest own idx RX8 "SETTING_LEAST" "[I" RX8 ∈ lw_nest) (h : J K r X (pc + 5) lv (.int (tbLeast i.toNatClampNeg) :: st) S) : J K r (ck i 5 X) pc lv st S := by
  obtain ⟨p, l, e, s, m, args, below, meth, c, D, cy, A, cN, sN, Q, rfl, hx, hb, hml, hown, hts, hnw, hK, hI, hA, hSt, hcN, hsN⟩ := C
  intro hX H locs ls hP hS hl
  obtain ⟨hin, hX⟩ := ck_some hX
  obtain ⟨t, hZ, hT⟩ := hSt.2.1
  refine va_getsN hx hb hZ hS hown (va_Nw.use rfl (hnw _ hlk)) (fun _ z => z) d ?_
  refine lv_iload_n hx hb d2 rfl (lv_at hl q hi) ?_
  exact va_ti hx hb hT hS hin rfl d3 (h hX H locs ls hP hS hl)
/-- getstatic SETTING_MOST, the index by iload_n, the load: three instructions -/
theorem j_stMost (C : Cx K cc own nL adr R) {idx q : Nat} {kk : Fin 4} {i : Int32} (d : decode cc pc = .ok (.getstatic idx, 3)) (d2 : decode cc (pc + 3) = .ok (.iload_n kk, 1)) (d3 : decode cc (pc + 4) = .ok (.iaload, 1)) (hi : lv[q]? = some ((kk : Nat), .int i)) (hlk : Cond.fieldLinkNest own idx RX8 "SETTING_MOST" "[I" RX8 ∈ lw_nest) (h : J K r X (pc + 5) lv (.int (tbMost i.toNatClampNeg) :: st) S) : J K r (ck i 5 X) pc lv st S := by
  obtain ⟨p, l, e, s, m, args, below, meth, c, D, cy, A, cN, sN, Q, rfl, hx, hb, hml, hown, hts, hnw, hK, hI, hA, hSt, hcN, hsN⟩ := C
  intro hX H locs ls hP hS hl
  obtain ⟨hin, hX⟩ := ck_some hX
  obtain ⟨t, hZ, hT⟩ := hSt.2.2.1
  refine va_getsN hx hb hZ hS hown (va_Nw.use rfl (hnw _ hlk)) (fun _ z => z) d ?_
  refine lv_iload_n hx hb d2 rfl (lv_at hl q hi) ?_
  exact va_ti hx hb hT hS hin rfl d3 (h hX H locs ls hP hS hl)
theorem j_mmax (C : Cx K cc own nL adr R) {idx : Nat} {x y : Int32} (d : decode cc pc = .ok (.invokestatic idx, 3)) (hlk : Cond.methodLink own idx Lib.Math.max.name ∈ lw_good) (hs1 : Cond.static Lib.Math.max.name ∈ lw_good) (hs2 : Cond.initialized "java/lang/Math" ∈ lw_good) (hs3 : Cond.code Lib.Math.max.name Lib.Math.max.code 2 (some .int) ∈ lw_good) (hR : 1 ≤ R.frames ∧ (st.map fun v => v.category).sum + 13 ≤ R.locals) (h : J K r X (pc + 3) lv (.int (if x < y then y else x) :: st) S) : J K r X pc lv (.int y :: .int x :: st) S := by
  obtain ⟨p, l, e, s, m, args, below, meth, c, D, cy, A, cN, sN, Q, rfl, hx, hb, hml, hown, hts, hnw, hK, hI, hA, hSt, hcN, hsN⟩ := C
  intro hX H locs ls hP hS hl
  exact va_mmax hx hb (by rw [hml]; exact hl.1.symm) hown (hts _ hlk) (hts _ hs1) (hts _ hs2) (hts _ hs3) hR.1 hR.2 hcN hsN d (h hX H locs ls hP hS hl)
theorem j_mmin (C : Cx K cc own nL adr R) {idx : Nat} {x y : Int32} (d : decode cc pc = .ok (.invokestatic idx, 3)) (hlk : Cond.methodLink own idx Lib.Math.min.name ∈ lw_good) (hs1 : Cond.static Lib.Math.min.name ∈ lw_good) (hs2 : Cond.initialized "java/lang/Math" ∈ lw_good) (hs3 : Cond.code Lib.Math.min.name Lib.Math.min.code 2 (some .int) ∈ lw_good) (hR : 1 ≤ R.frames ∧ (st.map fun v => v.category).sum + 13 ≤ R.locals) (h : J K r X (pc + 3) lv (.int (if y < x then y else x) :: st) S) : J K r X pc lv (.int y :: .int x :: st) S := by
  obtain ⟨p, l, e, s, m, args, below, meth, c, D, cy, A, cN, sN, Q, rfl, hx, hb, hml, hown, hts, hnw, hK, hI, hA, hSt, hcN, hsN⟩ := C
  intro hX H locs ls hP hS hl
  exact va_mmin hx hb (by rw [hml]; exact hl.1.symm) hown (hts _ hlk) (hts _ hs1) (hts _ hs2) (hts _ hs3) hR.1 hR.2 hcN hsN d (h hX H locs ls hP hS hl)
theorem j_copy (C : Cx K cc own nL adr R) {idx k k' n n' : Nat} {rs rs' : List (Option Nat)} {v : Int32} {Z : St → Option ρ} (d : decode cc pc = .ok (.invokestatic idx, 3)) (hk : kd k = (10, n, rs)) (hkN : k < NC) (hk' : kd k' = (10, n', rs')) (hkN' : k' < NC) (hv : ¬ v < 0) (h4 : v.toNatClampNeg ≤ n) (h5 : v.toNatClampNeg ≤ n') (hlk : Cond.methodLink own idx arraycopyName ∈ lw_good) (hs0 : Cond.native arraycopyName ∈ lw_good) (hs1 : Cond.static arraycopyName ∈ lw_good) (hs2 : Cond.initialized "java/lang/System" ∈ lw_good) (hR : 1 ≤ R.frames ∧ (st.map fun v => v.category).sum + (nativeFrameWords "java/lang/System" "arraycopy" 5 + 11) ≤ R.locals) (h : ∀ S' : St, J K r (Z S') (pc + 3) lv st S') : J K r (lt (rwI S k' (va_cpy (S.1 k) (S.1 k') 0 0 v.toNatClampNeg)) Z) pc lv (.int v :: .int 0 :: .ref (adr k') :: .int 0 :: .ref (adr k) :: st) S := by
  obtain ⟨p, l, e, s, m, args, below, meth, c, D, cy, A, cN, sN, Q, rfl, hx, hb, hml, hown, hts, hnw, hK, hI, hA, hSt, hcN, hsN⟩ := C
  intro hX H locs ls hP hS hl
  refine va_copyi hx hb (by rw [hml]; exact hl.1.symm) hown (hts _ hlk) (hts _ hs0) (hts _ hs1) (hts _ hs2) hK hP (wsOf_D hI hA) hS k k' 0 0 (ty := .int) (by rw [wsOf_get hkN, cellOf_int hk]) (by rw [wsOf_get hkN', cellOf_int hk']) rfl rfl rfl (by decide) (by decide) hv (by simpa using h4) (by simpa using h5) (fun _ _ => rfl) hR.1 hR.2 d (fun H1 locs1 hP1 _ hS1 => h _ hX H1 locs1 ls ?_ hS1 hl)
  rw [wsOf_set (S' := rwI S k' (va_cpy (S.1 k) (S.1 k') 0 0 v.toNatClampNeg)) hkN' (by rw [cellOf_int hk']; simp [rwI]) (fun k' hk' => cellOf_neI hk')] at hP1
  exact hP1
theorem j_iret {r : Int32 × St} {v : Int32} (hR : ∀ (pc : Nat) (lv : List (Nat × Value)), decode cc pc = .ok (.ireturn, 1) → K pc lv [.int r.1] r.2) (d : decode cc pc = .ok (.ireturn, 1)) : J K r (some (v, S)) pc lv [.int v] S := fun h => by cases h; exact hR pc lv d
theorem j_zret {r : Int32 × St} {v : Int32} (hR : ∀ (pc : Nat) (lv : List (Nat × Value)), (r.1 = 0 ∨ r.1 = 1) → decode cc pc = .ok (.ireturn, 1) → K pc lv [.int r.1] r.2) (hv : v = 0 ∨ v = 1) (d : decode cc pc = .ok (.ireturn, 1)) : J K r (some (v, S)) pc lv [.int v] S := fun h => by cases h; exact hR pc lv hv d
theorem j_zretv {r : Int32 × St} {v : Int32} (hR : ∀ (pc : Nat) (lv : List (Nat × Value)), (r.1 = 0 ∨ r.1 = 1) → decode cc pc = .ok (.ireturn, 1) → K pc lv [.int r.1] r.2) (d : decode cc pc = .ok (.ireturn, 1)) : J K r (bz v (some (v, S))) pc lv [.int v] S := fun h => by
  obtain ⟨hv, h⟩ := bz_some h
  cases h
  exact hR pc lv hv d
theorem j_lret {r : Int64 × St} {v : Int64} (hR : ∀ (pc : Nat) (lv : List (Nat × Value)), decode cc pc = .ok (.lreturn, 1) → K pc lv [.long r.1] r.2) (d : decode cc pc = .ok (.lreturn, 1)) : J K r (some (v, S)) pc lv [.long v] S := fun h => by cases h; exact hR pc lv d
theorem j_vret {r : St} (hR : ∀ (pc : Nat) (lv : List (Nat × Value)), decode cc pc = .ok (.return_, 1) → K pc lv [] r) (d : decode cc pc = .ok (.return_, 1)) : J K r (some S) pc lv [] S := fun h => by cases h; exact hR pc lv d
end JR
end
section
/-! ===== contracts of methods that make no cell: the pure term F gives answer and new world ===== -/
def MtI (y : MethodName) (b : ByteArray) (n : Nat) (rt : Option FieldType) (rm : Room) (adr : Nat → Nat) (av : List Value) (F : St → Option (Int32 × St)) : Prop :=
  ∀ (l : Launch) (D : va_G) (cy : Nat → ClassId) (S : St) (r : Int32 × St), F S = some r → Met l y (Cond.code y b n rt :: lw_good) rm (va_Pc av (Wd D cy adr S)) (va_Qi (fun (v : Int32) (S' : St) => (v, S') = r) (fun S' t => va_P D vwCl (wsOf cy adr S') t.heap) (Aw adr)) 0 0 (Aw adr)
def MtL (y : MethodName) (b : ByteArray) (n : Nat) (rt : Option FieldType) (rm : Room) (adr : Nat → Nat) (av : List Value) (F : St → Option (Int64 × St)) : Prop :=
  ∀ (l : Launch) (D : va_G) (cy : Nat → ClassId) (S : St) (r : Int64 × St), F S = some r → Met l y (Cond.code y b n rt :: lw_good) rm (va_Pc av (Wd D cy adr S)) (va_Ql (fun (v : Int64) (S' : St) => (v, S') = r) (fun S' t => va_P D vwCl (wsOf cy adr S') t.heap) (Aw adr)) 0 0 (Aw adr)
def MtV (y : MethodName) (b : ByteArray) (n : Nat) (rt : Option FieldType) (rm : Room) (adr : Nat → Nat) (av : List Value) (F : St → Option St) : Prop :=
  ∀ (l : Launch) (D : va_G) (cy : Nat → ClassId) (S r : St), F S = some r → Met l y (Cond.code y b n rt :: lw_good) rm (va_Pc av (Wd D cy adr S)) (va_Qv (fun (S' : St) => S' = r) (fun S' t => va_P D vwCl (wsOf cy adr S') t.heap) (Aw adr)) 0 0 (Aw adr)
/-- what the tables say of a method -/
def MWb (y : MethodName) (b : ByteArray) (n : Nat) (rt : Option FieldType) (np : Nat) : Prop := Cond.initialized y.cls ∈ lw_good ∧ Cond.code y b n rt ∈ lw_good ∧ (y.cls ≠ "java/lang/invoke/MethodHandle" ∧ y.cls ≠ "java/lang/invoke/VarHandle" ∧ (parseMethodDescriptor y.desc).map (fun d => d.parameters.length) = some np)
def MWv (y : MethodName) (b : ByteArray) (n : Nat) (rt : Option FieldType) (np : Nat) : Prop := MWb y b n rt np ∧ Cond.instanceMethod y ∈ lw_good ∧ Cond.selects y.cls y y ∈ lw_good
def MWs (y : MethodName) (b : ByteArray) (n : Nat) (rt : Option FieldType) (np : Nat) : Prop := MWb y b n rt np ∧ Cond.static y ∈ lw_good
def Lk (own : String) (idx : Nat) (y : MethodName) : Prop := Cond.methodLink own idx y ∈ lw_good ∨ Cond.methodLinkNest own idx y RX8 ∈ lw_nest
/-- the room that a callee needs in its caller's -/
def Rf (rm : Room) (n : Nat) (R : Room) : Prop := rm.cells = 0 ∧ rm.slots = 0 ∧ rm.frames + 1 ≤ R.frames ∧ 8 + (n + 11) + rm.locals ≤ R.locals
theorem goodIn_m {c : Cond} (h : c ∈ lw_good) : GoodIn lw_good (c :: lw_good) := fun w hw => by
  rcases List.mem_cons.mp hw with rfl | hw
  · exact ⟨h, gd_good h⟩
  · exact ⟨hw, gd_good hw⟩
section JC
variable {p : Program} {l : Launch} {e : Env} {R : Room} {s : State} {m : MethodId} {args : Array Value} {below : List Frame} {meth : Method} {c : Code} {H : Heap} {locs : List Loc} {cN sN : Nat}
  {D : va_G} {cy : Nat → ClassId} {adr : Nat → Nat} {A : Nat → Prop} {S : St} {cc b : ByteArray} {own : String} {nL n np idx pc : Nat} {ls : Array Slot} {st st0 As : List Value} {y : MethodName} {rt : Option FieldType} {rm : Room} {Qc : Array Value → State → Outcome → State → Prop}
theorem wd_pre (hP : va_P D vwCl (wsOf cy adr S) H) (hK : va_K D vwCl (tysOf cy) s) (hI : ∀ i j, i < NC → j < NC → adr i = adr j → i = j) (hnw : ∀ w ∈ lw_nest, va_Nw w s) (hSt : Stt A s) (hA : ∀ k, k < NC → A (adr k)) (hS : va_S A s.heap H locs) (av : List Value) : ∀ U : State, U.heap = H → s.WarmedH U.vm → va_Pc av (Wd D cy adr S) av.toArray U := by
  intro U hU hW
  refine ⟨rfl, by rw [hU]; exact hP, va_K.moved hW.alike hK, hI, nest_warm hW hnw, hSt.to hS ?_ hW.alike hU⟩
  rintro q ⟨k, hk, rfl⟩
  exact hA k hk
theorem run_v (Fx : CallFix p m c cc nL s args lw_good own) (hlk : Lk own idx y) (mw : MWv y b n rt np) {q ci n' N : Nat} {rs : List (Option Nat)} {T : u_T} (hM : Met l y (Cond.code y b n rt :: lw_good) rm (va_Pc (.ref (adr q) :: As) (Wd D cy adr S)) Qc 0 0 (Aw adr)) (hrm : Rf rm n R) (hP : va_P D vwCl (wsOf cy adr S) H) (hK : va_K D vwCl (tysOf cy) s) (hI : ∀ i j, i < NC → j < NC → adr i = adr j → i = j) (hnw : ∀ w ∈ lw_nest, va_Nw w s) (hSt : Stt A s) (hA : ∀ k, k < NC → A (adr k)) (hS : va_S A s.heap H locs)
    (hk : kd q = (ci, n', rs)) (hci : ci < 10) (hq : q < NC) (hc : vwCl[ci]? = some (y.cls, T, N)) (hn : As.length = np) (hsz : ls.size = nL) (hst : st0 = As.reverse ++ .ref (adr q) :: st) (hroom : (st.map fun v => v.category).sum ≤ 8) (d : decode cc pc = .ok (.invokevirtual idx, 3)) (hcN : cN ≤ R.cells) (hsN : sN ≤ R.slots) :
    va_Run p l e R s m args below meth c H locs cN sN 0 0 (F0 m pc ls st0) st (Qc (Value.ref (adr q) :: As).toArray) (Aw adr) := by
  obtain ⟨⟨hini, hcode, hd⟩, hin, hse⟩ := mw
  obtain ⟨r1, r2, r3, r4⟩ := hrm
  have hts := Fx.2.2.2.2
  have hpre : PreV s H y.cls (adr q) (va_Pc (.ref (adr q) :: As) (Wd D cy adr S)) As := ⟨Wd.blind, va_recv hK hP hc (by rw [wsOf_get hq, cellOf_obj hk hci]), wd_pre hP hK hI hnw hSt hA hS _⟩
  rcases hlk with hlk | hlk
  · exact va_runV (C := y.cls) (n := np) (maxL := n) (bytes := b) (ret := rt) Fx hM ⟨callB_of np hts (goodIn_m hcode) rfl r1 r2 (hts _ hini) (hts _ hlk) hd ⟨r3, r4⟩, hts _ hin, hts _ hse⟩ hpre rfl hn hsz hst (lv_room hroom) d ⟨hcN, hsN⟩
  · exact va_runVN (C := y.cls) (n := np) (maxL := n) (bytes := b) (ret := rt) Fx hM ⟨va_cnB np hts (goodIn_m hcode) rfl r1 r2 (hnw _ hlk) (hts _ hini) hd ⟨r3, r4⟩, hts _ hin, hts _ hse⟩ hpre rfl hn hsz hst (lv_room hroom) d ⟨hcN, hsN⟩
theorem run_s (Fx : CallFix p m c cc nL s args lw_good own) (hlk : Lk own idx y) (mw : MWs y b n rt np) (hM : Met l y (Cond.code y b n rt :: lw_good) rm (va_Pc As (Wd D cy adr S)) Qc 0 0 (Aw adr)) (hrm : Rf rm n R) (hP : va_P D vwCl (wsOf cy adr S) H) (hK : va_K D vwCl (tysOf cy) s) (hI : ∀ i j, i < NC → j < NC → adr i = adr j → i = j) (hnw : ∀ w ∈ lw_nest, va_Nw w s) (hSt : Stt A s) (hA : ∀ k, k < NC → A (adr k)) (hS : va_S A s.heap H locs)
    (hn : As.length = np) (hsz : ls.size = nL) (hst : st0 = As.reverse ++ st) (hroom : (st.map fun v => v.category).sum ≤ 8) (d : decode cc pc = .ok (.invokestatic idx, 3)) (hcN : cN ≤ R.cells) (hsN : sN ≤ R.slots) :
    va_Run p l e R s m args below meth c H locs cN sN 0 0 (F0 m pc ls st0) st (Qc As.toArray) (Aw adr) := by
  obtain ⟨⟨hini, hcode, hd⟩, hstt⟩ := mw
  obtain ⟨r1, r2, r3, r4⟩ := hrm
  have hts := Fx.2.2.2.2
  have hpre : PreS s H (va_Pc As (Wd D cy adr S)) As := ⟨Wd.blind, wd_pre hP hK hI hnw hSt hA hS _⟩
  rcases hlk with hlk | hlk
  · exact va_runS (n := np) (maxL := n) (bytes := b) (ret := rt) Fx hM ⟨callB_of np hts (goodIn_m hcode) rfl r1 r2 (hts _ hini) (hts _ hlk) hd ⟨r3, r4⟩, hts _ hstt⟩ hpre rfl hn hsz hst (lv_room hroom) d ⟨hcN, hsN⟩
  · exact va_runSN (n := np) (maxL := n) (bytes := b) (ret := rt) Fx hM ⟨va_cnB np hts (goodIn_m hcode) rfl r1 r2 (hnw _ hlk) (hts _ hini) hd ⟨r3, r4⟩, hts _ hstt, trivial⟩ hpre rfl hn hsz hst (lv_room hroom) d ⟨hcN, hsN⟩
end JC
section JD
variable {ρ : Type} {K : Kt} {cc b : ByteArray} {own : String} {nL n np idx : Nat} {adr : Nat → Nat} {R rm : Room} {r : ρ} {pc : Nat} {lv : List (Nat × Value)} {st st0 As : List Value} {S : St} {y : MethodName} {rt : Option FieldType}
theorem j_cvi (C : Cx K cc own nL adr R) {F : St → Option (Int32 × St)} {X : Int32 → St → Option ρ} {q ci n' N : Nat} {rs : List (Option Nat)} {T : u_T} (d : decode cc pc = .ok (.invokevirtual idx, 3)) (hlk : Lk own idx y) (mw : MWv y b n rt np) (hM : MtI y b n rt rm adr (.ref (adr q) :: As) F) (hrm : Rf rm n R) (hk : kd q = (ci, n', rs)) (hci : ci < 10) (hq : q < NC) (hc : vwCl[ci]? = some (y.cls, T, N)) (hn : As.length = np) (hst : st0 = As.reverse ++ .ref (adr q) :: st) (hroom : (st.map fun v => v.category).sum ≤ 8) (h : ∀ (v : Int32) (S' : St), J K r (X v S') (pc + 3) lv (.int v :: st) S') : J K r (bd (F S) X) pc lv st0 S := by
  obtain ⟨p, l, e, s, m, args, below, meth, c, D, cy, A, cN, sN, Q, rfl, hx, hb, hml, hown, hts, hnw, hK, hI, hA, hSt, hcN, hsN⟩ := C
  intro hX H locs ls hP hS hl
  obtain ⟨q1, hF, hG⟩ := Option.bind_eq_some_iff.mp hX
  refine va_calli (run_v ⟨hx, hb, hml, hown, hts⟩ hlk mw (hM l D cy S q1 hF) hrm hP hK hI hnw hSt hA hS hk hci hq hc hn hl.1 hst hroom d hcN hsN) hS (fun q9 _ h9 => ?_) (fun q9 h9 => ?_) (fun r1 u t H1 locs1 ht hvm hw hB hz hk1 hS1 => ?_)
  · obtain ⟨k9, hk9, rfl⟩ := h9
    exact hA k9 hk9
  · obtain ⟨k9, hk9, rfl⟩ := h9
    exact hA k9 hk9
  · cases hw
    exact h r1 u hG H1 locs1 ls (by rw [← ht]; exact hB) hS1 hl
theorem j_csi (C : Cx K cc own nL adr R) {F : St → Option (Int32 × St)} {X : Int32 → St → Option ρ} (d : decode cc pc = .ok (.invokestatic idx, 3)) (hlk : Lk own idx y) (mw : MWs y b n rt np) (hM : MtI y b n rt rm adr As F) (hrm : Rf rm n R) (hn : As.length = np) (hst : st0 = As.reverse ++ st) (hroom : (st.map fun v => v.category).sum ≤ 8) (h : ∀ (v : Int32) (S' : St), J K r (X v S') (pc + 3) lv (.int v :: st) S') : J K r (bd (F S) X) pc lv st0 S := by
  obtain ⟨p, l, e, s, m, args, below, meth, c, D, cy, A, cN, sN, Q, rfl, hx, hb, hml, hown, hts, hnw, hK, hI, hA, hSt, hcN, hsN⟩ := C
  intro hX H locs ls hP hS hl
  obtain ⟨q1, hF, hG⟩ := Option.bind_eq_some_iff.mp hX
  refine va_calli (run_s ⟨hx, hb, hml, hown, hts⟩ hlk mw (hM l D cy S q1 hF) hrm hP hK hI hnw hSt hA hS hn hl.1 hst hroom d hcN hsN) hS (fun q9 _ h9 => ?_) (fun q9 h9 => ?_) (fun r1 u t H1 locs1 ht hvm hw hB hz hk1 hS1 => ?_)
  · obtain ⟨k9, hk9, rfl⟩ := h9
    exact hA k9 hk9
  · obtain ⟨k9, hk9, rfl⟩ := h9
    exact hA k9 hk9
  · cases hw
    exact h r1 u hG H1 locs1 ls (by rw [← ht]; exact hB) hS1 hl
theorem j_cvl (C : Cx K cc own nL adr R) {F : St → Option (Int64 × St)} {X : Int64 → St → Option ρ} {q ci n' N : Nat} {rs : List (Option Nat)} {T : u_T} (d : decode cc pc = .ok (.invokevirtual idx, 3)) (hlk : Lk own idx y) (mw : MWv y b n rt np) (hM : MtL y b n rt rm adr (.ref (adr q) :: As) F) (hrm : Rf rm n R) (hk : kd q = (ci, n', rs)) (hci : ci < 10) (hq : q < NC) (hc : vwCl[ci]? = some (y.cls, T, N)) (hn : As.length = np) (hst : st0 = As.reverse ++ .ref (adr q) :: st) (hroom : (st.map fun v => v.category).sum ≤ 8) (h : ∀ (v : Int64) (S' : St), J K r (X v S') (pc + 3) lv (.long v :: st) S') : J K r (bd (F S) X) pc lv st0 S := by
  obtain ⟨p, l, e, s, m, args, below, meth, c, D, cy, A, cN, sN, Q, rfl, hx, hb, hml, hown, hts, hnw, hK, hI, hA, hSt, hcN, hsN⟩ := C
  intro hX H locs ls hP hS hl
  obtain ⟨q1, hF, hG⟩ := Option.bind_eq_some_iff.mp hX
  refine va_calll (run_v ⟨hx, hb, hml, hown, hts⟩ hlk mw (hM l D cy S q1 hF) hrm hP hK hI hnw hSt hA hS hk hci hq hc hn hl.1 hst hroom d hcN hsN) hS (fun q9 _ h9 => ?_) (fun q9 h9 => ?_) (fun r1 u t H1 locs1 ht hvm hw hB hz hk1 hS1 => ?_)
  · obtain ⟨k9, hk9, rfl⟩ := h9
    exact hA k9 hk9
  · obtain ⟨k9, hk9, rfl⟩ := h9
    exact hA k9 hk9
  · cases hw
    exact h r1 u hG H1 locs1 ls (by rw [← ht]; exact hB) hS1 hl
theorem j_csl (C : Cx K cc own nL adr R) {F : St → Option (Int64 × St)} {X : Int64 → St → Option ρ} (d : decode cc pc = .ok (.invokestatic idx, 3)) (hlk : Lk own idx y) (mw : MWs y b n rt np) (hM : MtL y b n rt rm adr As F) (hrm : Rf rm n R) (hn : As.length = np) (hst : st0 = As.reverse ++ st) (hroom : (st.map fun v => v.category).sum ≤ 8) (h : ∀ (v : Int64) (S' : St), J K r (X v S') (pc + 3) lv (.long v :: st) S') : J K r (bd (F S) X) pc lv st0 S := by
  obtain ⟨p, l, e, s, m, args, below, meth, c, D, cy, A, cN, sN, Q, rfl, hx, hb, hml, hown, hts, hnw, hK, hI, hA, hSt, hcN, hsN⟩ := C
  intro hX H locs ls hP hS hl
  obtain ⟨q1, hF, hG⟩ := Option.bind_eq_some_iff.mp hX
  refine va_calll (run_s ⟨hx, hb, hml, hown, hts⟩ hlk mw (hM l D cy S q1 hF) hrm hP hK hI hnw hSt hA hS hn hl.1 hst hroom d hcN hsN) hS (fun q9 _ h9 => ?_) (fun q9 h9 => ?_) (fun r1 u t H1 locs1 ht hvm hw hB hz hk1 hS1 => ?_)
  · obtain ⟨k9, hk9, rfl⟩ := h9
    exact hA k9 hk9
  · obtain ⟨k9, hk9, rfl⟩ := h9
    exact hA k9 hk9
  · cases hw
    exact h r1 u hG H1 locs1 ls (by rw [← ht]; exact hB) hS1 hl
theorem j_cvv (C : Cx K cc own nL adr R) {F : St → Option St} {X : St → Option ρ} {q ci n' N : Nat} {rs : List (Option Nat)} {T : u_T} (d : decode cc pc = .ok (.invokevirtual idx, 3)) (hlk : Lk own idx y) (mw : MWv y b n rt np) (hM : MtV y b n rt rm adr (.ref (adr q) :: As) F) (hrm : Rf rm n R) (hk : kd q = (ci, n', rs)) (hci : ci < 10) (hq : q < NC) (hc : vwCl[ci]? = some (y.cls, T, N)) (hn : As.length = np) (hst : st0 = As.reverse ++ .ref (adr q) :: st) (hroom : (st.map fun v => v.category).sum ≤ 8) (h : ∀ (S' : St), J K r (X S') (pc + 3) lv st S') : J K r (bdV (F S) X) pc lv st0 S := by
  obtain ⟨p, l, e, s, m, args, below, meth, c, D, cy, A, cN, sN, Q, rfl, hx, hb, hml, hown, hts, hnw, hK, hI, hA, hSt, hcN, hsN⟩ := C
  intro hX H locs ls hP hS hl
  obtain ⟨q1, hF, hG⟩ := Option.bind_eq_some_iff.mp hX
  refine va_callv (run_v ⟨hx, hb, hml, hown, hts⟩ hlk mw (hM l D cy S q1 hF) hrm hP hK hI hnw hSt hA hS hk hci hq hc hn hl.1 hst hroom d hcN hsN) hS (fun q9 _ h9 => ?_) (fun q9 h9 => ?_) (fun u t H1 locs1 ht hvm hw hB hz hk1 hS1 => ?_)
  · obtain ⟨k9, hk9, rfl⟩ := h9
    exact hA k9 hk9
  · obtain ⟨k9, hk9, rfl⟩ := h9
    exact hA k9 hk9
  · have hw : u = q1 := hw
    subst hw
    exact h u hG H1 locs1 ls (by rw [← ht]; exact hB) hS1 hl
theorem j_csv (C : Cx K cc own nL adr R) {F : St → Option St} {X : St → Option ρ} (d : decode cc pc = .ok (.invokestatic idx, 3)) (hlk : Lk own idx y) (mw : MWs y b n rt np) (hM : MtV y b n rt rm adr As F) (hrm : Rf rm n R) (hn : As.length = np) (hst : st0 = As.reverse ++ st) (hroom : (st.map fun v => v.category).sum ≤ 8) (h : ∀ (S' : St), J K r (X S') (pc + 3) lv st S') : J K r (bdV (F S) X) pc lv st0 S := by
  obtain ⟨p, l, e, s, m, args, below, meth, c, D, cy, A, cN, sN, Q, rfl, hx, hb, hml, hown, hts, hnw, hK, hI, hA, hSt, hcN, hsN⟩ := C
  intro hX H locs ls hP hS hl
  obtain ⟨q1, hF, hG⟩ := Option.bind_eq_some_iff.mp hX
  refine va_callv (run_s ⟨hx, hb, hml, hown, hts⟩ hlk mw (hM l D cy S q1 hF) hrm hP hK hI hnw hSt hA hS hn hl.1 hst hroom d hcN hsN) hS (fun q9 _ h9 => ?_) (fun q9 h9 => ?_) (fun u t H1 locs1 ht hvm hw hB hz hk1 hS1 => ?_)
  · obtain ⟨k9, hk9, rfl⟩ := h9
    exact hA k9 hk9
  · obtain ⟨k9, hk9, rfl⟩ := h9
    exact hA k9 hk9
  · have hw : u = q1 := hw
    subst hw
    exact h u hG H1 locs1 ls (by rw [← ht]; exact hB) hS1 hl
theorem MtI.of {av : List Value} {F : St → Option (Int32 × St)} (hy : plainName y.cls = true) (hlen : (lg_sl av).length ≤ n)
    (body : ∀ (K : Kt) (r : Int32 × St) (S : St), Cx K b y.cls n adr rm → (∀ (pc : Nat) (lv : List (Nat × Value)), decode b pc = .ok (.ireturn, 1) → K pc lv [.int r.1] r.2) → J K r (F S) 0 (lv_args 0 av) [] S) : MtI y b n (some .int) rm adr av F := by
  intro l D cy S r hF
  refine Met.ofW (cc := b) (maxL := n) (ret := (some .int)) hy rfl ?_
  intro p e s m args below meth c s₁ B hml hv
  obtain ⟨rfl, hP, hK, hI, hN, hSt⟩ := hv
  have hx := B.exec
  have hb := B.bytes
  have hr := B.returns
  have hlocks := B.notSynchronized
  have hts := atoms_spec (ws := Cond.code y b n (some .int) :: lw_good) B.pre
  have hown : s.vm.findClass y.cls = some m.cls := findClass_of_methodNamed B.named
  rw [lg_entry_eq]
  have hA : ∀ k, k < NC → Aw adr (adr k) := fun k hk => ⟨k, hk, rfl⟩
  refine body (Gd p l e rm s m av.toArray below meth c n D cy adr (Aw adr) 0 0 _) r S ⟨p, l, e, s, m, av.toArray, below, meth, c, D, cy, Aw adr, 0, 0, _, rfl, hx, hb, hml, hown, fun w hw => hts w (List.mem_cons_of_mem _ hw), hN, hK, hI, hA, hSt, Nat.zero_le _, Nat.zero_le _⟩ ?_ hF s.heap [] _ hP va_S.rf (lv_entry av hlen)
  intro pc lv d H locs ls hP' hS' hl'
  exact W.iret (v := r.1) hx hb hr (fun t ht hW => ⟨⟨r.1, r.2, rfl, rfl, by show va_P _ _ _ t.heap; rw [ht]; exact hP'⟩, hS'.F ht⟩) hS'.2.2 d
theorem MtI.ofZ {av : List Value} {F : St → Option (Int32 × St)} (hy : plainName y.cls = true) (hlen : (lg_sl av).length ≤ n)
    (body : ∀ (K : Kt) (r : Int32 × St) (S : St), Cx K b y.cls n adr rm → (∀ (pc : Nat) (lv : List (Nat × Value)), (r.1 = 0 ∨ r.1 = 1) → decode b pc = .ok (.ireturn, 1) → K pc lv [.int r.1] r.2) → J K r (F S) 0 (lv_args 0 av) [] S) : MtI y b n (some .boolean) rm adr av F := by
  intro l D cy S r hF
  refine Met.ofW (cc := b) (maxL := n) (ret := (some .boolean)) hy rfl ?_
  intro p e s m args below meth c s₁ B hml hv
  obtain ⟨rfl, hP, hK, hI, hN, hSt⟩ := hv
  have hx := B.exec
  have hb := B.bytes
  have hr := B.returns
  have hlocks := B.notSynchronized
  have hts := atoms_spec (ws := Cond.code y b n (some .boolean) :: lw_good) B.pre
  have hown : s.vm.findClass y.cls = some m.cls := findClass_of_methodNamed B.named
  rw [lg_entry_eq]
  have hA : ∀ k, k < NC → Aw adr (adr k) := fun k hk => ⟨k, hk, rfl⟩
  refine body (Gd p l e rm s m av.toArray below meth c n D cy adr (Aw adr) 0 0 _) r S ⟨p, l, e, s, m, av.toArray, below, meth, c, D, cy, Aw adr, 0, 0, _, rfl, hx, hb, hml, hown, fun w hw => hts w (List.mem_cons_of_mem _ hw), hN, hK, hI, hA, hSt, Nat.zero_le _, Nat.zero_le _⟩ ?_ hF s.heap [] _ hP va_S.rf (lv_entry av hlen)
  intro pc lv hz d H locs ls hP' hS' hl'
  exact W.zret (v := r.1) (ty := .boolean) hx hb hr (by rcases hz with h | h <;> rw [h] <;> rfl) (fun t ht hW => ⟨⟨r.1, r.2, rfl, rfl, by show va_P _ _ _ t.heap; rw [ht]; exact hP'⟩, hS'.F ht⟩) hS'.2.2 d
theorem MtL.of {av : List Value} {F : St → Option (Int64 × St)} (hy : plainName y.cls = true) (hlen : (lg_sl av).length ≤ n)
    (body : ∀ (K : Kt) (r : Int64 × St) (S : St), Cx K b y.cls n adr rm → (∀ (pc : Nat) (lv : List (Nat × Value)), decode b pc = .ok (.lreturn, 1) → K pc lv [.long r.1] r.2) → J K r (F S) 0 (lv_args 0 av) [] S) : MtL y b n (some .long) rm adr av F := by
  intro l D cy S r hF
  refine Met.ofW (cc := b) (maxL := n) (ret := (some .long)) hy rfl ?_
  intro p e s m args below meth c s₁ B hml hv
  obtain ⟨rfl, hP, hK, hI, hN, hSt⟩ := hv
  have hx := B.exec
  have hb := B.bytes
  have hr := B.returns
  have hlocks := B.notSynchronized
  have hts := atoms_spec (ws := Cond.code y b n (some .long) :: lw_good) B.pre
  have hown : s.vm.findClass y.cls = some m.cls := findClass_of_methodNamed B.named
  rw [lg_entry_eq]
  have hA : ∀ k, k < NC → Aw adr (adr k) := fun k hk => ⟨k, hk, rfl⟩
  refine body (Gd p l e rm s m av.toArray below meth c n D cy adr (Aw adr) 0 0 _) r S ⟨p, l, e, s, m, av.toArray, below, meth, c, D, cy, Aw adr, 0, 0, _, rfl, hx, hb, hml, hown, fun w hw => hts w (List.mem_cons_of_mem _ hw), hN, hK, hI, hA, hSt, Nat.zero_le _, Nat.zero_le _⟩ ?_ hF s.heap [] _ hP va_S.rf (lv_entry av hlen)
  intro pc lv d H locs ls hP' hS' hl'
  exact W.lret (v := r.1) hx hb hr (fun t ht hW => ⟨⟨r.1, r.2, rfl, rfl, by show va_P _ _ _ t.heap; rw [ht]; exact hP'⟩, hS'.F ht⟩) hS'.2.2 d
theorem MtV.of {av : List Value} {F : St → Option (St)} (hy : plainName y.cls = true) (hlen : (lg_sl av).length ≤ n)
    (body : ∀ (K : Kt) (r : St) (S : St), Cx K b y.cls n adr rm → (∀ (pc : Nat) (lv : List (Nat × Value)), decode b pc = .ok (.return_, 1) → K pc lv [] r) → J K r (F S) 0 (lv_args 0 av) [] S) : MtV y b n none rm adr av F := by
  intro l D cy S r hF
  refine Met.ofW (cc := b) (maxL := n) (ret := none) hy rfl ?_
  intro p e s m args below meth c s₁ B hml hv
  obtain ⟨rfl, hP, hK, hI, hN, hSt⟩ := hv
  have hx := B.exec
  have hb := B.bytes
  have hr := B.returns
  have hlocks := B.notSynchronized
  have hts := atoms_spec (ws := Cond.code y b n none :: lw_good) B.pre
  have hown : s.vm.findClass y.cls = some m.cls := findClass_of_methodNamed B.named
  rw [lg_entry_eq]
  have hA : ∀ k, k < NC → Aw adr (adr k) := fun k hk => ⟨k, hk, rfl⟩
  refine body (Gd p l e rm s m av.toArray below meth c n D cy adr (Aw adr) 0 0 _) r S ⟨p, l, e, s, m, av.toArray, below, meth, c, D, cy, Aw adr, 0, 0, _, rfl, hx, hb, hml, hown, fun w hw => hts w (List.mem_cons_of_mem _ hw), hN, hK, hI, hA, hSt, Nat.zero_le _, Nat.zero_le _⟩ ?_ hF s.heap [] _ hP va_S.rf (lv_entry av hlen)
  intro pc lv d H locs ls hP' hS' hl'
  exact W.vret hx hb hr (fun t ht hW => ⟨⟨r, rfl, rfl, by show va_P _ _ _ t.heap; rw [ht]; exact hP'⟩, hS'.F ht⟩) hS'.2.2 d
end JD
end
section
theorem in_X0 : ∀ w ∈ u_ws RX0 TX0 5, w ∈ lw_good := by
  intro w hw
  obtain ⟨k, hk, rfl⟩ := List.mem_map.mp hw
  have hk := List.mem_range.mp hk
  exact match k, hk with
  | 0, _ => gd_of (List.mem_of_getElem? (i := 309) (by decide +kernel)) (by decide +kernel)
  | 1, _ => gd_of (List.mem_of_getElem? (i := 311) (by decide +kernel)) (by decide +kernel)
  | 2, _ => gd_of (List.mem_of_getElem? (i := 313) (by decide +kernel)) (by decide +kernel)
  | 3, _ => gd_of (List.mem_of_getElem? (i := 315) (by decide +kernel)) (by decide +kernel)
  | 4, _ => gd_of (List.mem_of_getElem? (i := 317) (by decide +kernel)) (by decide +kernel)
  | k + 5, h => absurd h (by omega)
theorem in_X1 : ∀ w ∈ u_ws RX1 TX1 3, w ∈ lw_good := by
  intro w hw
  obtain ⟨k, hk, rfl⟩ := List.mem_map.mp hw
  have hk := List.mem_range.mp hk
  exact match k, hk with
  | 0, _ => gd_of (List.mem_of_getElem? (i := 333) (by decide +kernel)) (by decide +kernel)
  | 1, _ => gd_of (List.mem_of_getElem? (i := 335) (by decide +kernel)) (by decide +kernel)
  | 2, _ => gd_of (List.mem_of_getElem? (i := 337) (by decide +kernel)) (by decide +kernel)
  | k + 3, h => absurd h (by omega)
theorem in_X2 : ∀ w ∈ u_ws RX2 TX2 2, w ∈ lw_good := by
  intro w hw
  obtain ⟨k, hk, rfl⟩ := List.mem_map.mp hw
  have hk := List.mem_range.mp hk
  exact match k, hk with
  | 0, _ => gd_of (List.mem_of_getElem? (i := 350) (by decide +kernel)) (by decide +kernel)
  | 1, _ => gd_of (List.mem_of_getElem? (i := 352) (by decide +kernel)) (by decide +kernel)
  | k + 2, h => absurd h (by omega)
theorem in_X3 : ∀ w ∈ u_ws RX3 TX3 3, w ∈ lw_good := by
  intro w hw
  obtain ⟨k, hk, rfl⟩ := List.mem_map.mp hw
  have hk := List.mem_range.mp hk
  exact match k, hk with
  | 0, _ => gd_of (List.mem_of_getElem? (i := 365) (by decide +kernel)) (by decide +kernel)
  | 1, _ => gd_of (List.mem_of_getElem? (i := 367) (by decide +kernel)) (by decide +kernel)
  | 2, _ => gd_of (List.mem_of_getElem? (i := 369) (by decide +kernel)) (by decide +kernel)
  | k + 3, h => absurd h (by omega)
theorem in_X4 : ∀ w ∈ u_ws RX4 TX4 8, w ∈ lw_good := by
  intro w hw
  obtain ⟨k, hk, rfl⟩ := List.mem_map.mp hw
  have hk := List.mem_range.mp hk
  exact match k, hk with
  | 0, _ => gd_of (List.mem_of_getElem? (i := 179) (by decide +kernel)) (by decide +kernel)
  | 1, _ => gd_of (List.mem_of_getElem? (i := 181) (by decide +kernel)) (by decide +kernel)
  | 2, _ => gd_of (List.mem_of_getElem? (i := 183) (by decide +kernel)) (by decide +kernel)
  | 3, _ => gd_of (List.mem_of_getElem? (i := 185) (by decide +kernel)) (by decide +kernel)
  | 4, _ => gd_of (List.mem_of_getElem? (i := 187) (by decide +kernel)) (by decide +kernel)
  | 5, _ => gd_of (List.mem_of_getElem? (i := 189) (by decide +kernel)) (by decide +kernel)
  | 6, _ => gd_of (List.mem_of_getElem? (i := 191) (by decide +kernel)) (by decide +kernel)
  | 7, _ => gd_of (List.mem_of_getElem? (i := 193) (by decide +kernel)) (by decide +kernel)
  | k + 8, h => absurd h (by omega)
theorem in_X5 : ∀ w ∈ u_ws RX5 TX5 3, w ∈ lw_good := by
  intro w hw
  obtain ⟨k, hk, rfl⟩ := List.mem_map.mp hw
  have hk := List.mem_range.mp hk
  exact match k, hk with
  | 0, _ => gd_of (List.mem_of_getElem? (i := 383) (by decide +kernel)) (by decide +kernel)
  | 1, _ => gd_of (List.mem_of_getElem? (i := 385) (by decide +kernel)) (by decide +kernel)
  | 2, _ => gd_of (List.mem_of_getElem? (i := 387) (by decide +kernel)) (by decide +kernel)
  | k + 3, h => absurd h (by omega)
theorem in_X6 : ∀ w ∈ u_ws RX6 TX6 5, w ∈ lw_good := by
  intro w hw
  obtain ⟨k, hk, rfl⟩ := List.mem_map.mp hw
  have hk := List.mem_range.mp hk
  exact match k, hk with
  | 0, _ => gd_of (List.mem_of_getElem? (i := 157) (by decide +kernel)) (by decide +kernel)
  | 1, _ => gd_of (List.mem_of_getElem? (i := 159) (by decide +kernel)) (by decide +kernel)
  | 2, _ => gd_of (List.mem_of_getElem? (i := 161) (by decide +kernel)) (by decide +kernel)
  | 3, _ => gd_of (List.mem_of_getElem? (i := 163) (by decide +kernel)) (by decide +kernel)
  | 4, _ => gd_of (List.mem_of_getElem? (i := 165) (by decide +kernel)) (by decide +kernel)
  | k + 5, h => absurd h (by omega)
theorem in_X7 : ∀ w ∈ u_ws RX7 TX7 19, w ∈ lw_good := by
  intro w hw
  obtain ⟨k, hk, rfl⟩ := List.mem_map.mp hw
  have hk := List.mem_range.mp hk
  exact match k, hk with
  | 0, _ => gd_of (List.mem_of_getElem? (i := 259) (by decide +kernel)) (by decide +kernel)
  | 1, _ => gd_of (List.mem_of_getElem? (i := 261) (by decide +kernel)) (by decide +kernel)
  | 2, _ => gd_of (List.mem_of_getElem? (i := 263) (by decide +kernel)) (by decide +kernel)
  | 3, _ => gd_of (List.mem_of_getElem? (i := 265) (by decide +kernel)) (by decide +kernel)
  | 4, _ => gd_of (List.mem_of_getElem? (i := 267) (by decide +kernel)) (by decide +kernel)
  | 5, _ => gd_of (List.mem_of_getElem? (i := 269) (by decide +kernel)) (by decide +kernel)
  | 6, _ => gd_of (List.mem_of_getElem? (i := 271) (by decide +kernel)) (by decide +kernel)
  | 7, _ => gd_of (List.mem_of_getElem? (i := 273) (by decide +kernel)) (by decide +kernel)
  | 8, _ => gd_of (List.mem_of_getElem? (i := 275) (by decide +kernel)) (by decide +kernel)
  | 9, _ => gd_of (List.mem_of_getElem? (i := 277) (by decide +kernel)) (by decide +kernel)
  | 10, _ => gd_of (List.mem_of_getElem? (i := 279) (by decide +kernel)) (by decide +kernel)
  | 11, _ => gd_of (List.mem_of_getElem? (i := 281) (by decide +kernel)) (by decide +kernel)
  | 12, _ => gd_of (List.mem_of_getElem? (i := 283) (by decide +kernel)) (by decide +kernel)
  | 13, _ => gd_of (List.mem_of_getElem? (i := 285) (by decide +kernel)) (by decide +kernel)
  | 14, _ => gd_of (List.mem_of_getElem? (i := 287) (by decide +kernel)) (by decide +kernel)
  | 15, _ => gd_of (List.mem_of_getElem? (i := 289) (by decide +kernel)) (by decide +kernel)
  | 16, _ => gd_of (List.mem_of_getElem? (i := 291) (by decide +kernel)) (by decide +kernel)
  | 17, _ => gd_of (List.mem_of_getElem? (i := 293) (by decide +kernel)) (by decide +kernel)
  | 18, _ => gd_of (List.mem_of_getElem? (i := 295) (by decide +kernel)) (by decide +kernel)
  | k + 19, h => absurd h (by omega)
theorem in_X8 : ∀ w ∈ u_ws RX8 TX8 8, w ∈ lw_good := by
  intro w hw
  obtain ⟨k, hk, rfl⟩ := List.mem_map.mp hw
  have hk := List.mem_range.mp hk
  exact match k, hk with
  | 0, _ => gd_of (List.mem_of_getElem? (i := 398) (by decide +kernel)) (by decide +kernel)
  | 1, _ => gd_of (List.mem_of_getElem? (i := 400) (by decide +kernel)) (by decide +kernel)
  | 2, _ => gd_of (List.mem_of_getElem? (i := 402) (by decide +kernel)) (by decide +kernel)
  | 3, _ => gd_of (List.mem_of_getElem? (i := 404) (by decide +kernel)) (by decide +kernel)
  | 4, _ => gd_of (List.mem_of_getElem? (i := 406) (by decide +kernel)) (by decide +kernel)
  | 5, _ => gd_of (List.mem_of_getElem? (i := 408) (by decide +kernel)) (by decide +kernel)
  | 6, _ => gd_of (List.mem_of_getElem? (i := 410) (by decide +kernel)) (by decide +kernel)
  | 7, _ => gd_of (List.mem_of_getElem? (i := 412) (by decide +kernel)) (by decide +kernel)
  | k + 8, h => absurd h (by omega)
theorem in_X9 : ∀ w ∈ u_ws RX9 TX9 28, w ∈ lw_good := by
  intro w hw
  obtain ⟨k, hk, rfl⟩ := List.mem_map.mp hw
  have hk := List.mem_range.mp hk
  exact match k, hk with
  | 0, _ => gd_of (List.mem_of_getElem? (i := 836) (by decide +kernel)) (by decide +kernel)
  | 1, _ => gd_of (List.mem_of_getElem? (i := 838) (by decide +kernel)) (by decide +kernel)
  | 2, _ => gd_of (List.mem_of_getElem? (i := 840) (by decide +kernel)) (by decide +kernel)
  | 3, _ => gd_of (List.mem_of_getElem? (i := 842) (by decide +kernel)) (by decide +kernel)
  | 4, _ => gd_of (List.mem_of_getElem? (i := 844) (by decide +kernel)) (by decide +kernel)
  | 5, _ => gd_of (List.mem_of_getElem? (i := 846) (by decide +kernel)) (by decide +kernel)
  | 6, _ => gd_of (List.mem_of_getElem? (i := 848) (by decide +kernel)) (by decide +kernel)
  | 7, _ => gd_of (List.mem_of_getElem? (i := 850) (by decide +kernel)) (by decide +kernel)
  | 8, _ => gd_of (List.mem_of_getElem? (i := 852) (by decide +kernel)) (by decide +kernel)
  | 9, _ => gd_of (List.mem_of_getElem? (i := 854) (by decide +kernel)) (by decide +kernel)
  | 10, _ => gd_of (List.mem_of_getElem? (i := 856) (by decide +kernel)) (by decide +kernel)
  | 11, _ => gd_of (List.mem_of_getElem? (i := 858) (by decide +kernel)) (by decide +kernel)
  | 12, _ => gd_of (List.mem_of_getElem? (i := 860) (by decide +kernel)) (by decide +kernel)
  | 13, _ => gd_of (List.mem_of_getElem? (i := 862) (by decide +kernel)) (by decide +kernel)
  | 14, _ => gd_of (List.mem_of_getElem? (i := 864) (by decide +kernel)) (by decide +kernel)
  | 15, _ => gd_of (List.mem_of_getElem? (i := 866) (by decide +kernel)) (by decide +kernel)
  | 16, _ => gd_of (List.mem_of_getElem? (i := 868) (by decide +kernel)) (by decide +kernel)
  | 17, _ => gd_of (List.mem_of_getElem? (i := 870) (by decide +kernel)) (by decide +kernel)
  | 18, _ => gd_of (List.mem_of_getElem? (i := 872) (by decide +kernel)) (by decide +kernel)
  | 19, _ => gd_of (List.mem_of_getElem? (i := 874) (by decide +kernel)) (by decide +kernel)
  | 20, _ => gd_of (List.mem_of_getElem? (i := 876) (by decide +kernel)) (by decide +kernel)
  | 21, _ => gd_of (List.mem_of_getElem? (i := 878) (by decide +kernel)) (by decide +kernel)
  | 22, _ => gd_of (List.mem_of_getElem? (i := 880) (by decide +kernel)) (by decide +kernel)
  | 23, _ => gd_of (List.mem_of_getElem? (i := 882) (by decide +kernel)) (by decide +kernel)
  | 24, _ => gd_of (List.mem_of_getElem? (i := 884) (by decide +kernel)) (by decide +kernel)
  | 25, _ => gd_of (List.mem_of_getElem? (i := 886) (by decide +kernel)) (by decide +kernel)
  | 26, _ => gd_of (List.mem_of_getElem? (i := 888) (by decide +kernel)) (by decide +kernel)
  | 27, _ => gd_of (List.mem_of_getElem? (i := 890) (by decide +kernel)) (by decide +kernel)
  | k + 28, h => absurd h (by omega)
-- GuardCells 1 ('java/lang/Object', '<init>', '()V')
theorem lk_X8_9 : Lk RX8 9 yX4_init := Or.inr (ne_of (List.mem_of_getElem? (i := 119) (by decide +kernel)) rfl)
theorem fl_X8_10 : Fl RX8 10 8 0 := ⟨RX8, TX8, 8, tyX8, rfl, by decide, in_X8, tyX8_ok, nmX8, rfl, Or.inl (gd_of (List.mem_of_getElem? (i := 390) (by decide +kernel)) (by decide +kernel))⟩
theorem lk_X8_18 : Lk RX8 18 yX6_init := Or.inr (ne_of (List.mem_of_getElem? (i := 197) (by decide +kernel)) rfl)
theorem fl_X8_19 : Fl RX8 19 8 1 := ⟨RX8, TX8, 8, tyX8, rfl, by decide, in_X8, tyX8_ok, nmX8, rfl, Or.inl (gd_of (List.mem_of_getElem? (i := 391) (by decide +kernel)) (by decide +kernel))⟩
theorem lk_X8_25 : Lk RX8 25 yX7_init := Or.inr (ne_of (List.mem_of_getElem? (i := 200) (by decide +kernel)) rfl)
theorem fl_X8_26 : Fl RX8 26 8 2 := ⟨RX8, TX8, 8, tyX8, rfl, by decide, in_X8, tyX8_ok, nmX8, rfl, Or.inl (gd_of (List.mem_of_getElem? (i := 392) (by decide +kernel)) (by decide +kernel))⟩
theorem lk_X8_32 : Lk RX8 32 yX0_init := Or.inr (ne_of (List.mem_of_getElem? (i := 300) (by decide +kernel)) rfl)
theorem fl_X8_35 : Fl RX8 35 8 3 := ⟨RX8, TX8, 8, tyX8, rfl, by decide, in_X8, tyX8_ok, nmX8, rfl, Or.inl (gd_of (List.mem_of_getElem? (i := 393) (by decide +kernel)) (by decide +kernel))⟩
theorem lk_X8_41 : Lk RX8 41 yX1_init := Or.inr (ne_of (List.mem_of_getElem? (i := 322) (by decide +kernel)) rfl)
theorem fl_X8_42 : Fl RX8 42 8 4 := ⟨RX8, TX8, 8, tyX8, rfl, by decide, in_X8, tyX8_ok, nmX8, rfl, Or.inl (gd_of (List.mem_of_getElem? (i := 394) (by decide +kernel)) (by decide +kernel))⟩
theorem lk_X8_48 : Lk RX8 48 yX2_init := Or.inr (ne_of (List.mem_of_getElem? (i := 342) (by decide +kernel)) rfl)
theorem fl_X8_49 : Fl RX8 49 8 5 := ⟨RX8, TX8, 8, tyX8, rfl, by decide, in_X8, tyX8_ok, nmX8, rfl, Or.inl (gd_of (List.mem_of_getElem? (i := 395) (by decide +kernel)) (by decide +kernel))⟩
theorem lk_X8_55 : Lk RX8 55 yX3_init := Or.inr (ne_of (List.mem_of_getElem? (i := 358) (by decide +kernel)) rfl)
theorem fl_X8_56 : Fl RX8 56 8 6 := ⟨RX8, TX8, 8, tyX8, rfl, by decide, in_X8, tyX8_ok, nmX8, rfl, Or.inl (gd_of (List.mem_of_getElem? (i := 396) (by decide +kernel)) (by decide +kernel))⟩
theorem lk_X8_62 : Lk RX8 62 yX5_init := Or.inr (ne_of (List.mem_of_getElem? (i := 375) (by decide +kernel)) rfl)
theorem fl_X8_63 : Fl RX8 63 8 7 := ⟨RX8, TX8, 8, tyX8, rfl, by decide, in_X8, tyX8_ok, nmX8, rfl, Or.inl (gd_of (List.mem_of_getElem? (i := 397) (by decide +kernel)) (by decide +kernel))⟩
theorem lk_X8_67 : Lk RX8 67 yX8_within := Or.inl (gd_of (List.mem_of_getElem? (i := 419) (by decide +kernel)) (by decide +kernel))
theorem lk_X8_71 : Lk RX8 71 yX4_append := Or.inr (ne_of (List.mem_of_getElem? (i := 422) (by decide +kernel)) rfl)
theorem fl_X8_75 : Fl RX8 75 4 1 := ⟨RX4, TX4, 8, tyX4, rfl, by decide, in_X4, tyX4_ok, nmX4, rfl, Or.inr (ne_of (List.mem_of_getElem? (i := 171) (by decide +kernel)) rfl)⟩
theorem lk_X8_79 : Lk RX8 79 yX4_read := Or.inr (ne_of (List.mem_of_getElem? (i := 434) (by decide +kernel)) rfl)
theorem fl_X8_83 : Fl RX8 83 4 2 := ⟨RX4, TX4, 8, tyX4, rfl, by decide, in_X4, tyX4_ok, nmX4, rfl, Or.inr (ne_of (List.mem_of_getElem? (i := 173) (by decide +kernel)) rfl)⟩
theorem lk_X8_86 : Lk RX8 86 yX6_copyFrom := Or.inr (ne_of (List.mem_of_getElem? (i := 487) (by decide +kernel)) rfl)
theorem lk_X8_90 : Lk RX8 90 yX7_begin := Or.inr (ne_of (List.mem_of_getElem? (i := 491) (by decide +kernel)) rfl)
theorem lk_X8_93 : Lk RX8 93 yX1_forgetAll := Or.inr (ne_of (List.mem_of_getElem? (i := 496) (by decide +kernel)) rfl)
theorem lk_X8_96 : Lk RX8 96 yX2_forgetAll := Or.inr (ne_of (List.mem_of_getElem? (i := 500) (by decide +kernel)) rfl)
theorem fl_X8_97 : Fl RX8 97 5 0 := ⟨RX5, TX5, 3, tyX5, rfl, by decide, in_X5, tyX5_ok, nmX5, rfl, Or.inr (ne_of (List.mem_of_getElem? (i := 380) (by decide +kernel)) rfl)⟩
theorem lk_X8_100 : Lk RX8 100 yX6_has := Or.inr (ne_of (List.mem_of_getElem? (i := 508) (by decide +kernel)) rfl)
theorem lk_X8_103 : Lk RX8 103 yX7_lowestAbsent := Or.inr (ne_of (List.mem_of_getElem? (i := 512) (by decide +kernel)) rfl)
theorem lk_X8_106 : Lk RX8 106 yX1_remember := Or.inr (ne_of (List.mem_of_getElem? (i := 516) (by decide +kernel)) rfl)
theorem lk_X8_110 : Lk RX8 110 yX0_offer := Or.inr (ne_of (List.mem_of_getElem? (i := 525) (by decide +kernel)) rfl)
theorem lk_X8_114 : Lk RX8 114 yX7_has := Or.inr (ne_of (List.mem_of_getElem? (i := 577) (by decide +kernel)) rfl)
theorem lk_X8_115 : Lk RX8 115 yX8_canHear := Or.inl (gd_of (List.mem_of_getElem? (i := 581) (by decide +kernel)) (by decide +kernel))
theorem lk_X8_119 : Lk RX8 119 yX0_setValues := Or.inr (ne_of (List.mem_of_getElem? (i := 585) (by decide +kernel)) rfl)
theorem lk_X8_123 : Lk RX8 123 yX0_hear := Or.inr (ne_of (List.mem_of_getElem? (i := 589) (by decide +kernel)) rfl)
theorem lk_X8_127 : Lk RX8 127 yX0_end := Or.inr (ne_of (List.mem_of_getElem? (i := 666) (by decide +kernel)) rfl)
theorem lk_X8_130 : Lk RX8 130 yX6_mostGuard := Or.inr (ne_of (List.mem_of_getElem? (i := 674) (by decide +kernel)) rfl)
theorem fl_X8_133 : Fl RX8 133 7 2 := ⟨RX7, TX7, 19, tyX7, rfl, by decide, in_X7, tyX7_ok, nmX7, rfl, Or.inr (ne_of (List.mem_of_getElem? (i := 217) (by decide +kernel)) rfl)⟩
theorem fl_X8_137 : Fl RX8 137 7 0 := ⟨RX7, TX7, 19, tyX7, rfl, by decide, in_X7, tyX7_ok, nmX7, rfl, Or.inr (ne_of (List.mem_of_getElem? (i := 213) (by decide +kernel)) rfl)⟩
theorem lk_X8_140 : Lk RX8 140 yX1_bringBack := Or.inr (ne_of (List.mem_of_getElem? (i := 683) (by decide +kernel)) rfl)
theorem fl_X8_144 : Fl RX8 144 1 2 := ⟨RX1, TX1, 3, tyX1, rfl, by decide, in_X1, tyX1_ok, nmX1, rfl, Or.inr (ne_of (List.mem_of_getElem? (i := 332) (by decide +kernel)) rfl)⟩
theorem fl_X8_147 : Fl RX8 147 6 1 := ⟨RX6, TX6, 5, tyX6, rfl, by decide, in_X6, tyX6_ok, nmX6, rfl, Or.inr (ne_of (List.mem_of_getElem? (i := 145) (by decide +kernel)) rfl)⟩
theorem fl_X8_150 : Fl RX8 150 6 3 := ⟨RX6, TX6, 5, tyX6, rfl, by decide, in_X6, tyX6_ok, nmX6, rfl, Or.inr (ne_of (List.mem_of_getElem? (i := 151) (by decide +kernel)) rfl)⟩
theorem lk_X8_153 : Lk RX8 153 yX7_busy := Or.inr (ne_of (List.mem_of_getElem? (i := 691) (by decide +kernel)) rfl)
theorem lk_X8_156 : Lk RX8 156 yX7_waiting := Or.inr (ne_of (List.mem_of_getElem? (i := 692) (by decide +kernel)) rfl)
theorem lk_X8_159 : Lk RX8 159 yX0_chanceOf := Or.inr (ne_of (List.mem_of_getElem? (i := 693) (by decide +kernel)) rfl)
theorem fl_X8_162 : Fl RX8 162 7 3 := ⟨RX7, TX7, 19, tyX7, rfl, by decide, in_X7, tyX7_ok, nmX7, rfl, Or.inr (ne_of (List.mem_of_getElem? (i := 219) (by decide +kernel)) rfl)⟩
theorem kc_X8_165 : Cond.constant RX8 165 (-1000000) ∈ lw_good := gd_of (List.mem_of_getElem? (i := 698) (by decide +kernel)) (by decide +kernel)
theorem fl_X8_166 : Fl RX8 166 7 4 := ⟨RX7, TX7, 19, tyX7, rfl, by decide, in_X7, tyX7_ok, nmX7, rfl, Or.inr (ne_of (List.mem_of_getElem? (i := 222) (by decide +kernel)) rfl)⟩
theorem fl_X8_169 : Fl RX8 169 7 5 := ⟨RX7, TX7, 19, tyX7, rfl, by decide, in_X7, tyX7_ok, nmX7, rfl, Or.inr (ne_of (List.mem_of_getElem? (i := 225) (by decide +kernel)) rfl)⟩
theorem fl_X8_172 : Fl RX8 172 7 7 := ⟨RX7, TX7, 19, tyX7, rfl, by decide, in_X7, tyX7_ok, nmX7, rfl, Or.inr (ne_of (List.mem_of_getElem? (i := 230) (by decide +kernel)) rfl)⟩
theorem fl_X8_175 : Fl RX8 175 7 9 := ⟨RX7, TX7, 19, tyX7, rfl, by decide, in_X7, tyX7_ok, nmX7, rfl, Or.inr (ne_of (List.mem_of_getElem? (i := 234) (by decide +kernel)) rfl)⟩
theorem fl_X8_178 : Fl RX8 178 7 10 := ⟨RX7, TX7, 19, tyX7, rfl, by decide, in_X7, tyX7_ok, nmX7, rfl, Or.inr (ne_of (List.mem_of_getElem? (i := 237) (by decide +kernel)) rfl)⟩
theorem fl_X8_181 : Fl RX8 181 7 11 := ⟨RX7, TX7, 19, tyX7, rfl, by decide, in_X7, tyX7_ok, nmX7, rfl, Or.inr (ne_of (List.mem_of_getElem? (i := 241) (by decide +kernel)) rfl)⟩
theorem fl_X8_184 : Fl RX8 184 7 12 := ⟨RX7, TX7, 19, tyX7, rfl, by decide, in_X7, tyX7_ok, nmX7, rfl, Or.inr (ne_of (List.mem_of_getElem? (i := 243) (by decide +kernel)) rfl)⟩
theorem fl_X8_187 : Fl RX8 187 7 13 := ⟨RX7, TX7, 19, tyX7, rfl, by decide, in_X7, tyX7_ok, nmX7, rfl, Or.inr (ne_of (List.mem_of_getElem? (i := 247) (by decide +kernel)) rfl)⟩
theorem fl_X8_190 : Fl RX8 190 7 14 := ⟨RX7, TX7, 19, tyX7, rfl, by decide, in_X7, tyX7_ok, nmX7, rfl, Or.inr (ne_of (List.mem_of_getElem? (i := 250) (by decide +kernel)) rfl)⟩
theorem lk_X8_193 : Lk RX8 193 yX0_waiter := Or.inr (ne_of (List.mem_of_getElem? (i := 707) (by decide +kernel)) rfl)
theorem fl_X8_196 : Fl RX8 196 7 15 := ⟨RX7, TX7, 19, tyX7, rfl, by decide, in_X7, tyX7_ok, nmX7, rfl, Or.inr (ne_of (List.mem_of_getElem? (i := 252) (by decide +kernel)) rfl)⟩
theorem fl_X8_199 : Fl RX8 199 7 16 := ⟨RX7, TX7, 19, tyX7, rfl, by decide, in_X7, tyX7_ok, nmX7, rfl, Or.inr (ne_of (List.mem_of_getElem? (i := 254) (by decide +kernel)) rfl)⟩
theorem fl_X8_202 : Fl RX8 202 7 17 := ⟨RX7, TX7, 19, tyX7, rfl, by decide, in_X7, tyX7_ok, nmX7, rfl, Or.inr (ne_of (List.mem_of_getElem? (i := 256) (by decide +kernel)) rfl)⟩
theorem fl_X8_205 : Fl RX8 205 7 18 := ⟨RX7, TX7, 19, tyX7, rfl, by decide, in_X7, tyX7_ok, nmX7, rfl, Or.inr (ne_of (List.mem_of_getElem? (i := 258) (by decide +kernel)) rfl)⟩
theorem lk_X8_208 : Lk RX8 208 yX8_areRates := Or.inl (gd_of (List.mem_of_getElem? (i := 716) (by decide +kernel)) (by decide +kernel))
theorem kc_X8_211 : Cond.constantLong RX8 211 (-1) ∈ lw_good := gd_of (List.mem_of_getElem? (i := 719) (by decide +kernel)) (by decide +kernel)
theorem lk_X8_213 : Lk RX8 213 yX3_weigh := Or.inr (ne_of (List.mem_of_getElem? (i := 720) (by decide +kernel)) rfl)
theorem lk_X8_217 : Lk RX8 217 yX3_upper := Or.inr (ne_of (List.mem_of_getElem? (i := 730) (by decide +kernel)) rfl)
theorem lk_X8_221 : Lk RX8 221 yX3_lower := Or.inr (ne_of (List.mem_of_getElem? (i := 734) (by decide +kernel)) rfl)
theorem lk_X8_224 : Lk RX8 224 yX8_commonDivisor := Or.inl (gd_of (List.mem_of_getElem? (i := 743) (by decide +kernel)) (by decide +kernel))
theorem lk_X8_228 : Lk RX8 228 yX3_losesMovingAtMostOnceIn := Or.inr (ne_of (List.mem_of_getElem? (i := 750) (by decide +kernel)) rfl)
theorem lk_X8_231 : Lk RX8 231 yX5_add := Or.inr (ne_of (List.mem_of_getElem? (i := 760) (by decide +kernel)) rfl)
theorem lk_X8_234 : Lk RX8 234 yX5_allow := Or.inr (ne_of (List.mem_of_getElem? (i := 772) (by decide +kernel)) rfl)
theorem lk_X8_237 : Lk RX8 237 yX2_store := Or.inr (ne_of (List.mem_of_getElem? (i := 781) (by decide +kernel)) rfl)
theorem lk_X8_241 : Lk RX8 241 yX7_present := Or.inr (ne_of (List.mem_of_getElem? (i := 786) (by decide +kernel)) rfl)
theorem lk_X8_244 : Lk RX8 244 yX2_bringBack := Or.inr (ne_of (List.mem_of_getElem? (i := 794) (by decide +kernel)) rfl)
theorem fl_X8_247 : Fl RX8 247 6 0 := ⟨RX6, TX6, 5, tyX6, rfl, by decide, in_X6, tyX6_ok, nmX6, rfl, Or.inr (ne_of (List.mem_of_getElem? (i := 141) (by decide +kernel)) rfl)⟩
theorem fl_X8_250 : Fl RX8 250 6 4 := ⟨RX6, TX6, 5, tyX6, rfl, by decide, in_X6, tyX6_ok, nmX6, rfl, Or.inr (ne_of (List.mem_of_getElem? (i := 156) (by decide +kernel)) rfl)⟩
theorem lm_X8_253 : Cond.methodLink RX8 253 Lib.Math.min.name ∈ lw_good := gd_of (List.mem_of_getElem? (i := 552) (by decide +kernel)) (by decide +kernel)
theorem lm_X8_258 : Cond.methodLink RX8 258 Lib.Math.max.name ∈ lw_good := gd_of (List.mem_of_getElem? (i := 553) (by decide +kernel)) (by decide +kernel)
-- GuardCells$Exchange 3 ('java/lang/Object', '<init>', '()V')
theorem fl_X0_9 : Fl RX0 9 0 2 := ⟨RX0, TX0, 5, tyX0, rfl, by decide, in_X0, tyX0_ok, nmX0, rfl, Or.inl (gd_of (List.mem_of_getElem? (i := 306) (by decide +kernel)) (by decide +kernel))⟩
theorem fl_X0_15 : Fl RX0 15 0 3 := ⟨RX0, TX0, 5, tyX0, rfl, by decide, in_X0, tyX0_ok, nmX0, rfl, Or.inl (gd_of (List.mem_of_getElem? (i := 307) (by decide +kernel)) (by decide +kernel))⟩
theorem fl_X0_18 : Fl RX0 18 0 0 := ⟨RX0, TX0, 5, tyX0, rfl, by decide, in_X0, tyX0_ok, nmX0, rfl, Or.inl (gd_of (List.mem_of_getElem? (i := 304) (by decide +kernel)) (by decide +kernel))⟩
theorem fl_X0_22 : Fl RX0 22 0 1 := ⟨RX0, TX0, 5, tyX0, rfl, by decide, in_X0, tyX0_ok, nmX0, rfl, Or.inl (gd_of (List.mem_of_getElem? (i := 305) (by decide +kernel)) (by decide +kernel))⟩
theorem fl_X0_26 : Fl RX0 26 6 1 := ⟨RX6, TX6, 5, tyX6, rfl, by decide, in_X6, tyX6_ok, nmX6, rfl, Or.inr (ne_of (List.mem_of_getElem? (i := 143) (by decide +kernel)) rfl)⟩
theorem lk_X0_31 : Lk RX0 31 yX7_busy := Or.inr (ne_of (List.mem_of_getElem? (i := 542) (by decide +kernel)) rfl)
theorem lk_X0_37 : Lk RX0 37 yX0_free := Or.inl (gd_of (List.mem_of_getElem? (i := 538) (by decide +kernel)) (by decide +kernel))
theorem fl_X0_40 : Fl RX0 40 7 2 := ⟨RX7, TX7, 19, tyX7, rfl, by decide, in_X7, tyX7_ok, nmX7, rfl, Or.inr (ne_of (List.mem_of_getElem? (i := 216) (by decide +kernel)) rfl)⟩
theorem lk_X0_43 : Lk RX0 43 yX8_chance := Or.inr (ne_of (List.mem_of_getElem? (i := 549) (by decide +kernel)) rfl)
theorem lk_X0_47 : Lk RX0 47 yX7_tallyOne := Or.inr (ne_of (List.mem_of_getElem? (i := 529) (by decide +kernel)) rfl)
theorem lk_X0_51 : Lk RX0 51 yX7_lowestAbsent := Or.inr (ne_of (List.mem_of_getElem? (i := 533) (by decide +kernel)) rfl)
theorem lk_X0_55 : Lk RX0 55 yX0_chanceOf := Or.inl (gd_of (List.mem_of_getElem? (i := 534) (by decide +kernel)) (by decide +kernel))
theorem lk_X0_58 : Lk RX0 58 yX0_isTaken := Or.inl (gd_of (List.mem_of_getElem? (i := 556) (by decide +kernel)) (by decide +kernel))
theorem lk_X0_62 : Lk RX0 62 yX7_appear := Or.inr (ne_of (List.mem_of_getElem? (i := 565) (by decide +kernel)) rfl)
theorem lk_X0_66 : Lk RX0 66 yX0_draw := Or.inl (gd_of (List.mem_of_getElem? (i := 560) (by decide +kernel)) (by decide +kernel))
theorem fl_X0_69 : Fl RX0 69 7 0 := ⟨RX7, TX7, 19, tyX7, rfl, by decide, in_X7, tyX7_ok, nmX7, rfl, Or.inr (ne_of (List.mem_of_getElem? (i := 212) (by decide +kernel)) rfl)⟩
theorem kc_X0_73 : Cond.constant RX0 73 (69069) ∈ lw_good := gd_of (List.mem_of_getElem? (i := 564) (by decide +kernel)) (by decide +kernel)
theorem fl_X0_74 : Fl RX0 74 7 7 := ⟨RX7, TX7, 19, tyX7, rfl, by decide, in_X7, tyX7_ok, nmX7, rfl, Or.inr (ne_of (List.mem_of_getElem? (i := 229) (by decide +kernel)) rfl)⟩
theorem fl_X0_77 : Fl RX0 77 7 8 := ⟨RX7, TX7, 19, tyX7, rfl, by decide, in_X7, tyX7_ok, nmX7, rfl, Or.inr (ne_of (List.mem_of_getElem? (i := 232) (by decide +kernel)) rfl)⟩
theorem lk_X0_80 : Lk RX0 80 yX0_smoothLevels := Or.inl (gd_of (List.mem_of_getElem? (i := 593) (by decide +kernel)) (by decide +kernel))
theorem lk_X0_84 : Lk RX0 84 yX0_countStreaks := Or.inl (gd_of (List.mem_of_getElem? (i := 601) (by decide +kernel)) (by decide +kernel))
theorem lk_X0_87 : Lk RX0 87 yX0_targetOf := Or.inl (gd_of (List.mem_of_getElem? (i := 605) (by decide +kernel)) (by decide +kernel))
theorem lk_X0_90 : Lk RX0 90 yX0_follow := Or.inl (gd_of (List.mem_of_getElem? (i := 609) (by decide +kernel)) (by decide +kernel))
theorem lk_X0_93 : Lk RX0 93 yX7_ownLevel := Or.inr (ne_of (List.mem_of_getElem? (i := 597) (by decide +kernel)) rfl)
theorem fl_X0_96 : Fl RX0 96 6 4 := ⟨RX6, TX6, 5, tyX6, rfl, by decide, in_X6, tyX6_ok, nmX6, rfl, Or.inr (ne_of (List.mem_of_getElem? (i := 155) (by decide +kernel)) rfl)⟩
theorem fl_X0_99 : Fl RX0 99 7 4 := ⟨RX7, TX7, 19, tyX7, rfl, by decide, in_X7, tyX7_ok, nmX7, rfl, Or.inr (ne_of (List.mem_of_getElem? (i := 221) (by decide +kernel)) rfl)⟩
theorem lk_X0_102 : Lk RX0 102 yX0_vanish := Or.inl (gd_of (List.mem_of_getElem? (i := 638) (by decide +kernel)) (by decide +kernel))
theorem lk_X0_105 : Lk RX0 105 yX0_serveFreed := Or.inl (gd_of (List.mem_of_getElem? (i := 642) (by decide +kernel)) (by decide +kernel))
theorem fl_X0_108 : Fl RX0 108 6 0 := ⟨RX6, TX6, 5, tyX6, rfl, by decide, in_X6, tyX6_ok, nmX6, rfl, Or.inr (ne_of (List.mem_of_getElem? (i := 140) (by decide +kernel)) rfl)⟩
theorem fl_X0_111 : Fl RX0 111 7 13 := ⟨RX7, TX7, 19, tyX7, rfl, by decide, in_X7, tyX7_ok, nmX7, rfl, Or.inr (ne_of (List.mem_of_getElem? (i := 246) (by decide +kernel)) rfl)⟩
theorem fl_X0_114 : Fl RX0 114 7 11 := ⟨RX7, TX7, 19, tyX7, rfl, by decide, in_X7, tyX7_ok, nmX7, rfl, Or.inr (ne_of (List.mem_of_getElem? (i := 240) (by decide +kernel)) rfl)⟩
theorem fl_X0_117 : Fl RX0 117 7 14 := ⟨RX7, TX7, 19, tyX7, rfl, by decide, in_X7, tyX7_ok, nmX7, rfl, Or.inr (ne_of (List.mem_of_getElem? (i := 249) (by decide +kernel)) rfl)⟩
theorem fl_X0_120 : Fl RX0 120 7 5 := ⟨RX7, TX7, 19, tyX7, rfl, by decide, in_X7, tyX7_ok, nmX7, rfl, Or.inr (ne_of (List.mem_of_getElem? (i := 224) (by decide +kernel)) rfl)⟩
theorem lk_X0_123 : Lk RX0 123 yX0_ask := Or.inl (gd_of (List.mem_of_getElem? (i := 613) (by decide +kernel)) (by decide +kernel))
theorem lk_X0_126 : Lk RX0 126 yX0_move := Or.inl (gd_of (List.mem_of_getElem? (i := 617) (by decide +kernel)) (by decide +kernel))
theorem lk_X0_129 : Lk RX0 129 yX7_waiting := Or.inr (ne_of (List.mem_of_getElem? (i := 630) (by decide +kernel)) rfl)
theorem fl_X0_132 : Fl RX0 132 6 3 := ⟨RX6, TX6, 5, tyX6, rfl, by decide, in_X6, tyX6_ok, nmX6, rfl, Or.inr (ne_of (List.mem_of_getElem? (i := 152) (by decide +kernel)) rfl)⟩
theorem lk_X0_135 : Lk RX0 135 yX7_beginWaiting := Or.inr (ne_of (List.mem_of_getElem? (i := 634) (by decide +kernel)) rfl)
theorem lk_X0_138 : Lk RX0 138 yX0_noteFreed := Or.inl (gd_of (List.mem_of_getElem? (i := 626) (by decide +kernel)) (by decide +kernel))
theorem fl_X0_141 : Fl RX0 141 7 12 := ⟨RX7, TX7, 19, tyX7, rfl, by decide, in_X7, tyX7_ok, nmX7, rfl, Or.inr (ne_of (List.mem_of_getElem? (i := 244) (by decide +kernel)) rfl)⟩
theorem fl_X0_144 : Fl RX0 144 7 10 := ⟨RX7, TX7, 19, tyX7, rfl, by decide, in_X7, tyX7_ok, nmX7, rfl, Or.inr (ne_of (List.mem_of_getElem? (i := 238) (by decide +kernel)) rfl)⟩
theorem fl_X0_147 : Fl RX0 147 7 9 := ⟨RX7, TX7, 19, tyX7, rfl, by decide, in_X7, tyX7_ok, nmX7, rfl, Or.inr (ne_of (List.mem_of_getElem? (i := 235) (by decide +kernel)) rfl)⟩
theorem lk_X0_150 : Lk RX0 150 yX7_clearStreaks := Or.inr (ne_of (List.mem_of_getElem? (i := 621) (by decide +kernel)) rfl)
theorem lk_X0_153 : Lk RX0 153 yX7_countPair := Or.inr (ne_of (List.mem_of_getElem? (i := 622) (by decide +kernel)) rfl)
theorem fl_X0_156 : Fl RX0 156 0 4 := ⟨RX0, TX0, 5, tyX0, rfl, by decide, in_X0, tyX0_ok, nmX0, rfl, Or.inl (gd_of (List.mem_of_getElem? (i := 308) (by decide +kernel)) (by decide +kernel))⟩
theorem lk_X0_159 : Lk RX0 159 yX0_waiter := Or.inl (gd_of (List.mem_of_getElem? (i := 646) (by decide +kernel)) (by decide +kernel))
theorem lk_X0_162 : Lk RX0 162 yX0_aheadOf := Or.inl (gd_of (List.mem_of_getElem? (i := 650) (by decide +kernel)) (by decide +kernel))
theorem lk_X0_165 : Lk RX0 165 yX0_isBefore := Or.inl (gd_of (List.mem_of_getElem? (i := 654) (by decide +kernel)) (by decide +kernel))
theorem lk_X0_169 : Lk RX0 169 yX0_waitsLonger := Or.inl (gd_of (List.mem_of_getElem? (i := 658) (by decide +kernel)) (by decide +kernel))
theorem fl_X0_172 : Fl RX0 172 7 6 := ⟨RX7, TX7, 19, tyX7, rfl, by decide, in_X7, tyX7_ok, nmX7, rfl, Or.inr (ne_of (List.mem_of_getElem? (i := 227) (by decide +kernel)) rfl)⟩
-- GuardCells$History 3 ('java/lang/Object', '<init>', '()V')
theorem fl_X1_11 : Fl RX1 11 1 0 := ⟨RX1, TX1, 3, tyX1, rfl, by decide, in_X1, tyX1_ok, nmX1, rfl, Or.inl (gd_of (List.mem_of_getElem? (i := 329) (by decide +kernel)) (by decide +kernel))⟩
theorem lk_X1_17 : Lk RX1 17 yX7_init := Or.inr (ne_of (List.mem_of_getElem? (i := 328) (by decide +kernel)) rfl)
theorem fl_X1_18 : Fl RX1 18 1 2 := ⟨RX1, TX1, 3, tyX1, rfl, by decide, in_X1, tyX1_ok, nmX1, rfl, Or.inl (gd_of (List.mem_of_getElem? (i := 331) (by decide +kernel)) (by decide +kernel))⟩
theorem fl_X1_22 : Fl RX1 22 1 1 := ⟨RX1, TX1, 3, tyX1, rfl, by decide, in_X1, tyX1_ok, nmX1, rfl, Or.inl (gd_of (List.mem_of_getElem? (i := 330) (by decide +kernel)) (by decide +kernel))⟩
theorem lk_X1_25 : Lk RX1 25 yX7_copyFrom := Or.inr (ne_of (List.mem_of_getElem? (i := 520) (by decide +kernel)) rfl)
theorem lm_X1_29 : Cond.methodLink RX1 29 Lib.Math.min.name ∈ lw_good := gd_of (List.mem_of_getElem? (i := 524) (by decide +kernel)) (by decide +kernel)
-- GuardCells$Images 3 ('java/lang/Object', '<init>', '()V')
theorem fl_X2_11 : Fl RX2 11 2 0 := ⟨RX2, TX2, 2, tyX2, rfl, by decide, in_X2, tyX2_ok, nmX2, rfl, Or.inl (gd_of (List.mem_of_getElem? (i := 348) (by decide +kernel)) (by decide +kernel))⟩
theorem fl_X2_17 : Fl RX2 17 2 1 := ⟨RX2, TX2, 2, tyX2, rfl, by decide, in_X2, tyX2_ok, nmX2, rfl, Or.inl (gd_of (List.mem_of_getElem? (i := 349) (by decide +kernel)) (by decide +kernel))⟩
theorem lk_X2_21 : Lk RX2 21 yX7_init := Or.inr (ne_of (List.mem_of_getElem? (i := 347) (by decide +kernel)) rfl)
theorem lk_X2_22 : Lk RX2 22 yX7_copyFrom := Or.inr (ne_of (List.mem_of_getElem? (i := 785) (by decide +kernel)) rfl)
-- GuardCells$LongRun 3 ('java/lang/Object', '<init>', '()V')
theorem fl_X3_9 : Fl RX3 9 3 0 := ⟨RX3, TX3, 3, tyX3, rfl, by decide, in_X3, tyX3_ok, nmX3, rfl, Or.inl (gd_of (List.mem_of_getElem? (i := 362) (by decide +kernel)) (by decide +kernel))⟩
theorem lm_X3_15 : Cond.methodLink RX3 15 Lib.Math.min.name ∈ lw_good := gd_of (List.mem_of_getElem? (i := 724) (by decide +kernel)) (by decide +kernel)
theorem fl_X3_21 : Fl RX3 21 3 1 := ⟨RX3, TX3, 3, tyX3, rfl, by decide, in_X3, tyX3_ok, nmX3, rfl, Or.inl (gd_of (List.mem_of_getElem? (i := 363) (by decide +kernel)) (by decide +kernel))⟩
theorem fl_X3_25 : Fl RX3 25 3 2 := ⟨RX3, TX3, 3, tyX3, rfl, by decide, in_X3, tyX3_ok, nmX3, rfl, Or.inl (gd_of (List.mem_of_getElem? (i := 364) (by decide +kernel)) (by decide +kernel))⟩
theorem lk_X3_28 : Lk RX3 28 yX3_chanceWith := Or.inl (gd_of (List.mem_of_getElem? (i := 725) (by decide +kernel)) (by decide +kernel))
theorem lk_X3_32 : Lk RX3 32 yX8_chance := Or.inr (ne_of (List.mem_of_getElem? (i := 729) (by decide +kernel)) rfl)
theorem kc_X3_35 : Cond.constantLong RX3 35 (10) ∈ lw_good := gd_of (List.mem_of_getElem? (i := 738) (by decide +kernel)) (by decide +kernel)
theorem lk_X3_37 : Lk RX3 37 yX3_allWeights := Or.inl (gd_of (List.mem_of_getElem? (i := 739) (by decide +kernel)) (by decide +kernel))
theorem lk_X3_41 : Lk RX3 41 yX3_upper := Or.inl (gd_of (List.mem_of_getElem? (i := 754) (by decide +kernel)) (by decide +kernel))
theorem lk_X3_45 : Lk RX3 45 yX3_lower := Or.inl (gd_of (List.mem_of_getElem? (i := 755) (by decide +kernel)) (by decide +kernel))
-- GuardCells$Reader 3 ('java/lang/Object', '<init>', '()V')
theorem fl_X4_9 : Fl RX4 9 4 0 := ⟨RX4, TX4, 8, tyX4, rfl, by decide, in_X4, tyX4_ok, nmX4, rfl, Or.inl (gd_of (List.mem_of_getElem? (i := 169) (by decide +kernel)) (by decide +kernel))⟩
theorem lk_X4_17 : Lk RX4 17 yX6_init := Or.inr (ne_of (List.mem_of_getElem? (i := 125) (by decide +kernel)) rfl)
theorem fl_X4_18 : Fl RX4 18 4 2 := ⟨RX4, TX4, 8, tyX4, rfl, by decide, in_X4, tyX4_ok, nmX4, rfl, Or.inl (gd_of (List.mem_of_getElem? (i := 172) (by decide +kernel)) (by decide +kernel))⟩
theorem fl_X4_22 : Fl RX4 22 4 3 := ⟨RX4, TX4, 8, tyX4, rfl, by decide, in_X4, tyX4_ok, nmX4, rfl, Or.inl (gd_of (List.mem_of_getElem? (i := 174) (by decide +kernel)) (by decide +kernel))⟩
theorem fl_X4_25 : Fl RX4 25 4 1 := ⟨RX4, TX4, 8, tyX4, rfl, by decide, in_X4, tyX4_ok, nmX4, rfl, Or.inl (gd_of (List.mem_of_getElem? (i := 170) (by decide +kernel)) (by decide +kernel))⟩
theorem lk_X4_29 : Lk RX4 29 yX6_begin := Or.inr (ne_of (List.mem_of_getElem? (i := 438) (by decide +kernel)) rfl)
theorem lk_X4_32 : Lk RX4 32 yJ7_fill_53178 := Or.inl (gd_of (List.mem_of_getElem? (i := 439) (by decide +kernel)) (by decide +kernel))
theorem fl_X4_38 : Fl RX4 38 4 4 := ⟨RX4, TX4, 8, tyX4, rfl, by decide, in_X4, tyX4_ok, nmX4, rfl, Or.inl (gd_of (List.mem_of_getElem? (i := 175) (by decide +kernel)) (by decide +kernel))⟩
theorem lk_X4_41 : Lk RX4 41 yX4_nextToken := Or.inl (gd_of (List.mem_of_getElem? (i := 440) (by decide +kernel)) (by decide +kernel))
theorem fl_X4_44 : Fl RX4 44 4 6 := ⟨RX4, TX4, 8, tyX4, rfl, by decide, in_X4, tyX4_ok, nmX4, rfl, Or.inl (gd_of (List.mem_of_getElem? (i := 177) (by decide +kernel)) (by decide +kernel))⟩
theorem fl_X4_47 : Fl RX4 47 4 7 := ⟨RX4, TX4, 8, tyX4, rfl, by decide, in_X4, tyX4_ok, nmX4, rfl, Or.inl (gd_of (List.mem_of_getElem? (i := 178) (by decide +kernel)) (by decide +kernel))⟩
theorem lk_X4_50 : Lk RX4 50 yX4_readCell := Or.inl (gd_of (List.mem_of_getElem? (i := 462) (by decide +kernel)) (by decide +kernel))
theorem lk_X4_54 : Lk RX4 54 yX4_settingOf := Or.inl (gd_of (List.mem_of_getElem? (i := 457) (by decide +kernel)) (by decide +kernel))
theorem lk_X4_58 : Lk RX4 58 yX4_readSetting := Or.inl (gd_of (List.mem_of_getElem? (i := 479) (by decide +kernel)) (by decide +kernel))
theorem fl_X4_62 : Fl RX4 62 4 5 := ⟨RX4, TX4, 8, tyX4, rfl, by decide, in_X4, tyX4_ok, nmX4, rfl, Or.inl (gd_of (List.mem_of_getElem? (i := 176) (by decide +kernel)) (by decide +kernel))⟩
theorem fl_X4_65 : Fl RX4 65 6 0 := ⟨RX6, TX6, 5, tyX6, rfl, by decide, in_X6, tyX6_ok, nmX6, rfl, Or.inr (ne_of (List.mem_of_getElem? (i := 139) (by decide +kernel)) rfl)⟩
theorem lk_X4_68 : Lk RX4 68 yX4_readNumber := Or.inl (gd_of (List.mem_of_getElem? (i := 466) (by decide +kernel)) (by decide +kernel))
theorem fl_X4_72 : Fl RX4 72 6 1 := ⟨RX6, TX6, 5, tyX6, rfl, by decide, in_X6, tyX6_ok, nmX6, rfl, Or.inr (ne_of (List.mem_of_getElem? (i := 144) (by decide +kernel)) rfl)⟩
theorem lk_X4_75 : Lk RX4 75 yX6_mostGuard := Or.inr (ne_of (List.mem_of_getElem? (i := 471) (by decide +kernel)) rfl)
theorem fl_X4_78 : Fl RX4 78 6 2 := ⟨RX6, TX6, 5, tyX6, rfl, by decide, in_X6, tyX6_ok, nmX6, rfl, Or.inr (ne_of (List.mem_of_getElem? (i := 148) (by decide +kernel)) rfl)⟩
theorem fl_X4_81 : Fl RX4 81 6 3 := ⟨RX6, TX6, 5, tyX6, rfl, by decide, in_X6, tyX6_ok, nmX6, rfl, Or.inr (ne_of (List.mem_of_getElem? (i := 150) (by decide +kernel)) rfl)⟩
theorem lk_X4_84 : Lk RX4 84 yX4_readStop := Or.inl (gd_of (List.mem_of_getElem? (i := 475) (by decide +kernel)) (by decide +kernel))
theorem fs_X4_87 : Cond.fieldLinkNest RX4 87 RX8 "SETTING_LEAST" "[I" RX8 ∈ lw_nest := ne_of (List.mem_of_getElem? (i := 483) (by decide +kernel)) rfl
theorem fs_X4_90 : Cond.fieldLinkNest RX4 90 RX8 "SETTING_MOST" "[I" RX8 ∈ lw_nest := ne_of (List.mem_of_getElem? (i := 485) (by decide +kernel)) rfl
theorem fl_X4_93 : Fl RX4 93 6 4 := ⟨RX6, TX6, 5, tyX6, rfl, by decide, in_X6, tyX6_ok, nmX6, rfl, Or.inr (ne_of (List.mem_of_getElem? (i := 154) (by decide +kernel)) rfl)⟩
theorem lk_X4_96 : Lk RX4 96 yX8_within := Or.inr (ne_of (List.mem_of_getElem? (i := 470) (by decide +kernel)) rfl)
theorem lk_X4_100 : Lk RX4 100 yX4_isFigure := Or.inl (gd_of (List.mem_of_getElem? (i := 444) (by decide +kernel)) (by decide +kernel))
theorem lk_X4_103 : Lk RX4 103 yX4_scanNumber := Or.inl (gd_of (List.mem_of_getElem? (i := 447) (by decide +kernel)) (by decide +kernel))
theorem lk_X4_106 : Lk RX4 106 yX4_kindOf := Or.inl (gd_of (List.mem_of_getElem? (i := 454) (by decide +kernel)) (by decide +kernel))
theorem lm_X4_109 : Cond.methodLink RX4 109 Lib.Math.min.name ∈ lw_good := gd_of (List.mem_of_getElem? (i := 451) (by decide +kernel)) (by decide +kernel)
theorem fs_X4_115 : Cond.fieldLinkNest RX4 115 RX8 "SETTING_LETTER" "[C" RX8 ∈ lw_nest := ne_of (List.mem_of_getElem? (i := 460) (by decide +kernel)) rfl
-- GuardCells$Sightings 3 ('java/lang/Object', '<init>', '()V')
theorem fl_X5_9 : Fl RX5 9 5 1 := ⟨RX5, TX5, 3, tyX5, rfl, by decide, in_X5, tyX5_ok, nmX5, rfl, Or.inl (gd_of (List.mem_of_getElem? (i := 381) (by decide +kernel)) (by decide +kernel))⟩
theorem fl_X5_15 : Fl RX5 15 5 2 := ⟨RX5, TX5, 3, tyX5, rfl, by decide, in_X5, tyX5_ok, nmX5, rfl, Or.inl (gd_of (List.mem_of_getElem? (i := 382) (by decide +kernel)) (by decide +kernel))⟩
theorem fl_X5_18 : Fl RX5 18 5 0 := ⟨RX5, TX5, 3, tyX5, rfl, by decide, in_X5, tyX5_ok, nmX5, rfl, Or.inl (gd_of (List.mem_of_getElem? (i := 379) (by decide +kernel)) (by decide +kernel))⟩
theorem lk_X5_22 : Lk RX5 22 yX8_chance := Or.inr (ne_of (List.mem_of_getElem? (i := 776) (by decide +kernel)) rfl)
-- GuardCells$Told 3 ('java/lang/Object', '<init>', '()V')
theorem fl_X6_9 : Fl RX6 9 6 1 := ⟨RX6, TX6, 5, tyX6, rfl, by decide, in_X6, tyX6_ok, nmX6, rfl, Or.inl (gd_of (List.mem_of_getElem? (i := 142) (by decide +kernel)) (by decide +kernel))⟩
theorem fl_X6_15 : Fl RX6 15 6 2 := ⟨RX6, TX6, 5, tyX6, rfl, by decide, in_X6, tyX6_ok, nmX6, rfl, Or.inl (gd_of (List.mem_of_getElem? (i := 146) (by decide +kernel)) (by decide +kernel))⟩
theorem fl_X6_18 : Fl RX6 18 6 3 := ⟨RX6, TX6, 5, tyX6, rfl, by decide, in_X6, tyX6_ok, nmX6, rfl, Or.inl (gd_of (List.mem_of_getElem? (i := 149) (by decide +kernel)) (by decide +kernel))⟩
theorem fl_X6_21 : Fl RX6 21 6 4 := ⟨RX6, TX6, 5, tyX6, rfl, by decide, in_X6, tyX6_ok, nmX6, rfl, Or.inl (gd_of (List.mem_of_getElem? (i := 153) (by decide +kernel)) (by decide +kernel))⟩
theorem lk_X6_24 : Lk RX6 24 yX6_begin := Or.inl (gd_of (List.mem_of_getElem? (i := 129) (by decide +kernel)) (by decide +kernel))
theorem fl_X6_27 : Fl RX6 27 6 0 := ⟨RX6, TX6, 5, tyX6, rfl, by decide, in_X6, tyX6_ok, nmX6, rfl, Or.inl (gd_of (List.mem_of_getElem? (i := 138) (by decide +kernel)) (by decide +kernel))⟩
theorem fs_X6_31 : Cond.fieldLinkNest RX6 31 RX8 "SETTING_FIRST" "[I" RX8 ∈ lw_nest := ne_of (List.mem_of_getElem? (i := 133) (by decide +kernel)) rfl
theorem lm_X6_34 : Cond.methodLink RX6 34 arraycopyName ∈ lw_good := gd_of (List.mem_of_getElem? (i := 135) (by decide +kernel)) (by decide +kernel)
-- GuardCells$Traffic 3 ('java/lang/Object', '<init>', '()V')
theorem fl_X7_9 : Fl RX7 9 7 2 := ⟨RX7, TX7, 19, tyX7, rfl, by decide, in_X7, tyX7_ok, nmX7, rfl, Or.inl (gd_of (List.mem_of_getElem? (i := 215) (by decide +kernel)) (by decide +kernel))⟩
theorem fl_X7_15 : Fl RX7 15 7 3 := ⟨RX7, TX7, 19, tyX7, rfl, by decide, in_X7, tyX7_ok, nmX7, rfl, Or.inl (gd_of (List.mem_of_getElem? (i := 218) (by decide +kernel)) (by decide +kernel))⟩
theorem fl_X7_18 : Fl RX7 18 7 4 := ⟨RX7, TX7, 19, tyX7, rfl, by decide, in_X7, tyX7_ok, nmX7, rfl, Or.inl (gd_of (List.mem_of_getElem? (i := 220) (by decide +kernel)) (by decide +kernel))⟩
theorem fl_X7_21 : Fl RX7 21 7 5 := ⟨RX7, TX7, 19, tyX7, rfl, by decide, in_X7, tyX7_ok, nmX7, rfl, Or.inl (gd_of (List.mem_of_getElem? (i := 223) (by decide +kernel)) (by decide +kernel))⟩
theorem fl_X7_24 : Fl RX7 24 7 6 := ⟨RX7, TX7, 19, tyX7, rfl, by decide, in_X7, tyX7_ok, nmX7, rfl, Or.inl (gd_of (List.mem_of_getElem? (i := 226) (by decide +kernel)) (by decide +kernel))⟩
theorem fl_X7_27 : Fl RX7 27 7 7 := ⟨RX7, TX7, 19, tyX7, rfl, by decide, in_X7, tyX7_ok, nmX7, rfl, Or.inl (gd_of (List.mem_of_getElem? (i := 228) (by decide +kernel)) (by decide +kernel))⟩
theorem fl_X7_30 : Fl RX7 30 7 8 := ⟨RX7, TX7, 19, tyX7, rfl, by decide, in_X7, tyX7_ok, nmX7, rfl, Or.inl (gd_of (List.mem_of_getElem? (i := 231) (by decide +kernel)) (by decide +kernel))⟩
theorem fl_X7_33 : Fl RX7 33 7 9 := ⟨RX7, TX7, 19, tyX7, rfl, by decide, in_X7, tyX7_ok, nmX7, rfl, Or.inl (gd_of (List.mem_of_getElem? (i := 233) (by decide +kernel)) (by decide +kernel))⟩
theorem fl_X7_36 : Fl RX7 36 7 10 := ⟨RX7, TX7, 19, tyX7, rfl, by decide, in_X7, tyX7_ok, nmX7, rfl, Or.inl (gd_of (List.mem_of_getElem? (i := 236) (by decide +kernel)) (by decide +kernel))⟩
theorem fl_X7_39 : Fl RX7 39 7 11 := ⟨RX7, TX7, 19, tyX7, rfl, by decide, in_X7, tyX7_ok, nmX7, rfl, Or.inl (gd_of (List.mem_of_getElem? (i := 239) (by decide +kernel)) (by decide +kernel))⟩
theorem fl_X7_42 : Fl RX7 42 7 12 := ⟨RX7, TX7, 19, tyX7, rfl, by decide, in_X7, tyX7_ok, nmX7, rfl, Or.inl (gd_of (List.mem_of_getElem? (i := 242) (by decide +kernel)) (by decide +kernel))⟩
theorem fl_X7_45 : Fl RX7 45 7 13 := ⟨RX7, TX7, 19, tyX7, rfl, by decide, in_X7, tyX7_ok, nmX7, rfl, Or.inl (gd_of (List.mem_of_getElem? (i := 245) (by decide +kernel)) (by decide +kernel))⟩
theorem fl_X7_48 : Fl RX7 48 7 14 := ⟨RX7, TX7, 19, tyX7, rfl, by decide, in_X7, tyX7_ok, nmX7, rfl, Or.inl (gd_of (List.mem_of_getElem? (i := 248) (by decide +kernel)) (by decide +kernel))⟩
theorem fl_X7_51 : Fl RX7 51 7 16 := ⟨RX7, TX7, 19, tyX7, rfl, by decide, in_X7, tyX7_ok, nmX7, rfl, Or.inl (gd_of (List.mem_of_getElem? (i := 253) (by decide +kernel)) (by decide +kernel))⟩
theorem fl_X7_54 : Fl RX7 54 7 17 := ⟨RX7, TX7, 19, tyX7, rfl, by decide, in_X7, tyX7_ok, nmX7, rfl, Or.inl (gd_of (List.mem_of_getElem? (i := 255) (by decide +kernel)) (by decide +kernel))⟩
theorem fl_X7_57 : Fl RX7 57 7 18 := ⟨RX7, TX7, 19, tyX7, rfl, by decide, in_X7, tyX7_ok, nmX7, rfl, Or.inl (gd_of (List.mem_of_getElem? (i := 257) (by decide +kernel)) (by decide +kernel))⟩
theorem lk_X7_60 : Lk RX7 60 yX7_clearCalls := Or.inl (gd_of (List.mem_of_getElem? (i := 204) (by decide +kernel)) (by decide +kernel))
theorem fl_X7_63 : Fl RX7 63 7 0 := ⟨RX7, TX7, 19, tyX7, rfl, by decide, in_X7, tyX7_ok, nmX7, rfl, Or.inl (gd_of (List.mem_of_getElem? (i := 211) (by decide +kernel)) (by decide +kernel))⟩
theorem fl_X7_67 : Fl RX7 67 7 1 := ⟨RX7, TX7, 19, tyX7, rfl, by decide, in_X7, tyX7_ok, nmX7, rfl, Or.inl (gd_of (List.mem_of_getElem? (i := 214) (by decide +kernel)) (by decide +kernel))⟩
theorem fl_X7_70 : Fl RX7 70 7 15 := ⟨RX7, TX7, 19, tyX7, rfl, by decide, in_X7, tyX7_ok, nmX7, rfl, Or.inl (gd_of (List.mem_of_getElem? (i := 251) (by decide +kernel)) (by decide +kernel))⟩
theorem fl_X7_73 : Fl RX7 73 6 2 := ⟨RX6, TX6, 5, tyX6, rfl, by decide, in_X6, tyX6_ok, nmX6, rfl, Or.inr (ne_of (List.mem_of_getElem? (i := 147) (by decide +kernel)) rfl)⟩
theorem lm_X7_76 : Cond.methodLink RX7 76 arraycopyName ∈ lw_good := gd_of (List.mem_of_getElem? (i := 495) (by decide +kernel)) (by decide +kernel)
theorem lk_X7_82 : Lk RX7 82 yJ7_fill_53178 := Or.inl (gd_of (List.mem_of_getElem? (i := 208) (by decide +kernel)) (by decide +kernel))
theorem lk_X7_88 : Lk RX7 88 yX7_callsOf := Or.inl (gd_of (List.mem_of_getElem? (i := 546) (by decide +kernel)) (by decide +kernel))
theorem lk_X7_92 : Lk RX7 92 yX7_clearStreaks := Or.inl (gd_of (List.mem_of_getElem? (i := 569) (by decide +kernel)) (by decide +kernel))
theorem lk_L_9 : Lk RL 9 yX8_init := Or.inl (gd_of (List.mem_of_getElem? (i := 111) (by decide +kernel)) (by decide +kernel))
theorem lk_L_12 : Lk RL 12 yX9_init := Or.inl (gd_of (List.mem_of_getElem? (i := 804) (by decide +kernel)) (by decide +kernel))
theorem lk_L_13 : Lk RL 13 yX8_type := Or.inl (gd_of (List.mem_of_getElem? (i := 415) (by decide +kernel)) (by decide +kernel))
theorem lk_L_17 : Lk RL 17 yX9_type := Or.inl (gd_of (List.mem_of_getElem? (i := 893) (by decide +kernel)) (by decide +kernel))
theorem lk_L_18 : Lk RL 18 yX8_clear := Or.inl (gd_of (List.mem_of_getElem? (i := 426) (by decide +kernel)) (by decide +kernel))
theorem lk_L_22 : Lk RL 22 yX9_clear := Or.inl (gd_of (List.mem_of_getElem? (i := 901) (by decide +kernel)) (by decide +kernel))
theorem lk_L_23 : Lk RL 23 yX8_tells := Or.inl (gd_of (List.mem_of_getElem? (i := 430) (by decide +kernel)) (by decide +kernel))
theorem lk_L_26 : Lk RL 26 yX9_tells := Or.inl (gd_of (List.mem_of_getElem? (i := 905) (by decide +kernel)) (by decide +kernel))
theorem lk_L_27 : Lk RL 27 yX8_offers := Or.inl (gd_of (List.mem_of_getElem? (i := 504) (by decide +kernel)) (by decide +kernel))
theorem lk_L_31 : Lk RL 31 yX9_offers := Or.inl (gd_of (List.mem_of_getElem? (i := 947) (by decide +kernel)) (by decide +kernel))
theorem lk_L_32 : Lk RL 32 yX8_hears := Or.inl (gd_of (List.mem_of_getElem? (i := 573) (by decide +kernel)) (by decide +kernel))
theorem lk_L_36 : Lk RL 36 yX9_hears := Or.inl (gd_of (List.mem_of_getElem? (i := 1003) (by decide +kernel)) (by decide +kernel))
theorem lk_L_37 : Lk RL 37 yX8_ends := Or.inl (gd_of (List.mem_of_getElem? (i := 662) (by decide +kernel)) (by decide +kernel))
theorem lk_L_40 : Lk RL 40 yX9_ends := Or.inl (gd_of (List.mem_of_getElem? (i := 1064) (by decide +kernel)) (by decide +kernel))
theorem lk_L_41 : Lk RL 41 yX8_guards := Or.inl (gd_of (List.mem_of_getElem? (i := 670) (by decide +kernel)) (by decide +kernel))
theorem lk_L_44 : Lk RL 44 yX9_guards := Or.inl (gd_of (List.mem_of_getElem? (i := 1068) (by decide +kernel)) (by decide +kernel))
theorem lk_L_45 : Lk RL 45 yX8_seeds := Or.inl (gd_of (List.mem_of_getElem? (i := 675) (by decide +kernel)) (by decide +kernel))
theorem lk_L_48 : Lk RL 48 yX9_seeds := Or.inl (gd_of (List.mem_of_getElem? (i := 1072) (by decide +kernel)) (by decide +kernel))
theorem lk_L_49 : Lk RL 49 yX8_undo := Or.inl (gd_of (List.mem_of_getElem? (i := 679) (by decide +kernel)) (by decide +kernel))
theorem lk_L_52 : Lk RL 52 yX9_undo := Or.inl (gd_of (List.mem_of_getElem? (i := 1076) (by decide +kernel)) (by decide +kernel))
theorem lk_L_53 : Lk RL 53 yX8_cell := Or.inl (gd_of (List.mem_of_getElem? (i := 687) (by decide +kernel)) (by decide +kernel))
theorem lk_L_56 : Lk RL 56 yX9_cell := Or.inl (gd_of (List.mem_of_getElem? (i := 1080) (by decide +kernel)) (by decide +kernel))
theorem lk_L_57 : Lk RL 57 yX8_call := Or.inl (gd_of (List.mem_of_getElem? (i := 694) (by decide +kernel)) (by decide +kernel))
theorem lk_L_60 : Lk RL 60 yX9_call := Or.inl (gd_of (List.mem_of_getElem? (i := 1084) (by decide +kernel)) (by decide +kernel))
theorem lk_L_61 : Lk RL 61 yX8_level := Or.inl (gd_of (List.mem_of_getElem? (i := 699) (by decide +kernel)) (by decide +kernel))
theorem lk_L_65 : Lk RL 65 yX9_level := Or.inl (gd_of (List.mem_of_getElem? (i := 1090) (by decide +kernel)) (by decide +kernel))
theorem lk_L_66 : Lk RL 66 yX8_queued := Or.inl (gd_of (List.mem_of_getElem? (i := 703) (by decide +kernel)) (by decide +kernel))
theorem lk_L_69 : Lk RL 69 yX9_queued := Or.inl (gd_of (List.mem_of_getElem? (i := 1094) (by decide +kernel)) (by decide +kernel))
theorem lk_L_70 : Lk RL 70 yX8_pair := Or.inl (gd_of (List.mem_of_getElem? (i := 708) (by decide +kernel)) (by decide +kernel))
theorem lk_L_73 : Lk RL 73 yX9_pair := Or.inl (gd_of (List.mem_of_getElem? (i := 1098) (by decide +kernel)) (by decide +kernel))
theorem lk_L_74 : Lk RL 74 yX8_lost := Or.inl (gd_of (List.mem_of_getElem? (i := 712) (by decide +kernel)) (by decide +kernel))
theorem lk_L_78 : Lk RL 78 yX9_lost := Or.inl (gd_of (List.mem_of_getElem? (i := 1103) (by decide +kernel)) (by decide +kernel))
theorem lk_L_79 : Lk RL 79 yX8_best := Or.inl (gd_of (List.mem_of_getElem? (i := 746) (by decide +kernel)) (by decide +kernel))
theorem lk_L_82 : Lk RL 82 yX9_best := Or.inl (gd_of (List.mem_of_getElem? (i := 1120) (by decide +kernel)) (by decide +kernel))
theorem lk_L_83 : Lk RL 83 yX8_sees := Or.inl (gd_of (List.mem_of_getElem? (i := 756) (by decide +kernel)) (by decide +kernel))
theorem lk_L_86 : Lk RL 86 yX9_sees := Or.inl (gd_of (List.mem_of_getElem? (i := 1125) (by decide +kernel)) (by decide +kernel))
theorem lk_L_87 : Lk RL 87 yX8_forget := Or.inl (gd_of (List.mem_of_getElem? (i := 764) (by decide +kernel)) (by decide +kernel))
theorem lk_L_90 : Lk RL 90 yX9_forget := Or.inl (gd_of (List.mem_of_getElem? (i := 1129) (by decide +kernel)) (by decide +kernel))
theorem lk_L_91 : Lk RL 91 yX8_unseen := Or.inl (gd_of (List.mem_of_getElem? (i := 768) (by decide +kernel)) (by decide +kernel))
theorem lk_L_94 : Lk RL 94 yX9_unseen := Or.inl (gd_of (List.mem_of_getElem? (i := 1133) (by decide +kernel)) (by decide +kernel))
theorem lk_L_95 : Lk RL 95 yX8_keep := Or.inl (gd_of (List.mem_of_getElem? (i := 777) (by decide +kernel)) (by decide +kernel))
theorem lk_L_98 : Lk RL 98 yX9_keep := Or.inl (gd_of (List.mem_of_getElem? (i := 1141) (by decide +kernel)) (by decide +kernel))
theorem lk_L_99 : Lk RL 99 yX8_back := Or.inl (gd_of (List.mem_of_getElem? (i := 790) (by decide +kernel)) (by decide +kernel))
theorem lk_L_102 : Lk RL 102 yX9_back := Or.inl (gd_of (List.mem_of_getElem? (i := 1145) (by decide +kernel)) (by decide +kernel))
theorem lk_L_103 : Lk RL 103 yX8_count := Or.inl (gd_of (List.mem_of_getElem? (i := 798) (by decide +kernel)) (by decide +kernel))
theorem lk_L_106 : Lk RL 106 yX9_count := Or.inl (gd_of (List.mem_of_getElem? (i := 1149) (by decide +kernel)) (by decide +kernel))
-- GuardCellsModel 1 ('java/lang/Object', '<init>', '()V')
theorem fl_X9_7 : Fl RX9 7 9 0 := ⟨RX9, TX9, 28, tyX9, rfl, by decide, in_X9, tyX9_ok, nmX9, rfl, Or.inl (gd_of (List.mem_of_getElem? (i := 808) (by decide +kernel)) (by decide +kernel))⟩
theorem fl_X9_13 : Fl RX9 13 9 1 := ⟨RX9, TX9, 28, tyX9, rfl, by decide, in_X9, tyX9_ok, nmX9, rfl, Or.inl (gd_of (List.mem_of_getElem? (i := 809) (by decide +kernel)) (by decide +kernel))⟩
theorem fl_X9_17 : Fl RX9 17 9 3 := ⟨RX9, TX9, 28, tyX9, rfl, by decide, in_X9, tyX9_ok, nmX9, rfl, Or.inl (gd_of (List.mem_of_getElem? (i := 811) (by decide +kernel)) (by decide +kernel))⟩
theorem fl_X9_20 : Fl RX9 20 9 4 := ⟨RX9, TX9, 28, tyX9, rfl, by decide, in_X9, tyX9_ok, nmX9, rfl, Or.inl (gd_of (List.mem_of_getElem? (i := 812) (by decide +kernel)) (by decide +kernel))⟩
theorem fl_X9_23 : Fl RX9 23 9 6 := ⟨RX9, TX9, 28, tyX9, rfl, by decide, in_X9, tyX9_ok, nmX9, rfl, Or.inl (gd_of (List.mem_of_getElem? (i := 814) (by decide +kernel)) (by decide +kernel))⟩
theorem fl_X9_26 : Fl RX9 26 9 9 := ⟨RX9, TX9, 28, tyX9, rfl, by decide, in_X9, tyX9_ok, nmX9, rfl, Or.inl (gd_of (List.mem_of_getElem? (i := 817) (by decide +kernel)) (by decide +kernel))⟩
theorem fl_X9_29 : Fl RX9 29 9 10 := ⟨RX9, TX9, 28, tyX9, rfl, by decide, in_X9, tyX9_ok, nmX9, rfl, Or.inl (gd_of (List.mem_of_getElem? (i := 818) (by decide +kernel)) (by decide +kernel))⟩
theorem fl_X9_32 : Fl RX9 32 9 11 := ⟨RX9, TX9, 28, tyX9, rfl, by decide, in_X9, tyX9_ok, nmX9, rfl, Or.inl (gd_of (List.mem_of_getElem? (i := 819) (by decide +kernel)) (by decide +kernel))⟩
theorem fl_X9_35 : Fl RX9 35 9 19 := ⟨RX9, TX9, 28, tyX9, rfl, by decide, in_X9, tyX9_ok, nmX9, rfl, Or.inl (gd_of (List.mem_of_getElem? (i := 827) (by decide +kernel)) (by decide +kernel))⟩
theorem fl_X9_38 : Fl RX9 38 9 20 := ⟨RX9, TX9, 28, tyX9, rfl, by decide, in_X9, tyX9_ok, nmX9, rfl, Or.inl (gd_of (List.mem_of_getElem? (i := 828) (by decide +kernel)) (by decide +kernel))⟩
theorem fl_X9_41 : Fl RX9 41 9 21 := ⟨RX9, TX9, 28, tyX9, rfl, by decide, in_X9, tyX9_ok, nmX9, rfl, Or.inl (gd_of (List.mem_of_getElem? (i := 829) (by decide +kernel)) (by decide +kernel))⟩
theorem fl_X9_44 : Fl RX9 44 9 22 := ⟨RX9, TX9, 28, tyX9, rfl, by decide, in_X9, tyX9_ok, nmX9, rfl, Or.inl (gd_of (List.mem_of_getElem? (i := 830) (by decide +kernel)) (by decide +kernel))⟩
theorem fl_X9_47 : Fl RX9 47 9 24 := ⟨RX9, TX9, 28, tyX9, rfl, by decide, in_X9, tyX9_ok, nmX9, rfl, Or.inl (gd_of (List.mem_of_getElem? (i := 832) (by decide +kernel)) (by decide +kernel))⟩
theorem fl_X9_50 : Fl RX9 50 9 27 := ⟨RX9, TX9, 28, tyX9, rfl, by decide, in_X9, tyX9_ok, nmX9, rfl, Or.inl (gd_of (List.mem_of_getElem? (i := 835) (by decide +kernel)) (by decide +kernel))⟩
theorem fl_X9_54 : Fl RX9 54 9 2 := ⟨RX9, TX9, 28, tyX9, rfl, by decide, in_X9, tyX9_ok, nmX9, rfl, Or.inl (gd_of (List.mem_of_getElem? (i := 810) (by decide +kernel)) (by decide +kernel))⟩
theorem lk_X9_58 : Lk RX9 58 yX9_copy := Or.inl (gd_of (List.mem_of_getElem? (i := 968) (by decide +kernel)) (by decide +kernel))
theorem kc_X9_62 : Cond.constantLong RX9 62 (48) ∈ lw_good := gd_of (List.mem_of_getElem? (i := 923) (by decide +kernel)) (by decide +kernel)
theorem kc_X9_64 : Cond.constantLong RX9 64 (57) ∈ lw_good := gd_of (List.mem_of_getElem? (i := 924) (by decide +kernel)) (by decide +kernel)
theorem lk_X9_66 : Lk RX9 66 yX9_in := Or.inl (gd_of (List.mem_of_getElem? (i := 898) (by decide +kernel)) (by decide +kernel))
theorem fl_X9_70 : Fl RX9 70 9 12 := ⟨RX9, TX9, 28, tyX9, rfl, by decide, in_X9, tyX9_ok, nmX9, rfl, Or.inl (gd_of (List.mem_of_getElem? (i := 820) (by decide +kernel)) (by decide +kernel))⟩
theorem fl_X9_73 : Fl RX9 73 9 7 := ⟨RX9, TX9, 28, tyX9, rfl, by decide, in_X9, tyX9_ok, nmX9, rfl, Or.inl (gd_of (List.mem_of_getElem? (i := 815) (by decide +kernel)) (by decide +kernel))⟩
theorem fl_X9_76 : Fl RX9 76 9 13 := ⟨RX9, TX9, 28, tyX9, rfl, by decide, in_X9, tyX9_ok, nmX9, rfl, Or.inl (gd_of (List.mem_of_getElem? (i := 821) (by decide +kernel)) (by decide +kernel))⟩
theorem fl_X9_79 : Fl RX9 79 9 14 := ⟨RX9, TX9, 28, tyX9, rfl, by decide, in_X9, tyX9_ok, nmX9, rfl, Or.inl (gd_of (List.mem_of_getElem? (i := 822) (by decide +kernel)) (by decide +kernel))⟩
theorem lk_X9_82 : Lk RX9 82 yX9_which := Or.inl (gd_of (List.mem_of_getElem? (i := 917) (by decide +kernel)) (by decide +kernel))
theorem lk_X9_86 : Lk RX9 86 yX9_isFigure := Or.inl (gd_of (List.mem_of_getElem? (i := 920) (by decide +kernel)) (by decide +kernel))
theorem fl_X9_90 : Fl RX9 90 9 15 := ⟨RX9, TX9, 28, tyX9, rfl, by decide, in_X9, tyX9_ok, nmX9, rfl, Or.inl (gd_of (List.mem_of_getElem? (i := 823) (by decide +kernel)) (by decide +kernel))⟩
theorem lk_X9_93 : Lk RX9 93 yX9_take := Or.inl (gd_of (List.mem_of_getElem? (i := 913) (by decide +kernel)) (by decide +kernel))
theorem fl_X9_96 : Fl RX9 96 9 23 := ⟨RX9, TX9, 28, tyX9, rfl, by decide, in_X9, tyX9_ok, nmX9, rfl, Or.inl (gd_of (List.mem_of_getElem? (i := 831) (by decide +kernel)) (by decide +kernel))⟩
theorem lk_X9_99 : Lk RX9 99 yX9_readsNumber := Or.inl (gd_of (List.mem_of_getElem? (i := 937) (by decide +kernel)) (by decide +kernel))
theorem fl_X9_103 : Fl RX9 103 9 17 := ⟨RX9, TX9, 28, tyX9, rfl, by decide, in_X9, tyX9_ok, nmX9, rfl, Or.inl (gd_of (List.mem_of_getElem? (i := 825) (by decide +kernel)) (by decide +kernel))⟩
theorem lk_X9_106 : Lk RX9 106 yX9_keeps := Or.inl (gd_of (List.mem_of_getElem? (i := 933) (by decide +kernel)) (by decide +kernel))
theorem fl_X9_109 : Fl RX9 109 9 18 := ⟨RX9, TX9, 28, tyX9, rfl, by decide, in_X9, tyX9_ok, nmX9, rfl, Or.inl (gd_of (List.mem_of_getElem? (i := 826) (by decide +kernel)) (by decide +kernel))⟩
theorem lk_X9_112 : Lk RX9 112 yX9_readsCell := Or.inl (gd_of (List.mem_of_getElem? (i := 929) (by decide +kernel)) (by decide +kernel))
theorem lk_X9_116 : Lk RX9 116 yX9_least := Or.inl (gd_of (List.mem_of_getElem? (i := 941) (by decide +kernel)) (by decide +kernel))
theorem lk_X9_119 : Lk RX9 119 yX9_most := Or.inl (gd_of (List.mem_of_getElem? (i := 944) (by decide +kernel)) (by decide +kernel))
theorem fl_X9_122 : Fl RX9 122 9 16 := ⟨RX9, TX9, 28, tyX9, rfl, by decide, in_X9, tyX9_ok, nmX9, rfl, Or.inl (gd_of (List.mem_of_getElem? (i := 824) (by decide +kernel)) (by decide +kernel))⟩
theorem lk_X9_125 : Lk RX9 125 yX9_readsItem := Or.inl (gd_of (List.mem_of_getElem? (i := 925) (by decide +kernel)) (by decide +kernel))
theorem kc_X9_128 : Cond.constantLong RX9 128 (255) ∈ lw_good := gd_of (List.mem_of_getElem? (i := 897) (by decide +kernel)) (by decide +kernel)
theorem lk_X9_130 : Lk RX9 130 yX9_reads := Or.inl (gd_of (List.mem_of_getElem? (i := 909) (by decide +kernel)) (by decide +kernel))
theorem fl_X9_133 : Fl RX9 133 9 8 := ⟨RX9, TX9, 28, tyX9, rfl, by decide, in_X9, tyX9_ok, nmX9, rfl, Or.inl (gd_of (List.mem_of_getElem? (i := 816) (by decide +kernel)) (by decide +kernel))⟩
theorem fl_X9_136 : Fl RX9 136 9 5 := ⟨RX9, TX9, 28, tyX9, rfl, by decide, in_X9, tyX9_ok, nmX9, rfl, Or.inl (gd_of (List.mem_of_getElem? (i := 813) (by decide +kernel)) (by decide +kernel))⟩
theorem kc_X9_139 : Cond.constantLong RX9 139 (11) ∈ lw_good := gd_of (List.mem_of_getElem? (i := 1011) (by decide +kernel)) (by decide +kernel)
theorem lk_X9_141 : Lk RX9 141 yX9_get := Or.inl (gd_of (List.mem_of_getElem? (i := 960) (by decide +kernel)) (by decide +kernel))
theorem lk_X9_145 : Lk RX9 145 yX9_busy := Or.inl (gd_of (List.mem_of_getElem? (i := 984) (by decide +kernel)) (by decide +kernel))
theorem lk_X9_148 : Lk RX9 148 yX9_lesser := Or.inl (gd_of (List.mem_of_getElem? (i := 991) (by decide +kernel)) (by decide +kernel))
theorem lk_X9_151 : Lk RX9 151 yX9_free := Or.inl (gd_of (List.mem_of_getElem? (i := 980) (by decide +kernel)) (by decide +kernel))
theorem lk_X9_154 : Lk RX9 154 yX9_chanceBy := Or.inl (gd_of (List.mem_of_getElem? (i := 988) (by decide +kernel)) (by decide +kernel))
theorem kc_X9_157 : Cond.constant RX9 157 (69069) ∈ lw_good := gd_of (List.mem_of_getElem? (i := 998) (by decide +kernel)) (by decide +kernel)
theorem lk_X9_158 : Lk RX9 158 yX9_isCell := Or.inl (gd_of (List.mem_of_getElem? (i := 951) (by decide +kernel)) (by decide +kernel))
theorem kc_X9_161 : Cond.constantLong RX9 161 (100) ∈ lw_good := gd_of (List.mem_of_getElem? (i := 955) (by decide +kernel)) (by decide +kernel)
theorem lk_X9_163 : Lk RX9 163 yX9_calls := Or.inl (gd_of (List.mem_of_getElem? (i := 956) (by decide +kernel)) (by decide +kernel))
theorem lk_X9_167 : Lk RX9 167 yX9_minds := Or.inl (gd_of (List.mem_of_getElem? (i := 964) (by decide +kernel)) (by decide +kernel))
theorem lk_X9_170 : Lk RX9 170 yX9_counts := Or.inl (gd_of (List.mem_of_getElem? (i := 972) (by decide +kernel)) (by decide +kernel))
theorem lk_X9_173 : Lk RX9 173 yX9_chance := Or.inl (gd_of (List.mem_of_getElem? (i := 976) (by decide +kernel)) (by decide +kernel))
theorem lk_X9_176 : Lk RX9 176 yX9_draw := Or.inl (gd_of (List.mem_of_getElem? (i := 994) (by decide +kernel)) (by decide +kernel))
theorem lk_X9_179 : Lk RX9 179 yX9_set := Or.inl (gd_of (List.mem_of_getElem? (i := 999) (by decide +kernel)) (by decide +kernel))
theorem fl_X9_183 : Fl RX9 183 9 25 := ⟨RX9, TX9, 28, tyX9, rfl, by decide, in_X9, tyX9_ok, nmX9, rfl, Or.inl (gd_of (List.mem_of_getElem? (i := 833) (by decide +kernel)) (by decide +kernel))⟩
theorem lk_X9_186 : Lk RX9 186 yX9_pairs := Or.inl (gd_of (List.mem_of_getElem? (i := 1036) (by decide +kernel)) (by decide +kernel))
theorem fl_X9_189 : Fl RX9 189 9 26 := ⟨RX9, TX9, 28, tyX9, rfl, by decide, in_X9, tyX9_ok, nmX9, rfl, Or.inl (gd_of (List.mem_of_getElem? (i := 834) (by decide +kernel)) (by decide +kernel))⟩
theorem lk_X9_192 : Lk RX9 192 yX9_frees := Or.inl (gd_of (List.mem_of_getElem? (i := 1040) (by decide +kernel)) (by decide +kernel))
theorem lk_X9_196 : Lk RX9 196 yX9_isAhead := Or.inl (gd_of (List.mem_of_getElem? (i := 1060) (by decide +kernel)) (by decide +kernel))
theorem lk_X9_199 : Lk RX9 199 yX9_queuedAt := Or.inl (gd_of (List.mem_of_getElem? (i := 1056) (by decide +kernel)) (by decide +kernel))
theorem lk_X9_202 : Lk RX9 202 yX9_moves := Or.inl (gd_of (List.mem_of_getElem? (i := 1032) (by decide +kernel)) (by decide +kernel))
theorem lk_X9_205 : Lk RX9 205 yX9_waiting := Or.inl (gd_of (List.mem_of_getElem? (i := 1044) (by decide +kernel)) (by decide +kernel))
theorem lk_X9_208 : Lk RX9 208 yX9_isCall := Or.inl (gd_of (List.mem_of_getElem? (i := 1007) (by decide +kernel)) (by decide +kernel))
theorem lk_X9_211 : Lk RX9 211 yX9_isValue := Or.inl (gd_of (List.mem_of_getElem? (i := 1012) (by decide +kernel)) (by decide +kernel))
theorem lk_X9_214 : Lk RX9 214 yX9_listens := Or.inl (gd_of (List.mem_of_getElem? (i := 1016) (by decide +kernel)) (by decide +kernel))
theorem lk_X9_217 : Lk RX9 217 yX9_streaks := Or.inl (gd_of (List.mem_of_getElem? (i := 1020) (by decide +kernel)) (by decide +kernel))
theorem lk_X9_220 : Lk RX9 220 yX9_target := Or.inl (gd_of (List.mem_of_getElem? (i := 1024) (by decide +kernel)) (by decide +kernel))
theorem lk_X9_223 : Lk RX9 223 yX9_asks := Or.inl (gd_of (List.mem_of_getElem? (i := 1028) (by decide +kernel)) (by decide +kernel))
theorem lk_X9_226 : Lk RX9 226 yX9_leaves := Or.inl (gd_of (List.mem_of_getElem? (i := 1048) (by decide +kernel)) (by decide +kernel))
theorem lk_X9_229 : Lk RX9 229 yX9_serves := Or.inl (gd_of (List.mem_of_getElem? (i := 1052) (by decide +kernel)) (by decide +kernel))
theorem kc_X9_232 : Cond.constantLong RX9 232 (6) ∈ lw_good := gd_of (List.mem_of_getElem? (i := 1088) (by decide +kernel)) (by decide +kernel)
theorem kc_X9_234 : Cond.constant RX9 234 (-1000000) ∈ lw_good := gd_of (List.mem_of_getElem? (i := 1089) (by decide +kernel)) (by decide +kernel)
theorem kc_X9_235 : Cond.constantLong RX9 235 (2) ∈ lw_good := gd_of (List.mem_of_getElem? (i := 1102) (by decide +kernel)) (by decide +kernel)
theorem kc_X9_237 : Cond.constantLong RX9 237 (9) ∈ lw_good := gd_of (List.mem_of_getElem? (i := 1110) (by decide +kernel)) (by decide +kernel)
theorem lk_X9_239 : Lk RX9 239 yX9_areRates := Or.inl (gd_of (List.mem_of_getElem? (i := 1107) (by decide +kernel)) (by decide +kernel))
theorem kc_X9_243 : Cond.constantLong RX9 243 (-1) ∈ lw_good := gd_of (List.mem_of_getElem? (i := 1111) (by decide +kernel)) (by decide +kernel)
theorem kc_X9_245 : Cond.constantLong RX9 245 (10) ∈ lw_good := gd_of (List.mem_of_getElem? (i := 1112) (by decide +kernel)) (by decide +kernel)
theorem lk_X9_247 : Lk RX9 247 yX9_shares := Or.inl (gd_of (List.mem_of_getElem? (i := 1113) (by decide +kernel)) (by decide +kernel))
theorem lk_X9_251 : Lk RX9 251 yX9_divisor := Or.inl (gd_of (List.mem_of_getElem? (i := 1117) (by decide +kernel)) (by decide +kernel))
theorem kc_X9_255 : Cond.constantLong RX9 255 (1000) ∈ lw_good := gd_of (List.mem_of_getElem? (i := 1124) (by decide +kernel)) (by decide +kernel)
theorem lk_X9_257 : Lk RX9 257 yX9_couldBe := Or.inl (gd_of (List.mem_of_getElem? (i := 1137) (by decide +kernel)) (by decide +kernel))
theorem fi_X0_4 : Fi 0 4 := fun _ _ _ h => by cases h; exact ⟨rfl, by decide +kernel⟩
theorem fi_X1_1 : Fi 1 1 := fun _ _ _ h => by cases h; exact ⟨rfl, by decide +kernel⟩
theorem fi_X1_2 : Fi 1 2 := fun _ _ _ h => by cases h; exact ⟨rfl, by decide +kernel⟩
theorem fi_X3_1 : Fi 3 1 := fun _ _ _ h => by cases h; exact ⟨rfl, by decide +kernel⟩
theorem fi_X3_2 : Fi 3 2 := fun _ _ _ h => by cases h; exact ⟨rfl, by decide +kernel⟩
theorem fi_X4_1 : Fi 4 1 := fun _ _ _ h => by cases h; exact ⟨rfl, by decide +kernel⟩
theorem fi_X4_4 : Fi 4 4 := fun _ _ _ h => by cases h; exact ⟨rfl, by decide +kernel⟩
theorem fi_X4_5 : Fi 4 5 := fun _ _ _ h => by cases h; exact ⟨rfl, by decide +kernel⟩
theorem fi_X4_6 : Fi 4 6 := fun _ _ _ h => by cases h; exact ⟨rfl, by decide +kernel⟩
theorem fi_X4_7 : Fi 4 7 := fun _ _ _ h => by cases h; exact ⟨rfl, by decide +kernel⟩
theorem fi_X5_0 : Fi 5 0 := fun _ _ _ h => by cases h; exact ⟨rfl, by decide +kernel⟩
theorem fi_X6_0 : Fi 6 0 := fun _ _ _ h => by cases h; exact ⟨rfl, by decide +kernel⟩
theorem fi_X7_0 : Fi 7 0 := fun _ _ _ h => by cases h; exact ⟨rfl, by decide +kernel⟩
theorem fi_X7_1 : Fi 7 1 := fun _ _ _ h => by cases h; exact ⟨rfl, by decide +kernel⟩
theorem fi_X7_15 : Fi 7 15 := fun _ _ _ h => by cases h; exact ⟨rfl, by decide +kernel⟩
theorem fi_X9_2 : Fi 9 2 := fun _ _ _ h => by cases h; exact ⟨rfl, by decide +kernel⟩
theorem fi_X9_5 : Fi 9 5 := fun _ _ _ h => by cases h; exact ⟨rfl, by decide +kernel⟩
theorem fi_X9_7 : Fi 9 7 := fun _ _ _ h => by cases h; exact ⟨rfl, by decide +kernel⟩
theorem fi_X9_8 : Fi 9 8 := fun _ _ _ h => by cases h; exact ⟨rfl, by decide +kernel⟩
theorem fi_X9_12 : Fi 9 12 := fun _ _ _ h => by cases h; exact ⟨rfl, by decide +kernel⟩
theorem fi_X9_13 : Fi 9 13 := fun _ _ _ h => by cases h; exact ⟨rfl, by decide +kernel⟩
theorem fi_X9_14 : Fi 9 14 := fun _ _ _ h => by cases h; exact ⟨rfl, by decide +kernel⟩
theorem fi_X9_15 : Fi 9 15 := fun _ _ _ h => by cases h; exact ⟨rfl, by decide +kernel⟩
theorem fi_X9_16 : Fi 9 16 := fun _ _ _ h => by cases h; exact ⟨rfl, by decide +kernel⟩
theorem fi_X9_17 : Fi 9 17 := fun _ _ _ h => by cases h; exact ⟨rfl, by decide +kernel⟩
theorem fi_X9_18 : Fi 9 18 := fun _ _ _ h => by cases h; exact ⟨rfl, by decide +kernel⟩
theorem fi_X9_23 : Fi 9 23 := fun _ _ _ h => by cases h; exact ⟨rfl, by decide +kernel⟩
theorem fi_X9_25 : Fi 9 25 := fun _ _ _ h => by cases h; exact ⟨rfl, by decide +kernel⟩
theorem fi_X9_26 : Fi 9 26 := fun _ _ _ h => by cases h; exact ⟨rfl, by decide +kernel⟩
end
section
theorem mw_X6_begin : MWv yX6_begin cX6_begin 1 none 0 := ⟨⟨gd_of (List.mem_of_getElem? (i := 98) (by decide +kernel)) (by decide +kernel), gd_of (List.mem_of_getElem? (i := 132) (by decide +kernel)) rfl, by decide +kernel⟩, gd_of (List.mem_of_getElem? (i := 131) (by decide +kernel)) (by decide +kernel), gd_of (List.mem_of_getElem? (i := 0) (by decide +kernel)) (by decide +kernel)⟩
theorem mw_X7_clearCalls : MWv yX7_clearCalls cX7_clearCalls 1 none 0 := ⟨⟨gd_of (List.mem_of_getElem? (i := 100) (by decide +kernel)) (by decide +kernel), gd_of (List.mem_of_getElem? (i := 207) (by decide +kernel)) rfl, by decide +kernel⟩, gd_of (List.mem_of_getElem? (i := 206) (by decide +kernel)) (by decide +kernel), gd_of (List.mem_of_getElem? (i := 1) (by decide +kernel)) (by decide +kernel)⟩
theorem mw_J7_fill_53178 : MWs yJ7_fill_53178 cJ7_fill_53178 4 none 2 := ⟨⟨gd_of (List.mem_of_getElem? (i := 101) (by decide +kernel)) (by decide +kernel), gd_of (List.mem_of_getElem? (i := 210) (by decide +kernel)) rfl, by decide +kernel⟩, gd_of (List.mem_of_getElem? (i := 209) (by decide +kernel)) (by decide +kernel)⟩
theorem mw_X8_type : MWv yX8_type cX8_type 2 (some .int) 1 := ⟨⟨gd_of (List.mem_of_getElem? (i := 96) (by decide +kernel)) (by decide +kernel), gd_of (List.mem_of_getElem? (i := 418) (by decide +kernel)) rfl, by decide +kernel⟩, gd_of (List.mem_of_getElem? (i := 416) (by decide +kernel)) (by decide +kernel), gd_of (List.mem_of_getElem? (i := 417) (by decide +kernel)) (by decide +kernel)⟩
theorem mw_X8_within : MWs yX8_within cX8_within 3 (some .boolean) 3 := ⟨⟨gd_of (List.mem_of_getElem? (i := 96) (by decide +kernel)) (by decide +kernel), gd_of (List.mem_of_getElem? (i := 421) (by decide +kernel)) rfl, by decide +kernel⟩, gd_of (List.mem_of_getElem? (i := 420) (by decide +kernel)) (by decide +kernel)⟩
theorem mw_X4_append : MWv yX4_append cX4_append 2 (some .boolean) 1 := ⟨⟨gd_of (List.mem_of_getElem? (i := 97) (by decide +kernel)) (by decide +kernel), gd_of (List.mem_of_getElem? (i := 425) (by decide +kernel)) rfl, by decide +kernel⟩, gd_of (List.mem_of_getElem? (i := 424) (by decide +kernel)) (by decide +kernel), gd_of (List.mem_of_getElem? (i := 2) (by decide +kernel)) (by decide +kernel)⟩
theorem mw_X8_clear : MWv yX8_clear cX8_clear 2 (some .int) 0 := ⟨⟨gd_of (List.mem_of_getElem? (i := 96) (by decide +kernel)) (by decide +kernel), gd_of (List.mem_of_getElem? (i := 429) (by decide +kernel)) rfl, by decide +kernel⟩, gd_of (List.mem_of_getElem? (i := 427) (by decide +kernel)) (by decide +kernel), gd_of (List.mem_of_getElem? (i := 428) (by decide +kernel)) (by decide +kernel)⟩
theorem mw_X8_tells : MWv yX8_tells cX8_tells 2 (some .int) 0 := ⟨⟨gd_of (List.mem_of_getElem? (i := 96) (by decide +kernel)) (by decide +kernel), gd_of (List.mem_of_getElem? (i := 433) (by decide +kernel)) rfl, by decide +kernel⟩, gd_of (List.mem_of_getElem? (i := 431) (by decide +kernel)) (by decide +kernel), gd_of (List.mem_of_getElem? (i := 432) (by decide +kernel)) (by decide +kernel)⟩
theorem mw_X4_read : MWv yX4_read cX4_read 3 (some .int) 0 := ⟨⟨gd_of (List.mem_of_getElem? (i := 97) (by decide +kernel)) (by decide +kernel), gd_of (List.mem_of_getElem? (i := 437) (by decide +kernel)) rfl, by decide +kernel⟩, gd_of (List.mem_of_getElem? (i := 436) (by decide +kernel)) (by decide +kernel), gd_of (List.mem_of_getElem? (i := 3) (by decide +kernel)) (by decide +kernel)⟩
theorem mw_X4_nextToken : MWv yX4_nextToken cX4_nextToken 1 none 0 := ⟨⟨gd_of (List.mem_of_getElem? (i := 97) (by decide +kernel)) (by decide +kernel), gd_of (List.mem_of_getElem? (i := 443) (by decide +kernel)) rfl, by decide +kernel⟩, gd_of (List.mem_of_getElem? (i := 442) (by decide +kernel)) (by decide +kernel), gd_of (List.mem_of_getElem? (i := 4) (by decide +kernel)) (by decide +kernel)⟩
theorem mw_X4_isFigure : MWs yX4_isFigure cX4_isFigure 1 (some .boolean) 1 := ⟨⟨gd_of (List.mem_of_getElem? (i := 97) (by decide +kernel)) (by decide +kernel), gd_of (List.mem_of_getElem? (i := 446) (by decide +kernel)) rfl, by decide +kernel⟩, gd_of (List.mem_of_getElem? (i := 445) (by decide +kernel)) (by decide +kernel)⟩
theorem mw_X4_scanNumber : MWv yX4_scanNumber cX4_scanNumber 2 none 0 := ⟨⟨gd_of (List.mem_of_getElem? (i := 97) (by decide +kernel)) (by decide +kernel), gd_of (List.mem_of_getElem? (i := 450) (by decide +kernel)) rfl, by decide +kernel⟩, gd_of (List.mem_of_getElem? (i := 449) (by decide +kernel)) (by decide +kernel), gd_of (List.mem_of_getElem? (i := 5) (by decide +kernel)) (by decide +kernel)⟩
theorem mw_X4_kindOf : MWs yX4_kindOf cX4_kindOf 1 (some .int) 1 := ⟨⟨gd_of (List.mem_of_getElem? (i := 97) (by decide +kernel)) (by decide +kernel), gd_of (List.mem_of_getElem? (i := 456) (by decide +kernel)) rfl, by decide +kernel⟩, gd_of (List.mem_of_getElem? (i := 455) (by decide +kernel)) (by decide +kernel)⟩
theorem mw_X4_settingOf : MWs yX4_settingOf cX4_settingOf 2 (some .int) 1 := ⟨⟨gd_of (List.mem_of_getElem? (i := 97) (by decide +kernel)) (by decide +kernel), gd_of (List.mem_of_getElem? (i := 459) (by decide +kernel)) rfl, by decide +kernel⟩, gd_of (List.mem_of_getElem? (i := 458) (by decide +kernel)) (by decide +kernel)⟩
theorem mw_X4_readCell : MWv yX4_readCell cX4_readCell 2 (some .boolean) 0 := ⟨⟨gd_of (List.mem_of_getElem? (i := 97) (by decide +kernel)) (by decide +kernel), gd_of (List.mem_of_getElem? (i := 465) (by decide +kernel)) rfl, by decide +kernel⟩, gd_of (List.mem_of_getElem? (i := 464) (by decide +kernel)) (by decide +kernel), gd_of (List.mem_of_getElem? (i := 6) (by decide +kernel)) (by decide +kernel)⟩
theorem mw_X4_readNumber : MWv yX4_readNumber cX4_readNumber 3 (some .boolean) 2 := ⟨⟨gd_of (List.mem_of_getElem? (i := 97) (by decide +kernel)) (by decide +kernel), gd_of (List.mem_of_getElem? (i := 469) (by decide +kernel)) rfl, by decide +kernel⟩, gd_of (List.mem_of_getElem? (i := 468) (by decide +kernel)) (by decide +kernel), gd_of (List.mem_of_getElem? (i := 7) (by decide +kernel)) (by decide +kernel)⟩
theorem mw_X6_mostGuard : MWv yX6_mostGuard cX6_mostGuard 2 (some .int) 1 := ⟨⟨gd_of (List.mem_of_getElem? (i := 98) (by decide +kernel)) (by decide +kernel), gd_of (List.mem_of_getElem? (i := 474) (by decide +kernel)) rfl, by decide +kernel⟩, gd_of (List.mem_of_getElem? (i := 473) (by decide +kernel)) (by decide +kernel), gd_of (List.mem_of_getElem? (i := 8) (by decide +kernel)) (by decide +kernel)⟩
theorem mw_X4_readStop : MWv yX4_readStop cX4_readStop 1 (some .boolean) 0 := ⟨⟨gd_of (List.mem_of_getElem? (i := 97) (by decide +kernel)) (by decide +kernel), gd_of (List.mem_of_getElem? (i := 478) (by decide +kernel)) rfl, by decide +kernel⟩, gd_of (List.mem_of_getElem? (i := 477) (by decide +kernel)) (by decide +kernel), gd_of (List.mem_of_getElem? (i := 9) (by decide +kernel)) (by decide +kernel)⟩
theorem mw_X4_readSetting : MWv yX4_readSetting cX4_readSetting 2 (some .boolean) 1 := ⟨⟨gd_of (List.mem_of_getElem? (i := 97) (by decide +kernel)) (by decide +kernel), gd_of (List.mem_of_getElem? (i := 482) (by decide +kernel)) rfl, by decide +kernel⟩, gd_of (List.mem_of_getElem? (i := 481) (by decide +kernel)) (by decide +kernel), gd_of (List.mem_of_getElem? (i := 10) (by decide +kernel)) (by decide +kernel)⟩
theorem mw_X6_copyFrom : MWv yX6_copyFrom cX6_copyFrom 2 none 1 := ⟨⟨gd_of (List.mem_of_getElem? (i := 98) (by decide +kernel)) (by decide +kernel), gd_of (List.mem_of_getElem? (i := 490) (by decide +kernel)) rfl, by decide +kernel⟩, gd_of (List.mem_of_getElem? (i := 489) (by decide +kernel)) (by decide +kernel), gd_of (List.mem_of_getElem? (i := 11) (by decide +kernel)) (by decide +kernel)⟩
theorem mw_X7_begin : MWv yX7_begin cX7_begin 2 none 1 := ⟨⟨gd_of (List.mem_of_getElem? (i := 100) (by decide +kernel)) (by decide +kernel), gd_of (List.mem_of_getElem? (i := 494) (by decide +kernel)) rfl, by decide +kernel⟩, gd_of (List.mem_of_getElem? (i := 493) (by decide +kernel)) (by decide +kernel), gd_of (List.mem_of_getElem? (i := 12) (by decide +kernel)) (by decide +kernel)⟩
theorem mw_X1_forgetAll : MWv yX1_forgetAll cX1_forgetAll 1 none 0 := ⟨⟨gd_of (List.mem_of_getElem? (i := 103) (by decide +kernel)) (by decide +kernel), gd_of (List.mem_of_getElem? (i := 499) (by decide +kernel)) rfl, by decide +kernel⟩, gd_of (List.mem_of_getElem? (i := 498) (by decide +kernel)) (by decide +kernel), gd_of (List.mem_of_getElem? (i := 13) (by decide +kernel)) (by decide +kernel)⟩
theorem mw_X2_forgetAll : MWv yX2_forgetAll cX2_forgetAll 2 none 0 := ⟨⟨gd_of (List.mem_of_getElem? (i := 104) (by decide +kernel)) (by decide +kernel), gd_of (List.mem_of_getElem? (i := 503) (by decide +kernel)) rfl, by decide +kernel⟩, gd_of (List.mem_of_getElem? (i := 502) (by decide +kernel)) (by decide +kernel), gd_of (List.mem_of_getElem? (i := 14) (by decide +kernel)) (by decide +kernel)⟩
theorem mw_X8_offers : MWv yX8_offers cX8_offers 3 (some .int) 2 := ⟨⟨gd_of (List.mem_of_getElem? (i := 96) (by decide +kernel)) (by decide +kernel), gd_of (List.mem_of_getElem? (i := 507) (by decide +kernel)) rfl, by decide +kernel⟩, gd_of (List.mem_of_getElem? (i := 505) (by decide +kernel)) (by decide +kernel), gd_of (List.mem_of_getElem? (i := 506) (by decide +kernel)) (by decide +kernel)⟩
theorem mw_X6_has : MWv yX6_has cX6_has 2 (some .boolean) 1 := ⟨⟨gd_of (List.mem_of_getElem? (i := 98) (by decide +kernel)) (by decide +kernel), gd_of (List.mem_of_getElem? (i := 511) (by decide +kernel)) rfl, by decide +kernel⟩, gd_of (List.mem_of_getElem? (i := 510) (by decide +kernel)) (by decide +kernel), gd_of (List.mem_of_getElem? (i := 15) (by decide +kernel)) (by decide +kernel)⟩
theorem mw_X7_lowestAbsent : MWv yX7_lowestAbsent cX7_lowestAbsent 2 (some .int) 0 := ⟨⟨gd_of (List.mem_of_getElem? (i := 100) (by decide +kernel)) (by decide +kernel), gd_of (List.mem_of_getElem? (i := 515) (by decide +kernel)) rfl, by decide +kernel⟩, gd_of (List.mem_of_getElem? (i := 514) (by decide +kernel)) (by decide +kernel), gd_of (List.mem_of_getElem? (i := 16) (by decide +kernel)) (by decide +kernel)⟩
theorem mw_X1_remember : MWv yX1_remember cX1_remember 3 none 1 := ⟨⟨gd_of (List.mem_of_getElem? (i := 103) (by decide +kernel)) (by decide +kernel), gd_of (List.mem_of_getElem? (i := 519) (by decide +kernel)) rfl, by decide +kernel⟩, gd_of (List.mem_of_getElem? (i := 518) (by decide +kernel)) (by decide +kernel), gd_of (List.mem_of_getElem? (i := 17) (by decide +kernel)) (by decide +kernel)⟩
theorem mw_X7_copyFrom : MWv yX7_copyFrom cX7_copyFrom 2 none 1 := ⟨⟨gd_of (List.mem_of_getElem? (i := 100) (by decide +kernel)) (by decide +kernel), gd_of (List.mem_of_getElem? (i := 523) (by decide +kernel)) rfl, by decide +kernel⟩, gd_of (List.mem_of_getElem? (i := 522) (by decide +kernel)) (by decide +kernel), gd_of (List.mem_of_getElem? (i := 18) (by decide +kernel)) (by decide +kernel)⟩
theorem mw_X0_offer : MWv yX0_offer cX0_offer 4 (some .int) 2 := ⟨⟨gd_of (List.mem_of_getElem? (i := 102) (by decide +kernel)) (by decide +kernel), gd_of (List.mem_of_getElem? (i := 528) (by decide +kernel)) rfl, by decide +kernel⟩, gd_of (List.mem_of_getElem? (i := 527) (by decide +kernel)) (by decide +kernel), gd_of (List.mem_of_getElem? (i := 19) (by decide +kernel)) (by decide +kernel)⟩
theorem mw_X7_tallyOne : MWv yX7_tallyOne cX7_tallyOne 3 none 2 := ⟨⟨gd_of (List.mem_of_getElem? (i := 100) (by decide +kernel)) (by decide +kernel), gd_of (List.mem_of_getElem? (i := 532) (by decide +kernel)) rfl, by decide +kernel⟩, gd_of (List.mem_of_getElem? (i := 531) (by decide +kernel)) (by decide +kernel), gd_of (List.mem_of_getElem? (i := 20) (by decide +kernel)) (by decide +kernel)⟩
theorem mw_X0_chanceOf : MWv yX0_chanceOf cX0_chanceOf 2 (some .int) 1 := ⟨⟨gd_of (List.mem_of_getElem? (i := 102) (by decide +kernel)) (by decide +kernel), gd_of (List.mem_of_getElem? (i := 537) (by decide +kernel)) rfl, by decide +kernel⟩, gd_of (List.mem_of_getElem? (i := 536) (by decide +kernel)) (by decide +kernel), gd_of (List.mem_of_getElem? (i := 21) (by decide +kernel)) (by decide +kernel)⟩
theorem mw_X0_free : MWv yX0_free cX0_free 2 (some .int) 1 := ⟨⟨gd_of (List.mem_of_getElem? (i := 102) (by decide +kernel)) (by decide +kernel), gd_of (List.mem_of_getElem? (i := 541) (by decide +kernel)) rfl, by decide +kernel⟩, gd_of (List.mem_of_getElem? (i := 540) (by decide +kernel)) (by decide +kernel), gd_of (List.mem_of_getElem? (i := 22) (by decide +kernel)) (by decide +kernel)⟩
theorem mw_X7_busy : MWv yX7_busy cX7_busy 2 (some .int) 1 := ⟨⟨gd_of (List.mem_of_getElem? (i := 100) (by decide +kernel)) (by decide +kernel), gd_of (List.mem_of_getElem? (i := 545) (by decide +kernel)) rfl, by decide +kernel⟩, gd_of (List.mem_of_getElem? (i := 544) (by decide +kernel)) (by decide +kernel), gd_of (List.mem_of_getElem? (i := 23) (by decide +kernel)) (by decide +kernel)⟩
theorem mw_X7_callsOf : MWs yX7_callsOf cX7_callsOf 4 (some .int) 2 := ⟨⟨gd_of (List.mem_of_getElem? (i := 100) (by decide +kernel)) (by decide +kernel), gd_of (List.mem_of_getElem? (i := 548) (by decide +kernel)) rfl, by decide +kernel⟩, gd_of (List.mem_of_getElem? (i := 547) (by decide +kernel)) (by decide +kernel)⟩
theorem mw_X8_chance : MWs yX8_chance cX8_chance 2 (some .int) 2 := ⟨⟨gd_of (List.mem_of_getElem? (i := 96) (by decide +kernel)) (by decide +kernel), gd_of (List.mem_of_getElem? (i := 551) (by decide +kernel)) rfl, by decide +kernel⟩, gd_of (List.mem_of_getElem? (i := 550) (by decide +kernel)) (by decide +kernel)⟩
theorem mw_X0_isTaken : MWv yX0_isTaken cX0_isTaken 2 (some .boolean) 1 := ⟨⟨gd_of (List.mem_of_getElem? (i := 102) (by decide +kernel)) (by decide +kernel), gd_of (List.mem_of_getElem? (i := 559) (by decide +kernel)) rfl, by decide +kernel⟩, gd_of (List.mem_of_getElem? (i := 558) (by decide +kernel)) (by decide +kernel), gd_of (List.mem_of_getElem? (i := 24) (by decide +kernel)) (by decide +kernel)⟩
theorem mw_X0_draw : MWv yX0_draw cX0_draw 1 (some .int) 0 := ⟨⟨gd_of (List.mem_of_getElem? (i := 102) (by decide +kernel)) (by decide +kernel), gd_of (List.mem_of_getElem? (i := 563) (by decide +kernel)) rfl, by decide +kernel⟩, gd_of (List.mem_of_getElem? (i := 562) (by decide +kernel)) (by decide +kernel), gd_of (List.mem_of_getElem? (i := 25) (by decide +kernel)) (by decide +kernel)⟩
theorem mw_X7_appear : MWv yX7_appear cX7_appear 5 none 3 := ⟨⟨gd_of (List.mem_of_getElem? (i := 100) (by decide +kernel)) (by decide +kernel), gd_of (List.mem_of_getElem? (i := 568) (by decide +kernel)) rfl, by decide +kernel⟩, gd_of (List.mem_of_getElem? (i := 567) (by decide +kernel)) (by decide +kernel), gd_of (List.mem_of_getElem? (i := 26) (by decide +kernel)) (by decide +kernel)⟩
theorem mw_X7_clearStreaks : MWv yX7_clearStreaks cX7_clearStreaks 3 none 1 := ⟨⟨gd_of (List.mem_of_getElem? (i := 100) (by decide +kernel)) (by decide +kernel), gd_of (List.mem_of_getElem? (i := 572) (by decide +kernel)) rfl, by decide +kernel⟩, gd_of (List.mem_of_getElem? (i := 571) (by decide +kernel)) (by decide +kernel), gd_of (List.mem_of_getElem? (i := 27) (by decide +kernel)) (by decide +kernel)⟩
theorem mw_X8_hears : MWv yX8_hears cX8_hears 6 (some .int) 5 := ⟨⟨gd_of (List.mem_of_getElem? (i := 96) (by decide +kernel)) (by decide +kernel), gd_of (List.mem_of_getElem? (i := 576) (by decide +kernel)) rfl, by decide +kernel⟩, gd_of (List.mem_of_getElem? (i := 574) (by decide +kernel)) (by decide +kernel), gd_of (List.mem_of_getElem? (i := 575) (by decide +kernel)) (by decide +kernel)⟩
theorem mw_X7_has : MWv yX7_has cX7_has 2 (some .boolean) 1 := ⟨⟨gd_of (List.mem_of_getElem? (i := 100) (by decide +kernel)) (by decide +kernel), gd_of (List.mem_of_getElem? (i := 580) (by decide +kernel)) rfl, by decide +kernel⟩, gd_of (List.mem_of_getElem? (i := 579) (by decide +kernel)) (by decide +kernel), gd_of (List.mem_of_getElem? (i := 28) (by decide +kernel)) (by decide +kernel)⟩
theorem mw_X8_canHear : MWv yX8_canHear cX8_canHear 3 (some .boolean) 2 := ⟨⟨gd_of (List.mem_of_getElem? (i := 96) (by decide +kernel)) (by decide +kernel), gd_of (List.mem_of_getElem? (i := 584) (by decide +kernel)) rfl, by decide +kernel⟩, gd_of (List.mem_of_getElem? (i := 583) (by decide +kernel)) (by decide +kernel), gd_of (List.mem_of_getElem? (i := 29) (by decide +kernel)) (by decide +kernel)⟩
theorem mw_X0_setValues : MWv yX0_setValues cX0_setValues 5 none 4 := ⟨⟨gd_of (List.mem_of_getElem? (i := 102) (by decide +kernel)) (by decide +kernel), gd_of (List.mem_of_getElem? (i := 588) (by decide +kernel)) rfl, by decide +kernel⟩, gd_of (List.mem_of_getElem? (i := 587) (by decide +kernel)) (by decide +kernel), gd_of (List.mem_of_getElem? (i := 30) (by decide +kernel)) (by decide +kernel)⟩
theorem mw_X0_hear : MWv yX0_hear cX0_hear 3 (some .int) 1 := ⟨⟨gd_of (List.mem_of_getElem? (i := 102) (by decide +kernel)) (by decide +kernel), gd_of (List.mem_of_getElem? (i := 592) (by decide +kernel)) rfl, by decide +kernel⟩, gd_of (List.mem_of_getElem? (i := 591) (by decide +kernel)) (by decide +kernel), gd_of (List.mem_of_getElem? (i := 31) (by decide +kernel)) (by decide +kernel)⟩
theorem mw_X0_smoothLevels : MWv yX0_smoothLevels cX0_smoothLevels 7 none 1 := ⟨⟨gd_of (List.mem_of_getElem? (i := 102) (by decide +kernel)) (by decide +kernel), gd_of (List.mem_of_getElem? (i := 596) (by decide +kernel)) rfl, by decide +kernel⟩, gd_of (List.mem_of_getElem? (i := 595) (by decide +kernel)) (by decide +kernel), gd_of (List.mem_of_getElem? (i := 32) (by decide +kernel)) (by decide +kernel)⟩
theorem mw_X7_ownLevel : MWv yX7_ownLevel cX7_ownLevel 2 (some .int) 1 := ⟨⟨gd_of (List.mem_of_getElem? (i := 100) (by decide +kernel)) (by decide +kernel), gd_of (List.mem_of_getElem? (i := 600) (by decide +kernel)) rfl, by decide +kernel⟩, gd_of (List.mem_of_getElem? (i := 599) (by decide +kernel)) (by decide +kernel), gd_of (List.mem_of_getElem? (i := 33) (by decide +kernel)) (by decide +kernel)⟩
theorem mw_X0_countStreaks : MWv yX0_countStreaks cX0_countStreaks 6 none 1 := ⟨⟨gd_of (List.mem_of_getElem? (i := 102) (by decide +kernel)) (by decide +kernel), gd_of (List.mem_of_getElem? (i := 604) (by decide +kernel)) rfl, by decide +kernel⟩, gd_of (List.mem_of_getElem? (i := 603) (by decide +kernel)) (by decide +kernel), gd_of (List.mem_of_getElem? (i := 34) (by decide +kernel)) (by decide +kernel)⟩
theorem mw_X0_targetOf : MWv yX0_targetOf cX0_targetOf 6 (some .int) 1 := ⟨⟨gd_of (List.mem_of_getElem? (i := 102) (by decide +kernel)) (by decide +kernel), gd_of (List.mem_of_getElem? (i := 608) (by decide +kernel)) rfl, by decide +kernel⟩, gd_of (List.mem_of_getElem? (i := 607) (by decide +kernel)) (by decide +kernel), gd_of (List.mem_of_getElem? (i := 35) (by decide +kernel)) (by decide +kernel)⟩
theorem mw_X0_follow : MWv yX0_follow cX0_follow 3 (some .int) 2 := ⟨⟨gd_of (List.mem_of_getElem? (i := 102) (by decide +kernel)) (by decide +kernel), gd_of (List.mem_of_getElem? (i := 612) (by decide +kernel)) rfl, by decide +kernel⟩, gd_of (List.mem_of_getElem? (i := 611) (by decide +kernel)) (by decide +kernel), gd_of (List.mem_of_getElem? (i := 36) (by decide +kernel)) (by decide +kernel)⟩
theorem mw_X0_ask : MWv yX0_ask cX0_ask 3 (some .int) 2 := ⟨⟨gd_of (List.mem_of_getElem? (i := 102) (by decide +kernel)) (by decide +kernel), gd_of (List.mem_of_getElem? (i := 616) (by decide +kernel)) rfl, by decide +kernel⟩, gd_of (List.mem_of_getElem? (i := 615) (by decide +kernel)) (by decide +kernel), gd_of (List.mem_of_getElem? (i := 37) (by decide +kernel)) (by decide +kernel)⟩
theorem mw_X0_move : MWv yX0_move cX0_move 5 none 2 := ⟨⟨gd_of (List.mem_of_getElem? (i := 102) (by decide +kernel)) (by decide +kernel), gd_of (List.mem_of_getElem? (i := 620) (by decide +kernel)) rfl, by decide +kernel⟩, gd_of (List.mem_of_getElem? (i := 619) (by decide +kernel)) (by decide +kernel), gd_of (List.mem_of_getElem? (i := 38) (by decide +kernel)) (by decide +kernel)⟩
theorem mw_X7_countPair : MWv yX7_countPair cX7_countPair 4 none 2 := ⟨⟨gd_of (List.mem_of_getElem? (i := 100) (by decide +kernel)) (by decide +kernel), gd_of (List.mem_of_getElem? (i := 625) (by decide +kernel)) rfl, by decide +kernel⟩, gd_of (List.mem_of_getElem? (i := 624) (by decide +kernel)) (by decide +kernel), gd_of (List.mem_of_getElem? (i := 39) (by decide +kernel)) (by decide +kernel)⟩
theorem mw_X0_noteFreed : MWv yX0_noteFreed cX0_noteFreed 2 none 1 := ⟨⟨gd_of (List.mem_of_getElem? (i := 102) (by decide +kernel)) (by decide +kernel), gd_of (List.mem_of_getElem? (i := 629) (by decide +kernel)) rfl, by decide +kernel⟩, gd_of (List.mem_of_getElem? (i := 628) (by decide +kernel)) (by decide +kernel), gd_of (List.mem_of_getElem? (i := 40) (by decide +kernel)) (by decide +kernel)⟩
theorem mw_X7_waiting : MWv yX7_waiting cX7_waiting 2 (some .int) 1 := ⟨⟨gd_of (List.mem_of_getElem? (i := 100) (by decide +kernel)) (by decide +kernel), gd_of (List.mem_of_getElem? (i := 633) (by decide +kernel)) rfl, by decide +kernel⟩, gd_of (List.mem_of_getElem? (i := 632) (by decide +kernel)) (by decide +kernel), gd_of (List.mem_of_getElem? (i := 41) (by decide +kernel)) (by decide +kernel)⟩
theorem mw_X7_beginWaiting : MWv yX7_beginWaiting cX7_beginWaiting 3 none 2 := ⟨⟨gd_of (List.mem_of_getElem? (i := 100) (by decide +kernel)) (by decide +kernel), gd_of (List.mem_of_getElem? (i := 637) (by decide +kernel)) rfl, by decide +kernel⟩, gd_of (List.mem_of_getElem? (i := 636) (by decide +kernel)) (by decide +kernel), gd_of (List.mem_of_getElem? (i := 42) (by decide +kernel)) (by decide +kernel)⟩
theorem mw_X0_vanish : MWv yX0_vanish cX0_vanish 3 none 1 := ⟨⟨gd_of (List.mem_of_getElem? (i := 102) (by decide +kernel)) (by decide +kernel), gd_of (List.mem_of_getElem? (i := 641) (by decide +kernel)) rfl, by decide +kernel⟩, gd_of (List.mem_of_getElem? (i := 640) (by decide +kernel)) (by decide +kernel), gd_of (List.mem_of_getElem? (i := 43) (by decide +kernel)) (by decide +kernel)⟩
theorem mw_X0_serveFreed : MWv yX0_serveFreed cX0_serveFreed 6 (some .int) 0 := ⟨⟨gd_of (List.mem_of_getElem? (i := 102) (by decide +kernel)) (by decide +kernel), gd_of (List.mem_of_getElem? (i := 645) (by decide +kernel)) rfl, by decide +kernel⟩, gd_of (List.mem_of_getElem? (i := 644) (by decide +kernel)) (by decide +kernel), gd_of (List.mem_of_getElem? (i := 44) (by decide +kernel)) (by decide +kernel)⟩
theorem mw_X0_waiter : MWv yX0_waiter cX0_waiter 4 (some .int) 2 := ⟨⟨gd_of (List.mem_of_getElem? (i := 102) (by decide +kernel)) (by decide +kernel), gd_of (List.mem_of_getElem? (i := 649) (by decide +kernel)) rfl, by decide +kernel⟩, gd_of (List.mem_of_getElem? (i := 648) (by decide +kernel)) (by decide +kernel), gd_of (List.mem_of_getElem? (i := 45) (by decide +kernel)) (by decide +kernel)⟩
theorem mw_X0_aheadOf : MWv yX0_aheadOf cX0_aheadOf 5 (some .int) 2 := ⟨⟨gd_of (List.mem_of_getElem? (i := 102) (by decide +kernel)) (by decide +kernel), gd_of (List.mem_of_getElem? (i := 653) (by decide +kernel)) rfl, by decide +kernel⟩, gd_of (List.mem_of_getElem? (i := 652) (by decide +kernel)) (by decide +kernel), gd_of (List.mem_of_getElem? (i := 46) (by decide +kernel)) (by decide +kernel)⟩
theorem mw_X0_isBefore : MWv yX0_isBefore cX0_isBefore 8 (some .boolean) 2 := ⟨⟨gd_of (List.mem_of_getElem? (i := 102) (by decide +kernel)) (by decide +kernel), gd_of (List.mem_of_getElem? (i := 657) (by decide +kernel)) rfl, by decide +kernel⟩, gd_of (List.mem_of_getElem? (i := 656) (by decide +kernel)) (by decide +kernel), gd_of (List.mem_of_getElem? (i := 47) (by decide +kernel)) (by decide +kernel)⟩
theorem mw_X0_waitsLonger : MWv yX0_waitsLonger cX0_waitsLonger 3 (some .boolean) 2 := ⟨⟨gd_of (List.mem_of_getElem? (i := 102) (by decide +kernel)) (by decide +kernel), gd_of (List.mem_of_getElem? (i := 661) (by decide +kernel)) rfl, by decide +kernel⟩, gd_of (List.mem_of_getElem? (i := 660) (by decide +kernel)) (by decide +kernel), gd_of (List.mem_of_getElem? (i := 48) (by decide +kernel)) (by decide +kernel)⟩
theorem mw_X8_ends : MWv yX8_ends cX8_ends 2 (some .int) 1 := ⟨⟨gd_of (List.mem_of_getElem? (i := 96) (by decide +kernel)) (by decide +kernel), gd_of (List.mem_of_getElem? (i := 665) (by decide +kernel)) rfl, by decide +kernel⟩, gd_of (List.mem_of_getElem? (i := 663) (by decide +kernel)) (by decide +kernel), gd_of (List.mem_of_getElem? (i := 664) (by decide +kernel)) (by decide +kernel)⟩
theorem mw_X0_end : MWv yX0_end cX0_end 2 (some .int) 1 := ⟨⟨gd_of (List.mem_of_getElem? (i := 102) (by decide +kernel)) (by decide +kernel), gd_of (List.mem_of_getElem? (i := 669) (by decide +kernel)) rfl, by decide +kernel⟩, gd_of (List.mem_of_getElem? (i := 668) (by decide +kernel)) (by decide +kernel), gd_of (List.mem_of_getElem? (i := 49) (by decide +kernel)) (by decide +kernel)⟩
theorem mw_X8_guards : MWv yX8_guards cX8_guards 4 (some .int) 2 := ⟨⟨gd_of (List.mem_of_getElem? (i := 96) (by decide +kernel)) (by decide +kernel), gd_of (List.mem_of_getElem? (i := 673) (by decide +kernel)) rfl, by decide +kernel⟩, gd_of (List.mem_of_getElem? (i := 671) (by decide +kernel)) (by decide +kernel), gd_of (List.mem_of_getElem? (i := 672) (by decide +kernel)) (by decide +kernel)⟩
theorem mw_X8_seeds : MWv yX8_seeds cX8_seeds 3 (some .int) 1 := ⟨⟨gd_of (List.mem_of_getElem? (i := 96) (by decide +kernel)) (by decide +kernel), gd_of (List.mem_of_getElem? (i := 678) (by decide +kernel)) rfl, by decide +kernel⟩, gd_of (List.mem_of_getElem? (i := 676) (by decide +kernel)) (by decide +kernel), gd_of (List.mem_of_getElem? (i := 677) (by decide +kernel)) (by decide +kernel)⟩
theorem mw_X8_undo : MWv yX8_undo cX8_undo 1 (some .int) 0 := ⟨⟨gd_of (List.mem_of_getElem? (i := 96) (by decide +kernel)) (by decide +kernel), gd_of (List.mem_of_getElem? (i := 682) (by decide +kernel)) rfl, by decide +kernel⟩, gd_of (List.mem_of_getElem? (i := 680) (by decide +kernel)) (by decide +kernel), gd_of (List.mem_of_getElem? (i := 681) (by decide +kernel)) (by decide +kernel)⟩
theorem mw_X1_bringBack : MWv yX1_bringBack cX1_bringBack 4 (some .boolean) 1 := ⟨⟨gd_of (List.mem_of_getElem? (i := 103) (by decide +kernel)) (by decide +kernel), gd_of (List.mem_of_getElem? (i := 686) (by decide +kernel)) rfl, by decide +kernel⟩, gd_of (List.mem_of_getElem? (i := 685) (by decide +kernel)) (by decide +kernel), gd_of (List.mem_of_getElem? (i := 50) (by decide +kernel)) (by decide +kernel)⟩
theorem mw_X8_cell : MWv yX8_cell cX8_cell 3 (some .int) 2 := ⟨⟨gd_of (List.mem_of_getElem? (i := 96) (by decide +kernel)) (by decide +kernel), gd_of (List.mem_of_getElem? (i := 690) (by decide +kernel)) rfl, by decide +kernel⟩, gd_of (List.mem_of_getElem? (i := 688) (by decide +kernel)) (by decide +kernel), gd_of (List.mem_of_getElem? (i := 689) (by decide +kernel)) (by decide +kernel)⟩
theorem mw_X8_call : MWv yX8_call cX8_call 3 (some .int) 2 := ⟨⟨gd_of (List.mem_of_getElem? (i := 96) (by decide +kernel)) (by decide +kernel), gd_of (List.mem_of_getElem? (i := 697) (by decide +kernel)) rfl, by decide +kernel⟩, gd_of (List.mem_of_getElem? (i := 695) (by decide +kernel)) (by decide +kernel), gd_of (List.mem_of_getElem? (i := 696) (by decide +kernel)) (by decide +kernel)⟩
theorem mw_X8_level : MWv yX8_level cX8_level 5 (some .int) 3 := ⟨⟨gd_of (List.mem_of_getElem? (i := 96) (by decide +kernel)) (by decide +kernel), gd_of (List.mem_of_getElem? (i := 702) (by decide +kernel)) rfl, by decide +kernel⟩, gd_of (List.mem_of_getElem? (i := 700) (by decide +kernel)) (by decide +kernel), gd_of (List.mem_of_getElem? (i := 701) (by decide +kernel)) (by decide +kernel)⟩
theorem mw_X8_queued : MWv yX8_queued cX8_queued 3 (some .int) 2 := ⟨⟨gd_of (List.mem_of_getElem? (i := 96) (by decide +kernel)) (by decide +kernel), gd_of (List.mem_of_getElem? (i := 706) (by decide +kernel)) rfl, by decide +kernel⟩, gd_of (List.mem_of_getElem? (i := 704) (by decide +kernel)) (by decide +kernel), gd_of (List.mem_of_getElem? (i := 705) (by decide +kernel)) (by decide +kernel)⟩
theorem mw_X8_pair : MWv yX8_pair cX8_pair 3 (some .int) 2 := ⟨⟨gd_of (List.mem_of_getElem? (i := 96) (by decide +kernel)) (by decide +kernel), gd_of (List.mem_of_getElem? (i := 711) (by decide +kernel)) rfl, by decide +kernel⟩, gd_of (List.mem_of_getElem? (i := 709) (by decide +kernel)) (by decide +kernel), gd_of (List.mem_of_getElem? (i := 710) (by decide +kernel)) (by decide +kernel)⟩
theorem mw_X8_lost : MWv yX8_lost cX8_lost 13 (some .long) 6 := ⟨⟨gd_of (List.mem_of_getElem? (i := 96) (by decide +kernel)) (by decide +kernel), gd_of (List.mem_of_getElem? (i := 715) (by decide +kernel)) rfl, by decide +kernel⟩, gd_of (List.mem_of_getElem? (i := 713) (by decide +kernel)) (by decide +kernel), gd_of (List.mem_of_getElem? (i := 714) (by decide +kernel)) (by decide +kernel)⟩
theorem mw_X8_areRates : MWs yX8_areRates cX8_areRates 3 (some .boolean) 3 := ⟨⟨gd_of (List.mem_of_getElem? (i := 96) (by decide +kernel)) (by decide +kernel), gd_of (List.mem_of_getElem? (i := 718) (by decide +kernel)) rfl, by decide +kernel⟩, gd_of (List.mem_of_getElem? (i := 717) (by decide +kernel)) (by decide +kernel)⟩
theorem mw_X3_weigh : MWv yX3_weigh cX3_weigh 10 none 5 := ⟨⟨gd_of (List.mem_of_getElem? (i := 105) (by decide +kernel)) (by decide +kernel), gd_of (List.mem_of_getElem? (i := 723) (by decide +kernel)) rfl, by decide +kernel⟩, gd_of (List.mem_of_getElem? (i := 722) (by decide +kernel)) (by decide +kernel), gd_of (List.mem_of_getElem? (i := 51) (by decide +kernel)) (by decide +kernel)⟩
theorem mw_X3_chanceWith : MWv yX3_chanceWith cX3_chanceWith 2 (some .int) 1 := ⟨⟨gd_of (List.mem_of_getElem? (i := 105) (by decide +kernel)) (by decide +kernel), gd_of (List.mem_of_getElem? (i := 728) (by decide +kernel)) rfl, by decide +kernel⟩, gd_of (List.mem_of_getElem? (i := 727) (by decide +kernel)) (by decide +kernel), gd_of (List.mem_of_getElem? (i := 52) (by decide +kernel)) (by decide +kernel)⟩
theorem mw_X3_upper : MWv yX3_upper cX3_upper 5 (some .long) 1 := ⟨⟨gd_of (List.mem_of_getElem? (i := 105) (by decide +kernel)) (by decide +kernel), gd_of (List.mem_of_getElem? (i := 733) (by decide +kernel)) rfl, by decide +kernel⟩, gd_of (List.mem_of_getElem? (i := 732) (by decide +kernel)) (by decide +kernel), gd_of (List.mem_of_getElem? (i := 53) (by decide +kernel)) (by decide +kernel)⟩
theorem mw_X3_lower : MWv yX3_lower cX3_lower 2 (some .long) 1 := ⟨⟨gd_of (List.mem_of_getElem? (i := 105) (by decide +kernel)) (by decide +kernel), gd_of (List.mem_of_getElem? (i := 737) (by decide +kernel)) rfl, by decide +kernel⟩, gd_of (List.mem_of_getElem? (i := 736) (by decide +kernel)) (by decide +kernel), gd_of (List.mem_of_getElem? (i := 54) (by decide +kernel)) (by decide +kernel)⟩
theorem mw_X3_allWeights : MWv yX3_allWeights cX3_allWeights 4 (some .long) 0 := ⟨⟨gd_of (List.mem_of_getElem? (i := 105) (by decide +kernel)) (by decide +kernel), gd_of (List.mem_of_getElem? (i := 742) (by decide +kernel)) rfl, by decide +kernel⟩, gd_of (List.mem_of_getElem? (i := 741) (by decide +kernel)) (by decide +kernel), gd_of (List.mem_of_getElem? (i := 55) (by decide +kernel)) (by decide +kernel)⟩
theorem mw_X8_commonDivisor : MWs yX8_commonDivisor cX8_commonDivisor 11 (some .long) 2 := ⟨⟨gd_of (List.mem_of_getElem? (i := 96) (by decide +kernel)) (by decide +kernel), gd_of (List.mem_of_getElem? (i := 745) (by decide +kernel)) rfl, by decide +kernel⟩, gd_of (List.mem_of_getElem? (i := 744) (by decide +kernel)) (by decide +kernel)⟩
theorem mw_X8_best : MWv yX8_best cX8_best 8 (some .int) 5 := ⟨⟨gd_of (List.mem_of_getElem? (i := 96) (by decide +kernel)) (by decide +kernel), gd_of (List.mem_of_getElem? (i := 749) (by decide +kernel)) rfl, by decide +kernel⟩, gd_of (List.mem_of_getElem? (i := 747) (by decide +kernel)) (by decide +kernel), gd_of (List.mem_of_getElem? (i := 748) (by decide +kernel)) (by decide +kernel)⟩
theorem mw_X3_losesMovingAtMostOnceIn : MWv yX3_losesMovingAtMostOnceIn cX3_losesMovingAtMostOnceIn 2 (some .boolean) 1 := ⟨⟨gd_of (List.mem_of_getElem? (i := 105) (by decide +kernel)) (by decide +kernel), gd_of (List.mem_of_getElem? (i := 753) (by decide +kernel)) rfl, by decide +kernel⟩, gd_of (List.mem_of_getElem? (i := 752) (by decide +kernel)) (by decide +kernel), gd_of (List.mem_of_getElem? (i := 56) (by decide +kernel)) (by decide +kernel)⟩
theorem mw_X8_sees : MWv yX8_sees cX8_sees 3 (some .int) 2 := ⟨⟨gd_of (List.mem_of_getElem? (i := 96) (by decide +kernel)) (by decide +kernel), gd_of (List.mem_of_getElem? (i := 759) (by decide +kernel)) rfl, by decide +kernel⟩, gd_of (List.mem_of_getElem? (i := 757) (by decide +kernel)) (by decide +kernel), gd_of (List.mem_of_getElem? (i := 758) (by decide +kernel)) (by decide +kernel)⟩
theorem mw_X5_add : MWv yX5_add cX5_add 3 (some .boolean) 2 := ⟨⟨gd_of (List.mem_of_getElem? (i := 106) (by decide +kernel)) (by decide +kernel), gd_of (List.mem_of_getElem? (i := 763) (by decide +kernel)) rfl, by decide +kernel⟩, gd_of (List.mem_of_getElem? (i := 762) (by decide +kernel)) (by decide +kernel), gd_of (List.mem_of_getElem? (i := 57) (by decide +kernel)) (by decide +kernel)⟩
theorem mw_X8_forget : MWv yX8_forget cX8_forget 2 (some .int) 0 := ⟨⟨gd_of (List.mem_of_getElem? (i := 96) (by decide +kernel)) (by decide +kernel), gd_of (List.mem_of_getElem? (i := 767) (by decide +kernel)) rfl, by decide +kernel⟩, gd_of (List.mem_of_getElem? (i := 765) (by decide +kernel)) (by decide +kernel), gd_of (List.mem_of_getElem? (i := 766) (by decide +kernel)) (by decide +kernel)⟩
theorem mw_X8_unseen : MWv yX8_unseen cX8_unseen 8 (some .int) 2 := ⟨⟨gd_of (List.mem_of_getElem? (i := 96) (by decide +kernel)) (by decide +kernel), gd_of (List.mem_of_getElem? (i := 771) (by decide +kernel)) rfl, by decide +kernel⟩, gd_of (List.mem_of_getElem? (i := 769) (by decide +kernel)) (by decide +kernel), gd_of (List.mem_of_getElem? (i := 770) (by decide +kernel)) (by decide +kernel)⟩
theorem mw_X5_allow : MWv yX5_allow cX5_allow 4 (some .boolean) 1 := ⟨⟨gd_of (List.mem_of_getElem? (i := 106) (by decide +kernel)) (by decide +kernel), gd_of (List.mem_of_getElem? (i := 775) (by decide +kernel)) rfl, by decide +kernel⟩, gd_of (List.mem_of_getElem? (i := 774) (by decide +kernel)) (by decide +kernel), gd_of (List.mem_of_getElem? (i := 58) (by decide +kernel)) (by decide +kernel)⟩
theorem mw_X8_keep : MWv yX8_keep cX8_keep 2 (some .int) 1 := ⟨⟨gd_of (List.mem_of_getElem? (i := 96) (by decide +kernel)) (by decide +kernel), gd_of (List.mem_of_getElem? (i := 780) (by decide +kernel)) rfl, by decide +kernel⟩, gd_of (List.mem_of_getElem? (i := 778) (by decide +kernel)) (by decide +kernel), gd_of (List.mem_of_getElem? (i := 779) (by decide +kernel)) (by decide +kernel)⟩
theorem mw_X2_store : MWv yX2_store cX2_store 4 none 2 := ⟨⟨gd_of (List.mem_of_getElem? (i := 104) (by decide +kernel)) (by decide +kernel), gd_of (List.mem_of_getElem? (i := 784) (by decide +kernel)) rfl, by decide +kernel⟩, gd_of (List.mem_of_getElem? (i := 783) (by decide +kernel)) (by decide +kernel), gd_of (List.mem_of_getElem? (i := 59) (by decide +kernel)) (by decide +kernel)⟩
theorem mw_X7_present : MWv yX7_present cX7_present 1 (some .int) 0 := ⟨⟨gd_of (List.mem_of_getElem? (i := 100) (by decide +kernel)) (by decide +kernel), gd_of (List.mem_of_getElem? (i := 789) (by decide +kernel)) rfl, by decide +kernel⟩, gd_of (List.mem_of_getElem? (i := 788) (by decide +kernel)) (by decide +kernel), gd_of (List.mem_of_getElem? (i := 60) (by decide +kernel)) (by decide +kernel)⟩
theorem mw_X8_back : MWv yX8_back cX8_back 2 (some .int) 1 := ⟨⟨gd_of (List.mem_of_getElem? (i := 96) (by decide +kernel)) (by decide +kernel), gd_of (List.mem_of_getElem? (i := 793) (by decide +kernel)) rfl, by decide +kernel⟩, gd_of (List.mem_of_getElem? (i := 791) (by decide +kernel)) (by decide +kernel), gd_of (List.mem_of_getElem? (i := 792) (by decide +kernel)) (by decide +kernel)⟩
theorem mw_X2_bringBack : MWv yX2_bringBack cX2_bringBack 4 (some .boolean) 2 := ⟨⟨gd_of (List.mem_of_getElem? (i := 104) (by decide +kernel)) (by decide +kernel), gd_of (List.mem_of_getElem? (i := 797) (by decide +kernel)) rfl, by decide +kernel⟩, gd_of (List.mem_of_getElem? (i := 796) (by decide +kernel)) (by decide +kernel), gd_of (List.mem_of_getElem? (i := 61) (by decide +kernel)) (by decide +kernel)⟩
theorem mw_X8_count : MWv yX8_count cX8_count 2 (some .int) 1 := ⟨⟨gd_of (List.mem_of_getElem? (i := 96) (by decide +kernel)) (by decide +kernel), gd_of (List.mem_of_getElem? (i := 801) (by decide +kernel)) rfl, by decide +kernel⟩, gd_of (List.mem_of_getElem? (i := 799) (by decide +kernel)) (by decide +kernel), gd_of (List.mem_of_getElem? (i := 800) (by decide +kernel)) (by decide +kernel)⟩
theorem mw_X9_type : MWv yX9_type cX9_type 2 (some .int) 1 := ⟨⟨gd_of (List.mem_of_getElem? (i := 107) (by decide +kernel)) (by decide +kernel), gd_of (List.mem_of_getElem? (i := 896) (by decide +kernel)) rfl, by decide +kernel⟩, gd_of (List.mem_of_getElem? (i := 894) (by decide +kernel)) (by decide +kernel), gd_of (List.mem_of_getElem? (i := 895) (by decide +kernel)) (by decide +kernel)⟩
theorem mw_X9_in : MWs yX9_in cX9_in 6 (some .boolean) 3 := ⟨⟨gd_of (List.mem_of_getElem? (i := 107) (by decide +kernel)) (by decide +kernel), gd_of (List.mem_of_getElem? (i := 900) (by decide +kernel)) rfl, by decide +kernel⟩, gd_of (List.mem_of_getElem? (i := 899) (by decide +kernel)) (by decide +kernel)⟩
theorem mw_X9_clear : MWv yX9_clear cX9_clear 2 (some .int) 0 := ⟨⟨gd_of (List.mem_of_getElem? (i := 107) (by decide +kernel)) (by decide +kernel), gd_of (List.mem_of_getElem? (i := 904) (by decide +kernel)) rfl, by decide +kernel⟩, gd_of (List.mem_of_getElem? (i := 902) (by decide +kernel)) (by decide +kernel), gd_of (List.mem_of_getElem? (i := 903) (by decide +kernel)) (by decide +kernel)⟩
theorem mw_X9_tells : MWv yX9_tells cX9_tells 2 (some .int) 0 := ⟨⟨gd_of (List.mem_of_getElem? (i := 107) (by decide +kernel)) (by decide +kernel), gd_of (List.mem_of_getElem? (i := 908) (by decide +kernel)) rfl, by decide +kernel⟩, gd_of (List.mem_of_getElem? (i := 906) (by decide +kernel)) (by decide +kernel), gd_of (List.mem_of_getElem? (i := 907) (by decide +kernel)) (by decide +kernel)⟩
theorem mw_X9_reads : MWv yX9_reads cX9_reads 1 (some .boolean) 0 := ⟨⟨gd_of (List.mem_of_getElem? (i := 107) (by decide +kernel)) (by decide +kernel), gd_of (List.mem_of_getElem? (i := 912) (by decide +kernel)) rfl, by decide +kernel⟩, gd_of (List.mem_of_getElem? (i := 911) (by decide +kernel)) (by decide +kernel), gd_of (List.mem_of_getElem? (i := 62) (by decide +kernel)) (by decide +kernel)⟩
theorem mw_X9_take : MWv yX9_take cX9_take 2 none 0 := ⟨⟨gd_of (List.mem_of_getElem? (i := 107) (by decide +kernel)) (by decide +kernel), gd_of (List.mem_of_getElem? (i := 916) (by decide +kernel)) rfl, by decide +kernel⟩, gd_of (List.mem_of_getElem? (i := 915) (by decide +kernel)) (by decide +kernel), gd_of (List.mem_of_getElem? (i := 63) (by decide +kernel)) (by decide +kernel)⟩
theorem mw_X9_which : MWs yX9_which cX9_which 1 (some .int) 1 := ⟨⟨gd_of (List.mem_of_getElem? (i := 107) (by decide +kernel)) (by decide +kernel), gd_of (List.mem_of_getElem? (i := 919) (by decide +kernel)) rfl, by decide +kernel⟩, gd_of (List.mem_of_getElem? (i := 918) (by decide +kernel)) (by decide +kernel)⟩
theorem mw_X9_isFigure : MWs yX9_isFigure cX9_isFigure 1 (some .boolean) 1 := ⟨⟨gd_of (List.mem_of_getElem? (i := 107) (by decide +kernel)) (by decide +kernel), gd_of (List.mem_of_getElem? (i := 922) (by decide +kernel)) rfl, by decide +kernel⟩, gd_of (List.mem_of_getElem? (i := 921) (by decide +kernel)) (by decide +kernel)⟩
theorem mw_X9_readsItem : MWv yX9_readsItem cX9_readsItem 3 (some .boolean) 0 := ⟨⟨gd_of (List.mem_of_getElem? (i := 107) (by decide +kernel)) (by decide +kernel), gd_of (List.mem_of_getElem? (i := 928) (by decide +kernel)) rfl, by decide +kernel⟩, gd_of (List.mem_of_getElem? (i := 927) (by decide +kernel)) (by decide +kernel), gd_of (List.mem_of_getElem? (i := 64) (by decide +kernel)) (by decide +kernel)⟩
theorem mw_X9_readsCell : MWv yX9_readsCell cX9_readsCell 1 (some .boolean) 0 := ⟨⟨gd_of (List.mem_of_getElem? (i := 107) (by decide +kernel)) (by decide +kernel), gd_of (List.mem_of_getElem? (i := 932) (by decide +kernel)) rfl, by decide +kernel⟩, gd_of (List.mem_of_getElem? (i := 931) (by decide +kernel)) (by decide +kernel), gd_of (List.mem_of_getElem? (i := 65) (by decide +kernel)) (by decide +kernel)⟩
theorem mw_X9_keeps : MWv yX9_keeps cX9_keeps 3 (some .boolean) 2 := ⟨⟨gd_of (List.mem_of_getElem? (i := 107) (by decide +kernel)) (by decide +kernel), gd_of (List.mem_of_getElem? (i := 936) (by decide +kernel)) rfl, by decide +kernel⟩, gd_of (List.mem_of_getElem? (i := 935) (by decide +kernel)) (by decide +kernel), gd_of (List.mem_of_getElem? (i := 66) (by decide +kernel)) (by decide +kernel)⟩
theorem mw_X9_readsNumber : MWv yX9_readsNumber cX9_readsNumber 4 (some .boolean) 2 := ⟨⟨gd_of (List.mem_of_getElem? (i := 107) (by decide +kernel)) (by decide +kernel), gd_of (List.mem_of_getElem? (i := 940) (by decide +kernel)) rfl, by decide +kernel⟩, gd_of (List.mem_of_getElem? (i := 939) (by decide +kernel)) (by decide +kernel), gd_of (List.mem_of_getElem? (i := 67) (by decide +kernel)) (by decide +kernel)⟩
theorem mw_X9_least : MWs yX9_least cX9_least 1 (some .int) 1 := ⟨⟨gd_of (List.mem_of_getElem? (i := 107) (by decide +kernel)) (by decide +kernel), gd_of (List.mem_of_getElem? (i := 943) (by decide +kernel)) rfl, by decide +kernel⟩, gd_of (List.mem_of_getElem? (i := 942) (by decide +kernel)) (by decide +kernel)⟩
theorem mw_X9_most : MWs yX9_most cX9_most 1 (some .int) 1 := ⟨⟨gd_of (List.mem_of_getElem? (i := 107) (by decide +kernel)) (by decide +kernel), gd_of (List.mem_of_getElem? (i := 946) (by decide +kernel)) rfl, by decide +kernel⟩, gd_of (List.mem_of_getElem? (i := 945) (by decide +kernel)) (by decide +kernel)⟩
theorem mw_X9_offers : MWv yX9_offers cX9_offers 6 (some .int) 2 := ⟨⟨gd_of (List.mem_of_getElem? (i := 107) (by decide +kernel)) (by decide +kernel), gd_of (List.mem_of_getElem? (i := 950) (by decide +kernel)) rfl, by decide +kernel⟩, gd_of (List.mem_of_getElem? (i := 948) (by decide +kernel)) (by decide +kernel), gd_of (List.mem_of_getElem? (i := 949) (by decide +kernel)) (by decide +kernel)⟩
theorem mw_X9_isCell : MWv yX9_isCell cX9_isCell 2 (some .boolean) 1 := ⟨⟨gd_of (List.mem_of_getElem? (i := 107) (by decide +kernel)) (by decide +kernel), gd_of (List.mem_of_getElem? (i := 954) (by decide +kernel)) rfl, by decide +kernel⟩, gd_of (List.mem_of_getElem? (i := 953) (by decide +kernel)) (by decide +kernel), gd_of (List.mem_of_getElem? (i := 68) (by decide +kernel)) (by decide +kernel)⟩
theorem mw_X9_calls : MWv yX9_calls cX9_calls 3 (some .int) 0 := ⟨⟨gd_of (List.mem_of_getElem? (i := 107) (by decide +kernel)) (by decide +kernel), gd_of (List.mem_of_getElem? (i := 959) (by decide +kernel)) rfl, by decide +kernel⟩, gd_of (List.mem_of_getElem? (i := 958) (by decide +kernel)) (by decide +kernel), gd_of (List.mem_of_getElem? (i := 69) (by decide +kernel)) (by decide +kernel)⟩
theorem mw_X9_get : MWv yX9_get cX9_get 3 (some .int) 2 := ⟨⟨gd_of (List.mem_of_getElem? (i := 107) (by decide +kernel)) (by decide +kernel), gd_of (List.mem_of_getElem? (i := 963) (by decide +kernel)) rfl, by decide +kernel⟩, gd_of (List.mem_of_getElem? (i := 962) (by decide +kernel)) (by decide +kernel), gd_of (List.mem_of_getElem? (i := 70) (by decide +kernel)) (by decide +kernel)⟩
theorem mw_X9_minds : MWv yX9_minds cX9_minds 2 none 0 := ⟨⟨gd_of (List.mem_of_getElem? (i := 107) (by decide +kernel)) (by decide +kernel), gd_of (List.mem_of_getElem? (i := 967) (by decide +kernel)) rfl, by decide +kernel⟩, gd_of (List.mem_of_getElem? (i := 966) (by decide +kernel)) (by decide +kernel), gd_of (List.mem_of_getElem? (i := 71) (by decide +kernel)) (by decide +kernel)⟩
theorem mw_X9_copy : MWv yX9_copy cX9_copy 4 none 2 := ⟨⟨gd_of (List.mem_of_getElem? (i := 107) (by decide +kernel)) (by decide +kernel), gd_of (List.mem_of_getElem? (i := 971) (by decide +kernel)) rfl, by decide +kernel⟩, gd_of (List.mem_of_getElem? (i := 970) (by decide +kernel)) (by decide +kernel), gd_of (List.mem_of_getElem? (i := 72) (by decide +kernel)) (by decide +kernel)⟩
theorem mw_X9_counts : MWv yX9_counts cX9_counts 3 none 2 := ⟨⟨gd_of (List.mem_of_getElem? (i := 107) (by decide +kernel)) (by decide +kernel), gd_of (List.mem_of_getElem? (i := 975) (by decide +kernel)) rfl, by decide +kernel⟩, gd_of (List.mem_of_getElem? (i := 974) (by decide +kernel)) (by decide +kernel), gd_of (List.mem_of_getElem? (i := 73) (by decide +kernel)) (by decide +kernel)⟩
theorem mw_X9_chance : MWv yX9_chance cX9_chance 2 (some .int) 1 := ⟨⟨gd_of (List.mem_of_getElem? (i := 107) (by decide +kernel)) (by decide +kernel), gd_of (List.mem_of_getElem? (i := 979) (by decide +kernel)) rfl, by decide +kernel⟩, gd_of (List.mem_of_getElem? (i := 978) (by decide +kernel)) (by decide +kernel), gd_of (List.mem_of_getElem? (i := 74) (by decide +kernel)) (by decide +kernel)⟩
theorem mw_X9_free : MWv yX9_free cX9_free 2 (some .int) 1 := ⟨⟨gd_of (List.mem_of_getElem? (i := 107) (by decide +kernel)) (by decide +kernel), gd_of (List.mem_of_getElem? (i := 983) (by decide +kernel)) rfl, by decide +kernel⟩, gd_of (List.mem_of_getElem? (i := 982) (by decide +kernel)) (by decide +kernel), gd_of (List.mem_of_getElem? (i := 75) (by decide +kernel)) (by decide +kernel)⟩
theorem mw_X9_busy : MWv yX9_busy cX9_busy 4 (some .int) 1 := ⟨⟨gd_of (List.mem_of_getElem? (i := 107) (by decide +kernel)) (by decide +kernel), gd_of (List.mem_of_getElem? (i := 987) (by decide +kernel)) rfl, by decide +kernel⟩, gd_of (List.mem_of_getElem? (i := 986) (by decide +kernel)) (by decide +kernel), gd_of (List.mem_of_getElem? (i := 76) (by decide +kernel)) (by decide +kernel)⟩
theorem mw_X9_chanceBy : MWs yX9_chanceBy cX9_chanceBy 3 (some .int) 2 := ⟨⟨gd_of (List.mem_of_getElem? (i := 107) (by decide +kernel)) (by decide +kernel), gd_of (List.mem_of_getElem? (i := 990) (by decide +kernel)) rfl, by decide +kernel⟩, gd_of (List.mem_of_getElem? (i := 989) (by decide +kernel)) (by decide +kernel)⟩
theorem mw_X9_lesser : MWs yX9_lesser cX9_lesser 2 (some .int) 2 := ⟨⟨gd_of (List.mem_of_getElem? (i := 107) (by decide +kernel)) (by decide +kernel), gd_of (List.mem_of_getElem? (i := 993) (by decide +kernel)) rfl, by decide +kernel⟩, gd_of (List.mem_of_getElem? (i := 992) (by decide +kernel)) (by decide +kernel)⟩
theorem mw_X9_draw : MWv yX9_draw cX9_draw 1 (some .int) 0 := ⟨⟨gd_of (List.mem_of_getElem? (i := 107) (by decide +kernel)) (by decide +kernel), gd_of (List.mem_of_getElem? (i := 997) (by decide +kernel)) rfl, by decide +kernel⟩, gd_of (List.mem_of_getElem? (i := 996) (by decide +kernel)) (by decide +kernel), gd_of (List.mem_of_getElem? (i := 77) (by decide +kernel)) (by decide +kernel)⟩
theorem mw_X9_set : MWv yX9_set cX9_set 4 none 3 := ⟨⟨gd_of (List.mem_of_getElem? (i := 107) (by decide +kernel)) (by decide +kernel), gd_of (List.mem_of_getElem? (i := 1002) (by decide +kernel)) rfl, by decide +kernel⟩, gd_of (List.mem_of_getElem? (i := 1001) (by decide +kernel)) (by decide +kernel), gd_of (List.mem_of_getElem? (i := 78) (by decide +kernel)) (by decide +kernel)⟩
theorem mw_X9_hears : MWv yX9_hears cX9_hears 10 (some .int) 5 := ⟨⟨gd_of (List.mem_of_getElem? (i := 107) (by decide +kernel)) (by decide +kernel), gd_of (List.mem_of_getElem? (i := 1006) (by decide +kernel)) rfl, by decide +kernel⟩, gd_of (List.mem_of_getElem? (i := 1004) (by decide +kernel)) (by decide +kernel), gd_of (List.mem_of_getElem? (i := 1005) (by decide +kernel)) (by decide +kernel)⟩
theorem mw_X9_isCall : MWv yX9_isCall cX9_isCall 2 (some .boolean) 1 := ⟨⟨gd_of (List.mem_of_getElem? (i := 107) (by decide +kernel)) (by decide +kernel), gd_of (List.mem_of_getElem? (i := 1010) (by decide +kernel)) rfl, by decide +kernel⟩, gd_of (List.mem_of_getElem? (i := 1009) (by decide +kernel)) (by decide +kernel), gd_of (List.mem_of_getElem? (i := 79) (by decide +kernel)) (by decide +kernel)⟩
theorem mw_X9_isValue : MWv yX9_isValue cX9_isValue 3 (some .boolean) 2 := ⟨⟨gd_of (List.mem_of_getElem? (i := 107) (by decide +kernel)) (by decide +kernel), gd_of (List.mem_of_getElem? (i := 1015) (by decide +kernel)) rfl, by decide +kernel⟩, gd_of (List.mem_of_getElem? (i := 1014) (by decide +kernel)) (by decide +kernel), gd_of (List.mem_of_getElem? (i := 80) (by decide +kernel)) (by decide +kernel)⟩
theorem mw_X9_listens : MWv yX9_listens cX9_listens 5 none 3 := ⟨⟨gd_of (List.mem_of_getElem? (i := 107) (by decide +kernel)) (by decide +kernel), gd_of (List.mem_of_getElem? (i := 1019) (by decide +kernel)) rfl, by decide +kernel⟩, gd_of (List.mem_of_getElem? (i := 1018) (by decide +kernel)) (by decide +kernel), gd_of (List.mem_of_getElem? (i := 81) (by decide +kernel)) (by decide +kernel)⟩
theorem mw_X9_streaks : MWv yX9_streaks cX9_streaks 5 none 1 := ⟨⟨gd_of (List.mem_of_getElem? (i := 107) (by decide +kernel)) (by decide +kernel), gd_of (List.mem_of_getElem? (i := 1023) (by decide +kernel)) rfl, by decide +kernel⟩, gd_of (List.mem_of_getElem? (i := 1022) (by decide +kernel)) (by decide +kernel), gd_of (List.mem_of_getElem? (i := 82) (by decide +kernel)) (by decide +kernel)⟩
theorem mw_X9_target : MWv yX9_target cX9_target 5 (some .int) 1 := ⟨⟨gd_of (List.mem_of_getElem? (i := 107) (by decide +kernel)) (by decide +kernel), gd_of (List.mem_of_getElem? (i := 1027) (by decide +kernel)) rfl, by decide +kernel⟩, gd_of (List.mem_of_getElem? (i := 1026) (by decide +kernel)) (by decide +kernel), gd_of (List.mem_of_getElem? (i := 83) (by decide +kernel)) (by decide +kernel)⟩
theorem mw_X9_asks : MWv yX9_asks cX9_asks 3 (some .int) 2 := ⟨⟨gd_of (List.mem_of_getElem? (i := 107) (by decide +kernel)) (by decide +kernel), gd_of (List.mem_of_getElem? (i := 1031) (by decide +kernel)) rfl, by decide +kernel⟩, gd_of (List.mem_of_getElem? (i := 1030) (by decide +kernel)) (by decide +kernel), gd_of (List.mem_of_getElem? (i := 84) (by decide +kernel)) (by decide +kernel)⟩
theorem mw_X9_moves : MWv yX9_moves cX9_moves 6 none 2 := ⟨⟨gd_of (List.mem_of_getElem? (i := 107) (by decide +kernel)) (by decide +kernel), gd_of (List.mem_of_getElem? (i := 1035) (by decide +kernel)) rfl, by decide +kernel⟩, gd_of (List.mem_of_getElem? (i := 1034) (by decide +kernel)) (by decide +kernel), gd_of (List.mem_of_getElem? (i := 85) (by decide +kernel)) (by decide +kernel)⟩
theorem mw_X9_pairs : MWv yX9_pairs cX9_pairs 4 none 2 := ⟨⟨gd_of (List.mem_of_getElem? (i := 107) (by decide +kernel)) (by decide +kernel), gd_of (List.mem_of_getElem? (i := 1039) (by decide +kernel)) rfl, by decide +kernel⟩, gd_of (List.mem_of_getElem? (i := 1038) (by decide +kernel)) (by decide +kernel), gd_of (List.mem_of_getElem? (i := 86) (by decide +kernel)) (by decide +kernel)⟩
theorem mw_X9_frees : MWv yX9_frees cX9_frees 2 none 1 := ⟨⟨gd_of (List.mem_of_getElem? (i := 107) (by decide +kernel)) (by decide +kernel), gd_of (List.mem_of_getElem? (i := 1043) (by decide +kernel)) rfl, by decide +kernel⟩, gd_of (List.mem_of_getElem? (i := 1042) (by decide +kernel)) (by decide +kernel), gd_of (List.mem_of_getElem? (i := 87) (by decide +kernel)) (by decide +kernel)⟩
theorem mw_X9_waiting : MWv yX9_waiting cX9_waiting 4 (some .int) 1 := ⟨⟨gd_of (List.mem_of_getElem? (i := 107) (by decide +kernel)) (by decide +kernel), gd_of (List.mem_of_getElem? (i := 1047) (by decide +kernel)) rfl, by decide +kernel⟩, gd_of (List.mem_of_getElem? (i := 1046) (by decide +kernel)) (by decide +kernel), gd_of (List.mem_of_getElem? (i := 88) (by decide +kernel)) (by decide +kernel)⟩
theorem mw_X9_leaves : MWv yX9_leaves cX9_leaves 2 none 1 := ⟨⟨gd_of (List.mem_of_getElem? (i := 107) (by decide +kernel)) (by decide +kernel), gd_of (List.mem_of_getElem? (i := 1051) (by decide +kernel)) rfl, by decide +kernel⟩, gd_of (List.mem_of_getElem? (i := 1050) (by decide +kernel)) (by decide +kernel), gd_of (List.mem_of_getElem? (i := 89) (by decide +kernel)) (by decide +kernel)⟩
theorem mw_X9_serves : MWv yX9_serves cX9_serves 4 none 0 := ⟨⟨gd_of (List.mem_of_getElem? (i := 107) (by decide +kernel)) (by decide +kernel), gd_of (List.mem_of_getElem? (i := 1055) (by decide +kernel)) rfl, by decide +kernel⟩, gd_of (List.mem_of_getElem? (i := 1054) (by decide +kernel)) (by decide +kernel), gd_of (List.mem_of_getElem? (i := 90) (by decide +kernel)) (by decide +kernel)⟩
theorem mw_X9_queuedAt : MWv yX9_queuedAt cX9_queuedAt 7 (some .int) 2 := ⟨⟨gd_of (List.mem_of_getElem? (i := 107) (by decide +kernel)) (by decide +kernel), gd_of (List.mem_of_getElem? (i := 1059) (by decide +kernel)) rfl, by decide +kernel⟩, gd_of (List.mem_of_getElem? (i := 1058) (by decide +kernel)) (by decide +kernel), gd_of (List.mem_of_getElem? (i := 91) (by decide +kernel)) (by decide +kernel)⟩
theorem mw_X9_isAhead : MWv yX9_isAhead cX9_isAhead 10 (some .boolean) 2 := ⟨⟨gd_of (List.mem_of_getElem? (i := 107) (by decide +kernel)) (by decide +kernel), gd_of (List.mem_of_getElem? (i := 1063) (by decide +kernel)) rfl, by decide +kernel⟩, gd_of (List.mem_of_getElem? (i := 1062) (by decide +kernel)) (by decide +kernel), gd_of (List.mem_of_getElem? (i := 92) (by decide +kernel)) (by decide +kernel)⟩
theorem mw_X9_ends : MWv yX9_ends cX9_ends 2 (some .int) 1 := ⟨⟨gd_of (List.mem_of_getElem? (i := 107) (by decide +kernel)) (by decide +kernel), gd_of (List.mem_of_getElem? (i := 1067) (by decide +kernel)) rfl, by decide +kernel⟩, gd_of (List.mem_of_getElem? (i := 1065) (by decide +kernel)) (by decide +kernel), gd_of (List.mem_of_getElem? (i := 1066) (by decide +kernel)) (by decide +kernel)⟩
theorem mw_X9_guards : MWv yX9_guards cX9_guards 4 (some .int) 2 := ⟨⟨gd_of (List.mem_of_getElem? (i := 107) (by decide +kernel)) (by decide +kernel), gd_of (List.mem_of_getElem? (i := 1071) (by decide +kernel)) rfl, by decide +kernel⟩, gd_of (List.mem_of_getElem? (i := 1069) (by decide +kernel)) (by decide +kernel), gd_of (List.mem_of_getElem? (i := 1070) (by decide +kernel)) (by decide +kernel)⟩
theorem mw_X9_seeds : MWv yX9_seeds cX9_seeds 3 (some .int) 1 := ⟨⟨gd_of (List.mem_of_getElem? (i := 107) (by decide +kernel)) (by decide +kernel), gd_of (List.mem_of_getElem? (i := 1075) (by decide +kernel)) rfl, by decide +kernel⟩, gd_of (List.mem_of_getElem? (i := 1073) (by decide +kernel)) (by decide +kernel), gd_of (List.mem_of_getElem? (i := 1074) (by decide +kernel)) (by decide +kernel)⟩
theorem mw_X9_undo : MWv yX9_undo cX9_undo 1 (some .int) 0 := ⟨⟨gd_of (List.mem_of_getElem? (i := 107) (by decide +kernel)) (by decide +kernel), gd_of (List.mem_of_getElem? (i := 1079) (by decide +kernel)) rfl, by decide +kernel⟩, gd_of (List.mem_of_getElem? (i := 1077) (by decide +kernel)) (by decide +kernel), gd_of (List.mem_of_getElem? (i := 1078) (by decide +kernel)) (by decide +kernel)⟩
theorem mw_X9_cell : MWv yX9_cell cX9_cell 3 (some .int) 2 := ⟨⟨gd_of (List.mem_of_getElem? (i := 107) (by decide +kernel)) (by decide +kernel), gd_of (List.mem_of_getElem? (i := 1083) (by decide +kernel)) rfl, by decide +kernel⟩, gd_of (List.mem_of_getElem? (i := 1081) (by decide +kernel)) (by decide +kernel), gd_of (List.mem_of_getElem? (i := 1082) (by decide +kernel)) (by decide +kernel)⟩
theorem mw_X9_call : MWv yX9_call cX9_call 3 (some .int) 2 := ⟨⟨gd_of (List.mem_of_getElem? (i := 107) (by decide +kernel)) (by decide +kernel), gd_of (List.mem_of_getElem? (i := 1087) (by decide +kernel)) rfl, by decide +kernel⟩, gd_of (List.mem_of_getElem? (i := 1085) (by decide +kernel)) (by decide +kernel), gd_of (List.mem_of_getElem? (i := 1086) (by decide +kernel)) (by decide +kernel)⟩
theorem mw_X9_level : MWv yX9_level cX9_level 4 (some .int) 3 := ⟨⟨gd_of (List.mem_of_getElem? (i := 107) (by decide +kernel)) (by decide +kernel), gd_of (List.mem_of_getElem? (i := 1093) (by decide +kernel)) rfl, by decide +kernel⟩, gd_of (List.mem_of_getElem? (i := 1091) (by decide +kernel)) (by decide +kernel), gd_of (List.mem_of_getElem? (i := 1092) (by decide +kernel)) (by decide +kernel)⟩
theorem mw_X9_queued : MWv yX9_queued cX9_queued 3 (some .int) 2 := ⟨⟨gd_of (List.mem_of_getElem? (i := 107) (by decide +kernel)) (by decide +kernel), gd_of (List.mem_of_getElem? (i := 1097) (by decide +kernel)) rfl, by decide +kernel⟩, gd_of (List.mem_of_getElem? (i := 1095) (by decide +kernel)) (by decide +kernel), gd_of (List.mem_of_getElem? (i := 1096) (by decide +kernel)) (by decide +kernel)⟩
theorem mw_X9_pair : MWv yX9_pair cX9_pair 3 (some .int) 2 := ⟨⟨gd_of (List.mem_of_getElem? (i := 107) (by decide +kernel)) (by decide +kernel), gd_of (List.mem_of_getElem? (i := 1101) (by decide +kernel)) rfl, by decide +kernel⟩, gd_of (List.mem_of_getElem? (i := 1099) (by decide +kernel)) (by decide +kernel), gd_of (List.mem_of_getElem? (i := 1100) (by decide +kernel)) (by decide +kernel)⟩
theorem mw_X9_lost : MWv yX9_lost cX9_lost 14 (some .long) 6 := ⟨⟨gd_of (List.mem_of_getElem? (i := 107) (by decide +kernel)) (by decide +kernel), gd_of (List.mem_of_getElem? (i := 1106) (by decide +kernel)) rfl, by decide +kernel⟩, gd_of (List.mem_of_getElem? (i := 1104) (by decide +kernel)) (by decide +kernel), gd_of (List.mem_of_getElem? (i := 1105) (by decide +kernel)) (by decide +kernel)⟩
theorem mw_X9_areRates : MWs yX9_areRates cX9_areRates 3 (some .boolean) 3 := ⟨⟨gd_of (List.mem_of_getElem? (i := 107) (by decide +kernel)) (by decide +kernel), gd_of (List.mem_of_getElem? (i := 1109) (by decide +kernel)) rfl, by decide +kernel⟩, gd_of (List.mem_of_getElem? (i := 1108) (by decide +kernel)) (by decide +kernel)⟩
theorem mw_X9_shares : MWv yX9_shares cX9_shares 11 (some .long) 5 := ⟨⟨gd_of (List.mem_of_getElem? (i := 107) (by decide +kernel)) (by decide +kernel), gd_of (List.mem_of_getElem? (i := 1116) (by decide +kernel)) rfl, by decide +kernel⟩, gd_of (List.mem_of_getElem? (i := 1115) (by decide +kernel)) (by decide +kernel), gd_of (List.mem_of_getElem? (i := 93) (by decide +kernel)) (by decide +kernel)⟩
theorem mw_X9_divisor : MWs yX9_divisor cX9_divisor 10 (some .long) 2 := ⟨⟨gd_of (List.mem_of_getElem? (i := 107) (by decide +kernel)) (by decide +kernel), gd_of (List.mem_of_getElem? (i := 1119) (by decide +kernel)) rfl, by decide +kernel⟩, gd_of (List.mem_of_getElem? (i := 1118) (by decide +kernel)) (by decide +kernel)⟩
theorem mw_X9_best : MWv yX9_best cX9_best 9 (some .int) 5 := ⟨⟨gd_of (List.mem_of_getElem? (i := 107) (by decide +kernel)) (by decide +kernel), gd_of (List.mem_of_getElem? (i := 1123) (by decide +kernel)) rfl, by decide +kernel⟩, gd_of (List.mem_of_getElem? (i := 1121) (by decide +kernel)) (by decide +kernel), gd_of (List.mem_of_getElem? (i := 1122) (by decide +kernel)) (by decide +kernel)⟩
theorem mw_X9_sees : MWv yX9_sees cX9_sees 3 (some .int) 2 := ⟨⟨gd_of (List.mem_of_getElem? (i := 107) (by decide +kernel)) (by decide +kernel), gd_of (List.mem_of_getElem? (i := 1128) (by decide +kernel)) rfl, by decide +kernel⟩, gd_of (List.mem_of_getElem? (i := 1126) (by decide +kernel)) (by decide +kernel), gd_of (List.mem_of_getElem? (i := 1127) (by decide +kernel)) (by decide +kernel)⟩
theorem mw_X9_forget : MWv yX9_forget cX9_forget 2 (some .int) 0 := ⟨⟨gd_of (List.mem_of_getElem? (i := 107) (by decide +kernel)) (by decide +kernel), gd_of (List.mem_of_getElem? (i := 1132) (by decide +kernel)) rfl, by decide +kernel⟩, gd_of (List.mem_of_getElem? (i := 1130) (by decide +kernel)) (by decide +kernel), gd_of (List.mem_of_getElem? (i := 1131) (by decide +kernel)) (by decide +kernel)⟩
theorem mw_X9_unseen : MWv yX9_unseen cX9_unseen 7 (some .int) 2 := ⟨⟨gd_of (List.mem_of_getElem? (i := 107) (by decide +kernel)) (by decide +kernel), gd_of (List.mem_of_getElem? (i := 1136) (by decide +kernel)) rfl, by decide +kernel⟩, gd_of (List.mem_of_getElem? (i := 1134) (by decide +kernel)) (by decide +kernel), gd_of (List.mem_of_getElem? (i := 1135) (by decide +kernel)) (by decide +kernel)⟩
theorem mw_X9_couldBe : MWv yX9_couldBe cX9_couldBe 5 (some .boolean) 1 := ⟨⟨gd_of (List.mem_of_getElem? (i := 107) (by decide +kernel)) (by decide +kernel), gd_of (List.mem_of_getElem? (i := 1140) (by decide +kernel)) rfl, by decide +kernel⟩, gd_of (List.mem_of_getElem? (i := 1139) (by decide +kernel)) (by decide +kernel), gd_of (List.mem_of_getElem? (i := 94) (by decide +kernel)) (by decide +kernel)⟩
theorem mw_X9_keep : MWv yX9_keep cX9_keep 2 (some .int) 1 := ⟨⟨gd_of (List.mem_of_getElem? (i := 107) (by decide +kernel)) (by decide +kernel), gd_of (List.mem_of_getElem? (i := 1144) (by decide +kernel)) rfl, by decide +kernel⟩, gd_of (List.mem_of_getElem? (i := 1142) (by decide +kernel)) (by decide +kernel), gd_of (List.mem_of_getElem? (i := 1143) (by decide +kernel)) (by decide +kernel)⟩
theorem mw_X9_back : MWv yX9_back cX9_back 2 (some .int) 1 := ⟨⟨gd_of (List.mem_of_getElem? (i := 107) (by decide +kernel)) (by decide +kernel), gd_of (List.mem_of_getElem? (i := 1148) (by decide +kernel)) rfl, by decide +kernel⟩, gd_of (List.mem_of_getElem? (i := 1146) (by decide +kernel)) (by decide +kernel), gd_of (List.mem_of_getElem? (i := 1147) (by decide +kernel)) (by decide +kernel)⟩
theorem mw_X9_count : MWv yX9_count cX9_count 2 (some .int) 1 := ⟨⟨gd_of (List.mem_of_getElem? (i := 107) (by decide +kernel)) (by decide +kernel), gd_of (List.mem_of_getElem? (i := 1152) (by decide +kernel)) rfl, by decide +kernel⟩, gd_of (List.mem_of_getElem? (i := 1150) (by decide +kernel)) (by decide +kernel), gd_of (List.mem_of_getElem? (i := 1151) (by decide +kernel)) (by decide +kernel)⟩
theorem ms_max_1 : Cond.static Lib.Math.max.name ∈ lw_good := gd_of (List.mem_of_getElem? (i := 554) (by decide +kernel)) (by decide +kernel)
theorem ms_max_3 : Cond.code Lib.Math.max.name Lib.Math.max.code 2 (some .int) ∈ lw_good := gd_of (List.mem_of_getElem? (i := 555) (by decide +kernel)) (by decide +kernel)
theorem ms_min_1 : Cond.static Lib.Math.min.name ∈ lw_good := gd_of (List.mem_of_getElem? (i := 452) (by decide +kernel)) (by decide +kernel)
theorem ms_min_3 : Cond.code Lib.Math.min.name Lib.Math.min.code 2 (some .int) ∈ lw_good := gd_of (List.mem_of_getElem? (i := 453) (by decide +kernel)) (by decide +kernel)
theorem ms_math : Cond.initialized "java/lang/Math" ∈ lw_good := gd_of (List.mem_of_getElem? (i := 108) (by decide +kernel)) (by decide +kernel)
theorem ms_cp_0 : Cond.native arraycopyName ∈ lw_good := gd_of (List.mem_of_getElem? (i := 137) (by decide +kernel)) (by decide +kernel)
theorem ms_cp_1 : Cond.static arraycopyName ∈ lw_good := gd_of (List.mem_of_getElem? (i := 136) (by decide +kernel)) (by decide +kernel)
theorem ms_cp_2 : Cond.initialized "java/lang/System" ∈ lw_good := gd_of (List.mem_of_getElem? (i := 99) (by decide +kernel)) (by decide +kernel)
end
section
/-- how often a loop may go round: more than any loop does -/
def FU : Nat := 3000
theorem kd_0 : kd 0 = (8, 0, [some 1, some 9, some 42, some 14, some 17, some 19, some 22, some 24]) := rfl
theorem kd_1 : kd 1 = (4, 0, [some 2, none, some 4, some 3, none, none, none, none]) := rfl
theorem kd_2 : kd 2 = (10, 120, []) := rfl
theorem kd_3 : kd 3 = (10, 5, []) := rfl
theorem kd_4 : kd 4 = (6, 0, [none, some 5, some 6, some 7, some 8]) := rfl
theorem kd_5 : kd 5 = (10, 4, []) := rfl
theorem kd_6 : kd 6 = (10, 4, []) := rfl
theorem kd_7 : kd 7 = (10, 4, []) := rfl
theorem kd_8 : kd 8 = (10, 5, []) := rfl
theorem kd_9 : kd 9 = (6, 0, [none, some 10, some 11, some 12, some 13]) := rfl
theorem kd_10 : kd 10 = (10, 4, []) := rfl
theorem kd_11 : kd 11 = (10, 4, []) := rfl
theorem kd_12 : kd 12 = (10, 4, []) := rfl
theorem kd_13 : kd 13 = (10, 5, []) := rfl
theorem kd_14 : kd 14 = (0, 0, [some 9, some 42, some 15, some 16, none]) := rfl
theorem kd_15 : kd 15 = (10, 4, []) := rfl
theorem kd_16 : kd 16 = (10, 13, []) := rfl
theorem kd_17 : kd 17 = (1, 0, [some 18, none, none]) := rfl
theorem kd_18 : kd 18 = (13, 6, [some 59, some 76, some 93, some 110, some 127, some 144]) := rfl
theorem kd_19 : kd 19 = (2, 0, [some 20, some 21]) := rfl
theorem kd_20 : kd 20 = (13, 2, [some 161, some 178]) := rfl
theorem kd_21 : kd 21 = (12, 2, []) := rfl
theorem kd_22 : kd 22 = (3, 0, [some 23, none, none]) := rfl
theorem kd_23 : kd 23 = (11, 7, []) := rfl
theorem kd_24 : kd 24 = (5, 0, [none, some 25, some 26]) := rfl
theorem kd_25 : kd 25 = (10, 6, []) := rfl
theorem kd_26 : kd 26 = (10, 6, []) := rfl
theorem kd_27 : kd 27 = (9, 0, [some 28, some 29, none, some 30, some 31, none, some 32, none, none, some 33, some 34, some 35, none, none, none, none, none, none, none, some 36, some 37, some 38, some 39, none, some 40, none, none, some 41]) := rfl
theorem kd_28 : kd 28 = (10, 2547, []) := rfl
theorem kd_29 : kd 29 = (12, 2, []) := rfl
theorem kd_30 : kd 30 = (10, 6, []) := rfl
theorem kd_31 : kd 31 = (10, 6, []) := rfl
theorem kd_32 : kd 32 = (10, 120, []) := rfl
theorem kd_33 : kd 33 = (10, 4, []) := rfl
theorem kd_34 : kd 34 = (10, 4, []) := rfl
theorem kd_35 : kd 35 = (10, 6, []) := rfl
theorem kd_36 : kd 36 = (10, 4, []) := rfl
theorem kd_37 : kd 37 = (10, 4, []) := rfl
theorem kd_38 : kd 38 = (10, 4, []) := rfl
theorem kd_39 : kd 39 = (10, 6, []) := rfl
theorem kd_40 : kd 40 = (10, 256, []) := rfl
theorem kd_41 : kd 41 = (11, 7, []) := rfl
theorem kd_42 : kd 42 = (7, 0, [none, none, some 43, some 44, some 45, some 46, some 47, some 48, some 49, some 50, some 51, some 52, some 53, some 54, some 55, none, some 56, some 57, some 58]) := rfl
theorem kd_43 : kd 43 = (10, 4, []) := rfl
theorem kd_44 : kd 44 = (10, 24, []) := rfl
theorem kd_45 : kd 45 = (10, 12, []) := rfl
theorem kd_46 : kd 46 = (10, 12, []) := rfl
theorem kd_47 : kd 47 = (10, 12, []) := rfl
theorem kd_48 : kd 48 = (10, 12, []) := rfl
theorem kd_49 : kd 49 = (10, 12, []) := rfl
theorem kd_50 : kd 50 = (10, 12, []) := rfl
theorem kd_51 : kd 51 = (10, 12, []) := rfl
theorem kd_52 : kd 52 = (10, 12, []) := rfl
theorem kd_53 : kd 53 = (10, 12, []) := rfl
theorem kd_54 : kd 54 = (10, 48, []) := rfl
theorem kd_55 : kd 55 = (10, 48, []) := rfl
theorem kd_56 : kd 56 = (10, 12, []) := rfl
theorem kd_57 : kd 57 = (10, 12, []) := rfl
theorem kd_58 : kd 58 = (10, 12, []) := rfl
def TrB (b : Nat) : Prop := ∃ j, j < 9 ∧ b = 42 + 17 * j
theorem kd_big {k : Nat} (h : 42 ≤ k) : kd k = kdT (42 + 17 * ((k - 42) / 17)) ((k - 42) % 17) := by
  obtain ⟨m, rfl⟩ : ∃ m, k = m + 42 := ⟨k - 42, by omega⟩
  rfl
theorem kd_tr {b : Nat} (h : TrB b) (o : Nat) (ho : o < 17) : kd (b + o) = kdT b o := by
  obtain ⟨j, hj, rfl⟩ := h
  rw [kd_big (by omega)]
  have e1 : (42 + 17 * j + o - 42) / 17 = j := by omega
  have e2 : (42 + 17 * j + o - 42) % 17 = o := by omega
  rw [e1, e2]
theorem tr_lt {b : Nat} (h : TrB b) (o : Nat) (ho : o < 17) : b + o < NC := by
  obtain ⟨j, hj, rfl⟩ := h
  show 42 + 17 * j + o < 195
  omega
theorem tr_0 {b : Nat} (h : TrB b) : kd b = (7, 0, [none, none, some (b+1), some (b+2), some (b+3), some (b+4), some (b+5), some (b+6), some (b+7), some (b+8), some (b+9), some (b+10), some (b+11), some (b+12), some (b+13), none, some (b+14), some (b+15), some (b+16)]) := kd_tr h 0 (by decide)
theorem tr_1 {b : Nat} (h : TrB b) : kd (b + 1) = (10, 4, []) := kd_tr h 1 (by decide)
theorem tr_2 {b : Nat} (h : TrB b) : kd (b + 2) = (10, 24, []) := kd_tr h 2 (by decide)
theorem tr_3 {b : Nat} (h : TrB b) : kd (b + 3) = (10, 12, []) := kd_tr h 3 (by decide)
theorem tr_4 {b : Nat} (h : TrB b) : kd (b + 4) = (10, 12, []) := kd_tr h 4 (by decide)
theorem tr_5 {b : Nat} (h : TrB b) : kd (b + 5) = (10, 12, []) := kd_tr h 5 (by decide)
theorem tr_6 {b : Nat} (h : TrB b) : kd (b + 6) = (10, 12, []) := kd_tr h 6 (by decide)
theorem tr_7 {b : Nat} (h : TrB b) : kd (b + 7) = (10, 12, []) := kd_tr h 7 (by decide)
theorem tr_8 {b : Nat} (h : TrB b) : kd (b + 8) = (10, 12, []) := kd_tr h 8 (by decide)
theorem tr_9 {b : Nat} (h : TrB b) : kd (b + 9) = (10, 12, []) := kd_tr h 9 (by decide)
theorem tr_10 {b : Nat} (h : TrB b) : kd (b + 10) = (10, 12, []) := kd_tr h 10 (by decide)
theorem tr_11 {b : Nat} (h : TrB b) : kd (b + 11) = (10, 12, []) := kd_tr h 11 (by decide)
theorem tr_12 {b : Nat} (h : TrB b) : kd (b + 12) = (10, 48, []) := kd_tr h 12 (by decide)
theorem tr_13 {b : Nat} (h : TrB b) : kd (b + 13) = (10, 48, []) := kd_tr h 13 (by decide)
theorem tr_14 {b : Nat} (h : TrB b) : kd (b + 14) = (10, 12, []) := kd_tr h 14 (by decide)
theorem tr_15 {b : Nat} (h : TrB b) : kd (b + 15) = (10, 12, []) := kd_tr h 15 (by decide)
theorem tr_16 {b : Nat} (h : TrB b) : kd (b + 16) = (10, 12, []) := kd_tr h 16 (by decide)
theorem trN : TrB 42 := ⟨0, by decide, rfl⟩
theorem trR_59 {i : Nat} (h : i < 6) : TrB (59 + 17 * i) := ⟨i + 1, by omega, by omega⟩
theorem trR_161 {i : Nat} (h : i < 2) : TrB (161 + 17 * i) := ⟨i + 7, by omega, by omega⟩
theorem j_start {ρ : Type} {K : Kt} {r : ρ} {X : Option ρ} {pc : Nat} {lv lv' : List (Nat × Value)} {st : List Value} {S : St} (e : lv = lv') (h : J K r X pc lv' st S) : J K r X pc lv st S := by rw [e]; exact h
theorem j_ite {ρ : Type} {K : Kt} {r : ρ} {c : Prop} {hc : Decidable c} {X Y : Option ρ} {pc : Nat} {lv : List (Nat × Value)} {st : List Value} {S : St} (h : c → J K r X pc lv st S) (h' : ¬ c → J K r Y pc lv st S) : J K r (if c then X else Y) pc lv st S := by
  intro hX
  by_cases h0 : c
  · rw [if_pos h0] at hX
    exact h h0 hX
  · rw [if_neg h0] at hX
    exact h' h0 hX
theorem lk_ne {x : Int32} {n : Int} {z : Int32} (hz : z.toInt = n) (h : ¬ x = z) : ¬ x.toInt = n := fun e => h (Int32.toInt_inj.mp (e.trans hz.symm))
theorem lk_none {x : Int32} (e0 : ¬ x = 99) (e1 : ¬ x = 100) (e2 : ¬ x = 104) (e3 : ¬ x = 107) (e4 : ¬ x = 109) (e5 : ¬ x = 119) : Op.lookupswitch.offset (#[(99, 59), (100, 63), (104, 61), (107, 65), (109, 67), (119, 69)] : Array (Int × Int)).toList 71 x.toInt = 71 := by
  have h0 := lk_ne (n := 99) (by decide) e0
  have h1 := lk_ne (n := 100) (by decide) e1
  have h2 := lk_ne (n := 104) (by decide) e2
  have h3 := lk_ne (n := 107) (by decide) e3
  have h4 := lk_ne (n := 109) (by decide) e4
  have h5 := lk_ne (n := 119) (by decide) e5
  simp [Op.lookupswitch.offset, h0, h1, h2, h3, h4, h5, Ne.symm h0, Ne.symm h1, Ne.symm h2, Ne.symm h3, Ne.symm h4, Ne.symm h5]
end
section
-- X8_within
abbrev rm_X8_within : Room := { frames := 0, cells := 0, slots := 0, locals := 0 }
def f_X8_within_15 (s0 : Int32) (S : St) : Option (Int32 × St) :=
    bz s0 (some (s0, S))
set_option maxHeartbeats 1000000 in
theorem b_X8_within_15 {K : Kt} {adr : Nat → Nat} {r : Int32 × St} (C : Cx K cX8_within RX8 3 adr rm_X8_within) (hR : ∀ (pc : Nat) (lv : List (Nat × Value)), (r.1 = 0 ∨ r.1 = 1) → decode cX8_within pc = .ok (.ireturn, 1) → K pc lv [.int r.1] r.2) (s0 : Int32) (S : St) : J K r (f_X8_within_15 s0 S) 15 [] [.int s0] S := by
    unfold f_X8_within_15
    exact j_zretv hR dX8_within_15
def f_X8_within_14  (S : St) : Option (Int32 × St) :=
    f_X8_within_15 0 S
set_option maxHeartbeats 1000000 in
theorem b_X8_within_14 {K : Kt} {adr : Nat → Nat} {r : Int32 × St} (C : Cx K cX8_within RX8 3 adr rm_X8_within) (hR : ∀ (pc : Nat) (lv : List (Nat × Value)), (r.1 = 0 ∨ r.1 = 1) → decode cX8_within pc = .ok (.ireturn, 1) → K pc lv [.int r.1] r.2)  (S : St) : J K r (f_X8_within_14  S) 14 [] [] S := by
    unfold f_X8_within_14
    refine j_iconst C dX8_within_14 (v := 0) rfl ?_
    exact b_X8_within_15 C hR 0 S
def f_X8_within (x0 : Int32) (x1 : Int32) (x2 : Int32) (S : St) : Option (Int32 × St) :=
  if x0 < x1 then (f_X8_within_14 S)
  else (if x2 < x0 then (f_X8_within_14 S)
    else (f_X8_within_15 1 S))
set_option maxHeartbeats 1000000 in
theorem m_X8_within (adr : Nat → Nat) (x0 : Int32) (x1 : Int32) (x2 : Int32) : MtI yX8_within cX8_within 3 (some .boolean) rm_X8_within adr [.int x0, .int x1, .int x2] (f_X8_within x0 x1 x2) := by
  refine MtI.ofZ (by decide +kernel) (Nat.le_of_ble_eq_true rfl) (fun K r S C hR => ?_)
  refine j_start (lv' := [(0, .int x0), (1, .int x1), (2, .int x2)]) rfl ?_
  unfold f_X8_within
  refine j_iload_n C dX8_within_0 0 rfl rfl ?_
  refine j_iload_n C dX8_within_1 1 rfl rfl ?_
  refine j_icmp_lt C dX8_within_2 (tgt := 14) (by decide) ?_ ?_
  · refine j_sub C [] rfl ?_
    exact b_X8_within_14 C hR S
  · refine j_iload_n C dX8_within_5 0 rfl rfl ?_
    refine j_iload_n C dX8_within_6 2 rfl rfl ?_
    refine j_icmp_gt C dX8_within_7 (tgt := 14) (by decide) ?_ ?_
    · refine j_sub C [] rfl ?_
      exact b_X8_within_14 C hR S
    · refine j_iconst C dX8_within_10 (v := 1) rfl ?_
      refine j_goto C dX8_within_11 (tgt := 15) (by decide) ?_
      refine j_sub C [] rfl ?_
      exact b_X8_within_15 C hR 1 S
-- X4_append
abbrev rm_X4_append : Room := { frames := 0, cells := 0, slots := 0, locals := 0 }
def f_X4_append (x1 : Int32) (S : St) : Option (Int32 × St) :=
  if (S.1 1 1) < 120 then (ck (S.1 1 1) 120 (lt (upI S 2 (S.1 1 1).toNatClampNeg x1) fun S1 =>
    lt (upI S1 1 1 ((S1.1 1 1) + 1)) fun S2 =>
    some (1, S2)))
  else (some (0, S))
set_option maxHeartbeats 1000000 in
theorem m_X4_append (adr : Nat → Nat) (x1 : Int32) : MtI yX4_append cX4_append 2 (some .boolean) rm_X4_append adr [.ref (adr 1), .int x1] (f_X4_append x1) := by
  refine MtI.ofZ (by decide +kernel) (Nat.le_of_ble_eq_true rfl) (fun K r S C hR => ?_)
  refine j_start (lv' := [(0, .ref (adr 1)), (1, .int x1)]) rfl ?_
  unfold f_X4_append
  refine j_aload_n C dX4_append_0 0 rfl rfl ?_
  refine j_geti C dX4_append_1 fl_X4_25 kd_1 (by decide) (Nat.le_of_ble_eq_true rfl) rfl ?_
  refine j_bipush C dX4_append_4 (v := 120) rfl ?_
  refine j_icmp_lt C dX4_append_6 (tgt := 11) (by decide) ?_ ?_
  · refine j_aload_n C dX4_append_11 0 rfl rfl ?_
    refine j_getr C dX4_append_12 fl_X4_9 kd_1 (by decide) (Nat.le_of_ble_eq_true rfl) rfl ?_
    refine j_aload_n C dX4_append_15 0 rfl rfl ?_
    refine j_geti C dX4_append_16 fl_X4_25 kd_1 (by decide) (Nat.le_of_ble_eq_true rfl) rfl ?_
    refine j_iload_n C dX4_append_19 1 rfl rfl ?_
    refine j_iast C dX4_append_20 kd_2 (Nat.le_of_ble_eq_true rfl) (fun S1 => ?_)
    refine j_aload_n C dX4_append_21 0 rfl rfl ?_
    refine j_dup C dX4_append_22 rfl ?_
    refine j_geti C dX4_append_23 fl_X4_25 kd_1 (by decide) (Nat.le_of_ble_eq_true rfl) rfl ?_
    refine j_iconst C dX4_append_26 (v := 1) rfl ?_
    refine j_iadd C dX4_append_27 ?_
    refine j_puti C dX4_append_28 fl_X4_25 fi_X4_1 kd_1 (by decide) (Nat.le_of_ble_eq_true rfl) rfl (fun S2 => ?_)
    refine j_iconst C dX4_append_31 (v := 1) rfl ?_
    exact j_zret hR (by decide) dX4_append_32
  · refine j_iconst C dX4_append_9 (v := 0) rfl ?_
    exact j_zret hR (by decide) dX4_append_10
-- X8_type
abbrev rm_X8_type : Room := { frames := 1, cells := 0, slots := 0, locals := 22 }
def f_X8_type_36 (s0 : Int32) (S : St) : Option (Int32 × St) :=
    some (s0, S)
set_option maxHeartbeats 1000000 in
theorem b_X8_type_36 {K : Kt} {adr : Nat → Nat} {r : Int32 × St} (C : Cx K cX8_type RX8 2 adr rm_X8_type) (hR : ∀ (pc : Nat) (lv : List (Nat × Value)), decode cX8_type pc = .ok (.ireturn, 1) → K pc lv [.int r.1] r.2) (s0 : Int32) (S : St) : J K r (f_X8_type_36 s0 S) 36 [] [.int s0] S := by
    unfold f_X8_type_36
    exact j_iret hR dX8_type_36
def f_X8_type (x1 : Int32) (S : St) : Option (Int32 × St) :=
  bd (f_X8_within x1 0 255 S) fun v2 S1 =>
  if v2 = 0 then (some ((-1), S1))
  else (bd (f_X4_append x1 S1) fun v4 S3 =>
    if v4 = 0 then (f_X8_type_36 (-3) S3)
    else (f_X8_type_36 (S3.1 1 1) S3))
set_option maxHeartbeats 1000000 in
theorem m_X8_type (adr : Nat → Nat) (x1 : Int32) : MtI yX8_type cX8_type 2 (some .int) rm_X8_type adr [.ref (adr 0), .int x1] (f_X8_type x1) := by
  refine MtI.of (by decide +kernel) (Nat.le_of_ble_eq_true rfl) (fun K r S C hR => ?_)
  refine j_start (lv' := [(0, .ref (adr 0)), (1, .int x1)]) rfl ?_
  unfold f_X8_type
  refine j_iload_n C dX8_type_0 1 rfl rfl ?_
  refine j_iconst C dX8_type_1 (v := 0) rfl ?_
  refine j_sipush C dX8_type_2 (v := 255) rfl ?_
  refine j_csi C dX8_type_5 lk_X8_67 mw_X8_within (m_X8_within adr x1 0 255) ⟨rfl, rfl, Nat.le_of_ble_eq_true rfl, Nat.le_of_ble_eq_true rfl⟩ rfl (st := []) (st0 := [.int 255, .int 0, .int x1]) rfl (Nat.le_of_ble_eq_true rfl) (fun v2 S1 => ?_)
  refine j_if_ne C dX8_type_8 (tgt := 13) (by decide) ?_ ?_
  · refine j_aload_n C dX8_type_13 0 rfl rfl ?_
    refine j_getr C dX8_type_14 fl_X8_10 kd_0 (by decide) (Nat.le_of_ble_eq_true rfl) rfl ?_
    refine j_iload_n C dX8_type_17 1 rfl rfl ?_
    refine j_cvi C dX8_type_18 lk_X8_71 mw_X4_append (m_X4_append adr x1) ⟨rfl, rfl, Nat.le_of_ble_eq_true rfl, Nat.le_of_ble_eq_true rfl⟩ kd_1 (by decide) (Nat.le_of_ble_eq_true rfl) rfl rfl (st := []) (st0 := [.int x1, .ref (adr 1)]) rfl (Nat.le_of_ble_eq_true rfl) (fun v4 S3 => ?_)
    refine j_if_eq C dX8_type_21 (tgt := 34) (by decide) ?_ ?_
    · refine j_bipush C dX8_type_34 (v := -3) rfl ?_
      refine j_sub C [] rfl ?_
      exact b_X8_type_36 C hR (-3) S3
    · refine j_aload_n C dX8_type_24 0 rfl rfl ?_
      refine j_getr C dX8_type_25 fl_X8_10 kd_0 (by decide) (Nat.le_of_ble_eq_true rfl) rfl ?_
      refine j_geti C dX8_type_28 fl_X8_75 kd_1 (by decide) (Nat.le_of_ble_eq_true rfl) rfl ?_
      refine j_goto C dX8_type_31 (tgt := 36) (by decide) ?_
      refine j_sub C [] rfl ?_
      exact b_X8_type_36 C hR (S3.1 1 1) S3
  · refine j_iconst C dX8_type_11 (v := -1) rfl ?_
    exact j_iret hR dX8_type_12
-- X8_clear
abbrev rm_X8_clear : Room := { frames := 0, cells := 0, slots := 0, locals := 0 }
def f_X8_clear  (S : St) : Option (Int32 × St) :=
  lt (S.1 1 1) fun v1 =>
  lt (upI S 1 1 0) fun S2 =>
  some (v1, S2)
set_option maxHeartbeats 1000000 in
theorem m_X8_clear (adr : Nat → Nat)  : MtI yX8_clear cX8_clear 2 (some .int) rm_X8_clear adr [.ref (adr 0)] (f_X8_clear ) := by
  refine MtI.of (by decide +kernel) (Nat.le_of_ble_eq_true rfl) (fun K r S C hR => ?_)
  refine j_start (lv' := [(0, .ref (adr 0))]) rfl ?_
  unfold f_X8_clear
  refine j_aload_n C dX8_clear_0 0 rfl rfl ?_
  refine j_getr C dX8_clear_1 fl_X8_10 kd_0 (by decide) (Nat.le_of_ble_eq_true rfl) rfl ?_
  refine j_geti C dX8_clear_4 fl_X8_75 kd_1 (by decide) (Nat.le_of_ble_eq_true rfl) rfl ?_
  refine j_topi (fun v1 => ?_)
  refine j_istore_n C dX8_clear_7 rfl (by decide) rfl ?_
  refine j_aload_n C dX8_clear_8 1 rfl rfl ?_
  refine j_getr C dX8_clear_9 fl_X8_10 kd_0 (by decide) (Nat.le_of_ble_eq_true rfl) rfl ?_
  refine j_iconst C dX8_clear_12 (v := 0) rfl ?_
  refine j_puti C dX8_clear_13 fl_X8_75 fi_X4_1 kd_1 (by decide) (Nat.le_of_ble_eq_true rfl) rfl (fun S2 => ?_)
  refine j_iload_n C dX8_clear_16 0 rfl rfl ?_
  exact j_iret hR dX8_clear_17
-- J7_fill_53178
abbrev rm_J7_fill_53178 : Room := { frames := 0, cells := 0, slots := 0, locals := 0 }
def f_J7_fill_53178_5 (qa na : Nat) : Nat → Int32 → Int32 → Int32 → St → Option (St)
  | 0, _, _, _, _ => none
  | n + 1, x1, x2, x3, S =>
    if x3 ≤ x2 then (some S)
    else (ck x2 na (lt (upI S qa x2.toNatClampNeg x1) fun S2 =>
      (f_J7_fill_53178_5 qa na n) x1 (x2 + 1) x3 S2))
set_option maxHeartbeats 1000000 in
theorem b_J7_fill_53178_5 {K : Kt} {adr : Nat → Nat} {r : St} (C : Cx K cJ7_fill_53178 RJ7 4 adr rm_J7_fill_53178) (hR : ∀ (pc : Nat) (lv : List (Nat × Value)), decode cJ7_fill_53178 pc = .ok (.return_, 1) → K pc lv [] r) (qa na : Nat) (hkq : kd qa = (10, na, [])) (hqN : qa < NC) : ∀ (n : Nat) (x1 : Int32) (x2 : Int32) (x3 : Int32) (S : St), J K r (f_J7_fill_53178_5 qa na n x1 x2 x3 S) 5 [(0, .ref (adr (qa))), (1, .int x1), (2, .int x2), (3, .int x3)] [] S := by
  intro n
  induction n with
  | zero => intro x1 x2 x3 S h; cases h
  | succ n ih =>
    intro x1 x2 x3 S
    unfold f_J7_fill_53178_5
    refine j_iload_n C dJ7_fill_53178_5 2 rfl rfl ?_
    refine j_iload_n C dJ7_fill_53178_6 3 rfl rfl ?_
    refine j_icmp_ge C dJ7_fill_53178_7 (tgt := 20) (by decide) ?_ ?_
    · exact j_vret hR dJ7_fill_53178_20
    · refine j_aload_n C dJ7_fill_53178_10 0 rfl rfl ?_
      refine j_iload_n C dJ7_fill_53178_11 2 rfl rfl ?_
      refine j_iload_n C dJ7_fill_53178_12 1 rfl rfl ?_
      refine j_iast C dJ7_fill_53178_13 hkq hqN (fun S2 => ?_)
      refine j_iinc C dJ7_fill_53178_14 (v := x2 + 1) 2 rfl rfl (by decide) rfl ?_
      refine j_goto C dJ7_fill_53178_17 (tgt := 5) (by decide) ?_
      refine j_sub C [1, 2, 0, 3] rfl ?_
      exact ih x1 (x2 + 1) x3 S2
def f_J7_fill_53178 (qa na : Nat) (x1 : Int32) (S : St) : Option (St) :=
  lt ((Int32.ofNat na)) fun v1 =>
  f_J7_fill_53178_5 qa na FU x1 0 v1 S
set_option maxHeartbeats 1000000 in
theorem m_J7_fill_53178 (adr : Nat → Nat) (qa na : Nat) (hkq : kd qa = (10, na, [])) (hqN : qa < NC) (x1 : Int32) : MtV yJ7_fill_53178 cJ7_fill_53178 4 none rm_J7_fill_53178 adr [.ref (adr (qa)), .int x1] (f_J7_fill_53178 qa na x1) := by
  refine MtV.of (by decide +kernel) (Nat.le_of_ble_eq_true rfl) (fun K r S C hR => ?_)
  refine j_start (lv' := [(0, .ref (adr (qa))), (1, .int x1)]) rfl ?_
  unfold f_J7_fill_53178
  refine j_iconst C dJ7_fill_53178_0 (v := 0) rfl ?_
  refine j_istore_n C dJ7_fill_53178_1 rfl (by decide) rfl ?_
  refine j_aload_n C dJ7_fill_53178_2 1 rfl rfl ?_
  refine j_alen C dJ7_fill_53178_3 hkq hqN (v := (Int32.ofNat na)) rfl ?_
  refine j_topi (fun v1 => ?_)
  refine j_istore_n C dJ7_fill_53178_4 rfl (by decide) rfl ?_
  refine j_sub C [2, 3, 1, 0] rfl ?_
  exact b_J7_fill_53178_5 C hR qa na hkq hqN FU x1 0 v1 S
-- X4_isFigure
abbrev rm_X4_isFigure : Room := { frames := 0, cells := 0, slots := 0, locals := 0 }
def f_X4_isFigure_17 (s0 : Int32) (S : St) : Option (Int32 × St) :=
    bz s0 (some (s0, S))
set_option maxHeartbeats 1000000 in
theorem b_X4_isFigure_17 {K : Kt} {adr : Nat → Nat} {r : Int32 × St} (C : Cx K cX4_isFigure RX4 1 adr rm_X4_isFigure) (hR : ∀ (pc : Nat) (lv : List (Nat × Value)), (r.1 = 0 ∨ r.1 = 1) → decode cX4_isFigure pc = .ok (.ireturn, 1) → K pc lv [.int r.1] r.2) (s0 : Int32) (S : St) : J K r (f_X4_isFigure_17 s0 S) 17 [] [.int s0] S := by
    unfold f_X4_isFigure_17
    exact j_zretv hR dX4_isFigure_17
def f_X4_isFigure_16  (S : St) : Option (Int32 × St) :=
    f_X4_isFigure_17 0 S
set_option maxHeartbeats 1000000 in
theorem b_X4_isFigure_16 {K : Kt} {adr : Nat → Nat} {r : Int32 × St} (C : Cx K cX4_isFigure RX4 1 adr rm_X4_isFigure) (hR : ∀ (pc : Nat) (lv : List (Nat × Value)), (r.1 = 0 ∨ r.1 = 1) → decode cX4_isFigure pc = .ok (.ireturn, 1) → K pc lv [.int r.1] r.2)  (S : St) : J K r (f_X4_isFigure_16  S) 16 [] [] S := by
    unfold f_X4_isFigure_16
    refine j_iconst C dX4_isFigure_16 (v := 0) rfl ?_
    exact b_X4_isFigure_17 C hR 0 S
def f_X4_isFigure (x0 : Int32) (S : St) : Option (Int32 × St) :=
  if x0 < 48 then (f_X4_isFigure_16 S)
  else (if 57 < x0 then (f_X4_isFigure_16 S)
    else (f_X4_isFigure_17 1 S))
set_option maxHeartbeats 1000000 in
theorem m_X4_isFigure (adr : Nat → Nat) (x0 : Int32) : MtI yX4_isFigure cX4_isFigure 1 (some .boolean) rm_X4_isFigure adr [.int x0] (f_X4_isFigure x0) := by
  refine MtI.ofZ (by decide +kernel) (Nat.le_of_ble_eq_true rfl) (fun K r S C hR => ?_)
  refine j_start (lv' := [(0, .int x0)]) rfl ?_
  unfold f_X4_isFigure
  refine j_iload_n C dX4_isFigure_0 0 rfl rfl ?_
  refine j_bipush C dX4_isFigure_1 (v := 48) rfl ?_
  refine j_icmp_lt C dX4_isFigure_3 (tgt := 16) (by decide) ?_ ?_
  · refine j_sub C [] rfl ?_
    exact b_X4_isFigure_16 C hR S
  · refine j_iload_n C dX4_isFigure_6 0 rfl rfl ?_
    refine j_bipush C dX4_isFigure_7 (v := 57) rfl ?_
    refine j_icmp_gt C dX4_isFigure_9 (tgt := 16) (by decide) ?_ ?_
    · refine j_sub C [] rfl ?_
      exact b_X4_isFigure_16 C hR S
    · refine j_iconst C dX4_isFigure_12 (v := 1) rfl ?_
      refine j_goto C dX4_isFigure_13 (tgt := 17) (by decide) ?_
      refine j_sub C [] rfl ?_
      exact b_X4_isFigure_17 C hR 1 S
-- X4_settingOf
abbrev rm_X4_settingOf : Room := { frames := 0, cells := 0, slots := 0, locals := 0 }
def f_X4_settingOf_2 : Nat → Int32 → Int32 → St → Option (Int32 × St)
  | 0, _, _, _ => none
  | n + 1, x0, x1, S =>
    if 5 ≤ x1 then (some ((-9), S))
    else (ck x1 5 (if (tbLetter x1.toNatClampNeg) = x0 then (some (x1, S))
      else ((f_X4_settingOf_2 n) x0 (x1 + 1) S)))
set_option maxHeartbeats 1000000 in
theorem b_X4_settingOf_2 {K : Kt} {adr : Nat → Nat} {r : Int32 × St} (C : Cx K cX4_settingOf RX4 2 adr rm_X4_settingOf) (hR : ∀ (pc : Nat) (lv : List (Nat × Value)), decode cX4_settingOf pc = .ok (.ireturn, 1) → K pc lv [.int r.1] r.2) : ∀ (n : Nat) (x0 : Int32) (x1 : Int32) (S : St), J K r (f_X4_settingOf_2 n x0 x1 S) 2 [(0, .int x0), (1, .int x1)] [] S := by
  intro n
  induction n with
  | zero => intro x0 x1 S h; cases h
  | succ n ih =>
    intro x0 x1 S
    unfold f_X4_settingOf_2
    refine j_iload_n C dX4_settingOf_2 1 rfl rfl ?_
    refine j_iconst C dX4_settingOf_3 (v := 5) rfl ?_
    refine j_icmp_ge C dX4_settingOf_4 (tgt := 24) (by decide) ?_ ?_
    · refine j_bipush C dX4_settingOf_24 (v := -9) rfl ?_
      exact j_iret hR dX4_settingOf_26
    · refine j_stLetter C dX4_settingOf_7 dX4_settingOf_10 dX4_settingOf_11 (q := 1) rfl fs_X4_115 ?_
      refine j_iload_n C dX4_settingOf_12 0 rfl rfl ?_
      refine j_icmp_ne C dX4_settingOf_13 (tgt := 18) (by decide) ?_ ?_
      · refine j_iinc C dX4_settingOf_18 (v := x1 + 1) 1 rfl rfl (by decide) rfl ?_
        refine j_goto C dX4_settingOf_21 (tgt := 2) (by decide) ?_
        refine j_sub C [1, 0] rfl ?_
        exact ih x0 (x1 + 1) S
      · refine j_iload_n C dX4_settingOf_16 1 rfl rfl ?_
        exact j_iret hR dX4_settingOf_17
def f_X4_settingOf (x0 : Int32) (S : St) : Option (Int32 × St) :=
  f_X4_settingOf_2 FU x0 0 S
set_option maxHeartbeats 1000000 in
theorem m_X4_settingOf (adr : Nat → Nat) (x0 : Int32) : MtI yX4_settingOf cX4_settingOf 2 (some .int) rm_X4_settingOf adr [.int x0] (f_X4_settingOf x0) := by
  refine MtI.of (by decide +kernel) (Nat.le_of_ble_eq_true rfl) (fun K r S C hR => ?_)
  refine j_start (lv' := [(0, .int x0)]) rfl ?_
  unfold f_X4_settingOf
  refine j_iconst C dX4_settingOf_0 (v := 0) rfl ?_
  refine j_istore_n C dX4_settingOf_1 rfl (by decide) rfl ?_
  refine j_sub C [1, 0] rfl ?_
  exact b_X4_settingOf_2 C hR FU x0 0 S
-- X4_kindOf
abbrev rm_X4_kindOf : Room := { frames := 1, cells := 0, slots := 0, locals := 21 }
def f_X4_kindOf_28 (s0 : Int32) (S : St) : Option (Int32 × St) :=
    some (s0, S)
set_option maxHeartbeats 1000000 in
theorem b_X4_kindOf_28 {K : Kt} {adr : Nat → Nat} {r : Int32 × St} (C : Cx K cX4_kindOf RX4 1 adr rm_X4_kindOf) (hR : ∀ (pc : Nat) (lv : List (Nat × Value)), decode cX4_kindOf pc = .ok (.ireturn, 1) → K pc lv [.int r.1] r.2) (s0 : Int32) (S : St) : J K r (f_X4_kindOf_28 s0 S) 28 [] [.int s0] S := by
    unfold f_X4_kindOf_28
    exact j_iret hR dX4_kindOf_28
def f_X4_kindOf_23  (S : St) : Option (Int32 × St) :=
    f_X4_kindOf_28 1 S
set_option maxHeartbeats 1000000 in
theorem b_X4_kindOf_23 {K : Kt} {adr : Nat → Nat} {r : Int32 × St} (C : Cx K cX4_kindOf RX4 1 adr rm_X4_kindOf) (hR : ∀ (pc : Nat) (lv : List (Nat × Value)), decode cX4_kindOf pc = .ok (.ireturn, 1) → K pc lv [.int r.1] r.2)  (S : St) : J K r (f_X4_kindOf_23  S) 23 [] [] S := by
    unfold f_X4_kindOf_23
    refine j_iconst C dX4_kindOf_23 (v := 1) rfl ?_
    refine j_goto C dX4_kindOf_24 (tgt := 28) (by decide) ?_
    exact b_X4_kindOf_28 C hR 1 S
def f_X4_kindOf (x0 : Int32) (S : St) : Option (Int32 × St) :=
  if x0 = 59 then (some (3, S))
  else (if x0 = 99 then (f_X4_kindOf_23 S)
    else (bd (f_X4_settingOf x0 S) fun v2 S1 =>
      if v2 = (-9) then (f_X4_kindOf_28 4 S1)
      else (f_X4_kindOf_23 S1)))
set_option maxHeartbeats 1000000 in
theorem m_X4_kindOf (adr : Nat → Nat) (x0 : Int32) : MtI yX4_kindOf cX4_kindOf 1 (some .int) rm_X4_kindOf adr [.int x0] (f_X4_kindOf x0) := by
  refine MtI.of (by decide +kernel) (Nat.le_of_ble_eq_true rfl) (fun K r S C hR => ?_)
  refine j_start (lv' := [(0, .int x0)]) rfl ?_
  unfold f_X4_kindOf
  refine j_iload_n C dX4_kindOf_0 0 rfl rfl ?_
  refine j_bipush C dX4_kindOf_1 (v := 59) rfl ?_
  refine j_icmp_ne C dX4_kindOf_3 (tgt := 8) (by decide) ?_ ?_
  · refine j_iload_n C dX4_kindOf_8 0 rfl rfl ?_
    refine j_bipush C dX4_kindOf_9 (v := 99) rfl ?_
    refine j_icmp_eq C dX4_kindOf_11 (tgt := 23) (by decide) ?_ ?_
    · refine j_sub C [] rfl ?_
      exact b_X4_kindOf_23 C hR S
    · refine j_iload_n C dX4_kindOf_14 0 rfl rfl ?_
      refine j_csi C dX4_kindOf_15 lk_X4_54 mw_X4_settingOf (m_X4_settingOf adr x0) ⟨rfl, rfl, Nat.le_of_ble_eq_true rfl, Nat.le_of_ble_eq_true rfl⟩ rfl (st := []) (st0 := [.int x0]) rfl (Nat.le_of_ble_eq_true rfl) (fun v2 S1 => ?_)
      refine j_bipush C dX4_kindOf_18 (v := -9) rfl ?_
      refine j_icmp_eq C dX4_kindOf_20 (tgt := 27) (by decide) ?_ ?_
      · refine j_iconst C dX4_kindOf_27 (v := 4) rfl ?_
        refine j_sub C [] rfl ?_
        exact b_X4_kindOf_28 C hR 4 S1
      · refine j_sub C [] rfl ?_
        exact b_X4_kindOf_23 C hR S1
  · refine j_iconst C dX4_kindOf_6 (v := 3) rfl ?_
    exact j_iret hR dX4_kindOf_7
-- X4_scanNumber
abbrev rm_X4_scanNumber : Room := { frames := 1, cells := 0, slots := 0, locals := 20 }
def f_X4_scanNumber_125 (s0 : Int32) (S : St) : Option (St) :=
    lt (upI S 1 6 s0) fun S7 =>
    some S7
set_option maxHeartbeats 1000000 in
theorem b_X4_scanNumber_125 {K : Kt} {adr : Nat → Nat} {r : St} (C : Cx K cX4_scanNumber RX4 2 adr rm_X4_scanNumber) (hR : ∀ (pc : Nat) (lv : List (Nat × Value)), decode cX4_scanNumber pc = .ok (.return_, 1) → K pc lv [] r) (s0 : Int32) (S : St) : J K r (f_X4_scanNumber_125 s0 S) 125 [] [.int s0, .ref (adr 1)] S := by
    unfold f_X4_scanNumber_125
    refine j_puti C dX4_scanNumber_125 fl_X4_44 fi_X4_6 kd_1 (by decide) (Nat.le_of_ble_eq_true rfl) rfl (fun S7 => ?_)
    exact j_vret hR dX4_scanNumber_128
def f_X4_scanNumber_120  (S : St) : Option (St) :=
    f_X4_scanNumber_125 4 S
set_option maxHeartbeats 1000000 in
theorem b_X4_scanNumber_120 {K : Kt} {adr : Nat → Nat} {r : St} (C : Cx K cX4_scanNumber RX4 2 adr rm_X4_scanNumber) (hR : ∀ (pc : Nat) (lv : List (Nat × Value)), decode cX4_scanNumber pc = .ok (.return_, 1) → K pc lv [] r)  (S : St) : J K r (f_X4_scanNumber_120  S) 120 [] [.ref (adr 1)] S := by
    unfold f_X4_scanNumber_120
    refine j_iconst C dX4_scanNumber_120 (v := 4) rfl ?_
    refine j_goto C dX4_scanNumber_121 (tgt := 125) (by decide) ?_
    exact b_X4_scanNumber_125 C hR 4 S
def f_X4_scanNumber_105 (s0 : Int32) (S : St) : Option (St) :=
    if s0 = 0 then (if (S.1 1 7) ≤ 99 then (f_X4_scanNumber_125 2 S)
      else (f_X4_scanNumber_120 S))
    else (f_X4_scanNumber_120 S)
set_option maxHeartbeats 1000000 in
theorem b_X4_scanNumber_105 {K : Kt} {adr : Nat → Nat} {r : St} (C : Cx K cX4_scanNumber RX4 2 adr rm_X4_scanNumber) (hR : ∀ (pc : Nat) (lv : List (Nat × Value)), decode cX4_scanNumber pc = .ok (.return_, 1) → K pc lv [] r) (s0 : Int32) (S : St) : J K r (f_X4_scanNumber_105 s0 S) 105 [(0, .ref (adr 1))] [.int s0] S := by
    unfold f_X4_scanNumber_105
    refine j_istore_n C dX4_scanNumber_105 rfl (by decide) rfl ?_
    refine j_aload_n C dX4_scanNumber_106 1 rfl rfl ?_
    refine j_iload_n C dX4_scanNumber_107 0 rfl rfl ?_
    refine j_if_ne C dX4_scanNumber_108 (tgt := 120) (by decide) ?_ ?_
    · refine j_sub C [] rfl ?_
      exact b_X4_scanNumber_120 C hR S
    · refine j_aload_n C dX4_scanNumber_111 1 rfl rfl ?_
      refine j_geti C dX4_scanNumber_112 fl_X4_47 kd_1 (by decide) (Nat.le_of_ble_eq_true rfl) rfl ?_
      refine j_bipush C dX4_scanNumber_115 (v := 99) rfl ?_
      refine j_icmp_le C dX4_scanNumber_117 (tgt := 124) (by decide) ?_ ?_
      · refine j_iconst C dX4_scanNumber_124 (v := 2) rfl ?_
        refine j_sub C [] rfl ?_
        exact b_X4_scanNumber_125 C hR 2 S
      · refine j_sub C [] rfl ?_
        exact b_X4_scanNumber_120 C hR S
def f_X4_scanNumber_104  (S : St) : Option (St) :=
    f_X4_scanNumber_105 0 S
set_option maxHeartbeats 1000000 in
theorem b_X4_scanNumber_104 {K : Kt} {adr : Nat → Nat} {r : St} (C : Cx K cX4_scanNumber RX4 2 adr rm_X4_scanNumber) (hR : ∀ (pc : Nat) (lv : List (Nat × Value)), decode cX4_scanNumber pc = .ok (.return_, 1) → K pc lv [] r)  (S : St) : J K r (f_X4_scanNumber_104  S) 104 [(0, .ref (adr 1))] [] S := by
    unfold f_X4_scanNumber_104
    refine j_iconst C dX4_scanNumber_104 (v := 0) rfl ?_
    exact b_X4_scanNumber_105 C hR 0 S
def f_X4_scanNumber_73  (S : St) : Option (St) :=
    ck (S.1 1 5) 120 (if (S.1 2 (S.1 1 5).toNatClampNeg) = 48 then (if ((S.1 1 4) - (S.1 1 5)) ≤ 1 then (f_X4_scanNumber_104 S)
      else (f_X4_scanNumber_105 1 S))
    else (f_X4_scanNumber_104 S))
set_option maxHeartbeats 1000000 in
theorem b_X4_scanNumber_73 {K : Kt} {adr : Nat → Nat} {r : St} (C : Cx K cX4_scanNumber RX4 2 adr rm_X4_scanNumber) (hR : ∀ (pc : Nat) (lv : List (Nat × Value)), decode cX4_scanNumber pc = .ok (.return_, 1) → K pc lv [] r)  (S : St) : J K r (f_X4_scanNumber_73  S) 73 [(0, .ref (adr 1))] [] S := by
    unfold f_X4_scanNumber_73
    refine j_aload_n C dX4_scanNumber_73 0 rfl rfl ?_
    refine j_getr C dX4_scanNumber_74 fl_X4_9 kd_1 (by decide) (Nat.le_of_ble_eq_true rfl) rfl ?_
    refine j_aload_n C dX4_scanNumber_77 0 rfl rfl ?_
    refine j_geti C dX4_scanNumber_78 fl_X4_62 kd_1 (by decide) (Nat.le_of_ble_eq_true rfl) rfl ?_
    refine j_iald C dX4_scanNumber_81 kd_2 (Nat.le_of_ble_eq_true rfl) ?_
    refine j_bipush C dX4_scanNumber_82 (v := 48) rfl ?_
    refine j_icmp_ne C dX4_scanNumber_84 (tgt := 104) (by decide) ?_ ?_
    · exact b_X4_scanNumber_104 C hR S
    · refine j_aload_n C dX4_scanNumber_87 0 rfl rfl ?_
      refine j_geti C dX4_scanNumber_88 fl_X4_38 kd_1 (by decide) (Nat.le_of_ble_eq_true rfl) rfl ?_
      refine j_aload_n C dX4_scanNumber_91 0 rfl rfl ?_
      refine j_geti C dX4_scanNumber_92 fl_X4_62 kd_1 (by decide) (Nat.le_of_ble_eq_true rfl) rfl ?_
      refine j_isub C dX4_scanNumber_95 ?_
      refine j_iconst C dX4_scanNumber_96 (v := 1) rfl ?_
      refine j_icmp_le C dX4_scanNumber_97 (tgt := 104) (by decide) ?_ ?_
      · exact b_X4_scanNumber_104 C hR S
      · refine j_iconst C dX4_scanNumber_100 (v := 1) rfl ?_
        refine j_goto C dX4_scanNumber_101 (tgt := 105) (by decide) ?_
        exact b_X4_scanNumber_105 C hR 1 S
def f_X4_scanNumber_5 : Nat → St → Option (St)
  | 0, _ => none
  | n + 1, S =>
    if (S.1 1 1) ≤ (S.1 1 4) then (f_X4_scanNumber_73 S)
    else (ck (S.1 1 4) 120 (bd (f_X4_isFigure (S.1 2 (S.1 1 4).toNatClampNeg) S) fun v3 S2 =>
      if v3 = 0 then (f_X4_scanNumber_73 S2)
      else (lt (if 100 < (S2.1 1 7) then 100 else (S2.1 1 7)) fun v4 =>
        ck (S2.1 1 4) 120 (lt (upI S2 1 7 (((v4 * 10) + (S2.1 2 (S2.1 1 4).toNatClampNeg)) - 48)) fun S5 =>
        lt (upI S5 1 4 ((S5.1 1 4) + 1)) fun S6 =>
        (f_X4_scanNumber_5 n) S6))))
set_option maxHeartbeats 1000000 in
theorem b_X4_scanNumber_5 {K : Kt} {adr : Nat → Nat} {r : St} (C : Cx K cX4_scanNumber RX4 2 adr rm_X4_scanNumber) (hR : ∀ (pc : Nat) (lv : List (Nat × Value)), decode cX4_scanNumber pc = .ok (.return_, 1) → K pc lv [] r) : ∀ (n : Nat)  (S : St), J K r (f_X4_scanNumber_5 n  S) 5 [(0, .ref (adr 1))] [] S := by
  intro n
  induction n with
  | zero => intro  S h; cases h
  | succ n ih =>
    intro  S
    unfold f_X4_scanNumber_5
    refine j_aload_n C dX4_scanNumber_5 0 rfl rfl ?_
    refine j_geti C dX4_scanNumber_6 fl_X4_38 kd_1 (by decide) (Nat.le_of_ble_eq_true rfl) rfl ?_
    refine j_aload_n C dX4_scanNumber_9 0 rfl rfl ?_
    refine j_geti C dX4_scanNumber_10 fl_X4_25 kd_1 (by decide) (Nat.le_of_ble_eq_true rfl) rfl ?_
    refine j_icmp_ge C dX4_scanNumber_13 (tgt := 73) (by decide) ?_ ?_
    · exact b_X4_scanNumber_73 C hR S
    · refine j_aload_n C dX4_scanNumber_16 0 rfl rfl ?_
      refine j_getr C dX4_scanNumber_17 fl_X4_9 kd_1 (by decide) (Nat.le_of_ble_eq_true rfl) rfl ?_
      refine j_aload_n C dX4_scanNumber_20 0 rfl rfl ?_
      refine j_geti C dX4_scanNumber_21 fl_X4_38 kd_1 (by decide) (Nat.le_of_ble_eq_true rfl) rfl ?_
      refine j_iald C dX4_scanNumber_24 kd_2 (Nat.le_of_ble_eq_true rfl) ?_
      refine j_csi C dX4_scanNumber_25 lk_X4_100 mw_X4_isFigure (m_X4_isFigure adr (S.1 2 (S.1 1 4).toNatClampNeg)) ⟨rfl, rfl, Nat.le_of_ble_eq_true rfl, Nat.le_of_ble_eq_true rfl⟩ rfl (st := []) (st0 := [.int (S.1 2 (S.1 1 4).toNatClampNeg)]) rfl (Nat.le_of_ble_eq_true rfl) (fun v3 S2 => ?_)
      refine j_if_eq C dX4_scanNumber_28 (tgt := 73) (by decide) ?_ ?_
      · exact b_X4_scanNumber_73 C hR S2
      · refine j_aload_n C dX4_scanNumber_31 0 rfl rfl ?_
        refine j_aload_n C dX4_scanNumber_32 0 rfl rfl ?_
        refine j_geti C dX4_scanNumber_33 fl_X4_47 kd_1 (by decide) (Nat.le_of_ble_eq_true rfl) rfl ?_
        refine j_bipush C dX4_scanNumber_36 (v := 100) rfl ?_
        refine j_mmin C dX4_scanNumber_38 lm_X4_109 ms_min_1 ms_math ms_min_3 ⟨Nat.le_of_ble_eq_true rfl, Nat.le_of_ble_eq_true rfl⟩ ?_
        refine j_topi (fun v4 => ?_)
        refine j_bipush C dX4_scanNumber_41 (v := 10) rfl ?_
        refine j_imul C dX4_scanNumber_43 ?_
        refine j_aload_n C dX4_scanNumber_44 0 rfl rfl ?_
        refine j_getr C dX4_scanNumber_45 fl_X4_9 kd_1 (by decide) (Nat.le_of_ble_eq_true rfl) rfl ?_
        refine j_aload_n C dX4_scanNumber_48 0 rfl rfl ?_
        refine j_geti C dX4_scanNumber_49 fl_X4_38 kd_1 (by decide) (Nat.le_of_ble_eq_true rfl) rfl ?_
        refine j_iald C dX4_scanNumber_52 kd_2 (Nat.le_of_ble_eq_true rfl) ?_
        refine j_iadd C dX4_scanNumber_53 ?_
        refine j_bipush C dX4_scanNumber_54 (v := 48) rfl ?_
        refine j_isub C dX4_scanNumber_56 ?_
        refine j_puti C dX4_scanNumber_57 fl_X4_47 fi_X4_7 kd_1 (by decide) (Nat.le_of_ble_eq_true rfl) rfl (fun S5 => ?_)
        refine j_aload_n C dX4_scanNumber_60 0 rfl rfl ?_
        refine j_dup C dX4_scanNumber_61 rfl ?_
        refine j_geti C dX4_scanNumber_62 fl_X4_38 kd_1 (by decide) (Nat.le_of_ble_eq_true rfl) rfl ?_
        refine j_iconst C dX4_scanNumber_65 (v := 1) rfl ?_
        refine j_iadd C dX4_scanNumber_66 ?_
        refine j_puti C dX4_scanNumber_67 fl_X4_38 fi_X4_4 kd_1 (by decide) (Nat.le_of_ble_eq_true rfl) rfl (fun S6 => ?_)
        refine j_goto C dX4_scanNumber_70 (tgt := 5) (by decide) ?_
        exact ih S6
def f_X4_scanNumber  (S : St) : Option (St) :=
  lt (upI S 1 7 0) fun S1 =>
  f_X4_scanNumber_5 FU S1
set_option maxHeartbeats 1000000 in
theorem m_X4_scanNumber (adr : Nat → Nat)  : MtV yX4_scanNumber cX4_scanNumber 2 none rm_X4_scanNumber adr [.ref (adr 1)] (f_X4_scanNumber ) := by
  refine MtV.of (by decide +kernel) (Nat.le_of_ble_eq_true rfl) (fun K r S C hR => ?_)
  refine j_start (lv' := [(0, .ref (adr 1))]) rfl ?_
  unfold f_X4_scanNumber
  refine j_aload_n C dX4_scanNumber_0 0 rfl rfl ?_
  refine j_iconst C dX4_scanNumber_1 (v := 0) rfl ?_
  refine j_puti C dX4_scanNumber_2 fl_X4_47 fi_X4_7 kd_1 (by decide) (Nat.le_of_ble_eq_true rfl) rfl (fun S1 => ?_)
  exact b_X4_scanNumber_5 C hR FU S1
-- X4_nextToken
abbrev rm_X4_nextToken : Room := { frames := 2, cells := 0, slots := 0, locals := 41 }
def f_X4_nextToken_38  (S : St) : Option (St) :=
    lt (upI S 1 5 (S.1 1 4)) fun S2 =>
    if (S2.1 1 4) < (S2.1 1 1) then (ck (S2.1 1 4) 120 (bd (f_X4_isFigure (S2.1 2 (S2.1 1 4).toNatClampNeg) S2) fun v4 S3 =>
      if v4 = 0 then (ck (S3.1 1 4) 120 (lt (upI S3 1 7 (S3.1 2 (S3.1 1 4).toNatClampNeg)) fun S5 =>
        bd (f_X4_kindOf (S5.1 1 7) S5) fun v7 S6 =>
        lt (upI S6 1 6 v7) fun S8 =>
        lt (upI S8 1 4 ((S8.1 1 4) + 1)) fun S9 =>
        some S9))
      else (bdV (f_X4_scanNumber S3) fun S10 =>
        some S10)))
    else (lt (upI S2 1 6 0) fun S11 =>
      some S11)
set_option maxHeartbeats 1000000 in
theorem b_X4_nextToken_38 {K : Kt} {adr : Nat → Nat} {r : St} (C : Cx K cX4_nextToken RX4 1 adr rm_X4_nextToken) (hR : ∀ (pc : Nat) (lv : List (Nat × Value)), decode cX4_nextToken pc = .ok (.return_, 1) → K pc lv [] r)  (S : St) : J K r (f_X4_nextToken_38  S) 38 [(0, .ref (adr 1))] [] S := by
    unfold f_X4_nextToken_38
    refine j_aload_n C dX4_nextToken_38 0 rfl rfl ?_
    refine j_aload_n C dX4_nextToken_39 0 rfl rfl ?_
    refine j_geti C dX4_nextToken_40 fl_X4_38 kd_1 (by decide) (Nat.le_of_ble_eq_true rfl) rfl ?_
    refine j_puti C dX4_nextToken_43 fl_X4_62 fi_X4_5 kd_1 (by decide) (Nat.le_of_ble_eq_true rfl) rfl (fun S2 => ?_)
    refine j_aload_n C dX4_nextToken_46 0 rfl rfl ?_
    refine j_geti C dX4_nextToken_47 fl_X4_38 kd_1 (by decide) (Nat.le_of_ble_eq_true rfl) rfl ?_
    refine j_aload_n C dX4_nextToken_50 0 rfl rfl ?_
    refine j_geti C dX4_nextToken_51 fl_X4_25 kd_1 (by decide) (Nat.le_of_ble_eq_true rfl) rfl ?_
    refine j_icmp_lt C dX4_nextToken_54 (tgt := 63) (by decide) ?_ ?_
    · refine j_aload_n C dX4_nextToken_63 0 rfl rfl ?_
      refine j_getr C dX4_nextToken_64 fl_X4_9 kd_1 (by decide) (Nat.le_of_ble_eq_true rfl) rfl ?_
      refine j_aload_n C dX4_nextToken_67 0 rfl rfl ?_
      refine j_geti C dX4_nextToken_68 fl_X4_38 kd_1 (by decide) (Nat.le_of_ble_eq_true rfl) rfl ?_
      refine j_iald C dX4_nextToken_71 kd_2 (Nat.le_of_ble_eq_true rfl) ?_
      refine j_csi C dX4_nextToken_72 lk_X4_100 mw_X4_isFigure (m_X4_isFigure adr (S2.1 2 (S2.1 1 4).toNatClampNeg)) ⟨rfl, rfl, Nat.le_of_ble_eq_true rfl, Nat.le_of_ble_eq_true rfl⟩ rfl (st := []) (st0 := [.int (S2.1 2 (S2.1 1 4).toNatClampNeg)]) rfl (Nat.le_of_ble_eq_true rfl) (fun v4 S3 => ?_)
      refine j_if_eq C dX4_nextToken_75 (tgt := 83) (by decide) ?_ ?_
      · refine j_aload_n C dX4_nextToken_83 0 rfl rfl ?_
        refine j_aload_n C dX4_nextToken_84 0 rfl rfl ?_
        refine j_getr C dX4_nextToken_85 fl_X4_9 kd_1 (by decide) (Nat.le_of_ble_eq_true rfl) rfl ?_
        refine j_aload_n C dX4_nextToken_88 0 rfl rfl ?_
        refine j_geti C dX4_nextToken_89 fl_X4_38 kd_1 (by decide) (Nat.le_of_ble_eq_true rfl) rfl ?_
        refine j_iald C dX4_nextToken_92 kd_2 (Nat.le_of_ble_eq_true rfl) ?_
        refine j_puti C dX4_nextToken_93 fl_X4_47 fi_X4_7 kd_1 (by decide) (Nat.le_of_ble_eq_true rfl) rfl (fun S5 => ?_)
        refine j_aload_n C dX4_nextToken_96 0 rfl rfl ?_
        refine j_aload_n C dX4_nextToken_97 0 rfl rfl ?_
        refine j_geti C dX4_nextToken_98 fl_X4_47 kd_1 (by decide) (Nat.le_of_ble_eq_true rfl) rfl ?_
        refine j_csi C dX4_nextToken_101 lk_X4_106 mw_X4_kindOf (m_X4_kindOf adr (S5.1 1 7)) ⟨rfl, rfl, Nat.le_of_ble_eq_true rfl, Nat.le_of_ble_eq_true rfl⟩ rfl (st := [.ref (adr 1)]) (st0 := [.int (S5.1 1 7), .ref (adr 1)]) rfl (Nat.le_of_ble_eq_true rfl) (fun v7 S6 => ?_)
        refine j_puti C dX4_nextToken_104 fl_X4_44 fi_X4_6 kd_1 (by decide) (Nat.le_of_ble_eq_true rfl) rfl (fun S8 => ?_)
        refine j_aload_n C dX4_nextToken_107 0 rfl rfl ?_
        refine j_dup C dX4_nextToken_108 rfl ?_
        refine j_geti C dX4_nextToken_109 fl_X4_38 kd_1 (by decide) (Nat.le_of_ble_eq_true rfl) rfl ?_
        refine j_iconst C dX4_nextToken_112 (v := 1) rfl ?_
        refine j_iadd C dX4_nextToken_113 ?_
        refine j_puti C dX4_nextToken_114 fl_X4_38 fi_X4_4 kd_1 (by decide) (Nat.le_of_ble_eq_true rfl) rfl (fun S9 => ?_)
        exact j_vret hR dX4_nextToken_117
      · refine j_aload_n C dX4_nextToken_78 0 rfl rfl ?_
        refine j_cvv C dX4_nextToken_79 lk_X4_103 mw_X4_scanNumber (m_X4_scanNumber adr ) ⟨rfl, rfl, Nat.le_of_ble_eq_true rfl, Nat.le_of_ble_eq_true rfl⟩ kd_1 (by decide) (Nat.le_of_ble_eq_true rfl) rfl rfl (st := []) (st0 := [.ref (adr 1)]) rfl (Nat.le_of_ble_eq_true rfl) (fun S10 => ?_)
        exact j_vret hR dX4_nextToken_82
    · refine j_aload_n C dX4_nextToken_57 0 rfl rfl ?_
      refine j_iconst C dX4_nextToken_58 (v := 0) rfl ?_
      refine j_puti C dX4_nextToken_59 fl_X4_44 fi_X4_6 kd_1 (by decide) (Nat.le_of_ble_eq_true rfl) rfl (fun S11 => ?_)
      exact j_vret hR dX4_nextToken_62
def f_X4_nextToken_0 : Nat → St → Option (St)
  | 0, _ => none
  | n + 1, S =>
    if (S.1 1 1) ≤ (S.1 1 4) then (f_X4_nextToken_38 S)
    else (ck (S.1 1 4) 120 (if (S.1 2 (S.1 1 4).toNatClampNeg) = 32 then (lt (upI S 1 4 ((S.1 1 4) + 1)) fun S1 =>
        (f_X4_nextToken_0 n) S1)
      else (f_X4_nextToken_38 S)))
set_option maxHeartbeats 1000000 in
theorem b_X4_nextToken_0 {K : Kt} {adr : Nat → Nat} {r : St} (C : Cx K cX4_nextToken RX4 1 adr rm_X4_nextToken) (hR : ∀ (pc : Nat) (lv : List (Nat × Value)), decode cX4_nextToken pc = .ok (.return_, 1) → K pc lv [] r) : ∀ (n : Nat)  (S : St), J K r (f_X4_nextToken_0 n  S) 0 [(0, .ref (adr 1))] [] S := by
  intro n
  induction n with
  | zero => intro  S h; cases h
  | succ n ih =>
    intro  S
    unfold f_X4_nextToken_0
    refine j_aload_n C dX4_nextToken_0 0 rfl rfl ?_
    refine j_geti C dX4_nextToken_1 fl_X4_38 kd_1 (by decide) (Nat.le_of_ble_eq_true rfl) rfl ?_
    refine j_aload_n C dX4_nextToken_4 0 rfl rfl ?_
    refine j_geti C dX4_nextToken_5 fl_X4_25 kd_1 (by decide) (Nat.le_of_ble_eq_true rfl) rfl ?_
    refine j_icmp_ge C dX4_nextToken_8 (tgt := 38) (by decide) ?_ ?_
    · exact b_X4_nextToken_38 C hR S
    · refine j_aload_n C dX4_nextToken_11 0 rfl rfl ?_
      refine j_getr C dX4_nextToken_12 fl_X4_9 kd_1 (by decide) (Nat.le_of_ble_eq_true rfl) rfl ?_
      refine j_aload_n C dX4_nextToken_15 0 rfl rfl ?_
      refine j_geti C dX4_nextToken_16 fl_X4_38 kd_1 (by decide) (Nat.le_of_ble_eq_true rfl) rfl ?_
      refine j_iald C dX4_nextToken_19 kd_2 (Nat.le_of_ble_eq_true rfl) ?_
      refine j_bipush C dX4_nextToken_20 (v := 32) rfl ?_
      refine j_icmp_ne C dX4_nextToken_22 (tgt := 38) (by decide) ?_ ?_
      · exact b_X4_nextToken_38 C hR S
      · refine j_aload_n C dX4_nextToken_25 0 rfl rfl ?_
        refine j_dup C dX4_nextToken_26 rfl ?_
        refine j_geti C dX4_nextToken_27 fl_X4_38 kd_1 (by decide) (Nat.le_of_ble_eq_true rfl) rfl ?_
        refine j_iconst C dX4_nextToken_30 (v := 1) rfl ?_
        refine j_iadd C dX4_nextToken_31 ?_
        refine j_puti C dX4_nextToken_32 fl_X4_38 fi_X4_4 kd_1 (by decide) (Nat.le_of_ble_eq_true rfl) rfl (fun S1 => ?_)
        refine j_goto C dX4_nextToken_35 (tgt := 0) (by decide) ?_
        exact ih S1
def f_X4_nextToken  (S : St) : Option (St) :=
  f_X4_nextToken_0 FU S
set_option maxHeartbeats 1000000 in
theorem m_X4_nextToken (adr : Nat → Nat)  : MtV yX4_nextToken cX4_nextToken 1 none rm_X4_nextToken adr [.ref (adr 1)] (f_X4_nextToken ) := by
  refine MtV.of (by decide +kernel) (Nat.le_of_ble_eq_true rfl) (fun K r S C hR => ?_)
  refine j_start (lv' := [(0, .ref (adr 1))]) rfl ?_
  unfold f_X4_nextToken
  exact b_X4_nextToken_0 C hR FU S
-- X4_readNumber
abbrev rm_X4_readNumber : Room := { frames := 3, cells := 0, slots := 0, locals := 61 }
def f_X4_readNumber_29 (s0 : Int32) (S : St) : Option (Int32 × St) :=
    bz s0 (some (s0, S))
set_option maxHeartbeats 1000000 in
theorem b_X4_readNumber_29 {K : Kt} {adr : Nat → Nat} {r : Int32 × St} (C : Cx K cX4_readNumber RX4 3 adr rm_X4_readNumber) (hR : ∀ (pc : Nat) (lv : List (Nat × Value)), (r.1 = 0 ∨ r.1 = 1) → decode cX4_readNumber pc = .ok (.ireturn, 1) → K pc lv [.int r.1] r.2) (s0 : Int32) (S : St) : J K r (f_X4_readNumber_29 s0 S) 29 [] [.int s0] S := by
    unfold f_X4_readNumber_29
    exact j_zretv hR dX4_readNumber_29
def f_X4_readNumber_28  (S : St) : Option (Int32 × St) :=
    f_X4_readNumber_29 0 S
set_option maxHeartbeats 1000000 in
theorem b_X4_readNumber_28 {K : Kt} {adr : Nat → Nat} {r : Int32 × St} (C : Cx K cX4_readNumber RX4 3 adr rm_X4_readNumber) (hR : ∀ (pc : Nat) (lv : List (Nat × Value)), (r.1 = 0 ∨ r.1 = 1) → decode cX4_readNumber pc = .ok (.ireturn, 1) → K pc lv [.int r.1] r.2)  (S : St) : J K r (f_X4_readNumber_28  S) 28 [] [] S := by
    unfold f_X4_readNumber_28
    refine j_iconst C dX4_readNumber_28 (v := 0) rfl ?_
    exact b_X4_readNumber_29 C hR 0 S
def f_X4_readNumber (x1 : Int32) (x2 : Int32) (S : St) : Option (Int32 × St) :=
  bdV (f_X4_nextToken S) fun S1 =>
  if (S1.1 1 6) = 2 then (bd (f_X8_within (S1.1 1 7) x1 x2 S1) fun v3 S2 =>
    if v3 = 0 then (f_X4_readNumber_28 S2)
    else (f_X4_readNumber_29 1 S2))
  else (f_X4_readNumber_28 S1)
set_option maxHeartbeats 1000000 in
theorem m_X4_readNumber (adr : Nat → Nat) (x1 : Int32) (x2 : Int32) : MtI yX4_readNumber cX4_readNumber 3 (some .boolean) rm_X4_readNumber adr [.ref (adr 1), .int x1, .int x2] (f_X4_readNumber x1 x2) := by
  refine MtI.ofZ (by decide +kernel) (Nat.le_of_ble_eq_true rfl) (fun K r S C hR => ?_)
  refine j_start (lv' := [(0, .ref (adr 1)), (1, .int x1), (2, .int x2)]) rfl ?_
  unfold f_X4_readNumber
  refine j_aload_n C dX4_readNumber_0 0 rfl rfl ?_
  refine j_cvv C dX4_readNumber_1 lk_X4_41 mw_X4_nextToken (m_X4_nextToken adr ) ⟨rfl, rfl, Nat.le_of_ble_eq_true rfl, Nat.le_of_ble_eq_true rfl⟩ kd_1 (by decide) (Nat.le_of_ble_eq_true rfl) rfl rfl (st := []) (st0 := [.ref (adr 1)]) rfl (Nat.le_of_ble_eq_true rfl) (fun S1 => ?_)
  refine j_aload_n C dX4_readNumber_4 0 rfl rfl ?_
  refine j_geti C dX4_readNumber_5 fl_X4_44 kd_1 (by decide) (Nat.le_of_ble_eq_true rfl) rfl ?_
  refine j_iconst C dX4_readNumber_8 (v := 2) rfl ?_
  refine j_icmp_ne C dX4_readNumber_9 (tgt := 28) (by decide) ?_ ?_
  · refine j_sub C [] rfl ?_
    exact b_X4_readNumber_28 C hR S1
  · refine j_aload_n C dX4_readNumber_12 0 rfl rfl ?_
    refine j_geti C dX4_readNumber_13 fl_X4_47 kd_1 (by decide) (Nat.le_of_ble_eq_true rfl) rfl ?_
    refine j_iload_n C dX4_readNumber_16 1 rfl rfl ?_
    refine j_iload_n C dX4_readNumber_17 2 rfl rfl ?_
    refine j_csi C dX4_readNumber_18 lk_X4_96 mw_X8_within (m_X8_within adr (S1.1 1 7) x1 x2) ⟨rfl, rfl, Nat.le_of_ble_eq_true rfl, Nat.le_of_ble_eq_true rfl⟩ rfl (st := []) (st0 := [.int x2, .int x1, .int (S1.1 1 7)]) rfl (Nat.le_of_ble_eq_true rfl) (fun v3 S2 => ?_)
    refine j_if_eq C dX4_readNumber_21 (tgt := 28) (by decide) ?_ ?_
    · refine j_sub C [] rfl ?_
      exact b_X4_readNumber_28 C hR S2
    · refine j_iconst C dX4_readNumber_24 (v := 1) rfl ?_
      refine j_goto C dX4_readNumber_25 (tgt := 29) (by decide) ?_
      refine j_sub C [] rfl ?_
      exact b_X4_readNumber_29 C hR 1 S2
-- X4_readStop
abbrev rm_X4_readStop : Room := { frames := 3, cells := 0, slots := 0, locals := 61 }
def f_X4_readStop_17 (s0 : Int32) (S : St) : Option (Int32 × St) :=
    bz s0 (some (s0, S))
set_option maxHeartbeats 1000000 in
theorem b_X4_readStop_17 {K : Kt} {adr : Nat → Nat} {r : Int32 × St} (C : Cx K cX4_readStop RX4 1 adr rm_X4_readStop) (hR : ∀ (pc : Nat) (lv : List (Nat × Value)), (r.1 = 0 ∨ r.1 = 1) → decode cX4_readStop pc = .ok (.ireturn, 1) → K pc lv [.int r.1] r.2) (s0 : Int32) (S : St) : J K r (f_X4_readStop_17 s0 S) 17 [] [.int s0] S := by
    unfold f_X4_readStop_17
    exact j_zretv hR dX4_readStop_17
def f_X4_readStop  (S : St) : Option (Int32 × St) :=
  bdV (f_X4_nextToken S) fun S1 =>
  if (S1.1 1 6) = 3 then (f_X4_readStop_17 1 S1)
  else (f_X4_readStop_17 0 S1)
set_option maxHeartbeats 1000000 in
theorem m_X4_readStop (adr : Nat → Nat)  : MtI yX4_readStop cX4_readStop 1 (some .boolean) rm_X4_readStop adr [.ref (adr 1)] (f_X4_readStop ) := by
  refine MtI.ofZ (by decide +kernel) (Nat.le_of_ble_eq_true rfl) (fun K r S C hR => ?_)
  refine j_start (lv' := [(0, .ref (adr 1))]) rfl ?_
  unfold f_X4_readStop
  refine j_aload_n C dX4_readStop_0 0 rfl rfl ?_
  refine j_cvv C dX4_readStop_1 lk_X4_41 mw_X4_nextToken (m_X4_nextToken adr ) ⟨rfl, rfl, Nat.le_of_ble_eq_true rfl, Nat.le_of_ble_eq_true rfl⟩ kd_1 (by decide) (Nat.le_of_ble_eq_true rfl) rfl rfl (st := []) (st0 := [.ref (adr 1)]) rfl (Nat.le_of_ble_eq_true rfl) (fun S1 => ?_)
  refine j_aload_n C dX4_readStop_4 0 rfl rfl ?_
  refine j_geti C dX4_readStop_5 fl_X4_44 kd_1 (by decide) (Nat.le_of_ble_eq_true rfl) rfl ?_
  refine j_iconst C dX4_readStop_8 (v := 3) rfl ?_
  refine j_icmp_ne C dX4_readStop_9 (tgt := 16) (by decide) ?_ ?_
  · refine j_iconst C dX4_readStop_16 (v := 0) rfl ?_
    refine j_sub C [] rfl ?_
    exact b_X4_readStop_17 C hR 0 S1
  · refine j_iconst C dX4_readStop_12 (v := 1) rfl ?_
    refine j_goto C dX4_readStop_13 (tgt := 17) (by decide) ?_
    refine j_sub C [] rfl ?_
    exact b_X4_readStop_17 C hR 1 S1
end
