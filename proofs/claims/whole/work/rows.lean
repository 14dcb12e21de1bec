section
-- ===== PART A: goes FIRST, ahead of the names: the tables' words, and 'selects' of the private methods out of them =====
/-- a private method of a class that the tables say can be made, by its rows of tables_1 -/
def lw_okq (q : MethodName × Nat) : Prop := (q.1.cls ≠ "java/lang/invoke/MethodHandle" ∧ q.1.cls ≠ "java/lang/invoke/VarHandle") ∧ Cond.instantiable q.1.cls q.2 ∈ tables_1 ∧ Cond.privateMethod q.1 ∈ tables_1 ∧ Cond.instanceMethod q.1 ∈ tables_1
theorem lw_p0 : lw_okq (⟨"PileSets$Ground", "put", "(III)V"⟩, 3) := ⟨⟨by decide +kernel, by decide +kernel⟩, List.mem_of_getElem? (i := 27) (by decide +kernel), List.mem_of_getElem? (i := 33) (by decide +kernel), List.mem_of_getElem? (i := 34) (by decide +kernel)⟩
theorem lw_p1 : lw_okq (⟨"PileSets$History", "remember", "(LPileSets$State;)V"⟩, 3) := ⟨⟨by decide +kernel, by decide +kernel⟩, List.mem_of_getElem? (i := 171) (by decide +kernel), List.mem_of_getElem? (i := 307) (by decide +kernel), List.mem_of_getElem? (i := 308) (by decide +kernel)⟩
theorem lw_p2 : lw_okq (⟨"PileSets$History", "roomAt", "(I)LPileSets$State;"⟩, 3) := ⟨⟨by decide +kernel, by decide +kernel⟩, List.mem_of_getElem? (i := 171) (by decide +kernel), List.mem_of_getElem? (i := 311) (by decide +kernel), List.mem_of_getElem? (i := 312) (by decide +kernel)⟩
theorem lw_p3 : lw_okq (⟨"PileSets$State", "copyFrom", "(LPileSets$State;)V"⟩, 10) := ⟨⟨by decide +kernel, by decide +kernel⟩, List.mem_of_getElem? (i := 21) (by decide +kernel), List.mem_of_getElem? (i := 315) (by decide +kernel), List.mem_of_getElem? (i := 316) (by decide +kernel)⟩
theorem lw_p4 : lw_okq (⟨"PileSets$Ground", "copyFrom", "(LPileSets$Ground;)V"⟩, 3) := ⟨⟨by decide +kernel, by decide +kernel⟩, List.mem_of_getElem? (i := 27) (by decide +kernel), List.mem_of_getElem? (i := 319) (by decide +kernel), List.mem_of_getElem? (i := 320) (by decide +kernel)⟩
theorem lw_p5 : lw_okq (⟨"PileSets$State", "pileAt", "(I)LPileSets$Pile;"⟩, 10) := ⟨⟨by decide +kernel, by decide +kernel⟩, List.mem_of_getElem? (i := 21) (by decide +kernel), List.mem_of_getElem? (i := 327) (by decide +kernel), List.mem_of_getElem? (i := 328) (by decide +kernel)⟩
theorem lw_p6 : lw_okq (⟨"PileSets$Pile", "copyFrom", "(LPileSets$Pile;)V"⟩, 13) := ⟨⟨by decide +kernel, by decide +kernel⟩, List.mem_of_getElem? (i := 63) (by decide +kernel), List.mem_of_getElem? (i := 331) (by decide +kernel), List.mem_of_getElem? (i := 332) (by decide +kernel)⟩
theorem lw_p7 : lw_okq (⟨"PileSets$Ground", "removeLast", "()V"⟩, 3) := ⟨⟨by decide +kernel, by decide +kernel⟩, List.mem_of_getElem? (i := 27) (by decide +kernel), List.mem_of_getElem? (i := 344) (by decide +kernel), List.mem_of_getElem? (i := 345) (by decide +kernel)⟩
theorem lw_p8 : lw_okq (⟨"PileSets$Ground", "thicknessOf", "(I)I"⟩, 3) := ⟨⟨by decide +kernel, by decide +kernel⟩, List.mem_of_getElem? (i := 27) (by decide +kernel), List.mem_of_getElem? (i := 352) (by decide +kernel), List.mem_of_getElem? (i := 353) (by decide +kernel)⟩
theorem lw_p9 : lw_okq (⟨"PileSets$Ground", "resistanceOf", "(I)I"⟩, 3) := ⟨⟨by decide +kernel, by decide +kernel⟩, List.mem_of_getElem? (i := 27) (by decide +kernel), List.mem_of_getElem? (i := 356) (by decide +kernel), List.mem_of_getElem? (i := 357) (by decide +kernel)⟩
theorem lw_p10 : lw_okq (⟨"PileSets$Ground", "topOf", "(I)I"⟩, 3) := ⟨⟨by decide +kernel, by decide +kernel⟩, List.mem_of_getElem? (i := 27) (by decide +kernel), List.mem_of_getElem? (i := 360) (by decide +kernel), List.mem_of_getElem? (i := 361) (by decide +kernel)⟩
theorem lw_p11 : lw_okq (⟨"PileSets$State", "feetIn", "(I)I"⟩, 10) := ⟨⟨by decide +kernel, by decide +kernel⟩, List.mem_of_getElem? (i := 21) (by decide +kernel), List.mem_of_getElem? (i := 364) (by decide +kernel), List.mem_of_getElem? (i := 365) (by decide +kernel)⟩
theorem lw_p12 : lw_okq (⟨"PileSets$Ground", "layerAt", "(I)I"⟩, 3) := ⟨⟨by decide +kernel, by decide +kernel⟩, List.mem_of_getElem? (i := 27) (by decide +kernel), List.mem_of_getElem? (i := 368) (by decide +kernel), List.mem_of_getElem? (i := 369) (by decide +kernel)⟩
theorem lw_p13 : lw_okq (⟨"PileSets$State", "setting", "(I)I"⟩, 10) := ⟨⟨by decide +kernel, by decide +kernel⟩, List.mem_of_getElem? (i := 21) (by decide +kernel), List.mem_of_getElem? (i := 390) (by decide +kernel), List.mem_of_getElem? (i := 391) (by decide +kernel)⟩
theorem lw_p14 : lw_okq (⟨"PileSets$State", "changeSetting", "(II)V"⟩, 10) := ⟨⟨by decide +kernel, by decide +kernel⟩, List.mem_of_getElem? (i := 21) (by decide +kernel), List.mem_of_getElem? (i := 394) (by decide +kernel), List.mem_of_getElem? (i := 395) (by decide +kernel)⟩
theorem lw_p15 : lw_okq (⟨"PileSets$State", "loosePiles", "()I"⟩, 10) := ⟨⟨by decide +kernel, by decide +kernel⟩, List.mem_of_getElem? (i := 21) (by decide +kernel), List.mem_of_getElem? (i := 402) (by decide +kernel), List.mem_of_getElem? (i := 403) (by decide +kernel)⟩
def lw_privs_1 : List (MethodName × Nat) := [(⟨"PileSets$Ground", "put", "(III)V"⟩, 3), (⟨"PileSets$History", "remember", "(LPileSets$State;)V"⟩, 3), (⟨"PileSets$History", "roomAt", "(I)LPileSets$State;"⟩, 3), (⟨"PileSets$State", "copyFrom", "(LPileSets$State;)V"⟩, 10), (⟨"PileSets$Ground", "copyFrom", "(LPileSets$Ground;)V"⟩, 3), (⟨"PileSets$State", "pileAt", "(I)LPileSets$Pile;"⟩, 10), (⟨"PileSets$Pile", "copyFrom", "(LPileSets$Pile;)V"⟩, 13), (⟨"PileSets$Ground", "removeLast", "()V"⟩, 3), (⟨"PileSets$Ground", "thicknessOf", "(I)I"⟩, 3), (⟨"PileSets$Ground", "resistanceOf", "(I)I"⟩, 3), (⟨"PileSets$Ground", "topOf", "(I)I"⟩, 3), (⟨"PileSets$State", "feetIn", "(I)I"⟩, 10), (⟨"PileSets$Ground", "layerAt", "(I)I"⟩, 3), (⟨"PileSets$State", "setting", "(I)I"⟩, 10), (⟨"PileSets$State", "changeSetting", "(II)V"⟩, 10), (⟨"PileSets$State", "loosePiles", "()I"⟩, 10)]
theorem lw_r1 : ∀ q ∈ lw_privs_1, lw_okq q := List.forall_mem_cons.mpr ⟨lw_p0, List.forall_mem_cons.mpr ⟨lw_p1, List.forall_mem_cons.mpr ⟨lw_p2, List.forall_mem_cons.mpr ⟨lw_p3, List.forall_mem_cons.mpr ⟨lw_p4, List.forall_mem_cons.mpr ⟨lw_p5, List.forall_mem_cons.mpr ⟨lw_p6, List.forall_mem_cons.mpr ⟨lw_p7, List.forall_mem_cons.mpr ⟨lw_p8, List.forall_mem_cons.mpr ⟨lw_p9, List.forall_mem_cons.mpr ⟨lw_p10, List.forall_mem_cons.mpr ⟨lw_p11, List.forall_mem_cons.mpr ⟨lw_p12, List.forall_mem_cons.mpr ⟨lw_p13, List.forall_mem_cons.mpr ⟨lw_p14, List.forall_mem_cons.mpr ⟨lw_p15, fun _ h => absurd h List.not_mem_nil⟩⟩⟩⟩⟩⟩⟩⟩⟩⟩⟩⟩⟩⟩⟩⟩
theorem lw_p16 : lw_okq (⟨"PileSets$State", "footSum", "()J"⟩, 10) := ⟨⟨by decide +kernel, by decide +kernel⟩, List.mem_of_getElem? (i := 21) (by decide +kernel), List.mem_of_getElem? (i := 406) (by decide +kernel), List.mem_of_getElem? (i := 407) (by decide +kernel)⟩
theorem lw_p17 : lw_okq (⟨"PileSets$State", "isTaken", "(II)Z"⟩, 10) := ⟨⟨by decide +kernel, by decide +kernel⟩, List.mem_of_getElem? (i := 21) (by decide +kernel), List.mem_of_getElem? (i := 416) (by decide +kernel), List.mem_of_getElem? (i := 417) (by decide +kernel)⟩
theorem lw_p18 : lw_okq (⟨"PileSets$State", "place", "(III)I"⟩, 10) := ⟨⟨by decide +kernel, by decide +kernel⟩, List.mem_of_getElem? (i := 21) (by decide +kernel), List.mem_of_getElem? (i := 420) (by decide +kernel), List.mem_of_getElem? (i := 421) (by decide +kernel)⟩
theorem lw_p19 : lw_okq (⟨"PileSets$Pile", "startAt", "(III)V"⟩, 13) := ⟨⟨by decide +kernel, by decide +kernel⟩, List.mem_of_getElem? (i := 63) (by decide +kernel), List.mem_of_getElem? (i := 424) (by decide +kernel), List.mem_of_getElem? (i := 425) (by decide +kernel)⟩
theorem lw_p20 : lw_okq (⟨"PileSets$State", "allowedLoad", "(LPileSets$Pile;)I"⟩, 10) := ⟨⟨by decide +kernel, by decide +kernel⟩, List.mem_of_getElem? (i := 21) (by decide +kernel), List.mem_of_getElem? (i := 433) (by decide +kernel), List.mem_of_getElem? (i := 434) (by decide +kernel)⟩
theorem lw_p21 : lw_okq (⟨"PileSets$State", "pilesNear", "(LPileSets$Pile;)I"⟩, 10) := ⟨⟨by decide +kernel, by decide +kernel⟩, List.mem_of_getElem? (i := 21) (by decide +kernel), List.mem_of_getElem? (i := 438) (by decide +kernel), List.mem_of_getElem? (i := 439) (by decide +kernel)⟩
theorem lw_p22 : lw_okq (⟨"PileSets$State", "areNear", "(LPileSets$Pile;LPileSets$Pile;)Z"⟩, 10) := ⟨⟨by decide +kernel, by decide +kernel⟩, List.mem_of_getElem? (i := 21) (by decide +kernel), List.mem_of_getElem? (i := 442) (by decide +kernel), List.mem_of_getElem? (i := 443) (by decide +kernel)⟩
theorem lw_p23 : lw_okq (⟨"PileSets$Pile", "keptSet", "(I)I"⟩, 13) := ⟨⟨by decide +kernel, by decide +kernel⟩, List.mem_of_getElem? (i := 63) (by decide +kernel), List.mem_of_getElem? (i := 453) (by decide +kernel), List.mem_of_getElem? (i := 454) (by decide +kernel)⟩
theorem lw_p24 : lw_okq (⟨"PileSets$Pile", "keptLoad", "(I)I"⟩, 13) := ⟨⟨by decide +kernel, by decide +kernel⟩, List.mem_of_getElem? (i := 63) (by decide +kernel), List.mem_of_getElem? (i := 457) (by decide +kernel), List.mem_of_getElem? (i := 458) (by decide +kernel)⟩
theorem lw_p25 : lw_okq (⟨"PileSets$Pile", "left", "()I"⟩, 13) := ⟨⟨by decide +kernel, by decide +kernel⟩, List.mem_of_getElem? (i := 63) (by decide +kernel), List.mem_of_getElem? (i := 468) (by decide +kernel), List.mem_of_getElem? (i := 469) (by decide +kernel)⟩
theorem lw_p26 : lw_okq (⟨"PileSets$State", "hit", "(LPileSets$Pile;I)I"⟩, 10) := ⟨⟨by decide +kernel, by decide +kernel⟩, List.mem_of_getElem? (i := 21) (by decide +kernel), List.mem_of_getElem? (i := 472) (by decide +kernel), List.mem_of_getElem? (i := 473) (by decide +kernel)⟩
theorem lw_p27 : lw_okq (⟨"PileSets$State", "energyOf", "(I)I"⟩, 10) := ⟨⟨by decide +kernel, by decide +kernel⟩, List.mem_of_getElem? (i := 21) (by decide +kernel), List.mem_of_getElem? (i := 476) (by decide +kernel), List.mem_of_getElem? (i := 477) (by decide +kernel)⟩
theorem lw_p28 : lw_okq (⟨"PileSets$Ground", "resistanceAt", "(I)I"⟩, 3) := ⟨⟨by decide +kernel, by decide +kernel⟩, List.mem_of_getElem? (i := 27) (by decide +kernel), List.mem_of_getElem? (i := 481) (by decide +kernel), List.mem_of_getElem? (i := 482) (by decide +kernel)⟩
theorem lw_p29 : lw_okq (⟨"PileSets$State", "setOf", "(III)I"⟩, 10) := ⟨⟨by decide +kernel, by decide +kernel⟩, List.mem_of_getElem? (i := 21) (by decide +kernel), List.mem_of_getElem? (i := 487) (by decide +kernel), List.mem_of_getElem? (i := 488) (by decide +kernel)⟩
theorem lw_p30 : lw_okq (⟨"PileSets$State", "freeSet", "(II)I"⟩, 10) := ⟨⟨by decide +kernel, by decide +kernel⟩, List.mem_of_getElem? (i := 21) (by decide +kernel), List.mem_of_getElem? (i := 491) (by decide +kernel), List.mem_of_getElem? (i := 492) (by decide +kernel)⟩
theorem lw_p31 : lw_okq (⟨"PileSets$State", "loadOf", "(II)I"⟩, 10) := ⟨⟨by decide +kernel, by decide +kernel⟩, List.mem_of_getElem? (i := 21) (by decide +kernel), List.mem_of_getElem? (i := 497) (by decide +kernel), List.mem_of_getElem? (i := 498) (by decide +kernel)⟩
def lw_privs_2 : List (MethodName × Nat) := [(⟨"PileSets$State", "footSum", "()J"⟩, 10), (⟨"PileSets$State", "isTaken", "(II)Z"⟩, 10), (⟨"PileSets$State", "place", "(III)I"⟩, 10), (⟨"PileSets$Pile", "startAt", "(III)V"⟩, 13), (⟨"PileSets$State", "allowedLoad", "(LPileSets$Pile;)I"⟩, 10), (⟨"PileSets$State", "pilesNear", "(LPileSets$Pile;)I"⟩, 10), (⟨"PileSets$State", "areNear", "(LPileSets$Pile;LPileSets$Pile;)Z"⟩, 10), (⟨"PileSets$Pile", "keptSet", "(I)I"⟩, 13), (⟨"PileSets$Pile", "keptLoad", "(I)I"⟩, 13), (⟨"PileSets$Pile", "left", "()I"⟩, 13), (⟨"PileSets$State", "hit", "(LPileSets$Pile;I)I"⟩, 10), (⟨"PileSets$State", "energyOf", "(I)I"⟩, 10), (⟨"PileSets$Ground", "resistanceAt", "(I)I"⟩, 3), (⟨"PileSets$State", "setOf", "(III)I"⟩, 10), (⟨"PileSets$State", "freeSet", "(II)I"⟩, 10), (⟨"PileSets$State", "loadOf", "(II)I"⟩, 10)]
theorem lw_r2 : ∀ q ∈ lw_privs_2, lw_okq q := List.forall_mem_cons.mpr ⟨lw_p16, List.forall_mem_cons.mpr ⟨lw_p17, List.forall_mem_cons.mpr ⟨lw_p18, List.forall_mem_cons.mpr ⟨lw_p19, List.forall_mem_cons.mpr ⟨lw_p20, List.forall_mem_cons.mpr ⟨lw_p21, List.forall_mem_cons.mpr ⟨lw_p22, List.forall_mem_cons.mpr ⟨lw_p23, List.forall_mem_cons.mpr ⟨lw_p24, List.forall_mem_cons.mpr ⟨lw_p25, List.forall_mem_cons.mpr ⟨lw_p26, List.forall_mem_cons.mpr ⟨lw_p27, List.forall_mem_cons.mpr ⟨lw_p28, List.forall_mem_cons.mpr ⟨lw_p29, List.forall_mem_cons.mpr ⟨lw_p30, List.forall_mem_cons.mpr ⟨lw_p31, fun _ h => absurd h List.not_mem_nil⟩⟩⟩⟩⟩⟩⟩⟩⟩⟩⟩⟩⟩⟩⟩⟩
theorem lw_p32 : lw_okq (⟨"PileSets$Pile", "takeBlow", "(II)V"⟩, 13) := ⟨⟨by decide +kernel, by decide +kernel⟩, List.mem_of_getElem? (i := 63) (by decide +kernel), List.mem_of_getElem? (i := 502) (by decide +kernel), List.mem_of_getElem? (i := 503) (by decide +kernel)⟩
theorem lw_p33 : lw_okq (⟨"PileSets$Pile", "keep", "(II)V"⟩, 13) := ⟨⟨by decide +kernel, by decide +kernel⟩, List.mem_of_getElem? (i := 63) (by decide +kernel), List.mem_of_getElem? (i := 506) (by decide +kernel), List.mem_of_getElem? (i := 507) (by decide +kernel)⟩
theorem lw_p34 : lw_okq (⟨"PileSets$State", "liftBy", "(I)I"⟩, 10) := ⟨⟨by decide +kernel, by decide +kernel⟩, List.mem_of_getElem? (i := 21) (by decide +kernel), List.mem_of_getElem? (i := 510) (by decide +kernel), List.mem_of_getElem? (i := 511) (by decide +kernel)⟩
theorem lw_p35 : lw_okq (⟨"PileSets$State", "liftOthers", "(LPileSets$Pile;I)V"⟩, 10) := ⟨⟨by decide +kernel, by decide +kernel⟩, List.mem_of_getElem? (i := 21) (by decide +kernel), List.mem_of_getElem? (i := 514) (by decide +kernel), List.mem_of_getElem? (i := 515) (by decide +kernel)⟩
theorem lw_p36 : lw_okq (⟨"PileSets$Pile", "takeLift", "(I)V"⟩, 13) := ⟨⟨by decide +kernel, by decide +kernel⟩, List.mem_of_getElem? (i := 63) (by decide +kernel), List.mem_of_getElem? (i := 522) (by decide +kernel), List.mem_of_getElem? (i := 523) (by decide +kernel)⟩
theorem lw_p37 : lw_okq (⟨"PileSets$State", "blowsDown", "(III)I"⟩, 10) := ⟨⟨by decide +kernel, by decide +kernel⟩, List.mem_of_getElem? (i := 21) (by decide +kernel), List.mem_of_getElem? (i := 544) (by decide +kernel), List.mem_of_getElem? (i := 545) (by decide +kernel)⟩
theorem lw_p38 : lw_okq (⟨"PileSets$State", "loadWith", "(LPileSets$Pile;I)I"⟩, 10) := ⟨⟨by decide +kernel, by decide +kernel⟩, List.mem_of_getElem? (i := 21) (by decide +kernel), List.mem_of_getElem? (i := 555) (by decide +kernel), List.mem_of_getElem? (i := 556) (by decide +kernel)⟩
theorem lw_p39 : lw_okq (⟨"PileSets$Pile", "takePress", "(I)V"⟩, 13) := ⟨⟨by decide +kernel, by decide +kernel⟩, List.mem_of_getElem? (i := 63) (by decide +kernel), List.mem_of_getElem? (i := 560) (by decide +kernel), List.mem_of_getElem? (i := 561) (by decide +kernel)⟩
theorem lw_p40 : lw_okq (⟨"PileSets$History", "restore", "(LPileSets$State;)V"⟩, 3) := ⟨⟨by decide +kernel, by decide +kernel⟩, List.mem_of_getElem? (i := 171) (by decide +kernel), List.mem_of_getElem? (i := 568) (by decide +kernel), List.mem_of_getElem? (i := 569) (by decide +kernel)⟩
theorem lw_p41 : lw_okq (⟨"PileSets$RunFinder", "read", "(LPileSets$Pile;I)V"⟩, 7) := ⟨⟨by decide +kernel, by decide +kernel⟩, List.mem_of_getElem? (i := 226) (by decide +kernel), List.mem_of_getElem? (i := 576) (by decide +kernel), List.mem_of_getElem? (i := 577) (by decide +kernel)⟩
theorem lw_p42 : lw_okq (⟨"PileSets$RunFinder", "readSet", "(II)V"⟩, 7) := ⟨⟨by decide +kernel, by decide +kernel⟩, List.mem_of_getElem? (i := 226) (by decide +kernel), List.mem_of_getElem? (i := 582) (by decide +kernel), List.mem_of_getElem? (i := 583) (by decide +kernel)⟩
theorem lw_p43 : lw_okq (⟨"PileSets$RunFinder", "closeRun", "()V"⟩, 7) := ⟨⟨by decide +kernel, by decide +kernel⟩, List.mem_of_getElem? (i := 226) (by decide +kernel), List.mem_of_getElem? (i := 587) (by decide +kernel), List.mem_of_getElem? (i := 588) (by decide +kernel)⟩
theorem lw_p44 : lw_okq (⟨"PileSets$RunFinder", "answerOf", "(I)I"⟩, 7) := ⟨⟨by decide +kernel, by decide +kernel⟩, List.mem_of_getElem? (i := 226) (by decide +kernel), List.mem_of_getElem? (i := 595) (by decide +kernel), List.mem_of_getElem? (i := 596) (by decide +kernel)⟩
theorem lw_p45 : lw_okq (⟨"PileSets$State", "pilesWithoutBlows", "()I"⟩, 10) := ⟨⟨by decide +kernel, by decide +kernel⟩, List.mem_of_getElem? (i := 21) (by decide +kernel), List.mem_of_getElem? (i := 603) (by decide +kernel), List.mem_of_getElem? (i := 604) (by decide +kernel)⟩
theorem lw_p46 : lw_okq (⟨"PileSets$OrderFinder", "search", "(LPileSets$State;II)V"⟩, 7) := ⟨⟨by decide +kernel, by decide +kernel⟩, List.mem_of_getElem? (i := 255) (by decide +kernel), List.mem_of_getElem? (i := 607) (by decide +kernel), List.mem_of_getElem? (i := 608) (by decide +kernel)⟩
theorem lw_p47 : lw_okq (⟨"PileSets$OrderFinder", "collect", "(LPileSets$State;)V"⟩, 7) := ⟨⟨by decide +kernel, by decide +kernel⟩, List.mem_of_getElem? (i := 255) (by decide +kernel), List.mem_of_getElem? (i := 611) (by decide +kernel), List.mem_of_getElem? (i := 612) (by decide +kernel)⟩
def lw_privs_3 : List (MethodName × Nat) := [(⟨"PileSets$Pile", "takeBlow", "(II)V"⟩, 13), (⟨"PileSets$Pile", "keep", "(II)V"⟩, 13), (⟨"PileSets$State", "liftBy", "(I)I"⟩, 10), (⟨"PileSets$State", "liftOthers", "(LPileSets$Pile;I)V"⟩, 10), (⟨"PileSets$Pile", "takeLift", "(I)V"⟩, 13), (⟨"PileSets$State", "blowsDown", "(III)I"⟩, 10), (⟨"PileSets$State", "loadWith", "(LPileSets$Pile;I)I"⟩, 10), (⟨"PileSets$Pile", "takePress", "(I)V"⟩, 13), (⟨"PileSets$History", "restore", "(LPileSets$State;)V"⟩, 3), (⟨"PileSets$RunFinder", "read", "(LPileSets$Pile;I)V"⟩, 7), (⟨"PileSets$RunFinder", "readSet", "(II)V"⟩, 7), (⟨"PileSets$RunFinder", "closeRun", "()V"⟩, 7), (⟨"PileSets$RunFinder", "answerOf", "(I)I"⟩, 7), (⟨"PileSets$State", "pilesWithoutBlows", "()I"⟩, 10), (⟨"PileSets$OrderFinder", "search", "(LPileSets$State;II)V"⟩, 7), (⟨"PileSets$OrderFinder", "collect", "(LPileSets$State;)V"⟩, 7)]
theorem lw_r3 : ∀ q ∈ lw_privs_3, lw_okq q := List.forall_mem_cons.mpr ⟨lw_p32, List.forall_mem_cons.mpr ⟨lw_p33, List.forall_mem_cons.mpr ⟨lw_p34, List.forall_mem_cons.mpr ⟨lw_p35, List.forall_mem_cons.mpr ⟨lw_p36, List.forall_mem_cons.mpr ⟨lw_p37, List.forall_mem_cons.mpr ⟨lw_p38, List.forall_mem_cons.mpr ⟨lw_p39, List.forall_mem_cons.mpr ⟨lw_p40, List.forall_mem_cons.mpr ⟨lw_p41, List.forall_mem_cons.mpr ⟨lw_p42, List.forall_mem_cons.mpr ⟨lw_p43, List.forall_mem_cons.mpr ⟨lw_p44, List.forall_mem_cons.mpr ⟨lw_p45, List.forall_mem_cons.mpr ⟨lw_p46, List.forall_mem_cons.mpr ⟨lw_p47, fun _ h => absurd h List.not_mem_nil⟩⟩⟩⟩⟩⟩⟩⟩⟩⟩⟩⟩⟩⟩⟩⟩
theorem lw_p48 : lw_okq (⟨"PileSets$OrderFinder", "liftsOfTried", "(LPileSets$State;II)I"⟩, 7) := ⟨⟨by decide +kernel, by decide +kernel⟩, List.mem_of_getElem? (i := 255) (by decide +kernel), List.mem_of_getElem? (i := 618) (by decide +kernel), List.mem_of_getElem? (i := 619) (by decide +kernel)⟩
theorem lw_p49 : lw_okq (⟨"PileSets$OrderFinder", "triedAt", "(I)I"⟩, 7) := ⟨⟨by decide +kernel, by decide +kernel⟩, List.mem_of_getElem? (i := 255) (by decide +kernel), List.mem_of_getElem? (i := 622) (by decide +kernel), List.mem_of_getElem? (i := 623) (by decide +kernel)⟩
theorem lw_p50 : lw_okq (⟨"PileSets$OrderFinder", "liftsOfPile", "(LPileSets$State;III)I"⟩, 7) := ⟨⟨by decide +kernel, by decide +kernel⟩, List.mem_of_getElem? (i := 255) (by decide +kernel), List.mem_of_getElem? (i := 626) (by decide +kernel), List.mem_of_getElem? (i := 627) (by decide +kernel)⟩
theorem lw_p51 : lw_okq (⟨"PileSets$OrderFinder", "findNear", "(LPileSets$State;LPileSets$Pile;)V"⟩, 7) := ⟨⟨by decide +kernel, by decide +kernel⟩, List.mem_of_getElem? (i := 255) (by decide +kernel), List.mem_of_getElem? (i := 630) (by decide +kernel), List.mem_of_getElem? (i := 631) (by decide +kernel)⟩
theorem lw_p52 : lw_okq (⟨"PileSets$OrderFinder", "liftNear", "(II)I"⟩, 7) := ⟨⟨by decide +kernel, by decide +kernel⟩, List.mem_of_getElem? (i := 255) (by decide +kernel), List.mem_of_getElem? (i := 637) (by decide +kernel), List.mem_of_getElem? (i := 638) (by decide +kernel)⟩
theorem lw_p53 : lw_okq (⟨"PileSets$OrderFinder", "nextOrder", "()Z"⟩, 7) := ⟨⟨by decide +kernel, by decide +kernel⟩, List.mem_of_getElem? (i := 255) (by decide +kernel), List.mem_of_getElem? (i := 643) (by decide +kernel), List.mem_of_getElem? (i := 644) (by decide +kernel)⟩
theorem lw_p54 : lw_okq (⟨"PileSets$OrderFinder", "swap", "(II)V"⟩, 7) := ⟨⟨by decide +kernel, by decide +kernel⟩, List.mem_of_getElem? (i := 255) (by decide +kernel), List.mem_of_getElem? (i := 647) (by decide +kernel), List.mem_of_getElem? (i := 648) (by decide +kernel)⟩
theorem lw_p55 : lw_okq (⟨"PileSets$OrderFinder", "bestAt", "(I)I"⟩, 7) := ⟨⟨by decide +kernel, by decide +kernel⟩, List.mem_of_getElem? (i := 255) (by decide +kernel), List.mem_of_getElem? (i := 651) (by decide +kernel), List.mem_of_getElem? (i := 652) (by decide +kernel)⟩
theorem lw_p56 : lw_okq (⟨"PileSets$BlowText", "append", "(C)V"⟩, 7) := ⟨⟨by decide +kernel, by decide +kernel⟩, List.mem_of_getElem? (i := 191) (by decide +kernel), List.mem_of_getElem? (i := 663) (by decide +kernel), List.mem_of_getElem? (i := 664) (by decide +kernel)⟩
theorem lw_p57 : lw_okq (⟨"PileSets$BlowText", "empty", "()V"⟩, 7) := ⟨⟨by decide +kernel, by decide +kernel⟩, List.mem_of_getElem? (i := 191) (by decide +kernel), List.mem_of_getElem? (i := 671) (by decide +kernel), List.mem_of_getElem? (i := 672) (by decide +kernel)⟩
theorem lw_p58 : lw_okq (⟨"PileSets$BlowText", "findFault", "(I)I"⟩, 7) := ⟨⟨by decide +kernel, by decide +kernel⟩, List.mem_of_getElem? (i := 191) (by decide +kernel), List.mem_of_getElem? (i := 679) (by decide +kernel), List.mem_of_getElem? (i := 680) (by decide +kernel)⟩
theorem lw_p59 : lw_okq (⟨"PileSets$BlowText", "reasonOf", "(II)I"⟩, 7) := ⟨⟨by decide +kernel, by decide +kernel⟩, List.mem_of_getElem? (i := 191) (by decide +kernel), List.mem_of_getElem? (i := 683) (by decide +kernel), List.mem_of_getElem? (i := 684) (by decide +kernel)⟩
theorem lw_p60 : lw_okq (⟨"PileSets$BlowText", "readPart", "(I)Z"⟩, 7) := ⟨⟨by decide +kernel, by decide +kernel⟩, List.mem_of_getElem? (i := 191) (by decide +kernel), List.mem_of_getElem? (i := 687) (by decide +kernel), List.mem_of_getElem? (i := 688) (by decide +kernel)⟩
theorem lw_p61 : lw_okq (⟨"PileSets$BlowText", "digitsFrom", "(I)I"⟩, 7) := ⟨⟨by decide +kernel, by decide +kernel⟩, List.mem_of_getElem? (i := 191) (by decide +kernel), List.mem_of_getElem? (i := 691) (by decide +kernel), List.mem_of_getElem? (i := 692) (by decide +kernel)⟩
theorem lw_p62 : lw_okq (⟨"PileSets$BlowText", "characterAt", "(I)C"⟩, 7) := ⟨⟨by decide +kernel, by decide +kernel⟩, List.mem_of_getElem? (i := 191) (by decide +kernel), List.mem_of_getElem? (i := 695) (by decide +kernel), List.mem_of_getElem? (i := 696) (by decide +kernel)⟩
theorem lw_p63 : lw_okq (⟨"PileSets$BlowText", "isDigit", "(C)Z"⟩, 7) := ⟨⟨by decide +kernel, by decide +kernel⟩, List.mem_of_getElem? (i := 191) (by decide +kernel), List.mem_of_getElem? (i := 699) (by decide +kernel), List.mem_of_getElem? (i := 700) (by decide +kernel)⟩
def lw_privs_4 : List (MethodName × Nat) := [(⟨"PileSets$OrderFinder", "liftsOfTried", "(LPileSets$State;II)I"⟩, 7), (⟨"PileSets$OrderFinder", "triedAt", "(I)I"⟩, 7), (⟨"PileSets$OrderFinder", "liftsOfPile", "(LPileSets$State;III)I"⟩, 7), (⟨"PileSets$OrderFinder", "findNear", "(LPileSets$State;LPileSets$Pile;)V"⟩, 7), (⟨"PileSets$OrderFinder", "liftNear", "(II)I"⟩, 7), (⟨"PileSets$OrderFinder", "nextOrder", "()Z"⟩, 7), (⟨"PileSets$OrderFinder", "swap", "(II)V"⟩, 7), (⟨"PileSets$OrderFinder", "bestAt", "(I)I"⟩, 7), (⟨"PileSets$BlowText", "append", "(C)V"⟩, 7), (⟨"PileSets$BlowText", "empty", "()V"⟩, 7), (⟨"PileSets$BlowText", "findFault", "(I)I"⟩, 7), (⟨"PileSets$BlowText", "reasonOf", "(II)I"⟩, 7), (⟨"PileSets$BlowText", "readPart", "(I)Z"⟩, 7), (⟨"PileSets$BlowText", "digitsFrom", "(I)I"⟩, 7), (⟨"PileSets$BlowText", "characterAt", "(I)C"⟩, 7), (⟨"PileSets$BlowText", "isDigit", "(C)Z"⟩, 7)]
theorem lw_r4 : ∀ q ∈ lw_privs_4, lw_okq q := List.forall_mem_cons.mpr ⟨lw_p48, List.forall_mem_cons.mpr ⟨lw_p49, List.forall_mem_cons.mpr ⟨lw_p50, List.forall_mem_cons.mpr ⟨lw_p51, List.forall_mem_cons.mpr ⟨lw_p52, List.forall_mem_cons.mpr ⟨lw_p53, List.forall_mem_cons.mpr ⟨lw_p54, List.forall_mem_cons.mpr ⟨lw_p55, List.forall_mem_cons.mpr ⟨lw_p56, List.forall_mem_cons.mpr ⟨lw_p57, List.forall_mem_cons.mpr ⟨lw_p58, List.forall_mem_cons.mpr ⟨lw_p59, List.forall_mem_cons.mpr ⟨lw_p60, List.forall_mem_cons.mpr ⟨lw_p61, List.forall_mem_cons.mpr ⟨lw_p62, List.forall_mem_cons.mpr ⟨lw_p63, fun _ h => absurd h List.not_mem_nil⟩⟩⟩⟩⟩⟩⟩⟩⟩⟩⟩⟩⟩⟩⟩⟩
theorem lw_p64 : lw_okq (⟨"PileSets$BlowText", "numberIn", "(II)I"⟩, 7) := ⟨⟨by decide +kernel, by decide +kernel⟩, List.mem_of_getElem? (i := 191) (by decide +kernel), List.mem_of_getElem? (i := 703) (by decide +kernel), List.mem_of_getElem? (i := 704) (by decide +kernel)⟩
theorem lw_p65 : lw_okq (⟨"PileSets$State", "hitSeveral", "(III)I"⟩, 10) := ⟨⟨by decide +kernel, by decide +kernel⟩, List.mem_of_getElem? (i := 21) (by decide +kernel), List.mem_of_getElem? (i := 714) (by decide +kernel), List.mem_of_getElem? (i := 715) (by decide +kernel)⟩
theorem lw_p66 : lw_okq (⟨"PileSetsModel", "records", "()V"⟩, 22) := ⟨⟨by decide +kernel, by decide +kernel⟩, List.mem_of_getElem? (i := 719) (by decide +kernel), List.mem_of_getElem? (i := 804) (by decide +kernel), List.mem_of_getElem? (i := 805) (by decide +kernel)⟩
theorem lw_p67 : lw_okq (⟨"PileSetsModel", "begins", "(I)I"⟩, 22) := ⟨⟨by decide +kernel, by decide +kernel⟩, List.mem_of_getElem? (i := 719) (by decide +kernel), List.mem_of_getElem? (i := 816) (by decide +kernel), List.mem_of_getElem? (i := 817) (by decide +kernel)⟩
theorem lw_p68 : lw_okq (⟨"PileSetsModel", "feetIn", "(I)I"⟩, 22) := ⟨⟨by decide +kernel, by decide +kernel⟩, List.mem_of_getElem? (i := 719) (by decide +kernel), List.mem_of_getElem? (i := 820) (by decide +kernel), List.mem_of_getElem? (i := 821) (by decide +kernel)⟩
theorem lw_p69 : lw_okq (⟨"PileSetsModel", "of", "(II)I"⟩, 22) := ⟨⟨by decide +kernel, by decide +kernel⟩, List.mem_of_getElem? (i := 719) (by decide +kernel), List.mem_of_getElem? (i := 824) (by decide +kernel), List.mem_of_getElem? (i := 825) (by decide +kernel)⟩
theorem lw_p70 : lw_okq (⟨"PileSetsModel", "stratumAt", "(I)I"⟩, 22) := ⟨⟨by decide +kernel, by decide +kernel⟩, List.mem_of_getElem? (i := 719) (by decide +kernel), List.mem_of_getElem? (i := 828) (by decide +kernel), List.mem_of_getElem? (i := 829) (by decide +kernel)⟩
theorem lw_p71 : lw_okq (⟨"PileSetsModel", "loosePiles", "()I"⟩, 22) := ⟨⟨by decide +kernel, by decide +kernel⟩, List.mem_of_getElem? (i := 719) (by decide +kernel), List.mem_of_getElem? (i := 848) (by decide +kernel), List.mem_of_getElem? (i := 849) (by decide +kernel)⟩
theorem lw_p72 : lw_okq (⟨"PileSetsModel", "feet", "()I"⟩, 22) := ⟨⟨by decide +kernel, by decide +kernel⟩, List.mem_of_getElem? (i := 719) (by decide +kernel), List.mem_of_getElem? (i := 852) (by decide +kernel), List.mem_of_getElem? (i := 853) (by decide +kernel)⟩
theorem lw_p73 : lw_okq (⟨"PileSetsModel", "stands", "(II)Z"⟩, 22) := ⟨⟨by decide +kernel, by decide +kernel⟩, List.mem_of_getElem? (i := 719) (by decide +kernel), List.mem_of_getElem? (i := 862) (by decide +kernel), List.mem_of_getElem? (i := 863) (by decide +kernel)⟩
theorem lw_p74 : lw_okq (⟨"PileSetsModel", "put", "(III)V"⟩, 22) := ⟨⟨by decide +kernel, by decide +kernel⟩, List.mem_of_getElem? (i := 719) (by decide +kernel), List.mem_of_getElem? (i := 866) (by decide +kernel), List.mem_of_getElem? (i := 867) (by decide +kernel)⟩
theorem lw_p75 : lw_okq (⟨"PileSetsModel", "isPile", "(I)Z"⟩, 22) := ⟨⟨by decide +kernel, by decide +kernel⟩, List.mem_of_getElem? (i := 719) (by decide +kernel), List.mem_of_getElem? (i := 874) (by decide +kernel), List.mem_of_getElem? (i := 875) (by decide +kernel)⟩
theorem lw_p76 : lw_okq (⟨"PileSetsModel", "allowed", "(I)I"⟩, 22) := ⟨⟨by decide +kernel, by decide +kernel⟩, List.mem_of_getElem? (i := 719) (by decide +kernel), List.mem_of_getElem? (i := 878) (by decide +kernel), List.mem_of_getElem? (i := 879) (by decide +kernel)⟩
theorem lw_p77 : lw_okq (⟨"PileSetsModel", "near", "(I)I"⟩, 22) := ⟨⟨by decide +kernel, by decide +kernel⟩, List.mem_of_getElem? (i := 719) (by decide +kernel), List.mem_of_getElem? (i := 882) (by decide +kernel), List.mem_of_getElem? (i := 883) (by decide +kernel)⟩
theorem lw_p78 : lw_okq (⟨"PileSetsModel", "areNear", "(II)Z"⟩, 22) := ⟨⟨by decide +kernel, by decide +kernel⟩, List.mem_of_getElem? (i := 719) (by decide +kernel), List.mem_of_getElem? (i := 886) (by decide +kernel), List.mem_of_getElem? (i := 887) (by decide +kernel)⟩
theorem lw_p79 : lw_okq (⟨"PileSetsModel", "isDown", "(I)Z"⟩, 22) := ⟨⟨by decide +kernel, by decide +kernel⟩, List.mem_of_getElem? (i := 719) (by decide +kernel), List.mem_of_getElem? (i := 904) (by decide +kernel), List.mem_of_getElem? (i := 905) (by decide +kernel)⟩
def lw_privs_5 : List (MethodName × Nat) := [(⟨"PileSets$BlowText", "numberIn", "(II)I"⟩, 7), (⟨"PileSets$State", "hitSeveral", "(III)I"⟩, 10), (⟨"PileSetsModel", "records", "()V"⟩, 22), (⟨"PileSetsModel", "begins", "(I)I"⟩, 22), (⟨"PileSetsModel", "feetIn", "(I)I"⟩, 22), (⟨"PileSetsModel", "of", "(II)I"⟩, 22), (⟨"PileSetsModel", "stratumAt", "(I)I"⟩, 22), (⟨"PileSetsModel", "loosePiles", "()I"⟩, 22), (⟨"PileSetsModel", "feet", "()I"⟩, 22), (⟨"PileSetsModel", "stands", "(II)Z"⟩, 22), (⟨"PileSetsModel", "put", "(III)V"⟩, 22), (⟨"PileSetsModel", "isPile", "(I)Z"⟩, 22), (⟨"PileSetsModel", "allowed", "(I)I"⟩, 22), (⟨"PileSetsModel", "near", "(I)I"⟩, 22), (⟨"PileSetsModel", "areNear", "(II)Z"⟩, 22), (⟨"PileSetsModel", "isDown", "(I)Z"⟩, 22)]
theorem lw_r5 : ∀ q ∈ lw_privs_5, lw_okq q := List.forall_mem_cons.mpr ⟨lw_p64, List.forall_mem_cons.mpr ⟨lw_p65, List.forall_mem_cons.mpr ⟨lw_p66, List.forall_mem_cons.mpr ⟨lw_p67, List.forall_mem_cons.mpr ⟨lw_p68, List.forall_mem_cons.mpr ⟨lw_p69, List.forall_mem_cons.mpr ⟨lw_p70, List.forall_mem_cons.mpr ⟨lw_p71, List.forall_mem_cons.mpr ⟨lw_p72, List.forall_mem_cons.mpr ⟨lw_p73, List.forall_mem_cons.mpr ⟨lw_p74, List.forall_mem_cons.mpr ⟨lw_p75, List.forall_mem_cons.mpr ⟨lw_p76, List.forall_mem_cons.mpr ⟨lw_p77, List.forall_mem_cons.mpr ⟨lw_p78, List.forall_mem_cons.mpr ⟨lw_p79, fun _ h => absurd h List.not_mem_nil⟩⟩⟩⟩⟩⟩⟩⟩⟩⟩⟩⟩⟩⟩⟩⟩
theorem lw_p80 : lw_okq (⟨"PileSetsModel", "strikes", "(II)I"⟩, 22) := ⟨⟨by decide +kernel, by decide +kernel⟩, List.mem_of_getElem? (i := 719) (by decide +kernel), List.mem_of_getElem? (i := 908) (by decide +kernel), List.mem_of_getElem? (i := 909) (by decide +kernel)⟩
theorem lw_p81 : lw_okq (⟨"PileSetsModel", "hardness", "(I)I"⟩, 22) := ⟨⟨by decide +kernel, by decide +kernel⟩, List.mem_of_getElem? (i := 719) (by decide +kernel), List.mem_of_getElem? (i := 912) (by decide +kernel), List.mem_of_getElem? (i := 913) (by decide +kernel)⟩
theorem lw_p82 : lw_okq (⟨"PileSetsModel", "energy", "(I)I"⟩, 22) := ⟨⟨by decide +kernel, by decide +kernel⟩, List.mem_of_getElem? (i := 719) (by decide +kernel), List.mem_of_getElem? (i := 916) (by decide +kernel), List.mem_of_getElem? (i := 917) (by decide +kernel)⟩
theorem lw_p83 : lw_okq (⟨"PileSetsModel", "setAt", "(III)I"⟩, 22) := ⟨⟨by decide +kernel, by decide +kernel⟩, List.mem_of_getElem? (i := 719) (by decide +kernel), List.mem_of_getElem? (i := 921) (by decide +kernel), List.mem_of_getElem? (i := 922) (by decide +kernel)⟩
theorem lw_p84 : lw_okq (⟨"PileSetsModel", "keeps", "(III)V"⟩, 22) := ⟨⟨by decide +kernel, by decide +kernel⟩, List.mem_of_getElem? (i := 719) (by decide +kernel), List.mem_of_getElem? (i := 929) (by decide +kernel), List.mem_of_getElem? (i := 930) (by decide +kernel)⟩
theorem lw_p85 : lw_okq (⟨"PileSetsModel", "lifts", "(II)V"⟩, 22) := ⟨⟨by decide +kernel, by decide +kernel⟩, List.mem_of_getElem? (i := 719) (by decide +kernel), List.mem_of_getElem? (i := 933) (by decide +kernel), List.mem_of_getElem? (i := 934) (by decide +kernel)⟩
theorem lw_p86 : lw_okq (⟨"PileSetsModel", "liftOf", "(III)I"⟩, 22) := ⟨⟨by decide +kernel, by decide +kernel⟩, List.mem_of_getElem? (i := 719) (by decide +kernel), List.mem_of_getElem? (i := 937) (by decide +kernel), List.mem_of_getElem? (i := 938) (by decide +kernel)⟩
theorem lw_p87 : lw_okq (⟨"PileSetsModel", "findRuns", "(I)V"⟩, 22) := ⟨⟨by decide +kernel, by decide +kernel⟩, List.mem_of_getElem? (i := 719) (by decide +kernel), List.mem_of_getElem? (i := 965) (by decide +kernel), List.mem_of_getElem? (i := 966) (by decide +kernel)⟩
theorem lw_p88 : lw_okq (⟨"PileSetsModel", "endsRun", "(III)V"⟩, 22) := ⟨⟨by decide +kernel, by decide +kernel⟩, List.mem_of_getElem? (i := 719) (by decide +kernel), List.mem_of_getElem? (i := 969) (by decide +kernel), List.mem_of_getElem? (i := 970) (by decide +kernel)⟩
theorem lw_p89 : lw_okq (⟨"PileSetsModel", "findFresh", "()V"⟩, 22) := ⟨⟨by decide +kernel, by decide +kernel⟩, List.mem_of_getElem? (i := 719) (by decide +kernel), List.mem_of_getElem? (i := 981) (by decide +kernel), List.mem_of_getElem? (i := 982) (by decide +kernel)⟩
theorem lw_p90 : lw_okq (⟨"PileSetsModel", "findOrder", "(II)V"⟩, 22) := ⟨⟨by decide +kernel, by decide +kernel⟩, List.mem_of_getElem? (i := 719) (by decide +kernel), List.mem_of_getElem? (i := 985) (by decide +kernel), List.mem_of_getElem? (i := 986) (by decide +kernel)⟩
theorem lw_p91 : lw_okq (⟨"PileSetsModel", "layRow", "(II)V"⟩, 22) := ⟨⟨by decide +kernel, by decide +kernel⟩, List.mem_of_getElem? (i := 719) (by decide +kernel), List.mem_of_getElem? (i := 989) (by decide +kernel), List.mem_of_getElem? (i := 990) (by decide +kernel)⟩
theorem lw_p92 : lw_okq (⟨"PileSetsModel", "tries", "(III)I"⟩, 22) := ⟨⟨by decide +kernel, by decide +kernel⟩, List.mem_of_getElem? (i := 719) (by decide +kernel), List.mem_of_getElem? (i := 993) (by decide +kernel), List.mem_of_getElem? (i := 994) (by decide +kernel)⟩
theorem lw_p93 : lw_okq (⟨"PileSetsModel", "reasonOfText", "()I"⟩, 22) := ⟨⟨by decide +kernel, by decide +kernel⟩, List.mem_of_getElem? (i := 719) (by decide +kernel), List.mem_of_getElem? (i := 1013) (by decide +kernel), List.mem_of_getElem? (i := 1014) (by decide +kernel)⟩
theorem lw_p94 : lw_okq (⟨"PileSetsModel", "reason", "()I"⟩, 22) := ⟨⟨by decide +kernel, by decide +kernel⟩, List.mem_of_getElem? (i := 719) (by decide +kernel), List.mem_of_getElem? (i := 1017) (by decide +kernel), List.mem_of_getElem? (i := 1018) (by decide +kernel)⟩
theorem lw_p95 : lw_okq (⟨"PileSetsModel", "isFormed", "()Z"⟩, 22) := ⟨⟨by decide +kernel, by decide +kernel⟩, List.mem_of_getElem? (i := 719) (by decide +kernel), List.mem_of_getElem? (i := 1021) (by decide +kernel), List.mem_of_getElem? (i := 1022) (by decide +kernel)⟩
def lw_privs_6 : List (MethodName × Nat) := [(⟨"PileSetsModel", "strikes", "(II)I"⟩, 22), (⟨"PileSetsModel", "hardness", "(I)I"⟩, 22), (⟨"PileSetsModel", "energy", "(I)I"⟩, 22), (⟨"PileSetsModel", "setAt", "(III)I"⟩, 22), (⟨"PileSetsModel", "keeps", "(III)V"⟩, 22), (⟨"PileSetsModel", "lifts", "(II)V"⟩, 22), (⟨"PileSetsModel", "liftOf", "(III)I"⟩, 22), (⟨"PileSetsModel", "findRuns", "(I)V"⟩, 22), (⟨"PileSetsModel", "endsRun", "(III)V"⟩, 22), (⟨"PileSetsModel", "findFresh", "()V"⟩, 22), (⟨"PileSetsModel", "findOrder", "(II)V"⟩, 22), (⟨"PileSetsModel", "layRow", "(II)V"⟩, 22), (⟨"PileSetsModel", "tries", "(III)I"⟩, 22), (⟨"PileSetsModel", "reasonOfText", "()I"⟩, 22), (⟨"PileSetsModel", "reason", "()I"⟩, 22), (⟨"PileSetsModel", "isFormed", "()Z"⟩, 22)]
theorem lw_r6 : ∀ q ∈ lw_privs_6, lw_okq q := List.forall_mem_cons.mpr ⟨lw_p80, List.forall_mem_cons.mpr ⟨lw_p81, List.forall_mem_cons.mpr ⟨lw_p82, List.forall_mem_cons.mpr ⟨lw_p83, List.forall_mem_cons.mpr ⟨lw_p84, List.forall_mem_cons.mpr ⟨lw_p85, List.forall_mem_cons.mpr ⟨lw_p86, List.forall_mem_cons.mpr ⟨lw_p87, List.forall_mem_cons.mpr ⟨lw_p88, List.forall_mem_cons.mpr ⟨lw_p89, List.forall_mem_cons.mpr ⟨lw_p90, List.forall_mem_cons.mpr ⟨lw_p91, List.forall_mem_cons.mpr ⟨lw_p92, List.forall_mem_cons.mpr ⟨lw_p93, List.forall_mem_cons.mpr ⟨lw_p94, List.forall_mem_cons.mpr ⟨lw_p95, fun _ h => absurd h List.not_mem_nil⟩⟩⟩⟩⟩⟩⟩⟩⟩⟩⟩⟩⟩⟩⟩⟩
theorem lw_p96 : lw_okq (⟨"PileSetsModel", "digits", "(II)I"⟩, 22) := ⟨⟨by decide +kernel, by decide +kernel⟩, List.mem_of_getElem? (i := 719) (by decide +kernel), List.mem_of_getElem? (i := 1025) (by decide +kernel), List.mem_of_getElem? (i := 1026) (by decide +kernel)⟩
theorem lw_p97 : lw_okq (⟨"PileSetsModel", "isDigit", "()Z"⟩, 22) := ⟨⟨by decide +kernel, by decide +kernel⟩, List.mem_of_getElem? (i := 719) (by decide +kernel), List.mem_of_getElem? (i := 1029) (by decide +kernel), List.mem_of_getElem? (i := 1030) (by decide +kernel)⟩
theorem lw_p98 : lw_okq (⟨"PileSetsModel", "takes", "(I)Z"⟩, 22) := ⟨⟨by decide +kernel, by decide +kernel⟩, List.mem_of_getElem? (i := 719) (by decide +kernel), List.mem_of_getElem? (i := 1033) (by decide +kernel), List.mem_of_getElem? (i := 1034) (by decide +kernel)⟩
def lw_privs_7 : List (MethodName × Nat) := [(⟨"PileSetsModel", "digits", "(II)I"⟩, 22), (⟨"PileSetsModel", "isDigit", "()Z"⟩, 22), (⟨"PileSetsModel", "takes", "(I)Z"⟩, 22)]
theorem lw_r7 : ∀ q ∈ lw_privs_7, lw_okq q := List.forall_mem_cons.mpr ⟨lw_p96, List.forall_mem_cons.mpr ⟨lw_p97, List.forall_mem_cons.mpr ⟨lw_p98, fun _ h => absurd h List.not_mem_nil⟩⟩⟩
def lw_privs : List (MethodName × Nat) := lw_privs_1 ++ (lw_privs_2 ++ (lw_privs_3 ++ (lw_privs_4 ++ (lw_privs_5 ++ (lw_privs_6 ++ (lw_privs_7))))))
def lw_tbl : List Cond := k2_sels lw_privs ++ tables_1
theorem lw_privs_ok : ∀ q ∈ lw_privs, lw_okq q := by
  show ∀ q ∈ lw_privs_1 ++ (lw_privs_2 ++ (lw_privs_3 ++ (lw_privs_4 ++ (lw_privs_5 ++ (lw_privs_6 ++ (lw_privs_7)))))), lw_okq q
  exact List.forall_mem_append.mpr ⟨lw_r1, List.forall_mem_append.mpr ⟨lw_r2, List.forall_mem_append.mpr ⟨lw_r3, List.forall_mem_append.mpr ⟨lw_r4, List.forall_mem_append.mpr ⟨lw_r5, List.forall_mem_append.mpr ⟨lw_r6, lw_r7⟩⟩⟩⟩⟩⟩
end
section
theorem goodIn_r {big : List Cond} (ws : List Cond) (ps : List Nat) (hp : ws = ps.filterMap (fun i => big[i]?)) (h : ws.all goodWord = true) : GoodIn big ws := by
  intro w hw
  have h1 := List.all_eq_true.mp h w hw
  rw [hp] at hw
  obtain ⟨i, -, hi⟩ := List.mem_filterMap.mp hw
  have hm : w ∈ big := by first | exact List.mem_of_getElem? hi | exact List.getElem?_mem hi
  exact ⟨hm, good_of_word h1⟩
theorem goodIn_app {big a b : List Cond} (ha : GoodIn big a) (hb : GoodIn big b) : GoodIn big (a ++ b) := fun w h => (List.mem_append.mp h).elim (ha w) (hb w)
theorem goodIn_ca {big a b : List Cond} {c : Cond} (ha : GoodIn big (c :: a)) (hb : GoodIn big b) : GoodIn big (c :: (a ++ b)) := fun w h => (List.mem_cons.mp h).elim (fun e => ha w (List.mem_cons.mpr (Or.inl e))) (fun h => (List.mem_append.mp h).elim (fun h => ha w (List.mem_cons.mpr (Or.inr h))) (hb w))
theorem goodIn_sub {big ws : List Cond} (hm : ∀ w ∈ ws, w ∈ big) (h : ws.all goodWord = true) : GoodIn big ws := fun w hw => ⟨hm w hw, good_of_word (List.all_eq_true.mp h w hw)⟩
/-! ===== END ===== -/

/-! ===== BEGIN printed: names, fields, word lists, decode rows ===== -/
def RX0 : String := "PileSets$BlowText"
def TX0 : u_T := fun k => match k with
  | 0 => ("PileSets$BlowText", "characters", "[C", true)
  | 1 => ("PileSets$BlowText", "length", "I", false)
  | 2 => ("PileSets$BlowText", "pileNumber", "I", false)
  | 3 => ("PileSets$BlowText", "fall", "I", false)
  | 4 => ("PileSets$BlowText", "times", "I", false)
  | 5 => ("PileSets$BlowText", "partEnd", "I", false)
  | _ => ("PileSets$BlowText", "faultStart", "I", false)
def tyX0 : Nat → FieldType := fun k => match k with
  | 0 => .array .char
  | 1 => .int
  | 2 => .int
  | 3 => .int
  | 4 => .int
  | 5 => .int
  | _ => .int
abbrev wsX00 : List Cond := u_ws RX0 TX0 7
theorem nmX0 : ∀ a, a < 7 → ∀ b, b < 7 → a ≠ b → (TX0 a).2.1 ≠ (TX0 b).2.1 := by decide +kernel
theorem tyX0_ok : ∀ k, k < 7 → parseFieldDescriptor (TX0 k).2.2.1 = some (tyX0 k) := by decide +kernel
abbrev cX0_init : ByteArray := prog_2_method_1_code
def yX0_init : MethodName := ⟨RX0, "<init>", "()V"⟩
abbrev cX0_append : ByteArray := prog_2_method_2_code
def yX0_append : MethodName := ⟨RX0, "append", "(C)V"⟩
abbrev cX0_empty : ByteArray := prog_2_method_3_code
def yX0_empty : MethodName := ⟨RX0, "empty", "()V"⟩
abbrev cX0_findFault : ByteArray := prog_2_method_4_code
def yX0_findFault : MethodName := ⟨RX0, "findFault", "(I)I"⟩
abbrev cX0_reasonOf : ByteArray := prog_2_method_5_code
def yX0_reasonOf : MethodName := ⟨RX0, "reasonOf", "(II)I"⟩
abbrev cX0_readPart : ByteArray := prog_2_method_6_code
def yX0_readPart : MethodName := ⟨RX0, "readPart", "(I)Z"⟩
abbrev cX0_characterAt : ByteArray := prog_2_method_7_code
def yX0_characterAt : MethodName := ⟨RX0, "characterAt", "(I)C"⟩
abbrev cX0_isDigit : ByteArray := prog_2_method_8_code
def yX0_isDigit : MethodName := ⟨RX0, "isDigit", "(C)Z"⟩
abbrev cX0_digitsFrom : ByteArray := prog_2_method_9_code
def yX0_digitsFrom : MethodName := ⟨RX0, "digitsFrom", "(I)I"⟩
abbrev cX0_numberIn : ByteArray := prog_2_method_10_code
def yX0_numberIn : MethodName := ⟨RX0, "numberIn", "(II)I"⟩
def RX1 : String := "PileSets$Ground"
def TX1 : u_T := fun k => match k with
  | 0 => ("PileSets$Ground", "thickness", "[I", true)
  | 1 => ("PileSets$Ground", "resistance", "[I", true)
  | _ => ("PileSets$Ground", "strata", "I", false)
def tyX1 : Nat → FieldType := fun k => match k with
  | 0 => .array .int
  | 1 => .array .int
  | _ => .int
abbrev wsX10 : List Cond := u_ws RX1 TX1 3
theorem nmX1 : ∀ a, a < 3 → ∀ b, b < 3 → a ≠ b → (TX1 a).2.1 ≠ (TX1 b).2.1 := by decide +kernel
theorem tyX1_ok : ∀ k, k < 3 → parseFieldDescriptor (TX1 k).2.2.1 = some (tyX1 k) := by decide +kernel
abbrev cX1_init : ByteArray := prog_3_method_1_code
def yX1_init : MethodName := ⟨RX1, "<init>", "()V"⟩
abbrev cX1_put : ByteArray := prog_3_method_2_code
def yX1_put : MethodName := ⟨RX1, "put", "(III)V"⟩
abbrev cX1_removeLast : ByteArray := prog_3_method_3_code
def yX1_removeLast : MethodName := ⟨RX1, "removeLast", "()V"⟩
abbrev cX1_thicknessOf : ByteArray := prog_3_method_4_code
def yX1_thicknessOf : MethodName := ⟨RX1, "thicknessOf", "(I)I"⟩
abbrev cX1_resistanceOf : ByteArray := prog_3_method_5_code
def yX1_resistanceOf : MethodName := ⟨RX1, "resistanceOf", "(I)I"⟩
abbrev cX1_topOf : ByteArray := prog_3_method_6_code
def yX1_topOf : MethodName := ⟨RX1, "topOf", "(I)I"⟩
abbrev cX1_layerAt : ByteArray := prog_3_method_7_code
def yX1_layerAt : MethodName := ⟨RX1, "layerAt", "(I)I"⟩
abbrev cX1_resistanceAt : ByteArray := prog_3_method_8_code
def yX1_resistanceAt : MethodName := ⟨RX1, "resistanceAt", "(I)I"⟩
abbrev cX1_copyFrom : ByteArray := prog_3_method_9_code
def yX1_copyFrom : MethodName := ⟨RX1, "copyFrom", "(LPileSets$Ground;)V"⟩
def RX2 : String := "PileSets$History"
def TX2 : u_T := fun k => match k with
  | 0 => ("PileSets$History", "rooms", "[LPileSets$State;", true)
  | 1 => ("PileSets$History", "states", "I", false)
  | _ => ("PileSets$History", "next", "I", false)
def tyX2 : Nat → FieldType := fun k => match k with
  | 0 => .array (.object "PileSets$State")
  | 1 => .int
  | _ => .int
abbrev wsX20 : List Cond := u_ws RX2 TX2 3
theorem nmX2 : ∀ a, a < 3 → ∀ b, b < 3 → a ≠ b → (TX2 a).2.1 ≠ (TX2 b).2.1 := by decide +kernel
theorem tyX2_ok : ∀ k, k < 3 → parseFieldDescriptor (TX2 k).2.2.1 = some (tyX2 k) := by decide +kernel
abbrev cX2_init : ByteArray := prog_4_method_1_code
def yX2_init : MethodName := ⟨RX2, "<init>", "()V"⟩
abbrev cX2_remember : ByteArray := prog_4_method_2_code
def yX2_remember : MethodName := ⟨RX2, "remember", "(LPileSets$State;)V"⟩
abbrev cX2_restore : ByteArray := prog_4_method_3_code
def yX2_restore : MethodName := ⟨RX2, "restore", "(LPileSets$State;)V"⟩
abbrev cX2_roomAt : ByteArray := prog_4_method_4_code
def yX2_roomAt : MethodName := ⟨RX2, "roomAt", "(I)LPileSets$State;"⟩
def RX3 : String := "PileSets$OrderFinder"
def TX3 : u_T := fun k => match k with
  | 0 => ("PileSets$OrderFinder", "feet", "[I", true)
  | 1 => ("PileSets$OrderFinder", "near", "[I", true)
  | 2 => ("PileSets$OrderFinder", "nearOnes", "I", false)
  | 3 => ("PileSets$OrderFinder", "tried", "[I", true)
  | 4 => ("PileSets$OrderFinder", "best", "[I", true)
  | 5 => ("PileSets$OrderFinder", "size", "I", false)
  | _ => ("PileSets$OrderFinder", "leastSum", "I", false)
def tyX3 : Nat → FieldType := fun k => match k with
  | 0 => .array .int
  | 1 => .array .int
  | 2 => .int
  | 3 => .array .int
  | 4 => .array .int
  | 5 => .int
  | _ => .int
abbrev wsX30 : List Cond := u_ws RX3 TX3 7
theorem nmX3 : ∀ a, a < 7 → ∀ b, b < 7 → a ≠ b → (TX3 a).2.1 ≠ (TX3 b).2.1 := by decide +kernel
theorem tyX3_ok : ∀ k, k < 7 → parseFieldDescriptor (TX3 k).2.2.1 = some (tyX3 k) := by decide +kernel
abbrev cX3_init : ByteArray := prog_5_method_1_code
def yX3_init : MethodName := ⟨RX3, "<init>", "()V"⟩
abbrev cX3_search : ByteArray := prog_5_method_2_code
def yX3_search : MethodName := ⟨RX3, "search", "(LPileSets$State;II)V"⟩
abbrev cX3_bestAt : ByteArray := prog_5_method_3_code
def yX3_bestAt : MethodName := ⟨RX3, "bestAt", "(I)I"⟩
abbrev cX3_collect : ByteArray := prog_5_method_4_code
def yX3_collect : MethodName := ⟨RX3, "collect", "(LPileSets$State;)V"⟩
abbrev cX3_liftsOfTried : ByteArray := prog_5_method_5_code
def yX3_liftsOfTried : MethodName := ⟨RX3, "liftsOfTried", "(LPileSets$State;II)I"⟩
abbrev cX3_liftsOfPile : ByteArray := prog_5_method_6_code
def yX3_liftsOfPile : MethodName := ⟨RX3, "liftsOfPile", "(LPileSets$State;III)I"⟩
abbrev cX3_findNear : ByteArray := prog_5_method_7_code
def yX3_findNear : MethodName := ⟨RX3, "findNear", "(LPileSets$State;LPileSets$Pile;)V"⟩
abbrev cX3_liftNear : ByteArray := prog_5_method_8_code
def yX3_liftNear : MethodName := ⟨RX3, "liftNear", "(II)I"⟩
abbrev cX3_nextOrder : ByteArray := prog_5_method_9_code
def yX3_nextOrder : MethodName := ⟨RX3, "nextOrder", "()Z"⟩
abbrev cX3_triedAt : ByteArray := prog_5_method_10_code
def yX3_triedAt : MethodName := ⟨RX3, "triedAt", "(I)I"⟩
abbrev cX3_swap : ByteArray := prog_5_method_11_code
def yX3_swap : MethodName := ⟨RX3, "swap", "(II)V"⟩
def RX4 : String := "PileSets$Pile"
def TX4 : u_T := fun k => match k with
  | 0 => ("PileSets$Pile", "sets", "[I", true)
  | 1 => ("PileSets$Pile", "loads", "[I", true)
  | 2 => ("PileSets$Pile", "kept", "I", false)
  | 3 => ("PileSets$Pile", "x", "I", false)
  | 4 => ("PileSets$Pile", "y", "I", false)
  | 5 => ("PileSets$Pile", "length", "I", false)
  | 6 => ("PileSets$Pile", "foot", "I", false)
  | 7 => ("PileSets$Pile", "blows", "I", false)
  | 8 => ("PileSets$Pile", "load", "I", false)
  | 9 => ("PileSets$Pile", "loose", "Z", false)
  | 10 => ("PileSets$Pile", "setSum", "I", false)
  | 11 => ("PileSets$Pile", "liftSum", "I", false)
  | _ => ("PileSets$Pile", "pressSum", "I", false)
def tyX4 : Nat → FieldType := fun k => match k with
  | 0 => .array .int
  | 1 => .array .int
  | 2 => .int
  | 3 => .int
  | 4 => .int
  | 5 => .int
  | 6 => .int
  | 7 => .int
  | 8 => .int
  | 9 => .boolean
  | 10 => .int
  | 11 => .int
  | _ => .int
abbrev wsX40 : List Cond := u_ws RX4 TX4 13
theorem nmX4 : ∀ a, a < 13 → ∀ b, b < 13 → a ≠ b → (TX4 a).2.1 ≠ (TX4 b).2.1 := by decide +kernel
theorem tyX4_ok : ∀ k, k < 13 → parseFieldDescriptor (TX4 k).2.2.1 = some (tyX4 k) := by decide +kernel
abbrev cX4_init : ByteArray := prog_6_method_1_code
def yX4_init : MethodName := ⟨RX4, "<init>", "()V"⟩
abbrev cX4_startAt : ByteArray := prog_6_method_2_code
def yX4_startAt : MethodName := ⟨RX4, "startAt", "(III)V"⟩
abbrev cX4_left : ByteArray := prog_6_method_3_code
def yX4_left : MethodName := ⟨RX4, "left", "()I"⟩
abbrev cX4_takeBlow : ByteArray := prog_6_method_4_code
def yX4_takeBlow : MethodName := ⟨RX4, "takeBlow", "(II)V"⟩
abbrev cX4_keep : ByteArray := prog_6_method_5_code
def yX4_keep : MethodName := ⟨RX4, "keep", "(II)V"⟩
abbrev cX4_takeLift : ByteArray := prog_6_method_6_code
def yX4_takeLift : MethodName := ⟨RX4, "takeLift", "(I)V"⟩
abbrev cX4_takePress : ByteArray := prog_6_method_7_code
def yX4_takePress : MethodName := ⟨RX4, "takePress", "(I)V"⟩
abbrev cX4_keptSet : ByteArray := prog_6_method_8_code
def yX4_keptSet : MethodName := ⟨RX4, "keptSet", "(I)I"⟩
abbrev cX4_keptLoad : ByteArray := prog_6_method_9_code
def yX4_keptLoad : MethodName := ⟨RX4, "keptLoad", "(I)I"⟩
abbrev cX4_copyFrom : ByteArray := prog_6_method_10_code
def yX4_copyFrom : MethodName := ⟨RX4, "copyFrom", "(LPileSets$Pile;)V"⟩
def RX5 : String := "PileSets$RunFinder"
def TX5 : u_T := fun k => match k with
  | 0 => ("PileSets$RunFinder", "answers", "[I", true)
  | 1 => ("PileSets$RunFinder", "wanted", "I", false)
  | 2 => ("PileSets$RunFinder", "found", "I", false)
  | 3 => ("PileSets$RunFinder", "firstSet", "I", false)
  | 4 => ("PileSets$RunFinder", "size", "I", false)
  | 5 => ("PileSets$RunFinder", "firstLoad", "I", false)
  | _ => ("PileSets$RunFinder", "sum", "I", false)
def tyX5 : Nat → FieldType := fun k => match k with
  | 0 => .array .int
  | 1 => .int
  | 2 => .int
  | 3 => .int
  | 4 => .int
  | 5 => .int
  | _ => .int
abbrev wsX50 : List Cond := u_ws RX5 TX5 7
theorem nmX5 : ∀ a, a < 7 → ∀ b, b < 7 → a ≠ b → (TX5 a).2.1 ≠ (TX5 b).2.1 := by decide +kernel
theorem tyX5_ok : ∀ k, k < 7 → parseFieldDescriptor (TX5 k).2.2.1 = some (tyX5 k) := by decide +kernel
abbrev cX5_init : ByteArray := prog_7_method_1_code
def yX5_init : MethodName := ⟨RX5, "<init>", "()V"⟩
abbrev cX5_read : ByteArray := prog_7_method_2_code
def yX5_read : MethodName := ⟨RX5, "read", "(LPileSets$Pile;I)V"⟩
abbrev cX5_readSet : ByteArray := prog_7_method_3_code
def yX5_readSet : MethodName := ⟨RX5, "readSet", "(II)V"⟩
abbrev cX5_closeRun : ByteArray := prog_7_method_4_code
def yX5_closeRun : MethodName := ⟨RX5, "closeRun", "()V"⟩
abbrev cX5_answerOf : ByteArray := prog_7_method_5_code
def yX5_answerOf : MethodName := ⟨RX5, "answerOf", "(I)I"⟩
def RX6 : String := "PileSets$State"
def TX6 : u_T := fun k => match k with
  | 0 => ("PileSets$State", "ground", "LPileSets$Ground;", true)
  | 1 => ("PileSets$State", "settings", "[I", true)
  | 2 => ("PileSets$State", "piles", "[LPileSets$Pile;", true)
  | 3 => ("PileSets$State", "placed", "I", false)
  | 4 => ("PileSets$State", "blowSum", "J", false)
  | 5 => ("PileSets$State", "energySum", "J", false)
  | 6 => ("PileSets$State", "workSum", "J", false)
  | 7 => ("PileSets$State", "setSum", "J", false)
  | 8 => ("PileSets$State", "liftSum", "J", false)
  | _ => ("PileSets$State", "pressSum", "J", false)
def tyX6 : Nat → FieldType := fun k => match k with
  | 0 => .object "PileSets$Ground"
  | 1 => .array .int
  | 2 => .array (.object "PileSets$Pile")
  | 3 => .int
  | 4 => .long
  | 5 => .long
  | 6 => .long
  | 7 => .long
  | 8 => .long
  | _ => .long
abbrev wsX60 : List Cond := u_ws RX6 TX6 10
theorem nmX6 : ∀ a, a < 10 → ∀ b, b < 10 → a ≠ b → (TX6 a).2.1 ≠ (TX6 b).2.1 := by decide +kernel
theorem tyX6_ok : ∀ k, k < 10 → parseFieldDescriptor (TX6 k).2.2.1 = some (tyX6 k) := by decide +kernel
abbrev cX6_init : ByteArray := prog_8_method_1_code
def yX6_init : MethodName := ⟨RX6, "<init>", "()V"⟩
abbrev cX6_setting : ByteArray := prog_8_method_2_code
def yX6_setting : MethodName := ⟨RX6, "setting", "(I)I"⟩
abbrev cX6_changeSetting : ByteArray := prog_8_method_3_code
def yX6_changeSetting : MethodName := ⟨RX6, "changeSetting", "(II)V"⟩
abbrev cX6_pileAt : ByteArray := prog_8_method_4_code
def yX6_pileAt : MethodName := ⟨RX6, "pileAt", "(I)LPileSets$Pile;"⟩
abbrev cX6_place : ByteArray := prog_8_method_5_code
def yX6_place : MethodName := ⟨RX6, "place", "(III)I"⟩
abbrev cX6_isTaken : ByteArray := prog_8_method_6_code
def yX6_isTaken : MethodName := ⟨RX6, "isTaken", "(II)Z"⟩
abbrev cX6_feetIn : ByteArray := prog_8_method_7_code
def yX6_feetIn : MethodName := ⟨RX6, "feetIn", "(I)I"⟩
abbrev cX6_loosePiles : ByteArray := prog_8_method_8_code
def yX6_loosePiles : MethodName := ⟨RX6, "loosePiles", "()I"⟩
abbrev cX6_pilesWithoutBlows : ByteArray := prog_8_method_9_code
def yX6_pilesWithoutBlows : MethodName := ⟨RX6, "pilesWithoutBlows", "()I"⟩
abbrev cX6_footSum : ByteArray := prog_8_method_10_code
def yX6_footSum : MethodName := ⟨RX6, "footSum", "()J"⟩
abbrev cX6_areNear : ByteArray := prog_8_method_11_code
def yX6_areNear : MethodName := ⟨RX6, "areNear", "(LPileSets$Pile;LPileSets$Pile;)Z"⟩
abbrev cX6_pilesNear : ByteArray := prog_8_method_12_code
def yX6_pilesNear : MethodName := ⟨RX6, "pilesNear", "(LPileSets$Pile;)I"⟩
abbrev cX6_energyOf : ByteArray := prog_8_method_13_code
def yX6_energyOf : MethodName := ⟨RX6, "energyOf", "(I)I"⟩
abbrev cX6_freeSet : ByteArray := prog_8_method_14_code
def yX6_freeSet : MethodName := ⟨RX6, "freeSet", "(II)I"⟩
abbrev cX6_setOf : ByteArray := prog_8_method_15_code
def yX6_setOf : MethodName := ⟨RX6, "setOf", "(III)I"⟩
abbrev cX6_loadOf : ByteArray := prog_8_method_16_code
def yX6_loadOf : MethodName := ⟨RX6, "loadOf", "(II)I"⟩
abbrev cX6_allowedLoad : ByteArray := prog_8_method_17_code
def yX6_allowedLoad : MethodName := ⟨RX6, "allowedLoad", "(LPileSets$Pile;)I"⟩
abbrev cX6_liftBy : ByteArray := prog_8_method_18_code
def yX6_liftBy : MethodName := ⟨RX6, "liftBy", "(I)I"⟩
abbrev cX6_hit : ByteArray := prog_8_method_19_code
def yX6_hit : MethodName := ⟨RX6, "hit", "(LPileSets$Pile;I)I"⟩
abbrev cX6_liftOthers : ByteArray := prog_8_method_20_code
def yX6_liftOthers : MethodName := ⟨RX6, "liftOthers", "(LPileSets$Pile;I)V"⟩
abbrev cX6_hitSeveral : ByteArray := prog_8_method_21_code
def yX6_hitSeveral : MethodName := ⟨RX6, "hitSeveral", "(III)I"⟩
abbrev cX6_blowsDown : ByteArray := prog_8_method_22_code
def yX6_blowsDown : MethodName := ⟨RX6, "blowsDown", "(III)I"⟩
abbrev cX6_loadWith : ByteArray := prog_8_method_23_code
def yX6_loadWith : MethodName := ⟨RX6, "loadWith", "(LPileSets$Pile;I)I"⟩
abbrev cX6_copyFrom : ByteArray := prog_8_method_24_code
def yX6_copyFrom : MethodName := ⟨RX6, "copyFrom", "(LPileSets$State;)V"⟩
def RX7 : String := "PileSets"
def TX7 : u_T := fun k => match k with
  | 0 => ("PileSets", "now", "LPileSets$State;", true)
  | 1 => ("PileSets", "history", "LPileSets$History;", true)
  | 2 => ("PileSets", "text", "LPileSets$BlowText;", true)
  | 3 => ("PileSets", "runFinder", "LPileSets$RunFinder;", true)
  | _ => ("PileSets", "orderFinder", "LPileSets$OrderFinder;", true)
def tyX7 : Nat → FieldType := fun k => match k with
  | 0 => .object "PileSets$State"
  | 1 => .object "PileSets$History"
  | 2 => .object "PileSets$BlowText"
  | 3 => .object "PileSets$RunFinder"
  | _ => .object "PileSets$OrderFinder"
abbrev wsX70 : List Cond := u_ws RX7 TX7 5
theorem nmX7 : ∀ a, a < 5 → ∀ b, b < 5 → a ≠ b → (TX7 a).2.1 ≠ (TX7 b).2.1 := by decide +kernel
theorem tyX7_ok : ∀ k, k < 5 → parseFieldDescriptor (TX7 k).2.2.1 = some (tyX7 k) := by decide +kernel
abbrev cX7_init : ByteArray := prog_1_method_1_code
def yX7_init : MethodName := ⟨RX7, "<init>", "()V"⟩
abbrev cX7_stratum : ByteArray := prog_1_method_2_code
def yX7_stratum : MethodName := ⟨RX7, "stratum", "(III)I"⟩
abbrev cX7_cut : ByteArray := prog_1_method_3_code
def yX7_cut : MethodName := ⟨RX7, "cut", "()I"⟩
abbrev cX7_ground : ByteArray := prog_1_method_4_code
def yX7_ground : MethodName := ⟨RX7, "ground", "(II)I"⟩
abbrev cX7_at : ByteArray := prog_1_method_5_code
def yX7_at : MethodName := ⟨RX7, "at", "(I)I"⟩
abbrev cX7_set : ByteArray := prog_1_method_6_code
def yX7_set : MethodName := ⟨RX7, "set", "(II)I"⟩
abbrev cX7_count : ByteArray := prog_1_method_7_code
def yX7_count : MethodName := ⟨RX7, "count", "(I)J"⟩
abbrev cX7_pile : ByteArray := prog_1_method_8_code
def yX7_pile : MethodName := ⟨RX7, "pile", "(III)I"⟩
abbrev cX7_pileOf : ByteArray := prog_1_method_9_code
def yX7_pileOf : MethodName := ⟨RX7, "pileOf", "(II)I"⟩
abbrev cX7_blow : ByteArray := prog_1_method_10_code
def yX7_blow : MethodName := ⟨RX7, "blow", "(III)I"⟩
abbrev cX7_strike : ByteArray := prog_1_method_11_code
def yX7_strike : MethodName := ⟨RX7, "strike", "(II)I"⟩
abbrev cX7_drive : ByteArray := prog_1_method_12_code
def yX7_drive : MethodName := ⟨RX7, "drive", "(IIII)I"⟩
abbrev cX7_would : ByteArray := prog_1_method_13_code
def yX7_would : MethodName := ⟨RX7, "would", "(II)I"⟩
abbrev cX7_fallFor : ByteArray := prog_1_method_14_code
def yX7_fallFor : MethodName := ⟨RX7, "fallFor", "(II)I"⟩
abbrev cX7_blowsTo : ByteArray := prog_1_method_15_code
def yX7_blowsTo : MethodName := ⟨RX7, "blowsTo", "(III)I"⟩
abbrev cX7_test : ByteArray := prog_1_method_16_code
def yX7_test : MethodName := ⟨RX7, "test", "(II)I"⟩
abbrev cX7_undo : ByteArray := prog_1_method_17_code
def yX7_undo : MethodName := ⟨RX7, "undo", "()I"⟩
abbrev cX7_runs : ByteArray := prog_1_method_18_code
def yX7_runs : MethodName := ⟨RX7, "runs", "(I)I"⟩
abbrev cX7_run : ByteArray := prog_1_method_19_code
def yX7_run : MethodName := ⟨RX7, "run", "(III)I"⟩
abbrev cX7_order : ByteArray := prog_1_method_20_code
def yX7_order : MethodName := ⟨RX7, "order", "(III)I"⟩
abbrev cX7_leastLift : ByteArray := prog_1_method_21_code
def yX7_leastLift : MethodName := ⟨RX7, "leastLift", "(II)I"⟩
abbrev cX7_type : ByteArray := prog_1_method_22_code
def yX7_type : MethodName := ⟨RX7, "type", "(I)I"⟩
abbrev cX7_clearText : ByteArray := prog_1_method_23_code
def yX7_clearText : MethodName := ⟨RX7, "clearText", "()I"⟩
abbrev cX7_fault : ByteArray := prog_1_method_24_code
def yX7_fault : MethodName := ⟨RX7, "fault", "(I)I"⟩
abbrev cX7_carry : ByteArray := prog_1_method_25_code
def yX7_carry : MethodName := ⟨RX7, "carry", "()I"⟩
abbrev cX7_inRange : ByteArray := prog_1_method_26_code
def yX7_inRange : MethodName := ⟨RX7, "inRange", "(III)Z"⟩
abbrev cX7_isFall : ByteArray := prog_1_method_27_code
def yX7_isFall : MethodName := ⟨RX7, "isFall", "(I)Z"⟩
abbrev cX7_isSetting : ByteArray := prog_1_method_28_code
def yX7_isSetting : MethodName := ⟨RX7, "isSetting", "(I)Z"⟩
abbrev cX7_liftOf : ByteArray := prog_1_method_29_code
def yX7_liftOf : MethodName := ⟨RX7, "liftOf", "(III)I"⟩
def RX8 : String := "PileSetsModel"
def TX8 : u_T := fun k => match k with
  | 0 => ("PileSetsModel", "st", "[I", true)
  | 1 => ("PileSetsModel", "past", "[I", true)
  | 2 => ("PileSetsModel", "sums", "[J", true)
  | 3 => ("PileSetsModel", "pastSums", "[J", true)
  | 4 => ("PileSetsModel", "pasts", "I", false)
  | 5 => ("PileSetsModel", "text", "[I", true)
  | 6 => ("PileSetsModel", "length", "I", false)
  | 7 => ("PileSetsModel", "runFirst", "[I", true)
  | 8 => ("PileSetsModel", "runMany", "[I", true)
  | 9 => ("PileSetsModel", "runSum", "[I", true)
  | 10 => ("PileSetsModel", "runCount", "I", false)
  | 11 => ("PileSetsModel", "fresh", "[I", true)
  | 12 => ("PileSetsModel", "freshMany", "I", false)
  | 13 => ("PileSetsModel", "row", "[I", true)
  | 14 => ("PileSetsModel", "bestRow", "[I", true)
  | 15 => ("PileSetsModel", "foot", "[I", true)
  | 16 => ("PileSetsModel", "leastSum", "I", false)
  | 17 => ("PileSetsModel", "spot", "I", false)
  | 18 => ("PileSetsModel", "itsPile", "I", false)
  | 19 => ("PileSetsModel", "itsFall", "I", false)
  | 20 => ("PileSetsModel", "itsMany", "I", false)
  | _ => ("PileSetsModel", "from", "I", false)
def tyX8 : Nat → FieldType := fun k => match k with
  | 0 => .array .int
  | 1 => .array .int
  | 2 => .array .long
  | 3 => .array .long
  | 4 => .int
  | 5 => .array .int
  | 6 => .int
  | 7 => .array .int
  | 8 => .array .int
  | 9 => .array .int
  | 10 => .int
  | 11 => .array .int
  | 12 => .int
  | 13 => .array .int
  | 14 => .array .int
  | 15 => .array .int
  | 16 => .int
  | 17 => .int
  | 18 => .int
  | 19 => .int
  | 20 => .int
  | _ => .int
abbrev wsX80 : List Cond := u_ws RX8 TX8 22
theorem nmX8 : ∀ a, a < 22 → ∀ b, b < 22 → a ≠ b → (TX8 a).2.1 ≠ (TX8 b).2.1 := by decide +kernel
theorem tyX8_ok : ∀ k, k < 22 → parseFieldDescriptor (TX8 k).2.2.1 = some (tyX8 k) := by decide +kernel
abbrev cX8_init : ByteArray := prog_10_method_1_code
def yX8_init : MethodName := ⟨RX8, "<init>", "()V"⟩
abbrev cX8_in : ByteArray := prog_10_method_3_code
def yX8_in : MethodName := ⟨RX8, "in", "(III)Z"⟩
abbrev cX8_lesser : ByteArray := prog_10_method_4_code
def yX8_lesser : MethodName := ⟨RX8, "lesser", "(II)I"⟩
abbrev cX8_records : ByteArray := prog_10_method_5_code
def yX8_records : MethodName := ⟨RX8, "records", "()V"⟩
abbrev cX8_undo : ByteArray := prog_10_method_6_code
def yX8_undo : MethodName := ⟨RX8, "undo", "()I"⟩
abbrev cX8_stratum : ByteArray := prog_10_method_7_code
def yX8_stratum : MethodName := ⟨RX8, "stratum", "(III)I"⟩
abbrev cX8_cut : ByteArray := prog_10_method_8_code
def yX8_cut : MethodName := ⟨RX8, "cut", "()I"⟩
abbrev cX8_stratumAt : ByteArray := prog_10_method_9_code
def yX8_stratumAt : MethodName := ⟨RX8, "stratumAt", "(I)I"⟩
abbrev cX8_hardness : ByteArray := prog_10_method_10_code
def yX8_hardness : MethodName := ⟨RX8, "hardness", "(I)I"⟩
abbrev cX8_begins : ByteArray := prog_10_method_11_code
def yX8_begins : MethodName := ⟨RX8, "begins", "(I)I"⟩
abbrev cX8_feetIn : ByteArray := prog_10_method_12_code
def yX8_feetIn : MethodName := ⟨RX8, "feetIn", "(I)I"⟩
abbrev cX8_ground : ByteArray := prog_10_method_13_code
def yX8_ground : MethodName := ⟨RX8, "ground", "(II)I"⟩
abbrev cX8_at : ByteArray := prog_10_method_14_code
def yX8_at : MethodName := ⟨RX8, "at", "(I)I"⟩
abbrev cX8_canBe : ByteArray := prog_10_method_15_code
def yX8_canBe : MethodName := ⟨RX8, "canBe", "(II)Z"⟩
abbrev cX8_set : ByteArray := prog_10_method_16_code
def yX8_set : MethodName := ⟨RX8, "set", "(II)I"⟩
abbrev cX8_feet : ByteArray := prog_10_method_17_code
def yX8_feet : MethodName := ⟨RX8, "feet", "()I"⟩
abbrev cX8_loosePiles : ByteArray := prog_10_method_18_code
def yX8_loosePiles : MethodName := ⟨RX8, "loosePiles", "()I"⟩
abbrev cX8_count : ByteArray := prog_10_method_19_code
def yX8_count : MethodName := ⟨RX8, "count", "(I)J"⟩
abbrev cX8_of : ByteArray := prog_10_method_20_code
def yX8_of : MethodName := ⟨RX8, "of", "(II)I"⟩
abbrev cX8_put : ByteArray := prog_10_method_21_code
def yX8_put : MethodName := ⟨RX8, "put", "(III)V"⟩
abbrev cX8_isPile : ByteArray := prog_10_method_22_code
def yX8_isPile : MethodName := ⟨RX8, "isPile", "(I)Z"⟩
abbrev cX8_isFall : ByteArray := prog_10_method_23_code
def yX8_isFall : MethodName := ⟨RX8, "isFall", "(I)Z"⟩
abbrev cX8_stands : ByteArray := prog_10_method_24_code
def yX8_stands : MethodName := ⟨RX8, "stands", "(II)Z"⟩
abbrev cX8_pile : ByteArray := prog_10_method_25_code
def yX8_pile : MethodName := ⟨RX8, "pile", "(III)I"⟩
abbrev cX8_apart : ByteArray := prog_10_method_26_code
def yX8_apart : MethodName := ⟨RX8, "apart", "(II)I"⟩
abbrev cX8_areNear : ByteArray := prog_10_method_27_code
def yX8_areNear : MethodName := ⟨RX8, "areNear", "(II)Z"⟩
abbrev cX8_near : ByteArray := prog_10_method_28_code
def yX8_near : MethodName := ⟨RX8, "near", "(I)I"⟩
abbrev cX8_allowed : ByteArray := prog_10_method_29_code
def yX8_allowed : MethodName := ⟨RX8, "allowed", "(I)I"⟩
abbrev cX8_pileOf : ByteArray := prog_10_method_30_code
def yX8_pileOf : MethodName := ⟨RX8, "pileOf", "(II)I"⟩
abbrev cX8_blow : ByteArray := prog_10_method_31_code
def yX8_blow : MethodName := ⟨RX8, "blow", "(III)I"⟩
abbrev cX8_energy : ByteArray := prog_10_method_32_code
def yX8_energy : MethodName := ⟨RX8, "energy", "(I)I"⟩
abbrev cX8_setAt : ByteArray := prog_10_method_33_code
def yX8_setAt : MethodName := ⟨RX8, "setAt", "(III)I"⟩
abbrev cX8_isDown : ByteArray := prog_10_method_34_code
def yX8_isDown : MethodName := ⟨RX8, "isDown", "(I)Z"⟩
abbrev cX8_liftOf : ByteArray := prog_10_method_35_code
def yX8_liftOf : MethodName := ⟨RX8, "liftOf", "(III)I"⟩
abbrev cX8_keeps : ByteArray := prog_10_method_36_code
def yX8_keeps : MethodName := ⟨RX8, "keeps", "(III)V"⟩
abbrev cX8_lifts : ByteArray := prog_10_method_37_code
def yX8_lifts : MethodName := ⟨RX8, "lifts", "(II)V"⟩
abbrev cX8_strikes : ByteArray := prog_10_method_38_code
def yX8_strikes : MethodName := ⟨RX8, "strikes", "(II)I"⟩
abbrev cX8_strike : ByteArray := prog_10_method_39_code
def yX8_strike : MethodName := ⟨RX8, "strike", "(II)I"⟩
abbrev cX8_drive : ByteArray := prog_10_method_40_code
def yX8_drive : MethodName := ⟨RX8, "drive", "(IIII)I"⟩
abbrev cX8_would : ByteArray := prog_10_method_41_code
def yX8_would : MethodName := ⟨RX8, "would", "(II)I"⟩
abbrev cX8_fallFor : ByteArray := prog_10_method_42_code
def yX8_fallFor : MethodName := ⟨RX8, "fallFor", "(II)I"⟩
abbrev cX8_blowsTo : ByteArray := prog_10_method_43_code
def yX8_blowsTo : MethodName := ⟨RX8, "blowsTo", "(III)I"⟩
abbrev cX8_test : ByteArray := prog_10_method_44_code
def yX8_test : MethodName := ⟨RX8, "test", "(II)I"⟩
abbrev cX8_endsRun : ByteArray := prog_10_method_45_code
def yX8_endsRun : MethodName := ⟨RX8, "endsRun", "(III)V"⟩
abbrev cX8_findRuns : ByteArray := prog_10_method_46_code
def yX8_findRuns : MethodName := ⟨RX8, "findRuns", "(I)V"⟩
abbrev cX8_runs : ByteArray := prog_10_method_47_code
def yX8_runs : MethodName := ⟨RX8, "runs", "(I)I"⟩
abbrev cX8_run : ByteArray := prog_10_method_48_code
def yX8_run : MethodName := ⟨RX8, "run", "(III)I"⟩
abbrev cX8_findFresh : ByteArray := prog_10_method_49_code
def yX8_findFresh : MethodName := ⟨RX8, "findFresh", "()V"⟩
abbrev cX8_layRow : ByteArray := prog_10_method_50_code
def yX8_layRow : MethodName := ⟨RX8, "layRow", "(II)V"⟩
abbrev cX8_tries : ByteArray := prog_10_method_51_code
def yX8_tries : MethodName := ⟨RX8, "tries", "(III)I"⟩
abbrev cX8_findOrder : ByteArray := prog_10_method_52_code
def yX8_findOrder : MethodName := ⟨RX8, "findOrder", "(II)V"⟩
abbrev cX8_order : ByteArray := prog_10_method_53_code
def yX8_order : MethodName := ⟨RX8, "order", "(III)I"⟩
abbrev cX8_leastLift : ByteArray := prog_10_method_54_code
def yX8_leastLift : MethodName := ⟨RX8, "leastLift", "(II)I"⟩
abbrev cX8_type : ByteArray := prog_10_method_55_code
def yX8_type : MethodName := ⟨RX8, "type", "(I)I"⟩
abbrev cX8_clearText : ByteArray := prog_10_method_56_code
def yX8_clearText : MethodName := ⟨RX8, "clearText", "()I"⟩
abbrev cX8_isDigit : ByteArray := prog_10_method_57_code
def yX8_isDigit : MethodName := ⟨RX8, "isDigit", "()Z"⟩
abbrev cX8_digits : ByteArray := prog_10_method_58_code
def yX8_digits : MethodName := ⟨RX8, "digits", "(II)I"⟩
abbrev cX8_takes : ByteArray := prog_10_method_59_code
def yX8_takes : MethodName := ⟨RX8, "takes", "(I)Z"⟩
abbrev cX8_isFormed : ByteArray := prog_10_method_60_code
def yX8_isFormed : MethodName := ⟨RX8, "isFormed", "()Z"⟩
abbrev cX8_reason : ByteArray := prog_10_method_61_code
def yX8_reason : MethodName := ⟨RX8, "reason", "()I"⟩
abbrev cX8_reasonOfText : ByteArray := prog_10_method_62_code
def yX8_reasonOfText : MethodName := ⟨RX8, "reasonOfText", "()I"⟩
abbrev cX8_fault : ByteArray := prog_10_method_63_code
def yX8_fault : MethodName := ⟨RX8, "fault", "(I)I"⟩
abbrev cX8_carry : ByteArray := prog_10_method_64_code
def yX8_carry : MethodName := ⟨RX8, "carry", "()I"⟩
def RJx8e188 : String := "java/lang/Cloneable"
def TJx8e188 : u_T := fun k => match k with
  | _ => ("", "", "", false)
def tyJx8e188 : Nat → FieldType := fun k => match k with
  | _ => .int
abbrev wsJx8e1880 : List Cond := u_ws RJx8e188 TJx8e188 0
theorem nmJx8e188 : ∀ a, a < 0 → ∀ b, b < 0 → a ≠ b → (TJx8e188 a).2.1 ≠ (TJx8e188 b).2.1 := by decide +kernel
theorem tyJx8e188_ok : ∀ k, k < 0 → parseFieldDescriptor (TJx8e188 k).2.2.1 = some (tyJx8e188 k) := by decide +kernel
def RJ9 : String := "java/lang/Math"
def TJ9 : u_T := fun k => match k with
  | _ => ("", "", "", false)
def tyJ9 : Nat → FieldType := fun k => match k with
  | _ => .int
abbrev wsJ90 : List Cond := u_ws RJ9 TJ9 0
theorem nmJ9 : ∀ a, a < 0 → ∀ b, b < 0 → a ≠ b → (TJ9 a).2.1 ≠ (TJ9 b).2.1 := by decide +kernel
theorem tyJ9_ok : ∀ k, k < 0 → parseFieldDescriptor (TJ9 k).2.2.1 = some (tyJ9 k) := by decide +kernel
abbrev cJ9_abs_0f7a4 : ByteArray := prog_12_method_59_code
def yJ9_abs_0f7a4 : MethodName := ⟨RJ9, "abs", "(I)I"⟩
abbrev cJ9_max_7cf53 : ByteArray := prog_12_method_65_code
def yJ9_max_7cf53 : MethodName := ⟨RJ9, "max", "(II)I"⟩
abbrev cJ9_min_7cf53 : ByteArray := prog_12_method_69_code
def yJ9_min_7cf53 : MethodName := ⟨RJ9, "min", "(II)I"⟩
def RJ10 : String := "java/lang/System"
def TJ10 : u_T := fun k => match k with
  | _ => ("", "", "", false)
def tyJ10 : Nat → FieldType := fun k => match k with
  | _ => .int
abbrev wsJ100 : List Cond := u_ws RJ10 TJ10 0
theorem nmJ10 : ∀ a, a < 0 → ∀ b, b < 0 → a ≠ b → (TJ10 a).2.1 ≠ (TJ10 b).2.1 := by decide +kernel
theorem tyJ10_ok : ∀ k, k < 0 → parseFieldDescriptor (TJ10 k).2.2.1 = some (tyJ10 k) := by decide +kernel
def RL : String := "PileSetsLaw"
abbrev cL_law : ByteArray := code
def yL_law : MethodName := ⟨RL, "law", "([I)Z"⟩
def wsJ9_abs_0f7a4 : List Cond := .code yJ9_abs_0f7a4 cJ9_abs_0f7a4 1 (some .int) :: ([])
def wsJ9_max_7cf53 : List Cond := .code yJ9_max_7cf53 cJ9_max_7cf53 2 (some .int) :: ([])
def wsJ9_min_7cf53 : List Cond := .code yJ9_min_7cf53 cJ9_min_7cf53 2 (some .int) :: ([])
def wsL_law_r1 : List Cond := [Cond.classLink RL 7 RX7, Cond.instantiable RX7 5, Cond.initialized RX7, Cond.classLink RL 10 RX8, Cond.instantiable RX8 22, Cond.initialized RX8, Cond.methodLink RL 9 yX7_init, Cond.instanceMethod yX7_init, Cond.code yX7_init cX7_init 1 none, Cond.methodLink RX7 1 objectInit, Cond.instanceMethod objectInit, Cond.code objectInit ⟨#[0xb1]⟩ 1 none, Cond.classLink RX7 7 RX6, Cond.instantiable RX6 10, Cond.initialized RX6, Cond.fieldLink RX7 10 "PileSets" "now" "LPileSets$State;", Cond.classLink RX7 16 RX2, Cond.instantiable RX2 3, Cond.initialized RX2, Cond.fieldLink RX7 19 "PileSets" "history" "LPileSets$History;", Cond.classLink RX7 23 RX0, Cond.instantiable RX0 7, Cond.initialized RX0, Cond.fieldLink RX7 26 "PileSets" "text" "LPileSets$BlowText;"]
def wsL_law_r2 : List Cond := [Cond.classLink RX7 30 RX5, Cond.instantiable RX5 7, Cond.initialized RX5, Cond.fieldLink RX7 33 "PileSets" "runFinder" "LPileSets$RunFinder;", Cond.classLink RX7 37 RX3, Cond.instantiable RX3 7, Cond.initialized RX3, Cond.fieldLink RX7 40 "PileSets" "orderFinder" "LPileSets$OrderFinder;", Cond.instanceMethod yX6_init, Cond.code yX6_init cX6_init 2 none, Cond.methodLink RX6 3 objectInit, Cond.classLink RX6 9 RX1, Cond.instantiable RX1 3, Cond.initialized RX1, Cond.fieldLink RX6 12 "PileSets$State" "ground" "LPileSets$Ground;", Cond.methodLink RX6 22 ⟨"[I", "clone", "()Ljava/lang/Object;"⟩, Cond.sameMethod "[I" "java/lang/Object" "clone" "()Ljava/lang/Object;", Cond.native ⟨"java/lang/Object", "clone", "()Ljava/lang/Object;"⟩, Cond.instanceMethod ⟨"java/lang/Object", "clone", "()Ljava/lang/Object;"⟩, Cond.selects "[I" ⟨"[I", "clone", "()Ljava/lang/Object;"⟩ ⟨"java/lang/Object", "clone", "()Ljava/lang/Object;"⟩, Cond.classLink RX6 23 "[I", Cond.fieldLink RX6 27 "PileSets$State" "settings" "[I", Cond.classLink RX6 30 RX4, Cond.fieldLink RX6 32 "PileSets$State" "piles" "[LPileSets$Pile;"]
def wsL_law_r3 : List Cond := [Cond.instantiable RX4 13, Cond.initialized RX4, Cond.instanceMethod yX1_init, Cond.code yX1_init cX1_init 1 none, Cond.methodLink RX1 3 objectInit, Cond.arrayClass .int, Cond.fieldLink RX1 9 "PileSets$Ground" "thickness" "[I", Cond.fieldLink RX1 15 "PileSets$Ground" "resistance" "[I", Cond.methodLink RX1 18 yX1_put, Cond.instanceMethod yX1_put, Cond.selects RX1 yX1_put yX1_put, Cond.code yX1_put cX1_put 4 none, Cond.fieldLink RX1 22 "PileSets$Ground" "strata" "I", Cond.methodLink RX1 26 Lib.Math.max.name, Cond.static Lib.Math.max.name, Cond.initialized "java/lang/Math", Cond.code Lib.Math.max.name Lib.Math.max.code 2 (some .int), Cond.instanceMethod yX4_init, Cond.code yX4_init cX4_init 1 none, Cond.methodLink RX4 3 objectInit, Cond.fieldLink RX4 9 "PileSets$Pile" "sets" "[I", Cond.fieldLink RX4 15 "PileSets$Pile" "loads" "[I", Cond.instanceMethod yX2_init, Cond.code yX2_init cX2_init 2 none]
def wsL_law_r4 : List Cond := [Cond.methodLink RX2 3 objectInit, Cond.classLink RX2 9 RX6, Cond.fieldLink RX2 11 "PileSets$History" "rooms" "[LPileSets$State;", Cond.instanceMethod yX0_init, Cond.code yX0_init cX0_init 1 none, Cond.methodLink RX0 3 objectInit, Cond.arrayClass .char, Cond.fieldLink RX0 9 "PileSets$BlowText" "characters" "[C", Cond.instanceMethod yX5_init, Cond.code yX5_init cX5_init 1 none, Cond.methodLink RX5 3 objectInit, Cond.fieldLink RX5 9 "PileSets$RunFinder" "answers" "[I", Cond.instanceMethod yX3_init, Cond.code yX3_init cX3_init 1 none, Cond.methodLink RX3 3 objectInit, Cond.fieldLink RX3 9 "PileSets$OrderFinder" "feet" "[I", Cond.fieldLink RX3 15 "PileSets$OrderFinder" "near" "[I", Cond.fieldLink RX3 18 "PileSets$OrderFinder" "tried" "[I", Cond.fieldLink RX3 21 "PileSets$OrderFinder" "best" "[I", Cond.methodLink RL 12 yX8_init, Cond.instanceMethod yX8_init, Cond.code yX8_init cX8_init 1 none, Cond.methodLink RX8 1 objectInit, Cond.fieldLink RX8 7 "PileSetsModel" "st" "[I"]
def wsL_law_r5 : List Cond := [Cond.fieldLink RX8 13 "PileSetsModel" "past" "[I", Cond.arrayClass .long, Cond.fieldLink RX8 16 "PileSetsModel" "sums" "[J", Cond.fieldLink RX8 20 "PileSetsModel" "pastSums" "[J", Cond.fieldLink RX8 23 "PileSetsModel" "text" "[I", Cond.fieldLink RX8 26 "PileSetsModel" "runFirst" "[I", Cond.fieldLink RX8 29 "PileSetsModel" "runMany" "[I", Cond.fieldLink RX8 32 "PileSetsModel" "runSum" "[I", Cond.fieldLink RX8 35 "PileSetsModel" "fresh" "[I", Cond.fieldLink RX8 38 "PileSetsModel" "row" "[I", Cond.fieldLink RX8 41 "PileSetsModel" "bestRow" "[I", Cond.fieldLink RX8 44 "PileSetsModel" "foot" "[I", Cond.methodLink RL 13 yX7_stratum, Cond.instanceMethod yX7_stratum, Cond.selects RX7 yX7_stratum yX7_stratum, Cond.code yX7_stratum cX7_stratum 4 (some .int), Cond.methodLink RX7 54 yX7_inRange, Cond.static yX7_inRange, Cond.code yX7_inRange cX7_inRange 3 (some .boolean), Cond.instanceMethod yX2_remember, Cond.selects RX2 yX2_remember yX2_remember, Cond.code yX2_remember cX2_remember 3 none, Cond.fieldLink RX2 18 "PileSets$History" "next" "I", Cond.fieldLink RX2 30 "PileSets$History" "states" "I"]
def wsL_law_r6 : List Cond := [Cond.methodLink RX2 33 Lib.Math.min.name, Cond.static Lib.Math.min.name, Cond.code Lib.Math.min.name Lib.Math.min.code 2 (some .int), Cond.methodLink RX2 22 yX2_roomAt, Cond.instanceMethod yX2_roomAt, Cond.selects RX2 yX2_roomAt yX2_roomAt, Cond.code yX2_roomAt cX2_roomAt 2 (some (.object "PileSets$State")), Cond.instanceMethod yX6_copyFrom, Cond.selects RX6 yX6_copyFrom yX6_copyFrom, Cond.code yX6_copyFrom cX6_copyFrom 5 none, Cond.methodLink RX6 174 arraycopyName, Cond.native arraycopyName, Cond.static arraycopyName, Cond.initialized "java/lang/System", Cond.fieldLink RX6 37 "PileSets$State" "placed" "I", Cond.fieldLink RX6 117 "PileSets$State" "blowSum" "J", Cond.fieldLink RX6 121 "PileSets$State" "energySum" "J", Cond.fieldLink RX6 124 "PileSets$State" "workSum" "J", Cond.fieldLink RX6 127 "PileSets$State" "setSum" "J", Cond.fieldLink RX6 144 "PileSets$State" "liftSum" "J", Cond.fieldLink RX6 167 "PileSets$State" "pressSum" "J", Cond.instanceMethod yX1_copyFrom, Cond.selects RX1 yX1_copyFrom yX1_copyFrom, Cond.code yX1_copyFrom cX1_copyFrom 2 none]
def wsL_law_r7 : List Cond := [Cond.methodLink RX1 39 arraycopyName, Cond.methodLink RX6 41 yX6_pileAt, Cond.instanceMethod yX6_pileAt, Cond.selects RX6 yX6_pileAt yX6_pileAt, Cond.code yX6_pileAt cX6_pileAt 2 (some (.object "PileSets$Pile")), Cond.instanceMethod yX4_copyFrom, Cond.selects RX4 yX4_copyFrom yX4_copyFrom, Cond.code yX4_copyFrom cX4_copyFrom 2 none, Cond.methodLink RX4 57 arraycopyName, Cond.fieldLink RX4 28 "PileSets$Pile" "kept" "I", Cond.fieldLink RX4 18 "PileSets$Pile" "x" "I", Cond.fieldLink RX4 22 "PileSets$Pile" "y" "I", Cond.fieldLink RX4 25 "PileSets$Pile" "length" "I", Cond.fieldLink RX4 31 "PileSets$Pile" "foot" "I", Cond.fieldLink RX4 34 "PileSets$Pile" "blows" "I", Cond.fieldLink RX4 37 "PileSets$Pile" "load" "I", Cond.fieldLink RX4 40 "PileSets$Pile" "loose" "Z", Cond.fieldLink RX4 44 "PileSets$Pile" "setSum" "I", Cond.fieldLink RX4 47 "PileSets$Pile" "liftSum" "I", Cond.fieldLink RX4 50 "PileSets$Pile" "pressSum" "I", Cond.methodLink RL 17 yX8_stratum, Cond.instanceMethod yX8_stratum, Cond.selects RX8 yX8_stratum yX8_stratum, Cond.code yX8_stratum cX8_stratum 4 (some .int)]
def wsL_law_r8 : List Cond := [Cond.methodLink RX8 51 yX8_in, Cond.static yX8_in, Cond.code yX8_in cX8_in 3 (some .boolean), Cond.methodLink RX8 55 yX8_records, Cond.instanceMethod yX8_records, Cond.selects RX8 yX8_records yX8_records, Cond.code yX8_records cX8_records 2 none, Cond.fieldLink RX8 47 "PileSetsModel" "pasts" "I", Cond.methodLink RL 18 yX7_cut, Cond.instanceMethod yX7_cut, Cond.selects RX7 yX7_cut yX7_cut, Cond.code yX7_cut cX7_cut 1 (some .int), Cond.instanceMethod yX1_removeLast, Cond.selects RX1 yX1_removeLast yX1_removeLast, Cond.code yX1_removeLast cX1_removeLast 1 none, Cond.methodLink RL 22 yX8_cut, Cond.instanceMethod yX8_cut, Cond.selects RX8 yX8_cut yX8_cut, Cond.code yX8_cut cX8_cut 1 (some .int), Cond.methodLink RL 23 yX7_ground, Cond.instanceMethod yX7_ground, Cond.selects RX7 yX7_ground yX7_ground, Cond.code yX7_ground cX7_ground 3 (some .int), Cond.instanceMethod yX1_thicknessOf]
def wsL_law_r9 : List Cond := [Cond.selects RX1 yX1_thicknessOf yX1_thicknessOf, Cond.code yX1_thicknessOf cX1_thicknessOf 2 (some .int), Cond.instanceMethod yX1_resistanceOf, Cond.selects RX1 yX1_resistanceOf yX1_resistanceOf, Cond.code yX1_resistanceOf cX1_resistanceOf 2 (some .int), Cond.instanceMethod yX1_topOf, Cond.selects RX1 yX1_topOf yX1_topOf, Cond.code yX1_topOf cX1_topOf 4 (some .int), Cond.instanceMethod yX6_feetIn, Cond.selects RX6 yX6_feetIn yX6_feetIn, Cond.code yX6_feetIn cX6_feetIn 5 (some .int), Cond.instanceMethod yX1_layerAt, Cond.selects RX1 yX1_layerAt yX1_layerAt, Cond.code yX1_layerAt cX1_layerAt 4 (some .int), Cond.methodLink RL 27 yX8_ground, Cond.instanceMethod yX8_ground, Cond.selects RX8 yX8_ground yX8_ground, Cond.code yX8_ground cX8_ground 3 (some .int), Cond.methodLink RX8 66 yX8_begins, Cond.instanceMethod yX8_begins, Cond.selects RX8 yX8_begins yX8_begins, Cond.code yX8_begins cX8_begins 4 (some .int), Cond.methodLink RX8 69 yX8_feetIn, Cond.instanceMethod yX8_feetIn]
def wsL_law_r10 : List Cond := [Cond.selects RX8 yX8_feetIn yX8_feetIn, Cond.code yX8_feetIn cX8_feetIn 4 (some .int), Cond.methodLink RX8 62 yX8_of, Cond.instanceMethod yX8_of, Cond.selects RX8 yX8_of yX8_of, Cond.code yX8_of cX8_of 3 (some .int), Cond.methodLink RX8 58 yX8_stratumAt, Cond.instanceMethod yX8_stratumAt, Cond.selects RX8 yX8_stratumAt yX8_stratumAt, Cond.code yX8_stratumAt cX8_stratumAt 4 (some .int), Cond.methodLink RL 28 yX7_at, Cond.instanceMethod yX7_at, Cond.selects RX7 yX7_at yX7_at, Cond.code yX7_at cX7_at 3 (some .int), Cond.constant RX7 82 (200000), Cond.methodLink RL 32 yX8_at, Cond.instanceMethod yX8_at, Cond.selects RX8 yX8_at yX8_at, Cond.code yX8_at cX8_at 2 (some .int), Cond.constant RX8 72 (200000), Cond.methodLink RL 33 yX7_set, Cond.instanceMethod yX7_set, Cond.selects RX7 yX7_set yX7_set, Cond.code yX7_set cX7_set 4 (some .int)]
def wsL_law_r11 : List Cond := [Cond.fieldLink RX7 90 "PileSets" "LEAST_SETTINGS" "[I", Cond.fieldLink RX7 94 "PileSets" "MOST_SETTINGS" "[I", Cond.methodLink RX7 86 yX7_isSetting, Cond.static yX7_isSetting, Cond.code yX7_isSetting cX7_isSetting 1 (some .boolean), Cond.fieldLink RX7 279 "PileSets" "FIRST_SETTINGS" "[I", Cond.instanceMethod yX6_setting, Cond.selects RX6 yX6_setting yX6_setting, Cond.code yX6_setting cX6_setting 2 (some .int), Cond.instanceMethod yX6_changeSetting, Cond.selects RX6 yX6_changeSetting yX6_changeSetting, Cond.code yX6_changeSetting cX6_changeSetting 3 none, Cond.methodLink RL 36 yX8_set, Cond.instanceMethod yX8_set, Cond.selects RX8 yX8_set yX8_set, Cond.code yX8_set cX8_set 4 (some .int), Cond.methodLink RX8 73 yX8_canBe, Cond.static yX8_canBe, Cond.code yX8_canBe cX8_canBe 2 (some .boolean), Cond.methodLink RL 37 yX7_count, Cond.instanceMethod yX7_count, Cond.selects RX7 yX7_count yX7_count, Cond.code yX7_count cX7_count 2 (some .long), Cond.constantLong RX7 140 (-1)]
def wsL_law_r12 : List Cond := [Cond.instanceMethod yX6_loosePiles, Cond.selects RX6 yX6_loosePiles yX6_loosePiles, Cond.code yX6_loosePiles cX6_loosePiles 4 (some .int), Cond.instanceMethod yX6_footSum, Cond.selects RX6 yX6_footSum yX6_footSum, Cond.code yX6_footSum cX6_footSum 5 (some .long), Cond.methodLink RL 41 yX8_count, Cond.instanceMethod yX8_count, Cond.selects RX8 yX8_count yX8_count, Cond.code yX8_count cX8_count 2 (some .long), Cond.fieldLink RX8 81 "PileSetsModel" "length" "I", Cond.constantLong RX8 87 (-1), Cond.methodLink RX8 77 yX8_loosePiles, Cond.instanceMethod yX8_loosePiles, Cond.selects RX8 yX8_loosePiles yX8_loosePiles, Cond.code yX8_loosePiles cX8_loosePiles 3 (some .int), Cond.methodLink RX8 84 yX8_feet, Cond.instanceMethod yX8_feet, Cond.selects RX8 yX8_feet yX8_feet, Cond.code yX8_feet cX8_feet 3 (some .int), Cond.methodLink RL 42 yX7_pile, Cond.instanceMethod yX7_pile, Cond.selects RX7 yX7_pile yX7_pile, Cond.code yX7_pile cX7_pile 4 (some .int)]
def wsL_law_r13 : List Cond := [Cond.constant RX7 142 (50000), Cond.instanceMethod yX6_isTaken, Cond.selects RX6 yX6_isTaken yX6_isTaken, Cond.code yX6_isTaken cX6_isTaken 5 (some .boolean), Cond.instanceMethod yX6_place, Cond.selects RX6 yX6_place yX6_place, Cond.code yX6_place cX6_place 6 (some .int), Cond.instanceMethod yX4_startAt, Cond.selects RX4 yX4_startAt yX4_startAt, Cond.code yX4_startAt cX4_startAt 4 none, Cond.methodLink RL 45 yX8_pile, Cond.instanceMethod yX8_pile, Cond.selects RX8 yX8_pile yX8_pile, Cond.code yX8_pile cX8_pile 6 (some .int), Cond.constant RX8 89 (50000), Cond.methodLink RX8 90 yX8_stands, Cond.instanceMethod yX8_stands, Cond.selects RX8 yX8_stands yX8_stands, Cond.code yX8_stands cX8_stands 5 (some .boolean), Cond.methodLink RX8 93 yX8_put, Cond.instanceMethod yX8_put, Cond.selects RX8 yX8_put yX8_put, Cond.code yX8_put cX8_put 4 none, Cond.methodLink RL 46 yX7_pileOf]
def wsL_law_r14 : List Cond := [Cond.instanceMethod yX7_pileOf, Cond.selects RX7 yX7_pileOf yX7_pileOf, Cond.code yX7_pileOf cX7_pileOf 4 (some .int), Cond.instanceMethod yX6_allowedLoad, Cond.selects RX6 yX6_allowedLoad yX6_allowedLoad, Cond.code yX6_allowedLoad cX6_allowedLoad 4 (some .int), Cond.methodLink RX6 69 yX6_setting, Cond.instanceMethod yX6_pilesNear, Cond.selects RX6 yX6_pilesNear yX6_pilesNear, Cond.code yX6_pilesNear cX6_pilesNear 5 (some .int), Cond.methodLink RX6 77 yX6_areNear, Cond.instanceMethod yX6_areNear, Cond.selects RX6 yX6_areNear yX6_areNear, Cond.code yX6_areNear cX6_areNear 4 (some .boolean), Cond.methodLink RX6 72 Lib.Math.abs.name, Cond.static Lib.Math.abs.name, Cond.code Lib.Math.abs.name Lib.Math.abs.code 1 (some .int), Cond.methodLink RL 49 yX8_pileOf, Cond.instanceMethod yX8_pileOf, Cond.selects RX8 yX8_pileOf yX8_pileOf, Cond.code yX8_pileOf cX8_pileOf 3 (some .int), Cond.methodLink RX8 103 yX8_isPile, Cond.instanceMethod yX8_isPile, Cond.selects RX8 yX8_isPile yX8_isPile]
def wsL_law_r15 : List Cond := [Cond.code yX8_isPile cX8_isPile 2 (some .boolean), Cond.methodLink RX8 107 yX8_allowed, Cond.instanceMethod yX8_allowed, Cond.selects RX8 yX8_allowed yX8_allowed, Cond.code yX8_allowed cX8_allowed 3 (some .int), Cond.methodLink RX8 110 yX8_near, Cond.instanceMethod yX8_near, Cond.selects RX8 yX8_near yX8_near, Cond.code yX8_near cX8_near 4 (some .int), Cond.methodLink RX8 100 yX8_areNear, Cond.instanceMethod yX8_areNear, Cond.selects RX8 yX8_areNear yX8_areNear, Cond.code yX8_areNear cX8_areNear 4 (some .boolean), Cond.methodLink RX8 97 yX8_apart, Cond.static yX8_apart, Cond.code yX8_apart cX8_apart 2 (some .int), Cond.methodLink RL 50 yX7_blow, Cond.instanceMethod yX7_blow, Cond.selects RX7 yX7_blow yX7_blow, Cond.code yX7_blow cX7_blow 6 (some .int), Cond.instanceMethod yX4_keptSet, Cond.selects RX4 yX4_keptSet yX4_keptSet, Cond.code yX4_keptSet cX4_keptSet 2 (some .int), Cond.instanceMethod yX4_keptLoad]
def wsL_law_r16 : List Cond := [Cond.selects RX4 yX4_keptLoad yX4_keptLoad, Cond.code yX4_keptLoad cX4_keptLoad 2 (some .int), Cond.methodLink RL 53 yX8_blow, Cond.instanceMethod yX8_blow, Cond.selects RX8 yX8_blow yX8_blow, Cond.code yX8_blow cX8_blow 5 (some .int), Cond.methodLink RL 54 yX7_strike, Cond.instanceMethod yX7_strike, Cond.selects RX7 yX7_strike yX7_strike, Cond.code yX7_strike cX7_strike 4 (some .int), Cond.methodLink RX7 199 yX7_isFall, Cond.static yX7_isFall, Cond.code yX7_isFall cX7_isFall 1 (some .boolean), Cond.instanceMethod yX4_left, Cond.selects RX4 yX4_left yX4_left, Cond.code yX4_left cX4_left 1 (some .int), Cond.instanceMethod yX6_hit, Cond.selects RX6 yX6_hit yX6_hit, Cond.code yX6_hit cX6_hit 6 (some .int), Cond.methodLink RX6 100 yX6_energyOf, Cond.instanceMethod yX6_energyOf, Cond.selects RX6 yX6_energyOf yX6_energyOf, Cond.code yX6_energyOf cX6_energyOf 2 (some .int), Cond.constantLong RX6 81 (10000)]
def wsL_law_r17 : List Cond := [Cond.instanceMethod yX1_resistanceAt, Cond.selects RX1 yX1_resistanceAt yX1_resistanceAt, Cond.code yX1_resistanceAt cX1_resistanceAt 2 (some .int), Cond.methodLink RX1 32 yX1_layerAt, Cond.methodLink RX1 36 yX1_resistanceOf, Cond.methodLink RX6 106 yX6_setOf, Cond.instanceMethod yX6_setOf, Cond.selects RX6 yX6_setOf yX6_setOf, Cond.code yX6_setOf cX6_setOf 4 (some .int), Cond.methodLink RX6 87 Lib.Math.min.name, Cond.methodLink RX6 93 yX6_freeSet, Cond.instanceMethod yX6_freeSet, Cond.selects RX6 yX6_freeSet yX6_freeSet, Cond.code yX6_freeSet cX6_freeSet 3 (some .int), Cond.methodLink RX6 83 Lib.Math.max.name, Cond.methodLink RX6 110 yX6_loadOf, Cond.instanceMethod yX6_loadOf, Cond.selects RX6 yX6_loadOf yX6_loadOf, Cond.code yX6_loadOf cX6_loadOf 4 (some .int), Cond.constant RX6 96 (100000), Cond.instanceMethod yX4_takeBlow, Cond.selects RX4 yX4_takeBlow yX4_takeBlow, Cond.code yX4_takeBlow cX4_takeBlow 3 none, Cond.methodLink RX4 53 yX4_keep]
def wsL_law_r18 : List Cond := [Cond.instanceMethod yX4_keep, Cond.selects RX4 yX4_keep yX4_keep, Cond.code yX4_keep cX4_keep 3 none, Cond.methodLink RX6 130 yX6_liftBy, Cond.instanceMethod yX6_liftBy, Cond.selects RX6 yX6_liftBy yX6_liftBy, Cond.code yX6_liftBy cX6_liftBy 2 (some .int), Cond.methodLink RX6 133 yX6_liftOthers, Cond.instanceMethod yX6_liftOthers, Cond.selects RX6 yX6_liftOthers yX6_liftOthers, Cond.code yX6_liftOthers cX6_liftOthers 6 none, Cond.static yX7_liftOf, Cond.code yX7_liftOf cX7_liftOf 3 (some .int), Cond.methodLink RX7 282 Lib.Math.min.name, Cond.instanceMethod yX4_takeLift, Cond.selects RX4 yX4_takeLift yX4_takeLift, Cond.code yX4_takeLift cX4_takeLift 2 none, Cond.methodLink RL 57 yX8_strike, Cond.instanceMethod yX8_strike, Cond.selects RX8 yX8_strike yX8_strike, Cond.code yX8_strike cX8_strike 3 (some .int), Cond.methodLink RX8 139 yX8_isFall, Cond.static yX8_isFall, Cond.code yX8_isFall cX8_isFall 1 (some .boolean)]
def wsL_law_r19 : List Cond := [Cond.methodLink RX8 142 yX8_isDown, Cond.instanceMethod yX8_isDown, Cond.selects RX8 yX8_isDown yX8_isDown, Cond.code yX8_isDown cX8_isDown 2 (some .boolean), Cond.methodLink RX8 145 yX8_strikes, Cond.instanceMethod yX8_strikes, Cond.selects RX8 yX8_strikes yX8_strikes, Cond.code yX8_strikes cX8_strikes 8 (some .int), Cond.constant RX8 131 (100000), Cond.methodLink RX8 118 yX8_hardness, Cond.instanceMethod yX8_hardness, Cond.selects RX8 yX8_hardness yX8_hardness, Cond.code yX8_hardness cX8_hardness 3 (some .int), Cond.methodLink RX8 115 yX8_energy, Cond.instanceMethod yX8_energy, Cond.selects RX8 yX8_energy yX8_energy, Cond.code yX8_energy cX8_energy 2 (some .int), Cond.constantLong RX8 113 (10000), Cond.methodLink RX8 128 yX8_setAt, Cond.instanceMethod yX8_setAt, Cond.selects RX8 yX8_setAt yX8_setAt, Cond.code yX8_setAt cX8_setAt 5 (some .int), Cond.methodLink RX8 121 yX8_lesser, Cond.static yX8_lesser]
def wsL_law_r20 : List Cond := [Cond.code yX8_lesser cX8_lesser 2 (some .int), Cond.methodLink RX8 132 yX8_keeps, Cond.instanceMethod yX8_keeps, Cond.selects RX8 yX8_keeps yX8_keeps, Cond.code yX8_keeps cX8_keeps 5 none, Cond.methodLink RX8 135 yX8_lifts, Cond.instanceMethod yX8_lifts, Cond.selects RX8 yX8_lifts yX8_lifts, Cond.code yX8_lifts cX8_lifts 5 none, Cond.methodLink RX8 124 yX8_liftOf, Cond.instanceMethod yX8_liftOf, Cond.selects RX8 yX8_liftOf yX8_liftOf, Cond.code yX8_liftOf cX8_liftOf 4 (some .int), Cond.methodLink RL 58 yX7_drive, Cond.instanceMethod yX7_drive, Cond.selects RX7 yX7_drive yX7_drive, Cond.code yX7_drive cX7_drive 9 (some .int), Cond.methodLink RL 62 yX8_drive, Cond.instanceMethod yX8_drive, Cond.selects RX8 yX8_drive yX8_drive, Cond.code yX8_drive cX8_drive 8 (some .int), Cond.methodLink RL 63 yX7_would, Cond.instanceMethod yX7_would, Cond.selects RX7 yX7_would yX7_would]
def wsL_law_r21 : List Cond := [Cond.code yX7_would cX7_would 4 (some .int), Cond.methodLink RL 66 yX8_would, Cond.instanceMethod yX8_would, Cond.selects RX8 yX8_would yX8_would, Cond.code yX8_would cX8_would 3 (some .int), Cond.methodLink RL 67 yX7_fallFor, Cond.instanceMethod yX7_fallFor, Cond.selects RX7 yX7_fallFor yX7_fallFor, Cond.code yX7_fallFor cX7_fallFor 5 (some .int), Cond.methodLink RL 70 yX8_fallFor, Cond.instanceMethod yX8_fallFor, Cond.selects RX8 yX8_fallFor yX8_fallFor, Cond.code yX8_fallFor cX8_fallFor 4 (some .int), Cond.methodLink RL 71 yX7_blowsTo, Cond.instanceMethod yX7_blowsTo, Cond.selects RX7 yX7_blowsTo yX7_blowsTo, Cond.code yX7_blowsTo cX7_blowsTo 5 (some .int), Cond.instanceMethod yX6_blowsDown, Cond.selects RX6 yX6_blowsDown yX6_blowsDown, Cond.code yX6_blowsDown cX6_blowsDown 10 (some .int), Cond.methodLink RL 74 yX8_blowsTo, Cond.instanceMethod yX8_blowsTo, Cond.selects RX8 yX8_blowsTo yX8_blowsTo, Cond.code yX8_blowsTo cX8_blowsTo 7 (some .int)]
def wsL_law_r22 : List Cond := [Cond.methodLink RL 75 yX7_test, Cond.instanceMethod yX7_test, Cond.selects RX7 yX7_test yX7_test, Cond.code yX7_test cX7_test 4 (some .int), Cond.constant RX7 218 (100000), Cond.instanceMethod yX6_loadWith, Cond.selects RX6 yX6_loadWith yX6_loadWith, Cond.code yX6_loadWith cX6_loadWith 5 (some .int), Cond.instanceMethod yX4_takePress, Cond.selects RX4 yX4_takePress yX4_takePress, Cond.code yX4_takePress cX4_takePress 2 none, Cond.methodLink RL 78 yX8_test, Cond.instanceMethod yX8_test, Cond.selects RX8 yX8_test yX8_test, Cond.code yX8_test cX8_test 6 (some .int), Cond.methodLink RL 79 yX7_undo, Cond.instanceMethod yX7_undo, Cond.selects RX7 yX7_undo yX7_undo, Cond.code yX7_undo cX7_undo 1 (some .int), Cond.instanceMethod yX2_restore, Cond.selects RX2 yX2_restore yX2_restore, Cond.code yX2_restore cX2_restore 4 none, Cond.methodLink RL 82 yX8_undo, Cond.instanceMethod yX8_undo]
def wsL_law_r23 : List Cond := [Cond.selects RX8 yX8_undo yX8_undo, Cond.code yX8_undo cX8_undo 2 (some .int), Cond.methodLink RL 83 yX7_runs, Cond.instanceMethod yX7_runs, Cond.selects RX7 yX7_runs yX7_runs, Cond.code yX7_runs cX7_runs 3 (some .int), Cond.instanceMethod yX5_read, Cond.selects RX5 yX5_read yX5_read, Cond.code yX5_read cX5_read 5 none, Cond.fieldLink RX5 15 "PileSets$RunFinder" "wanted" "I", Cond.fieldLink RX5 19 "PileSets$RunFinder" "found" "I", Cond.fieldLink RX5 22 "PileSets$RunFinder" "size" "I", Cond.methodLink RX5 37 yX5_readSet, Cond.instanceMethod yX5_readSet, Cond.selects RX5 yX5_readSet yX5_readSet, Cond.code yX5_readSet cX5_readSet 3 none, Cond.fieldLink RX5 44 "PileSets$RunFinder" "firstSet" "I", Cond.methodLink RX5 47 Lib.Math.abs.name, Cond.fieldLink RX5 52 "PileSets$RunFinder" "firstLoad" "I", Cond.fieldLink RX5 55 "PileSets$RunFinder" "sum" "I", Cond.methodLink RX5 41 yX5_closeRun, Cond.instanceMethod yX5_closeRun, Cond.selects RX5 yX5_closeRun yX5_closeRun, Cond.code yX5_closeRun cX5_closeRun 1 none]
def wsL_law_r24 : List Cond := [Cond.methodLink RL 86 yX8_runs, Cond.instanceMethod yX8_runs, Cond.selects RX8 yX8_runs yX8_runs, Cond.code yX8_runs cX8_runs 2 (some .int), Cond.fieldLink RX8 148 "PileSetsModel" "runCount" "I", Cond.methodLink RX8 154 yX8_findRuns, Cond.instanceMethod yX8_findRuns, Cond.selects RX8 yX8_findRuns yX8_findRuns, Cond.code yX8_findRuns cX8_findRuns 8 none, Cond.methodLink RX8 151 yX8_endsRun, Cond.instanceMethod yX8_endsRun, Cond.selects RX8 yX8_endsRun yX8_endsRun, Cond.code yX8_endsRun cX8_endsRun 4 none, Cond.methodLink RL 87 yX7_run, Cond.instanceMethod yX7_run, Cond.selects RX7 yX7_run yX7_run, Cond.code yX7_run cX7_run 5 (some .int), Cond.instanceMethod yX5_answerOf, Cond.selects RX5 yX5_answerOf yX5_answerOf, Cond.code yX5_answerOf cX5_answerOf 2 (some .int), Cond.methodLink RL 90 yX8_run, Cond.instanceMethod yX8_run, Cond.selects RX8 yX8_run yX8_run, Cond.code yX8_run cX8_run 4 (some .int)]
def wsL_law_r25 : List Cond := [Cond.methodLink RL 91 yX7_order, Cond.instanceMethod yX7_order, Cond.selects RX7 yX7_order yX7_order, Cond.code yX7_order cX7_order 4 (some .int), Cond.instanceMethod yX6_pilesWithoutBlows, Cond.selects RX6 yX6_pilesWithoutBlows yX6_pilesWithoutBlows, Cond.code yX6_pilesWithoutBlows cX6_pilesWithoutBlows 4 (some .int), Cond.instanceMethod yX3_search, Cond.selects RX3 yX3_search yX3_search, Cond.code yX3_search cX3_search 8 none, Cond.constant RX3 36 (2147483647), Cond.fieldLink RX3 37 "PileSets$OrderFinder" "leastSum" "I", Cond.methodLink RX3 45 arraycopyName, Cond.methodLink RX3 24 yX3_collect, Cond.instanceMethod yX3_collect, Cond.selects RX3 yX3_collect yX3_collect, Cond.code yX3_collect cX3_collect 4 none, Cond.fieldLink RX3 55 "PileSets$OrderFinder" "size" "I", Cond.methodLink RX3 41 yX3_liftsOfTried, Cond.instanceMethod yX3_liftsOfTried, Cond.selects RX3 yX3_liftsOfTried yX3_liftsOfTried, Cond.code yX3_liftsOfTried cX3_liftsOfTried 6 (some .int), Cond.methodLink RX3 73 yX3_triedAt, Cond.instanceMethod yX3_triedAt]
def wsL_law_r26 : List Cond := [Cond.selects RX3 yX3_triedAt yX3_triedAt, Cond.code yX3_triedAt cX3_triedAt 2 (some .int), Cond.methodLink RX3 76 yX3_liftsOfPile, Cond.instanceMethod yX3_liftsOfPile, Cond.selects RX3 yX3_liftsOfPile yX3_liftsOfPile, Cond.code yX3_liftsOfPile cX3_liftsOfPile 9 (some .int), Cond.methodLink RX3 80 yX3_findNear, Cond.instanceMethod yX3_findNear, Cond.selects RX3 yX3_findNear yX3_findNear, Cond.code yX3_findNear cX3_findNear 5 none, Cond.fieldLink RX3 98 "PileSets$OrderFinder" "nearOnes" "I", Cond.methodLink RX3 94 yX3_liftNear, Cond.instanceMethod yX3_liftNear, Cond.selects RX3 yX3_liftNear yX3_liftNear, Cond.code yX3_liftNear cX3_liftNear 7 (some .int), Cond.methodLink RX3 51 yX3_nextOrder, Cond.instanceMethod yX3_nextOrder, Cond.selects RX3 yX3_nextOrder yX3_nextOrder, Cond.code yX3_nextOrder cX3_nextOrder 5 (some .boolean), Cond.methodLink RX3 108 yX3_swap, Cond.instanceMethod yX3_swap, Cond.selects RX3 yX3_swap yX3_swap, Cond.code yX3_swap cX3_swap 4 none, Cond.instanceMethod yX3_bestAt]
def wsL_law_r27 : List Cond := [Cond.selects RX3 yX3_bestAt yX3_bestAt, Cond.code yX3_bestAt cX3_bestAt 2 (some .int), Cond.methodLink RL 94 yX8_order, Cond.instanceMethod yX8_order, Cond.selects RX8 yX8_order yX8_order, Cond.code yX8_order cX8_order 4 (some .int), Cond.fieldLink RX8 158 "PileSetsModel" "freshMany" "I", Cond.methodLink RX8 170 yX8_findFresh, Cond.instanceMethod yX8_findFresh, Cond.selects RX8 yX8_findFresh yX8_findFresh, Cond.code yX8_findFresh cX8_findFresh 2 none, Cond.methodLink RX8 173 yX8_findOrder, Cond.instanceMethod yX8_findOrder, Cond.selects RX8 yX8_findOrder yX8_findOrder, Cond.code yX8_findOrder cX8_findOrder 7 none, Cond.fieldLink RX8 167 "PileSetsModel" "leastSum" "I", Cond.methodLink RX8 161 yX8_layRow, Cond.instanceMethod yX8_layRow, Cond.selects RX8 yX8_layRow yX8_layRow, Cond.code yX8_layRow cX8_layRow 9 none, Cond.methodLink RX8 164 yX8_tries, Cond.instanceMethod yX8_tries, Cond.selects RX8 yX8_tries yX8_tries, Cond.code yX8_tries cX8_tries 9 (some .int)]
def wsL_law_r28 : List Cond := [Cond.methodLink RL 95 yX7_leastLift, Cond.instanceMethod yX7_leastLift, Cond.selects RX7 yX7_leastLift yX7_leastLift, Cond.code yX7_leastLift cX7_leastLift 3 (some .int), Cond.methodLink RL 98 yX8_leastLift, Cond.instanceMethod yX8_leastLift, Cond.selects RX8 yX8_leastLift yX8_leastLift, Cond.code yX8_leastLift cX8_leastLift 3 (some .int), Cond.methodLink RL 99 yX7_type, Cond.instanceMethod yX7_type, Cond.selects RX7 yX7_type yX7_type, Cond.code yX7_type cX7_type 2 (some .int), Cond.instanceMethod yX0_append, Cond.selects RX0 yX0_append yX0_append, Cond.code yX0_append cX0_append 2 none, Cond.fieldLink RX0 15 "PileSets$BlowText" "length" "I", Cond.methodLink RL 102 yX8_type, Cond.instanceMethod yX8_type, Cond.selects RX8 yX8_type yX8_type, Cond.code yX8_type cX8_type 2 (some .int), Cond.methodLink RL 103 yX7_clearText, Cond.instanceMethod yX7_clearText, Cond.selects RX7 yX7_clearText yX7_clearText, Cond.code yX7_clearText cX7_clearText 2 (some .int)]
def wsL_law_r29 : List Cond := [Cond.instanceMethod yX0_empty, Cond.selects RX0 yX0_empty yX0_empty, Cond.code yX0_empty cX0_empty 1 none, Cond.methodLink RL 106 yX8_clearText, Cond.instanceMethod yX8_clearText, Cond.selects RX8 yX8_clearText yX8_clearText, Cond.code yX8_clearText cX8_clearText 2 (some .int), Cond.methodLink RL 107 yX7_fault, Cond.instanceMethod yX7_fault, Cond.selects RX7 yX7_fault yX7_fault, Cond.code yX7_fault cX7_fault 3 (some .int), Cond.instanceMethod yX0_findFault, Cond.selects RX0 yX0_findFault yX0_findFault, Cond.code yX0_findFault cX0_findFault 5 (some .int), Cond.fieldLink RX0 23 "PileSets$BlowText" "faultStart" "I", Cond.fieldLink RX0 26 "PileSets$BlowText" "partEnd" "I", Cond.methodLink RX0 19 yX0_reasonOf, Cond.instanceMethod yX0_reasonOf, Cond.selects RX0 yX0_reasonOf yX0_reasonOf, Cond.code yX0_reasonOf cX0_reasonOf 3 (some .int), Cond.fieldLink RX0 33 "PileSets$BlowText" "pileNumber" "I", Cond.fieldLink RX0 36 "PileSets$BlowText" "fall" "I", Cond.fieldLink RX0 42 "PileSets$BlowText" "times" "I", Cond.methodLink RX0 29 yX0_readPart]
def wsL_law_r30 : List Cond := [Cond.instanceMethod yX0_readPart, Cond.selects RX0 yX0_readPart yX0_readPart, Cond.code yX0_readPart cX0_readPart 4 (some .boolean), Cond.methodLink RX0 49 yX0_digitsFrom, Cond.instanceMethod yX0_digitsFrom, Cond.selects RX0 yX0_digitsFrom yX0_digitsFrom, Cond.code yX0_digitsFrom cX0_digitsFrom 3 (some .int), Cond.methodLink RX0 53 yX0_characterAt, Cond.instanceMethod yX0_characterAt, Cond.selects RX0 yX0_characterAt yX0_characterAt, Cond.code yX0_characterAt cX0_characterAt 2 (some .char), Cond.methodLink RX0 60 yX0_isDigit, Cond.instanceMethod yX0_isDigit, Cond.selects RX0 yX0_isDigit yX0_isDigit, Cond.code yX0_isDigit cX0_isDigit 2 (some .boolean), Cond.methodLink RX0 57 yX0_numberIn, Cond.instanceMethod yX0_numberIn, Cond.selects RX0 yX0_numberIn yX0_numberIn, Cond.code yX0_numberIn cX0_numberIn 5 (some .int), Cond.methodLink RL 110 yX8_fault, Cond.instanceMethod yX8_fault, Cond.selects RX8 yX8_fault yX8_fault, Cond.code yX8_fault cX8_fault 3 (some .int), Cond.fieldLink RX8 201 "PileSetsModel" "from" "I"]
def wsL_law_r31 : List Cond := [Cond.methodLink RX8 207 yX8_reasonOfText, Cond.instanceMethod yX8_reasonOfText, Cond.selects RX8 yX8_reasonOfText yX8_reasonOfText, Cond.code yX8_reasonOfText cX8_reasonOfText 2 (some .int), Cond.fieldLink RX8 176 "PileSetsModel" "spot" "I", Cond.methodLink RX8 204 yX8_reason, Cond.instanceMethod yX8_reason, Cond.selects RX8 yX8_reason yX8_reason, Cond.code yX8_reason cX8_reason 1 (some .int), Cond.fieldLink RX8 186 "PileSetsModel" "itsPile" "I", Cond.fieldLink RX8 192 "PileSetsModel" "itsFall" "I", Cond.fieldLink RX8 195 "PileSetsModel" "itsMany" "I", Cond.methodLink RX8 198 yX8_isFormed, Cond.instanceMethod yX8_isFormed, Cond.selects RX8 yX8_isFormed yX8_isFormed, Cond.code yX8_isFormed cX8_isFormed 1 (some .boolean), Cond.methodLink RX8 183 yX8_digits, Cond.instanceMethod yX8_digits, Cond.selects RX8 yX8_digits yX8_digits, Cond.code yX8_digits cX8_digits 5 (some .int), Cond.methodLink RX8 179 yX8_isDigit, Cond.instanceMethod yX8_isDigit, Cond.selects RX8 yX8_isDigit yX8_isDigit, Cond.code yX8_isDigit cX8_isDigit 1 (some .boolean)]
def wsL_law_r32 : List Cond := [Cond.methodLink RX8 189 yX8_takes, Cond.instanceMethod yX8_takes, Cond.selects RX8 yX8_takes yX8_takes, Cond.code yX8_takes cX8_takes 3 (some .boolean), Cond.methodLink RL 111 yX7_carry, Cond.instanceMethod yX7_carry, Cond.selects RX7 yX7_carry yX7_carry, Cond.code yX7_carry cX7_carry 4 (some .int), Cond.instanceMethod yX6_hitSeveral, Cond.selects RX6 yX6_hitSeveral yX6_hitSeveral, Cond.code yX6_hitSeveral cX6_hitSeveral 6 (some .int), Cond.methodLink RX6 151 yX6_hit, Cond.methodLink RL 114 yX8_carry, Cond.instanceMethod yX8_carry, Cond.selects RX8 yX8_carry yX8_carry, Cond.code yX8_carry cX8_carry 4 (some .int)]
def wsL_law : List Cond := (wsL_law_r1 ++ (wsL_law_r2 ++ (wsL_law_r3 ++ (wsL_law_r4 ++ (wsL_law_r5 ++ (wsL_law_r6 ++ (wsL_law_r7 ++ (wsL_law_r8 ++ (wsL_law_r9 ++ (wsL_law_r10 ++ (wsL_law_r11 ++ (wsL_law_r12 ++ (wsL_law_r13 ++ (wsL_law_r14 ++ (wsL_law_r15 ++ (wsL_law_r16 ++ (wsL_law_r17 ++ (wsL_law_r18 ++ (wsL_law_r19 ++ (wsL_law_r20 ++ (wsL_law_r21 ++ (wsL_law_r22 ++ (wsL_law_r23 ++ (wsL_law_r24 ++ (wsL_law_r25 ++ (wsL_law_r26 ++ (wsL_law_r27 ++ (wsL_law_r28 ++ (wsL_law_r29 ++ (wsL_law_r30 ++ (wsL_law_r31 ++ wsL_law_r32))))))))))))))))))))))))))))))) ++ wsX70 ++ wsX80 ++ wsX60 ++ wsX20 ++ wsX00 ++ wsX50 ++ wsX30 ++ wsX10 ++ wsX40 ++ ([] : List Cond)
theorem inlX0 : ∀ w ∈ wsX00, w ∈ wsL_law := fun _ h => List.mem_append_left _ (List.mem_append_left _ (List.mem_append_left _ (List.mem_append_left _ (List.mem_append_left _ (List.mem_append_right _ h)))))
theorem inlX1 : ∀ w ∈ wsX10, w ∈ wsL_law := fun _ h => List.mem_append_left _ (List.mem_append_left _ (List.mem_append_right _ h))
theorem inlX2 : ∀ w ∈ wsX20, w ∈ wsL_law := fun _ h => List.mem_append_left _ (List.mem_append_left _ (List.mem_append_left _ (List.mem_append_left _ (List.mem_append_left _ (List.mem_append_left _ (List.mem_append_right _ h))))))
theorem inlX3 : ∀ w ∈ wsX30, w ∈ wsL_law := fun _ h => List.mem_append_left _ (List.mem_append_left _ (List.mem_append_left _ (List.mem_append_right _ h)))
theorem inlX4 : ∀ w ∈ wsX40, w ∈ wsL_law := fun _ h => List.mem_append_left _ (List.mem_append_right _ h)
theorem inlX5 : ∀ w ∈ wsX50, w ∈ wsL_law := fun _ h => List.mem_append_left _ (List.mem_append_left _ (List.mem_append_left _ (List.mem_append_left _ (List.mem_append_right _ h))))
theorem inlX6 : ∀ w ∈ wsX60, w ∈ wsL_law := fun _ h => List.mem_append_left _ (List.mem_append_left _ (List.mem_append_left _ (List.mem_append_left _ (List.mem_append_left _ (List.mem_append_left _ (List.mem_append_left _ (List.mem_append_right _ h)))))))
theorem inlX7 : ∀ w ∈ wsX70, w ∈ wsL_law := fun _ h => List.mem_append_left _ (List.mem_append_left _ (List.mem_append_left _ (List.mem_append_left _ (List.mem_append_left _ (List.mem_append_left _ (List.mem_append_left _ (List.mem_append_left _ (List.mem_append_left _ (List.mem_append_right _ h)))))))))
theorem inlX8 : ∀ w ∈ wsX80, w ∈ wsL_law := fun _ h => List.mem_append_left _ (List.mem_append_left _ (List.mem_append_left _ (List.mem_append_left _ (List.mem_append_left _ (List.mem_append_left _ (List.mem_append_left _ (List.mem_append_left _ (List.mem_append_right _ h))))))))
abbrev vwCl : List vw_C := [(RX0, TX0, 7), (RX1, TX1, 3), (RX2, TX2, 3), (RX3, TX3, 7), (RX4, TX4, 13), (RX5, TX5, 7), (RX6, TX6, 10), (RX7, TX7, 5), (RX8, TX8, 22)]
end
section
theorem dX0_init_0 : decode cX0_init 0 = .ok (.aload_n 0, 1) := by decide +kernel
theorem dX0_init_1 : decode cX0_init 1 = .ok (.invokespecial 3, 3) := by decide +kernel
theorem dX0_init_4 : decode cX0_init 4 = .ok (.aload_n 0, 1) := by decide +kernel
theorem dX0_init_5 : decode cX0_init 5 = .ok (.bipush 80, 2) := by decide +kernel
theorem dX0_init_7 : decode cX0_init 7 = .ok (.newarray .char, 2) := by decide +kernel
theorem dX0_init_9 : decode cX0_init 9 = .ok (.putfield 9, 3) := by decide +kernel
theorem dX0_init_12 : decode cX0_init 12 = .ok (.return_, 1) := by decide +kernel
theorem dX0_append_0 : decode cX0_append 0 = .ok (.aload_n 0, 1) := by decide +kernel
theorem dX0_append_1 : decode cX0_append 1 = .ok (.getfield 15, 3) := by decide +kernel
theorem dX0_append_4 : decode cX0_append 4 = .ok (.ifCond .lt 35, 3) := by decide +kernel
theorem dX0_append_7 : decode cX0_append 7 = .ok (.aload_n 0, 1) := by decide +kernel
theorem dX0_append_8 : decode cX0_append 8 = .ok (.getfield 15, 3) := by decide +kernel
theorem dX0_append_11 : decode cX0_append 11 = .ok (.aload_n 0, 1) := by decide +kernel
theorem dX0_append_12 : decode cX0_append 12 = .ok (.getfield 9, 3) := by decide +kernel
theorem dX0_append_15 : decode cX0_append 15 = .ok (.arraylength, 1) := by decide +kernel
theorem dX0_append_16 : decode cX0_append 16 = .ok (.if_icmp .ge 23, 3) := by decide +kernel
theorem dX0_append_19 : decode cX0_append 19 = .ok (.aload_n 0, 1) := by decide +kernel
theorem dX0_append_20 : decode cX0_append 20 = .ok (.getfield 9, 3) := by decide +kernel
theorem dX0_append_23 : decode cX0_append 23 = .ok (.aload_n 0, 1) := by decide +kernel
theorem dX0_append_24 : decode cX0_append 24 = .ok (.getfield 15, 3) := by decide +kernel
theorem dX0_append_27 : decode cX0_append 27 = .ok (.iload_n 1, 1) := by decide +kernel
theorem dX0_append_28 : decode cX0_append 28 = .ok (.castore, 1) := by decide +kernel
theorem dX0_append_29 : decode cX0_append 29 = .ok (.aload_n 0, 1) := by decide +kernel
theorem dX0_append_30 : decode cX0_append 30 = .ok (.dup, 1) := by decide +kernel
theorem dX0_append_31 : decode cX0_append 31 = .ok (.getfield 15, 3) := by decide +kernel
theorem dX0_append_34 : decode cX0_append 34 = .ok (.iconst 1, 1) := by decide +kernel
theorem dX0_append_35 : decode cX0_append 35 = .ok (.iadd, 1) := by decide +kernel
theorem dX0_append_36 : decode cX0_append 36 = .ok (.putfield 15, 3) := by decide +kernel
theorem dX0_append_39 : decode cX0_append 39 = .ok (.return_, 1) := by decide +kernel
theorem dX0_empty_0 : decode cX0_empty 0 = .ok (.aload_n 0, 1) := by decide +kernel
theorem dX0_empty_1 : decode cX0_empty 1 = .ok (.iconst 0, 1) := by decide +kernel
theorem dX0_empty_2 : decode cX0_empty 2 = .ok (.putfield 15, 3) := by decide +kernel
theorem dX0_empty_5 : decode cX0_empty 5 = .ok (.return_, 1) := by decide +kernel
theorem dX0_findFault_0 : decode cX0_findFault 0 = .ok (.iconst 0, 1) := by decide +kernel
theorem dX0_findFault_1 : decode cX0_findFault 1 = .ok (.istore_n 2, 1) := by decide +kernel
theorem dX0_findFault_2 : decode cX0_findFault 2 = .ok (.iconst 0, 1) := by decide +kernel
theorem dX0_findFault_3 : decode cX0_findFault 3 = .ok (.istore_n 3, 1) := by decide +kernel
theorem dX0_findFault_4 : decode cX0_findFault 4 = .ok (.iload_n 3, 1) := by decide +kernel
theorem dX0_findFault_5 : decode cX0_findFault 5 = .ok (.bipush 80, 2) := by decide +kernel
theorem dX0_findFault_7 : decode cX0_findFault 7 = .ok (.if_icmp .ge 43, 3) := by decide +kernel
theorem dX0_findFault_10 : decode cX0_findFault 10 = .ok (.iload_n 2, 1) := by decide +kernel
theorem dX0_findFault_11 : decode cX0_findFault 11 = .ok (.aload_n 0, 1) := by decide +kernel
theorem dX0_findFault_12 : decode cX0_findFault 12 = .ok (.getfield 15, 3) := by decide +kernel
theorem dX0_findFault_15 : decode cX0_findFault 15 = .ok (.if_icmp .ge 35, 3) := by decide +kernel
theorem dX0_findFault_18 : decode cX0_findFault 18 = .ok (.aload_n 0, 1) := by decide +kernel
theorem dX0_findFault_19 : decode cX0_findFault 19 = .ok (.iload_n 2, 1) := by decide +kernel
theorem dX0_findFault_20 : decode cX0_findFault 20 = .ok (.iload_n 1, 1) := by decide +kernel
theorem dX0_findFault_21 : decode cX0_findFault 21 = .ok (.invokevirtual 19, 3) := by decide +kernel
theorem dX0_findFault_24 : decode cX0_findFault 24 = .ok (.istore 4, 2) := by decide +kernel
theorem dX0_findFault_26 : decode cX0_findFault 26 = .ok (.iload 4, 2) := by decide +kernel
theorem dX0_findFault_28 : decode cX0_findFault 28 = .ok (.ifCond .eq 11, 3) := by decide +kernel
theorem dX0_findFault_31 : decode cX0_findFault 31 = .ok (.aload_n 0, 1) := by decide +kernel
theorem dX0_findFault_32 : decode cX0_findFault 32 = .ok (.iload_n 2, 1) := by decide +kernel
theorem dX0_findFault_33 : decode cX0_findFault 33 = .ok (.putfield 23, 3) := by decide +kernel
theorem dX0_findFault_36 : decode cX0_findFault 36 = .ok (.iload 4, 2) := by decide +kernel
theorem dX0_findFault_38 : decode cX0_findFault 38 = .ok (.ireturn, 1) := by decide +kernel
theorem dX0_findFault_39 : decode cX0_findFault 39 = .ok (.aload_n 0, 1) := by decide +kernel
theorem dX0_findFault_40 : decode cX0_findFault 40 = .ok (.getfield 26, 3) := by decide +kernel
theorem dX0_findFault_43 : decode cX0_findFault 43 = .ok (.istore_n 2, 1) := by decide +kernel
theorem dX0_findFault_44 : decode cX0_findFault 44 = .ok (.iinc 3 1, 3) := by decide +kernel
theorem dX0_findFault_47 : decode cX0_findFault 47 = .ok (.goto (-43), 3) := by decide +kernel
theorem dX0_findFault_50 : decode cX0_findFault 50 = .ok (.iconst 0, 1) := by decide +kernel
theorem dX0_findFault_51 : decode cX0_findFault 51 = .ok (.ireturn, 1) := by decide +kernel
theorem dX0_reasonOf_0 : decode cX0_reasonOf 0 = .ok (.aload_n 0, 1) := by decide +kernel
theorem dX0_reasonOf_1 : decode cX0_reasonOf 1 = .ok (.iload_n 1, 1) := by decide +kernel
theorem dX0_reasonOf_2 : decode cX0_reasonOf 2 = .ok (.invokevirtual 29, 3) := by decide +kernel
theorem dX0_reasonOf_5 : decode cX0_reasonOf 5 = .ok (.ifCond .ne 5, 3) := by decide +kernel
theorem dX0_reasonOf_8 : decode cX0_reasonOf 8 = .ok (.iconst 1, 1) := by decide +kernel
theorem dX0_reasonOf_9 : decode cX0_reasonOf 9 = .ok (.ireturn, 1) := by decide +kernel
theorem dX0_reasonOf_10 : decode cX0_reasonOf 10 = .ok (.aload_n 0, 1) := by decide +kernel
theorem dX0_reasonOf_11 : decode cX0_reasonOf 11 = .ok (.getfield 33, 3) := by decide +kernel
theorem dX0_reasonOf_14 : decode cX0_reasonOf 14 = .ok (.iload_n 2, 1) := by decide +kernel
theorem dX0_reasonOf_15 : decode cX0_reasonOf 15 = .ok (.if_icmp .lt 5, 3) := by decide +kernel
theorem dX0_reasonOf_18 : decode cX0_reasonOf 18 = .ok (.iconst 2, 1) := by decide +kernel
theorem dX0_reasonOf_19 : decode cX0_reasonOf 19 = .ok (.ireturn, 1) := by decide +kernel
theorem dX0_reasonOf_20 : decode cX0_reasonOf 20 = .ok (.aload_n 0, 1) := by decide +kernel
theorem dX0_reasonOf_21 : decode cX0_reasonOf 21 = .ok (.getfield 36, 3) := by decide +kernel
theorem dX0_reasonOf_24 : decode cX0_reasonOf 24 = .ok (.invokestatic 39, 3) := by decide +kernel
theorem dX0_reasonOf_27 : decode cX0_reasonOf 27 = .ok (.ifCond .eq 20, 3) := by decide +kernel
theorem dX0_reasonOf_30 : decode cX0_reasonOf 30 = .ok (.aload_n 0, 1) := by decide +kernel
theorem dX0_reasonOf_31 : decode cX0_reasonOf 31 = .ok (.getfield 42, 3) := by decide +kernel
theorem dX0_reasonOf_34 : decode cX0_reasonOf 34 = .ok (.iconst 1, 1) := by decide +kernel
theorem dX0_reasonOf_35 : decode cX0_reasonOf 35 = .ok (.bipush 40, 2) := by decide +kernel
theorem dX0_reasonOf_37 : decode cX0_reasonOf 37 = .ok (.invokestatic 45, 3) := by decide +kernel
theorem dX0_reasonOf_40 : decode cX0_reasonOf 40 = .ok (.ifCond .eq 7, 3) := by decide +kernel
theorem dX0_reasonOf_43 : decode cX0_reasonOf 43 = .ok (.iconst 0, 1) := by decide +kernel
theorem dX0_reasonOf_44 : decode cX0_reasonOf 44 = .ok (.goto 4, 3) := by decide +kernel
theorem dX0_reasonOf_47 : decode cX0_reasonOf 47 = .ok (.iconst 3, 1) := by decide +kernel
theorem dX0_reasonOf_48 : decode cX0_reasonOf 48 = .ok (.ireturn, 1) := by decide +kernel
theorem dX0_readPart_0 : decode cX0_readPart 0 = .ok (.aload_n 0, 1) := by decide +kernel
theorem dX0_readPart_1 : decode cX0_readPart 1 = .ok (.iload_n 1, 1) := by decide +kernel
theorem dX0_readPart_2 : decode cX0_readPart 2 = .ok (.invokevirtual 49, 3) := by decide +kernel
theorem dX0_readPart_5 : decode cX0_readPart 5 = .ok (.iconst 1, 1) := by decide +kernel
theorem dX0_readPart_6 : decode cX0_readPart 6 = .ok (.if_icmp .ne 15, 3) := by decide +kernel
theorem dX0_readPart_9 : decode cX0_readPart 9 = .ok (.aload_n 0, 1) := by decide +kernel
theorem dX0_readPart_10 : decode cX0_readPart 10 = .ok (.iload_n 1, 1) := by decide +kernel
theorem dX0_readPart_11 : decode cX0_readPart 11 = .ok (.iconst 1, 1) := by decide +kernel
theorem dX0_readPart_12 : decode cX0_readPart 12 = .ok (.iadd, 1) := by decide +kernel
theorem dX0_readPart_13 : decode cX0_readPart 13 = .ok (.invokevirtual 53, 3) := by decide +kernel
theorem dX0_readPart_16 : decode cX0_readPart 16 = .ok (.bipush 58, 2) := by decide +kernel
theorem dX0_readPart_18 : decode cX0_readPart 18 = .ok (.if_icmp .eq 5, 3) := by decide +kernel
theorem dX0_readPart_21 : decode cX0_readPart 21 = .ok (.iconst 0, 1) := by decide +kernel
theorem dX0_readPart_22 : decode cX0_readPart 22 = .ok (.ireturn, 1) := by decide +kernel
theorem dX0_readPart_23 : decode cX0_readPart 23 = .ok (.aload_n 0, 1) := by decide +kernel
theorem dX0_readPart_24 : decode cX0_readPart 24 = .ok (.aload_n 0, 1) := by decide +kernel
theorem dX0_readPart_25 : decode cX0_readPart 25 = .ok (.iload_n 1, 1) := by decide +kernel
theorem dX0_readPart_26 : decode cX0_readPart 26 = .ok (.iconst 1, 1) := by decide +kernel
theorem dX0_readPart_27 : decode cX0_readPart 27 = .ok (.invokevirtual 57, 3) := by decide +kernel
theorem dX0_readPart_30 : decode cX0_readPart 30 = .ok (.putfield 33, 3) := by decide +kernel
theorem dX0_readPart_33 : decode cX0_readPart 33 = .ok (.iload_n 1, 1) := by decide +kernel
theorem dX0_readPart_34 : decode cX0_readPart 34 = .ok (.iconst 2, 1) := by decide +kernel
theorem dX0_readPart_35 : decode cX0_readPart 35 = .ok (.iadd, 1) := by decide +kernel
theorem dX0_readPart_36 : decode cX0_readPart 36 = .ok (.istore_n 2, 1) := by decide +kernel
theorem dX0_readPart_37 : decode cX0_readPart 37 = .ok (.aload_n 0, 1) := by decide +kernel
theorem dX0_readPart_38 : decode cX0_readPart 38 = .ok (.iload_n 2, 1) := by decide +kernel
theorem dX0_readPart_39 : decode cX0_readPart 39 = .ok (.invokevirtual 49, 3) := by decide +kernel
theorem dX0_readPart_42 : decode cX0_readPart 42 = .ok (.istore_n 3, 1) := by decide +kernel
theorem dX0_readPart_43 : decode cX0_readPart 43 = .ok (.iload_n 3, 1) := by decide +kernel
theorem dX0_readPart_44 : decode cX0_readPart 44 = .ok (.iconst 3, 1) := by decide +kernel
theorem dX0_readPart_45 : decode cX0_readPart 45 = .ok (.iconst 4, 1) := by decide +kernel
theorem dX0_readPart_46 : decode cX0_readPart 46 = .ok (.invokestatic 45, 3) := by decide +kernel
theorem dX0_readPart_49 : decode cX0_readPart 49 = .ok (.ifCond .ne 5, 3) := by decide +kernel
theorem dX0_readPart_52 : decode cX0_readPart 52 = .ok (.iconst 0, 1) := by decide +kernel
theorem dX0_readPart_53 : decode cX0_readPart 53 = .ok (.ireturn, 1) := by decide +kernel
theorem dX0_readPart_54 : decode cX0_readPart 54 = .ok (.aload_n 0, 1) := by decide +kernel
theorem dX0_readPart_55 : decode cX0_readPart 55 = .ok (.aload_n 0, 1) := by decide +kernel
theorem dX0_readPart_56 : decode cX0_readPart 56 = .ok (.iload_n 2, 1) := by decide +kernel
theorem dX0_readPart_57 : decode cX0_readPart 57 = .ok (.iload_n 3, 1) := by decide +kernel
theorem dX0_readPart_58 : decode cX0_readPart 58 = .ok (.invokevirtual 57, 3) := by decide +kernel
theorem dX0_readPart_61 : decode cX0_readPart 61 = .ok (.putfield 36, 3) := by decide +kernel
theorem dX0_readPart_64 : decode cX0_readPart 64 = .ok (.iload_n 2, 1) := by decide +kernel
theorem dX0_readPart_65 : decode cX0_readPart 65 = .ok (.iload_n 3, 1) := by decide +kernel
theorem dX0_readPart_66 : decode cX0_readPart 66 = .ok (.iadd, 1) := by decide +kernel
theorem dX0_readPart_67 : decode cX0_readPart 67 = .ok (.istore_n 2, 1) := by decide +kernel
theorem dX0_readPart_68 : decode cX0_readPart 68 = .ok (.aload_n 0, 1) := by decide +kernel
theorem dX0_readPart_69 : decode cX0_readPart 69 = .ok (.iconst 1, 1) := by decide +kernel
theorem dX0_readPart_70 : decode cX0_readPart 70 = .ok (.putfield 42, 3) := by decide +kernel
theorem dX0_readPart_73 : decode cX0_readPart 73 = .ok (.aload_n 0, 1) := by decide +kernel
theorem dX0_readPart_74 : decode cX0_readPart 74 = .ok (.iload_n 2, 1) := by decide +kernel
theorem dX0_readPart_75 : decode cX0_readPart 75 = .ok (.invokevirtual 53, 3) := by decide +kernel
theorem dX0_readPart_78 : decode cX0_readPart 78 = .ok (.bipush 42, 2) := by decide +kernel
theorem dX0_readPart_80 : decode cX0_readPart 80 = .ok (.if_icmp .ne 37, 3) := by decide +kernel
theorem dX0_readPart_83 : decode cX0_readPart 83 = .ok (.iinc 2 1, 3) := by decide +kernel
theorem dX0_readPart_86 : decode cX0_readPart 86 = .ok (.aload_n 0, 1) := by decide +kernel
theorem dX0_readPart_87 : decode cX0_readPart 87 = .ok (.iload_n 2, 1) := by decide +kernel
theorem dX0_readPart_88 : decode cX0_readPart 88 = .ok (.invokevirtual 49, 3) := by decide +kernel
theorem dX0_readPart_91 : decode cX0_readPart 91 = .ok (.istore_n 3, 1) := by decide +kernel
theorem dX0_readPart_92 : decode cX0_readPart 92 = .ok (.iload_n 3, 1) := by decide +kernel
theorem dX0_readPart_93 : decode cX0_readPart 93 = .ok (.iconst 1, 1) := by decide +kernel
theorem dX0_readPart_94 : decode cX0_readPart 94 = .ok (.iconst 2, 1) := by decide +kernel
theorem dX0_readPart_95 : decode cX0_readPart 95 = .ok (.invokestatic 45, 3) := by decide +kernel
theorem dX0_readPart_98 : decode cX0_readPart 98 = .ok (.ifCond .ne 5, 3) := by decide +kernel
theorem dX0_readPart_101 : decode cX0_readPart 101 = .ok (.iconst 0, 1) := by decide +kernel
theorem dX0_readPart_102 : decode cX0_readPart 102 = .ok (.ireturn, 1) := by decide +kernel
theorem dX0_readPart_103 : decode cX0_readPart 103 = .ok (.aload_n 0, 1) := by decide +kernel
theorem dX0_readPart_104 : decode cX0_readPart 104 = .ok (.aload_n 0, 1) := by decide +kernel
theorem dX0_readPart_105 : decode cX0_readPart 105 = .ok (.iload_n 2, 1) := by decide +kernel
theorem dX0_readPart_106 : decode cX0_readPart 106 = .ok (.iload_n 3, 1) := by decide +kernel
theorem dX0_readPart_107 : decode cX0_readPart 107 = .ok (.invokevirtual 57, 3) := by decide +kernel
theorem dX0_readPart_110 : decode cX0_readPart 110 = .ok (.putfield 42, 3) := by decide +kernel
theorem dX0_readPart_113 : decode cX0_readPart 113 = .ok (.iload_n 2, 1) := by decide +kernel
theorem dX0_readPart_114 : decode cX0_readPart 114 = .ok (.iload_n 3, 1) := by decide +kernel
theorem dX0_readPart_115 : decode cX0_readPart 115 = .ok (.iadd, 1) := by decide +kernel
theorem dX0_readPart_116 : decode cX0_readPart 116 = .ok (.istore_n 2, 1) := by decide +kernel
theorem dX0_readPart_117 : decode cX0_readPart 117 = .ok (.aload_n 0, 1) := by decide +kernel
theorem dX0_readPart_118 : decode cX0_readPart 118 = .ok (.iload_n 2, 1) := by decide +kernel
theorem dX0_readPart_119 : decode cX0_readPart 119 = .ok (.iconst 1, 1) := by decide +kernel
theorem dX0_readPart_120 : decode cX0_readPart 120 = .ok (.iadd, 1) := by decide +kernel
theorem dX0_readPart_121 : decode cX0_readPart 121 = .ok (.putfield 26, 3) := by decide +kernel
theorem dX0_readPart_124 : decode cX0_readPart 124 = .ok (.aload_n 0, 1) := by decide +kernel
theorem dX0_readPart_125 : decode cX0_readPart 125 = .ok (.iload_n 2, 1) := by decide +kernel
theorem dX0_readPart_126 : decode cX0_readPart 126 = .ok (.invokevirtual 53, 3) := by decide +kernel
theorem dX0_readPart_129 : decode cX0_readPart 129 = .ok (.bipush 59, 2) := by decide +kernel
theorem dX0_readPart_131 : decode cX0_readPart 131 = .ok (.if_icmp .ne 7, 3) := by decide +kernel
theorem dX0_readPart_134 : decode cX0_readPart 134 = .ok (.iconst 1, 1) := by decide +kernel
theorem dX0_readPart_135 : decode cX0_readPart 135 = .ok (.goto 4, 3) := by decide +kernel
theorem dX0_readPart_138 : decode cX0_readPart 138 = .ok (.iconst 0, 1) := by decide +kernel
theorem dX0_readPart_139 : decode cX0_readPart 139 = .ok (.ireturn, 1) := by decide +kernel
theorem dX0_characterAt_0 : decode cX0_characterAt 0 = .ok (.iload_n 1, 1) := by decide +kernel
theorem dX0_characterAt_1 : decode cX0_characterAt 1 = .ok (.ifCond .lt 29, 3) := by decide +kernel
theorem dX0_characterAt_4 : decode cX0_characterAt 4 = .ok (.iload_n 1, 1) := by decide +kernel
theorem dX0_characterAt_5 : decode cX0_characterAt 5 = .ok (.aload_n 0, 1) := by decide +kernel
theorem dX0_characterAt_6 : decode cX0_characterAt 6 = .ok (.getfield 15, 3) := by decide +kernel
theorem dX0_characterAt_9 : decode cX0_characterAt 9 = .ok (.if_icmp .ge 21, 3) := by decide +kernel
theorem dX0_characterAt_12 : decode cX0_characterAt 12 = .ok (.iload_n 1, 1) := by decide +kernel
theorem dX0_characterAt_13 : decode cX0_characterAt 13 = .ok (.aload_n 0, 1) := by decide +kernel
theorem dX0_characterAt_14 : decode cX0_characterAt 14 = .ok (.getfield 9, 3) := by decide +kernel
theorem dX0_characterAt_17 : decode cX0_characterAt 17 = .ok (.arraylength, 1) := by decide +kernel
theorem dX0_characterAt_18 : decode cX0_characterAt 18 = .ok (.if_icmp .ge 12, 3) := by decide +kernel
theorem dX0_characterAt_21 : decode cX0_characterAt 21 = .ok (.aload_n 0, 1) := by decide +kernel
theorem dX0_characterAt_22 : decode cX0_characterAt 22 = .ok (.getfield 9, 3) := by decide +kernel
theorem dX0_characterAt_25 : decode cX0_characterAt 25 = .ok (.iload_n 1, 1) := by decide +kernel
theorem dX0_characterAt_26 : decode cX0_characterAt 26 = .ok (.caload, 1) := by decide +kernel
theorem dX0_characterAt_27 : decode cX0_characterAt 27 = .ok (.goto 4, 3) := by decide +kernel
theorem dX0_characterAt_30 : decode cX0_characterAt 30 = .ok (.iconst 0, 1) := by decide +kernel
theorem dX0_characterAt_31 : decode cX0_characterAt 31 = .ok (.ireturn, 1) := by decide +kernel
theorem dX0_isDigit_0 : decode cX0_isDigit 0 = .ok (.iload_n 1, 1) := by decide +kernel
theorem dX0_isDigit_1 : decode cX0_isDigit 1 = .ok (.bipush 48, 2) := by decide +kernel
theorem dX0_isDigit_3 : decode cX0_isDigit 3 = .ok (.if_icmp .lt 13, 3) := by decide +kernel
theorem dX0_isDigit_6 : decode cX0_isDigit 6 = .ok (.iload_n 1, 1) := by decide +kernel
theorem dX0_isDigit_7 : decode cX0_isDigit 7 = .ok (.bipush 57, 2) := by decide +kernel
theorem dX0_isDigit_9 : decode cX0_isDigit 9 = .ok (.if_icmp .gt 7, 3) := by decide +kernel
theorem dX0_isDigit_12 : decode cX0_isDigit 12 = .ok (.iconst 1, 1) := by decide +kernel
theorem dX0_isDigit_13 : decode cX0_isDigit 13 = .ok (.goto 4, 3) := by decide +kernel
theorem dX0_isDigit_16 : decode cX0_isDigit 16 = .ok (.iconst 0, 1) := by decide +kernel
theorem dX0_isDigit_17 : decode cX0_isDigit 17 = .ok (.ireturn, 1) := by decide +kernel
theorem dX0_digitsFrom_0 : decode cX0_digitsFrom 0 = .ok (.iconst 0, 1) := by decide +kernel
theorem dX0_digitsFrom_1 : decode cX0_digitsFrom 1 = .ok (.istore_n 2, 1) := by decide +kernel
theorem dX0_digitsFrom_2 : decode cX0_digitsFrom 2 = .ok (.iload_n 2, 1) := by decide +kernel
theorem dX0_digitsFrom_3 : decode cX0_digitsFrom 3 = .ok (.bipush 80, 2) := by decide +kernel
theorem dX0_digitsFrom_5 : decode cX0_digitsFrom 5 = .ok (.if_icmp .ge 23, 3) := by decide +kernel
theorem dX0_digitsFrom_8 : decode cX0_digitsFrom 8 = .ok (.aload_n 0, 1) := by decide +kernel
theorem dX0_digitsFrom_9 : decode cX0_digitsFrom 9 = .ok (.aload_n 0, 1) := by decide +kernel
theorem dX0_digitsFrom_10 : decode cX0_digitsFrom 10 = .ok (.iload_n 1, 1) := by decide +kernel
theorem dX0_digitsFrom_11 : decode cX0_digitsFrom 11 = .ok (.iload_n 2, 1) := by decide +kernel
theorem dX0_digitsFrom_12 : decode cX0_digitsFrom 12 = .ok (.iadd, 1) := by decide +kernel
theorem dX0_digitsFrom_13 : decode cX0_digitsFrom 13 = .ok (.invokevirtual 53, 3) := by decide +kernel
theorem dX0_digitsFrom_16 : decode cX0_digitsFrom 16 = .ok (.invokevirtual 60, 3) := by decide +kernel
theorem dX0_digitsFrom_19 : decode cX0_digitsFrom 19 = .ok (.ifCond .eq 9, 3) := by decide +kernel
theorem dX0_digitsFrom_22 : decode cX0_digitsFrom 22 = .ok (.iinc 2 1, 3) := by decide +kernel
theorem dX0_digitsFrom_25 : decode cX0_digitsFrom 25 = .ok (.goto (-23), 3) := by decide +kernel
theorem dX0_digitsFrom_28 : decode cX0_digitsFrom 28 = .ok (.iload_n 2, 1) := by decide +kernel
theorem dX0_digitsFrom_29 : decode cX0_digitsFrom 29 = .ok (.ireturn, 1) := by decide +kernel
theorem dX0_numberIn_0 : decode cX0_numberIn 0 = .ok (.iconst 0, 1) := by decide +kernel
theorem dX0_numberIn_1 : decode cX0_numberIn 1 = .ok (.istore_n 3, 1) := by decide +kernel
theorem dX0_numberIn_2 : decode cX0_numberIn 2 = .ok (.iconst 0, 1) := by decide +kernel
theorem dX0_numberIn_3 : decode cX0_numberIn 3 = .ok (.istore 4, 2) := by decide +kernel
theorem dX0_numberIn_5 : decode cX0_numberIn 5 = .ok (.iload 4, 2) := by decide +kernel
theorem dX0_numberIn_7 : decode cX0_numberIn 7 = .ok (.iload_n 2, 1) := by decide +kernel
theorem dX0_numberIn_8 : decode cX0_numberIn 8 = .ok (.if_icmp .ge 26, 3) := by decide +kernel
theorem dX0_numberIn_11 : decode cX0_numberIn 11 = .ok (.iload_n 3, 1) := by decide +kernel
theorem dX0_numberIn_12 : decode cX0_numberIn 12 = .ok (.bipush 10, 2) := by decide +kernel
theorem dX0_numberIn_14 : decode cX0_numberIn 14 = .ok (.imul, 1) := by decide +kernel
theorem dX0_numberIn_15 : decode cX0_numberIn 15 = .ok (.aload_n 0, 1) := by decide +kernel
theorem dX0_numberIn_16 : decode cX0_numberIn 16 = .ok (.iload_n 1, 1) := by decide +kernel
theorem dX0_numberIn_17 : decode cX0_numberIn 17 = .ok (.iload 4, 2) := by decide +kernel
theorem dX0_numberIn_19 : decode cX0_numberIn 19 = .ok (.iadd, 1) := by decide +kernel
theorem dX0_numberIn_20 : decode cX0_numberIn 20 = .ok (.invokevirtual 53, 3) := by decide +kernel
theorem dX0_numberIn_23 : decode cX0_numberIn 23 = .ok (.iadd, 1) := by decide +kernel
theorem dX0_numberIn_24 : decode cX0_numberIn 24 = .ok (.bipush 48, 2) := by decide +kernel
theorem dX0_numberIn_26 : decode cX0_numberIn 26 = .ok (.isub, 1) := by decide +kernel
theorem dX0_numberIn_27 : decode cX0_numberIn 27 = .ok (.istore_n 3, 1) := by decide +kernel
theorem dX0_numberIn_28 : decode cX0_numberIn 28 = .ok (.iinc 4 1, 3) := by decide +kernel
theorem dX0_numberIn_31 : decode cX0_numberIn 31 = .ok (.goto (-26), 3) := by decide +kernel
theorem dX0_numberIn_34 : decode cX0_numberIn 34 = .ok (.iload_n 3, 1) := by decide +kernel
theorem dX0_numberIn_35 : decode cX0_numberIn 35 = .ok (.ireturn, 1) := by decide +kernel
theorem dX1_init_0 : decode cX1_init 0 = .ok (.aload_n 0, 1) := by decide +kernel
theorem dX1_init_1 : decode cX1_init 1 = .ok (.invokespecial 3, 3) := by decide +kernel
theorem dX1_init_4 : decode cX1_init 4 = .ok (.aload_n 0, 1) := by decide +kernel
theorem dX1_init_5 : decode cX1_init 5 = .ok (.bipush 6, 2) := by decide +kernel
theorem dX1_init_7 : decode cX1_init 7 = .ok (.newarray .int, 2) := by decide +kernel
theorem dX1_init_9 : decode cX1_init 9 = .ok (.putfield 9, 3) := by decide +kernel
theorem dX1_init_12 : decode cX1_init 12 = .ok (.aload_n 0, 1) := by decide +kernel
theorem dX1_init_13 : decode cX1_init 13 = .ok (.bipush 6, 2) := by decide +kernel
theorem dX1_init_15 : decode cX1_init 15 = .ok (.newarray .int, 2) := by decide +kernel
theorem dX1_init_17 : decode cX1_init 17 = .ok (.putfield 15, 3) := by decide +kernel
theorem dX1_init_20 : decode cX1_init 20 = .ok (.aload_n 0, 1) := by decide +kernel
theorem dX1_init_21 : decode cX1_init 21 = .ok (.iconst 0, 1) := by decide +kernel
theorem dX1_init_22 : decode cX1_init 22 = .ok (.sipush 10000, 3) := by decide +kernel
theorem dX1_init_25 : decode cX1_init 25 = .ok (.bipush 50, 2) := by decide +kernel
theorem dX1_init_27 : decode cX1_init 27 = .ok (.invokevirtual 18, 3) := by decide +kernel
theorem dX1_init_30 : decode cX1_init 30 = .ok (.return_, 1) := by decide +kernel
theorem dX1_put_0 : decode cX1_put 0 = .ok (.iload_n 1, 1) := by decide +kernel
theorem dX1_put_1 : decode cX1_put 1 = .ok (.ifCond .lt 21, 3) := by decide +kernel
theorem dX1_put_4 : decode cX1_put 4 = .ok (.iload_n 1, 1) := by decide +kernel
theorem dX1_put_5 : decode cX1_put 5 = .ok (.aload_n 0, 1) := by decide +kernel
theorem dX1_put_6 : decode cX1_put 6 = .ok (.getfield 9, 3) := by decide +kernel
theorem dX1_put_9 : decode cX1_put 9 = .ok (.arraylength, 1) := by decide +kernel
theorem dX1_put_10 : decode cX1_put 10 = .ok (.if_icmp .ge 12, 3) := by decide +kernel
theorem dX1_put_13 : decode cX1_put 13 = .ok (.iload_n 1, 1) := by decide +kernel
theorem dX1_put_14 : decode cX1_put 14 = .ok (.aload_n 0, 1) := by decide +kernel
theorem dX1_put_15 : decode cX1_put 15 = .ok (.getfield 15, 3) := by decide +kernel
theorem dX1_put_18 : decode cX1_put 18 = .ok (.arraylength, 1) := by decide +kernel
theorem dX1_put_19 : decode cX1_put 19 = .ok (.if_icmp .lt 4, 3) := by decide +kernel
theorem dX1_put_22 : decode cX1_put 22 = .ok (.return_, 1) := by decide +kernel
theorem dX1_put_23 : decode cX1_put 23 = .ok (.aload_n 0, 1) := by decide +kernel
theorem dX1_put_24 : decode cX1_put 24 = .ok (.getfield 9, 3) := by decide +kernel
theorem dX1_put_27 : decode cX1_put 27 = .ok (.iload_n 1, 1) := by decide +kernel
theorem dX1_put_28 : decode cX1_put 28 = .ok (.iload_n 2, 1) := by decide +kernel
theorem dX1_put_29 : decode cX1_put 29 = .ok (.iastore, 1) := by decide +kernel
theorem dX1_put_30 : decode cX1_put 30 = .ok (.aload_n 0, 1) := by decide +kernel
theorem dX1_put_31 : decode cX1_put 31 = .ok (.getfield 15, 3) := by decide +kernel
theorem dX1_put_34 : decode cX1_put 34 = .ok (.iload_n 1, 1) := by decide +kernel
theorem dX1_put_35 : decode cX1_put 35 = .ok (.iload_n 3, 1) := by decide +kernel
theorem dX1_put_36 : decode cX1_put 36 = .ok (.iastore, 1) := by decide +kernel
theorem dX1_put_37 : decode cX1_put 37 = .ok (.aload_n 0, 1) := by decide +kernel
theorem dX1_put_38 : decode cX1_put 38 = .ok (.aload_n 0, 1) := by decide +kernel
theorem dX1_put_39 : decode cX1_put 39 = .ok (.getfield 22, 3) := by decide +kernel
theorem dX1_put_42 : decode cX1_put 42 = .ok (.iload_n 1, 1) := by decide +kernel
theorem dX1_put_43 : decode cX1_put 43 = .ok (.iconst 1, 1) := by decide +kernel
theorem dX1_put_44 : decode cX1_put 44 = .ok (.iadd, 1) := by decide +kernel
theorem dX1_put_45 : decode cX1_put 45 = .ok (.invokestatic 26, 3) := by decide +kernel
theorem dX1_put_48 : decode cX1_put 48 = .ok (.putfield 22, 3) := by decide +kernel
theorem dX1_put_51 : decode cX1_put 51 = .ok (.return_, 1) := by decide +kernel
theorem dX1_removeLast_0 : decode cX1_removeLast 0 = .ok (.aload_n 0, 1) := by decide +kernel
theorem dX1_removeLast_1 : decode cX1_removeLast 1 = .ok (.dup, 1) := by decide +kernel
theorem dX1_removeLast_2 : decode cX1_removeLast 2 = .ok (.getfield 22, 3) := by decide +kernel
theorem dX1_removeLast_5 : decode cX1_removeLast 5 = .ok (.iconst 1, 1) := by decide +kernel
theorem dX1_removeLast_6 : decode cX1_removeLast 6 = .ok (.isub, 1) := by decide +kernel
theorem dX1_removeLast_7 : decode cX1_removeLast 7 = .ok (.putfield 22, 3) := by decide +kernel
theorem dX1_removeLast_10 : decode cX1_removeLast 10 = .ok (.return_, 1) := by decide +kernel
theorem dX1_thicknessOf_0 : decode cX1_thicknessOf 0 = .ok (.iload_n 1, 1) := by decide +kernel
theorem dX1_thicknessOf_1 : decode cX1_thicknessOf 1 = .ok (.ifCond .lt 21, 3) := by decide +kernel
theorem dX1_thicknessOf_4 : decode cX1_thicknessOf 4 = .ok (.iload_n 1, 1) := by decide +kernel
theorem dX1_thicknessOf_5 : decode cX1_thicknessOf 5 = .ok (.aload_n 0, 1) := by decide +kernel
theorem dX1_thicknessOf_6 : decode cX1_thicknessOf 6 = .ok (.getfield 9, 3) := by decide +kernel
theorem dX1_thicknessOf_9 : decode cX1_thicknessOf 9 = .ok (.arraylength, 1) := by decide +kernel
theorem dX1_thicknessOf_10 : decode cX1_thicknessOf 10 = .ok (.if_icmp .ge 12, 3) := by decide +kernel
theorem dX1_thicknessOf_13 : decode cX1_thicknessOf 13 = .ok (.aload_n 0, 1) := by decide +kernel
theorem dX1_thicknessOf_14 : decode cX1_thicknessOf 14 = .ok (.getfield 9, 3) := by decide +kernel
theorem dX1_thicknessOf_17 : decode cX1_thicknessOf 17 = .ok (.iload_n 1, 1) := by decide +kernel
theorem dX1_thicknessOf_18 : decode cX1_thicknessOf 18 = .ok (.iaload, 1) := by decide +kernel
theorem dX1_thicknessOf_19 : decode cX1_thicknessOf 19 = .ok (.goto 4, 3) := by decide +kernel
theorem dX1_thicknessOf_22 : decode cX1_thicknessOf 22 = .ok (.iconst 0, 1) := by decide +kernel
theorem dX1_thicknessOf_23 : decode cX1_thicknessOf 23 = .ok (.ireturn, 1) := by decide +kernel
theorem dX1_resistanceOf_0 : decode cX1_resistanceOf 0 = .ok (.iload_n 1, 1) := by decide +kernel
theorem dX1_resistanceOf_1 : decode cX1_resistanceOf 1 = .ok (.ifCond .lt 29, 3) := by decide +kernel
theorem dX1_resistanceOf_4 : decode cX1_resistanceOf 4 = .ok (.iload_n 1, 1) := by decide +kernel
theorem dX1_resistanceOf_5 : decode cX1_resistanceOf 5 = .ok (.aload_n 0, 1) := by decide +kernel
theorem dX1_resistanceOf_6 : decode cX1_resistanceOf 6 = .ok (.getfield 22, 3) := by decide +kernel
theorem dX1_resistanceOf_9 : decode cX1_resistanceOf 9 = .ok (.if_icmp .ge 21, 3) := by decide +kernel
theorem dX1_resistanceOf_12 : decode cX1_resistanceOf 12 = .ok (.iload_n 1, 1) := by decide +kernel
theorem dX1_resistanceOf_13 : decode cX1_resistanceOf 13 = .ok (.aload_n 0, 1) := by decide +kernel
theorem dX1_resistanceOf_14 : decode cX1_resistanceOf 14 = .ok (.getfield 15, 3) := by decide +kernel
theorem dX1_resistanceOf_17 : decode cX1_resistanceOf 17 = .ok (.arraylength, 1) := by decide +kernel
theorem dX1_resistanceOf_18 : decode cX1_resistanceOf 18 = .ok (.if_icmp .ge 12, 3) := by decide +kernel
theorem dX1_resistanceOf_21 : decode cX1_resistanceOf 21 = .ok (.aload_n 0, 1) := by decide +kernel
theorem dX1_resistanceOf_22 : decode cX1_resistanceOf 22 = .ok (.getfield 15, 3) := by decide +kernel
theorem dX1_resistanceOf_25 : decode cX1_resistanceOf 25 = .ok (.iload_n 1, 1) := by decide +kernel
theorem dX1_resistanceOf_26 : decode cX1_resistanceOf 26 = .ok (.iaload, 1) := by decide +kernel
theorem dX1_resistanceOf_27 : decode cX1_resistanceOf 27 = .ok (.goto 6, 3) := by decide +kernel
theorem dX1_resistanceOf_30 : decode cX1_resistanceOf 30 = .ok (.sipush 2000, 3) := by decide +kernel
theorem dX1_resistanceOf_33 : decode cX1_resistanceOf 33 = .ok (.ireturn, 1) := by decide +kernel
theorem dX1_topOf_0 : decode cX1_topOf 0 = .ok (.iconst 0, 1) := by decide +kernel
theorem dX1_topOf_1 : decode cX1_topOf 1 = .ok (.istore_n 2, 1) := by decide +kernel
theorem dX1_topOf_2 : decode cX1_topOf 2 = .ok (.iconst 0, 1) := by decide +kernel
theorem dX1_topOf_3 : decode cX1_topOf 3 = .ok (.istore_n 3, 1) := by decide +kernel
theorem dX1_topOf_4 : decode cX1_topOf 4 = .ok (.iload_n 3, 1) := by decide +kernel
theorem dX1_topOf_5 : decode cX1_topOf 5 = .ok (.iload_n 1, 1) := by decide +kernel
theorem dX1_topOf_6 : decode cX1_topOf 6 = .ok (.if_icmp .ge 27, 3) := by decide +kernel
theorem dX1_topOf_9 : decode cX1_topOf 9 = .ok (.iload_n 3, 1) := by decide +kernel
theorem dX1_topOf_10 : decode cX1_topOf 10 = .ok (.aload_n 0, 1) := by decide +kernel
theorem dX1_topOf_11 : decode cX1_topOf 11 = .ok (.getfield 9, 3) := by decide +kernel
theorem dX1_topOf_14 : decode cX1_topOf 14 = .ok (.arraylength, 1) := by decide +kernel
theorem dX1_topOf_15 : decode cX1_topOf 15 = .ok (.if_icmp .ge 18, 3) := by decide +kernel
theorem dX1_topOf_18 : decode cX1_topOf 18 = .ok (.iload_n 2, 1) := by decide +kernel
theorem dX1_topOf_19 : decode cX1_topOf 19 = .ok (.aload_n 0, 1) := by decide +kernel
theorem dX1_topOf_20 : decode cX1_topOf 20 = .ok (.getfield 9, 3) := by decide +kernel
theorem dX1_topOf_23 : decode cX1_topOf 23 = .ok (.iload_n 3, 1) := by decide +kernel
theorem dX1_topOf_24 : decode cX1_topOf 24 = .ok (.iaload, 1) := by decide +kernel
theorem dX1_topOf_25 : decode cX1_topOf 25 = .ok (.iadd, 1) := by decide +kernel
theorem dX1_topOf_26 : decode cX1_topOf 26 = .ok (.istore_n 2, 1) := by decide +kernel
theorem dX1_topOf_27 : decode cX1_topOf 27 = .ok (.iinc 3 1, 3) := by decide +kernel
theorem dX1_topOf_30 : decode cX1_topOf 30 = .ok (.goto (-26), 3) := by decide +kernel
theorem dX1_topOf_33 : decode cX1_topOf 33 = .ok (.iload_n 2, 1) := by decide +kernel
theorem dX1_topOf_34 : decode cX1_topOf 34 = .ok (.ireturn, 1) := by decide +kernel
theorem dX1_layerAt_0 : decode cX1_layerAt 0 = .ok (.iconst 0, 1) := by decide +kernel
theorem dX1_layerAt_1 : decode cX1_layerAt 1 = .ok (.istore_n 2, 1) := by decide +kernel
theorem dX1_layerAt_2 : decode cX1_layerAt 2 = .ok (.iconst 0, 1) := by decide +kernel
theorem dX1_layerAt_3 : decode cX1_layerAt 3 = .ok (.istore_n 3, 1) := by decide +kernel
theorem dX1_layerAt_4 : decode cX1_layerAt 4 = .ok (.iload_n 3, 1) := by decide +kernel
theorem dX1_layerAt_5 : decode cX1_layerAt 5 = .ok (.aload_n 0, 1) := by decide +kernel
theorem dX1_layerAt_6 : decode cX1_layerAt 6 = .ok (.getfield 22, 3) := by decide +kernel
theorem dX1_layerAt_9 : decode cX1_layerAt 9 = .ok (.if_icmp .ge 34, 3) := by decide +kernel
theorem dX1_layerAt_12 : decode cX1_layerAt 12 = .ok (.iload_n 3, 1) := by decide +kernel
theorem dX1_layerAt_13 : decode cX1_layerAt 13 = .ok (.aload_n 0, 1) := by decide +kernel
theorem dX1_layerAt_14 : decode cX1_layerAt 14 = .ok (.getfield 9, 3) := by decide +kernel
theorem dX1_layerAt_17 : decode cX1_layerAt 17 = .ok (.arraylength, 1) := by decide +kernel
theorem dX1_layerAt_18 : decode cX1_layerAt 18 = .ok (.if_icmp .ge 25, 3) := by decide +kernel
theorem dX1_layerAt_21 : decode cX1_layerAt 21 = .ok (.iload_n 2, 1) := by decide +kernel
theorem dX1_layerAt_22 : decode cX1_layerAt 22 = .ok (.aload_n 0, 1) := by decide +kernel
theorem dX1_layerAt_23 : decode cX1_layerAt 23 = .ok (.getfield 9, 3) := by decide +kernel
theorem dX1_layerAt_26 : decode cX1_layerAt 26 = .ok (.iload_n 3, 1) := by decide +kernel
theorem dX1_layerAt_27 : decode cX1_layerAt 27 = .ok (.iaload, 1) := by decide +kernel
theorem dX1_layerAt_28 : decode cX1_layerAt 28 = .ok (.iadd, 1) := by decide +kernel
theorem dX1_layerAt_29 : decode cX1_layerAt 29 = .ok (.istore_n 2, 1) := by decide +kernel
theorem dX1_layerAt_30 : decode cX1_layerAt 30 = .ok (.iload_n 1, 1) := by decide +kernel
theorem dX1_layerAt_31 : decode cX1_layerAt 31 = .ok (.iload_n 2, 1) := by decide +kernel
theorem dX1_layerAt_32 : decode cX1_layerAt 32 = .ok (.if_icmp .ge 5, 3) := by decide +kernel
theorem dX1_layerAt_35 : decode cX1_layerAt 35 = .ok (.iload_n 3, 1) := by decide +kernel
theorem dX1_layerAt_36 : decode cX1_layerAt 36 = .ok (.ireturn, 1) := by decide +kernel
theorem dX1_layerAt_37 : decode cX1_layerAt 37 = .ok (.iinc 3 1, 3) := by decide +kernel
theorem dX1_layerAt_40 : decode cX1_layerAt 40 = .ok (.goto (-36), 3) := by decide +kernel
theorem dX1_layerAt_43 : decode cX1_layerAt 43 = .ok (.aload_n 0, 1) := by decide +kernel
theorem dX1_layerAt_44 : decode cX1_layerAt 44 = .ok (.getfield 22, 3) := by decide +kernel
theorem dX1_layerAt_47 : decode cX1_layerAt 47 = .ok (.ireturn, 1) := by decide +kernel
theorem dX1_resistanceAt_0 : decode cX1_resistanceAt 0 = .ok (.aload_n 0, 1) := by decide +kernel
theorem dX1_resistanceAt_1 : decode cX1_resistanceAt 1 = .ok (.aload_n 0, 1) := by decide +kernel
theorem dX1_resistanceAt_2 : decode cX1_resistanceAt 2 = .ok (.iload_n 1, 1) := by decide +kernel
theorem dX1_resistanceAt_3 : decode cX1_resistanceAt 3 = .ok (.invokevirtual 32, 3) := by decide +kernel
theorem dX1_resistanceAt_6 : decode cX1_resistanceAt 6 = .ok (.invokevirtual 36, 3) := by decide +kernel
theorem dX1_resistanceAt_9 : decode cX1_resistanceAt 9 = .ok (.ireturn, 1) := by decide +kernel
theorem dX1_copyFrom_0 : decode cX1_copyFrom 0 = .ok (.aload_n 1, 1) := by decide +kernel
theorem dX1_copyFrom_1 : decode cX1_copyFrom 1 = .ok (.getfield 9, 3) := by decide +kernel
theorem dX1_copyFrom_4 : decode cX1_copyFrom 4 = .ok (.iconst 0, 1) := by decide +kernel
theorem dX1_copyFrom_5 : decode cX1_copyFrom 5 = .ok (.aload_n 0, 1) := by decide +kernel
theorem dX1_copyFrom_6 : decode cX1_copyFrom 6 = .ok (.getfield 9, 3) := by decide +kernel
theorem dX1_copyFrom_9 : decode cX1_copyFrom 9 = .ok (.iconst 0, 1) := by decide +kernel
theorem dX1_copyFrom_10 : decode cX1_copyFrom 10 = .ok (.bipush 6, 2) := by decide +kernel
theorem dX1_copyFrom_12 : decode cX1_copyFrom 12 = .ok (.invokestatic 39, 3) := by decide +kernel
theorem dX1_copyFrom_15 : decode cX1_copyFrom 15 = .ok (.aload_n 1, 1) := by decide +kernel
theorem dX1_copyFrom_16 : decode cX1_copyFrom 16 = .ok (.getfield 15, 3) := by decide +kernel
theorem dX1_copyFrom_19 : decode cX1_copyFrom 19 = .ok (.iconst 0, 1) := by decide +kernel
theorem dX1_copyFrom_20 : decode cX1_copyFrom 20 = .ok (.aload_n 0, 1) := by decide +kernel
theorem dX1_copyFrom_21 : decode cX1_copyFrom 21 = .ok (.getfield 15, 3) := by decide +kernel
theorem dX1_copyFrom_24 : decode cX1_copyFrom 24 = .ok (.iconst 0, 1) := by decide +kernel
theorem dX1_copyFrom_25 : decode cX1_copyFrom 25 = .ok (.bipush 6, 2) := by decide +kernel
theorem dX1_copyFrom_27 : decode cX1_copyFrom 27 = .ok (.invokestatic 39, 3) := by decide +kernel
theorem dX1_copyFrom_30 : decode cX1_copyFrom 30 = .ok (.aload_n 0, 1) := by decide +kernel
theorem dX1_copyFrom_31 : decode cX1_copyFrom 31 = .ok (.aload_n 1, 1) := by decide +kernel
theorem dX1_copyFrom_32 : decode cX1_copyFrom 32 = .ok (.getfield 22, 3) := by decide +kernel
theorem dX1_copyFrom_35 : decode cX1_copyFrom 35 = .ok (.putfield 22, 3) := by decide +kernel
theorem dX1_copyFrom_38 : decode cX1_copyFrom 38 = .ok (.return_, 1) := by decide +kernel
theorem dX2_init_0 : decode cX2_init 0 = .ok (.aload_n 0, 1) := by decide +kernel
theorem dX2_init_1 : decode cX2_init 1 = .ok (.invokespecial 3, 3) := by decide +kernel
theorem dX2_init_4 : decode cX2_init 4 = .ok (.aload_n 0, 1) := by decide +kernel
theorem dX2_init_5 : decode cX2_init 5 = .ok (.iconst 4, 1) := by decide +kernel
theorem dX2_init_6 : decode cX2_init 6 = .ok (.anewarray 9, 3) := by decide +kernel
theorem dX2_init_9 : decode cX2_init 9 = .ok (.putfield 11, 3) := by decide +kernel
theorem dX2_init_12 : decode cX2_init 12 = .ok (.iconst 0, 1) := by decide +kernel
theorem dX2_init_13 : decode cX2_init 13 = .ok (.istore_n 1, 1) := by decide +kernel
theorem dX2_init_14 : decode cX2_init 14 = .ok (.iload_n 1, 1) := by decide +kernel
theorem dX2_init_15 : decode cX2_init 15 = .ok (.aload_n 0, 1) := by decide +kernel
theorem dX2_init_16 : decode cX2_init 16 = .ok (.getfield 11, 3) := by decide +kernel
theorem dX2_init_19 : decode cX2_init 19 = .ok (.arraylength, 1) := by decide +kernel
theorem dX2_init_20 : decode cX2_init 20 = .ok (.if_icmp .ge 22, 3) := by decide +kernel
theorem dX2_init_23 : decode cX2_init 23 = .ok (.aload_n 0, 1) := by decide +kernel
theorem dX2_init_24 : decode cX2_init 24 = .ok (.getfield 11, 3) := by decide +kernel
theorem dX2_init_27 : decode cX2_init 27 = .ok (.iload_n 1, 1) := by decide +kernel
theorem dX2_init_28 : decode cX2_init 28 = .ok (.new 9, 3) := by decide +kernel
theorem dX2_init_31 : decode cX2_init 31 = .ok (.dup, 1) := by decide +kernel
theorem dX2_init_32 : decode cX2_init 32 = .ok (.invokespecial 17, 3) := by decide +kernel
theorem dX2_init_35 : decode cX2_init 35 = .ok (.aastore, 1) := by decide +kernel
theorem dX2_init_36 : decode cX2_init 36 = .ok (.iinc 1 1, 3) := by decide +kernel
theorem dX2_init_39 : decode cX2_init 39 = .ok (.goto (-25), 3) := by decide +kernel
theorem dX2_init_42 : decode cX2_init 42 = .ok (.return_, 1) := by decide +kernel
theorem dX2_remember_0 : decode cX2_remember 0 = .ok (.aload_n 0, 1) := by decide +kernel
theorem dX2_remember_1 : decode cX2_remember 1 = .ok (.aload_n 0, 1) := by decide +kernel
theorem dX2_remember_2 : decode cX2_remember 2 = .ok (.getfield 18, 3) := by decide +kernel
theorem dX2_remember_5 : decode cX2_remember 5 = .ok (.invokevirtual 22, 3) := by decide +kernel
theorem dX2_remember_8 : decode cX2_remember 8 = .ok (.astore_n 2, 1) := by decide +kernel
theorem dX2_remember_9 : decode cX2_remember 9 = .ok (.aload_n 2, 1) := by decide +kernel
theorem dX2_remember_10 : decode cX2_remember 10 = .ok (.ifnull 34, 3) := by decide +kernel
theorem dX2_remember_13 : decode cX2_remember 13 = .ok (.aload_n 2, 1) := by decide +kernel
theorem dX2_remember_14 : decode cX2_remember 14 = .ok (.aload_n 1, 1) := by decide +kernel
theorem dX2_remember_15 : decode cX2_remember 15 = .ok (.invokevirtual 26, 3) := by decide +kernel
theorem dX2_remember_18 : decode cX2_remember 18 = .ok (.aload_n 0, 1) := by decide +kernel
theorem dX2_remember_19 : decode cX2_remember 19 = .ok (.aload_n 0, 1) := by decide +kernel
theorem dX2_remember_20 : decode cX2_remember 20 = .ok (.getfield 18, 3) := by decide +kernel
theorem dX2_remember_23 : decode cX2_remember 23 = .ok (.iconst 1, 1) := by decide +kernel
theorem dX2_remember_24 : decode cX2_remember 24 = .ok (.iadd, 1) := by decide +kernel
theorem dX2_remember_25 : decode cX2_remember 25 = .ok (.iconst 4, 1) := by decide +kernel
theorem dX2_remember_26 : decode cX2_remember 26 = .ok (.irem, 1) := by decide +kernel
theorem dX2_remember_27 : decode cX2_remember 27 = .ok (.putfield 18, 3) := by decide +kernel
theorem dX2_remember_30 : decode cX2_remember 30 = .ok (.aload_n 0, 1) := by decide +kernel
theorem dX2_remember_31 : decode cX2_remember 31 = .ok (.iconst 4, 1) := by decide +kernel
theorem dX2_remember_32 : decode cX2_remember 32 = .ok (.aload_n 0, 1) := by decide +kernel
theorem dX2_remember_33 : decode cX2_remember 33 = .ok (.getfield 30, 3) := by decide +kernel
theorem dX2_remember_36 : decode cX2_remember 36 = .ok (.iconst 1, 1) := by decide +kernel
theorem dX2_remember_37 : decode cX2_remember 37 = .ok (.iadd, 1) := by decide +kernel
theorem dX2_remember_38 : decode cX2_remember 38 = .ok (.invokestatic 33, 3) := by decide +kernel
theorem dX2_remember_41 : decode cX2_remember 41 = .ok (.putfield 30, 3) := by decide +kernel
theorem dX2_remember_44 : decode cX2_remember 44 = .ok (.return_, 1) := by decide +kernel
theorem dX2_restore_0 : decode cX2_restore 0 = .ok (.aload_n 0, 1) := by decide +kernel
theorem dX2_restore_1 : decode cX2_restore 1 = .ok (.getfield 18, 3) := by decide +kernel
theorem dX2_restore_4 : decode cX2_restore 4 = .ok (.iconst 4, 1) := by decide +kernel
theorem dX2_restore_5 : decode cX2_restore 5 = .ok (.iadd, 1) := by decide +kernel
theorem dX2_restore_6 : decode cX2_restore 6 = .ok (.iconst 1, 1) := by decide +kernel
theorem dX2_restore_7 : decode cX2_restore 7 = .ok (.isub, 1) := by decide +kernel
theorem dX2_restore_8 : decode cX2_restore 8 = .ok (.iconst 4, 1) := by decide +kernel
theorem dX2_restore_9 : decode cX2_restore 9 = .ok (.irem, 1) := by decide +kernel
theorem dX2_restore_10 : decode cX2_restore 10 = .ok (.istore_n 2, 1) := by decide +kernel
theorem dX2_restore_11 : decode cX2_restore 11 = .ok (.aload_n 0, 1) := by decide +kernel
theorem dX2_restore_12 : decode cX2_restore 12 = .ok (.iload_n 2, 1) := by decide +kernel
theorem dX2_restore_13 : decode cX2_restore 13 = .ok (.invokevirtual 22, 3) := by decide +kernel
theorem dX2_restore_16 : decode cX2_restore 16 = .ok (.astore_n 3, 1) := by decide +kernel
theorem dX2_restore_17 : decode cX2_restore 17 = .ok (.aload_n 3, 1) := by decide +kernel
theorem dX2_restore_18 : decode cX2_restore 18 = .ok (.ifnull 30, 3) := by decide +kernel
theorem dX2_restore_21 : decode cX2_restore 21 = .ok (.aload_n 0, 1) := by decide +kernel
theorem dX2_restore_22 : decode cX2_restore 22 = .ok (.getfield 30, 3) := by decide +kernel
theorem dX2_restore_25 : decode cX2_restore 25 = .ok (.ifCond .le 23, 3) := by decide +kernel
theorem dX2_restore_28 : decode cX2_restore 28 = .ok (.aload_n 1, 1) := by decide +kernel
theorem dX2_restore_29 : decode cX2_restore 29 = .ok (.aload_n 3, 1) := by decide +kernel
theorem dX2_restore_30 : decode cX2_restore 30 = .ok (.invokevirtual 26, 3) := by decide +kernel
theorem dX2_restore_33 : decode cX2_restore 33 = .ok (.aload_n 0, 1) := by decide +kernel
theorem dX2_restore_34 : decode cX2_restore 34 = .ok (.iload_n 2, 1) := by decide +kernel
theorem dX2_restore_35 : decode cX2_restore 35 = .ok (.putfield 18, 3) := by decide +kernel
theorem dX2_restore_38 : decode cX2_restore 38 = .ok (.aload_n 0, 1) := by decide +kernel
theorem dX2_restore_39 : decode cX2_restore 39 = .ok (.dup, 1) := by decide +kernel
theorem dX2_restore_40 : decode cX2_restore 40 = .ok (.getfield 30, 3) := by decide +kernel
theorem dX2_restore_43 : decode cX2_restore 43 = .ok (.iconst 1, 1) := by decide +kernel
theorem dX2_restore_44 : decode cX2_restore 44 = .ok (.isub, 1) := by decide +kernel
theorem dX2_restore_45 : decode cX2_restore 45 = .ok (.putfield 30, 3) := by decide +kernel
theorem dX2_restore_48 : decode cX2_restore 48 = .ok (.return_, 1) := by decide +kernel
theorem dX2_roomAt_0 : decode cX2_roomAt 0 = .ok (.iload_n 1, 1) := by decide +kernel
theorem dX2_roomAt_1 : decode cX2_roomAt 1 = .ok (.ifCond .lt 21, 3) := by decide +kernel
theorem dX2_roomAt_4 : decode cX2_roomAt 4 = .ok (.iload_n 1, 1) := by decide +kernel
theorem dX2_roomAt_5 : decode cX2_roomAt 5 = .ok (.aload_n 0, 1) := by decide +kernel
theorem dX2_roomAt_6 : decode cX2_roomAt 6 = .ok (.getfield 11, 3) := by decide +kernel
theorem dX2_roomAt_9 : decode cX2_roomAt 9 = .ok (.arraylength, 1) := by decide +kernel
theorem dX2_roomAt_10 : decode cX2_roomAt 10 = .ok (.if_icmp .ge 12, 3) := by decide +kernel
theorem dX2_roomAt_13 : decode cX2_roomAt 13 = .ok (.aload_n 0, 1) := by decide +kernel
theorem dX2_roomAt_14 : decode cX2_roomAt 14 = .ok (.getfield 11, 3) := by decide +kernel
theorem dX2_roomAt_17 : decode cX2_roomAt 17 = .ok (.iload_n 1, 1) := by decide +kernel
theorem dX2_roomAt_18 : decode cX2_roomAt 18 = .ok (.aaload, 1) := by decide +kernel
theorem dX2_roomAt_19 : decode cX2_roomAt 19 = .ok (.goto 4, 3) := by decide +kernel
theorem dX2_roomAt_22 : decode cX2_roomAt 22 = .ok (.aconst_null, 1) := by decide +kernel
theorem dX2_roomAt_23 : decode cX2_roomAt 23 = .ok (.areturn, 1) := by decide +kernel
theorem dX3_init_0 : decode cX3_init 0 = .ok (.aload_n 0, 1) := by decide +kernel
theorem dX3_init_1 : decode cX3_init 1 = .ok (.invokespecial 3, 3) := by decide +kernel
theorem dX3_init_4 : decode cX3_init 4 = .ok (.aload_n 0, 1) := by decide +kernel
theorem dX3_init_5 : decode cX3_init 5 = .ok (.bipush 10, 2) := by decide +kernel
theorem dX3_init_7 : decode cX3_init 7 = .ok (.newarray .int, 2) := by decide +kernel
theorem dX3_init_9 : decode cX3_init 9 = .ok (.putfield 9, 3) := by decide +kernel
theorem dX3_init_12 : decode cX3_init 12 = .ok (.aload_n 0, 1) := by decide +kernel
theorem dX3_init_13 : decode cX3_init 13 = .ok (.bipush 10, 2) := by decide +kernel
theorem dX3_init_15 : decode cX3_init 15 = .ok (.newarray .int, 2) := by decide +kernel
theorem dX3_init_17 : decode cX3_init 17 = .ok (.putfield 15, 3) := by decide +kernel
theorem dX3_init_20 : decode cX3_init 20 = .ok (.aload_n 0, 1) := by decide +kernel
theorem dX3_init_21 : decode cX3_init 21 = .ok (.iconst 5, 1) := by decide +kernel
theorem dX3_init_22 : decode cX3_init 22 = .ok (.newarray .int, 2) := by decide +kernel
theorem dX3_init_24 : decode cX3_init 24 = .ok (.putfield 18, 3) := by decide +kernel
theorem dX3_init_27 : decode cX3_init 27 = .ok (.aload_n 0, 1) := by decide +kernel
theorem dX3_init_28 : decode cX3_init 28 = .ok (.iconst 5, 1) := by decide +kernel
theorem dX3_init_29 : decode cX3_init 29 = .ok (.newarray .int, 2) := by decide +kernel
theorem dX3_init_31 : decode cX3_init 31 = .ok (.putfield 21, 3) := by decide +kernel
theorem dX3_init_34 : decode cX3_init 34 = .ok (.return_, 1) := by decide +kernel
theorem dX3_search_0 : decode cX3_search 0 = .ok (.aload_n 0, 1) := by decide +kernel
theorem dX3_search_1 : decode cX3_search 1 = .ok (.aload_n 1, 1) := by decide +kernel
theorem dX3_search_2 : decode cX3_search 2 = .ok (.invokevirtual 24, 3) := by decide +kernel
theorem dX3_search_5 : decode cX3_search 5 = .ok (.aload_n 1, 1) := by decide +kernel
theorem dX3_search_6 : decode cX3_search 6 = .ok (.iload_n 2, 1) := by decide +kernel
theorem dX3_search_7 : decode cX3_search 7 = .ok (.invokevirtual 28, 3) := by decide +kernel
theorem dX3_search_10 : decode cX3_search 10 = .ok (.istore 4, 2) := by decide +kernel
theorem dX3_search_12 : decode cX3_search 12 = .ok (.aload_n 0, 1) := by decide +kernel
theorem dX3_search_13 : decode cX3_search 13 = .ok (.ldc 36, 2) := by decide +kernel
theorem dX3_search_15 : decode cX3_search 15 = .ok (.putfield 37, 3) := by decide +kernel
theorem dX3_search_18 : decode cX3_search 18 = .ok (.iconst 1, 1) := by decide +kernel
theorem dX3_search_19 : decode cX3_search 19 = .ok (.istore 5, 2) := by decide +kernel
theorem dX3_search_21 : decode cX3_search 21 = .ok (.iconst 0, 1) := by decide +kernel
theorem dX3_search_22 : decode cX3_search 22 = .ok (.istore 6, 2) := by decide +kernel
theorem dX3_search_24 : decode cX3_search 24 = .ok (.iload 6, 2) := by decide +kernel
theorem dX3_search_26 : decode cX3_search 26 = .ok (.bipush 120, 2) := by decide +kernel
theorem dX3_search_28 : decode cX3_search 28 = .ok (.if_icmp .ge 74, 3) := by decide +kernel
theorem dX3_search_31 : decode cX3_search 31 = .ok (.iload 5, 2) := by decide +kernel
theorem dX3_search_33 : decode cX3_search 33 = .ok (.ifCond .eq 69, 3) := by decide +kernel
theorem dX3_search_36 : decode cX3_search 36 = .ok (.aload_n 0, 1) := by decide +kernel
theorem dX3_search_37 : decode cX3_search 37 = .ok (.aload_n 1, 1) := by decide +kernel
theorem dX3_search_38 : decode cX3_search 38 = .ok (.iload 4, 2) := by decide +kernel
theorem dX3_search_40 : decode cX3_search 40 = .ok (.iload_n 3, 1) := by decide +kernel
theorem dX3_search_41 : decode cX3_search 41 = .ok (.invokevirtual 41, 3) := by decide +kernel
theorem dX3_search_44 : decode cX3_search 44 = .ok (.istore 7, 2) := by decide +kernel
theorem dX3_search_46 : decode cX3_search 46 = .ok (.iload 7, 2) := by decide +kernel
theorem dX3_search_48 : decode cX3_search 48 = .ok (.aload_n 0, 1) := by decide +kernel
theorem dX3_search_49 : decode cX3_search 49 = .ok (.getfield 37, 3) := by decide +kernel
theorem dX3_search_52 : decode cX3_search 52 = .ok (.if_icmp .ge 23, 3) := by decide +kernel
theorem dX3_search_55 : decode cX3_search 55 = .ok (.aload_n 0, 1) := by decide +kernel
theorem dX3_search_56 : decode cX3_search 56 = .ok (.iload 7, 2) := by decide +kernel
theorem dX3_search_58 : decode cX3_search 58 = .ok (.putfield 37, 3) := by decide +kernel
theorem dX3_search_61 : decode cX3_search 61 = .ok (.aload_n 0, 1) := by decide +kernel
theorem dX3_search_62 : decode cX3_search 62 = .ok (.getfield 18, 3) := by decide +kernel
theorem dX3_search_65 : decode cX3_search 65 = .ok (.iconst 0, 1) := by decide +kernel
theorem dX3_search_66 : decode cX3_search 66 = .ok (.aload_n 0, 1) := by decide +kernel
theorem dX3_search_67 : decode cX3_search 67 = .ok (.getfield 21, 3) := by decide +kernel
theorem dX3_search_70 : decode cX3_search 70 = .ok (.iconst 0, 1) := by decide +kernel
theorem dX3_search_71 : decode cX3_search 71 = .ok (.iconst 5, 1) := by decide +kernel
theorem dX3_search_72 : decode cX3_search 72 = .ok (.invokestatic 45, 3) := by decide +kernel
theorem dX3_search_75 : decode cX3_search 75 = .ok (.aload_n 0, 1) := by decide +kernel
theorem dX3_search_76 : decode cX3_search 76 = .ok (.getfield 37, 3) := by decide +kernel
theorem dX3_search_79 : decode cX3_search 79 = .ok (.ifCond .le 14, 3) := by decide +kernel
theorem dX3_search_82 : decode cX3_search 82 = .ok (.aload_n 0, 1) := by decide +kernel
theorem dX3_search_83 : decode cX3_search 83 = .ok (.invokevirtual 51, 3) := by decide +kernel
theorem dX3_search_86 : decode cX3_search 86 = .ok (.ifCond .eq 7, 3) := by decide +kernel
theorem dX3_search_89 : decode cX3_search 89 = .ok (.iconst 1, 1) := by decide +kernel
theorem dX3_search_90 : decode cX3_search 90 = .ok (.goto 4, 3) := by decide +kernel
theorem dX3_search_93 : decode cX3_search 93 = .ok (.iconst 0, 1) := by decide +kernel
theorem dX3_search_94 : decode cX3_search 94 = .ok (.istore 5, 2) := by decide +kernel
theorem dX3_search_96 : decode cX3_search 96 = .ok (.iinc 6 1, 3) := by decide +kernel
theorem dX3_search_99 : decode cX3_search 99 = .ok (.goto (-75), 3) := by decide +kernel
theorem dX3_search_102 : decode cX3_search 102 = .ok (.return_, 1) := by decide +kernel
theorem dX3_bestAt_0 : decode cX3_bestAt 0 = .ok (.iload_n 1, 1) := by decide +kernel
theorem dX3_bestAt_1 : decode cX3_bestAt 1 = .ok (.ifCond .lt 29, 3) := by decide +kernel
theorem dX3_bestAt_4 : decode cX3_bestAt 4 = .ok (.iload_n 1, 1) := by decide +kernel
theorem dX3_bestAt_5 : decode cX3_bestAt 5 = .ok (.aload_n 0, 1) := by decide +kernel
theorem dX3_bestAt_6 : decode cX3_bestAt 6 = .ok (.getfield 55, 3) := by decide +kernel
theorem dX3_bestAt_9 : decode cX3_bestAt 9 = .ok (.if_icmp .ge 21, 3) := by decide +kernel
theorem dX3_bestAt_12 : decode cX3_bestAt 12 = .ok (.iload_n 1, 1) := by decide +kernel
theorem dX3_bestAt_13 : decode cX3_bestAt 13 = .ok (.aload_n 0, 1) := by decide +kernel
theorem dX3_bestAt_14 : decode cX3_bestAt 14 = .ok (.getfield 21, 3) := by decide +kernel
theorem dX3_bestAt_17 : decode cX3_bestAt 17 = .ok (.arraylength, 1) := by decide +kernel
theorem dX3_bestAt_18 : decode cX3_bestAt 18 = .ok (.if_icmp .ge 12, 3) := by decide +kernel
theorem dX3_bestAt_21 : decode cX3_bestAt 21 = .ok (.aload_n 0, 1) := by decide +kernel
theorem dX3_bestAt_22 : decode cX3_bestAt 22 = .ok (.getfield 21, 3) := by decide +kernel
theorem dX3_bestAt_25 : decode cX3_bestAt 25 = .ok (.iload_n 1, 1) := by decide +kernel
theorem dX3_bestAt_26 : decode cX3_bestAt 26 = .ok (.iaload, 1) := by decide +kernel
theorem dX3_bestAt_27 : decode cX3_bestAt 27 = .ok (.goto 5, 3) := by decide +kernel
theorem dX3_bestAt_30 : decode cX3_bestAt 30 = .ok (.bipush (-4), 2) := by decide +kernel
theorem dX3_bestAt_32 : decode cX3_bestAt 32 = .ok (.ireturn, 1) := by decide +kernel
theorem dX3_collect_0 : decode cX3_collect 0 = .ok (.aload_n 0, 1) := by decide +kernel
theorem dX3_collect_1 : decode cX3_collect 1 = .ok (.iconst 0, 1) := by decide +kernel
theorem dX3_collect_2 : decode cX3_collect 2 = .ok (.putfield 55, 3) := by decide +kernel
theorem dX3_collect_5 : decode cX3_collect 5 = .ok (.iconst 0, 1) := by decide +kernel
theorem dX3_collect_6 : decode cX3_collect 6 = .ok (.istore_n 2, 1) := by decide +kernel
theorem dX3_collect_7 : decode cX3_collect 7 = .ok (.iload_n 2, 1) := by decide +kernel
theorem dX3_collect_8 : decode cX3_collect 8 = .ok (.aload_n 1, 1) := by decide +kernel
theorem dX3_collect_9 : decode cX3_collect 9 = .ok (.getfield 58, 3) := by decide +kernel
theorem dX3_collect_12 : decode cX3_collect 12 = .ok (.if_icmp .ge 58, 3) := by decide +kernel
theorem dX3_collect_15 : decode cX3_collect 15 = .ok (.aload_n 1, 1) := by decide +kernel
theorem dX3_collect_16 : decode cX3_collect 16 = .ok (.iload_n 2, 1) := by decide +kernel
theorem dX3_collect_17 : decode cX3_collect 17 = .ok (.invokevirtual 61, 3) := by decide +kernel
theorem dX3_collect_20 : decode cX3_collect 20 = .ok (.astore_n 3, 1) := by decide +kernel
theorem dX3_collect_21 : decode cX3_collect 21 = .ok (.aload_n 3, 1) := by decide +kernel
theorem dX3_collect_22 : decode cX3_collect 22 = .ok (.ifnull 42, 3) := by decide +kernel
theorem dX3_collect_25 : decode cX3_collect 25 = .ok (.aload_n 3, 1) := by decide +kernel
theorem dX3_collect_26 : decode cX3_collect 26 = .ok (.getfield 65, 3) := by decide +kernel
theorem dX3_collect_29 : decode cX3_collect 29 = .ok (.ifCond .ne 35, 3) := by decide +kernel
theorem dX3_collect_32 : decode cX3_collect 32 = .ok (.aload_n 0, 1) := by decide +kernel
theorem dX3_collect_33 : decode cX3_collect 33 = .ok (.getfield 55, 3) := by decide +kernel
theorem dX3_collect_36 : decode cX3_collect 36 = .ok (.aload_n 0, 1) := by decide +kernel
theorem dX3_collect_37 : decode cX3_collect 37 = .ok (.getfield 18, 3) := by decide +kernel
theorem dX3_collect_40 : decode cX3_collect 40 = .ok (.arraylength, 1) := by decide +kernel
theorem dX3_collect_41 : decode cX3_collect 41 = .ok (.if_icmp .ge 23, 3) := by decide +kernel
theorem dX3_collect_44 : decode cX3_collect 44 = .ok (.aload_n 0, 1) := by decide +kernel
theorem dX3_collect_45 : decode cX3_collect 45 = .ok (.getfield 18, 3) := by decide +kernel
theorem dX3_collect_48 : decode cX3_collect 48 = .ok (.aload_n 0, 1) := by decide +kernel
theorem dX3_collect_49 : decode cX3_collect 49 = .ok (.getfield 55, 3) := by decide +kernel
theorem dX3_collect_52 : decode cX3_collect 52 = .ok (.iload_n 2, 1) := by decide +kernel
theorem dX3_collect_53 : decode cX3_collect 53 = .ok (.iastore, 1) := by decide +kernel
theorem dX3_collect_54 : decode cX3_collect 54 = .ok (.aload_n 0, 1) := by decide +kernel
theorem dX3_collect_55 : decode cX3_collect 55 = .ok (.dup, 1) := by decide +kernel
theorem dX3_collect_56 : decode cX3_collect 56 = .ok (.getfield 55, 3) := by decide +kernel
theorem dX3_collect_59 : decode cX3_collect 59 = .ok (.iconst 1, 1) := by decide +kernel
theorem dX3_collect_60 : decode cX3_collect 60 = .ok (.iadd, 1) := by decide +kernel
theorem dX3_collect_61 : decode cX3_collect 61 = .ok (.putfield 55, 3) := by decide +kernel
theorem dX3_collect_64 : decode cX3_collect 64 = .ok (.iinc 2 1, 3) := by decide +kernel
theorem dX3_collect_67 : decode cX3_collect 67 = .ok (.goto (-60), 3) := by decide +kernel
theorem dX3_collect_70 : decode cX3_collect 70 = .ok (.return_, 1) := by decide +kernel
theorem dX3_liftsOfTried_0 : decode cX3_liftsOfTried 0 = .ok (.iconst 0, 1) := by decide +kernel
theorem dX3_liftsOfTried_1 : decode cX3_liftsOfTried 1 = .ok (.istore 4, 2) := by decide +kernel
theorem dX3_liftsOfTried_3 : decode cX3_liftsOfTried 3 = .ok (.iload 4, 2) := by decide +kernel
theorem dX3_liftsOfTried_5 : decode cX3_liftsOfTried 5 = .ok (.aload_n 1, 1) := by decide +kernel
theorem dX3_liftsOfTried_6 : decode cX3_liftsOfTried 6 = .ok (.getfield 58, 3) := by decide +kernel
theorem dX3_liftsOfTried_9 : decode cX3_liftsOfTried 9 = .ok (.if_icmp .ge 48, 3) := by decide +kernel
theorem dX3_liftsOfTried_12 : decode cX3_liftsOfTried 12 = .ok (.iload 4, 2) := by decide +kernel
theorem dX3_liftsOfTried_14 : decode cX3_liftsOfTried 14 = .ok (.aload_n 0, 1) := by decide +kernel
theorem dX3_liftsOfTried_15 : decode cX3_liftsOfTried 15 = .ok (.getfield 9, 3) := by decide +kernel
theorem dX3_liftsOfTried_18 : decode cX3_liftsOfTried 18 = .ok (.arraylength, 1) := by decide +kernel
theorem dX3_liftsOfTried_19 : decode cX3_liftsOfTried 19 = .ok (.if_icmp .ge 38, 3) := by decide +kernel
theorem dX3_liftsOfTried_22 : decode cX3_liftsOfTried 22 = .ok (.aload_n 1, 1) := by decide +kernel
theorem dX3_liftsOfTried_23 : decode cX3_liftsOfTried 23 = .ok (.iload 4, 2) := by decide +kernel
theorem dX3_liftsOfTried_25 : decode cX3_liftsOfTried 25 = .ok (.invokevirtual 61, 3) := by decide +kernel
theorem dX3_liftsOfTried_28 : decode cX3_liftsOfTried 28 = .ok (.astore 5, 2) := by decide +kernel
theorem dX3_liftsOfTried_30 : decode cX3_liftsOfTried 30 = .ok (.aload_n 0, 1) := by decide +kernel
theorem dX3_liftsOfTried_31 : decode cX3_liftsOfTried 31 = .ok (.getfield 9, 3) := by decide +kernel
theorem dX3_liftsOfTried_34 : decode cX3_liftsOfTried 34 = .ok (.iload 4, 2) := by decide +kernel
theorem dX3_liftsOfTried_36 : decode cX3_liftsOfTried 36 = .ok (.aload 5, 2) := by decide +kernel
theorem dX3_liftsOfTried_38 : decode cX3_liftsOfTried 38 = .ok (.ifnonnull 7, 3) := by decide +kernel
theorem dX3_liftsOfTried_41 : decode cX3_liftsOfTried 41 = .ok (.iconst 0, 1) := by decide +kernel
theorem dX3_liftsOfTried_42 : decode cX3_liftsOfTried 42 = .ok (.goto 8, 3) := by decide +kernel
theorem dX3_liftsOfTried_45 : decode cX3_liftsOfTried 45 = .ok (.aload 5, 2) := by decide +kernel
theorem dX3_liftsOfTried_47 : decode cX3_liftsOfTried 47 = .ok (.getfield 70, 3) := by decide +kernel
theorem dX3_liftsOfTried_50 : decode cX3_liftsOfTried 50 = .ok (.iastore, 1) := by decide +kernel
theorem dX3_liftsOfTried_51 : decode cX3_liftsOfTried 51 = .ok (.iinc 4 1, 3) := by decide +kernel
theorem dX3_liftsOfTried_54 : decode cX3_liftsOfTried 54 = .ok (.goto (-51), 3) := by decide +kernel
theorem dX3_liftsOfTried_57 : decode cX3_liftsOfTried 57 = .ok (.iconst 0, 1) := by decide +kernel
theorem dX3_liftsOfTried_58 : decode cX3_liftsOfTried 58 = .ok (.istore 4, 2) := by decide +kernel
theorem dX3_liftsOfTried_60 : decode cX3_liftsOfTried 60 = .ok (.iconst 0, 1) := by decide +kernel
theorem dX3_liftsOfTried_61 : decode cX3_liftsOfTried 61 = .ok (.istore 5, 2) := by decide +kernel
theorem dX3_liftsOfTried_63 : decode cX3_liftsOfTried 63 = .ok (.iload 5, 2) := by decide +kernel
theorem dX3_liftsOfTried_65 : decode cX3_liftsOfTried 65 = .ok (.aload_n 0, 1) := by decide +kernel
theorem dX3_liftsOfTried_66 : decode cX3_liftsOfTried 66 = .ok (.getfield 55, 3) := by decide +kernel
theorem dX3_liftsOfTried_69 : decode cX3_liftsOfTried 69 = .ok (.if_icmp .ge 36, 3) := by decide +kernel
theorem dX3_liftsOfTried_72 : decode cX3_liftsOfTried 72 = .ok (.iload 4, 2) := by decide +kernel
theorem dX3_liftsOfTried_74 : decode cX3_liftsOfTried 74 = .ok (.aload_n 0, 1) := by decide +kernel
theorem dX3_liftsOfTried_75 : decode cX3_liftsOfTried 75 = .ok (.getfield 37, 3) := by decide +kernel
theorem dX3_liftsOfTried_78 : decode cX3_liftsOfTried 78 = .ok (.if_icmp .ge 27, 3) := by decide +kernel
theorem dX3_liftsOfTried_81 : decode cX3_liftsOfTried 81 = .ok (.iload 4, 2) := by decide +kernel
theorem dX3_liftsOfTried_83 : decode cX3_liftsOfTried 83 = .ok (.aload_n 0, 1) := by decide +kernel
theorem dX3_liftsOfTried_84 : decode cX3_liftsOfTried 84 = .ok (.aload_n 1, 1) := by decide +kernel
theorem dX3_liftsOfTried_85 : decode cX3_liftsOfTried 85 = .ok (.aload_n 0, 1) := by decide +kernel
theorem dX3_liftsOfTried_86 : decode cX3_liftsOfTried 86 = .ok (.iload 5, 2) := by decide +kernel
theorem dX3_liftsOfTried_88 : decode cX3_liftsOfTried 88 = .ok (.invokevirtual 73, 3) := by decide +kernel
theorem dX3_liftsOfTried_91 : decode cX3_liftsOfTried 91 = .ok (.iload_n 2, 1) := by decide +kernel
theorem dX3_liftsOfTried_92 : decode cX3_liftsOfTried 92 = .ok (.iload_n 3, 1) := by decide +kernel
theorem dX3_liftsOfTried_93 : decode cX3_liftsOfTried 93 = .ok (.invokevirtual 76, 3) := by decide +kernel
theorem dX3_liftsOfTried_96 : decode cX3_liftsOfTried 96 = .ok (.iadd, 1) := by decide +kernel
theorem dX3_liftsOfTried_97 : decode cX3_liftsOfTried 97 = .ok (.istore 4, 2) := by decide +kernel
theorem dX3_liftsOfTried_99 : decode cX3_liftsOfTried 99 = .ok (.iinc 5 1, 3) := by decide +kernel
theorem dX3_liftsOfTried_102 : decode cX3_liftsOfTried 102 = .ok (.goto (-39), 3) := by decide +kernel
theorem dX3_liftsOfTried_105 : decode cX3_liftsOfTried 105 = .ok (.iload 4, 2) := by decide +kernel
theorem dX3_liftsOfTried_107 : decode cX3_liftsOfTried 107 = .ok (.ireturn, 1) := by decide +kernel
theorem dX3_liftsOfPile_0 : decode cX3_liftsOfPile 0 = .ok (.aload_n 1, 1) := by decide +kernel
theorem dX3_liftsOfPile_1 : decode cX3_liftsOfPile 1 = .ok (.iload_n 2, 1) := by decide +kernel
theorem dX3_liftsOfPile_2 : decode cX3_liftsOfPile 2 = .ok (.invokevirtual 61, 3) := by decide +kernel
theorem dX3_liftsOfPile_5 : decode cX3_liftsOfPile 5 = .ok (.astore 5, 2) := by decide +kernel
theorem dX3_liftsOfPile_7 : decode cX3_liftsOfPile 7 = .ok (.aload 5, 2) := by decide +kernel
theorem dX3_liftsOfPile_9 : decode cX3_liftsOfPile 9 = .ok (.ifnull 16, 3) := by decide +kernel
theorem dX3_liftsOfPile_12 : decode cX3_liftsOfPile 12 = .ok (.iload_n 2, 1) := by decide +kernel
theorem dX3_liftsOfPile_13 : decode cX3_liftsOfPile 13 = .ok (.ifCond .lt 12, 3) := by decide +kernel
theorem dX3_liftsOfPile_16 : decode cX3_liftsOfPile 16 = .ok (.iload_n 2, 1) := by decide +kernel
theorem dX3_liftsOfPile_17 : decode cX3_liftsOfPile 17 = .ok (.aload_n 0, 1) := by decide +kernel
theorem dX3_liftsOfPile_18 : decode cX3_liftsOfPile 18 = .ok (.getfield 9, 3) := by decide +kernel
theorem dX3_liftsOfPile_21 : decode cX3_liftsOfPile 21 = .ok (.arraylength, 1) := by decide +kernel
theorem dX3_liftsOfPile_22 : decode cX3_liftsOfPile 22 = .ok (.if_icmp .lt 5, 3) := by decide +kernel
theorem dX3_liftsOfPile_25 : decode cX3_liftsOfPile 25 = .ok (.iconst 0, 1) := by decide +kernel
theorem dX3_liftsOfPile_26 : decode cX3_liftsOfPile 26 = .ok (.ireturn, 1) := by decide +kernel
theorem dX3_liftsOfPile_27 : decode cX3_liftsOfPile 27 = .ok (.aload_n 0, 1) := by decide +kernel
theorem dX3_liftsOfPile_28 : decode cX3_liftsOfPile 28 = .ok (.aload_n 1, 1) := by decide +kernel
theorem dX3_liftsOfPile_29 : decode cX3_liftsOfPile 29 = .ok (.aload 5, 2) := by decide +kernel
theorem dX3_liftsOfPile_31 : decode cX3_liftsOfPile 31 = .ok (.invokevirtual 80, 3) := by decide +kernel
theorem dX3_liftsOfPile_34 : decode cX3_liftsOfPile 34 = .ok (.iconst 0, 1) := by decide +kernel
theorem dX3_liftsOfPile_35 : decode cX3_liftsOfPile 35 = .ok (.istore 6, 2) := by decide +kernel
theorem dX3_liftsOfPile_37 : decode cX3_liftsOfPile 37 = .ok (.iconst 0, 1) := by decide +kernel
theorem dX3_liftsOfPile_38 : decode cX3_liftsOfPile 38 = .ok (.istore 7, 2) := by decide +kernel
theorem dX3_liftsOfPile_40 : decode cX3_liftsOfPile 40 = .ok (.iload 7, 2) := by decide +kernel
theorem dX3_liftsOfPile_42 : decode cX3_liftsOfPile 42 = .ok (.iload 4, 2) := by decide +kernel
theorem dX3_liftsOfPile_44 : decode cX3_liftsOfPile 44 = .ok (.if_icmp .ge 73, 3) := by decide +kernel
theorem dX3_liftsOfPile_47 : decode cX3_liftsOfPile 47 = .ok (.aload_n 0, 1) := by decide +kernel
theorem dX3_liftsOfPile_48 : decode cX3_liftsOfPile 48 = .ok (.getfield 9, 3) := by decide +kernel
theorem dX3_liftsOfPile_51 : decode cX3_liftsOfPile 51 = .ok (.iload_n 2, 1) := by decide +kernel
theorem dX3_liftsOfPile_52 : decode cX3_liftsOfPile 52 = .ok (.iaload, 1) := by decide +kernel
theorem dX3_liftsOfPile_53 : decode cX3_liftsOfPile 53 = .ok (.aload 5, 2) := by decide +kernel
theorem dX3_liftsOfPile_55 : decode cX3_liftsOfPile 55 = .ok (.getfield 84, 3) := by decide +kernel
theorem dX3_liftsOfPile_58 : decode cX3_liftsOfPile 58 = .ok (.if_icmp .ge 59, 3) := by decide +kernel
theorem dX3_liftsOfPile_61 : decode cX3_liftsOfPile 61 = .ok (.aload_n 1, 1) := by decide +kernel
theorem dX3_liftsOfPile_62 : decode cX3_liftsOfPile 62 = .ok (.iload_n 3, 1) := by decide +kernel
theorem dX3_liftsOfPile_63 : decode cX3_liftsOfPile 63 = .ok (.aload_n 0, 1) := by decide +kernel
theorem dX3_liftsOfPile_64 : decode cX3_liftsOfPile 64 = .ok (.getfield 9, 3) := by decide +kernel
theorem dX3_liftsOfPile_67 : decode cX3_liftsOfPile 67 = .ok (.iload_n 2, 1) := by decide +kernel
theorem dX3_liftsOfPile_68 : decode cX3_liftsOfPile 68 = .ok (.iaload, 1) := by decide +kernel
theorem dX3_liftsOfPile_69 : decode cX3_liftsOfPile 69 = .ok (.aload 5, 2) := by decide +kernel
theorem dX3_liftsOfPile_71 : decode cX3_liftsOfPile 71 = .ok (.getfield 84, 3) := by decide +kernel
theorem dX3_liftsOfPile_74 : decode cX3_liftsOfPile 74 = .ok (.invokevirtual 87, 3) := by decide +kernel
theorem dX3_liftsOfPile_77 : decode cX3_liftsOfPile 77 = .ok (.istore 8, 2) := by decide +kernel
theorem dX3_liftsOfPile_79 : decode cX3_liftsOfPile 79 = .ok (.aload_n 0, 1) := by decide +kernel
theorem dX3_liftsOfPile_80 : decode cX3_liftsOfPile 80 = .ok (.getfield 9, 3) := by decide +kernel
theorem dX3_liftsOfPile_83 : decode cX3_liftsOfPile 83 = .ok (.iload_n 2, 1) := by decide +kernel
theorem dX3_liftsOfPile_84 : decode cX3_liftsOfPile 84 = .ok (.dup2, 1) := by decide +kernel
theorem dX3_liftsOfPile_85 : decode cX3_liftsOfPile 85 = .ok (.iaload, 1) := by decide +kernel
theorem dX3_liftsOfPile_86 : decode cX3_liftsOfPile 86 = .ok (.iload 8, 2) := by decide +kernel
theorem dX3_liftsOfPile_88 : decode cX3_liftsOfPile 88 = .ok (.iadd, 1) := by decide +kernel
theorem dX3_liftsOfPile_89 : decode cX3_liftsOfPile 89 = .ok (.iastore, 1) := by decide +kernel
theorem dX3_liftsOfPile_90 : decode cX3_liftsOfPile 90 = .ok (.iload 6, 2) := by decide +kernel
theorem dX3_liftsOfPile_92 : decode cX3_liftsOfPile 92 = .ok (.aload_n 0, 1) := by decide +kernel
theorem dX3_liftsOfPile_93 : decode cX3_liftsOfPile 93 = .ok (.aload_n 0, 1) := by decide +kernel
theorem dX3_liftsOfPile_94 : decode cX3_liftsOfPile 94 = .ok (.getfield 9, 3) := by decide +kernel
theorem dX3_liftsOfPile_97 : decode cX3_liftsOfPile 97 = .ok (.iload_n 2, 1) := by decide +kernel
theorem dX3_liftsOfPile_98 : decode cX3_liftsOfPile 98 = .ok (.iaload, 1) := by decide +kernel
theorem dX3_liftsOfPile_99 : decode cX3_liftsOfPile 99 = .ok (.aload_n 1, 1) := by decide +kernel
theorem dX3_liftsOfPile_100 : decode cX3_liftsOfPile 100 = .ok (.iload 8, 2) := by decide +kernel
theorem dX3_liftsOfPile_102 : decode cX3_liftsOfPile 102 = .ok (.invokevirtual 91, 3) := by decide +kernel
theorem dX3_liftsOfPile_105 : decode cX3_liftsOfPile 105 = .ok (.invokevirtual 94, 3) := by decide +kernel
theorem dX3_liftsOfPile_108 : decode cX3_liftsOfPile 108 = .ok (.iadd, 1) := by decide +kernel
theorem dX3_liftsOfPile_109 : decode cX3_liftsOfPile 109 = .ok (.istore 6, 2) := by decide +kernel
theorem dX3_liftsOfPile_111 : decode cX3_liftsOfPile 111 = .ok (.iinc 7 1, 3) := by decide +kernel
theorem dX3_liftsOfPile_114 : decode cX3_liftsOfPile 114 = .ok (.goto (-74), 3) := by decide +kernel
theorem dX3_liftsOfPile_117 : decode cX3_liftsOfPile 117 = .ok (.iload 6, 2) := by decide +kernel
theorem dX3_liftsOfPile_119 : decode cX3_liftsOfPile 119 = .ok (.ireturn, 1) := by decide +kernel
theorem dX3_findNear_0 : decode cX3_findNear 0 = .ok (.aload_n 0, 1) := by decide +kernel
theorem dX3_findNear_1 : decode cX3_findNear 1 = .ok (.iconst 0, 1) := by decide +kernel
theorem dX3_findNear_2 : decode cX3_findNear 2 = .ok (.putfield 98, 3) := by decide +kernel
theorem dX3_findNear_5 : decode cX3_findNear 5 = .ok (.iconst 0, 1) := by decide +kernel
theorem dX3_findNear_6 : decode cX3_findNear 6 = .ok (.istore_n 3, 1) := by decide +kernel
theorem dX3_findNear_7 : decode cX3_findNear 7 = .ok (.iload_n 3, 1) := by decide +kernel
theorem dX3_findNear_8 : decode cX3_findNear 8 = .ok (.aload_n 1, 1) := by decide +kernel
theorem dX3_findNear_9 : decode cX3_findNear 9 = .ok (.getfield 58, 3) := by decide +kernel
theorem dX3_findNear_12 : decode cX3_findNear 12 = .ok (.if_icmp .ge 63, 3) := by decide +kernel
theorem dX3_findNear_15 : decode cX3_findNear 15 = .ok (.aload_n 0, 1) := by decide +kernel
theorem dX3_findNear_16 : decode cX3_findNear 16 = .ok (.getfield 98, 3) := by decide +kernel
theorem dX3_findNear_19 : decode cX3_findNear 19 = .ok (.aload_n 0, 1) := by decide +kernel
theorem dX3_findNear_20 : decode cX3_findNear 20 = .ok (.getfield 15, 3) := by decide +kernel
theorem dX3_findNear_23 : decode cX3_findNear 23 = .ok (.arraylength, 1) := by decide +kernel
theorem dX3_findNear_24 : decode cX3_findNear 24 = .ok (.if_icmp .ge 51, 3) := by decide +kernel
theorem dX3_findNear_27 : decode cX3_findNear 27 = .ok (.aload_n 1, 1) := by decide +kernel
theorem dX3_findNear_28 : decode cX3_findNear 28 = .ok (.iload_n 3, 1) := by decide +kernel
theorem dX3_findNear_29 : decode cX3_findNear 29 = .ok (.invokevirtual 61, 3) := by decide +kernel
theorem dX3_findNear_32 : decode cX3_findNear 32 = .ok (.astore 4, 2) := by decide +kernel
theorem dX3_findNear_34 : decode cX3_findNear 34 = .ok (.aload 4, 2) := by decide +kernel
theorem dX3_findNear_36 : decode cX3_findNear 36 = .ok (.ifnull 33, 3) := by decide +kernel
theorem dX3_findNear_39 : decode cX3_findNear 39 = .ok (.aload_n 1, 1) := by decide +kernel
theorem dX3_findNear_40 : decode cX3_findNear 40 = .ok (.aload_n 2, 1) := by decide +kernel
theorem dX3_findNear_41 : decode cX3_findNear 41 = .ok (.aload 4, 2) := by decide +kernel
theorem dX3_findNear_43 : decode cX3_findNear 43 = .ok (.invokevirtual 101, 3) := by decide +kernel
theorem dX3_findNear_46 : decode cX3_findNear 46 = .ok (.ifCond .eq 23, 3) := by decide +kernel
theorem dX3_findNear_49 : decode cX3_findNear 49 = .ok (.aload_n 0, 1) := by decide +kernel
theorem dX3_findNear_50 : decode cX3_findNear 50 = .ok (.getfield 15, 3) := by decide +kernel
theorem dX3_findNear_53 : decode cX3_findNear 53 = .ok (.aload_n 0, 1) := by decide +kernel
theorem dX3_findNear_54 : decode cX3_findNear 54 = .ok (.getfield 98, 3) := by decide +kernel
theorem dX3_findNear_57 : decode cX3_findNear 57 = .ok (.iload_n 3, 1) := by decide +kernel
theorem dX3_findNear_58 : decode cX3_findNear 58 = .ok (.iastore, 1) := by decide +kernel
theorem dX3_findNear_59 : decode cX3_findNear 59 = .ok (.aload_n 0, 1) := by decide +kernel
theorem dX3_findNear_60 : decode cX3_findNear 60 = .ok (.dup, 1) := by decide +kernel
theorem dX3_findNear_61 : decode cX3_findNear 61 = .ok (.getfield 98, 3) := by decide +kernel
theorem dX3_findNear_64 : decode cX3_findNear 64 = .ok (.iconst 1, 1) := by decide +kernel
theorem dX3_findNear_65 : decode cX3_findNear 65 = .ok (.iadd, 1) := by decide +kernel
theorem dX3_findNear_66 : decode cX3_findNear 66 = .ok (.putfield 98, 3) := by decide +kernel
theorem dX3_findNear_69 : decode cX3_findNear 69 = .ok (.iinc 3 1, 3) := by decide +kernel
theorem dX3_findNear_72 : decode cX3_findNear 72 = .ok (.goto (-65), 3) := by decide +kernel
theorem dX3_findNear_75 : decode cX3_findNear 75 = .ok (.return_, 1) := by decide +kernel
theorem dX3_liftNear_0 : decode cX3_liftNear 0 = .ok (.iconst 0, 1) := by decide +kernel
theorem dX3_liftNear_1 : decode cX3_liftNear 1 = .ok (.istore_n 3, 1) := by decide +kernel
theorem dX3_liftNear_2 : decode cX3_liftNear 2 = .ok (.iconst 0, 1) := by decide +kernel
theorem dX3_liftNear_3 : decode cX3_liftNear 3 = .ok (.istore 4, 2) := by decide +kernel
theorem dX3_liftNear_5 : decode cX3_liftNear 5 = .ok (.iload 4, 2) := by decide +kernel
theorem dX3_liftNear_7 : decode cX3_liftNear 7 = .ok (.aload_n 0, 1) := by decide +kernel
theorem dX3_liftNear_8 : decode cX3_liftNear 8 = .ok (.getfield 98, 3) := by decide +kernel
theorem dX3_liftNear_11 : decode cX3_liftNear 11 = .ok (.if_icmp .ge 78, 3) := by decide +kernel
theorem dX3_liftNear_14 : decode cX3_liftNear 14 = .ok (.iload 4, 2) := by decide +kernel
theorem dX3_liftNear_16 : decode cX3_liftNear 16 = .ok (.aload_n 0, 1) := by decide +kernel
theorem dX3_liftNear_17 : decode cX3_liftNear 17 = .ok (.getfield 15, 3) := by decide +kernel
theorem dX3_liftNear_20 : decode cX3_liftNear 20 = .ok (.arraylength, 1) := by decide +kernel
theorem dX3_liftNear_21 : decode cX3_liftNear 21 = .ok (.if_icmp .ge 68, 3) := by decide +kernel
theorem dX3_liftNear_24 : decode cX3_liftNear 24 = .ok (.iload_n 2, 1) := by decide +kernel
theorem dX3_liftNear_25 : decode cX3_liftNear 25 = .ok (.ifCond .le 64, 3) := by decide +kernel
theorem dX3_liftNear_28 : decode cX3_liftNear 28 = .ok (.aload_n 0, 1) := by decide +kernel
theorem dX3_liftNear_29 : decode cX3_liftNear 29 = .ok (.getfield 15, 3) := by decide +kernel
theorem dX3_liftNear_32 : decode cX3_liftNear 32 = .ok (.iload 4, 2) := by decide +kernel
theorem dX3_liftNear_34 : decode cX3_liftNear 34 = .ok (.iaload, 1) := by decide +kernel
theorem dX3_liftNear_35 : decode cX3_liftNear 35 = .ok (.istore 5, 2) := by decide +kernel
theorem dX3_liftNear_37 : decode cX3_liftNear 37 = .ok (.iload 5, 2) := by decide +kernel
theorem dX3_liftNear_39 : decode cX3_liftNear 39 = .ok (.ifCond .lt 44, 3) := by decide +kernel
theorem dX3_liftNear_42 : decode cX3_liftNear 42 = .ok (.iload 5, 2) := by decide +kernel
theorem dX3_liftNear_44 : decode cX3_liftNear 44 = .ok (.aload_n 0, 1) := by decide +kernel
theorem dX3_liftNear_45 : decode cX3_liftNear 45 = .ok (.getfield 9, 3) := by decide +kernel
theorem dX3_liftNear_48 : decode cX3_liftNear 48 = .ok (.arraylength, 1) := by decide +kernel
theorem dX3_liftNear_49 : decode cX3_liftNear 49 = .ok (.if_icmp .ge 34, 3) := by decide +kernel
theorem dX3_liftNear_52 : decode cX3_liftNear 52 = .ok (.aload_n 0, 1) := by decide +kernel
theorem dX3_liftNear_53 : decode cX3_liftNear 53 = .ok (.getfield 9, 3) := by decide +kernel
theorem dX3_liftNear_56 : decode cX3_liftNear 56 = .ok (.iload 5, 2) := by decide +kernel
theorem dX3_liftNear_58 : decode cX3_liftNear 58 = .ok (.iaload, 1) := by decide +kernel
theorem dX3_liftNear_59 : decode cX3_liftNear 59 = .ok (.iload_n 1, 1) := by decide +kernel
theorem dX3_liftNear_60 : decode cX3_liftNear 60 = .ok (.iload_n 2, 1) := by decide +kernel
theorem dX3_liftNear_61 : decode cX3_liftNear 61 = .ok (.invokestatic 105, 3) := by decide +kernel
theorem dX3_liftNear_64 : decode cX3_liftNear 64 = .ok (.istore 6, 2) := by decide +kernel
theorem dX3_liftNear_66 : decode cX3_liftNear 66 = .ok (.aload_n 0, 1) := by decide +kernel
theorem dX3_liftNear_67 : decode cX3_liftNear 67 = .ok (.getfield 9, 3) := by decide +kernel
theorem dX3_liftNear_70 : decode cX3_liftNear 70 = .ok (.iload 5, 2) := by decide +kernel
theorem dX3_liftNear_72 : decode cX3_liftNear 72 = .ok (.dup2, 1) := by decide +kernel
theorem dX3_liftNear_73 : decode cX3_liftNear 73 = .ok (.iaload, 1) := by decide +kernel
theorem dX3_liftNear_74 : decode cX3_liftNear 74 = .ok (.iload 6, 2) := by decide +kernel
theorem dX3_liftNear_76 : decode cX3_liftNear 76 = .ok (.isub, 1) := by decide +kernel
theorem dX3_liftNear_77 : decode cX3_liftNear 77 = .ok (.iastore, 1) := by decide +kernel
theorem dX3_liftNear_78 : decode cX3_liftNear 78 = .ok (.iload_n 3, 1) := by decide +kernel
theorem dX3_liftNear_79 : decode cX3_liftNear 79 = .ok (.iload 6, 2) := by decide +kernel
theorem dX3_liftNear_81 : decode cX3_liftNear 81 = .ok (.iadd, 1) := by decide +kernel
theorem dX3_liftNear_82 : decode cX3_liftNear 82 = .ok (.istore_n 3, 1) := by decide +kernel
theorem dX3_liftNear_83 : decode cX3_liftNear 83 = .ok (.iinc 4 1, 3) := by decide +kernel
theorem dX3_liftNear_86 : decode cX3_liftNear 86 = .ok (.goto (-81), 3) := by decide +kernel
theorem dX3_liftNear_89 : decode cX3_liftNear 89 = .ok (.iload_n 3, 1) := by decide +kernel
theorem dX3_liftNear_90 : decode cX3_liftNear 90 = .ok (.ireturn, 1) := by decide +kernel
theorem dX3_nextOrder_0 : decode cX3_nextOrder 0 = .ok (.aload_n 0, 1) := by decide +kernel
theorem dX3_nextOrder_1 : decode cX3_nextOrder 1 = .ok (.getfield 55, 3) := by decide +kernel
theorem dX3_nextOrder_4 : decode cX3_nextOrder 4 = .ok (.iconst 2, 1) := by decide +kernel
theorem dX3_nextOrder_5 : decode cX3_nextOrder 5 = .ok (.isub, 1) := by decide +kernel
theorem dX3_nextOrder_6 : decode cX3_nextOrder 6 = .ok (.istore_n 1, 1) := by decide +kernel
theorem dX3_nextOrder_7 : decode cX3_nextOrder 7 = .ok (.iload_n 1, 1) := by decide +kernel
theorem dX3_nextOrder_8 : decode cX3_nextOrder 8 = .ok (.ifCond .lt 24, 3) := by decide +kernel
theorem dX3_nextOrder_11 : decode cX3_nextOrder 11 = .ok (.aload_n 0, 1) := by decide +kernel
theorem dX3_nextOrder_12 : decode cX3_nextOrder 12 = .ok (.iload_n 1, 1) := by decide +kernel
theorem dX3_nextOrder_13 : decode cX3_nextOrder 13 = .ok (.invokevirtual 73, 3) := by decide +kernel
theorem dX3_nextOrder_16 : decode cX3_nextOrder 16 = .ok (.aload_n 0, 1) := by decide +kernel
theorem dX3_nextOrder_17 : decode cX3_nextOrder 17 = .ok (.iload_n 1, 1) := by decide +kernel
theorem dX3_nextOrder_18 : decode cX3_nextOrder 18 = .ok (.iconst 1, 1) := by decide +kernel
theorem dX3_nextOrder_19 : decode cX3_nextOrder 19 = .ok (.iadd, 1) := by decide +kernel
theorem dX3_nextOrder_20 : decode cX3_nextOrder 20 = .ok (.invokevirtual 73, 3) := by decide +kernel
theorem dX3_nextOrder_23 : decode cX3_nextOrder 23 = .ok (.if_icmp .le 9, 3) := by decide +kernel
theorem dX3_nextOrder_26 : decode cX3_nextOrder 26 = .ok (.iinc 1 (-1), 3) := by decide +kernel
theorem dX3_nextOrder_29 : decode cX3_nextOrder 29 = .ok (.goto (-22), 3) := by decide +kernel
theorem dX3_nextOrder_32 : decode cX3_nextOrder 32 = .ok (.iload_n 1, 1) := by decide +kernel
theorem dX3_nextOrder_33 : decode cX3_nextOrder 33 = .ok (.ifCond .ge 5, 3) := by decide +kernel
theorem dX3_nextOrder_36 : decode cX3_nextOrder 36 = .ok (.iconst 0, 1) := by decide +kernel
theorem dX3_nextOrder_37 : decode cX3_nextOrder 37 = .ok (.ireturn, 1) := by decide +kernel
theorem dX3_nextOrder_38 : decode cX3_nextOrder 38 = .ok (.aload_n 0, 1) := by decide +kernel
theorem dX3_nextOrder_39 : decode cX3_nextOrder 39 = .ok (.getfield 55, 3) := by decide +kernel
theorem dX3_nextOrder_42 : decode cX3_nextOrder 42 = .ok (.iconst 1, 1) := by decide +kernel
theorem dX3_nextOrder_43 : decode cX3_nextOrder 43 = .ok (.isub, 1) := by decide +kernel
theorem dX3_nextOrder_44 : decode cX3_nextOrder 44 = .ok (.istore_n 2, 1) := by decide +kernel
theorem dX3_nextOrder_45 : decode cX3_nextOrder 45 = .ok (.iload_n 2, 1) := by decide +kernel
theorem dX3_nextOrder_46 : decode cX3_nextOrder 46 = .ok (.iload_n 1, 1) := by decide +kernel
theorem dX3_nextOrder_47 : decode cX3_nextOrder 47 = .ok (.if_icmp .le 22, 3) := by decide +kernel
theorem dX3_nextOrder_50 : decode cX3_nextOrder 50 = .ok (.aload_n 0, 1) := by decide +kernel
theorem dX3_nextOrder_51 : decode cX3_nextOrder 51 = .ok (.iload_n 2, 1) := by decide +kernel
theorem dX3_nextOrder_52 : decode cX3_nextOrder 52 = .ok (.invokevirtual 73, 3) := by decide +kernel
theorem dX3_nextOrder_55 : decode cX3_nextOrder 55 = .ok (.aload_n 0, 1) := by decide +kernel
theorem dX3_nextOrder_56 : decode cX3_nextOrder 56 = .ok (.iload_n 1, 1) := by decide +kernel
theorem dX3_nextOrder_57 : decode cX3_nextOrder 57 = .ok (.invokevirtual 73, 3) := by decide +kernel
theorem dX3_nextOrder_60 : decode cX3_nextOrder 60 = .ok (.if_icmp .ge 9, 3) := by decide +kernel
theorem dX3_nextOrder_63 : decode cX3_nextOrder 63 = .ok (.iinc 2 (-1), 3) := by decide +kernel
theorem dX3_nextOrder_66 : decode cX3_nextOrder 66 = .ok (.goto (-21), 3) := by decide +kernel
theorem dX3_nextOrder_69 : decode cX3_nextOrder 69 = .ok (.aload_n 0, 1) := by decide +kernel
theorem dX3_nextOrder_70 : decode cX3_nextOrder 70 = .ok (.iload_n 1, 1) := by decide +kernel
theorem dX3_nextOrder_71 : decode cX3_nextOrder 71 = .ok (.iload_n 2, 1) := by decide +kernel
theorem dX3_nextOrder_72 : decode cX3_nextOrder 72 = .ok (.invokevirtual 108, 3) := by decide +kernel
theorem dX3_nextOrder_75 : decode cX3_nextOrder 75 = .ok (.iload_n 1, 1) := by decide +kernel
theorem dX3_nextOrder_76 : decode cX3_nextOrder 76 = .ok (.iconst 1, 1) := by decide +kernel
theorem dX3_nextOrder_77 : decode cX3_nextOrder 77 = .ok (.iadd, 1) := by decide +kernel
theorem dX3_nextOrder_78 : decode cX3_nextOrder 78 = .ok (.istore_n 3, 1) := by decide +kernel
theorem dX3_nextOrder_79 : decode cX3_nextOrder 79 = .ok (.aload_n 0, 1) := by decide +kernel
theorem dX3_nextOrder_80 : decode cX3_nextOrder 80 = .ok (.getfield 55, 3) := by decide +kernel
theorem dX3_nextOrder_83 : decode cX3_nextOrder 83 = .ok (.iconst 1, 1) := by decide +kernel
theorem dX3_nextOrder_84 : decode cX3_nextOrder 84 = .ok (.isub, 1) := by decide +kernel
theorem dX3_nextOrder_85 : decode cX3_nextOrder 85 = .ok (.istore 4, 2) := by decide +kernel
theorem dX3_nextOrder_87 : decode cX3_nextOrder 87 = .ok (.iload_n 3, 1) := by decide +kernel
theorem dX3_nextOrder_88 : decode cX3_nextOrder 88 = .ok (.iload 4, 2) := by decide +kernel
theorem dX3_nextOrder_90 : decode cX3_nextOrder 90 = .ok (.if_icmp .ge 19, 3) := by decide +kernel
theorem dX3_nextOrder_93 : decode cX3_nextOrder 93 = .ok (.aload_n 0, 1) := by decide +kernel
theorem dX3_nextOrder_94 : decode cX3_nextOrder 94 = .ok (.iload_n 3, 1) := by decide +kernel
theorem dX3_nextOrder_95 : decode cX3_nextOrder 95 = .ok (.iload 4, 2) := by decide +kernel
theorem dX3_nextOrder_97 : decode cX3_nextOrder 97 = .ok (.invokevirtual 108, 3) := by decide +kernel
theorem dX3_nextOrder_100 : decode cX3_nextOrder 100 = .ok (.iinc 3 1, 3) := by decide +kernel
theorem dX3_nextOrder_103 : decode cX3_nextOrder 103 = .ok (.iinc 4 (-1), 3) := by decide +kernel
theorem dX3_nextOrder_106 : decode cX3_nextOrder 106 = .ok (.goto (-19), 3) := by decide +kernel
theorem dX3_nextOrder_109 : decode cX3_nextOrder 109 = .ok (.iconst 1, 1) := by decide +kernel
theorem dX3_nextOrder_110 : decode cX3_nextOrder 110 = .ok (.ireturn, 1) := by decide +kernel
theorem dX3_triedAt_0 : decode cX3_triedAt 0 = .ok (.iload_n 1, 1) := by decide +kernel
theorem dX3_triedAt_1 : decode cX3_triedAt 1 = .ok (.ifCond .lt 29, 3) := by decide +kernel
theorem dX3_triedAt_4 : decode cX3_triedAt 4 = .ok (.iload_n 1, 1) := by decide +kernel
theorem dX3_triedAt_5 : decode cX3_triedAt 5 = .ok (.aload_n 0, 1) := by decide +kernel
theorem dX3_triedAt_6 : decode cX3_triedAt 6 = .ok (.getfield 55, 3) := by decide +kernel
theorem dX3_triedAt_9 : decode cX3_triedAt 9 = .ok (.if_icmp .ge 21, 3) := by decide +kernel
theorem dX3_triedAt_12 : decode cX3_triedAt 12 = .ok (.iload_n 1, 1) := by decide +kernel
theorem dX3_triedAt_13 : decode cX3_triedAt 13 = .ok (.aload_n 0, 1) := by decide +kernel
theorem dX3_triedAt_14 : decode cX3_triedAt 14 = .ok (.getfield 18, 3) := by decide +kernel
theorem dX3_triedAt_17 : decode cX3_triedAt 17 = .ok (.arraylength, 1) := by decide +kernel
theorem dX3_triedAt_18 : decode cX3_triedAt 18 = .ok (.if_icmp .ge 12, 3) := by decide +kernel
theorem dX3_triedAt_21 : decode cX3_triedAt 21 = .ok (.aload_n 0, 1) := by decide +kernel
theorem dX3_triedAt_22 : decode cX3_triedAt 22 = .ok (.getfield 18, 3) := by decide +kernel
theorem dX3_triedAt_25 : decode cX3_triedAt 25 = .ok (.iload_n 1, 1) := by decide +kernel
theorem dX3_triedAt_26 : decode cX3_triedAt 26 = .ok (.iaload, 1) := by decide +kernel
theorem dX3_triedAt_27 : decode cX3_triedAt 27 = .ok (.goto 4, 3) := by decide +kernel
theorem dX3_triedAt_30 : decode cX3_triedAt 30 = .ok (.iconst (-1), 1) := by decide +kernel
theorem dX3_triedAt_31 : decode cX3_triedAt 31 = .ok (.ireturn, 1) := by decide +kernel
theorem dX3_swap_0 : decode cX3_swap 0 = .ok (.iload_n 1, 1) := by decide +kernel
theorem dX3_swap_1 : decode cX3_swap 1 = .ok (.ifCond .lt 51, 3) := by decide +kernel
theorem dX3_swap_4 : decode cX3_swap 4 = .ok (.iload_n 1, 1) := by decide +kernel
theorem dX3_swap_5 : decode cX3_swap 5 = .ok (.aload_n 0, 1) := by decide +kernel
theorem dX3_swap_6 : decode cX3_swap 6 = .ok (.getfield 18, 3) := by decide +kernel
theorem dX3_swap_9 : decode cX3_swap 9 = .ok (.arraylength, 1) := by decide +kernel
theorem dX3_swap_10 : decode cX3_swap 10 = .ok (.if_icmp .ge 42, 3) := by decide +kernel
theorem dX3_swap_13 : decode cX3_swap 13 = .ok (.iload_n 2, 1) := by decide +kernel
theorem dX3_swap_14 : decode cX3_swap 14 = .ok (.ifCond .lt 38, 3) := by decide +kernel
theorem dX3_swap_17 : decode cX3_swap 17 = .ok (.iload_n 2, 1) := by decide +kernel
theorem dX3_swap_18 : decode cX3_swap 18 = .ok (.aload_n 0, 1) := by decide +kernel
theorem dX3_swap_19 : decode cX3_swap 19 = .ok (.getfield 18, 3) := by decide +kernel
theorem dX3_swap_22 : decode cX3_swap 22 = .ok (.arraylength, 1) := by decide +kernel
theorem dX3_swap_23 : decode cX3_swap 23 = .ok (.if_icmp .ge 29, 3) := by decide +kernel
theorem dX3_swap_26 : decode cX3_swap 26 = .ok (.aload_n 0, 1) := by decide +kernel
theorem dX3_swap_27 : decode cX3_swap 27 = .ok (.getfield 18, 3) := by decide +kernel
theorem dX3_swap_30 : decode cX3_swap 30 = .ok (.iload_n 1, 1) := by decide +kernel
theorem dX3_swap_31 : decode cX3_swap 31 = .ok (.iaload, 1) := by decide +kernel
theorem dX3_swap_32 : decode cX3_swap 32 = .ok (.istore_n 3, 1) := by decide +kernel
theorem dX3_swap_33 : decode cX3_swap 33 = .ok (.aload_n 0, 1) := by decide +kernel
theorem dX3_swap_34 : decode cX3_swap 34 = .ok (.getfield 18, 3) := by decide +kernel
theorem dX3_swap_37 : decode cX3_swap 37 = .ok (.iload_n 1, 1) := by decide +kernel
theorem dX3_swap_38 : decode cX3_swap 38 = .ok (.aload_n 0, 1) := by decide +kernel
theorem dX3_swap_39 : decode cX3_swap 39 = .ok (.getfield 18, 3) := by decide +kernel
theorem dX3_swap_42 : decode cX3_swap 42 = .ok (.iload_n 2, 1) := by decide +kernel
theorem dX3_swap_43 : decode cX3_swap 43 = .ok (.iaload, 1) := by decide +kernel
theorem dX3_swap_44 : decode cX3_swap 44 = .ok (.iastore, 1) := by decide +kernel
theorem dX3_swap_45 : decode cX3_swap 45 = .ok (.aload_n 0, 1) := by decide +kernel
theorem dX3_swap_46 : decode cX3_swap 46 = .ok (.getfield 18, 3) := by decide +kernel
theorem dX3_swap_49 : decode cX3_swap 49 = .ok (.iload_n 2, 1) := by decide +kernel
theorem dX3_swap_50 : decode cX3_swap 50 = .ok (.iload_n 3, 1) := by decide +kernel
theorem dX3_swap_51 : decode cX3_swap 51 = .ok (.iastore, 1) := by decide +kernel
theorem dX3_swap_52 : decode cX3_swap 52 = .ok (.return_, 1) := by decide +kernel
end
section
theorem dX4_init_0 : decode cX4_init 0 = .ok (.aload_n 0, 1) := by decide +kernel
theorem dX4_init_1 : decode cX4_init 1 = .ok (.invokespecial 3, 3) := by decide +kernel
theorem dX4_init_4 : decode cX4_init 4 = .ok (.aload_n 0, 1) := by decide +kernel
theorem dX4_init_5 : decode cX4_init 5 = .ok (.bipush 40, 2) := by decide +kernel
theorem dX4_init_7 : decode cX4_init 7 = .ok (.newarray .int, 2) := by decide +kernel
theorem dX4_init_9 : decode cX4_init 9 = .ok (.putfield 9, 3) := by decide +kernel
theorem dX4_init_12 : decode cX4_init 12 = .ok (.aload_n 0, 1) := by decide +kernel
theorem dX4_init_13 : decode cX4_init 13 = .ok (.bipush 40, 2) := by decide +kernel
theorem dX4_init_15 : decode cX4_init 15 = .ok (.newarray .int, 2) := by decide +kernel
theorem dX4_init_17 : decode cX4_init 17 = .ok (.putfield 15, 3) := by decide +kernel
theorem dX4_init_20 : decode cX4_init 20 = .ok (.return_, 1) := by decide +kernel
theorem dX4_startAt_0 : decode cX4_startAt 0 = .ok (.aload_n 0, 1) := by decide +kernel
theorem dX4_startAt_1 : decode cX4_startAt 1 = .ok (.iload_n 1, 1) := by decide +kernel
theorem dX4_startAt_2 : decode cX4_startAt 2 = .ok (.putfield 18, 3) := by decide +kernel
theorem dX4_startAt_5 : decode cX4_startAt 5 = .ok (.aload_n 0, 1) := by decide +kernel
theorem dX4_startAt_6 : decode cX4_startAt 6 = .ok (.iload_n 2, 1) := by decide +kernel
theorem dX4_startAt_7 : decode cX4_startAt 7 = .ok (.putfield 22, 3) := by decide +kernel
theorem dX4_startAt_10 : decode cX4_startAt 10 = .ok (.aload_n 0, 1) := by decide +kernel
theorem dX4_startAt_11 : decode cX4_startAt 11 = .ok (.iload_n 3, 1) := by decide +kernel
theorem dX4_startAt_12 : decode cX4_startAt 12 = .ok (.putfield 25, 3) := by decide +kernel
theorem dX4_startAt_15 : decode cX4_startAt 15 = .ok (.aload_n 0, 1) := by decide +kernel
theorem dX4_startAt_16 : decode cX4_startAt 16 = .ok (.iconst 0, 1) := by decide +kernel
theorem dX4_startAt_17 : decode cX4_startAt 17 = .ok (.putfield 28, 3) := by decide +kernel
theorem dX4_startAt_20 : decode cX4_startAt 20 = .ok (.aload_n 0, 1) := by decide +kernel
theorem dX4_startAt_21 : decode cX4_startAt 21 = .ok (.iconst 0, 1) := by decide +kernel
theorem dX4_startAt_22 : decode cX4_startAt 22 = .ok (.putfield 31, 3) := by decide +kernel
theorem dX4_startAt_25 : decode cX4_startAt 25 = .ok (.aload_n 0, 1) := by decide +kernel
theorem dX4_startAt_26 : decode cX4_startAt 26 = .ok (.iconst 0, 1) := by decide +kernel
theorem dX4_startAt_27 : decode cX4_startAt 27 = .ok (.putfield 34, 3) := by decide +kernel
theorem dX4_startAt_30 : decode cX4_startAt 30 = .ok (.aload_n 0, 1) := by decide +kernel
theorem dX4_startAt_31 : decode cX4_startAt 31 = .ok (.iconst 0, 1) := by decide +kernel
theorem dX4_startAt_32 : decode cX4_startAt 32 = .ok (.putfield 37, 3) := by decide +kernel
theorem dX4_startAt_35 : decode cX4_startAt 35 = .ok (.aload_n 0, 1) := by decide +kernel
theorem dX4_startAt_36 : decode cX4_startAt 36 = .ok (.iconst 0, 1) := by decide +kernel
theorem dX4_startAt_37 : decode cX4_startAt 37 = .ok (.putfield 40, 3) := by decide +kernel
theorem dX4_startAt_40 : decode cX4_startAt 40 = .ok (.aload_n 0, 1) := by decide +kernel
theorem dX4_startAt_41 : decode cX4_startAt 41 = .ok (.iconst 0, 1) := by decide +kernel
theorem dX4_startAt_42 : decode cX4_startAt 42 = .ok (.putfield 44, 3) := by decide +kernel
theorem dX4_startAt_45 : decode cX4_startAt 45 = .ok (.aload_n 0, 1) := by decide +kernel
theorem dX4_startAt_46 : decode cX4_startAt 46 = .ok (.iconst 0, 1) := by decide +kernel
theorem dX4_startAt_47 : decode cX4_startAt 47 = .ok (.putfield 47, 3) := by decide +kernel
theorem dX4_startAt_50 : decode cX4_startAt 50 = .ok (.aload_n 0, 1) := by decide +kernel
theorem dX4_startAt_51 : decode cX4_startAt 51 = .ok (.iconst 0, 1) := by decide +kernel
theorem dX4_startAt_52 : decode cX4_startAt 52 = .ok (.putfield 50, 3) := by decide +kernel
theorem dX4_startAt_55 : decode cX4_startAt 55 = .ok (.return_, 1) := by decide +kernel
theorem dX4_left_0 : decode cX4_left 0 = .ok (.aload_n 0, 1) := by decide +kernel
theorem dX4_left_1 : decode cX4_left 1 = .ok (.getfield 25, 3) := by decide +kernel
theorem dX4_left_4 : decode cX4_left 4 = .ok (.aload_n 0, 1) := by decide +kernel
theorem dX4_left_5 : decode cX4_left 5 = .ok (.getfield 31, 3) := by decide +kernel
theorem dX4_left_8 : decode cX4_left 8 = .ok (.isub, 1) := by decide +kernel
theorem dX4_left_9 : decode cX4_left 9 = .ok (.ireturn, 1) := by decide +kernel
theorem dX4_takeBlow_0 : decode cX4_takeBlow 0 = .ok (.aload_n 0, 1) := by decide +kernel
theorem dX4_takeBlow_1 : decode cX4_takeBlow 1 = .ok (.dup, 1) := by decide +kernel
theorem dX4_takeBlow_2 : decode cX4_takeBlow 2 = .ok (.getfield 31, 3) := by decide +kernel
theorem dX4_takeBlow_5 : decode cX4_takeBlow 5 = .ok (.iload_n 1, 1) := by decide +kernel
theorem dX4_takeBlow_6 : decode cX4_takeBlow 6 = .ok (.iadd, 1) := by decide +kernel
theorem dX4_takeBlow_7 : decode cX4_takeBlow 7 = .ok (.putfield 31, 3) := by decide +kernel
theorem dX4_takeBlow_10 : decode cX4_takeBlow 10 = .ok (.aload_n 0, 1) := by decide +kernel
theorem dX4_takeBlow_11 : decode cX4_takeBlow 11 = .ok (.dup, 1) := by decide +kernel
theorem dX4_takeBlow_12 : decode cX4_takeBlow 12 = .ok (.getfield 44, 3) := by decide +kernel
theorem dX4_takeBlow_15 : decode cX4_takeBlow 15 = .ok (.iload_n 1, 1) := by decide +kernel
theorem dX4_takeBlow_16 : decode cX4_takeBlow 16 = .ok (.iadd, 1) := by decide +kernel
theorem dX4_takeBlow_17 : decode cX4_takeBlow 17 = .ok (.putfield 44, 3) := by decide +kernel
theorem dX4_takeBlow_20 : decode cX4_takeBlow 20 = .ok (.aload_n 0, 1) := by decide +kernel
theorem dX4_takeBlow_21 : decode cX4_takeBlow 21 = .ok (.dup, 1) := by decide +kernel
theorem dX4_takeBlow_22 : decode cX4_takeBlow 22 = .ok (.getfield 34, 3) := by decide +kernel
theorem dX4_takeBlow_25 : decode cX4_takeBlow 25 = .ok (.iconst 1, 1) := by decide +kernel
theorem dX4_takeBlow_26 : decode cX4_takeBlow 26 = .ok (.iadd, 1) := by decide +kernel
theorem dX4_takeBlow_27 : decode cX4_takeBlow 27 = .ok (.putfield 34, 3) := by decide +kernel
theorem dX4_takeBlow_30 : decode cX4_takeBlow 30 = .ok (.aload_n 0, 1) := by decide +kernel
theorem dX4_takeBlow_31 : decode cX4_takeBlow 31 = .ok (.iload_n 2, 1) := by decide +kernel
theorem dX4_takeBlow_32 : decode cX4_takeBlow 32 = .ok (.putfield 37, 3) := by decide +kernel
theorem dX4_takeBlow_35 : decode cX4_takeBlow 35 = .ok (.aload_n 0, 1) := by decide +kernel
theorem dX4_takeBlow_36 : decode cX4_takeBlow 36 = .ok (.iconst 0, 1) := by decide +kernel
theorem dX4_takeBlow_37 : decode cX4_takeBlow 37 = .ok (.putfield 40, 3) := by decide +kernel
theorem dX4_takeBlow_40 : decode cX4_takeBlow 40 = .ok (.aload_n 0, 1) := by decide +kernel
theorem dX4_takeBlow_41 : decode cX4_takeBlow 41 = .ok (.iload_n 1, 1) := by decide +kernel
theorem dX4_takeBlow_42 : decode cX4_takeBlow 42 = .ok (.iload_n 2, 1) := by decide +kernel
theorem dX4_takeBlow_43 : decode cX4_takeBlow 43 = .ok (.invokevirtual 53, 3) := by decide +kernel
theorem dX4_takeBlow_46 : decode cX4_takeBlow 46 = .ok (.return_, 1) := by decide +kernel
theorem dX4_keep_0 : decode cX4_keep 0 = .ok (.aload_n 0, 1) := by decide +kernel
theorem dX4_keep_1 : decode cX4_keep 1 = .ok (.getfield 28, 3) := by decide +kernel
theorem dX4_keep_4 : decode cX4_keep 4 = .ok (.bipush 40, 2) := by decide +kernel
theorem dX4_keep_6 : decode cX4_keep 6 = .ok (.if_icmp .lt 39, 3) := by decide +kernel
theorem dX4_keep_9 : decode cX4_keep 9 = .ok (.aload_n 0, 1) := by decide +kernel
theorem dX4_keep_10 : decode cX4_keep 10 = .ok (.getfield 9, 3) := by decide +kernel
theorem dX4_keep_13 : decode cX4_keep 13 = .ok (.iconst 1, 1) := by decide +kernel
theorem dX4_keep_14 : decode cX4_keep 14 = .ok (.aload_n 0, 1) := by decide +kernel
theorem dX4_keep_15 : decode cX4_keep 15 = .ok (.getfield 9, 3) := by decide +kernel
theorem dX4_keep_18 : decode cX4_keep 18 = .ok (.iconst 0, 1) := by decide +kernel
theorem dX4_keep_19 : decode cX4_keep 19 = .ok (.bipush 39, 2) := by decide +kernel
theorem dX4_keep_21 : decode cX4_keep 21 = .ok (.invokestatic 57, 3) := by decide +kernel
theorem dX4_keep_24 : decode cX4_keep 24 = .ok (.aload_n 0, 1) := by decide +kernel
theorem dX4_keep_25 : decode cX4_keep 25 = .ok (.getfield 15, 3) := by decide +kernel
theorem dX4_keep_28 : decode cX4_keep 28 = .ok (.iconst 1, 1) := by decide +kernel
theorem dX4_keep_29 : decode cX4_keep 29 = .ok (.aload_n 0, 1) := by decide +kernel
theorem dX4_keep_30 : decode cX4_keep 30 = .ok (.getfield 15, 3) := by decide +kernel
theorem dX4_keep_33 : decode cX4_keep 33 = .ok (.iconst 0, 1) := by decide +kernel
theorem dX4_keep_34 : decode cX4_keep 34 = .ok (.bipush 39, 2) := by decide +kernel
theorem dX4_keep_36 : decode cX4_keep 36 = .ok (.invokestatic 57, 3) := by decide +kernel
theorem dX4_keep_39 : decode cX4_keep 39 = .ok (.aload_n 0, 1) := by decide +kernel
theorem dX4_keep_40 : decode cX4_keep 40 = .ok (.bipush 39, 2) := by decide +kernel
theorem dX4_keep_42 : decode cX4_keep 42 = .ok (.putfield 28, 3) := by decide +kernel
theorem dX4_keep_45 : decode cX4_keep 45 = .ok (.aload_n 0, 1) := by decide +kernel
theorem dX4_keep_46 : decode cX4_keep 46 = .ok (.getfield 28, 3) := by decide +kernel
theorem dX4_keep_49 : decode cX4_keep 49 = .ok (.ifCond .lt 57, 3) := by decide +kernel
theorem dX4_keep_52 : decode cX4_keep 52 = .ok (.aload_n 0, 1) := by decide +kernel
theorem dX4_keep_53 : decode cX4_keep 53 = .ok (.getfield 28, 3) := by decide +kernel
theorem dX4_keep_56 : decode cX4_keep 56 = .ok (.aload_n 0, 1) := by decide +kernel
theorem dX4_keep_57 : decode cX4_keep 57 = .ok (.getfield 9, 3) := by decide +kernel
theorem dX4_keep_60 : decode cX4_keep 60 = .ok (.arraylength, 1) := by decide +kernel
theorem dX4_keep_61 : decode cX4_keep 61 = .ok (.if_icmp .ge 45, 3) := by decide +kernel
theorem dX4_keep_64 : decode cX4_keep 64 = .ok (.aload_n 0, 1) := by decide +kernel
theorem dX4_keep_65 : decode cX4_keep 65 = .ok (.getfield 28, 3) := by decide +kernel
theorem dX4_keep_68 : decode cX4_keep 68 = .ok (.aload_n 0, 1) := by decide +kernel
theorem dX4_keep_69 : decode cX4_keep 69 = .ok (.getfield 15, 3) := by decide +kernel
theorem dX4_keep_72 : decode cX4_keep 72 = .ok (.arraylength, 1) := by decide +kernel
theorem dX4_keep_73 : decode cX4_keep 73 = .ok (.if_icmp .ge 33, 3) := by decide +kernel
theorem dX4_keep_76 : decode cX4_keep 76 = .ok (.aload_n 0, 1) := by decide +kernel
theorem dX4_keep_77 : decode cX4_keep 77 = .ok (.getfield 9, 3) := by decide +kernel
theorem dX4_keep_80 : decode cX4_keep 80 = .ok (.aload_n 0, 1) := by decide +kernel
theorem dX4_keep_81 : decode cX4_keep 81 = .ok (.getfield 28, 3) := by decide +kernel
theorem dX4_keep_84 : decode cX4_keep 84 = .ok (.iload_n 1, 1) := by decide +kernel
theorem dX4_keep_85 : decode cX4_keep 85 = .ok (.iastore, 1) := by decide +kernel
theorem dX4_keep_86 : decode cX4_keep 86 = .ok (.aload_n 0, 1) := by decide +kernel
theorem dX4_keep_87 : decode cX4_keep 87 = .ok (.getfield 15, 3) := by decide +kernel
theorem dX4_keep_90 : decode cX4_keep 90 = .ok (.aload_n 0, 1) := by decide +kernel
theorem dX4_keep_91 : decode cX4_keep 91 = .ok (.getfield 28, 3) := by decide +kernel
theorem dX4_keep_94 : decode cX4_keep 94 = .ok (.iload_n 2, 1) := by decide +kernel
theorem dX4_keep_95 : decode cX4_keep 95 = .ok (.iastore, 1) := by decide +kernel
theorem dX4_keep_96 : decode cX4_keep 96 = .ok (.aload_n 0, 1) := by decide +kernel
theorem dX4_keep_97 : decode cX4_keep 97 = .ok (.dup, 1) := by decide +kernel
theorem dX4_keep_98 : decode cX4_keep 98 = .ok (.getfield 28, 3) := by decide +kernel
theorem dX4_keep_101 : decode cX4_keep 101 = .ok (.iconst 1, 1) := by decide +kernel
theorem dX4_keep_102 : decode cX4_keep 102 = .ok (.iadd, 1) := by decide +kernel
theorem dX4_keep_103 : decode cX4_keep 103 = .ok (.putfield 28, 3) := by decide +kernel
theorem dX4_keep_106 : decode cX4_keep 106 = .ok (.return_, 1) := by decide +kernel
theorem dX4_takeLift_0 : decode cX4_takeLift 0 = .ok (.iload_n 1, 1) := by decide +kernel
theorem dX4_takeLift_1 : decode cX4_takeLift 1 = .ok (.iconst 1, 1) := by decide +kernel
theorem dX4_takeLift_2 : decode cX4_takeLift 2 = .ok (.if_icmp .lt 28, 3) := by decide +kernel
theorem dX4_takeLift_5 : decode cX4_takeLift 5 = .ok (.aload_n 0, 1) := by decide +kernel
theorem dX4_takeLift_6 : decode cX4_takeLift 6 = .ok (.dup, 1) := by decide +kernel
theorem dX4_takeLift_7 : decode cX4_takeLift 7 = .ok (.getfield 31, 3) := by decide +kernel
theorem dX4_takeLift_10 : decode cX4_takeLift 10 = .ok (.iload_n 1, 1) := by decide +kernel
theorem dX4_takeLift_11 : decode cX4_takeLift 11 = .ok (.isub, 1) := by decide +kernel
theorem dX4_takeLift_12 : decode cX4_takeLift 12 = .ok (.putfield 31, 3) := by decide +kernel
theorem dX4_takeLift_15 : decode cX4_takeLift 15 = .ok (.aload_n 0, 1) := by decide +kernel
theorem dX4_takeLift_16 : decode cX4_takeLift 16 = .ok (.dup, 1) := by decide +kernel
theorem dX4_takeLift_17 : decode cX4_takeLift 17 = .ok (.getfield 47, 3) := by decide +kernel
theorem dX4_takeLift_20 : decode cX4_takeLift 20 = .ok (.iload_n 1, 1) := by decide +kernel
theorem dX4_takeLift_21 : decode cX4_takeLift 21 = .ok (.iadd, 1) := by decide +kernel
theorem dX4_takeLift_22 : decode cX4_takeLift 22 = .ok (.putfield 47, 3) := by decide +kernel
theorem dX4_takeLift_25 : decode cX4_takeLift 25 = .ok (.aload_n 0, 1) := by decide +kernel
theorem dX4_takeLift_26 : decode cX4_takeLift 26 = .ok (.iconst 1, 1) := by decide +kernel
theorem dX4_takeLift_27 : decode cX4_takeLift 27 = .ok (.putfield 40, 3) := by decide +kernel
theorem dX4_takeLift_30 : decode cX4_takeLift 30 = .ok (.return_, 1) := by decide +kernel
theorem dX4_takePress_0 : decode cX4_takePress 0 = .ok (.aload_n 0, 1) := by decide +kernel
theorem dX4_takePress_1 : decode cX4_takePress 1 = .ok (.dup, 1) := by decide +kernel
theorem dX4_takePress_2 : decode cX4_takePress 2 = .ok (.getfield 31, 3) := by decide +kernel
theorem dX4_takePress_5 : decode cX4_takePress 5 = .ok (.iload_n 1, 1) := by decide +kernel
theorem dX4_takePress_6 : decode cX4_takePress 6 = .ok (.iadd, 1) := by decide +kernel
theorem dX4_takePress_7 : decode cX4_takePress 7 = .ok (.putfield 31, 3) := by decide +kernel
theorem dX4_takePress_10 : decode cX4_takePress 10 = .ok (.aload_n 0, 1) := by decide +kernel
theorem dX4_takePress_11 : decode cX4_takePress 11 = .ok (.dup, 1) := by decide +kernel
theorem dX4_takePress_12 : decode cX4_takePress 12 = .ok (.getfield 50, 3) := by decide +kernel
theorem dX4_takePress_15 : decode cX4_takePress 15 = .ok (.iload_n 1, 1) := by decide +kernel
theorem dX4_takePress_16 : decode cX4_takePress 16 = .ok (.iadd, 1) := by decide +kernel
theorem dX4_takePress_17 : decode cX4_takePress 17 = .ok (.putfield 50, 3) := by decide +kernel
theorem dX4_takePress_20 : decode cX4_takePress 20 = .ok (.aload_n 0, 1) := by decide +kernel
theorem dX4_takePress_21 : decode cX4_takePress 21 = .ok (.iconst 0, 1) := by decide +kernel
theorem dX4_takePress_22 : decode cX4_takePress 22 = .ok (.putfield 40, 3) := by decide +kernel
theorem dX4_takePress_25 : decode cX4_takePress 25 = .ok (.return_, 1) := by decide +kernel
theorem dX4_keptSet_0 : decode cX4_keptSet 0 = .ok (.iload_n 1, 1) := by decide +kernel
theorem dX4_keptSet_1 : decode cX4_keptSet 1 = .ok (.ifCond .lt 21, 3) := by decide +kernel
theorem dX4_keptSet_4 : decode cX4_keptSet 4 = .ok (.iload_n 1, 1) := by decide +kernel
theorem dX4_keptSet_5 : decode cX4_keptSet 5 = .ok (.aload_n 0, 1) := by decide +kernel
theorem dX4_keptSet_6 : decode cX4_keptSet 6 = .ok (.getfield 9, 3) := by decide +kernel
theorem dX4_keptSet_9 : decode cX4_keptSet 9 = .ok (.arraylength, 1) := by decide +kernel
theorem dX4_keptSet_10 : decode cX4_keptSet 10 = .ok (.if_icmp .ge 12, 3) := by decide +kernel
theorem dX4_keptSet_13 : decode cX4_keptSet 13 = .ok (.aload_n 0, 1) := by decide +kernel
theorem dX4_keptSet_14 : decode cX4_keptSet 14 = .ok (.getfield 9, 3) := by decide +kernel
theorem dX4_keptSet_17 : decode cX4_keptSet 17 = .ok (.iload_n 1, 1) := by decide +kernel
theorem dX4_keptSet_18 : decode cX4_keptSet 18 = .ok (.iaload, 1) := by decide +kernel
theorem dX4_keptSet_19 : decode cX4_keptSet 19 = .ok (.goto 4, 3) := by decide +kernel
theorem dX4_keptSet_22 : decode cX4_keptSet 22 = .ok (.iconst 0, 1) := by decide +kernel
theorem dX4_keptSet_23 : decode cX4_keptSet 23 = .ok (.ireturn, 1) := by decide +kernel
theorem dX4_keptLoad_0 : decode cX4_keptLoad 0 = .ok (.iload_n 1, 1) := by decide +kernel
theorem dX4_keptLoad_1 : decode cX4_keptLoad 1 = .ok (.ifCond .lt 21, 3) := by decide +kernel
theorem dX4_keptLoad_4 : decode cX4_keptLoad 4 = .ok (.iload_n 1, 1) := by decide +kernel
theorem dX4_keptLoad_5 : decode cX4_keptLoad 5 = .ok (.aload_n 0, 1) := by decide +kernel
theorem dX4_keptLoad_6 : decode cX4_keptLoad 6 = .ok (.getfield 15, 3) := by decide +kernel
theorem dX4_keptLoad_9 : decode cX4_keptLoad 9 = .ok (.arraylength, 1) := by decide +kernel
theorem dX4_keptLoad_10 : decode cX4_keptLoad 10 = .ok (.if_icmp .ge 12, 3) := by decide +kernel
theorem dX4_keptLoad_13 : decode cX4_keptLoad 13 = .ok (.aload_n 0, 1) := by decide +kernel
theorem dX4_keptLoad_14 : decode cX4_keptLoad 14 = .ok (.getfield 15, 3) := by decide +kernel
theorem dX4_keptLoad_17 : decode cX4_keptLoad 17 = .ok (.iload_n 1, 1) := by decide +kernel
theorem dX4_keptLoad_18 : decode cX4_keptLoad 18 = .ok (.iaload, 1) := by decide +kernel
theorem dX4_keptLoad_19 : decode cX4_keptLoad 19 = .ok (.goto 4, 3) := by decide +kernel
theorem dX4_keptLoad_22 : decode cX4_keptLoad 22 = .ok (.iconst 0, 1) := by decide +kernel
theorem dX4_keptLoad_23 : decode cX4_keptLoad 23 = .ok (.ireturn, 1) := by decide +kernel
theorem dX4_copyFrom_0 : decode cX4_copyFrom 0 = .ok (.aload_n 1, 1) := by decide +kernel
theorem dX4_copyFrom_1 : decode cX4_copyFrom 1 = .ok (.getfield 9, 3) := by decide +kernel
theorem dX4_copyFrom_4 : decode cX4_copyFrom 4 = .ok (.iconst 0, 1) := by decide +kernel
theorem dX4_copyFrom_5 : decode cX4_copyFrom 5 = .ok (.aload_n 0, 1) := by decide +kernel
theorem dX4_copyFrom_6 : decode cX4_copyFrom 6 = .ok (.getfield 9, 3) := by decide +kernel
theorem dX4_copyFrom_9 : decode cX4_copyFrom 9 = .ok (.iconst 0, 1) := by decide +kernel
theorem dX4_copyFrom_10 : decode cX4_copyFrom 10 = .ok (.bipush 40, 2) := by decide +kernel
theorem dX4_copyFrom_12 : decode cX4_copyFrom 12 = .ok (.invokestatic 57, 3) := by decide +kernel
theorem dX4_copyFrom_15 : decode cX4_copyFrom 15 = .ok (.aload_n 1, 1) := by decide +kernel
theorem dX4_copyFrom_16 : decode cX4_copyFrom 16 = .ok (.getfield 15, 3) := by decide +kernel
theorem dX4_copyFrom_19 : decode cX4_copyFrom 19 = .ok (.iconst 0, 1) := by decide +kernel
theorem dX4_copyFrom_20 : decode cX4_copyFrom 20 = .ok (.aload_n 0, 1) := by decide +kernel
theorem dX4_copyFrom_21 : decode cX4_copyFrom 21 = .ok (.getfield 15, 3) := by decide +kernel
theorem dX4_copyFrom_24 : decode cX4_copyFrom 24 = .ok (.iconst 0, 1) := by decide +kernel
theorem dX4_copyFrom_25 : decode cX4_copyFrom 25 = .ok (.bipush 40, 2) := by decide +kernel
theorem dX4_copyFrom_27 : decode cX4_copyFrom 27 = .ok (.invokestatic 57, 3) := by decide +kernel
theorem dX4_copyFrom_30 : decode cX4_copyFrom 30 = .ok (.aload_n 0, 1) := by decide +kernel
theorem dX4_copyFrom_31 : decode cX4_copyFrom 31 = .ok (.aload_n 1, 1) := by decide +kernel
theorem dX4_copyFrom_32 : decode cX4_copyFrom 32 = .ok (.getfield 28, 3) := by decide +kernel
theorem dX4_copyFrom_35 : decode cX4_copyFrom 35 = .ok (.putfield 28, 3) := by decide +kernel
theorem dX4_copyFrom_38 : decode cX4_copyFrom 38 = .ok (.aload_n 0, 1) := by decide +kernel
theorem dX4_copyFrom_39 : decode cX4_copyFrom 39 = .ok (.aload_n 1, 1) := by decide +kernel
theorem dX4_copyFrom_40 : decode cX4_copyFrom 40 = .ok (.getfield 18, 3) := by decide +kernel
theorem dX4_copyFrom_43 : decode cX4_copyFrom 43 = .ok (.putfield 18, 3) := by decide +kernel
theorem dX4_copyFrom_46 : decode cX4_copyFrom 46 = .ok (.aload_n 0, 1) := by decide +kernel
theorem dX4_copyFrom_47 : decode cX4_copyFrom 47 = .ok (.aload_n 1, 1) := by decide +kernel
theorem dX4_copyFrom_48 : decode cX4_copyFrom 48 = .ok (.getfield 22, 3) := by decide +kernel
theorem dX4_copyFrom_51 : decode cX4_copyFrom 51 = .ok (.putfield 22, 3) := by decide +kernel
theorem dX4_copyFrom_54 : decode cX4_copyFrom 54 = .ok (.aload_n 0, 1) := by decide +kernel
theorem dX4_copyFrom_55 : decode cX4_copyFrom 55 = .ok (.aload_n 1, 1) := by decide +kernel
theorem dX4_copyFrom_56 : decode cX4_copyFrom 56 = .ok (.getfield 25, 3) := by decide +kernel
theorem dX4_copyFrom_59 : decode cX4_copyFrom 59 = .ok (.putfield 25, 3) := by decide +kernel
theorem dX4_copyFrom_62 : decode cX4_copyFrom 62 = .ok (.aload_n 0, 1) := by decide +kernel
theorem dX4_copyFrom_63 : decode cX4_copyFrom 63 = .ok (.aload_n 1, 1) := by decide +kernel
theorem dX4_copyFrom_64 : decode cX4_copyFrom 64 = .ok (.getfield 31, 3) := by decide +kernel
theorem dX4_copyFrom_67 : decode cX4_copyFrom 67 = .ok (.putfield 31, 3) := by decide +kernel
theorem dX4_copyFrom_70 : decode cX4_copyFrom 70 = .ok (.aload_n 0, 1) := by decide +kernel
theorem dX4_copyFrom_71 : decode cX4_copyFrom 71 = .ok (.aload_n 1, 1) := by decide +kernel
theorem dX4_copyFrom_72 : decode cX4_copyFrom 72 = .ok (.getfield 34, 3) := by decide +kernel
theorem dX4_copyFrom_75 : decode cX4_copyFrom 75 = .ok (.putfield 34, 3) := by decide +kernel
theorem dX4_copyFrom_78 : decode cX4_copyFrom 78 = .ok (.aload_n 0, 1) := by decide +kernel
theorem dX4_copyFrom_79 : decode cX4_copyFrom 79 = .ok (.aload_n 1, 1) := by decide +kernel
theorem dX4_copyFrom_80 : decode cX4_copyFrom 80 = .ok (.getfield 37, 3) := by decide +kernel
theorem dX4_copyFrom_83 : decode cX4_copyFrom 83 = .ok (.putfield 37, 3) := by decide +kernel
theorem dX4_copyFrom_86 : decode cX4_copyFrom 86 = .ok (.aload_n 0, 1) := by decide +kernel
theorem dX4_copyFrom_87 : decode cX4_copyFrom 87 = .ok (.aload_n 1, 1) := by decide +kernel
theorem dX4_copyFrom_88 : decode cX4_copyFrom 88 = .ok (.getfield 40, 3) := by decide +kernel
theorem dX4_copyFrom_91 : decode cX4_copyFrom 91 = .ok (.putfield 40, 3) := by decide +kernel
theorem dX4_copyFrom_94 : decode cX4_copyFrom 94 = .ok (.aload_n 0, 1) := by decide +kernel
theorem dX4_copyFrom_95 : decode cX4_copyFrom 95 = .ok (.aload_n 1, 1) := by decide +kernel
theorem dX4_copyFrom_96 : decode cX4_copyFrom 96 = .ok (.getfield 44, 3) := by decide +kernel
theorem dX4_copyFrom_99 : decode cX4_copyFrom 99 = .ok (.putfield 44, 3) := by decide +kernel
theorem dX4_copyFrom_102 : decode cX4_copyFrom 102 = .ok (.aload_n 0, 1) := by decide +kernel
theorem dX4_copyFrom_103 : decode cX4_copyFrom 103 = .ok (.aload_n 1, 1) := by decide +kernel
theorem dX4_copyFrom_104 : decode cX4_copyFrom 104 = .ok (.getfield 47, 3) := by decide +kernel
theorem dX4_copyFrom_107 : decode cX4_copyFrom 107 = .ok (.putfield 47, 3) := by decide +kernel
theorem dX4_copyFrom_110 : decode cX4_copyFrom 110 = .ok (.aload_n 0, 1) := by decide +kernel
theorem dX4_copyFrom_111 : decode cX4_copyFrom 111 = .ok (.aload_n 1, 1) := by decide +kernel
theorem dX4_copyFrom_112 : decode cX4_copyFrom 112 = .ok (.getfield 50, 3) := by decide +kernel
theorem dX4_copyFrom_115 : decode cX4_copyFrom 115 = .ok (.putfield 50, 3) := by decide +kernel
theorem dX4_copyFrom_118 : decode cX4_copyFrom 118 = .ok (.return_, 1) := by decide +kernel
theorem dX5_init_0 : decode cX5_init 0 = .ok (.aload_n 0, 1) := by decide +kernel
theorem dX5_init_1 : decode cX5_init 1 = .ok (.invokespecial 3, 3) := by decide +kernel
theorem dX5_init_4 : decode cX5_init 4 = .ok (.aload_n 0, 1) := by decide +kernel
theorem dX5_init_5 : decode cX5_init 5 = .ok (.iconst 4, 1) := by decide +kernel
theorem dX5_init_6 : decode cX5_init 6 = .ok (.newarray .int, 2) := by decide +kernel
theorem dX5_init_8 : decode cX5_init 8 = .ok (.putfield 9, 3) := by decide +kernel
theorem dX5_init_11 : decode cX5_init 11 = .ok (.return_, 1) := by decide +kernel
theorem dX5_read_0 : decode cX5_read 0 = .ok (.aload_n 0, 1) := by decide +kernel
theorem dX5_read_1 : decode cX5_read 1 = .ok (.iload_n 2, 1) := by decide +kernel
theorem dX5_read_2 : decode cX5_read 2 = .ok (.putfield 15, 3) := by decide +kernel
theorem dX5_read_5 : decode cX5_read 5 = .ok (.aload_n 0, 1) := by decide +kernel
theorem dX5_read_6 : decode cX5_read 6 = .ok (.iconst 0, 1) := by decide +kernel
theorem dX5_read_7 : decode cX5_read 7 = .ok (.putfield 19, 3) := by decide +kernel
theorem dX5_read_10 : decode cX5_read 10 = .ok (.aload_n 0, 1) := by decide +kernel
theorem dX5_read_11 : decode cX5_read 11 = .ok (.iconst 0, 1) := by decide +kernel
theorem dX5_read_12 : decode cX5_read 12 = .ok (.putfield 22, 3) := by decide +kernel
theorem dX5_read_15 : decode cX5_read 15 = .ok (.iconst 0, 1) := by decide +kernel
theorem dX5_read_16 : decode cX5_read 16 = .ok (.istore_n 3, 1) := by decide +kernel
theorem dX5_read_17 : decode cX5_read 17 = .ok (.iload_n 3, 1) := by decide +kernel
theorem dX5_read_18 : decode cX5_read 18 = .ok (.aload_n 1, 1) := by decide +kernel
theorem dX5_read_19 : decode cX5_read 19 = .ok (.getfield 25, 3) := by decide +kernel
theorem dX5_read_22 : decode cX5_read 22 = .ok (.if_icmp .ge 32, 3) := by decide +kernel
theorem dX5_read_25 : decode cX5_read 25 = .ok (.aload_n 1, 1) := by decide +kernel
theorem dX5_read_26 : decode cX5_read 26 = .ok (.iload_n 3, 1) := by decide +kernel
theorem dX5_read_27 : decode cX5_read 27 = .ok (.invokevirtual 30, 3) := by decide +kernel
theorem dX5_read_30 : decode cX5_read 30 = .ok (.istore 4, 2) := by decide +kernel
theorem dX5_read_32 : decode cX5_read 32 = .ok (.iload 4, 2) := by decide +kernel
theorem dX5_read_34 : decode cX5_read 34 = .ok (.ifCond .le 14, 3) := by decide +kernel
theorem dX5_read_37 : decode cX5_read 37 = .ok (.aload_n 0, 1) := by decide +kernel
theorem dX5_read_38 : decode cX5_read 38 = .ok (.iload 4, 2) := by decide +kernel
theorem dX5_read_40 : decode cX5_read 40 = .ok (.aload_n 1, 1) := by decide +kernel
theorem dX5_read_41 : decode cX5_read 41 = .ok (.iload_n 3, 1) := by decide +kernel
theorem dX5_read_42 : decode cX5_read 42 = .ok (.invokevirtual 34, 3) := by decide +kernel
theorem dX5_read_45 : decode cX5_read 45 = .ok (.invokevirtual 37, 3) := by decide +kernel
theorem dX5_read_48 : decode cX5_read 48 = .ok (.iinc 3 1, 3) := by decide +kernel
theorem dX5_read_51 : decode cX5_read 51 = .ok (.goto (-34), 3) := by decide +kernel
theorem dX5_read_54 : decode cX5_read 54 = .ok (.aload_n 0, 1) := by decide +kernel
theorem dX5_read_55 : decode cX5_read 55 = .ok (.invokevirtual 41, 3) := by decide +kernel
theorem dX5_read_58 : decode cX5_read 58 = .ok (.return_, 1) := by decide +kernel
theorem dX5_readSet_0 : decode cX5_readSet 0 = .ok (.aload_n 0, 1) := by decide +kernel
theorem dX5_readSet_1 : decode cX5_readSet 1 = .ok (.getfield 22, 3) := by decide +kernel
theorem dX5_readSet_4 : decode cX5_readSet 4 = .ok (.ifCond .le 20, 3) := by decide +kernel
theorem dX5_readSet_7 : decode cX5_readSet 7 = .ok (.iload_n 1, 1) := by decide +kernel
theorem dX5_readSet_8 : decode cX5_readSet 8 = .ok (.aload_n 0, 1) := by decide +kernel
theorem dX5_readSet_9 : decode cX5_readSet 9 = .ok (.getfield 44, 3) := by decide +kernel
theorem dX5_readSet_12 : decode cX5_readSet 12 = .ok (.isub, 1) := by decide +kernel
theorem dX5_readSet_13 : decode cX5_readSet 13 = .ok (.invokestatic 47, 3) := by decide +kernel
theorem dX5_readSet_16 : decode cX5_readSet 16 = .ok (.iconst 1, 1) := by decide +kernel
theorem dX5_readSet_17 : decode cX5_readSet 17 = .ok (.if_icmp .le 7, 3) := by decide +kernel
theorem dX5_readSet_20 : decode cX5_readSet 20 = .ok (.aload_n 0, 1) := by decide +kernel
theorem dX5_readSet_21 : decode cX5_readSet 21 = .ok (.invokevirtual 41, 3) := by decide +kernel
theorem dX5_readSet_24 : decode cX5_readSet 24 = .ok (.aload_n 0, 1) := by decide +kernel
theorem dX5_readSet_25 : decode cX5_readSet 25 = .ok (.getfield 22, 3) := by decide +kernel
theorem dX5_readSet_28 : decode cX5_readSet 28 = .ok (.ifCond .ne 18, 3) := by decide +kernel
theorem dX5_readSet_31 : decode cX5_readSet 31 = .ok (.aload_n 0, 1) := by decide +kernel
theorem dX5_readSet_32 : decode cX5_readSet 32 = .ok (.iload_n 1, 1) := by decide +kernel
theorem dX5_readSet_33 : decode cX5_readSet 33 = .ok (.putfield 44, 3) := by decide +kernel
theorem dX5_readSet_36 : decode cX5_readSet 36 = .ok (.aload_n 0, 1) := by decide +kernel
theorem dX5_readSet_37 : decode cX5_readSet 37 = .ok (.iload_n 2, 1) := by decide +kernel
theorem dX5_readSet_38 : decode cX5_readSet 38 = .ok (.putfield 52, 3) := by decide +kernel
theorem dX5_readSet_41 : decode cX5_readSet 41 = .ok (.aload_n 0, 1) := by decide +kernel
theorem dX5_readSet_42 : decode cX5_readSet 42 = .ok (.iconst 0, 1) := by decide +kernel
theorem dX5_readSet_43 : decode cX5_readSet 43 = .ok (.putfield 55, 3) := by decide +kernel
theorem dX5_readSet_46 : decode cX5_readSet 46 = .ok (.aload_n 0, 1) := by decide +kernel
theorem dX5_readSet_47 : decode cX5_readSet 47 = .ok (.dup, 1) := by decide +kernel
theorem dX5_readSet_48 : decode cX5_readSet 48 = .ok (.getfield 22, 3) := by decide +kernel
theorem dX5_readSet_51 : decode cX5_readSet 51 = .ok (.iconst 1, 1) := by decide +kernel
theorem dX5_readSet_52 : decode cX5_readSet 52 = .ok (.iadd, 1) := by decide +kernel
theorem dX5_readSet_53 : decode cX5_readSet 53 = .ok (.putfield 22, 3) := by decide +kernel
theorem dX5_readSet_56 : decode cX5_readSet 56 = .ok (.aload_n 0, 1) := by decide +kernel
theorem dX5_readSet_57 : decode cX5_readSet 57 = .ok (.dup, 1) := by decide +kernel
theorem dX5_readSet_58 : decode cX5_readSet 58 = .ok (.getfield 55, 3) := by decide +kernel
theorem dX5_readSet_61 : decode cX5_readSet 61 = .ok (.iload_n 1, 1) := by decide +kernel
theorem dX5_readSet_62 : decode cX5_readSet 62 = .ok (.iadd, 1) := by decide +kernel
theorem dX5_readSet_63 : decode cX5_readSet 63 = .ok (.putfield 55, 3) := by decide +kernel
theorem dX5_readSet_66 : decode cX5_readSet 66 = .ok (.return_, 1) := by decide +kernel
theorem dX5_closeRun_0 : decode cX5_closeRun 0 = .ok (.aload_n 0, 1) := by decide +kernel
theorem dX5_closeRun_1 : decode cX5_closeRun 1 = .ok (.getfield 22, 3) := by decide +kernel
theorem dX5_closeRun_4 : decode cX5_closeRun 4 = .ok (.iconst 3, 1) := by decide +kernel
theorem dX5_closeRun_5 : decode cX5_closeRun 5 = .ok (.if_icmp .lt 64, 3) := by decide +kernel
theorem dX5_closeRun_8 : decode cX5_closeRun 8 = .ok (.aload_n 0, 1) := by decide +kernel
theorem dX5_closeRun_9 : decode cX5_closeRun 9 = .ok (.getfield 19, 3) := by decide +kernel
theorem dX5_closeRun_12 : decode cX5_closeRun 12 = .ok (.aload_n 0, 1) := by decide +kernel
theorem dX5_closeRun_13 : decode cX5_closeRun 13 = .ok (.getfield 15, 3) := by decide +kernel
theorem dX5_closeRun_16 : decode cX5_closeRun 16 = .ok (.if_icmp .ne 43, 3) := by decide +kernel
theorem dX5_closeRun_19 : decode cX5_closeRun 19 = .ok (.aload_n 0, 1) := by decide +kernel
theorem dX5_closeRun_20 : decode cX5_closeRun 20 = .ok (.getfield 9, 3) := by decide +kernel
theorem dX5_closeRun_23 : decode cX5_closeRun 23 = .ok (.iconst 0, 1) := by decide +kernel
theorem dX5_closeRun_24 : decode cX5_closeRun 24 = .ok (.aload_n 0, 1) := by decide +kernel
theorem dX5_closeRun_25 : decode cX5_closeRun 25 = .ok (.getfield 44, 3) := by decide +kernel
theorem dX5_closeRun_28 : decode cX5_closeRun 28 = .ok (.iastore, 1) := by decide +kernel
theorem dX5_closeRun_29 : decode cX5_closeRun 29 = .ok (.aload_n 0, 1) := by decide +kernel
theorem dX5_closeRun_30 : decode cX5_closeRun 30 = .ok (.getfield 9, 3) := by decide +kernel
theorem dX5_closeRun_33 : decode cX5_closeRun 33 = .ok (.iconst 1, 1) := by decide +kernel
theorem dX5_closeRun_34 : decode cX5_closeRun 34 = .ok (.aload_n 0, 1) := by decide +kernel
theorem dX5_closeRun_35 : decode cX5_closeRun 35 = .ok (.getfield 22, 3) := by decide +kernel
theorem dX5_closeRun_38 : decode cX5_closeRun 38 = .ok (.iastore, 1) := by decide +kernel
theorem dX5_closeRun_39 : decode cX5_closeRun 39 = .ok (.aload_n 0, 1) := by decide +kernel
theorem dX5_closeRun_40 : decode cX5_closeRun 40 = .ok (.getfield 9, 3) := by decide +kernel
theorem dX5_closeRun_43 : decode cX5_closeRun 43 = .ok (.iconst 2, 1) := by decide +kernel
theorem dX5_closeRun_44 : decode cX5_closeRun 44 = .ok (.aload_n 0, 1) := by decide +kernel
theorem dX5_closeRun_45 : decode cX5_closeRun 45 = .ok (.getfield 52, 3) := by decide +kernel
theorem dX5_closeRun_48 : decode cX5_closeRun 48 = .ok (.iastore, 1) := by decide +kernel
theorem dX5_closeRun_49 : decode cX5_closeRun 49 = .ok (.aload_n 0, 1) := by decide +kernel
theorem dX5_closeRun_50 : decode cX5_closeRun 50 = .ok (.getfield 9, 3) := by decide +kernel
theorem dX5_closeRun_53 : decode cX5_closeRun 53 = .ok (.iconst 3, 1) := by decide +kernel
theorem dX5_closeRun_54 : decode cX5_closeRun 54 = .ok (.aload_n 0, 1) := by decide +kernel
theorem dX5_closeRun_55 : decode cX5_closeRun 55 = .ok (.getfield 55, 3) := by decide +kernel
theorem dX5_closeRun_58 : decode cX5_closeRun 58 = .ok (.iastore, 1) := by decide +kernel
theorem dX5_closeRun_59 : decode cX5_closeRun 59 = .ok (.aload_n 0, 1) := by decide +kernel
theorem dX5_closeRun_60 : decode cX5_closeRun 60 = .ok (.dup, 1) := by decide +kernel
theorem dX5_closeRun_61 : decode cX5_closeRun 61 = .ok (.getfield 19, 3) := by decide +kernel
theorem dX5_closeRun_64 : decode cX5_closeRun 64 = .ok (.iconst 1, 1) := by decide +kernel
theorem dX5_closeRun_65 : decode cX5_closeRun 65 = .ok (.iadd, 1) := by decide +kernel
theorem dX5_closeRun_66 : decode cX5_closeRun 66 = .ok (.putfield 19, 3) := by decide +kernel
theorem dX5_closeRun_69 : decode cX5_closeRun 69 = .ok (.aload_n 0, 1) := by decide +kernel
theorem dX5_closeRun_70 : decode cX5_closeRun 70 = .ok (.iconst 0, 1) := by decide +kernel
theorem dX5_closeRun_71 : decode cX5_closeRun 71 = .ok (.putfield 22, 3) := by decide +kernel
theorem dX5_closeRun_74 : decode cX5_closeRun 74 = .ok (.return_, 1) := by decide +kernel
theorem dX5_answerOf_0 : decode cX5_answerOf 0 = .ok (.iload_n 1, 1) := by decide +kernel
theorem dX5_answerOf_1 : decode cX5_answerOf 1 = .ok (.ifCond .lt 21, 3) := by decide +kernel
theorem dX5_answerOf_4 : decode cX5_answerOf 4 = .ok (.iload_n 1, 1) := by decide +kernel
theorem dX5_answerOf_5 : decode cX5_answerOf 5 = .ok (.aload_n 0, 1) := by decide +kernel
theorem dX5_answerOf_6 : decode cX5_answerOf 6 = .ok (.getfield 9, 3) := by decide +kernel
theorem dX5_answerOf_9 : decode cX5_answerOf 9 = .ok (.arraylength, 1) := by decide +kernel
theorem dX5_answerOf_10 : decode cX5_answerOf 10 = .ok (.if_icmp .ge 12, 3) := by decide +kernel
theorem dX5_answerOf_13 : decode cX5_answerOf 13 = .ok (.aload_n 0, 1) := by decide +kernel
theorem dX5_answerOf_14 : decode cX5_answerOf 14 = .ok (.getfield 9, 3) := by decide +kernel
theorem dX5_answerOf_17 : decode cX5_answerOf 17 = .ok (.iload_n 1, 1) := by decide +kernel
theorem dX5_answerOf_18 : decode cX5_answerOf 18 = .ok (.iaload, 1) := by decide +kernel
theorem dX5_answerOf_19 : decode cX5_answerOf 19 = .ok (.goto 4, 3) := by decide +kernel
theorem dX5_answerOf_22 : decode cX5_answerOf 22 = .ok (.iconst 0, 1) := by decide +kernel
theorem dX5_answerOf_23 : decode cX5_answerOf 23 = .ok (.ireturn, 1) := by decide +kernel
theorem dX6_init_0 : decode cX6_init 0 = .ok (.aload_n 0, 1) := by decide +kernel
theorem dX6_init_1 : decode cX6_init 1 = .ok (.invokespecial 3, 3) := by decide +kernel
theorem dX6_init_4 : decode cX6_init 4 = .ok (.aload_n 0, 1) := by decide +kernel
theorem dX6_init_5 : decode cX6_init 5 = .ok (.new 9, 3) := by decide +kernel
theorem dX6_init_8 : decode cX6_init 8 = .ok (.dup, 1) := by decide +kernel
theorem dX6_init_9 : decode cX6_init 9 = .ok (.invokespecial 11, 3) := by decide +kernel
theorem dX6_init_12 : decode cX6_init 12 = .ok (.putfield 12, 3) := by decide +kernel
theorem dX6_init_15 : decode cX6_init 15 = .ok (.aload_n 0, 1) := by decide +kernel
theorem dX6_init_16 : decode cX6_init 16 = .ok (.getstatic 18, 3) := by decide +kernel
theorem dX6_init_19 : decode cX6_init 19 = .ok (.invokevirtual 22, 3) := by decide +kernel
theorem dX6_init_22 : decode cX6_init 22 = .ok (.checkcast 23, 3) := by decide +kernel
theorem dX6_init_25 : decode cX6_init 25 = .ok (.putfield 27, 3) := by decide +kernel
theorem dX6_init_28 : decode cX6_init 28 = .ok (.aload_n 0, 1) := by decide +kernel
theorem dX6_init_29 : decode cX6_init 29 = .ok (.bipush 10, 2) := by decide +kernel
theorem dX6_init_31 : decode cX6_init 31 = .ok (.anewarray 30, 3) := by decide +kernel
theorem dX6_init_34 : decode cX6_init 34 = .ok (.putfield 32, 3) := by decide +kernel
theorem dX6_init_37 : decode cX6_init 37 = .ok (.iconst 0, 1) := by decide +kernel
theorem dX6_init_38 : decode cX6_init 38 = .ok (.istore_n 1, 1) := by decide +kernel
theorem dX6_init_39 : decode cX6_init 39 = .ok (.iload_n 1, 1) := by decide +kernel
theorem dX6_init_40 : decode cX6_init 40 = .ok (.aload_n 0, 1) := by decide +kernel
theorem dX6_init_41 : decode cX6_init 41 = .ok (.getfield 32, 3) := by decide +kernel
theorem dX6_init_44 : decode cX6_init 44 = .ok (.arraylength, 1) := by decide +kernel
theorem dX6_init_45 : decode cX6_init 45 = .ok (.if_icmp .ge 22, 3) := by decide +kernel
theorem dX6_init_48 : decode cX6_init 48 = .ok (.aload_n 0, 1) := by decide +kernel
theorem dX6_init_49 : decode cX6_init 49 = .ok (.getfield 32, 3) := by decide +kernel
theorem dX6_init_52 : decode cX6_init 52 = .ok (.iload_n 1, 1) := by decide +kernel
theorem dX6_init_53 : decode cX6_init 53 = .ok (.new 30, 3) := by decide +kernel
theorem dX6_init_56 : decode cX6_init 56 = .ok (.dup, 1) := by decide +kernel
theorem dX6_init_57 : decode cX6_init 57 = .ok (.invokespecial 36, 3) := by decide +kernel
theorem dX6_init_60 : decode cX6_init 60 = .ok (.aastore, 1) := by decide +kernel
theorem dX6_init_61 : decode cX6_init 61 = .ok (.iinc 1 1, 3) := by decide +kernel
theorem dX6_init_64 : decode cX6_init 64 = .ok (.goto (-25), 3) := by decide +kernel
theorem dX6_init_67 : decode cX6_init 67 = .ok (.return_, 1) := by decide +kernel
theorem dX6_setting_0 : decode cX6_setting 0 = .ok (.iload_n 1, 1) := by decide +kernel
theorem dX6_setting_1 : decode cX6_setting 1 = .ok (.ifCond .lt 21, 3) := by decide +kernel
theorem dX6_setting_4 : decode cX6_setting 4 = .ok (.iload_n 1, 1) := by decide +kernel
theorem dX6_setting_5 : decode cX6_setting 5 = .ok (.aload_n 0, 1) := by decide +kernel
theorem dX6_setting_6 : decode cX6_setting 6 = .ok (.getfield 27, 3) := by decide +kernel
theorem dX6_setting_9 : decode cX6_setting 9 = .ok (.arraylength, 1) := by decide +kernel
theorem dX6_setting_10 : decode cX6_setting 10 = .ok (.if_icmp .ge 12, 3) := by decide +kernel
theorem dX6_setting_13 : decode cX6_setting 13 = .ok (.aload_n 0, 1) := by decide +kernel
theorem dX6_setting_14 : decode cX6_setting 14 = .ok (.getfield 27, 3) := by decide +kernel
theorem dX6_setting_17 : decode cX6_setting 17 = .ok (.iload_n 1, 1) := by decide +kernel
theorem dX6_setting_18 : decode cX6_setting 18 = .ok (.iaload, 1) := by decide +kernel
theorem dX6_setting_19 : decode cX6_setting 19 = .ok (.goto 4, 3) := by decide +kernel
theorem dX6_setting_22 : decode cX6_setting 22 = .ok (.iconst 0, 1) := by decide +kernel
theorem dX6_setting_23 : decode cX6_setting 23 = .ok (.ireturn, 1) := by decide +kernel
theorem dX6_changeSetting_0 : decode cX6_changeSetting 0 = .ok (.iload_n 1, 1) := by decide +kernel
theorem dX6_changeSetting_1 : decode cX6_changeSetting 1 = .ok (.ifCond .lt 19, 3) := by decide +kernel
theorem dX6_changeSetting_4 : decode cX6_changeSetting 4 = .ok (.iload_n 1, 1) := by decide +kernel
theorem dX6_changeSetting_5 : decode cX6_changeSetting 5 = .ok (.aload_n 0, 1) := by decide +kernel
theorem dX6_changeSetting_6 : decode cX6_changeSetting 6 = .ok (.getfield 27, 3) := by decide +kernel
theorem dX6_changeSetting_9 : decode cX6_changeSetting 9 = .ok (.arraylength, 1) := by decide +kernel
theorem dX6_changeSetting_10 : decode cX6_changeSetting 10 = .ok (.if_icmp .ge 10, 3) := by decide +kernel
theorem dX6_changeSetting_13 : decode cX6_changeSetting 13 = .ok (.aload_n 0, 1) := by decide +kernel
theorem dX6_changeSetting_14 : decode cX6_changeSetting 14 = .ok (.getfield 27, 3) := by decide +kernel
theorem dX6_changeSetting_17 : decode cX6_changeSetting 17 = .ok (.iload_n 1, 1) := by decide +kernel
theorem dX6_changeSetting_18 : decode cX6_changeSetting 18 = .ok (.iload_n 2, 1) := by decide +kernel
theorem dX6_changeSetting_19 : decode cX6_changeSetting 19 = .ok (.iastore, 1) := by decide +kernel
theorem dX6_changeSetting_20 : decode cX6_changeSetting 20 = .ok (.return_, 1) := by decide +kernel
theorem dX6_pileAt_0 : decode cX6_pileAt 0 = .ok (.iload_n 1, 1) := by decide +kernel
theorem dX6_pileAt_1 : decode cX6_pileAt 1 = .ok (.ifCond .lt 29, 3) := by decide +kernel
theorem dX6_pileAt_4 : decode cX6_pileAt 4 = .ok (.iload_n 1, 1) := by decide +kernel
theorem dX6_pileAt_5 : decode cX6_pileAt 5 = .ok (.aload_n 0, 1) := by decide +kernel
theorem dX6_pileAt_6 : decode cX6_pileAt 6 = .ok (.getfield 37, 3) := by decide +kernel
theorem dX6_pileAt_9 : decode cX6_pileAt 9 = .ok (.if_icmp .ge 21, 3) := by decide +kernel
theorem dX6_pileAt_12 : decode cX6_pileAt 12 = .ok (.iload_n 1, 1) := by decide +kernel
theorem dX6_pileAt_13 : decode cX6_pileAt 13 = .ok (.aload_n 0, 1) := by decide +kernel
theorem dX6_pileAt_14 : decode cX6_pileAt 14 = .ok (.getfield 32, 3) := by decide +kernel
theorem dX6_pileAt_17 : decode cX6_pileAt 17 = .ok (.arraylength, 1) := by decide +kernel
theorem dX6_pileAt_18 : decode cX6_pileAt 18 = .ok (.if_icmp .ge 12, 3) := by decide +kernel
theorem dX6_pileAt_21 : decode cX6_pileAt 21 = .ok (.aload_n 0, 1) := by decide +kernel
theorem dX6_pileAt_22 : decode cX6_pileAt 22 = .ok (.getfield 32, 3) := by decide +kernel
theorem dX6_pileAt_25 : decode cX6_pileAt 25 = .ok (.iload_n 1, 1) := by decide +kernel
theorem dX6_pileAt_26 : decode cX6_pileAt 26 = .ok (.aaload, 1) := by decide +kernel
theorem dX6_pileAt_27 : decode cX6_pileAt 27 = .ok (.goto 4, 3) := by decide +kernel
theorem dX6_pileAt_30 : decode cX6_pileAt 30 = .ok (.aconst_null, 1) := by decide +kernel
theorem dX6_pileAt_31 : decode cX6_pileAt 31 = .ok (.areturn, 1) := by decide +kernel
theorem dX6_place_0 : decode cX6_place 0 = .ok (.aload_n 0, 1) := by decide +kernel
theorem dX6_place_1 : decode cX6_place 1 = .ok (.getfield 37, 3) := by decide +kernel
theorem dX6_place_4 : decode cX6_place 4 = .ok (.istore 4, 2) := by decide +kernel
theorem dX6_place_6 : decode cX6_place 6 = .ok (.aload_n 0, 1) := by decide +kernel
theorem dX6_place_7 : decode cX6_place 7 = .ok (.dup, 1) := by decide +kernel
theorem dX6_place_8 : decode cX6_place 8 = .ok (.getfield 37, 3) := by decide +kernel
theorem dX6_place_11 : decode cX6_place 11 = .ok (.iconst 1, 1) := by decide +kernel
theorem dX6_place_12 : decode cX6_place 12 = .ok (.iadd, 1) := by decide +kernel
theorem dX6_place_13 : decode cX6_place 13 = .ok (.putfield 37, 3) := by decide +kernel
theorem dX6_place_16 : decode cX6_place 16 = .ok (.aload_n 0, 1) := by decide +kernel
theorem dX6_place_17 : decode cX6_place 17 = .ok (.iload 4, 2) := by decide +kernel
theorem dX6_place_19 : decode cX6_place 19 = .ok (.invokevirtual 41, 3) := by decide +kernel
theorem dX6_place_22 : decode cX6_place 22 = .ok (.astore 5, 2) := by decide +kernel
theorem dX6_place_24 : decode cX6_place 24 = .ok (.aload 5, 2) := by decide +kernel
theorem dX6_place_26 : decode cX6_place 26 = .ok (.ifnull 11, 3) := by decide +kernel
theorem dX6_place_29 : decode cX6_place 29 = .ok (.aload 5, 2) := by decide +kernel
theorem dX6_place_31 : decode cX6_place 31 = .ok (.iload_n 1, 1) := by decide +kernel
theorem dX6_place_32 : decode cX6_place 32 = .ok (.iload_n 2, 1) := by decide +kernel
theorem dX6_place_33 : decode cX6_place 33 = .ok (.iload_n 3, 1) := by decide +kernel
theorem dX6_place_34 : decode cX6_place 34 = .ok (.invokevirtual 45, 3) := by decide +kernel
theorem dX6_place_37 : decode cX6_place 37 = .ok (.iload 4, 2) := by decide +kernel
theorem dX6_place_39 : decode cX6_place 39 = .ok (.ireturn, 1) := by decide +kernel
theorem dX6_isTaken_0 : decode cX6_isTaken 0 = .ok (.iconst 0, 1) := by decide +kernel
theorem dX6_isTaken_1 : decode cX6_isTaken 1 = .ok (.istore_n 3, 1) := by decide +kernel
theorem dX6_isTaken_2 : decode cX6_isTaken 2 = .ok (.iload_n 3, 1) := by decide +kernel
theorem dX6_isTaken_3 : decode cX6_isTaken 3 = .ok (.aload_n 0, 1) := by decide +kernel
theorem dX6_isTaken_4 : decode cX6_isTaken 4 = .ok (.getfield 37, 3) := by decide +kernel
theorem dX6_isTaken_7 : decode cX6_isTaken 7 = .ok (.if_icmp .ge 41, 3) := by decide +kernel
theorem dX6_isTaken_10 : decode cX6_isTaken 10 = .ok (.aload_n 0, 1) := by decide +kernel
theorem dX6_isTaken_11 : decode cX6_isTaken 11 = .ok (.iload_n 3, 1) := by decide +kernel
theorem dX6_isTaken_12 : decode cX6_isTaken 12 = .ok (.invokevirtual 41, 3) := by decide +kernel
theorem dX6_isTaken_15 : decode cX6_isTaken 15 = .ok (.astore 4, 2) := by decide +kernel
theorem dX6_isTaken_17 : decode cX6_isTaken 17 = .ok (.aload 4, 2) := by decide +kernel
theorem dX6_isTaken_19 : decode cX6_isTaken 19 = .ok (.ifnull 23, 3) := by decide +kernel
theorem dX6_isTaken_22 : decode cX6_isTaken 22 = .ok (.aload 4, 2) := by decide +kernel
theorem dX6_isTaken_24 : decode cX6_isTaken 24 = .ok (.getfield 49, 3) := by decide +kernel
theorem dX6_isTaken_27 : decode cX6_isTaken 27 = .ok (.iload_n 1, 1) := by decide +kernel
theorem dX6_isTaken_28 : decode cX6_isTaken 28 = .ok (.if_icmp .ne 14, 3) := by decide +kernel
theorem dX6_isTaken_31 : decode cX6_isTaken 31 = .ok (.aload 4, 2) := by decide +kernel
theorem dX6_isTaken_33 : decode cX6_isTaken 33 = .ok (.getfield 52, 3) := by decide +kernel
theorem dX6_isTaken_36 : decode cX6_isTaken 36 = .ok (.iload_n 2, 1) := by decide +kernel
theorem dX6_isTaken_37 : decode cX6_isTaken 37 = .ok (.if_icmp .ne 5, 3) := by decide +kernel
theorem dX6_isTaken_40 : decode cX6_isTaken 40 = .ok (.iconst 1, 1) := by decide +kernel
theorem dX6_isTaken_41 : decode cX6_isTaken 41 = .ok (.ireturn, 1) := by decide +kernel
theorem dX6_isTaken_42 : decode cX6_isTaken 42 = .ok (.iinc 3 1, 3) := by decide +kernel
theorem dX6_isTaken_45 : decode cX6_isTaken 45 = .ok (.goto (-43), 3) := by decide +kernel
theorem dX6_isTaken_48 : decode cX6_isTaken 48 = .ok (.iconst 0, 1) := by decide +kernel
theorem dX6_isTaken_49 : decode cX6_isTaken 49 = .ok (.ireturn, 1) := by decide +kernel
theorem dX6_feetIn_0 : decode cX6_feetIn 0 = .ok (.iconst 0, 1) := by decide +kernel
theorem dX6_feetIn_1 : decode cX6_feetIn 1 = .ok (.istore_n 2, 1) := by decide +kernel
theorem dX6_feetIn_2 : decode cX6_feetIn 2 = .ok (.iconst 0, 1) := by decide +kernel
theorem dX6_feetIn_3 : decode cX6_feetIn 3 = .ok (.istore_n 3, 1) := by decide +kernel
theorem dX6_feetIn_4 : decode cX6_feetIn 4 = .ok (.iload_n 3, 1) := by decide +kernel
theorem dX6_feetIn_5 : decode cX6_feetIn 5 = .ok (.aload_n 0, 1) := by decide +kernel
theorem dX6_feetIn_6 : decode cX6_feetIn 6 = .ok (.getfield 37, 3) := by decide +kernel
theorem dX6_feetIn_9 : decode cX6_feetIn 9 = .ok (.if_icmp .ge 40, 3) := by decide +kernel
theorem dX6_feetIn_12 : decode cX6_feetIn 12 = .ok (.aload_n 0, 1) := by decide +kernel
theorem dX6_feetIn_13 : decode cX6_feetIn 13 = .ok (.iload_n 3, 1) := by decide +kernel
theorem dX6_feetIn_14 : decode cX6_feetIn 14 = .ok (.invokevirtual 41, 3) := by decide +kernel
theorem dX6_feetIn_17 : decode cX6_feetIn 17 = .ok (.astore 4, 2) := by decide +kernel
theorem dX6_feetIn_19 : decode cX6_feetIn 19 = .ok (.aload 4, 2) := by decide +kernel
theorem dX6_feetIn_21 : decode cX6_feetIn 21 = .ok (.ifnull 22, 3) := by decide +kernel
theorem dX6_feetIn_24 : decode cX6_feetIn 24 = .ok (.aload_n 0, 1) := by decide +kernel
theorem dX6_feetIn_25 : decode cX6_feetIn 25 = .ok (.getfield 12, 3) := by decide +kernel
theorem dX6_feetIn_28 : decode cX6_feetIn 28 = .ok (.aload 4, 2) := by decide +kernel
theorem dX6_feetIn_30 : decode cX6_feetIn 30 = .ok (.getfield 55, 3) := by decide +kernel
theorem dX6_feetIn_33 : decode cX6_feetIn 33 = .ok (.invokevirtual 58, 3) := by decide +kernel
theorem dX6_feetIn_36 : decode cX6_feetIn 36 = .ok (.iload_n 1, 1) := by decide +kernel
theorem dX6_feetIn_37 : decode cX6_feetIn 37 = .ok (.if_icmp .ne 6, 3) := by decide +kernel
theorem dX6_feetIn_40 : decode cX6_feetIn 40 = .ok (.iinc 2 1, 3) := by decide +kernel
theorem dX6_feetIn_43 : decode cX6_feetIn 43 = .ok (.iinc 3 1, 3) := by decide +kernel
theorem dX6_feetIn_46 : decode cX6_feetIn 46 = .ok (.goto (-42), 3) := by decide +kernel
theorem dX6_feetIn_49 : decode cX6_feetIn 49 = .ok (.iload_n 2, 1) := by decide +kernel
theorem dX6_feetIn_50 : decode cX6_feetIn 50 = .ok (.ireturn, 1) := by decide +kernel
theorem dX6_loosePiles_0 : decode cX6_loosePiles 0 = .ok (.iconst 0, 1) := by decide +kernel
theorem dX6_loosePiles_1 : decode cX6_loosePiles 1 = .ok (.istore_n 1, 1) := by decide +kernel
theorem dX6_loosePiles_2 : decode cX6_loosePiles 2 = .ok (.iconst 0, 1) := by decide +kernel
theorem dX6_loosePiles_3 : decode cX6_loosePiles 3 = .ok (.istore_n 2, 1) := by decide +kernel
theorem dX6_loosePiles_4 : decode cX6_loosePiles 4 = .ok (.iload_n 2, 1) := by decide +kernel
theorem dX6_loosePiles_5 : decode cX6_loosePiles 5 = .ok (.aload_n 0, 1) := by decide +kernel
theorem dX6_loosePiles_6 : decode cX6_loosePiles 6 = .ok (.getfield 37, 3) := by decide +kernel
theorem dX6_loosePiles_9 : decode cX6_loosePiles 9 = .ok (.if_icmp .ge 29, 3) := by decide +kernel
theorem dX6_loosePiles_12 : decode cX6_loosePiles 12 = .ok (.aload_n 0, 1) := by decide +kernel
theorem dX6_loosePiles_13 : decode cX6_loosePiles 13 = .ok (.iload_n 2, 1) := by decide +kernel
theorem dX6_loosePiles_14 : decode cX6_loosePiles 14 = .ok (.invokevirtual 41, 3) := by decide +kernel
theorem dX6_loosePiles_17 : decode cX6_loosePiles 17 = .ok (.astore_n 3, 1) := by decide +kernel
theorem dX6_loosePiles_18 : decode cX6_loosePiles 18 = .ok (.aload_n 3, 1) := by decide +kernel
theorem dX6_loosePiles_19 : decode cX6_loosePiles 19 = .ok (.ifnull 13, 3) := by decide +kernel
theorem dX6_loosePiles_22 : decode cX6_loosePiles 22 = .ok (.aload_n 3, 1) := by decide +kernel
theorem dX6_loosePiles_23 : decode cX6_loosePiles 23 = .ok (.getfield 62, 3) := by decide +kernel
theorem dX6_loosePiles_26 : decode cX6_loosePiles 26 = .ok (.ifCond .eq 6, 3) := by decide +kernel
theorem dX6_loosePiles_29 : decode cX6_loosePiles 29 = .ok (.iinc 1 1, 3) := by decide +kernel
theorem dX6_loosePiles_32 : decode cX6_loosePiles 32 = .ok (.iinc 2 1, 3) := by decide +kernel
theorem dX6_loosePiles_35 : decode cX6_loosePiles 35 = .ok (.goto (-31), 3) := by decide +kernel
theorem dX6_loosePiles_38 : decode cX6_loosePiles 38 = .ok (.iload_n 1, 1) := by decide +kernel
theorem dX6_loosePiles_39 : decode cX6_loosePiles 39 = .ok (.ireturn, 1) := by decide +kernel
theorem dX6_pilesWithoutBlows_0 : decode cX6_pilesWithoutBlows 0 = .ok (.iconst 0, 1) := by decide +kernel
theorem dX6_pilesWithoutBlows_1 : decode cX6_pilesWithoutBlows 1 = .ok (.istore_n 1, 1) := by decide +kernel
theorem dX6_pilesWithoutBlows_2 : decode cX6_pilesWithoutBlows 2 = .ok (.iconst 0, 1) := by decide +kernel
theorem dX6_pilesWithoutBlows_3 : decode cX6_pilesWithoutBlows 3 = .ok (.istore_n 2, 1) := by decide +kernel
theorem dX6_pilesWithoutBlows_4 : decode cX6_pilesWithoutBlows 4 = .ok (.iload_n 2, 1) := by decide +kernel
theorem dX6_pilesWithoutBlows_5 : decode cX6_pilesWithoutBlows 5 = .ok (.aload_n 0, 1) := by decide +kernel
theorem dX6_pilesWithoutBlows_6 : decode cX6_pilesWithoutBlows 6 = .ok (.getfield 37, 3) := by decide +kernel
theorem dX6_pilesWithoutBlows_9 : decode cX6_pilesWithoutBlows 9 = .ok (.if_icmp .ge 29, 3) := by decide +kernel
theorem dX6_pilesWithoutBlows_12 : decode cX6_pilesWithoutBlows 12 = .ok (.aload_n 0, 1) := by decide +kernel
theorem dX6_pilesWithoutBlows_13 : decode cX6_pilesWithoutBlows 13 = .ok (.iload_n 2, 1) := by decide +kernel
theorem dX6_pilesWithoutBlows_14 : decode cX6_pilesWithoutBlows 14 = .ok (.invokevirtual 41, 3) := by decide +kernel
theorem dX6_pilesWithoutBlows_17 : decode cX6_pilesWithoutBlows 17 = .ok (.astore_n 3, 1) := by decide +kernel
theorem dX6_pilesWithoutBlows_18 : decode cX6_pilesWithoutBlows 18 = .ok (.aload_n 3, 1) := by decide +kernel
theorem dX6_pilesWithoutBlows_19 : decode cX6_pilesWithoutBlows 19 = .ok (.ifnull 13, 3) := by decide +kernel
theorem dX6_pilesWithoutBlows_22 : decode cX6_pilesWithoutBlows 22 = .ok (.aload_n 3, 1) := by decide +kernel
theorem dX6_pilesWithoutBlows_23 : decode cX6_pilesWithoutBlows 23 = .ok (.getfield 66, 3) := by decide +kernel
theorem dX6_pilesWithoutBlows_26 : decode cX6_pilesWithoutBlows 26 = .ok (.ifCond .ne 6, 3) := by decide +kernel
theorem dX6_pilesWithoutBlows_29 : decode cX6_pilesWithoutBlows 29 = .ok (.iinc 1 1, 3) := by decide +kernel
theorem dX6_pilesWithoutBlows_32 : decode cX6_pilesWithoutBlows 32 = .ok (.iinc 2 1, 3) := by decide +kernel
theorem dX6_pilesWithoutBlows_35 : decode cX6_pilesWithoutBlows 35 = .ok (.goto (-31), 3) := by decide +kernel
theorem dX6_pilesWithoutBlows_38 : decode cX6_pilesWithoutBlows 38 = .ok (.iload_n 1, 1) := by decide +kernel
theorem dX6_pilesWithoutBlows_39 : decode cX6_pilesWithoutBlows 39 = .ok (.ireturn, 1) := by decide +kernel
theorem dX6_footSum_0 : decode cX6_footSum 0 = .ok (.lconst 0, 1) := by decide +kernel
theorem dX6_footSum_1 : decode cX6_footSum 1 = .ok (.lstore_n 1, 1) := by decide +kernel
theorem dX6_footSum_2 : decode cX6_footSum 2 = .ok (.iconst 0, 1) := by decide +kernel
theorem dX6_footSum_3 : decode cX6_footSum 3 = .ok (.istore_n 3, 1) := by decide +kernel
theorem dX6_footSum_4 : decode cX6_footSum 4 = .ok (.iload_n 3, 1) := by decide +kernel
theorem dX6_footSum_5 : decode cX6_footSum 5 = .ok (.aload_n 0, 1) := by decide +kernel
theorem dX6_footSum_6 : decode cX6_footSum 6 = .ok (.getfield 37, 3) := by decide +kernel
theorem dX6_footSum_9 : decode cX6_footSum 9 = .ok (.if_icmp .ge 30, 3) := by decide +kernel
theorem dX6_footSum_12 : decode cX6_footSum 12 = .ok (.aload_n 0, 1) := by decide +kernel
theorem dX6_footSum_13 : decode cX6_footSum 13 = .ok (.iload_n 3, 1) := by decide +kernel
theorem dX6_footSum_14 : decode cX6_footSum 14 = .ok (.invokevirtual 41, 3) := by decide +kernel
theorem dX6_footSum_17 : decode cX6_footSum 17 = .ok (.astore 4, 2) := by decide +kernel
theorem dX6_footSum_19 : decode cX6_footSum 19 = .ok (.aload 4, 2) := by decide +kernel
theorem dX6_footSum_21 : decode cX6_footSum 21 = .ok (.ifnull 12, 3) := by decide +kernel
theorem dX6_footSum_24 : decode cX6_footSum 24 = .ok (.lload_n 1, 1) := by decide +kernel
theorem dX6_footSum_25 : decode cX6_footSum 25 = .ok (.aload 4, 2) := by decide +kernel
theorem dX6_footSum_27 : decode cX6_footSum 27 = .ok (.getfield 55, 3) := by decide +kernel
theorem dX6_footSum_30 : decode cX6_footSum 30 = .ok (.i2l, 1) := by decide +kernel
theorem dX6_footSum_31 : decode cX6_footSum 31 = .ok (.ladd, 1) := by decide +kernel
theorem dX6_footSum_32 : decode cX6_footSum 32 = .ok (.lstore_n 1, 1) := by decide +kernel
theorem dX6_footSum_33 : decode cX6_footSum 33 = .ok (.iinc 3 1, 3) := by decide +kernel
theorem dX6_footSum_36 : decode cX6_footSum 36 = .ok (.goto (-32), 3) := by decide +kernel
theorem dX6_footSum_39 : decode cX6_footSum 39 = .ok (.lload_n 1, 1) := by decide +kernel
theorem dX6_footSum_40 : decode cX6_footSum 40 = .ok (.lreturn, 1) := by decide +kernel
theorem dX6_areNear_0 : decode cX6_areNear 0 = .ok (.aload_n 0, 1) := by decide +kernel
theorem dX6_areNear_1 : decode cX6_areNear 1 = .ok (.iconst 4, 1) := by decide +kernel
theorem dX6_areNear_2 : decode cX6_areNear 2 = .ok (.invokevirtual 69, 3) := by decide +kernel
theorem dX6_areNear_5 : decode cX6_areNear 5 = .ok (.istore_n 3, 1) := by decide +kernel
theorem dX6_areNear_6 : decode cX6_areNear 6 = .ok (.aload_n 1, 1) := by decide +kernel
theorem dX6_areNear_7 : decode cX6_areNear 7 = .ok (.aload_n 2, 1) := by decide +kernel
theorem dX6_areNear_8 : decode cX6_areNear 8 = .ok (.if_acmp .eq 39, 3) := by decide +kernel
theorem dX6_areNear_11 : decode cX6_areNear 11 = .ok (.aload_n 1, 1) := by decide +kernel
theorem dX6_areNear_12 : decode cX6_areNear 12 = .ok (.getfield 49, 3) := by decide +kernel
theorem dX6_areNear_15 : decode cX6_areNear 15 = .ok (.aload_n 2, 1) := by decide +kernel
theorem dX6_areNear_16 : decode cX6_areNear 16 = .ok (.getfield 49, 3) := by decide +kernel
theorem dX6_areNear_19 : decode cX6_areNear 19 = .ok (.isub, 1) := by decide +kernel
theorem dX6_areNear_20 : decode cX6_areNear 20 = .ok (.invokestatic 72, 3) := by decide +kernel
theorem dX6_areNear_23 : decode cX6_areNear 23 = .ok (.iload_n 3, 1) := by decide +kernel
theorem dX6_areNear_24 : decode cX6_areNear 24 = .ok (.if_icmp .gt 23, 3) := by decide +kernel
theorem dX6_areNear_27 : decode cX6_areNear 27 = .ok (.aload_n 1, 1) := by decide +kernel
theorem dX6_areNear_28 : decode cX6_areNear 28 = .ok (.getfield 52, 3) := by decide +kernel
theorem dX6_areNear_31 : decode cX6_areNear 31 = .ok (.aload_n 2, 1) := by decide +kernel
theorem dX6_areNear_32 : decode cX6_areNear 32 = .ok (.getfield 52, 3) := by decide +kernel
theorem dX6_areNear_35 : decode cX6_areNear 35 = .ok (.isub, 1) := by decide +kernel
theorem dX6_areNear_36 : decode cX6_areNear 36 = .ok (.invokestatic 72, 3) := by decide +kernel
theorem dX6_areNear_39 : decode cX6_areNear 39 = .ok (.iload_n 3, 1) := by decide +kernel
theorem dX6_areNear_40 : decode cX6_areNear 40 = .ok (.if_icmp .gt 7, 3) := by decide +kernel
theorem dX6_areNear_43 : decode cX6_areNear 43 = .ok (.iconst 1, 1) := by decide +kernel
theorem dX6_areNear_44 : decode cX6_areNear 44 = .ok (.goto 4, 3) := by decide +kernel
theorem dX6_areNear_47 : decode cX6_areNear 47 = .ok (.iconst 0, 1) := by decide +kernel
theorem dX6_areNear_48 : decode cX6_areNear 48 = .ok (.ireturn, 1) := by decide +kernel
theorem dX6_pilesNear_0 : decode cX6_pilesNear 0 = .ok (.iconst 0, 1) := by decide +kernel
theorem dX6_pilesNear_1 : decode cX6_pilesNear 1 = .ok (.istore_n 2, 1) := by decide +kernel
theorem dX6_pilesNear_2 : decode cX6_pilesNear 2 = .ok (.iconst 0, 1) := by decide +kernel
theorem dX6_pilesNear_3 : decode cX6_pilesNear 3 = .ok (.istore_n 3, 1) := by decide +kernel
theorem dX6_pilesNear_4 : decode cX6_pilesNear 4 = .ok (.iload_n 3, 1) := by decide +kernel
theorem dX6_pilesNear_5 : decode cX6_pilesNear 5 = .ok (.aload_n 0, 1) := by decide +kernel
theorem dX6_pilesNear_6 : decode cX6_pilesNear 6 = .ok (.getfield 37, 3) := by decide +kernel
theorem dX6_pilesNear_9 : decode cX6_pilesNear 9 = .ok (.if_icmp .ge 34, 3) := by decide +kernel
theorem dX6_pilesNear_12 : decode cX6_pilesNear 12 = .ok (.aload_n 0, 1) := by decide +kernel
theorem dX6_pilesNear_13 : decode cX6_pilesNear 13 = .ok (.iload_n 3, 1) := by decide +kernel
theorem dX6_pilesNear_14 : decode cX6_pilesNear 14 = .ok (.invokevirtual 41, 3) := by decide +kernel
theorem dX6_pilesNear_17 : decode cX6_pilesNear 17 = .ok (.astore 4, 2) := by decide +kernel
theorem dX6_pilesNear_19 : decode cX6_pilesNear 19 = .ok (.aload 4, 2) := by decide +kernel
theorem dX6_pilesNear_21 : decode cX6_pilesNear 21 = .ok (.ifnull 16, 3) := by decide +kernel
theorem dX6_pilesNear_24 : decode cX6_pilesNear 24 = .ok (.aload_n 0, 1) := by decide +kernel
theorem dX6_pilesNear_25 : decode cX6_pilesNear 25 = .ok (.aload_n 1, 1) := by decide +kernel
theorem dX6_pilesNear_26 : decode cX6_pilesNear 26 = .ok (.aload 4, 2) := by decide +kernel
theorem dX6_pilesNear_28 : decode cX6_pilesNear 28 = .ok (.invokevirtual 77, 3) := by decide +kernel
theorem dX6_pilesNear_31 : decode cX6_pilesNear 31 = .ok (.ifCond .eq 6, 3) := by decide +kernel
theorem dX6_pilesNear_34 : decode cX6_pilesNear 34 = .ok (.iinc 2 1, 3) := by decide +kernel
theorem dX6_pilesNear_37 : decode cX6_pilesNear 37 = .ok (.iinc 3 1, 3) := by decide +kernel
theorem dX6_pilesNear_40 : decode cX6_pilesNear 40 = .ok (.goto (-36), 3) := by decide +kernel
theorem dX6_pilesNear_43 : decode cX6_pilesNear 43 = .ok (.iload_n 2, 1) := by decide +kernel
theorem dX6_pilesNear_44 : decode cX6_pilesNear 44 = .ok (.ireturn, 1) := by decide +kernel
theorem dX6_energyOf_0 : decode cX6_energyOf 0 = .ok (.aload_n 0, 1) := by decide +kernel
theorem dX6_energyOf_1 : decode cX6_energyOf 1 = .ok (.iconst 0, 1) := by decide +kernel
theorem dX6_energyOf_2 : decode cX6_energyOf 2 = .ok (.invokevirtual 69, 3) := by decide +kernel
theorem dX6_energyOf_5 : decode cX6_energyOf 5 = .ok (.i2l, 1) := by decide +kernel
theorem dX6_energyOf_6 : decode cX6_energyOf 6 = .ok (.iload_n 1, 1) := by decide +kernel
theorem dX6_energyOf_7 : decode cX6_energyOf 7 = .ok (.i2l, 1) := by decide +kernel
theorem dX6_energyOf_8 : decode cX6_energyOf 8 = .ok (.lmul, 1) := by decide +kernel
theorem dX6_energyOf_9 : decode cX6_energyOf 9 = .ok (.aload_n 0, 1) := by decide +kernel
theorem dX6_energyOf_10 : decode cX6_energyOf 10 = .ok (.iconst 1, 1) := by decide +kernel
theorem dX6_energyOf_11 : decode cX6_energyOf 11 = .ok (.invokevirtual 69, 3) := by decide +kernel
theorem dX6_energyOf_14 : decode cX6_energyOf 14 = .ok (.i2l, 1) := by decide +kernel
theorem dX6_energyOf_15 : decode cX6_energyOf 15 = .ok (.lmul, 1) := by decide +kernel
theorem dX6_energyOf_16 : decode cX6_energyOf 16 = .ok (.ldc2_w 81, 3) := by decide +kernel
theorem dX6_energyOf_19 : decode cX6_energyOf 19 = .ok (.ldiv, 1) := by decide +kernel
theorem dX6_energyOf_20 : decode cX6_energyOf 20 = .ok (.l2i, 1) := by decide +kernel
theorem dX6_energyOf_21 : decode cX6_energyOf 21 = .ok (.ireturn, 1) := by decide +kernel
theorem dX6_freeSet_0 : decode cX6_freeSet 0 = .ok (.iload_n 2, 1) := by decide +kernel
theorem dX6_freeSet_1 : decode cX6_freeSet 1 = .ok (.ifCond .gt 5, 3) := by decide +kernel
theorem dX6_freeSet_4 : decode cX6_freeSet 4 = .ok (.iconst 0, 1) := by decide +kernel
theorem dX6_freeSet_5 : decode cX6_freeSet 5 = .ok (.ireturn, 1) := by decide +kernel
theorem dX6_freeSet_6 : decode cX6_freeSet 6 = .ok (.sipush 500, 3) := by decide +kernel
theorem dX6_freeSet_9 : decode cX6_freeSet 9 = .ok (.iconst 0, 1) := by decide +kernel
theorem dX6_freeSet_10 : decode cX6_freeSet 10 = .ok (.iload_n 1, 1) := by decide +kernel
theorem dX6_freeSet_11 : decode cX6_freeSet 11 = .ok (.iload_n 2, 1) := by decide +kernel
theorem dX6_freeSet_12 : decode cX6_freeSet 12 = .ok (.idiv, 1) := by decide +kernel
theorem dX6_freeSet_13 : decode cX6_freeSet 13 = .ok (.aload_n 0, 1) := by decide +kernel
theorem dX6_freeSet_14 : decode cX6_freeSet 14 = .ok (.iconst 2, 1) := by decide +kernel
theorem dX6_freeSet_15 : decode cX6_freeSet 15 = .ok (.invokevirtual 69, 3) := by decide +kernel
theorem dX6_freeSet_18 : decode cX6_freeSet 18 = .ok (.isub, 1) := by decide +kernel
theorem dX6_freeSet_19 : decode cX6_freeSet 19 = .ok (.invokestatic 83, 3) := by decide +kernel
theorem dX6_freeSet_22 : decode cX6_freeSet 22 = .ok (.invokestatic 87, 3) := by decide +kernel
theorem dX6_freeSet_25 : decode cX6_freeSet 25 = .ok (.ireturn, 1) := by decide +kernel
theorem dX6_setOf_0 : decode cX6_setOf 0 = .ok (.iload_n 3, 1) := by decide +kernel
theorem dX6_setOf_1 : decode cX6_setOf 1 = .ok (.iload_n 2, 1) := by decide +kernel
theorem dX6_setOf_2 : decode cX6_setOf 2 = .ok (.isub, 1) := by decide +kernel
theorem dX6_setOf_3 : decode cX6_setOf 3 = .ok (.aload_n 0, 1) := by decide +kernel
theorem dX6_setOf_4 : decode cX6_setOf 4 = .ok (.iload_n 1, 1) := by decide +kernel
theorem dX6_setOf_5 : decode cX6_setOf 5 = .ok (.aload_n 0, 1) := by decide +kernel
theorem dX6_setOf_6 : decode cX6_setOf 6 = .ok (.getfield 12, 3) := by decide +kernel
theorem dX6_setOf_9 : decode cX6_setOf 9 = .ok (.iload_n 2, 1) := by decide +kernel
theorem dX6_setOf_10 : decode cX6_setOf 10 = .ok (.invokevirtual 90, 3) := by decide +kernel
theorem dX6_setOf_13 : decode cX6_setOf 13 = .ok (.invokevirtual 93, 3) := by decide +kernel
theorem dX6_setOf_16 : decode cX6_setOf 16 = .ok (.invokestatic 87, 3) := by decide +kernel
theorem dX6_setOf_19 : decode cX6_setOf 19 = .ok (.ireturn, 1) := by decide +kernel
theorem dX6_loadOf_0 : decode cX6_loadOf 0 = .ok (.iload_n 2, 1) := by decide +kernel
theorem dX6_loadOf_1 : decode cX6_loadOf 1 = .ok (.aload_n 0, 1) := by decide +kernel
theorem dX6_loadOf_2 : decode cX6_loadOf 2 = .ok (.iconst 2, 1) := by decide +kernel
theorem dX6_loadOf_3 : decode cX6_loadOf 3 = .ok (.invokevirtual 69, 3) := by decide +kernel
theorem dX6_loadOf_6 : decode cX6_loadOf 6 = .ok (.iadd, 1) := by decide +kernel
theorem dX6_loadOf_7 : decode cX6_loadOf 7 = .ok (.istore_n 3, 1) := by decide +kernel
theorem dX6_loadOf_8 : decode cX6_loadOf 8 = .ok (.iload_n 3, 1) := by decide +kernel
theorem dX6_loadOf_9 : decode cX6_loadOf 9 = .ok (.ifCond .gt 8, 3) := by decide +kernel
theorem dX6_loadOf_12 : decode cX6_loadOf 12 = .ok (.ldc 96, 2) := by decide +kernel
theorem dX6_loadOf_14 : decode cX6_loadOf 14 = .ok (.goto 11, 3) := by decide +kernel
theorem dX6_loadOf_17 : decode cX6_loadOf 17 = .ok (.ldc 96, 2) := by decide +kernel
theorem dX6_loadOf_19 : decode cX6_loadOf 19 = .ok (.iload_n 1, 1) := by decide +kernel
theorem dX6_loadOf_20 : decode cX6_loadOf 20 = .ok (.iload_n 3, 1) := by decide +kernel
theorem dX6_loadOf_21 : decode cX6_loadOf 21 = .ok (.idiv, 1) := by decide +kernel
theorem dX6_loadOf_22 : decode cX6_loadOf 22 = .ok (.invokestatic 87, 3) := by decide +kernel
theorem dX6_loadOf_25 : decode cX6_loadOf 25 = .ok (.ireturn, 1) := by decide +kernel
theorem dX6_allowedLoad_0 : decode cX6_allowedLoad 0 = .ok (.aload_n 0, 1) := by decide +kernel
theorem dX6_allowedLoad_1 : decode cX6_allowedLoad 1 = .ok (.iconst 3, 1) := by decide +kernel
theorem dX6_allowedLoad_2 : decode cX6_allowedLoad 2 = .ok (.invokevirtual 69, 3) := by decide +kernel
theorem dX6_allowedLoad_5 : decode cX6_allowedLoad 5 = .ok (.istore_n 2, 1) := by decide +kernel
theorem dX6_allowedLoad_6 : decode cX6_allowedLoad 6 = .ok (.iload_n 2, 1) := by decide +kernel
theorem dX6_allowedLoad_7 : decode cX6_allowedLoad 7 = .ok (.ifCond .gt 5, 3) := by decide +kernel
theorem dX6_allowedLoad_10 : decode cX6_allowedLoad 10 = .ok (.iconst 0, 1) := by decide +kernel
theorem dX6_allowedLoad_11 : decode cX6_allowedLoad 11 = .ok (.ireturn, 1) := by decide +kernel
theorem dX6_allowedLoad_12 : decode cX6_allowedLoad 12 = .ok (.aload_n 1, 1) := by decide +kernel
theorem dX6_allowedLoad_13 : decode cX6_allowedLoad 13 = .ok (.getfield 97, 3) := by decide +kernel
theorem dX6_allowedLoad_16 : decode cX6_allowedLoad 16 = .ok (.bipush 100, 2) := by decide +kernel
theorem dX6_allowedLoad_18 : decode cX6_allowedLoad 18 = .ok (.imul, 1) := by decide +kernel
theorem dX6_allowedLoad_19 : decode cX6_allowedLoad 19 = .ok (.iload_n 2, 1) := by decide +kernel
theorem dX6_allowedLoad_20 : decode cX6_allowedLoad 20 = .ok (.idiv, 1) := by decide +kernel
theorem dX6_allowedLoad_21 : decode cX6_allowedLoad 21 = .ok (.istore_n 3, 1) := by decide +kernel
theorem dX6_allowedLoad_22 : decode cX6_allowedLoad 22 = .ok (.aload_n 1, 1) := by decide +kernel
theorem dX6_allowedLoad_23 : decode cX6_allowedLoad 23 = .ok (.getfield 62, 3) := by decide +kernel
theorem dX6_allowedLoad_26 : decode cX6_allowedLoad 26 = .ok (.ifCond .eq 9, 3) := by decide +kernel
theorem dX6_allowedLoad_29 : decode cX6_allowedLoad 29 = .ok (.iload_n 3, 1) := by decide +kernel
theorem dX6_allowedLoad_30 : decode cX6_allowedLoad 30 = .ok (.iconst 2, 1) := by decide +kernel
theorem dX6_allowedLoad_31 : decode cX6_allowedLoad 31 = .ok (.idiv, 1) := by decide +kernel
theorem dX6_allowedLoad_32 : decode cX6_allowedLoad 32 = .ok (.goto 4, 3) := by decide +kernel
theorem dX6_allowedLoad_35 : decode cX6_allowedLoad 35 = .ok (.iload_n 3, 1) := by decide +kernel
theorem dX6_allowedLoad_36 : decode cX6_allowedLoad 36 = .ok (.ireturn, 1) := by decide +kernel
theorem dX6_liftBy_0 : decode cX6_liftBy 0 = .ok (.iload_n 1, 1) := by decide +kernel
theorem dX6_liftBy_1 : decode cX6_liftBy 1 = .ok (.aload_n 0, 1) := by decide +kernel
theorem dX6_liftBy_2 : decode cX6_liftBy 2 = .ok (.iconst 5, 1) := by decide +kernel
theorem dX6_liftBy_3 : decode cX6_liftBy 3 = .ok (.invokevirtual 69, 3) := by decide +kernel
theorem dX6_liftBy_6 : decode cX6_liftBy 6 = .ok (.imul, 1) := by decide +kernel
theorem dX6_liftBy_7 : decode cX6_liftBy 7 = .ok (.bipush 100, 2) := by decide +kernel
theorem dX6_liftBy_9 : decode cX6_liftBy 9 = .ok (.idiv, 1) := by decide +kernel
theorem dX6_liftBy_10 : decode cX6_liftBy 10 = .ok (.ireturn, 1) := by decide +kernel
theorem dX6_hit_0 : decode cX6_hit 0 = .ok (.aload_n 0, 1) := by decide +kernel
theorem dX6_hit_1 : decode cX6_hit 1 = .ok (.iload_n 2, 1) := by decide +kernel
theorem dX6_hit_2 : decode cX6_hit 2 = .ok (.invokevirtual 100, 3) := by decide +kernel
theorem dX6_hit_5 : decode cX6_hit 5 = .ok (.istore_n 3, 1) := by decide +kernel
theorem dX6_hit_6 : decode cX6_hit 6 = .ok (.aload_n 0, 1) := by decide +kernel
theorem dX6_hit_7 : decode cX6_hit 7 = .ok (.getfield 12, 3) := by decide +kernel
theorem dX6_hit_10 : decode cX6_hit 10 = .ok (.aload_n 1, 1) := by decide +kernel
theorem dX6_hit_11 : decode cX6_hit 11 = .ok (.getfield 55, 3) := by decide +kernel
theorem dX6_hit_14 : decode cX6_hit 14 = .ok (.invokevirtual 90, 3) := by decide +kernel
theorem dX6_hit_17 : decode cX6_hit 17 = .ok (.istore 4, 2) := by decide +kernel
theorem dX6_hit_19 : decode cX6_hit 19 = .ok (.aload_n 0, 1) := by decide +kernel
theorem dX6_hit_20 : decode cX6_hit 20 = .ok (.iload_n 3, 1) := by decide +kernel
theorem dX6_hit_21 : decode cX6_hit 21 = .ok (.aload_n 1, 1) := by decide +kernel
theorem dX6_hit_22 : decode cX6_hit 22 = .ok (.getfield 55, 3) := by decide +kernel
theorem dX6_hit_25 : decode cX6_hit 25 = .ok (.aload_n 1, 1) := by decide +kernel
theorem dX6_hit_26 : decode cX6_hit 26 = .ok (.getfield 103, 3) := by decide +kernel
theorem dX6_hit_29 : decode cX6_hit 29 = .ok (.invokevirtual 106, 3) := by decide +kernel
theorem dX6_hit_32 : decode cX6_hit 32 = .ok (.istore 5, 2) := by decide +kernel
theorem dX6_hit_34 : decode cX6_hit 34 = .ok (.aload_n 1, 1) := by decide +kernel
theorem dX6_hit_35 : decode cX6_hit 35 = .ok (.iload 5, 2) := by decide +kernel
theorem dX6_hit_37 : decode cX6_hit 37 = .ok (.aload_n 0, 1) := by decide +kernel
theorem dX6_hit_38 : decode cX6_hit 38 = .ok (.iload_n 3, 1) := by decide +kernel
theorem dX6_hit_39 : decode cX6_hit 39 = .ok (.iload 5, 2) := by decide +kernel
theorem dX6_hit_41 : decode cX6_hit 41 = .ok (.invokevirtual 110, 3) := by decide +kernel
theorem dX6_hit_44 : decode cX6_hit 44 = .ok (.invokevirtual 113, 3) := by decide +kernel
theorem dX6_hit_47 : decode cX6_hit 47 = .ok (.aload_n 0, 1) := by decide +kernel
theorem dX6_hit_48 : decode cX6_hit 48 = .ok (.dup, 1) := by decide +kernel
theorem dX6_hit_49 : decode cX6_hit 49 = .ok (.getfield 117, 3) := by decide +kernel
theorem dX6_hit_52 : decode cX6_hit 52 = .ok (.lconst 1, 1) := by decide +kernel
theorem dX6_hit_53 : decode cX6_hit 53 = .ok (.ladd, 1) := by decide +kernel
theorem dX6_hit_54 : decode cX6_hit 54 = .ok (.putfield 117, 3) := by decide +kernel
theorem dX6_hit_57 : decode cX6_hit 57 = .ok (.aload_n 0, 1) := by decide +kernel
theorem dX6_hit_58 : decode cX6_hit 58 = .ok (.dup, 1) := by decide +kernel
theorem dX6_hit_59 : decode cX6_hit 59 = .ok (.getfield 121, 3) := by decide +kernel
theorem dX6_hit_62 : decode cX6_hit 62 = .ok (.iload_n 3, 1) := by decide +kernel
theorem dX6_hit_63 : decode cX6_hit 63 = .ok (.i2l, 1) := by decide +kernel
theorem dX6_hit_64 : decode cX6_hit 64 = .ok (.ladd, 1) := by decide +kernel
theorem dX6_hit_65 : decode cX6_hit 65 = .ok (.putfield 121, 3) := by decide +kernel
theorem dX6_hit_68 : decode cX6_hit 68 = .ok (.aload_n 0, 1) := by decide +kernel
theorem dX6_hit_69 : decode cX6_hit 69 = .ok (.dup, 1) := by decide +kernel
theorem dX6_hit_70 : decode cX6_hit 70 = .ok (.getfield 124, 3) := by decide +kernel
theorem dX6_hit_73 : decode cX6_hit 73 = .ok (.iload 5, 2) := by decide +kernel
theorem dX6_hit_75 : decode cX6_hit 75 = .ok (.i2l, 1) := by decide +kernel
theorem dX6_hit_76 : decode cX6_hit 76 = .ok (.iload 4, 2) := by decide +kernel
theorem dX6_hit_78 : decode cX6_hit 78 = .ok (.i2l, 1) := by decide +kernel
theorem dX6_hit_79 : decode cX6_hit 79 = .ok (.lmul, 1) := by decide +kernel
theorem dX6_hit_80 : decode cX6_hit 80 = .ok (.ladd, 1) := by decide +kernel
theorem dX6_hit_81 : decode cX6_hit 81 = .ok (.putfield 124, 3) := by decide +kernel
theorem dX6_hit_84 : decode cX6_hit 84 = .ok (.aload_n 0, 1) := by decide +kernel
theorem dX6_hit_85 : decode cX6_hit 85 = .ok (.dup, 1) := by decide +kernel
theorem dX6_hit_86 : decode cX6_hit 86 = .ok (.getfield 127, 3) := by decide +kernel
theorem dX6_hit_89 : decode cX6_hit 89 = .ok (.iload 5, 2) := by decide +kernel
theorem dX6_hit_91 : decode cX6_hit 91 = .ok (.i2l, 1) := by decide +kernel
theorem dX6_hit_92 : decode cX6_hit 92 = .ok (.ladd, 1) := by decide +kernel
theorem dX6_hit_93 : decode cX6_hit 93 = .ok (.putfield 127, 3) := by decide +kernel
theorem dX6_hit_96 : decode cX6_hit 96 = .ok (.aload_n 0, 1) := by decide +kernel
theorem dX6_hit_97 : decode cX6_hit 97 = .ok (.aload_n 1, 1) := by decide +kernel
theorem dX6_hit_98 : decode cX6_hit 98 = .ok (.aload_n 0, 1) := by decide +kernel
theorem dX6_hit_99 : decode cX6_hit 99 = .ok (.iload 5, 2) := by decide +kernel
theorem dX6_hit_101 : decode cX6_hit 101 = .ok (.invokevirtual 130, 3) := by decide +kernel
theorem dX6_hit_104 : decode cX6_hit 104 = .ok (.invokevirtual 133, 3) := by decide +kernel
theorem dX6_hit_107 : decode cX6_hit 107 = .ok (.iload 5, 2) := by decide +kernel
theorem dX6_hit_109 : decode cX6_hit 109 = .ok (.ireturn, 1) := by decide +kernel
theorem dX6_liftOthers_0 : decode cX6_liftOthers 0 = .ok (.iconst 0, 1) := by decide +kernel
theorem dX6_liftOthers_1 : decode cX6_liftOthers 1 = .ok (.istore_n 3, 1) := by decide +kernel
theorem dX6_liftOthers_2 : decode cX6_liftOthers 2 = .ok (.iload_n 3, 1) := by decide +kernel
theorem dX6_liftOthers_3 : decode cX6_liftOthers 3 = .ok (.aload_n 0, 1) := by decide +kernel
theorem dX6_liftOthers_4 : decode cX6_liftOthers 4 = .ok (.getfield 37, 3) := by decide +kernel
theorem dX6_liftOthers_7 : decode cX6_liftOthers 7 = .ok (.if_icmp .ge 65, 3) := by decide +kernel
theorem dX6_liftOthers_10 : decode cX6_liftOthers 10 = .ok (.aload_n 0, 1) := by decide +kernel
theorem dX6_liftOthers_11 : decode cX6_liftOthers 11 = .ok (.iload_n 3, 1) := by decide +kernel
theorem dX6_liftOthers_12 : decode cX6_liftOthers 12 = .ok (.invokevirtual 41, 3) := by decide +kernel
theorem dX6_liftOthers_15 : decode cX6_liftOthers 15 = .ok (.astore 4, 2) := by decide +kernel
theorem dX6_liftOthers_17 : decode cX6_liftOthers 17 = .ok (.aload 4, 2) := by decide +kernel
theorem dX6_liftOthers_19 : decode cX6_liftOthers 19 = .ok (.ifnull 47, 3) := by decide +kernel
theorem dX6_liftOthers_22 : decode cX6_liftOthers 22 = .ok (.aload_n 0, 1) := by decide +kernel
theorem dX6_liftOthers_23 : decode cX6_liftOthers 23 = .ok (.aload_n 1, 1) := by decide +kernel
theorem dX6_liftOthers_24 : decode cX6_liftOthers 24 = .ok (.aload 4, 2) := by decide +kernel
theorem dX6_liftOthers_26 : decode cX6_liftOthers 26 = .ok (.invokevirtual 77, 3) := by decide +kernel
theorem dX6_liftOthers_29 : decode cX6_liftOthers 29 = .ok (.ifCond .eq 37, 3) := by decide +kernel
theorem dX6_liftOthers_32 : decode cX6_liftOthers 32 = .ok (.aload 4, 2) := by decide +kernel
theorem dX6_liftOthers_34 : decode cX6_liftOthers 34 = .ok (.getfield 55, 3) := by decide +kernel
theorem dX6_liftOthers_37 : decode cX6_liftOthers 37 = .ok (.aload_n 1, 1) := by decide +kernel
theorem dX6_liftOthers_38 : decode cX6_liftOthers 38 = .ok (.getfield 55, 3) := by decide +kernel
theorem dX6_liftOthers_41 : decode cX6_liftOthers 41 = .ok (.iload_n 2, 1) := by decide +kernel
theorem dX6_liftOthers_42 : decode cX6_liftOthers 42 = .ok (.invokestatic 137, 3) := by decide +kernel
theorem dX6_liftOthers_45 : decode cX6_liftOthers 45 = .ok (.istore 5, 2) := by decide +kernel
theorem dX6_liftOthers_47 : decode cX6_liftOthers 47 = .ok (.aload 4, 2) := by decide +kernel
theorem dX6_liftOthers_49 : decode cX6_liftOthers 49 = .ok (.iload 5, 2) := by decide +kernel
theorem dX6_liftOthers_51 : decode cX6_liftOthers 51 = .ok (.invokevirtual 140, 3) := by decide +kernel
theorem dX6_liftOthers_54 : decode cX6_liftOthers 54 = .ok (.aload_n 0, 1) := by decide +kernel
theorem dX6_liftOthers_55 : decode cX6_liftOthers 55 = .ok (.dup, 1) := by decide +kernel
theorem dX6_liftOthers_56 : decode cX6_liftOthers 56 = .ok (.getfield 144, 3) := by decide +kernel
theorem dX6_liftOthers_59 : decode cX6_liftOthers 59 = .ok (.iload 5, 2) := by decide +kernel
theorem dX6_liftOthers_61 : decode cX6_liftOthers 61 = .ok (.i2l, 1) := by decide +kernel
theorem dX6_liftOthers_62 : decode cX6_liftOthers 62 = .ok (.ladd, 1) := by decide +kernel
theorem dX6_liftOthers_63 : decode cX6_liftOthers 63 = .ok (.putfield 144, 3) := by decide +kernel
theorem dX6_liftOthers_66 : decode cX6_liftOthers 66 = .ok (.iinc 3 1, 3) := by decide +kernel
theorem dX6_liftOthers_69 : decode cX6_liftOthers 69 = .ok (.goto (-67), 3) := by decide +kernel
theorem dX6_liftOthers_72 : decode cX6_liftOthers 72 = .ok (.return_, 1) := by decide +kernel
theorem dX6_hitSeveral_0 : decode cX6_hitSeveral 0 = .ok (.aload_n 0, 1) := by decide +kernel
theorem dX6_hitSeveral_1 : decode cX6_hitSeveral 1 = .ok (.iload_n 1, 1) := by decide +kernel
theorem dX6_hitSeveral_2 : decode cX6_hitSeveral 2 = .ok (.invokevirtual 41, 3) := by decide +kernel
theorem dX6_hitSeveral_5 : decode cX6_hitSeveral 5 = .ok (.astore 4, 2) := by decide +kernel
theorem dX6_hitSeveral_7 : decode cX6_hitSeveral 7 = .ok (.aload 4, 2) := by decide +kernel
theorem dX6_hitSeveral_9 : decode cX6_hitSeveral 9 = .ok (.ifnonnull 5, 3) := by decide +kernel
theorem dX6_hitSeveral_12 : decode cX6_hitSeveral 12 = .ok (.iconst 0, 1) := by decide +kernel
theorem dX6_hitSeveral_13 : decode cX6_hitSeveral 13 = .ok (.ireturn, 1) := by decide +kernel
theorem dX6_hitSeveral_14 : decode cX6_hitSeveral 14 = .ok (.iconst 0, 1) := by decide +kernel
theorem dX6_hitSeveral_15 : decode cX6_hitSeveral 15 = .ok (.istore 5, 2) := by decide +kernel
theorem dX6_hitSeveral_17 : decode cX6_hitSeveral 17 = .ok (.iload 5, 2) := by decide +kernel
theorem dX6_hitSeveral_19 : decode cX6_hitSeveral 19 = .ok (.iload_n 3, 1) := by decide +kernel
theorem dX6_hitSeveral_20 : decode cX6_hitSeveral 20 = .ok (.if_icmp .ge 25, 3) := by decide +kernel
theorem dX6_hitSeveral_23 : decode cX6_hitSeveral 23 = .ok (.aload 4, 2) := by decide +kernel
theorem dX6_hitSeveral_25 : decode cX6_hitSeveral 25 = .ok (.invokevirtual 147, 3) := by decide +kernel
theorem dX6_hitSeveral_28 : decode cX6_hitSeveral 28 = .ok (.ifCond .le 17, 3) := by decide +kernel
theorem dX6_hitSeveral_31 : decode cX6_hitSeveral 31 = .ok (.aload_n 0, 1) := by decide +kernel
theorem dX6_hitSeveral_32 : decode cX6_hitSeveral 32 = .ok (.aload 4, 2) := by decide +kernel
theorem dX6_hitSeveral_34 : decode cX6_hitSeveral 34 = .ok (.iload_n 2, 1) := by decide +kernel
theorem dX6_hitSeveral_35 : decode cX6_hitSeveral 35 = .ok (.invokevirtual 151, 3) := by decide +kernel
theorem dX6_hitSeveral_38 : decode cX6_hitSeveral 38 = .ok (.pop, 1) := by decide +kernel
theorem dX6_hitSeveral_39 : decode cX6_hitSeveral 39 = .ok (.iinc 5 1, 3) := by decide +kernel
theorem dX6_hitSeveral_42 : decode cX6_hitSeveral 42 = .ok (.goto (-25), 3) := by decide +kernel
theorem dX6_hitSeveral_45 : decode cX6_hitSeveral 45 = .ok (.iload 5, 2) := by decide +kernel
theorem dX6_hitSeveral_47 : decode cX6_hitSeveral 47 = .ok (.ireturn, 1) := by decide +kernel
theorem dX6_blowsDown_0 : decode cX6_blowsDown 0 = .ok (.iload_n 1, 1) := by decide +kernel
theorem dX6_blowsDown_1 : decode cX6_blowsDown 1 = .ok (.istore 4, 2) := by decide +kernel
theorem dX6_blowsDown_3 : decode cX6_blowsDown 3 = .ok (.iconst 0, 1) := by decide +kernel
theorem dX6_blowsDown_4 : decode cX6_blowsDown 4 = .ok (.istore 5, 2) := by decide +kernel
theorem dX6_blowsDown_6 : decode cX6_blowsDown 6 = .ok (.aload_n 0, 1) := by decide +kernel
theorem dX6_blowsDown_7 : decode cX6_blowsDown 7 = .ok (.getfield 12, 3) := by decide +kernel
theorem dX6_blowsDown_10 : decode cX6_blowsDown 10 = .ok (.iload_n 1, 1) := by decide +kernel
theorem dX6_blowsDown_11 : decode cX6_blowsDown 11 = .ok (.invokevirtual 58, 3) := by decide +kernel
theorem dX6_blowsDown_14 : decode cX6_blowsDown 14 = .ok (.istore 6, 2) := by decide +kernel
theorem dX6_blowsDown_16 : decode cX6_blowsDown 16 = .ok (.iload 6, 2) := by decide +kernel
theorem dX6_blowsDown_18 : decode cX6_blowsDown 18 = .ok (.aload_n 0, 1) := by decide +kernel
theorem dX6_blowsDown_19 : decode cX6_blowsDown 19 = .ok (.getfield 12, 3) := by decide +kernel
theorem dX6_blowsDown_22 : decode cX6_blowsDown 22 = .ok (.getfield 155, 3) := by decide +kernel
theorem dX6_blowsDown_25 : decode cX6_blowsDown 25 = .ok (.if_icmp .gt 111, 3) := by decide +kernel
theorem dX6_blowsDown_28 : decode cX6_blowsDown 28 = .ok (.iload 4, 2) := by decide +kernel
theorem dX6_blowsDown_30 : decode cX6_blowsDown 30 = .ok (.iload_n 2, 1) := by decide +kernel
theorem dX6_blowsDown_31 : decode cX6_blowsDown 31 = .ok (.if_icmp .ge 105, 3) := by decide +kernel
theorem dX6_blowsDown_34 : decode cX6_blowsDown 34 = .ok (.iload 6, 2) := by decide +kernel
theorem dX6_blowsDown_36 : decode cX6_blowsDown 36 = .ok (.aload_n 0, 1) := by decide +kernel
theorem dX6_blowsDown_37 : decode cX6_blowsDown 37 = .ok (.getfield 12, 3) := by decide +kernel
theorem dX6_blowsDown_40 : decode cX6_blowsDown 40 = .ok (.getfield 155, 3) := by decide +kernel
theorem dX6_blowsDown_43 : decode cX6_blowsDown 43 = .ok (.if_icmp .ge 21, 3) := by decide +kernel
theorem dX6_blowsDown_46 : decode cX6_blowsDown 46 = .ok (.iload_n 2, 1) := by decide +kernel
theorem dX6_blowsDown_47 : decode cX6_blowsDown 47 = .ok (.aload_n 0, 1) := by decide +kernel
theorem dX6_blowsDown_48 : decode cX6_blowsDown 48 = .ok (.getfield 12, 3) := by decide +kernel
theorem dX6_blowsDown_51 : decode cX6_blowsDown 51 = .ok (.iload 6, 2) := by decide +kernel
theorem dX6_blowsDown_53 : decode cX6_blowsDown 53 = .ok (.iconst 1, 1) := by decide +kernel
theorem dX6_blowsDown_54 : decode cX6_blowsDown 54 = .ok (.iadd, 1) := by decide +kernel
theorem dX6_blowsDown_55 : decode cX6_blowsDown 55 = .ok (.invokevirtual 158, 3) := by decide +kernel
theorem dX6_blowsDown_58 : decode cX6_blowsDown 58 = .ok (.invokestatic 87, 3) := by decide +kernel
theorem dX6_blowsDown_61 : decode cX6_blowsDown 61 = .ok (.goto 4, 3) := by decide +kernel
theorem dX6_blowsDown_64 : decode cX6_blowsDown 64 = .ok (.iload_n 2, 1) := by decide +kernel
theorem dX6_blowsDown_65 : decode cX6_blowsDown 65 = .ok (.istore 7, 2) := by decide +kernel
theorem dX6_blowsDown_67 : decode cX6_blowsDown 67 = .ok (.iload 4, 2) := by decide +kernel
theorem dX6_blowsDown_69 : decode cX6_blowsDown 69 = .ok (.iload 7, 2) := by decide +kernel
theorem dX6_blowsDown_71 : decode cX6_blowsDown 71 = .ok (.if_icmp .ge 59, 3) := by decide +kernel
theorem dX6_blowsDown_74 : decode cX6_blowsDown 74 = .ok (.aload_n 0, 1) := by decide +kernel
theorem dX6_blowsDown_75 : decode cX6_blowsDown 75 = .ok (.iload_n 3, 1) := by decide +kernel
theorem dX6_blowsDown_76 : decode cX6_blowsDown 76 = .ok (.aload_n 0, 1) := by decide +kernel
theorem dX6_blowsDown_77 : decode cX6_blowsDown 77 = .ok (.getfield 12, 3) := by decide +kernel
theorem dX6_blowsDown_80 : decode cX6_blowsDown 80 = .ok (.iload 6, 2) := by decide +kernel
theorem dX6_blowsDown_82 : decode cX6_blowsDown 82 = .ok (.invokevirtual 161, 3) := by decide +kernel
theorem dX6_blowsDown_85 : decode cX6_blowsDown 85 = .ok (.invokevirtual 93, 3) := by decide +kernel
theorem dX6_blowsDown_88 : decode cX6_blowsDown 88 = .ok (.istore 8, 2) := by decide +kernel
theorem dX6_blowsDown_90 : decode cX6_blowsDown 90 = .ok (.iload 8, 2) := by decide +kernel
theorem dX6_blowsDown_92 : decode cX6_blowsDown 92 = .ok (.ifCond .gt 6, 3) := by decide +kernel
theorem dX6_blowsDown_95 : decode cX6_blowsDown 95 = .ok (.bipush (-4), 2) := by decide +kernel
theorem dX6_blowsDown_97 : decode cX6_blowsDown 97 = .ok (.ireturn, 1) := by decide +kernel
theorem dX6_blowsDown_98 : decode cX6_blowsDown 98 = .ok (.iload 7, 2) := by decide +kernel
theorem dX6_blowsDown_100 : decode cX6_blowsDown 100 = .ok (.iload 4, 2) := by decide +kernel
theorem dX6_blowsDown_102 : decode cX6_blowsDown 102 = .ok (.isub, 1) := by decide +kernel
theorem dX6_blowsDown_103 : decode cX6_blowsDown 103 = .ok (.iload 8, 2) := by decide +kernel
theorem dX6_blowsDown_105 : decode cX6_blowsDown 105 = .ok (.iadd, 1) := by decide +kernel
theorem dX6_blowsDown_106 : decode cX6_blowsDown 106 = .ok (.iconst 1, 1) := by decide +kernel
theorem dX6_blowsDown_107 : decode cX6_blowsDown 107 = .ok (.isub, 1) := by decide +kernel
theorem dX6_blowsDown_108 : decode cX6_blowsDown 108 = .ok (.iload 8, 2) := by decide +kernel
theorem dX6_blowsDown_110 : decode cX6_blowsDown 110 = .ok (.idiv, 1) := by decide +kernel
theorem dX6_blowsDown_111 : decode cX6_blowsDown 111 = .ok (.istore 9, 2) := by decide +kernel
theorem dX6_blowsDown_113 : decode cX6_blowsDown 113 = .ok (.iload 5, 2) := by decide +kernel
theorem dX6_blowsDown_115 : decode cX6_blowsDown 115 = .ok (.iload 9, 2) := by decide +kernel
theorem dX6_blowsDown_117 : decode cX6_blowsDown 117 = .ok (.iadd, 1) := by decide +kernel
theorem dX6_blowsDown_118 : decode cX6_blowsDown 118 = .ok (.istore 5, 2) := by decide +kernel
theorem dX6_blowsDown_120 : decode cX6_blowsDown 120 = .ok (.iload 4, 2) := by decide +kernel
theorem dX6_blowsDown_122 : decode cX6_blowsDown 122 = .ok (.iload 9, 2) := by decide +kernel
theorem dX6_blowsDown_124 : decode cX6_blowsDown 124 = .ok (.iload 8, 2) := by decide +kernel
theorem dX6_blowsDown_126 : decode cX6_blowsDown 126 = .ok (.imul, 1) := by decide +kernel
theorem dX6_blowsDown_127 : decode cX6_blowsDown 127 = .ok (.iadd, 1) := by decide +kernel
theorem dX6_blowsDown_128 : decode cX6_blowsDown 128 = .ok (.istore 4, 2) := by decide +kernel
theorem dX6_blowsDown_130 : decode cX6_blowsDown 130 = .ok (.iinc 6 1, 3) := by decide +kernel
theorem dX6_blowsDown_133 : decode cX6_blowsDown 133 = .ok (.goto (-117), 3) := by decide +kernel
theorem dX6_blowsDown_136 : decode cX6_blowsDown 136 = .ok (.iload 5, 2) := by decide +kernel
theorem dX6_blowsDown_138 : decode cX6_blowsDown 138 = .ok (.ireturn, 1) := by decide +kernel
theorem dX6_loadWith_0 : decode cX6_loadWith 0 = .ok (.aload_n 0, 1) := by decide +kernel
theorem dX6_loadWith_1 : decode cX6_loadWith 1 = .ok (.getfield 12, 3) := by decide +kernel
theorem dX6_loadWith_4 : decode cX6_loadWith 4 = .ok (.aload_n 1, 1) := by decide +kernel
theorem dX6_loadWith_5 : decode cX6_loadWith 5 = .ok (.getfield 55, 3) := by decide +kernel
theorem dX6_loadWith_8 : decode cX6_loadWith 8 = .ok (.invokevirtual 90, 3) := by decide +kernel
theorem dX6_loadWith_11 : decode cX6_loadWith 11 = .ok (.bipush 10, 2) := by decide +kernel
theorem dX6_loadWith_13 : decode cX6_loadWith 13 = .ok (.imul, 1) := by decide +kernel
theorem dX6_loadWith_14 : decode cX6_loadWith 14 = .ok (.aload_n 1, 1) := by decide +kernel
theorem dX6_loadWith_15 : decode cX6_loadWith 15 = .ok (.getfield 55, 3) := by decide +kernel
theorem dX6_loadWith_18 : decode cX6_loadWith 18 = .ok (.bipush 100, 2) := by decide +kernel
theorem dX6_loadWith_20 : decode cX6_loadWith 20 = .ok (.idiv, 1) := by decide +kernel
theorem dX6_loadWith_21 : decode cX6_loadWith 21 = .ok (.iadd, 1) := by decide +kernel
theorem dX6_loadWith_22 : decode cX6_loadWith 22 = .ok (.istore_n 3, 1) := by decide +kernel
theorem dX6_loadWith_23 : decode cX6_loadWith 23 = .ok (.iload_n 2, 1) := by decide +kernel
theorem dX6_loadWith_24 : decode cX6_loadWith 24 = .ok (.iload_n 3, 1) := by decide +kernel
theorem dX6_loadWith_25 : decode cX6_loadWith 25 = .ok (.if_icmp .gt 5, 3) := by decide +kernel
theorem dX6_loadWith_28 : decode cX6_loadWith 28 = .ok (.iconst 0, 1) := by decide +kernel
theorem dX6_loadWith_29 : decode cX6_loadWith 29 = .ok (.ireturn, 1) := by decide +kernel
theorem dX6_loadWith_30 : decode cX6_loadWith 30 = .ok (.aload_n 1, 1) := by decide +kernel
theorem dX6_loadWith_31 : decode cX6_loadWith 31 = .ok (.invokevirtual 147, 3) := by decide +kernel
theorem dX6_loadWith_34 : decode cX6_loadWith 34 = .ok (.iload_n 2, 1) := by decide +kernel
theorem dX6_loadWith_35 : decode cX6_loadWith 35 = .ok (.iload_n 3, 1) := by decide +kernel
theorem dX6_loadWith_36 : decode cX6_loadWith 36 = .ok (.isub, 1) := by decide +kernel
theorem dX6_loadWith_37 : decode cX6_loadWith 37 = .ok (.bipush 10, 2) := by decide +kernel
theorem dX6_loadWith_39 : decode cX6_loadWith 39 = .ok (.idiv, 1) := by decide +kernel
theorem dX6_loadWith_40 : decode cX6_loadWith 40 = .ok (.iconst 1, 1) := by decide +kernel
theorem dX6_loadWith_41 : decode cX6_loadWith 41 = .ok (.iadd, 1) := by decide +kernel
theorem dX6_loadWith_42 : decode cX6_loadWith 42 = .ok (.invokestatic 87, 3) := by decide +kernel
theorem dX6_loadWith_45 : decode cX6_loadWith 45 = .ok (.istore 4, 2) := by decide +kernel
theorem dX6_loadWith_47 : decode cX6_loadWith 47 = .ok (.aload_n 1, 1) := by decide +kernel
theorem dX6_loadWith_48 : decode cX6_loadWith 48 = .ok (.iload 4, 2) := by decide +kernel
theorem dX6_loadWith_50 : decode cX6_loadWith 50 = .ok (.invokevirtual 164, 3) := by decide +kernel
theorem dX6_loadWith_53 : decode cX6_loadWith 53 = .ok (.aload_n 0, 1) := by decide +kernel
theorem dX6_loadWith_54 : decode cX6_loadWith 54 = .ok (.dup, 1) := by decide +kernel
theorem dX6_loadWith_55 : decode cX6_loadWith 55 = .ok (.getfield 167, 3) := by decide +kernel
theorem dX6_loadWith_58 : decode cX6_loadWith 58 = .ok (.iload 4, 2) := by decide +kernel
theorem dX6_loadWith_60 : decode cX6_loadWith 60 = .ok (.i2l, 1) := by decide +kernel
theorem dX6_loadWith_61 : decode cX6_loadWith 61 = .ok (.ladd, 1) := by decide +kernel
theorem dX6_loadWith_62 : decode cX6_loadWith 62 = .ok (.putfield 167, 3) := by decide +kernel
theorem dX6_loadWith_65 : decode cX6_loadWith 65 = .ok (.iload 4, 2) := by decide +kernel
theorem dX6_loadWith_67 : decode cX6_loadWith 67 = .ok (.ireturn, 1) := by decide +kernel
theorem dX6_copyFrom_0 : decode cX6_copyFrom 0 = .ok (.aload_n 0, 1) := by decide +kernel
theorem dX6_copyFrom_1 : decode cX6_copyFrom 1 = .ok (.getfield 12, 3) := by decide +kernel
theorem dX6_copyFrom_4 : decode cX6_copyFrom 4 = .ok (.aload_n 1, 1) := by decide +kernel
theorem dX6_copyFrom_5 : decode cX6_copyFrom 5 = .ok (.getfield 12, 3) := by decide +kernel
theorem dX6_copyFrom_8 : decode cX6_copyFrom 8 = .ok (.invokevirtual 170, 3) := by decide +kernel
theorem dX6_copyFrom_11 : decode cX6_copyFrom 11 = .ok (.aload_n 1, 1) := by decide +kernel
theorem dX6_copyFrom_12 : decode cX6_copyFrom 12 = .ok (.getfield 27, 3) := by decide +kernel
theorem dX6_copyFrom_15 : decode cX6_copyFrom 15 = .ok (.iconst 0, 1) := by decide +kernel
theorem dX6_copyFrom_16 : decode cX6_copyFrom 16 = .ok (.aload_n 0, 1) := by decide +kernel
theorem dX6_copyFrom_17 : decode cX6_copyFrom 17 = .ok (.getfield 27, 3) := by decide +kernel
theorem dX6_copyFrom_20 : decode cX6_copyFrom 20 = .ok (.iconst 0, 1) := by decide +kernel
theorem dX6_copyFrom_21 : decode cX6_copyFrom 21 = .ok (.getstatic 18, 3) := by decide +kernel
theorem dX6_copyFrom_24 : decode cX6_copyFrom 24 = .ok (.arraylength, 1) := by decide +kernel
theorem dX6_copyFrom_25 : decode cX6_copyFrom 25 = .ok (.invokestatic 174, 3) := by decide +kernel
theorem dX6_copyFrom_28 : decode cX6_copyFrom 28 = .ok (.aload_n 0, 1) := by decide +kernel
theorem dX6_copyFrom_29 : decode cX6_copyFrom 29 = .ok (.aload_n 1, 1) := by decide +kernel
theorem dX6_copyFrom_30 : decode cX6_copyFrom 30 = .ok (.getfield 37, 3) := by decide +kernel
theorem dX6_copyFrom_33 : decode cX6_copyFrom 33 = .ok (.putfield 37, 3) := by decide +kernel
theorem dX6_copyFrom_36 : decode cX6_copyFrom 36 = .ok (.iconst 0, 1) := by decide +kernel
theorem dX6_copyFrom_37 : decode cX6_copyFrom 37 = .ok (.istore_n 2, 1) := by decide +kernel
theorem dX6_copyFrom_38 : decode cX6_copyFrom 38 = .ok (.iload_n 2, 1) := by decide +kernel
theorem dX6_copyFrom_39 : decode cX6_copyFrom 39 = .ok (.aload_n 0, 1) := by decide +kernel
theorem dX6_copyFrom_40 : decode cX6_copyFrom 40 = .ok (.getfield 37, 3) := by decide +kernel
theorem dX6_copyFrom_43 : decode cX6_copyFrom 43 = .ok (.if_icmp .ge 37, 3) := by decide +kernel
theorem dX6_copyFrom_46 : decode cX6_copyFrom 46 = .ok (.aload_n 0, 1) := by decide +kernel
theorem dX6_copyFrom_47 : decode cX6_copyFrom 47 = .ok (.iload_n 2, 1) := by decide +kernel
theorem dX6_copyFrom_48 : decode cX6_copyFrom 48 = .ok (.invokevirtual 41, 3) := by decide +kernel
theorem dX6_copyFrom_51 : decode cX6_copyFrom 51 = .ok (.astore_n 3, 1) := by decide +kernel
theorem dX6_copyFrom_52 : decode cX6_copyFrom 52 = .ok (.aload_n 1, 1) := by decide +kernel
theorem dX6_copyFrom_53 : decode cX6_copyFrom 53 = .ok (.iload_n 2, 1) := by decide +kernel
theorem dX6_copyFrom_54 : decode cX6_copyFrom 54 = .ok (.invokevirtual 41, 3) := by decide +kernel
theorem dX6_copyFrom_57 : decode cX6_copyFrom 57 = .ok (.astore 4, 2) := by decide +kernel
theorem dX6_copyFrom_59 : decode cX6_copyFrom 59 = .ok (.aload_n 3, 1) := by decide +kernel
theorem dX6_copyFrom_60 : decode cX6_copyFrom 60 = .ok (.ifnull 14, 3) := by decide +kernel
theorem dX6_copyFrom_63 : decode cX6_copyFrom 63 = .ok (.aload 4, 2) := by decide +kernel
theorem dX6_copyFrom_65 : decode cX6_copyFrom 65 = .ok (.ifnull 9, 3) := by decide +kernel
theorem dX6_copyFrom_68 : decode cX6_copyFrom 68 = .ok (.aload_n 3, 1) := by decide +kernel
theorem dX6_copyFrom_69 : decode cX6_copyFrom 69 = .ok (.aload 4, 2) := by decide +kernel
theorem dX6_copyFrom_71 : decode cX6_copyFrom 71 = .ok (.invokevirtual 180, 3) := by decide +kernel
theorem dX6_copyFrom_74 : decode cX6_copyFrom 74 = .ok (.iinc 2 1, 3) := by decide +kernel
theorem dX6_copyFrom_77 : decode cX6_copyFrom 77 = .ok (.goto (-39), 3) := by decide +kernel
theorem dX6_copyFrom_80 : decode cX6_copyFrom 80 = .ok (.aload_n 0, 1) := by decide +kernel
theorem dX6_copyFrom_81 : decode cX6_copyFrom 81 = .ok (.aload_n 1, 1) := by decide +kernel
theorem dX6_copyFrom_82 : decode cX6_copyFrom 82 = .ok (.getfield 117, 3) := by decide +kernel
theorem dX6_copyFrom_85 : decode cX6_copyFrom 85 = .ok (.putfield 117, 3) := by decide +kernel
theorem dX6_copyFrom_88 : decode cX6_copyFrom 88 = .ok (.aload_n 0, 1) := by decide +kernel
theorem dX6_copyFrom_89 : decode cX6_copyFrom 89 = .ok (.aload_n 1, 1) := by decide +kernel
theorem dX6_copyFrom_90 : decode cX6_copyFrom 90 = .ok (.getfield 121, 3) := by decide +kernel
theorem dX6_copyFrom_93 : decode cX6_copyFrom 93 = .ok (.putfield 121, 3) := by decide +kernel
theorem dX6_copyFrom_96 : decode cX6_copyFrom 96 = .ok (.aload_n 0, 1) := by decide +kernel
theorem dX6_copyFrom_97 : decode cX6_copyFrom 97 = .ok (.aload_n 1, 1) := by decide +kernel
theorem dX6_copyFrom_98 : decode cX6_copyFrom 98 = .ok (.getfield 124, 3) := by decide +kernel
theorem dX6_copyFrom_101 : decode cX6_copyFrom 101 = .ok (.putfield 124, 3) := by decide +kernel
theorem dX6_copyFrom_104 : decode cX6_copyFrom 104 = .ok (.aload_n 0, 1) := by decide +kernel
theorem dX6_copyFrom_105 : decode cX6_copyFrom 105 = .ok (.aload_n 1, 1) := by decide +kernel
theorem dX6_copyFrom_106 : decode cX6_copyFrom 106 = .ok (.getfield 127, 3) := by decide +kernel
theorem dX6_copyFrom_109 : decode cX6_copyFrom 109 = .ok (.putfield 127, 3) := by decide +kernel
theorem dX6_copyFrom_112 : decode cX6_copyFrom 112 = .ok (.aload_n 0, 1) := by decide +kernel
theorem dX6_copyFrom_113 : decode cX6_copyFrom 113 = .ok (.aload_n 1, 1) := by decide +kernel
theorem dX6_copyFrom_114 : decode cX6_copyFrom 114 = .ok (.getfield 144, 3) := by decide +kernel
theorem dX6_copyFrom_117 : decode cX6_copyFrom 117 = .ok (.putfield 144, 3) := by decide +kernel
theorem dX6_copyFrom_120 : decode cX6_copyFrom 120 = .ok (.aload_n 0, 1) := by decide +kernel
theorem dX6_copyFrom_121 : decode cX6_copyFrom 121 = .ok (.aload_n 1, 1) := by decide +kernel
theorem dX6_copyFrom_122 : decode cX6_copyFrom 122 = .ok (.getfield 167, 3) := by decide +kernel
theorem dX6_copyFrom_125 : decode cX6_copyFrom 125 = .ok (.putfield 167, 3) := by decide +kernel
theorem dX6_copyFrom_128 : decode cX6_copyFrom 128 = .ok (.return_, 1) := by decide +kernel
end
section
theorem dX7_init_0 : decode cX7_init 0 = .ok (.aload_n 0, 1) := by decide +kernel
theorem dX7_init_1 : decode cX7_init 1 = .ok (.invokespecial 1, 3) := by decide +kernel
theorem dX7_init_4 : decode cX7_init 4 = .ok (.aload_n 0, 1) := by decide +kernel
theorem dX7_init_5 : decode cX7_init 5 = .ok (.new 7, 3) := by decide +kernel
theorem dX7_init_8 : decode cX7_init 8 = .ok (.dup, 1) := by decide +kernel
theorem dX7_init_9 : decode cX7_init 9 = .ok (.invokespecial 9, 3) := by decide +kernel
theorem dX7_init_12 : decode cX7_init 12 = .ok (.putfield 10, 3) := by decide +kernel
theorem dX7_init_15 : decode cX7_init 15 = .ok (.aload_n 0, 1) := by decide +kernel
theorem dX7_init_16 : decode cX7_init 16 = .ok (.new 16, 3) := by decide +kernel
theorem dX7_init_19 : decode cX7_init 19 = .ok (.dup, 1) := by decide +kernel
theorem dX7_init_20 : decode cX7_init 20 = .ok (.invokespecial 18, 3) := by decide +kernel
theorem dX7_init_23 : decode cX7_init 23 = .ok (.putfield 19, 3) := by decide +kernel
theorem dX7_init_26 : decode cX7_init 26 = .ok (.aload_n 0, 1) := by decide +kernel
theorem dX7_init_27 : decode cX7_init 27 = .ok (.new 23, 3) := by decide +kernel
theorem dX7_init_30 : decode cX7_init 30 = .ok (.dup, 1) := by decide +kernel
theorem dX7_init_31 : decode cX7_init 31 = .ok (.invokespecial 25, 3) := by decide +kernel
theorem dX7_init_34 : decode cX7_init 34 = .ok (.putfield 26, 3) := by decide +kernel
theorem dX7_init_37 : decode cX7_init 37 = .ok (.aload_n 0, 1) := by decide +kernel
theorem dX7_init_38 : decode cX7_init 38 = .ok (.new 30, 3) := by decide +kernel
theorem dX7_init_41 : decode cX7_init 41 = .ok (.dup, 1) := by decide +kernel
theorem dX7_init_42 : decode cX7_init 42 = .ok (.invokespecial 32, 3) := by decide +kernel
theorem dX7_init_45 : decode cX7_init 45 = .ok (.putfield 33, 3) := by decide +kernel
theorem dX7_init_48 : decode cX7_init 48 = .ok (.aload_n 0, 1) := by decide +kernel
theorem dX7_init_49 : decode cX7_init 49 = .ok (.new 37, 3) := by decide +kernel
theorem dX7_init_52 : decode cX7_init 52 = .ok (.dup, 1) := by decide +kernel
theorem dX7_init_53 : decode cX7_init 53 = .ok (.invokespecial 39, 3) := by decide +kernel
theorem dX7_init_56 : decode cX7_init 56 = .ok (.putfield 40, 3) := by decide +kernel
theorem dX7_init_59 : decode cX7_init 59 = .ok (.return_, 1) := by decide +kernel
theorem dX7_stratum_0 : decode cX7_stratum 0 = .ok (.iload_n 1, 1) := by decide +kernel
theorem dX7_stratum_1 : decode cX7_stratum 1 = .ok (.iconst 0, 1) := by decide +kernel
theorem dX7_stratum_2 : decode cX7_stratum 2 = .ok (.aload_n 0, 1) := by decide +kernel
theorem dX7_stratum_3 : decode cX7_stratum 3 = .ok (.getfield 10, 3) := by decide +kernel
theorem dX7_stratum_6 : decode cX7_stratum 6 = .ok (.getfield 44, 3) := by decide +kernel
theorem dX7_stratum_9 : decode cX7_stratum 9 = .ok (.getfield 48, 3) := by decide +kernel
theorem dX7_stratum_12 : decode cX7_stratum 12 = .ok (.invokestatic 54, 3) := by decide +kernel
theorem dX7_stratum_15 : decode cX7_stratum 15 = .ok (.ifCond .eq 26, 3) := by decide +kernel
theorem dX7_stratum_18 : decode cX7_stratum 18 = .ok (.iload_n 2, 1) := by decide +kernel
theorem dX7_stratum_19 : decode cX7_stratum 19 = .ok (.bipush 100, 2) := by decide +kernel
theorem dX7_stratum_21 : decode cX7_stratum 21 = .ok (.sipush 20000, 3) := by decide +kernel
theorem dX7_stratum_24 : decode cX7_stratum 24 = .ok (.invokestatic 54, 3) := by decide +kernel
theorem dX7_stratum_27 : decode cX7_stratum 27 = .ok (.ifCond .eq 14, 3) := by decide +kernel
theorem dX7_stratum_30 : decode cX7_stratum 30 = .ok (.iload_n 3, 1) := by decide +kernel
theorem dX7_stratum_31 : decode cX7_stratum 31 = .ok (.iconst 1, 1) := by decide +kernel
theorem dX7_stratum_32 : decode cX7_stratum 32 = .ok (.sipush 500, 3) := by decide +kernel
theorem dX7_stratum_35 : decode cX7_stratum 35 = .ok (.invokestatic 54, 3) := by decide +kernel
theorem dX7_stratum_38 : decode cX7_stratum 38 = .ok (.ifCond .ne 5, 3) := by decide +kernel
theorem dX7_stratum_41 : decode cX7_stratum 41 = .ok (.iconst (-1), 1) := by decide +kernel
theorem dX7_stratum_42 : decode cX7_stratum 42 = .ok (.ireturn, 1) := by decide +kernel
theorem dX7_stratum_43 : decode cX7_stratum 43 = .ok (.iload_n 1, 1) := by decide +kernel
theorem dX7_stratum_44 : decode cX7_stratum 44 = .ok (.bipush 6, 2) := by decide +kernel
theorem dX7_stratum_46 : decode cX7_stratum 46 = .ok (.if_icmp .lt 6, 3) := by decide +kernel
theorem dX7_stratum_49 : decode cX7_stratum 49 = .ok (.bipush (-3), 2) := by decide +kernel
theorem dX7_stratum_51 : decode cX7_stratum 51 = .ok (.ireturn, 1) := by decide +kernel
theorem dX7_stratum_52 : decode cX7_stratum 52 = .ok (.aload_n 0, 1) := by decide +kernel
theorem dX7_stratum_53 : decode cX7_stratum 53 = .ok (.getfield 19, 3) := by decide +kernel
theorem dX7_stratum_56 : decode cX7_stratum 56 = .ok (.aload_n 0, 1) := by decide +kernel
theorem dX7_stratum_57 : decode cX7_stratum 57 = .ok (.getfield 10, 3) := by decide +kernel
theorem dX7_stratum_60 : decode cX7_stratum 60 = .ok (.invokevirtual 58, 3) := by decide +kernel
theorem dX7_stratum_63 : decode cX7_stratum 63 = .ok (.aload_n 0, 1) := by decide +kernel
theorem dX7_stratum_64 : decode cX7_stratum 64 = .ok (.getfield 10, 3) := by decide +kernel
theorem dX7_stratum_67 : decode cX7_stratum 67 = .ok (.getfield 44, 3) := by decide +kernel
theorem dX7_stratum_70 : decode cX7_stratum 70 = .ok (.iload_n 1, 1) := by decide +kernel
theorem dX7_stratum_71 : decode cX7_stratum 71 = .ok (.iload_n 2, 1) := by decide +kernel
theorem dX7_stratum_72 : decode cX7_stratum 72 = .ok (.iload_n 3, 1) := by decide +kernel
theorem dX7_stratum_73 : decode cX7_stratum 73 = .ok (.invokevirtual 62, 3) := by decide +kernel
theorem dX7_stratum_76 : decode cX7_stratum 76 = .ok (.aload_n 0, 1) := by decide +kernel
theorem dX7_stratum_77 : decode cX7_stratum 77 = .ok (.getfield 10, 3) := by decide +kernel
theorem dX7_stratum_80 : decode cX7_stratum 80 = .ok (.getfield 44, 3) := by decide +kernel
theorem dX7_stratum_83 : decode cX7_stratum 83 = .ok (.getfield 48, 3) := by decide +kernel
theorem dX7_stratum_86 : decode cX7_stratum 86 = .ok (.ireturn, 1) := by decide +kernel
theorem dX7_cut_0 : decode cX7_cut 0 = .ok (.aload_n 0, 1) := by decide +kernel
theorem dX7_cut_1 : decode cX7_cut 1 = .ok (.getfield 10, 3) := by decide +kernel
theorem dX7_cut_4 : decode cX7_cut 4 = .ok (.getfield 44, 3) := by decide +kernel
theorem dX7_cut_7 : decode cX7_cut 7 = .ok (.getfield 48, 3) := by decide +kernel
theorem dX7_cut_10 : decode cX7_cut 10 = .ok (.iconst 1, 1) := by decide +kernel
theorem dX7_cut_11 : decode cX7_cut 11 = .ok (.if_icmp .gt 6, 3) := by decide +kernel
theorem dX7_cut_14 : decode cX7_cut 14 = .ok (.bipush (-2), 2) := by decide +kernel
theorem dX7_cut_16 : decode cX7_cut 16 = .ok (.ireturn, 1) := by decide +kernel
theorem dX7_cut_17 : decode cX7_cut 17 = .ok (.aload_n 0, 1) := by decide +kernel
theorem dX7_cut_18 : decode cX7_cut 18 = .ok (.getfield 19, 3) := by decide +kernel
theorem dX7_cut_21 : decode cX7_cut 21 = .ok (.aload_n 0, 1) := by decide +kernel
theorem dX7_cut_22 : decode cX7_cut 22 = .ok (.getfield 10, 3) := by decide +kernel
theorem dX7_cut_25 : decode cX7_cut 25 = .ok (.invokevirtual 58, 3) := by decide +kernel
theorem dX7_cut_28 : decode cX7_cut 28 = .ok (.aload_n 0, 1) := by decide +kernel
theorem dX7_cut_29 : decode cX7_cut 29 = .ok (.getfield 10, 3) := by decide +kernel
theorem dX7_cut_32 : decode cX7_cut 32 = .ok (.getfield 44, 3) := by decide +kernel
theorem dX7_cut_35 : decode cX7_cut 35 = .ok (.invokevirtual 66, 3) := by decide +kernel
theorem dX7_cut_38 : decode cX7_cut 38 = .ok (.aload_n 0, 1) := by decide +kernel
theorem dX7_cut_39 : decode cX7_cut 39 = .ok (.getfield 10, 3) := by decide +kernel
theorem dX7_cut_42 : decode cX7_cut 42 = .ok (.getfield 44, 3) := by decide +kernel
theorem dX7_cut_45 : decode cX7_cut 45 = .ok (.getfield 48, 3) := by decide +kernel
theorem dX7_cut_48 : decode cX7_cut 48 = .ok (.ireturn, 1) := by decide +kernel
theorem dX7_ground_0 : decode cX7_ground 0 = .ok (.iload_n 1, 1) := by decide +kernel
theorem dX7_ground_1 : decode cX7_ground 1 = .ok (.iconst 0, 1) := by decide +kernel
theorem dX7_ground_2 : decode cX7_ground 2 = .ok (.aload_n 0, 1) := by decide +kernel
theorem dX7_ground_3 : decode cX7_ground 3 = .ok (.getfield 10, 3) := by decide +kernel
theorem dX7_ground_6 : decode cX7_ground 6 = .ok (.getfield 44, 3) := by decide +kernel
theorem dX7_ground_9 : decode cX7_ground 9 = .ok (.getfield 48, 3) := by decide +kernel
theorem dX7_ground_12 : decode cX7_ground 12 = .ok (.iconst 1, 1) := by decide +kernel
theorem dX7_ground_13 : decode cX7_ground 13 = .ok (.isub, 1) := by decide +kernel
theorem dX7_ground_14 : decode cX7_ground 14 = .ok (.invokestatic 54, 3) := by decide +kernel
theorem dX7_ground_17 : decode cX7_ground 17 = .ok (.ifCond .ne 5, 3) := by decide +kernel
theorem dX7_ground_20 : decode cX7_ground 20 = .ok (.iconst (-1), 1) := by decide +kernel
theorem dX7_ground_21 : decode cX7_ground 21 = .ok (.ireturn, 1) := by decide +kernel
theorem dX7_ground_22 : decode cX7_ground 22 = .ok (.iload_n 2, 1) := by decide +kernel
theorem dX7_ground_23 : decode cX7_ground 23 = .ok (.tableswitch 74 0 3 #[29, 41, 53, 65], 29) := by decide +kernel
theorem dX7_ground_52 : decode cX7_ground 52 = .ok (.aload_n 0, 1) := by decide +kernel
theorem dX7_ground_53 : decode cX7_ground 53 = .ok (.getfield 10, 3) := by decide +kernel
theorem dX7_ground_56 : decode cX7_ground 56 = .ok (.getfield 44, 3) := by decide +kernel
theorem dX7_ground_59 : decode cX7_ground 59 = .ok (.iload_n 1, 1) := by decide +kernel
theorem dX7_ground_60 : decode cX7_ground 60 = .ok (.invokevirtual 69, 3) := by decide +kernel
theorem dX7_ground_63 : decode cX7_ground 63 = .ok (.ireturn, 1) := by decide +kernel
theorem dX7_ground_64 : decode cX7_ground 64 = .ok (.aload_n 0, 1) := by decide +kernel
theorem dX7_ground_65 : decode cX7_ground 65 = .ok (.getfield 10, 3) := by decide +kernel
theorem dX7_ground_68 : decode cX7_ground 68 = .ok (.getfield 44, 3) := by decide +kernel
theorem dX7_ground_71 : decode cX7_ground 71 = .ok (.iload_n 1, 1) := by decide +kernel
theorem dX7_ground_72 : decode cX7_ground 72 = .ok (.invokevirtual 73, 3) := by decide +kernel
theorem dX7_ground_75 : decode cX7_ground 75 = .ok (.ireturn, 1) := by decide +kernel
theorem dX7_ground_76 : decode cX7_ground 76 = .ok (.aload_n 0, 1) := by decide +kernel
theorem dX7_ground_77 : decode cX7_ground 77 = .ok (.getfield 10, 3) := by decide +kernel
theorem dX7_ground_80 : decode cX7_ground 80 = .ok (.getfield 44, 3) := by decide +kernel
theorem dX7_ground_83 : decode cX7_ground 83 = .ok (.iload_n 1, 1) := by decide +kernel
theorem dX7_ground_84 : decode cX7_ground 84 = .ok (.invokevirtual 76, 3) := by decide +kernel
theorem dX7_ground_87 : decode cX7_ground 87 = .ok (.ireturn, 1) := by decide +kernel
theorem dX7_ground_88 : decode cX7_ground 88 = .ok (.aload_n 0, 1) := by decide +kernel
theorem dX7_ground_89 : decode cX7_ground 89 = .ok (.getfield 10, 3) := by decide +kernel
theorem dX7_ground_92 : decode cX7_ground 92 = .ok (.iload_n 1, 1) := by decide +kernel
theorem dX7_ground_93 : decode cX7_ground 93 = .ok (.invokevirtual 79, 3) := by decide +kernel
theorem dX7_ground_96 : decode cX7_ground 96 = .ok (.ireturn, 1) := by decide +kernel
theorem dX7_ground_97 : decode cX7_ground 97 = .ok (.iconst (-1), 1) := by decide +kernel
theorem dX7_ground_98 : decode cX7_ground 98 = .ok (.ireturn, 1) := by decide +kernel
theorem dX7_at_0 : decode cX7_at 0 = .ok (.iload_n 1, 1) := by decide +kernel
theorem dX7_at_1 : decode cX7_at 1 = .ok (.iconst 0, 1) := by decide +kernel
theorem dX7_at_2 : decode cX7_at 2 = .ok (.ldc 82, 2) := by decide +kernel
theorem dX7_at_4 : decode cX7_at 4 = .ok (.invokestatic 54, 3) := by decide +kernel
theorem dX7_at_7 : decode cX7_at 7 = .ok (.ifCond .ne 5, 3) := by decide +kernel
theorem dX7_at_10 : decode cX7_at 10 = .ok (.iconst (-1), 1) := by decide +kernel
theorem dX7_at_11 : decode cX7_at 11 = .ok (.ireturn, 1) := by decide +kernel
theorem dX7_at_12 : decode cX7_at 12 = .ok (.aload_n 0, 1) := by decide +kernel
theorem dX7_at_13 : decode cX7_at 13 = .ok (.getfield 10, 3) := by decide +kernel
theorem dX7_at_16 : decode cX7_at 16 = .ok (.getfield 44, 3) := by decide +kernel
theorem dX7_at_19 : decode cX7_at 19 = .ok (.iload_n 1, 1) := by decide +kernel
theorem dX7_at_20 : decode cX7_at 20 = .ok (.invokevirtual 83, 3) := by decide +kernel
theorem dX7_at_23 : decode cX7_at 23 = .ok (.istore_n 2, 1) := by decide +kernel
theorem dX7_at_24 : decode cX7_at 24 = .ok (.iload_n 2, 1) := by decide +kernel
theorem dX7_at_25 : decode cX7_at 25 = .ok (.aload_n 0, 1) := by decide +kernel
theorem dX7_at_26 : decode cX7_at 26 = .ok (.getfield 10, 3) := by decide +kernel
theorem dX7_at_29 : decode cX7_at 29 = .ok (.getfield 44, 3) := by decide +kernel
theorem dX7_at_32 : decode cX7_at 32 = .ok (.getfield 48, 3) := by decide +kernel
theorem dX7_at_35 : decode cX7_at 35 = .ok (.if_icmp .ge 7, 3) := by decide +kernel
theorem dX7_at_38 : decode cX7_at 38 = .ok (.iload_n 2, 1) := by decide +kernel
theorem dX7_at_39 : decode cX7_at 39 = .ok (.goto 5, 3) := by decide +kernel
theorem dX7_at_42 : decode cX7_at 42 = .ok (.bipush (-4), 2) := by decide +kernel
theorem dX7_at_44 : decode cX7_at 44 = .ok (.ireturn, 1) := by decide +kernel
theorem dX7_set_0 : decode cX7_set 0 = .ok (.iload_n 1, 1) := by decide +kernel
theorem dX7_set_1 : decode cX7_set 1 = .ok (.invokestatic 86, 3) := by decide +kernel
theorem dX7_set_4 : decode cX7_set 4 = .ok (.ifCond .eq 20, 3) := by decide +kernel
theorem dX7_set_7 : decode cX7_set 7 = .ok (.iload_n 2, 1) := by decide +kernel
theorem dX7_set_8 : decode cX7_set 8 = .ok (.getstatic 90, 3) := by decide +kernel
theorem dX7_set_11 : decode cX7_set 11 = .ok (.iload_n 1, 1) := by decide +kernel
theorem dX7_set_12 : decode cX7_set 12 = .ok (.iaload, 1) := by decide +kernel
theorem dX7_set_13 : decode cX7_set 13 = .ok (.getstatic 94, 3) := by decide +kernel
theorem dX7_set_16 : decode cX7_set 16 = .ok (.iload_n 1, 1) := by decide +kernel
theorem dX7_set_17 : decode cX7_set 17 = .ok (.iaload, 1) := by decide +kernel
theorem dX7_set_18 : decode cX7_set 18 = .ok (.invokestatic 54, 3) := by decide +kernel
theorem dX7_set_21 : decode cX7_set 21 = .ok (.ifCond .ne 5, 3) := by decide +kernel
theorem dX7_set_24 : decode cX7_set 24 = .ok (.iconst (-1), 1) := by decide +kernel
theorem dX7_set_25 : decode cX7_set 25 = .ok (.ireturn, 1) := by decide +kernel
theorem dX7_set_26 : decode cX7_set 26 = .ok (.aload_n 0, 1) := by decide +kernel
theorem dX7_set_27 : decode cX7_set 27 = .ok (.getfield 19, 3) := by decide +kernel
theorem dX7_set_30 : decode cX7_set 30 = .ok (.aload_n 0, 1) := by decide +kernel
theorem dX7_set_31 : decode cX7_set 31 = .ok (.getfield 10, 3) := by decide +kernel
theorem dX7_set_34 : decode cX7_set 34 = .ok (.invokevirtual 58, 3) := by decide +kernel
theorem dX7_set_37 : decode cX7_set 37 = .ok (.aload_n 0, 1) := by decide +kernel
theorem dX7_set_38 : decode cX7_set 38 = .ok (.getfield 10, 3) := by decide +kernel
theorem dX7_set_41 : decode cX7_set 41 = .ok (.iload_n 1, 1) := by decide +kernel
theorem dX7_set_42 : decode cX7_set 42 = .ok (.invokevirtual 97, 3) := by decide +kernel
theorem dX7_set_45 : decode cX7_set 45 = .ok (.istore_n 3, 1) := by decide +kernel
theorem dX7_set_46 : decode cX7_set 46 = .ok (.aload_n 0, 1) := by decide +kernel
theorem dX7_set_47 : decode cX7_set 47 = .ok (.getfield 10, 3) := by decide +kernel
theorem dX7_set_50 : decode cX7_set 50 = .ok (.iload_n 1, 1) := by decide +kernel
theorem dX7_set_51 : decode cX7_set 51 = .ok (.iload_n 2, 1) := by decide +kernel
theorem dX7_set_52 : decode cX7_set 52 = .ok (.invokevirtual 100, 3) := by decide +kernel
theorem dX7_set_55 : decode cX7_set 55 = .ok (.iload_n 3, 1) := by decide +kernel
theorem dX7_set_56 : decode cX7_set 56 = .ok (.ireturn, 1) := by decide +kernel
theorem dX7_count_0 : decode cX7_count 0 = .ok (.iload_n 1, 1) := by decide +kernel
theorem dX7_count_1 : decode cX7_count 1 = .ok (.bipush 10, 2) := by decide +kernel
theorem dX7_count_3 : decode cX7_count 3 = .ok (.isub, 1) := by decide +kernel
theorem dX7_count_4 : decode cX7_count 4 = .ok (.invokestatic 86, 3) := by decide +kernel
theorem dX7_count_7 : decode cX7_count 7 = .ok (.ifCond .eq 16, 3) := by decide +kernel
theorem dX7_count_10 : decode cX7_count 10 = .ok (.aload_n 0, 1) := by decide +kernel
theorem dX7_count_11 : decode cX7_count 11 = .ok (.getfield 10, 3) := by decide +kernel
theorem dX7_count_14 : decode cX7_count 14 = .ok (.iload_n 1, 1) := by decide +kernel
theorem dX7_count_15 : decode cX7_count 15 = .ok (.bipush 10, 2) := by decide +kernel
theorem dX7_count_17 : decode cX7_count 17 = .ok (.isub, 1) := by decide +kernel
theorem dX7_count_18 : decode cX7_count 18 = .ok (.invokevirtual 97, 3) := by decide +kernel
theorem dX7_count_21 : decode cX7_count 21 = .ok (.i2l, 1) := by decide +kernel
theorem dX7_count_22 : decode cX7_count 22 = .ok (.lreturn, 1) := by decide +kernel
theorem dX7_count_23 : decode cX7_count 23 = .ok (.iload_n 1, 1) := by decide +kernel
theorem dX7_count_24 : decode cX7_count 24 = .ok (.tableswitch 220 0 24 #[116, 128, 137, 146, 154, 163, 172, 220, 220, 220, 220, 220, 220, 220, 220, 220, 220, 220, 220, 220, 180, 188, 196, 204, 212], 116) := by decide +kernel
theorem dX7_count_140 : decode cX7_count 140 = .ok (.aload_n 0, 1) := by decide +kernel
theorem dX7_count_141 : decode cX7_count 141 = .ok (.getfield 10, 3) := by decide +kernel
theorem dX7_count_144 : decode cX7_count 144 = .ok (.getfield 44, 3) := by decide +kernel
theorem dX7_count_147 : decode cX7_count 147 = .ok (.getfield 48, 3) := by decide +kernel
theorem dX7_count_150 : decode cX7_count 150 = .ok (.i2l, 1) := by decide +kernel
theorem dX7_count_151 : decode cX7_count 151 = .ok (.lreturn, 1) := by decide +kernel
theorem dX7_count_152 : decode cX7_count 152 = .ok (.aload_n 0, 1) := by decide +kernel
theorem dX7_count_153 : decode cX7_count 153 = .ok (.getfield 10, 3) := by decide +kernel
theorem dX7_count_156 : decode cX7_count 156 = .ok (.getfield 104, 3) := by decide +kernel
theorem dX7_count_159 : decode cX7_count 159 = .ok (.i2l, 1) := by decide +kernel
theorem dX7_count_160 : decode cX7_count 160 = .ok (.lreturn, 1) := by decide +kernel
theorem dX7_count_161 : decode cX7_count 161 = .ok (.aload_n 0, 1) := by decide +kernel
theorem dX7_count_162 : decode cX7_count 162 = .ok (.getfield 10, 3) := by decide +kernel
theorem dX7_count_165 : decode cX7_count 165 = .ok (.invokevirtual 107, 3) := by decide +kernel
theorem dX7_count_168 : decode cX7_count 168 = .ok (.i2l, 1) := by decide +kernel
theorem dX7_count_169 : decode cX7_count 169 = .ok (.lreturn, 1) := by decide +kernel
theorem dX7_count_170 : decode cX7_count 170 = .ok (.aload_n 0, 1) := by decide +kernel
theorem dX7_count_171 : decode cX7_count 171 = .ok (.getfield 10, 3) := by decide +kernel
theorem dX7_count_174 : decode cX7_count 174 = .ok (.getfield 111, 3) := by decide +kernel
theorem dX7_count_177 : decode cX7_count 177 = .ok (.lreturn, 1) := by decide +kernel
theorem dX7_count_178 : decode cX7_count 178 = .ok (.aload_n 0, 1) := by decide +kernel
theorem dX7_count_179 : decode cX7_count 179 = .ok (.getfield 19, 3) := by decide +kernel
theorem dX7_count_182 : decode cX7_count 182 = .ok (.getfield 115, 3) := by decide +kernel
theorem dX7_count_185 : decode cX7_count 185 = .ok (.i2l, 1) := by decide +kernel
theorem dX7_count_186 : decode cX7_count 186 = .ok (.lreturn, 1) := by decide +kernel
theorem dX7_count_187 : decode cX7_count 187 = .ok (.aload_n 0, 1) := by decide +kernel
theorem dX7_count_188 : decode cX7_count 188 = .ok (.getfield 26, 3) := by decide +kernel
theorem dX7_count_191 : decode cX7_count 191 = .ok (.getfield 118, 3) := by decide +kernel
theorem dX7_count_194 : decode cX7_count 194 = .ok (.i2l, 1) := by decide +kernel
theorem dX7_count_195 : decode cX7_count 195 = .ok (.lreturn, 1) := by decide +kernel
theorem dX7_count_196 : decode cX7_count 196 = .ok (.aload_n 0, 1) := by decide +kernel
theorem dX7_count_197 : decode cX7_count 197 = .ok (.getfield 10, 3) := by decide +kernel
theorem dX7_count_200 : decode cX7_count 200 = .ok (.invokevirtual 121, 3) := by decide +kernel
theorem dX7_count_203 : decode cX7_count 203 = .ok (.lreturn, 1) := by decide +kernel
theorem dX7_count_204 : decode cX7_count 204 = .ok (.aload_n 0, 1) := by decide +kernel
theorem dX7_count_205 : decode cX7_count 205 = .ok (.getfield 10, 3) := by decide +kernel
theorem dX7_count_208 : decode cX7_count 208 = .ok (.getfield 125, 3) := by decide +kernel
theorem dX7_count_211 : decode cX7_count 211 = .ok (.lreturn, 1) := by decide +kernel
theorem dX7_count_212 : decode cX7_count 212 = .ok (.aload_n 0, 1) := by decide +kernel
theorem dX7_count_213 : decode cX7_count 213 = .ok (.getfield 10, 3) := by decide +kernel
theorem dX7_count_216 : decode cX7_count 216 = .ok (.getfield 128, 3) := by decide +kernel
theorem dX7_count_219 : decode cX7_count 219 = .ok (.lreturn, 1) := by decide +kernel
theorem dX7_count_220 : decode cX7_count 220 = .ok (.aload_n 0, 1) := by decide +kernel
theorem dX7_count_221 : decode cX7_count 221 = .ok (.getfield 10, 3) := by decide +kernel
theorem dX7_count_224 : decode cX7_count 224 = .ok (.getfield 131, 3) := by decide +kernel
theorem dX7_count_227 : decode cX7_count 227 = .ok (.lreturn, 1) := by decide +kernel
theorem dX7_count_228 : decode cX7_count 228 = .ok (.aload_n 0, 1) := by decide +kernel
theorem dX7_count_229 : decode cX7_count 229 = .ok (.getfield 10, 3) := by decide +kernel
theorem dX7_count_232 : decode cX7_count 232 = .ok (.getfield 134, 3) := by decide +kernel
theorem dX7_count_235 : decode cX7_count 235 = .ok (.lreturn, 1) := by decide +kernel
theorem dX7_count_236 : decode cX7_count 236 = .ok (.aload_n 0, 1) := by decide +kernel
theorem dX7_count_237 : decode cX7_count 237 = .ok (.getfield 10, 3) := by decide +kernel
theorem dX7_count_240 : decode cX7_count 240 = .ok (.getfield 137, 3) := by decide +kernel
theorem dX7_count_243 : decode cX7_count 243 = .ok (.lreturn, 1) := by decide +kernel
theorem dX7_count_244 : decode cX7_count 244 = .ok (.ldc2_w 140, 3) := by decide +kernel
theorem dX7_count_247 : decode cX7_count 247 = .ok (.lreturn, 1) := by decide +kernel
theorem dX7_pile_0 : decode cX7_pile 0 = .ok (.iload_n 1, 1) := by decide +kernel
theorem dX7_pile_1 : decode cX7_pile 1 = .ok (.iconst 0, 1) := by decide +kernel
theorem dX7_pile_2 : decode cX7_pile 2 = .ok (.sipush 20000, 3) := by decide +kernel
theorem dX7_pile_5 : decode cX7_pile 5 = .ok (.invokestatic 54, 3) := by decide +kernel
theorem dX7_pile_8 : decode cX7_pile 8 = .ok (.ifCond .eq 26, 3) := by decide +kernel
theorem dX7_pile_11 : decode cX7_pile 11 = .ok (.iload_n 2, 1) := by decide +kernel
theorem dX7_pile_12 : decode cX7_pile 12 = .ok (.iconst 0, 1) := by decide +kernel
theorem dX7_pile_13 : decode cX7_pile 13 = .ok (.sipush 20000, 3) := by decide +kernel
theorem dX7_pile_16 : decode cX7_pile 16 = .ok (.invokestatic 54, 3) := by decide +kernel
theorem dX7_pile_19 : decode cX7_pile 19 = .ok (.ifCond .eq 15, 3) := by decide +kernel
theorem dX7_pile_22 : decode cX7_pile 22 = .ok (.iload_n 3, 1) := by decide +kernel
theorem dX7_pile_23 : decode cX7_pile 23 = .ok (.sipush 1000, 3) := by decide +kernel
theorem dX7_pile_26 : decode cX7_pile 26 = .ok (.ldc 142, 2) := by decide +kernel
theorem dX7_pile_28 : decode cX7_pile 28 = .ok (.invokestatic 54, 3) := by decide +kernel
theorem dX7_pile_31 : decode cX7_pile 31 = .ok (.ifCond .ne 5, 3) := by decide +kernel
theorem dX7_pile_34 : decode cX7_pile 34 = .ok (.iconst (-1), 1) := by decide +kernel
theorem dX7_pile_35 : decode cX7_pile 35 = .ok (.ireturn, 1) := by decide +kernel
theorem dX7_pile_36 : decode cX7_pile 36 = .ok (.aload_n 0, 1) := by decide +kernel
theorem dX7_pile_37 : decode cX7_pile 37 = .ok (.getfield 10, 3) := by decide +kernel
theorem dX7_pile_40 : decode cX7_pile 40 = .ok (.iload_n 1, 1) := by decide +kernel
theorem dX7_pile_41 : decode cX7_pile 41 = .ok (.iload_n 2, 1) := by decide +kernel
theorem dX7_pile_42 : decode cX7_pile 42 = .ok (.invokevirtual 143, 3) := by decide +kernel
theorem dX7_pile_45 : decode cX7_pile 45 = .ok (.ifCond .eq 6, 3) := by decide +kernel
theorem dX7_pile_48 : decode cX7_pile 48 = .ok (.bipush (-2), 2) := by decide +kernel
theorem dX7_pile_50 : decode cX7_pile 50 = .ok (.ireturn, 1) := by decide +kernel
theorem dX7_pile_51 : decode cX7_pile 51 = .ok (.aload_n 0, 1) := by decide +kernel
theorem dX7_pile_52 : decode cX7_pile 52 = .ok (.getfield 10, 3) := by decide +kernel
theorem dX7_pile_55 : decode cX7_pile 55 = .ok (.getfield 104, 3) := by decide +kernel
theorem dX7_pile_58 : decode cX7_pile 58 = .ok (.bipush 10, 2) := by decide +kernel
theorem dX7_pile_60 : decode cX7_pile 60 = .ok (.if_icmp .lt 6, 3) := by decide +kernel
theorem dX7_pile_63 : decode cX7_pile 63 = .ok (.bipush (-3), 2) := by decide +kernel
theorem dX7_pile_65 : decode cX7_pile 65 = .ok (.ireturn, 1) := by decide +kernel
theorem dX7_pile_66 : decode cX7_pile 66 = .ok (.aload_n 0, 1) := by decide +kernel
theorem dX7_pile_67 : decode cX7_pile 67 = .ok (.getfield 19, 3) := by decide +kernel
theorem dX7_pile_70 : decode cX7_pile 70 = .ok (.aload_n 0, 1) := by decide +kernel
theorem dX7_pile_71 : decode cX7_pile 71 = .ok (.getfield 10, 3) := by decide +kernel
theorem dX7_pile_74 : decode cX7_pile 74 = .ok (.invokevirtual 58, 3) := by decide +kernel
theorem dX7_pile_77 : decode cX7_pile 77 = .ok (.aload_n 0, 1) := by decide +kernel
theorem dX7_pile_78 : decode cX7_pile 78 = .ok (.getfield 10, 3) := by decide +kernel
theorem dX7_pile_81 : decode cX7_pile 81 = .ok (.iload_n 1, 1) := by decide +kernel
theorem dX7_pile_82 : decode cX7_pile 82 = .ok (.iload_n 2, 1) := by decide +kernel
theorem dX7_pile_83 : decode cX7_pile 83 = .ok (.iload_n 3, 1) := by decide +kernel
theorem dX7_pile_84 : decode cX7_pile 84 = .ok (.invokevirtual 147, 3) := by decide +kernel
theorem dX7_pile_87 : decode cX7_pile 87 = .ok (.ireturn, 1) := by decide +kernel
theorem dX7_pileOf_0 : decode cX7_pileOf 0 = .ok (.aload_n 0, 1) := by decide +kernel
theorem dX7_pileOf_1 : decode cX7_pileOf 1 = .ok (.getfield 10, 3) := by decide +kernel
theorem dX7_pileOf_4 : decode cX7_pileOf 4 = .ok (.iload_n 1, 1) := by decide +kernel
theorem dX7_pileOf_5 : decode cX7_pileOf 5 = .ok (.invokevirtual 151, 3) := by decide +kernel
theorem dX7_pileOf_8 : decode cX7_pileOf 8 = .ok (.astore_n 3, 1) := by decide +kernel
theorem dX7_pileOf_9 : decode cX7_pileOf 9 = .ok (.aload_n 3, 1) := by decide +kernel
theorem dX7_pileOf_10 : decode cX7_pileOf 10 = .ok (.ifnonnull 5, 3) := by decide +kernel
theorem dX7_pileOf_13 : decode cX7_pileOf 13 = .ok (.iconst (-1), 1) := by decide +kernel
theorem dX7_pileOf_14 : decode cX7_pileOf 14 = .ok (.ireturn, 1) := by decide +kernel
theorem dX7_pileOf_15 : decode cX7_pileOf 15 = .ok (.iload_n 2, 1) := by decide +kernel
theorem dX7_pileOf_16 : decode cX7_pileOf 16 = .ok (.tableswitch 173 0 12 #[68, 73, 78, 83, 88, 93, 110, 131, 144, 149, 154, 159, 168], 68) := by decide +kernel
theorem dX7_pileOf_84 : decode cX7_pileOf 84 = .ok (.aload_n 3, 1) := by decide +kernel
theorem dX7_pileOf_85 : decode cX7_pileOf 85 = .ok (.getfield 155, 3) := by decide +kernel
theorem dX7_pileOf_88 : decode cX7_pileOf 88 = .ok (.ireturn, 1) := by decide +kernel
theorem dX7_pileOf_89 : decode cX7_pileOf 89 = .ok (.aload_n 3, 1) := by decide +kernel
theorem dX7_pileOf_90 : decode cX7_pileOf 90 = .ok (.getfield 160, 3) := by decide +kernel
theorem dX7_pileOf_93 : decode cX7_pileOf 93 = .ok (.ireturn, 1) := by decide +kernel
theorem dX7_pileOf_94 : decode cX7_pileOf 94 = .ok (.aload_n 3, 1) := by decide +kernel
theorem dX7_pileOf_95 : decode cX7_pileOf 95 = .ok (.getfield 163, 3) := by decide +kernel
theorem dX7_pileOf_98 : decode cX7_pileOf 98 = .ok (.ireturn, 1) := by decide +kernel
theorem dX7_pileOf_99 : decode cX7_pileOf 99 = .ok (.aload_n 3, 1) := by decide +kernel
theorem dX7_pileOf_100 : decode cX7_pileOf 100 = .ok (.getfield 164, 3) := by decide +kernel
theorem dX7_pileOf_103 : decode cX7_pileOf 103 = .ok (.ireturn, 1) := by decide +kernel
theorem dX7_pileOf_104 : decode cX7_pileOf 104 = .ok (.aload_n 3, 1) := by decide +kernel
theorem dX7_pileOf_105 : decode cX7_pileOf 105 = .ok (.getfield 167, 3) := by decide +kernel
theorem dX7_pileOf_108 : decode cX7_pileOf 108 = .ok (.ireturn, 1) := by decide +kernel
theorem dX7_pileOf_109 : decode cX7_pileOf 109 = .ok (.aload_n 3, 1) := by decide +kernel
theorem dX7_pileOf_110 : decode cX7_pileOf 110 = .ok (.getfield 167, 3) := by decide +kernel
theorem dX7_pileOf_113 : decode cX7_pileOf 113 = .ok (.ifCond .le 10, 3) := by decide +kernel
theorem dX7_pileOf_116 : decode cX7_pileOf 116 = .ok (.aload_n 3, 1) := by decide +kernel
theorem dX7_pileOf_117 : decode cX7_pileOf 117 = .ok (.getfield 170, 3) := by decide +kernel
theorem dX7_pileOf_120 : decode cX7_pileOf 120 = .ok (.goto 5, 3) := by decide +kernel
theorem dX7_pileOf_123 : decode cX7_pileOf 123 = .ok (.bipush (-4), 2) := by decide +kernel
theorem dX7_pileOf_125 : decode cX7_pileOf 125 = .ok (.ireturn, 1) := by decide +kernel
theorem dX7_pileOf_126 : decode cX7_pileOf 126 = .ok (.aload_n 3, 1) := by decide +kernel
theorem dX7_pileOf_127 : decode cX7_pileOf 127 = .ok (.getfield 167, 3) := by decide +kernel
theorem dX7_pileOf_130 : decode cX7_pileOf 130 = .ok (.ifCond .le 14, 3) := by decide +kernel
theorem dX7_pileOf_133 : decode cX7_pileOf 133 = .ok (.aload_n 0, 1) := by decide +kernel
theorem dX7_pileOf_134 : decode cX7_pileOf 134 = .ok (.getfield 10, 3) := by decide +kernel
theorem dX7_pileOf_137 : decode cX7_pileOf 137 = .ok (.aload_n 3, 1) := by decide +kernel
theorem dX7_pileOf_138 : decode cX7_pileOf 138 = .ok (.invokevirtual 173, 3) := by decide +kernel
theorem dX7_pileOf_141 : decode cX7_pileOf 141 = .ok (.goto 5, 3) := by decide +kernel
theorem dX7_pileOf_144 : decode cX7_pileOf 144 = .ok (.bipush (-4), 2) := by decide +kernel
theorem dX7_pileOf_146 : decode cX7_pileOf 146 = .ok (.ireturn, 1) := by decide +kernel
theorem dX7_pileOf_147 : decode cX7_pileOf 147 = .ok (.aload_n 3, 1) := by decide +kernel
theorem dX7_pileOf_148 : decode cX7_pileOf 148 = .ok (.getfield 177, 3) := by decide +kernel
theorem dX7_pileOf_151 : decode cX7_pileOf 151 = .ok (.ifCond .eq 7, 3) := by decide +kernel
theorem dX7_pileOf_154 : decode cX7_pileOf 154 = .ok (.iconst 1, 1) := by decide +kernel
theorem dX7_pileOf_155 : decode cX7_pileOf 155 = .ok (.goto 4, 3) := by decide +kernel
theorem dX7_pileOf_158 : decode cX7_pileOf 158 = .ok (.iconst 0, 1) := by decide +kernel
theorem dX7_pileOf_159 : decode cX7_pileOf 159 = .ok (.ireturn, 1) := by decide +kernel
theorem dX7_pileOf_160 : decode cX7_pileOf 160 = .ok (.aload_n 3, 1) := by decide +kernel
theorem dX7_pileOf_161 : decode cX7_pileOf 161 = .ok (.getfield 181, 3) := by decide +kernel
theorem dX7_pileOf_164 : decode cX7_pileOf 164 = .ok (.ireturn, 1) := by decide +kernel
theorem dX7_pileOf_165 : decode cX7_pileOf 165 = .ok (.aload_n 3, 1) := by decide +kernel
theorem dX7_pileOf_166 : decode cX7_pileOf 166 = .ok (.getfield 183, 3) := by decide +kernel
theorem dX7_pileOf_169 : decode cX7_pileOf 169 = .ok (.ireturn, 1) := by decide +kernel
theorem dX7_pileOf_170 : decode cX7_pileOf 170 = .ok (.aload_n 3, 1) := by decide +kernel
theorem dX7_pileOf_171 : decode cX7_pileOf 171 = .ok (.getfield 185, 3) := by decide +kernel
theorem dX7_pileOf_174 : decode cX7_pileOf 174 = .ok (.ireturn, 1) := by decide +kernel
theorem dX7_pileOf_175 : decode cX7_pileOf 175 = .ok (.aload_n 0, 1) := by decide +kernel
theorem dX7_pileOf_176 : decode cX7_pileOf 176 = .ok (.getfield 10, 3) := by decide +kernel
theorem dX7_pileOf_179 : decode cX7_pileOf 179 = .ok (.aload_n 3, 1) := by decide +kernel
theorem dX7_pileOf_180 : decode cX7_pileOf 180 = .ok (.invokevirtual 187, 3) := by decide +kernel
theorem dX7_pileOf_183 : decode cX7_pileOf 183 = .ok (.ireturn, 1) := by decide +kernel
theorem dX7_pileOf_184 : decode cX7_pileOf 184 = .ok (.aload_n 3, 1) := by decide +kernel
theorem dX7_pileOf_185 : decode cX7_pileOf 185 = .ok (.getfield 190, 3) := by decide +kernel
theorem dX7_pileOf_188 : decode cX7_pileOf 188 = .ok (.ireturn, 1) := by decide +kernel
theorem dX7_pileOf_189 : decode cX7_pileOf 189 = .ok (.iconst (-1), 1) := by decide +kernel
theorem dX7_pileOf_190 : decode cX7_pileOf 190 = .ok (.ireturn, 1) := by decide +kernel
theorem dX7_blow_0 : decode cX7_blow 0 = .ok (.aload_n 0, 1) := by decide +kernel
theorem dX7_blow_1 : decode cX7_blow 1 = .ok (.getfield 10, 3) := by decide +kernel
theorem dX7_blow_4 : decode cX7_blow 4 = .ok (.iload_n 1, 1) := by decide +kernel
theorem dX7_blow_5 : decode cX7_blow 5 = .ok (.invokevirtual 151, 3) := by decide +kernel
theorem dX7_blow_8 : decode cX7_blow 8 = .ok (.astore 4, 2) := by decide +kernel
theorem dX7_blow_10 : decode cX7_blow 10 = .ok (.aload 4, 2) := by decide +kernel
theorem dX7_blow_12 : decode cX7_blow 12 = .ok (.ifnull 16, 3) := by decide +kernel
theorem dX7_blow_15 : decode cX7_blow 15 = .ok (.iload_n 2, 1) := by decide +kernel
theorem dX7_blow_16 : decode cX7_blow 16 = .ok (.ifCond .lt 12, 3) := by decide +kernel
theorem dX7_blow_19 : decode cX7_blow 19 = .ok (.iload_n 3, 1) := by decide +kernel
theorem dX7_blow_20 : decode cX7_blow 20 = .ok (.iconst 0, 1) := by decide +kernel
theorem dX7_blow_21 : decode cX7_blow 21 = .ok (.iconst 1, 1) := by decide +kernel
theorem dX7_blow_22 : decode cX7_blow 22 = .ok (.invokestatic 54, 3) := by decide +kernel
theorem dX7_blow_25 : decode cX7_blow 25 = .ok (.ifCond .ne 5, 3) := by decide +kernel
theorem dX7_blow_28 : decode cX7_blow 28 = .ok (.iconst (-1), 1) := by decide +kernel
theorem dX7_blow_29 : decode cX7_blow 29 = .ok (.ireturn, 1) := by decide +kernel
theorem dX7_blow_30 : decode cX7_blow 30 = .ok (.iload_n 2, 1) := by decide +kernel
theorem dX7_blow_31 : decode cX7_blow 31 = .ok (.aload 4, 2) := by decide +kernel
theorem dX7_blow_33 : decode cX7_blow 33 = .ok (.getfield 190, 3) := by decide +kernel
theorem dX7_blow_36 : decode cX7_blow 36 = .ok (.if_icmp .lt 6, 3) := by decide +kernel
theorem dX7_blow_39 : decode cX7_blow 39 = .ok (.bipush (-4), 2) := by decide +kernel
theorem dX7_blow_41 : decode cX7_blow 41 = .ok (.ireturn, 1) := by decide +kernel
theorem dX7_blow_42 : decode cX7_blow 42 = .ok (.aload 4, 2) := by decide +kernel
theorem dX7_blow_44 : decode cX7_blow 44 = .ok (.getfield 190, 3) := by decide +kernel
theorem dX7_blow_47 : decode cX7_blow 47 = .ok (.iconst 1, 1) := by decide +kernel
theorem dX7_blow_48 : decode cX7_blow 48 = .ok (.isub, 1) := by decide +kernel
theorem dX7_blow_49 : decode cX7_blow 49 = .ok (.iload_n 2, 1) := by decide +kernel
theorem dX7_blow_50 : decode cX7_blow 50 = .ok (.isub, 1) := by decide +kernel
theorem dX7_blow_51 : decode cX7_blow 51 = .ok (.istore 5, 2) := by decide +kernel
theorem dX7_blow_53 : decode cX7_blow 53 = .ok (.iload_n 3, 1) := by decide +kernel
theorem dX7_blow_54 : decode cX7_blow 54 = .ok (.ifCond .ne 13, 3) := by decide +kernel
theorem dX7_blow_57 : decode cX7_blow 57 = .ok (.aload 4, 2) := by decide +kernel
theorem dX7_blow_59 : decode cX7_blow 59 = .ok (.iload 5, 2) := by decide +kernel
theorem dX7_blow_61 : decode cX7_blow 61 = .ok (.invokevirtual 193, 3) := by decide +kernel
theorem dX7_blow_64 : decode cX7_blow 64 = .ok (.goto 10, 3) := by decide +kernel
theorem dX7_blow_67 : decode cX7_blow 67 = .ok (.aload 4, 2) := by decide +kernel
theorem dX7_blow_69 : decode cX7_blow 69 = .ok (.iload 5, 2) := by decide +kernel
theorem dX7_blow_71 : decode cX7_blow 71 = .ok (.invokevirtual 196, 3) := by decide +kernel
theorem dX7_blow_74 : decode cX7_blow 74 = .ok (.ireturn, 1) := by decide +kernel
theorem dX7_strike_0 : decode cX7_strike 0 = .ok (.aload_n 0, 1) := by decide +kernel
theorem dX7_strike_1 : decode cX7_strike 1 = .ok (.getfield 10, 3) := by decide +kernel
theorem dX7_strike_4 : decode cX7_strike 4 = .ok (.iload_n 1, 1) := by decide +kernel
theorem dX7_strike_5 : decode cX7_strike 5 = .ok (.invokevirtual 151, 3) := by decide +kernel
theorem dX7_strike_8 : decode cX7_strike 8 = .ok (.astore_n 3, 1) := by decide +kernel
theorem dX7_strike_9 : decode cX7_strike 9 = .ok (.aload_n 3, 1) := by decide +kernel
theorem dX7_strike_10 : decode cX7_strike 10 = .ok (.ifnull 10, 3) := by decide +kernel
theorem dX7_strike_13 : decode cX7_strike 13 = .ok (.iload_n 2, 1) := by decide +kernel
theorem dX7_strike_14 : decode cX7_strike 14 = .ok (.invokestatic 199, 3) := by decide +kernel
theorem dX7_strike_17 : decode cX7_strike 17 = .ok (.ifCond .ne 5, 3) := by decide +kernel
theorem dX7_strike_20 : decode cX7_strike 20 = .ok (.iconst (-1), 1) := by decide +kernel
theorem dX7_strike_21 : decode cX7_strike 21 = .ok (.ireturn, 1) := by decide +kernel
theorem dX7_strike_22 : decode cX7_strike 22 = .ok (.aload_n 3, 1) := by decide +kernel
theorem dX7_strike_23 : decode cX7_strike 23 = .ok (.invokevirtual 202, 3) := by decide +kernel
theorem dX7_strike_26 : decode cX7_strike 26 = .ok (.ifCond .gt 6, 3) := by decide +kernel
theorem dX7_strike_29 : decode cX7_strike 29 = .ok (.bipush (-2), 2) := by decide +kernel
theorem dX7_strike_31 : decode cX7_strike 31 = .ok (.ireturn, 1) := by decide +kernel
theorem dX7_strike_32 : decode cX7_strike 32 = .ok (.aload_n 0, 1) := by decide +kernel
theorem dX7_strike_33 : decode cX7_strike 33 = .ok (.getfield 19, 3) := by decide +kernel
theorem dX7_strike_36 : decode cX7_strike 36 = .ok (.aload_n 0, 1) := by decide +kernel
theorem dX7_strike_37 : decode cX7_strike 37 = .ok (.getfield 10, 3) := by decide +kernel
theorem dX7_strike_40 : decode cX7_strike 40 = .ok (.invokevirtual 58, 3) := by decide +kernel
theorem dX7_strike_43 : decode cX7_strike 43 = .ok (.aload_n 0, 1) := by decide +kernel
theorem dX7_strike_44 : decode cX7_strike 44 = .ok (.getfield 10, 3) := by decide +kernel
theorem dX7_strike_47 : decode cX7_strike 47 = .ok (.aload_n 3, 1) := by decide +kernel
theorem dX7_strike_48 : decode cX7_strike 48 = .ok (.iload_n 2, 1) := by decide +kernel
theorem dX7_strike_49 : decode cX7_strike 49 = .ok (.invokevirtual 205, 3) := by decide +kernel
theorem dX7_strike_52 : decode cX7_strike 52 = .ok (.ireturn, 1) := by decide +kernel
theorem dX7_drive_0 : decode cX7_drive 0 = .ok (.aload_n 0, 1) := by decide +kernel
theorem dX7_drive_1 : decode cX7_drive 1 = .ok (.getfield 10, 3) := by decide +kernel
theorem dX7_drive_4 : decode cX7_drive 4 = .ok (.iload_n 1, 1) := by decide +kernel
theorem dX7_drive_5 : decode cX7_drive 5 = .ok (.invokevirtual 151, 3) := by decide +kernel
theorem dX7_drive_8 : decode cX7_drive 8 = .ok (.astore 5, 2) := by decide +kernel
theorem dX7_drive_10 : decode cX7_drive 10 = .ok (.aload 5, 2) := by decide +kernel
theorem dX7_drive_12 : decode cX7_drive 12 = .ok (.ifnull 32, 3) := by decide +kernel
theorem dX7_drive_15 : decode cX7_drive 15 = .ok (.iload_n 2, 1) := by decide +kernel
theorem dX7_drive_16 : decode cX7_drive 16 = .ok (.invokestatic 199, 3) := by decide +kernel
theorem dX7_drive_19 : decode cX7_drive 19 = .ok (.ifCond .eq 25, 3) := by decide +kernel
theorem dX7_drive_22 : decode cX7_drive 22 = .ok (.iload_n 3, 1) := by decide +kernel
theorem dX7_drive_23 : decode cX7_drive 23 = .ok (.iconst 0, 1) := by decide +kernel
theorem dX7_drive_24 : decode cX7_drive 24 = .ok (.sipush 500, 3) := by decide +kernel
theorem dX7_drive_27 : decode cX7_drive 27 = .ok (.invokestatic 54, 3) := by decide +kernel
theorem dX7_drive_30 : decode cX7_drive 30 = .ok (.ifCond .eq 14, 3) := by decide +kernel
theorem dX7_drive_33 : decode cX7_drive 33 = .ok (.iload 4, 2) := by decide +kernel
theorem dX7_drive_35 : decode cX7_drive 35 = .ok (.iconst 1, 1) := by decide +kernel
theorem dX7_drive_36 : decode cX7_drive 36 = .ok (.bipush 100, 2) := by decide +kernel
theorem dX7_drive_38 : decode cX7_drive 38 = .ok (.invokestatic 54, 3) := by decide +kernel
theorem dX7_drive_41 : decode cX7_drive 41 = .ok (.ifCond .ne 5, 3) := by decide +kernel
theorem dX7_drive_44 : decode cX7_drive 44 = .ok (.iconst (-1), 1) := by decide +kernel
theorem dX7_drive_45 : decode cX7_drive 45 = .ok (.ireturn, 1) := by decide +kernel
theorem dX7_drive_46 : decode cX7_drive 46 = .ok (.aload 5, 2) := by decide +kernel
theorem dX7_drive_48 : decode cX7_drive 48 = .ok (.invokevirtual 202, 3) := by decide +kernel
theorem dX7_drive_51 : decode cX7_drive 51 = .ok (.ifCond .gt 6, 3) := by decide +kernel
theorem dX7_drive_54 : decode cX7_drive 54 = .ok (.bipush (-2), 2) := by decide +kernel
theorem dX7_drive_56 : decode cX7_drive 56 = .ok (.ireturn, 1) := by decide +kernel
theorem dX7_drive_57 : decode cX7_drive 57 = .ok (.aload_n 0, 1) := by decide +kernel
theorem dX7_drive_58 : decode cX7_drive 58 = .ok (.getfield 19, 3) := by decide +kernel
theorem dX7_drive_61 : decode cX7_drive 61 = .ok (.aload_n 0, 1) := by decide +kernel
theorem dX7_drive_62 : decode cX7_drive 62 = .ok (.getfield 10, 3) := by decide +kernel
theorem dX7_drive_65 : decode cX7_drive 65 = .ok (.invokevirtual 58, 3) := by decide +kernel
theorem dX7_drive_68 : decode cX7_drive 68 = .ok (.iconst 0, 1) := by decide +kernel
theorem dX7_drive_69 : decode cX7_drive 69 = .ok (.istore 6, 2) := by decide +kernel
theorem dX7_drive_71 : decode cX7_drive 71 = .ok (.iconst 1, 1) := by decide +kernel
theorem dX7_drive_72 : decode cX7_drive 72 = .ok (.istore 7, 2) := by decide +kernel
theorem dX7_drive_74 : decode cX7_drive 74 = .ok (.iload 7, 2) := by decide +kernel
theorem dX7_drive_76 : decode cX7_drive 76 = .ok (.ifCond .eq 49, 3) := by decide +kernel
theorem dX7_drive_79 : decode cX7_drive 79 = .ok (.iload 6, 2) := by decide +kernel
theorem dX7_drive_81 : decode cX7_drive 81 = .ok (.iload 4, 2) := by decide +kernel
theorem dX7_drive_83 : decode cX7_drive 83 = .ok (.if_icmp .ge 42, 3) := by decide +kernel
theorem dX7_drive_86 : decode cX7_drive 86 = .ok (.aload_n 0, 1) := by decide +kernel
theorem dX7_drive_87 : decode cX7_drive 87 = .ok (.getfield 10, 3) := by decide +kernel
theorem dX7_drive_90 : decode cX7_drive 90 = .ok (.aload 5, 2) := by decide +kernel
theorem dX7_drive_92 : decode cX7_drive 92 = .ok (.iload_n 2, 1) := by decide +kernel
theorem dX7_drive_93 : decode cX7_drive 93 = .ok (.invokevirtual 205, 3) := by decide +kernel
theorem dX7_drive_96 : decode cX7_drive 96 = .ok (.istore 8, 2) := by decide +kernel
theorem dX7_drive_98 : decode cX7_drive 98 = .ok (.iinc 6 1, 3) := by decide +kernel
theorem dX7_drive_101 : decode cX7_drive 101 = .ok (.iload 8, 2) := by decide +kernel
theorem dX7_drive_103 : decode cX7_drive 103 = .ok (.iload_n 3, 1) := by decide +kernel
theorem dX7_drive_104 : decode cX7_drive 104 = .ok (.if_icmp .le 15, 3) := by decide +kernel
theorem dX7_drive_107 : decode cX7_drive 107 = .ok (.aload 5, 2) := by decide +kernel
theorem dX7_drive_109 : decode cX7_drive 109 = .ok (.invokevirtual 202, 3) := by decide +kernel
theorem dX7_drive_112 : decode cX7_drive 112 = .ok (.ifCond .le 7, 3) := by decide +kernel
theorem dX7_drive_115 : decode cX7_drive 115 = .ok (.iconst 1, 1) := by decide +kernel
theorem dX7_drive_116 : decode cX7_drive 116 = .ok (.goto 4, 3) := by decide +kernel
theorem dX7_drive_119 : decode cX7_drive 119 = .ok (.iconst 0, 1) := by decide +kernel
theorem dX7_drive_120 : decode cX7_drive 120 = .ok (.istore 7, 2) := by decide +kernel
theorem dX7_drive_122 : decode cX7_drive 122 = .ok (.goto (-48), 3) := by decide +kernel
theorem dX7_drive_125 : decode cX7_drive 125 = .ok (.iload 6, 2) := by decide +kernel
theorem dX7_drive_127 : decode cX7_drive 127 = .ok (.ireturn, 1) := by decide +kernel
theorem dX7_would_0 : decode cX7_would 0 = .ok (.aload_n 0, 1) := by decide +kernel
theorem dX7_would_1 : decode cX7_would 1 = .ok (.getfield 10, 3) := by decide +kernel
theorem dX7_would_4 : decode cX7_would 4 = .ok (.iload_n 1, 1) := by decide +kernel
theorem dX7_would_5 : decode cX7_would 5 = .ok (.invokevirtual 151, 3) := by decide +kernel
theorem dX7_would_8 : decode cX7_would 8 = .ok (.astore_n 3, 1) := by decide +kernel
theorem dX7_would_9 : decode cX7_would 9 = .ok (.aload_n 3, 1) := by decide +kernel
theorem dX7_would_10 : decode cX7_would 10 = .ok (.ifnull 10, 3) := by decide +kernel
theorem dX7_would_13 : decode cX7_would 13 = .ok (.iload_n 2, 1) := by decide +kernel
theorem dX7_would_14 : decode cX7_would 14 = .ok (.invokestatic 199, 3) := by decide +kernel
theorem dX7_would_17 : decode cX7_would 17 = .ok (.ifCond .ne 5, 3) := by decide +kernel
theorem dX7_would_20 : decode cX7_would 20 = .ok (.iconst (-1), 1) := by decide +kernel
theorem dX7_would_21 : decode cX7_would 21 = .ok (.ireturn, 1) := by decide +kernel
theorem dX7_would_22 : decode cX7_would 22 = .ok (.aload_n 3, 1) := by decide +kernel
theorem dX7_would_23 : decode cX7_would 23 = .ok (.invokevirtual 202, 3) := by decide +kernel
theorem dX7_would_26 : decode cX7_would 26 = .ok (.ifCond .gt 6, 3) := by decide +kernel
theorem dX7_would_29 : decode cX7_would 29 = .ok (.bipush (-2), 2) := by decide +kernel
theorem dX7_would_31 : decode cX7_would 31 = .ok (.ireturn, 1) := by decide +kernel
theorem dX7_would_32 : decode cX7_would 32 = .ok (.aload_n 0, 1) := by decide +kernel
theorem dX7_would_33 : decode cX7_would 33 = .ok (.getfield 10, 3) := by decide +kernel
theorem dX7_would_36 : decode cX7_would 36 = .ok (.aload_n 0, 1) := by decide +kernel
theorem dX7_would_37 : decode cX7_would 37 = .ok (.getfield 10, 3) := by decide +kernel
theorem dX7_would_40 : decode cX7_would 40 = .ok (.iload_n 2, 1) := by decide +kernel
theorem dX7_would_41 : decode cX7_would 41 = .ok (.invokevirtual 209, 3) := by decide +kernel
theorem dX7_would_44 : decode cX7_would 44 = .ok (.aload_n 3, 1) := by decide +kernel
theorem dX7_would_45 : decode cX7_would 45 = .ok (.getfield 164, 3) := by decide +kernel
theorem dX7_would_48 : decode cX7_would 48 = .ok (.aload_n 3, 1) := by decide +kernel
theorem dX7_would_49 : decode cX7_would 49 = .ok (.getfield 163, 3) := by decide +kernel
theorem dX7_would_52 : decode cX7_would 52 = .ok (.invokevirtual 212, 3) := by decide +kernel
theorem dX7_would_55 : decode cX7_would 55 = .ok (.ireturn, 1) := by decide +kernel
theorem dX7_fallFor_0 : decode cX7_fallFor 0 = .ok (.aload_n 0, 1) := by decide +kernel
theorem dX7_fallFor_1 : decode cX7_fallFor 1 = .ok (.getfield 10, 3) := by decide +kernel
theorem dX7_fallFor_4 : decode cX7_fallFor 4 = .ok (.iload_n 1, 1) := by decide +kernel
theorem dX7_fallFor_5 : decode cX7_fallFor 5 = .ok (.invokevirtual 151, 3) := by decide +kernel
theorem dX7_fallFor_8 : decode cX7_fallFor 8 = .ok (.astore_n 3, 1) := by decide +kernel
theorem dX7_fallFor_9 : decode cX7_fallFor 9 = .ok (.aload_n 3, 1) := by decide +kernel
theorem dX7_fallFor_10 : decode cX7_fallFor 10 = .ok (.ifnull 14, 3) := by decide +kernel
theorem dX7_fallFor_13 : decode cX7_fallFor 13 = .ok (.iload_n 2, 1) := by decide +kernel
theorem dX7_fallFor_14 : decode cX7_fallFor 14 = .ok (.iconst 0, 1) := by decide +kernel
theorem dX7_fallFor_15 : decode cX7_fallFor 15 = .ok (.sipush 500, 3) := by decide +kernel
theorem dX7_fallFor_18 : decode cX7_fallFor 18 = .ok (.invokestatic 54, 3) := by decide +kernel
theorem dX7_fallFor_21 : decode cX7_fallFor 21 = .ok (.ifCond .ne 5, 3) := by decide +kernel
theorem dX7_fallFor_24 : decode cX7_fallFor 24 = .ok (.iconst (-1), 1) := by decide +kernel
theorem dX7_fallFor_25 : decode cX7_fallFor 25 = .ok (.ireturn, 1) := by decide +kernel
theorem dX7_fallFor_26 : decode cX7_fallFor 26 = .ok (.aload_n 3, 1) := by decide +kernel
theorem dX7_fallFor_27 : decode cX7_fallFor 27 = .ok (.invokevirtual 202, 3) := by decide +kernel
theorem dX7_fallFor_30 : decode cX7_fallFor 30 = .ok (.ifCond .gt 6, 3) := by decide +kernel
theorem dX7_fallFor_33 : decode cX7_fallFor 33 = .ok (.bipush (-2), 2) := by decide +kernel
theorem dX7_fallFor_35 : decode cX7_fallFor 35 = .ok (.ireturn, 1) := by decide +kernel
theorem dX7_fallFor_36 : decode cX7_fallFor 36 = .ok (.bipush 100, 2) := by decide +kernel
theorem dX7_fallFor_38 : decode cX7_fallFor 38 = .ok (.istore 4, 2) := by decide +kernel
theorem dX7_fallFor_40 : decode cX7_fallFor 40 = .ok (.iload 4, 2) := by decide +kernel
theorem dX7_fallFor_42 : decode cX7_fallFor 42 = .ok (.sipush 3000, 3) := by decide +kernel
theorem dX7_fallFor_45 : decode cX7_fallFor 45 = .ok (.if_icmp .gt 40, 3) := by decide +kernel
theorem dX7_fallFor_48 : decode cX7_fallFor 48 = .ok (.aload_n 0, 1) := by decide +kernel
theorem dX7_fallFor_49 : decode cX7_fallFor 49 = .ok (.getfield 10, 3) := by decide +kernel
theorem dX7_fallFor_52 : decode cX7_fallFor 52 = .ok (.aload_n 0, 1) := by decide +kernel
theorem dX7_fallFor_53 : decode cX7_fallFor 53 = .ok (.getfield 10, 3) := by decide +kernel
theorem dX7_fallFor_56 : decode cX7_fallFor 56 = .ok (.iload 4, 2) := by decide +kernel
theorem dX7_fallFor_58 : decode cX7_fallFor 58 = .ok (.invokevirtual 209, 3) := by decide +kernel
theorem dX7_fallFor_61 : decode cX7_fallFor 61 = .ok (.aload_n 3, 1) := by decide +kernel
theorem dX7_fallFor_62 : decode cX7_fallFor 62 = .ok (.getfield 164, 3) := by decide +kernel
theorem dX7_fallFor_65 : decode cX7_fallFor 65 = .ok (.aload_n 3, 1) := by decide +kernel
theorem dX7_fallFor_66 : decode cX7_fallFor 66 = .ok (.getfield 163, 3) := by decide +kernel
theorem dX7_fallFor_69 : decode cX7_fallFor 69 = .ok (.invokevirtual 212, 3) := by decide +kernel
theorem dX7_fallFor_72 : decode cX7_fallFor 72 = .ok (.iload_n 2, 1) := by decide +kernel
theorem dX7_fallFor_73 : decode cX7_fallFor 73 = .ok (.if_icmp .lt 6, 3) := by decide +kernel
theorem dX7_fallFor_76 : decode cX7_fallFor 76 = .ok (.iload 4, 2) := by decide +kernel
theorem dX7_fallFor_78 : decode cX7_fallFor 78 = .ok (.ireturn, 1) := by decide +kernel
theorem dX7_fallFor_79 : decode cX7_fallFor 79 = .ok (.iinc 4 1, 3) := by decide +kernel
theorem dX7_fallFor_82 : decode cX7_fallFor 82 = .ok (.goto (-42), 3) := by decide +kernel
theorem dX7_fallFor_85 : decode cX7_fallFor 85 = .ok (.bipush (-4), 2) := by decide +kernel
theorem dX7_fallFor_87 : decode cX7_fallFor 87 = .ok (.ireturn, 1) := by decide +kernel
theorem dX7_blowsTo_0 : decode cX7_blowsTo 0 = .ok (.aload_n 0, 1) := by decide +kernel
theorem dX7_blowsTo_1 : decode cX7_blowsTo 1 = .ok (.getfield 10, 3) := by decide +kernel
theorem dX7_blowsTo_4 : decode cX7_blowsTo 4 = .ok (.iload_n 1, 1) := by decide +kernel
theorem dX7_blowsTo_5 : decode cX7_blowsTo 5 = .ok (.invokevirtual 151, 3) := by decide +kernel
theorem dX7_blowsTo_8 : decode cX7_blowsTo 8 = .ok (.astore 4, 2) := by decide +kernel
theorem dX7_blowsTo_10 : decode cX7_blowsTo 10 = .ok (.aload 4, 2) := by decide +kernel
theorem dX7_blowsTo_12 : decode cX7_blowsTo 12 = .ok (.ifnull 20, 3) := by decide +kernel
theorem dX7_blowsTo_15 : decode cX7_blowsTo 15 = .ok (.iload_n 2, 1) := by decide +kernel
theorem dX7_blowsTo_16 : decode cX7_blowsTo 16 = .ok (.invokestatic 199, 3) := by decide +kernel
theorem dX7_blowsTo_19 : decode cX7_blowsTo 19 = .ok (.ifCond .eq 13, 3) := by decide +kernel
theorem dX7_blowsTo_22 : decode cX7_blowsTo 22 = .ok (.iload_n 3, 1) := by decide +kernel
theorem dX7_blowsTo_23 : decode cX7_blowsTo 23 = .ok (.iconst 0, 1) := by decide +kernel
theorem dX7_blowsTo_24 : decode cX7_blowsTo 24 = .ok (.ldc 142, 2) := by decide +kernel
theorem dX7_blowsTo_26 : decode cX7_blowsTo 26 = .ok (.invokestatic 54, 3) := by decide +kernel
theorem dX7_blowsTo_29 : decode cX7_blowsTo 29 = .ok (.ifCond .ne 5, 3) := by decide +kernel
theorem dX7_blowsTo_32 : decode cX7_blowsTo 32 = .ok (.iconst (-1), 1) := by decide +kernel
theorem dX7_blowsTo_33 : decode cX7_blowsTo 33 = .ok (.ireturn, 1) := by decide +kernel
theorem dX7_blowsTo_34 : decode cX7_blowsTo 34 = .ok (.aload 4, 2) := by decide +kernel
theorem dX7_blowsTo_36 : decode cX7_blowsTo 36 = .ok (.getfield 163, 3) := by decide +kernel
theorem dX7_blowsTo_39 : decode cX7_blowsTo 39 = .ok (.iload_n 3, 1) := by decide +kernel
theorem dX7_blowsTo_40 : decode cX7_blowsTo 40 = .ok (.if_icmp .ge 6, 3) := by decide +kernel
theorem dX7_blowsTo_43 : decode cX7_blowsTo 43 = .ok (.bipush (-4), 2) := by decide +kernel
theorem dX7_blowsTo_45 : decode cX7_blowsTo 45 = .ok (.ireturn, 1) := by decide +kernel
theorem dX7_blowsTo_46 : decode cX7_blowsTo 46 = .ok (.aload_n 0, 1) := by decide +kernel
theorem dX7_blowsTo_47 : decode cX7_blowsTo 47 = .ok (.getfield 10, 3) := by decide +kernel
theorem dX7_blowsTo_50 : decode cX7_blowsTo 50 = .ok (.aload 4, 2) := by decide +kernel
theorem dX7_blowsTo_52 : decode cX7_blowsTo 52 = .ok (.getfield 164, 3) := by decide +kernel
theorem dX7_blowsTo_55 : decode cX7_blowsTo 55 = .ok (.iload_n 3, 1) := by decide +kernel
theorem dX7_blowsTo_56 : decode cX7_blowsTo 56 = .ok (.aload_n 0, 1) := by decide +kernel
theorem dX7_blowsTo_57 : decode cX7_blowsTo 57 = .ok (.getfield 10, 3) := by decide +kernel
theorem dX7_blowsTo_60 : decode cX7_blowsTo 60 = .ok (.iload_n 2, 1) := by decide +kernel
theorem dX7_blowsTo_61 : decode cX7_blowsTo 61 = .ok (.invokevirtual 209, 3) := by decide +kernel
theorem dX7_blowsTo_64 : decode cX7_blowsTo 64 = .ok (.invokevirtual 215, 3) := by decide +kernel
theorem dX7_blowsTo_67 : decode cX7_blowsTo 67 = .ok (.ireturn, 1) := by decide +kernel
theorem dX7_test_0 : decode cX7_test 0 = .ok (.aload_n 0, 1) := by decide +kernel
theorem dX7_test_1 : decode cX7_test 1 = .ok (.getfield 10, 3) := by decide +kernel
theorem dX7_test_4 : decode cX7_test 4 = .ok (.iload_n 1, 1) := by decide +kernel
theorem dX7_test_5 : decode cX7_test 5 = .ok (.invokevirtual 151, 3) := by decide +kernel
theorem dX7_test_8 : decode cX7_test 8 = .ok (.astore_n 3, 1) := by decide +kernel
theorem dX7_test_9 : decode cX7_test 9 = .ok (.aload_n 3, 1) := by decide +kernel
theorem dX7_test_10 : decode cX7_test 10 = .ok (.ifnull 13, 3) := by decide +kernel
theorem dX7_test_13 : decode cX7_test 13 = .ok (.iload_n 2, 1) := by decide +kernel
theorem dX7_test_14 : decode cX7_test 14 = .ok (.iconst 1, 1) := by decide +kernel
theorem dX7_test_15 : decode cX7_test 15 = .ok (.ldc 218, 2) := by decide +kernel
theorem dX7_test_17 : decode cX7_test 17 = .ok (.invokestatic 54, 3) := by decide +kernel
theorem dX7_test_20 : decode cX7_test 20 = .ok (.ifCond .ne 5, 3) := by decide +kernel
theorem dX7_test_23 : decode cX7_test 23 = .ok (.iconst (-1), 1) := by decide +kernel
theorem dX7_test_24 : decode cX7_test 24 = .ok (.ireturn, 1) := by decide +kernel
theorem dX7_test_25 : decode cX7_test 25 = .ok (.aload_n 0, 1) := by decide +kernel
theorem dX7_test_26 : decode cX7_test 26 = .ok (.getfield 19, 3) := by decide +kernel
theorem dX7_test_29 : decode cX7_test 29 = .ok (.aload_n 0, 1) := by decide +kernel
theorem dX7_test_30 : decode cX7_test 30 = .ok (.getfield 10, 3) := by decide +kernel
theorem dX7_test_33 : decode cX7_test 33 = .ok (.invokevirtual 58, 3) := by decide +kernel
theorem dX7_test_36 : decode cX7_test 36 = .ok (.aload_n 0, 1) := by decide +kernel
theorem dX7_test_37 : decode cX7_test 37 = .ok (.getfield 10, 3) := by decide +kernel
theorem dX7_test_40 : decode cX7_test 40 = .ok (.aload_n 3, 1) := by decide +kernel
theorem dX7_test_41 : decode cX7_test 41 = .ok (.iload_n 2, 1) := by decide +kernel
theorem dX7_test_42 : decode cX7_test 42 = .ok (.invokevirtual 219, 3) := by decide +kernel
theorem dX7_test_45 : decode cX7_test 45 = .ok (.ireturn, 1) := by decide +kernel
theorem dX7_undo_0 : decode cX7_undo 0 = .ok (.aload_n 0, 1) := by decide +kernel
theorem dX7_undo_1 : decode cX7_undo 1 = .ok (.getfield 19, 3) := by decide +kernel
theorem dX7_undo_4 : decode cX7_undo 4 = .ok (.getfield 115, 3) := by decide +kernel
theorem dX7_undo_7 : decode cX7_undo 7 = .ok (.ifCond .gt 6, 3) := by decide +kernel
theorem dX7_undo_10 : decode cX7_undo 10 = .ok (.bipush (-2), 2) := by decide +kernel
theorem dX7_undo_12 : decode cX7_undo 12 = .ok (.ireturn, 1) := by decide +kernel
theorem dX7_undo_13 : decode cX7_undo 13 = .ok (.aload_n 0, 1) := by decide +kernel
theorem dX7_undo_14 : decode cX7_undo 14 = .ok (.getfield 19, 3) := by decide +kernel
theorem dX7_undo_17 : decode cX7_undo 17 = .ok (.aload_n 0, 1) := by decide +kernel
theorem dX7_undo_18 : decode cX7_undo 18 = .ok (.getfield 10, 3) := by decide +kernel
theorem dX7_undo_21 : decode cX7_undo 21 = .ok (.invokevirtual 222, 3) := by decide +kernel
theorem dX7_undo_24 : decode cX7_undo 24 = .ok (.aload_n 0, 1) := by decide +kernel
theorem dX7_undo_25 : decode cX7_undo 25 = .ok (.getfield 19, 3) := by decide +kernel
theorem dX7_undo_28 : decode cX7_undo 28 = .ok (.getfield 115, 3) := by decide +kernel
theorem dX7_undo_31 : decode cX7_undo 31 = .ok (.ireturn, 1) := by decide +kernel
theorem dX7_runs_0 : decode cX7_runs 0 = .ok (.aload_n 0, 1) := by decide +kernel
theorem dX7_runs_1 : decode cX7_runs 1 = .ok (.getfield 10, 3) := by decide +kernel
theorem dX7_runs_4 : decode cX7_runs 4 = .ok (.iload_n 1, 1) := by decide +kernel
theorem dX7_runs_5 : decode cX7_runs 5 = .ok (.invokevirtual 151, 3) := by decide +kernel
theorem dX7_runs_8 : decode cX7_runs 8 = .ok (.astore_n 2, 1) := by decide +kernel
theorem dX7_runs_9 : decode cX7_runs 9 = .ok (.aload_n 2, 1) := by decide +kernel
theorem dX7_runs_10 : decode cX7_runs 10 = .ok (.ifnonnull 5, 3) := by decide +kernel
theorem dX7_runs_13 : decode cX7_runs 13 = .ok (.iconst (-1), 1) := by decide +kernel
theorem dX7_runs_14 : decode cX7_runs 14 = .ok (.ireturn, 1) := by decide +kernel
theorem dX7_runs_15 : decode cX7_runs 15 = .ok (.aload_n 0, 1) := by decide +kernel
theorem dX7_runs_16 : decode cX7_runs 16 = .ok (.getfield 33, 3) := by decide +kernel
theorem dX7_runs_19 : decode cX7_runs 19 = .ok (.aload_n 2, 1) := by decide +kernel
theorem dX7_runs_20 : decode cX7_runs 20 = .ok (.iconst (-1), 1) := by decide +kernel
theorem dX7_runs_21 : decode cX7_runs 21 = .ok (.invokevirtual 225, 3) := by decide +kernel
theorem dX7_runs_24 : decode cX7_runs 24 = .ok (.aload_n 0, 1) := by decide +kernel
theorem dX7_runs_25 : decode cX7_runs 25 = .ok (.getfield 33, 3) := by decide +kernel
theorem dX7_runs_28 : decode cX7_runs 28 = .ok (.getfield 229, 3) := by decide +kernel
theorem dX7_runs_31 : decode cX7_runs 31 = .ok (.ireturn, 1) := by decide +kernel
theorem dX7_run_0 : decode cX7_run 0 = .ok (.aload_n 0, 1) := by decide +kernel
theorem dX7_run_1 : decode cX7_run 1 = .ok (.getfield 10, 3) := by decide +kernel
theorem dX7_run_4 : decode cX7_run 4 = .ok (.iload_n 1, 1) := by decide +kernel
theorem dX7_run_5 : decode cX7_run 5 = .ok (.invokevirtual 151, 3) := by decide +kernel
theorem dX7_run_8 : decode cX7_run 8 = .ok (.astore 4, 2) := by decide +kernel
theorem dX7_run_10 : decode cX7_run 10 = .ok (.aload 4, 2) := by decide +kernel
theorem dX7_run_12 : decode cX7_run 12 = .ok (.ifnull 16, 3) := by decide +kernel
theorem dX7_run_15 : decode cX7_run 15 = .ok (.iload_n 2, 1) := by decide +kernel
theorem dX7_run_16 : decode cX7_run 16 = .ok (.ifCond .lt 12, 3) := by decide +kernel
theorem dX7_run_19 : decode cX7_run 19 = .ok (.iload_n 3, 1) := by decide +kernel
theorem dX7_run_20 : decode cX7_run 20 = .ok (.iconst 0, 1) := by decide +kernel
theorem dX7_run_21 : decode cX7_run 21 = .ok (.iconst 3, 1) := by decide +kernel
theorem dX7_run_22 : decode cX7_run 22 = .ok (.invokestatic 54, 3) := by decide +kernel
theorem dX7_run_25 : decode cX7_run 25 = .ok (.ifCond .ne 5, 3) := by decide +kernel
theorem dX7_run_28 : decode cX7_run 28 = .ok (.iconst (-1), 1) := by decide +kernel
theorem dX7_run_29 : decode cX7_run 29 = .ok (.ireturn, 1) := by decide +kernel
theorem dX7_run_30 : decode cX7_run 30 = .ok (.aload_n 0, 1) := by decide +kernel
theorem dX7_run_31 : decode cX7_run 31 = .ok (.getfield 33, 3) := by decide +kernel
theorem dX7_run_34 : decode cX7_run 34 = .ok (.aload 4, 2) := by decide +kernel
theorem dX7_run_36 : decode cX7_run 36 = .ok (.iload_n 2, 1) := by decide +kernel
theorem dX7_run_37 : decode cX7_run 37 = .ok (.invokevirtual 225, 3) := by decide +kernel
theorem dX7_run_40 : decode cX7_run 40 = .ok (.iload_n 2, 1) := by decide +kernel
theorem dX7_run_41 : decode cX7_run 41 = .ok (.aload_n 0, 1) := by decide +kernel
theorem dX7_run_42 : decode cX7_run 42 = .ok (.getfield 33, 3) := by decide +kernel
theorem dX7_run_45 : decode cX7_run 45 = .ok (.getfield 229, 3) := by decide +kernel
theorem dX7_run_48 : decode cX7_run 48 = .ok (.if_icmp .ge 14, 3) := by decide +kernel
theorem dX7_run_51 : decode cX7_run 51 = .ok (.aload_n 0, 1) := by decide +kernel
theorem dX7_run_52 : decode cX7_run 52 = .ok (.getfield 33, 3) := by decide +kernel
theorem dX7_run_55 : decode cX7_run 55 = .ok (.iload_n 3, 1) := by decide +kernel
theorem dX7_run_56 : decode cX7_run 56 = .ok (.invokevirtual 232, 3) := by decide +kernel
theorem dX7_run_59 : decode cX7_run 59 = .ok (.goto 5, 3) := by decide +kernel
theorem dX7_run_62 : decode cX7_run 62 = .ok (.bipush (-4), 2) := by decide +kernel
theorem dX7_run_64 : decode cX7_run 64 = .ok (.ireturn, 1) := by decide +kernel
theorem dX7_order_0 : decode cX7_order 0 = .ok (.iload_n 1, 1) := by decide +kernel
theorem dX7_order_1 : decode cX7_order 1 = .ok (.invokestatic 199, 3) := by decide +kernel
theorem dX7_order_4 : decode cX7_order 4 = .ok (.ifCond .eq 17, 3) := by decide +kernel
theorem dX7_order_7 : decode cX7_order 7 = .ok (.iload_n 2, 1) := by decide +kernel
theorem dX7_order_8 : decode cX7_order 8 = .ok (.iconst 1, 1) := by decide +kernel
theorem dX7_order_9 : decode cX7_order 9 = .ok (.bipush 20, 2) := by decide +kernel
theorem dX7_order_11 : decode cX7_order 11 = .ok (.invokestatic 54, 3) := by decide +kernel
theorem dX7_order_14 : decode cX7_order 14 = .ok (.ifCond .eq 7, 3) := by decide +kernel
theorem dX7_order_17 : decode cX7_order 17 = .ok (.iload_n 3, 1) := by decide +kernel
theorem dX7_order_18 : decode cX7_order 18 = .ok (.ifCond .ge 5, 3) := by decide +kernel
theorem dX7_order_21 : decode cX7_order 21 = .ok (.iconst (-1), 1) := by decide +kernel
theorem dX7_order_22 : decode cX7_order 22 = .ok (.ireturn, 1) := by decide +kernel
theorem dX7_order_23 : decode cX7_order 23 = .ok (.aload_n 0, 1) := by decide +kernel
theorem dX7_order_24 : decode cX7_order 24 = .ok (.getfield 10, 3) := by decide +kernel
theorem dX7_order_27 : decode cX7_order 27 = .ok (.invokevirtual 235, 3) := by decide +kernel
theorem dX7_order_30 : decode cX7_order 30 = .ok (.iconst 5, 1) := by decide +kernel
theorem dX7_order_31 : decode cX7_order 31 = .ok (.if_icmp .le 6, 3) := by decide +kernel
theorem dX7_order_34 : decode cX7_order 34 = .ok (.bipush (-2), 2) := by decide +kernel
theorem dX7_order_36 : decode cX7_order 36 = .ok (.ireturn, 1) := by decide +kernel
theorem dX7_order_37 : decode cX7_order 37 = .ok (.aload_n 0, 1) := by decide +kernel
theorem dX7_order_38 : decode cX7_order 38 = .ok (.getfield 40, 3) := by decide +kernel
theorem dX7_order_41 : decode cX7_order 41 = .ok (.aload_n 0, 1) := by decide +kernel
theorem dX7_order_42 : decode cX7_order 42 = .ok (.getfield 10, 3) := by decide +kernel
theorem dX7_order_45 : decode cX7_order 45 = .ok (.iload_n 1, 1) := by decide +kernel
theorem dX7_order_46 : decode cX7_order 46 = .ok (.iload_n 2, 1) := by decide +kernel
theorem dX7_order_47 : decode cX7_order 47 = .ok (.invokevirtual 238, 3) := by decide +kernel
theorem dX7_order_50 : decode cX7_order 50 = .ok (.aload_n 0, 1) := by decide +kernel
theorem dX7_order_51 : decode cX7_order 51 = .ok (.getfield 40, 3) := by decide +kernel
theorem dX7_order_54 : decode cX7_order 54 = .ok (.iload_n 3, 1) := by decide +kernel
theorem dX7_order_55 : decode cX7_order 55 = .ok (.invokevirtual 242, 3) := by decide +kernel
theorem dX7_order_58 : decode cX7_order 58 = .ok (.ireturn, 1) := by decide +kernel
theorem dX7_leastLift_0 : decode cX7_leastLift 0 = .ok (.iload_n 1, 1) := by decide +kernel
theorem dX7_leastLift_1 : decode cX7_leastLift 1 = .ok (.invokestatic 199, 3) := by decide +kernel
theorem dX7_leastLift_4 : decode cX7_leastLift 4 = .ok (.ifCond .eq 13, 3) := by decide +kernel
theorem dX7_leastLift_7 : decode cX7_leastLift 7 = .ok (.iload_n 2, 1) := by decide +kernel
theorem dX7_leastLift_8 : decode cX7_leastLift 8 = .ok (.iconst 1, 1) := by decide +kernel
theorem dX7_leastLift_9 : decode cX7_leastLift 9 = .ok (.bipush 20, 2) := by decide +kernel
theorem dX7_leastLift_11 : decode cX7_leastLift 11 = .ok (.invokestatic 54, 3) := by decide +kernel
theorem dX7_leastLift_14 : decode cX7_leastLift 14 = .ok (.ifCond .ne 5, 3) := by decide +kernel
theorem dX7_leastLift_17 : decode cX7_leastLift 17 = .ok (.iconst (-1), 1) := by decide +kernel
theorem dX7_leastLift_18 : decode cX7_leastLift 18 = .ok (.ireturn, 1) := by decide +kernel
theorem dX7_leastLift_19 : decode cX7_leastLift 19 = .ok (.aload_n 0, 1) := by decide +kernel
theorem dX7_leastLift_20 : decode cX7_leastLift 20 = .ok (.getfield 10, 3) := by decide +kernel
theorem dX7_leastLift_23 : decode cX7_leastLift 23 = .ok (.invokevirtual 235, 3) := by decide +kernel
theorem dX7_leastLift_26 : decode cX7_leastLift 26 = .ok (.iconst 5, 1) := by decide +kernel
theorem dX7_leastLift_27 : decode cX7_leastLift 27 = .ok (.if_icmp .le 6, 3) := by decide +kernel
theorem dX7_leastLift_30 : decode cX7_leastLift 30 = .ok (.bipush (-2), 2) := by decide +kernel
theorem dX7_leastLift_32 : decode cX7_leastLift 32 = .ok (.ireturn, 1) := by decide +kernel
theorem dX7_leastLift_33 : decode cX7_leastLift 33 = .ok (.aload_n 0, 1) := by decide +kernel
theorem dX7_leastLift_34 : decode cX7_leastLift 34 = .ok (.getfield 40, 3) := by decide +kernel
theorem dX7_leastLift_37 : decode cX7_leastLift 37 = .ok (.aload_n 0, 1) := by decide +kernel
theorem dX7_leastLift_38 : decode cX7_leastLift 38 = .ok (.getfield 10, 3) := by decide +kernel
theorem dX7_leastLift_41 : decode cX7_leastLift 41 = .ok (.iload_n 1, 1) := by decide +kernel
theorem dX7_leastLift_42 : decode cX7_leastLift 42 = .ok (.iload_n 2, 1) := by decide +kernel
theorem dX7_leastLift_43 : decode cX7_leastLift 43 = .ok (.invokevirtual 238, 3) := by decide +kernel
theorem dX7_leastLift_46 : decode cX7_leastLift 46 = .ok (.aload_n 0, 1) := by decide +kernel
theorem dX7_leastLift_47 : decode cX7_leastLift 47 = .ok (.getfield 40, 3) := by decide +kernel
theorem dX7_leastLift_50 : decode cX7_leastLift 50 = .ok (.getfield 245, 3) := by decide +kernel
theorem dX7_leastLift_53 : decode cX7_leastLift 53 = .ok (.ireturn, 1) := by decide +kernel
theorem dX7_type_0 : decode cX7_type 0 = .ok (.iload_n 1, 1) := by decide +kernel
theorem dX7_type_1 : decode cX7_type 1 = .ok (.bipush 32, 2) := by decide +kernel
theorem dX7_type_3 : decode cX7_type 3 = .ok (.bipush 126, 2) := by decide +kernel
theorem dX7_type_5 : decode cX7_type 5 = .ok (.invokestatic 54, 3) := by decide +kernel
theorem dX7_type_8 : decode cX7_type 8 = .ok (.ifCond .ne 5, 3) := by decide +kernel
theorem dX7_type_11 : decode cX7_type 11 = .ok (.iconst (-1), 1) := by decide +kernel
theorem dX7_type_12 : decode cX7_type 12 = .ok (.ireturn, 1) := by decide +kernel
theorem dX7_type_13 : decode cX7_type 13 = .ok (.aload_n 0, 1) := by decide +kernel
theorem dX7_type_14 : decode cX7_type 14 = .ok (.getfield 26, 3) := by decide +kernel
theorem dX7_type_17 : decode cX7_type 17 = .ok (.getfield 118, 3) := by decide +kernel
theorem dX7_type_20 : decode cX7_type 20 = .ok (.bipush 80, 2) := by decide +kernel
theorem dX7_type_22 : decode cX7_type 22 = .ok (.if_icmp .lt 6, 3) := by decide +kernel
theorem dX7_type_25 : decode cX7_type 25 = .ok (.bipush (-3), 2) := by decide +kernel
theorem dX7_type_27 : decode cX7_type 27 = .ok (.ireturn, 1) := by decide +kernel
theorem dX7_type_28 : decode cX7_type 28 = .ok (.aload_n 0, 1) := by decide +kernel
theorem dX7_type_29 : decode cX7_type 29 = .ok (.getfield 26, 3) := by decide +kernel
theorem dX7_type_32 : decode cX7_type 32 = .ok (.iload_n 1, 1) := by decide +kernel
theorem dX7_type_33 : decode cX7_type 33 = .ok (.i2c, 1) := by decide +kernel
theorem dX7_type_34 : decode cX7_type 34 = .ok (.invokevirtual 248, 3) := by decide +kernel
theorem dX7_type_37 : decode cX7_type 37 = .ok (.aload_n 0, 1) := by decide +kernel
theorem dX7_type_38 : decode cX7_type 38 = .ok (.getfield 26, 3) := by decide +kernel
theorem dX7_type_41 : decode cX7_type 41 = .ok (.getfield 118, 3) := by decide +kernel
theorem dX7_type_44 : decode cX7_type 44 = .ok (.ireturn, 1) := by decide +kernel
theorem dX7_clearText_0 : decode cX7_clearText 0 = .ok (.aload_n 0, 1) := by decide +kernel
theorem dX7_clearText_1 : decode cX7_clearText 1 = .ok (.getfield 26, 3) := by decide +kernel
theorem dX7_clearText_4 : decode cX7_clearText 4 = .ok (.getfield 118, 3) := by decide +kernel
theorem dX7_clearText_7 : decode cX7_clearText 7 = .ok (.istore_n 1, 1) := by decide +kernel
theorem dX7_clearText_8 : decode cX7_clearText 8 = .ok (.aload_n 0, 1) := by decide +kernel
theorem dX7_clearText_9 : decode cX7_clearText 9 = .ok (.getfield 26, 3) := by decide +kernel
theorem dX7_clearText_12 : decode cX7_clearText 12 = .ok (.invokevirtual 252, 3) := by decide +kernel
theorem dX7_clearText_15 : decode cX7_clearText 15 = .ok (.iload_n 1, 1) := by decide +kernel
theorem dX7_clearText_16 : decode cX7_clearText 16 = .ok (.ireturn, 1) := by decide +kernel
theorem dX7_fault_0 : decode cX7_fault 0 = .ok (.iload_n 1, 1) := by decide +kernel
theorem dX7_fault_1 : decode cX7_fault 1 = .ok (.iconst 0, 1) := by decide +kernel
theorem dX7_fault_2 : decode cX7_fault 2 = .ok (.iconst 1, 1) := by decide +kernel
theorem dX7_fault_3 : decode cX7_fault 3 = .ok (.invokestatic 54, 3) := by decide +kernel
theorem dX7_fault_6 : decode cX7_fault 6 = .ok (.ifCond .ne 5, 3) := by decide +kernel
theorem dX7_fault_9 : decode cX7_fault 9 = .ok (.iconst (-1), 1) := by decide +kernel
theorem dX7_fault_10 : decode cX7_fault 10 = .ok (.ireturn, 1) := by decide +kernel
theorem dX7_fault_11 : decode cX7_fault 11 = .ok (.aload_n 0, 1) := by decide +kernel
theorem dX7_fault_12 : decode cX7_fault 12 = .ok (.getfield 26, 3) := by decide +kernel
theorem dX7_fault_15 : decode cX7_fault 15 = .ok (.aload_n 0, 1) := by decide +kernel
theorem dX7_fault_16 : decode cX7_fault 16 = .ok (.getfield 10, 3) := by decide +kernel
theorem dX7_fault_19 : decode cX7_fault 19 = .ok (.getfield 104, 3) := by decide +kernel
theorem dX7_fault_22 : decode cX7_fault 22 = .ok (.invokevirtual 255, 3) := by decide +kernel
theorem dX7_fault_25 : decode cX7_fault 25 = .ok (.istore_n 2, 1) := by decide +kernel
theorem dX7_fault_26 : decode cX7_fault 26 = .ok (.iload_n 2, 1) := by decide +kernel
theorem dX7_fault_27 : decode cX7_fault 27 = .ok (.ifCond .ne 6, 3) := by decide +kernel
theorem dX7_fault_30 : decode cX7_fault 30 = .ok (.bipush (-4), 2) := by decide +kernel
theorem dX7_fault_32 : decode cX7_fault 32 = .ok (.ireturn, 1) := by decide +kernel
theorem dX7_fault_33 : decode cX7_fault 33 = .ok (.iload_n 1, 1) := by decide +kernel
theorem dX7_fault_34 : decode cX7_fault 34 = .ok (.ifCond .ne 13, 3) := by decide +kernel
theorem dX7_fault_37 : decode cX7_fault 37 = .ok (.aload_n 0, 1) := by decide +kernel
theorem dX7_fault_38 : decode cX7_fault 38 = .ok (.getfield 26, 3) := by decide +kernel
theorem dX7_fault_41 : decode cX7_fault 41 = .ok (.getfield 258, 3) := by decide +kernel
theorem dX7_fault_44 : decode cX7_fault 44 = .ok (.goto 4, 3) := by decide +kernel
theorem dX7_fault_47 : decode cX7_fault 47 = .ok (.iload_n 2, 1) := by decide +kernel
theorem dX7_fault_48 : decode cX7_fault 48 = .ok (.ireturn, 1) := by decide +kernel
theorem dX7_carry_0 : decode cX7_carry 0 = .ok (.aload_n 0, 1) := by decide +kernel
theorem dX7_carry_1 : decode cX7_carry 1 = .ok (.getfield 26, 3) := by decide +kernel
theorem dX7_carry_4 : decode cX7_carry 4 = .ok (.aload_n 0, 1) := by decide +kernel
theorem dX7_carry_5 : decode cX7_carry 5 = .ok (.getfield 10, 3) := by decide +kernel
theorem dX7_carry_8 : decode cX7_carry 8 = .ok (.getfield 104, 3) := by decide +kernel
theorem dX7_carry_11 : decode cX7_carry 11 = .ok (.invokevirtual 255, 3) := by decide +kernel
theorem dX7_carry_14 : decode cX7_carry 14 = .ok (.ifCond .eq 6, 3) := by decide +kernel
theorem dX7_carry_17 : decode cX7_carry 17 = .ok (.bipush (-2), 2) := by decide +kernel
theorem dX7_carry_19 : decode cX7_carry 19 = .ok (.ireturn, 1) := by decide +kernel
theorem dX7_carry_20 : decode cX7_carry 20 = .ok (.aload_n 0, 1) := by decide +kernel
theorem dX7_carry_21 : decode cX7_carry 21 = .ok (.getfield 19, 3) := by decide +kernel
theorem dX7_carry_24 : decode cX7_carry 24 = .ok (.aload_n 0, 1) := by decide +kernel
theorem dX7_carry_25 : decode cX7_carry 25 = .ok (.getfield 10, 3) := by decide +kernel
theorem dX7_carry_28 : decode cX7_carry 28 = .ok (.invokevirtual 58, 3) := by decide +kernel
theorem dX7_carry_31 : decode cX7_carry 31 = .ok (.iconst 0, 1) := by decide +kernel
theorem dX7_carry_32 : decode cX7_carry 32 = .ok (.istore_n 1, 1) := by decide +kernel
theorem dX7_carry_33 : decode cX7_carry 33 = .ok (.iconst 0, 1) := by decide +kernel
theorem dX7_carry_34 : decode cX7_carry 34 = .ok (.istore_n 2, 1) := by decide +kernel
theorem dX7_carry_35 : decode cX7_carry 35 = .ok (.iconst 0, 1) := by decide +kernel
theorem dX7_carry_36 : decode cX7_carry 36 = .ok (.istore_n 3, 1) := by decide +kernel
theorem dX7_carry_37 : decode cX7_carry 37 = .ok (.iload_n 3, 1) := by decide +kernel
theorem dX7_carry_38 : decode cX7_carry 38 = .ok (.bipush 80, 2) := by decide +kernel
theorem dX7_carry_40 : decode cX7_carry 40 = .ok (.if_icmp .ge 59, 3) := by decide +kernel
theorem dX7_carry_43 : decode cX7_carry 43 = .ok (.aload_n 0, 1) := by decide +kernel
theorem dX7_carry_44 : decode cX7_carry 44 = .ok (.getfield 26, 3) := by decide +kernel
theorem dX7_carry_47 : decode cX7_carry 47 = .ok (.iload_n 2, 1) := by decide +kernel
theorem dX7_carry_48 : decode cX7_carry 48 = .ok (.invokevirtual 261, 3) := by decide +kernel
theorem dX7_carry_51 : decode cX7_carry 51 = .ok (.ifCond .eq 48, 3) := by decide +kernel
theorem dX7_carry_54 : decode cX7_carry 54 = .ok (.iload_n 1, 1) := by decide +kernel
theorem dX7_carry_55 : decode cX7_carry 55 = .ok (.aload_n 0, 1) := by decide +kernel
theorem dX7_carry_56 : decode cX7_carry 56 = .ok (.getfield 10, 3) := by decide +kernel
theorem dX7_carry_59 : decode cX7_carry 59 = .ok (.aload_n 0, 1) := by decide +kernel
theorem dX7_carry_60 : decode cX7_carry 60 = .ok (.getfield 26, 3) := by decide +kernel
theorem dX7_carry_63 : decode cX7_carry 63 = .ok (.getfield 264, 3) := by decide +kernel
theorem dX7_carry_66 : decode cX7_carry 66 = .ok (.aload_n 0, 1) := by decide +kernel
theorem dX7_carry_67 : decode cX7_carry 67 = .ok (.getfield 26, 3) := by decide +kernel
theorem dX7_carry_70 : decode cX7_carry 70 = .ok (.getfield 267, 3) := by decide +kernel
theorem dX7_carry_73 : decode cX7_carry 73 = .ok (.aload_n 0, 1) := by decide +kernel
theorem dX7_carry_74 : decode cX7_carry 74 = .ok (.getfield 26, 3) := by decide +kernel
theorem dX7_carry_77 : decode cX7_carry 77 = .ok (.getfield 270, 3) := by decide +kernel
theorem dX7_carry_80 : decode cX7_carry 80 = .ok (.invokevirtual 273, 3) := by decide +kernel
theorem dX7_carry_83 : decode cX7_carry 83 = .ok (.iadd, 1) := by decide +kernel
theorem dX7_carry_84 : decode cX7_carry 84 = .ok (.istore_n 1, 1) := by decide +kernel
theorem dX7_carry_85 : decode cX7_carry 85 = .ok (.aload_n 0, 1) := by decide +kernel
theorem dX7_carry_86 : decode cX7_carry 86 = .ok (.getfield 26, 3) := by decide +kernel
theorem dX7_carry_89 : decode cX7_carry 89 = .ok (.getfield 276, 3) := by decide +kernel
theorem dX7_carry_92 : decode cX7_carry 92 = .ok (.istore_n 2, 1) := by decide +kernel
theorem dX7_carry_93 : decode cX7_carry 93 = .ok (.iinc 3 1, 3) := by decide +kernel
theorem dX7_carry_96 : decode cX7_carry 96 = .ok (.goto (-59), 3) := by decide +kernel
theorem dX7_carry_99 : decode cX7_carry 99 = .ok (.iload_n 1, 1) := by decide +kernel
theorem dX7_carry_100 : decode cX7_carry 100 = .ok (.ireturn, 1) := by decide +kernel
theorem dX7_inRange_0 : decode cX7_inRange 0 = .ok (.iload_n 0, 1) := by decide +kernel
theorem dX7_inRange_1 : decode cX7_inRange 1 = .ok (.iload_n 1, 1) := by decide +kernel
theorem dX7_inRange_2 : decode cX7_inRange 2 = .ok (.if_icmp .lt 12, 3) := by decide +kernel
theorem dX7_inRange_5 : decode cX7_inRange 5 = .ok (.iload_n 0, 1) := by decide +kernel
theorem dX7_inRange_6 : decode cX7_inRange 6 = .ok (.iload_n 2, 1) := by decide +kernel
theorem dX7_inRange_7 : decode cX7_inRange 7 = .ok (.if_icmp .gt 7, 3) := by decide +kernel
theorem dX7_inRange_10 : decode cX7_inRange 10 = .ok (.iconst 1, 1) := by decide +kernel
theorem dX7_inRange_11 : decode cX7_inRange 11 = .ok (.goto 4, 3) := by decide +kernel
theorem dX7_inRange_14 : decode cX7_inRange 14 = .ok (.iconst 0, 1) := by decide +kernel
theorem dX7_inRange_15 : decode cX7_inRange 15 = .ok (.ireturn, 1) := by decide +kernel
theorem dX7_isFall_0 : decode cX7_isFall 0 = .ok (.iload_n 0, 1) := by decide +kernel
theorem dX7_isFall_1 : decode cX7_isFall 1 = .ok (.bipush 100, 2) := by decide +kernel
theorem dX7_isFall_3 : decode cX7_isFall 3 = .ok (.sipush 3000, 3) := by decide +kernel
theorem dX7_isFall_6 : decode cX7_isFall 6 = .ok (.invokestatic 54, 3) := by decide +kernel
theorem dX7_isFall_9 : decode cX7_isFall 9 = .ok (.ireturn, 1) := by decide +kernel
theorem dX7_isSetting_0 : decode cX7_isSetting 0 = .ok (.iload_n 0, 1) := by decide +kernel
theorem dX7_isSetting_1 : decode cX7_isSetting 1 = .ok (.ifCond .lt 15, 3) := by decide +kernel
theorem dX7_isSetting_4 : decode cX7_isSetting 4 = .ok (.iload_n 0, 1) := by decide +kernel
theorem dX7_isSetting_5 : decode cX7_isSetting 5 = .ok (.getstatic 279, 3) := by decide +kernel
theorem dX7_isSetting_8 : decode cX7_isSetting 8 = .ok (.arraylength, 1) := by decide +kernel
theorem dX7_isSetting_9 : decode cX7_isSetting 9 = .ok (.if_icmp .ge 7, 3) := by decide +kernel
theorem dX7_isSetting_12 : decode cX7_isSetting 12 = .ok (.iconst 1, 1) := by decide +kernel
theorem dX7_isSetting_13 : decode cX7_isSetting 13 = .ok (.goto 4, 3) := by decide +kernel
theorem dX7_isSetting_16 : decode cX7_isSetting 16 = .ok (.iconst 0, 1) := by decide +kernel
theorem dX7_isSetting_17 : decode cX7_isSetting 17 = .ok (.ireturn, 1) := by decide +kernel
theorem dX7_liftOf_0 : decode cX7_liftOf 0 = .ok (.iload_n 0, 1) := by decide +kernel
theorem dX7_liftOf_1 : decode cX7_liftOf 1 = .ok (.ifCond .le 16, 3) := by decide +kernel
theorem dX7_liftOf_4 : decode cX7_liftOf 4 = .ok (.iload_n 0, 1) := by decide +kernel
theorem dX7_liftOf_5 : decode cX7_liftOf 5 = .ok (.iload_n 1, 1) := by decide +kernel
theorem dX7_liftOf_6 : decode cX7_liftOf 6 = .ok (.if_icmp .ge 11, 3) := by decide +kernel
theorem dX7_liftOf_9 : decode cX7_liftOf 9 = .ok (.iload_n 0, 1) := by decide +kernel
theorem dX7_liftOf_10 : decode cX7_liftOf 10 = .ok (.iload_n 2, 1) := by decide +kernel
theorem dX7_liftOf_11 : decode cX7_liftOf 11 = .ok (.invokestatic 282, 3) := by decide +kernel
theorem dX7_liftOf_14 : decode cX7_liftOf 14 = .ok (.goto 4, 3) := by decide +kernel
theorem dX7_liftOf_17 : decode cX7_liftOf 17 = .ok (.iconst 0, 1) := by decide +kernel
theorem dX7_liftOf_18 : decode cX7_liftOf 18 = .ok (.ireturn, 1) := by decide +kernel
end
section
theorem dX8_init_0 : decode cX8_init 0 = .ok (.aload_n 0, 1) := by decide +kernel
theorem dX8_init_1 : decode cX8_init 1 = .ok (.invokespecial 1, 3) := by decide +kernel
theorem dX8_init_4 : decode cX8_init 4 = .ok (.aload_n 0, 1) := by decide +kernel
theorem dX8_init_5 : decode cX8_init 5 = .ok (.sipush 934, 3) := by decide +kernel
theorem dX8_init_8 : decode cX8_init 8 = .ok (.newarray .int, 2) := by decide +kernel
theorem dX8_init_10 : decode cX8_init 10 = .ok (.putfield 7, 3) := by decide +kernel
theorem dX8_init_13 : decode cX8_init 13 = .ok (.aload_n 0, 1) := by decide +kernel
theorem dX8_init_14 : decode cX8_init 14 = .ok (.sipush 3736, 3) := by decide +kernel
theorem dX8_init_17 : decode cX8_init 17 = .ok (.newarray .int, 2) := by decide +kernel
theorem dX8_init_19 : decode cX8_init 19 = .ok (.putfield 13, 3) := by decide +kernel
theorem dX8_init_22 : decode cX8_init 22 = .ok (.aload_n 0, 1) := by decide +kernel
theorem dX8_init_23 : decode cX8_init 23 = .ok (.iconst 2, 1) := by decide +kernel
theorem dX8_init_24 : decode cX8_init 24 = .ok (.newarray .long, 2) := by decide +kernel
theorem dX8_init_26 : decode cX8_init 26 = .ok (.putfield 16, 3) := by decide +kernel
theorem dX8_init_29 : decode cX8_init 29 = .ok (.aload_n 0, 1) := by decide +kernel
theorem dX8_init_30 : decode cX8_init 30 = .ok (.bipush 8, 2) := by decide +kernel
theorem dX8_init_32 : decode cX8_init 32 = .ok (.newarray .long, 2) := by decide +kernel
theorem dX8_init_34 : decode cX8_init 34 = .ok (.putfield 20, 3) := by decide +kernel
theorem dX8_init_37 : decode cX8_init 37 = .ok (.aload_n 0, 1) := by decide +kernel
theorem dX8_init_38 : decode cX8_init 38 = .ok (.bipush 80, 2) := by decide +kernel
theorem dX8_init_40 : decode cX8_init 40 = .ok (.newarray .int, 2) := by decide +kernel
theorem dX8_init_42 : decode cX8_init 42 = .ok (.putfield 23, 3) := by decide +kernel
theorem dX8_init_45 : decode cX8_init 45 = .ok (.aload_n 0, 1) := by decide +kernel
theorem dX8_init_46 : decode cX8_init 46 = .ok (.bipush 40, 2) := by decide +kernel
theorem dX8_init_48 : decode cX8_init 48 = .ok (.newarray .int, 2) := by decide +kernel
theorem dX8_init_50 : decode cX8_init 50 = .ok (.putfield 26, 3) := by decide +kernel
theorem dX8_init_53 : decode cX8_init 53 = .ok (.aload_n 0, 1) := by decide +kernel
theorem dX8_init_54 : decode cX8_init 54 = .ok (.bipush 40, 2) := by decide +kernel
theorem dX8_init_56 : decode cX8_init 56 = .ok (.newarray .int, 2) := by decide +kernel
theorem dX8_init_58 : decode cX8_init 58 = .ok (.putfield 29, 3) := by decide +kernel
theorem dX8_init_61 : decode cX8_init 61 = .ok (.aload_n 0, 1) := by decide +kernel
theorem dX8_init_62 : decode cX8_init 62 = .ok (.bipush 40, 2) := by decide +kernel
theorem dX8_init_64 : decode cX8_init 64 = .ok (.newarray .int, 2) := by decide +kernel
theorem dX8_init_66 : decode cX8_init 66 = .ok (.putfield 32, 3) := by decide +kernel
theorem dX8_init_69 : decode cX8_init 69 = .ok (.aload_n 0, 1) := by decide +kernel
theorem dX8_init_70 : decode cX8_init 70 = .ok (.bipush 10, 2) := by decide +kernel
theorem dX8_init_72 : decode cX8_init 72 = .ok (.newarray .int, 2) := by decide +kernel
theorem dX8_init_74 : decode cX8_init 74 = .ok (.putfield 35, 3) := by decide +kernel
theorem dX8_init_77 : decode cX8_init 77 = .ok (.aload_n 0, 1) := by decide +kernel
theorem dX8_init_78 : decode cX8_init 78 = .ok (.bipush 10, 2) := by decide +kernel
theorem dX8_init_80 : decode cX8_init 80 = .ok (.newarray .int, 2) := by decide +kernel
theorem dX8_init_82 : decode cX8_init 82 = .ok (.putfield 38, 3) := by decide +kernel
theorem dX8_init_85 : decode cX8_init 85 = .ok (.aload_n 0, 1) := by decide +kernel
theorem dX8_init_86 : decode cX8_init 86 = .ok (.bipush 10, 2) := by decide +kernel
theorem dX8_init_88 : decode cX8_init 88 = .ok (.newarray .int, 2) := by decide +kernel
theorem dX8_init_90 : decode cX8_init 90 = .ok (.putfield 41, 3) := by decide +kernel
theorem dX8_init_93 : decode cX8_init 93 = .ok (.aload_n 0, 1) := by decide +kernel
theorem dX8_init_94 : decode cX8_init 94 = .ok (.bipush 10, 2) := by decide +kernel
theorem dX8_init_96 : decode cX8_init 96 = .ok (.newarray .int, 2) := by decide +kernel
theorem dX8_init_98 : decode cX8_init 98 = .ok (.putfield 44, 3) := by decide +kernel
theorem dX8_init_101 : decode cX8_init 101 = .ok (.aload_n 0, 1) := by decide +kernel
theorem dX8_init_102 : decode cX8_init 102 = .ok (.getfield 7, 3) := by decide +kernel
theorem dX8_init_105 : decode cX8_init 105 = .ok (.iconst 0, 1) := by decide +kernel
theorem dX8_init_106 : decode cX8_init 106 = .ok (.iconst 1, 1) := by decide +kernel
theorem dX8_init_107 : decode cX8_init 107 = .ok (.iastore, 1) := by decide +kernel
theorem dX8_init_108 : decode cX8_init 108 = .ok (.aload_n 0, 1) := by decide +kernel
theorem dX8_init_109 : decode cX8_init 109 = .ok (.getfield 7, 3) := by decide +kernel
theorem dX8_init_112 : decode cX8_init 112 = .ok (.iconst 1, 1) := by decide +kernel
theorem dX8_init_113 : decode cX8_init 113 = .ok (.sipush 10000, 3) := by decide +kernel
theorem dX8_init_116 : decode cX8_init 116 = .ok (.iastore, 1) := by decide +kernel
theorem dX8_init_117 : decode cX8_init 117 = .ok (.aload_n 0, 1) := by decide +kernel
theorem dX8_init_118 : decode cX8_init 118 = .ok (.getfield 7, 3) := by decide +kernel
theorem dX8_init_121 : decode cX8_init 121 = .ok (.bipush 7, 2) := by decide +kernel
theorem dX8_init_123 : decode cX8_init 123 = .ok (.bipush 50, 2) := by decide +kernel
theorem dX8_init_125 : decode cX8_init 125 = .ok (.iastore, 1) := by decide +kernel
theorem dX8_init_126 : decode cX8_init 126 = .ok (.aload_n 0, 1) := by decide +kernel
theorem dX8_init_127 : decode cX8_init 127 = .ok (.getfield 7, 3) := by decide +kernel
theorem dX8_init_130 : decode cX8_init 130 = .ok (.bipush 13, 2) := by decide +kernel
theorem dX8_init_132 : decode cX8_init 132 = .ok (.sipush 2000, 3) := by decide +kernel
theorem dX8_init_135 : decode cX8_init 135 = .ok (.iastore, 1) := by decide +kernel
theorem dX8_init_136 : decode cX8_init 136 = .ok (.aload_n 0, 1) := by decide +kernel
theorem dX8_init_137 : decode cX8_init 137 = .ok (.getfield 7, 3) := by decide +kernel
theorem dX8_init_140 : decode cX8_init 140 = .ok (.bipush 14, 2) := by decide +kernel
theorem dX8_init_142 : decode cX8_init 142 = .ok (.bipush 70, 2) := by decide +kernel
theorem dX8_init_144 : decode cX8_init 144 = .ok (.iastore, 1) := by decide +kernel
theorem dX8_init_145 : decode cX8_init 145 = .ok (.aload_n 0, 1) := by decide +kernel
theorem dX8_init_146 : decode cX8_init 146 = .ok (.getfield 7, 3) := by decide +kernel
theorem dX8_init_149 : decode cX8_init 149 = .ok (.bipush 15, 2) := by decide +kernel
theorem dX8_init_151 : decode cX8_init 151 = .ok (.iconst 3, 1) := by decide +kernel
theorem dX8_init_152 : decode cX8_init 152 = .ok (.iastore, 1) := by decide +kernel
theorem dX8_init_153 : decode cX8_init 153 = .ok (.aload_n 0, 1) := by decide +kernel
theorem dX8_init_154 : decode cX8_init 154 = .ok (.getfield 7, 3) := by decide +kernel
theorem dX8_init_157 : decode cX8_init 157 = .ok (.bipush 16, 2) := by decide +kernel
theorem dX8_init_159 : decode cX8_init 159 = .ok (.sipush 200, 3) := by decide +kernel
theorem dX8_init_162 : decode cX8_init 162 = .ok (.iastore, 1) := by decide +kernel
theorem dX8_init_163 : decode cX8_init 163 = .ok (.aload_n 0, 1) := by decide +kernel
theorem dX8_init_164 : decode cX8_init 164 = .ok (.getfield 7, 3) := by decide +kernel
theorem dX8_init_167 : decode cX8_init 167 = .ok (.bipush 17, 2) := by decide +kernel
theorem dX8_init_169 : decode cX8_init 169 = .ok (.sipush 3000, 3) := by decide +kernel
theorem dX8_init_172 : decode cX8_init 172 = .ok (.iastore, 1) := by decide +kernel
theorem dX8_init_173 : decode cX8_init 173 = .ok (.aload_n 0, 1) := by decide +kernel
theorem dX8_init_174 : decode cX8_init 174 = .ok (.getfield 7, 3) := by decide +kernel
theorem dX8_init_177 : decode cX8_init 177 = .ok (.bipush 18, 2) := by decide +kernel
theorem dX8_init_179 : decode cX8_init 179 = .ok (.iconst 4, 1) := by decide +kernel
theorem dX8_init_180 : decode cX8_init 180 = .ok (.iastore, 1) := by decide +kernel
theorem dX8_init_181 : decode cX8_init 181 = .ok (.return_, 1) := by decide +kernel
theorem dX8_in_0 : decode cX8_in 0 = .ok (.iload_n 0, 1) := by decide +kernel
theorem dX8_in_1 : decode cX8_in 1 = .ok (.iload_n 1, 1) := by decide +kernel
theorem dX8_in_2 : decode cX8_in 2 = .ok (.if_icmp .lt 12, 3) := by decide +kernel
theorem dX8_in_5 : decode cX8_in 5 = .ok (.iload_n 0, 1) := by decide +kernel
theorem dX8_in_6 : decode cX8_in 6 = .ok (.iload_n 2, 1) := by decide +kernel
theorem dX8_in_7 : decode cX8_in 7 = .ok (.if_icmp .gt 7, 3) := by decide +kernel
theorem dX8_in_10 : decode cX8_in 10 = .ok (.iconst 1, 1) := by decide +kernel
theorem dX8_in_11 : decode cX8_in 11 = .ok (.goto 4, 3) := by decide +kernel
theorem dX8_in_14 : decode cX8_in 14 = .ok (.iconst 0, 1) := by decide +kernel
theorem dX8_in_15 : decode cX8_in 15 = .ok (.ireturn, 1) := by decide +kernel
theorem dX8_lesser_0 : decode cX8_lesser 0 = .ok (.iload_n 0, 1) := by decide +kernel
theorem dX8_lesser_1 : decode cX8_lesser 1 = .ok (.iload_n 1, 1) := by decide +kernel
theorem dX8_lesser_2 : decode cX8_lesser 2 = .ok (.if_icmp .ge 7, 3) := by decide +kernel
theorem dX8_lesser_5 : decode cX8_lesser 5 = .ok (.iload_n 0, 1) := by decide +kernel
theorem dX8_lesser_6 : decode cX8_lesser 6 = .ok (.goto 4, 3) := by decide +kernel
theorem dX8_lesser_9 : decode cX8_lesser 9 = .ok (.iload_n 1, 1) := by decide +kernel
theorem dX8_lesser_10 : decode cX8_lesser 10 = .ok (.ireturn, 1) := by decide +kernel
theorem dX8_records_0 : decode cX8_records 0 = .ok (.aload_n 0, 1) := by decide +kernel
theorem dX8_records_1 : decode cX8_records 1 = .ok (.getfield 47, 3) := by decide +kernel
theorem dX8_records_4 : decode cX8_records 4 = .ok (.iconst 4, 1) := by decide +kernel
theorem dX8_records_5 : decode cX8_records 5 = .ok (.if_icmp .ne 72, 3) := by decide +kernel
theorem dX8_records_8 : decode cX8_records 8 = .ok (.iconst 0, 1) := by decide +kernel
theorem dX8_records_9 : decode cX8_records 9 = .ok (.istore_n 1, 1) := by decide +kernel
theorem dX8_records_10 : decode cX8_records 10 = .ok (.iload_n 1, 1) := by decide +kernel
theorem dX8_records_11 : decode cX8_records 11 = .ok (.sipush 2802, 3) := by decide +kernel
theorem dX8_records_14 : decode cX8_records 14 = .ok (.if_icmp .ge 25, 3) := by decide +kernel
theorem dX8_records_17 : decode cX8_records 17 = .ok (.aload_n 0, 1) := by decide +kernel
theorem dX8_records_18 : decode cX8_records 18 = .ok (.getfield 13, 3) := by decide +kernel
theorem dX8_records_21 : decode cX8_records 21 = .ok (.iload_n 1, 1) := by decide +kernel
theorem dX8_records_22 : decode cX8_records 22 = .ok (.aload_n 0, 1) := by decide +kernel
theorem dX8_records_23 : decode cX8_records 23 = .ok (.getfield 13, 3) := by decide +kernel
theorem dX8_records_26 : decode cX8_records 26 = .ok (.iload_n 1, 1) := by decide +kernel
theorem dX8_records_27 : decode cX8_records 27 = .ok (.sipush 934, 3) := by decide +kernel
theorem dX8_records_30 : decode cX8_records 30 = .ok (.iadd, 1) := by decide +kernel
theorem dX8_records_31 : decode cX8_records 31 = .ok (.iaload, 1) := by decide +kernel
theorem dX8_records_32 : decode cX8_records 32 = .ok (.iastore, 1) := by decide +kernel
theorem dX8_records_33 : decode cX8_records 33 = .ok (.iinc 1 1, 3) := by decide +kernel
theorem dX8_records_36 : decode cX8_records 36 = .ok (.goto (-26), 3) := by decide +kernel
theorem dX8_records_39 : decode cX8_records 39 = .ok (.iconst 0, 1) := by decide +kernel
theorem dX8_records_40 : decode cX8_records 40 = .ok (.istore_n 1, 1) := by decide +kernel
theorem dX8_records_41 : decode cX8_records 41 = .ok (.iload_n 1, 1) := by decide +kernel
theorem dX8_records_42 : decode cX8_records 42 = .ok (.bipush 6, 2) := by decide +kernel
theorem dX8_records_44 : decode cX8_records 44 = .ok (.if_icmp .ge 23, 3) := by decide +kernel
theorem dX8_records_47 : decode cX8_records 47 = .ok (.aload_n 0, 1) := by decide +kernel
theorem dX8_records_48 : decode cX8_records 48 = .ok (.getfield 20, 3) := by decide +kernel
theorem dX8_records_51 : decode cX8_records 51 = .ok (.iload_n 1, 1) := by decide +kernel
theorem dX8_records_52 : decode cX8_records 52 = .ok (.aload_n 0, 1) := by decide +kernel
theorem dX8_records_53 : decode cX8_records 53 = .ok (.getfield 20, 3) := by decide +kernel
theorem dX8_records_56 : decode cX8_records 56 = .ok (.iload_n 1, 1) := by decide +kernel
theorem dX8_records_57 : decode cX8_records 57 = .ok (.iconst 2, 1) := by decide +kernel
theorem dX8_records_58 : decode cX8_records 58 = .ok (.iadd, 1) := by decide +kernel
theorem dX8_records_59 : decode cX8_records 59 = .ok (.laload, 1) := by decide +kernel
theorem dX8_records_60 : decode cX8_records 60 = .ok (.lastore, 1) := by decide +kernel
theorem dX8_records_61 : decode cX8_records 61 = .ok (.iinc 1 1, 3) := by decide +kernel
theorem dX8_records_64 : decode cX8_records 64 = .ok (.goto (-23), 3) := by decide +kernel
theorem dX8_records_67 : decode cX8_records 67 = .ok (.aload_n 0, 1) := by decide +kernel
theorem dX8_records_68 : decode cX8_records 68 = .ok (.dup, 1) := by decide +kernel
theorem dX8_records_69 : decode cX8_records 69 = .ok (.getfield 47, 3) := by decide +kernel
theorem dX8_records_72 : decode cX8_records 72 = .ok (.iconst 1, 1) := by decide +kernel
theorem dX8_records_73 : decode cX8_records 73 = .ok (.isub, 1) := by decide +kernel
theorem dX8_records_74 : decode cX8_records 74 = .ok (.putfield 47, 3) := by decide +kernel
theorem dX8_records_77 : decode cX8_records 77 = .ok (.iconst 0, 1) := by decide +kernel
theorem dX8_records_78 : decode cX8_records 78 = .ok (.istore_n 1, 1) := by decide +kernel
theorem dX8_records_79 : decode cX8_records 79 = .ok (.iload_n 1, 1) := by decide +kernel
theorem dX8_records_80 : decode cX8_records 80 = .ok (.sipush 934, 3) := by decide +kernel
theorem dX8_records_83 : decode cX8_records 83 = .ok (.if_icmp .ge 30, 3) := by decide +kernel
theorem dX8_records_86 : decode cX8_records 86 = .ok (.aload_n 0, 1) := by decide +kernel
theorem dX8_records_87 : decode cX8_records 87 = .ok (.getfield 13, 3) := by decide +kernel
theorem dX8_records_90 : decode cX8_records 90 = .ok (.sipush 934, 3) := by decide +kernel
theorem dX8_records_93 : decode cX8_records 93 = .ok (.aload_n 0, 1) := by decide +kernel
theorem dX8_records_94 : decode cX8_records 94 = .ok (.getfield 47, 3) := by decide +kernel
theorem dX8_records_97 : decode cX8_records 97 = .ok (.imul, 1) := by decide +kernel
theorem dX8_records_98 : decode cX8_records 98 = .ok (.iload_n 1, 1) := by decide +kernel
theorem dX8_records_99 : decode cX8_records 99 = .ok (.iadd, 1) := by decide +kernel
theorem dX8_records_100 : decode cX8_records 100 = .ok (.aload_n 0, 1) := by decide +kernel
theorem dX8_records_101 : decode cX8_records 101 = .ok (.getfield 7, 3) := by decide +kernel
theorem dX8_records_104 : decode cX8_records 104 = .ok (.iload_n 1, 1) := by decide +kernel
theorem dX8_records_105 : decode cX8_records 105 = .ok (.iaload, 1) := by decide +kernel
theorem dX8_records_106 : decode cX8_records 106 = .ok (.iastore, 1) := by decide +kernel
theorem dX8_records_107 : decode cX8_records 107 = .ok (.iinc 1 1, 3) := by decide +kernel
theorem dX8_records_110 : decode cX8_records 110 = .ok (.goto (-31), 3) := by decide +kernel
theorem dX8_records_113 : decode cX8_records 113 = .ok (.aload_n 0, 1) := by decide +kernel
theorem dX8_records_114 : decode cX8_records 114 = .ok (.getfield 20, 3) := by decide +kernel
theorem dX8_records_117 : decode cX8_records 117 = .ok (.iconst 2, 1) := by decide +kernel
theorem dX8_records_118 : decode cX8_records 118 = .ok (.aload_n 0, 1) := by decide +kernel
theorem dX8_records_119 : decode cX8_records 119 = .ok (.getfield 47, 3) := by decide +kernel
theorem dX8_records_122 : decode cX8_records 122 = .ok (.imul, 1) := by decide +kernel
theorem dX8_records_123 : decode cX8_records 123 = .ok (.aload_n 0, 1) := by decide +kernel
theorem dX8_records_124 : decode cX8_records 124 = .ok (.getfield 16, 3) := by decide +kernel
theorem dX8_records_127 : decode cX8_records 127 = .ok (.iconst 0, 1) := by decide +kernel
theorem dX8_records_128 : decode cX8_records 128 = .ok (.laload, 1) := by decide +kernel
theorem dX8_records_129 : decode cX8_records 129 = .ok (.lastore, 1) := by decide +kernel
theorem dX8_records_130 : decode cX8_records 130 = .ok (.aload_n 0, 1) := by decide +kernel
theorem dX8_records_131 : decode cX8_records 131 = .ok (.getfield 20, 3) := by decide +kernel
theorem dX8_records_134 : decode cX8_records 134 = .ok (.iconst 2, 1) := by decide +kernel
theorem dX8_records_135 : decode cX8_records 135 = .ok (.aload_n 0, 1) := by decide +kernel
theorem dX8_records_136 : decode cX8_records 136 = .ok (.getfield 47, 3) := by decide +kernel
theorem dX8_records_139 : decode cX8_records 139 = .ok (.imul, 1) := by decide +kernel
theorem dX8_records_140 : decode cX8_records 140 = .ok (.iconst 1, 1) := by decide +kernel
theorem dX8_records_141 : decode cX8_records 141 = .ok (.iadd, 1) := by decide +kernel
theorem dX8_records_142 : decode cX8_records 142 = .ok (.aload_n 0, 1) := by decide +kernel
theorem dX8_records_143 : decode cX8_records 143 = .ok (.getfield 16, 3) := by decide +kernel
theorem dX8_records_146 : decode cX8_records 146 = .ok (.iconst 1, 1) := by decide +kernel
theorem dX8_records_147 : decode cX8_records 147 = .ok (.laload, 1) := by decide +kernel
theorem dX8_records_148 : decode cX8_records 148 = .ok (.lastore, 1) := by decide +kernel
theorem dX8_records_149 : decode cX8_records 149 = .ok (.aload_n 0, 1) := by decide +kernel
theorem dX8_records_150 : decode cX8_records 150 = .ok (.dup, 1) := by decide +kernel
theorem dX8_records_151 : decode cX8_records 151 = .ok (.getfield 47, 3) := by decide +kernel
theorem dX8_records_154 : decode cX8_records 154 = .ok (.iconst 1, 1) := by decide +kernel
theorem dX8_records_155 : decode cX8_records 155 = .ok (.iadd, 1) := by decide +kernel
theorem dX8_records_156 : decode cX8_records 156 = .ok (.putfield 47, 3) := by decide +kernel
theorem dX8_records_159 : decode cX8_records 159 = .ok (.return_, 1) := by decide +kernel
theorem dX8_undo_0 : decode cX8_undo 0 = .ok (.aload_n 0, 1) := by decide +kernel
theorem dX8_undo_1 : decode cX8_undo 1 = .ok (.getfield 47, 3) := by decide +kernel
theorem dX8_undo_4 : decode cX8_undo 4 = .ok (.ifCond .ne 6, 3) := by decide +kernel
theorem dX8_undo_7 : decode cX8_undo 7 = .ok (.bipush (-2), 2) := by decide +kernel
theorem dX8_undo_9 : decode cX8_undo 9 = .ok (.ireturn, 1) := by decide +kernel
theorem dX8_undo_10 : decode cX8_undo 10 = .ok (.aload_n 0, 1) := by decide +kernel
theorem dX8_undo_11 : decode cX8_undo 11 = .ok (.dup, 1) := by decide +kernel
theorem dX8_undo_12 : decode cX8_undo 12 = .ok (.getfield 47, 3) := by decide +kernel
theorem dX8_undo_15 : decode cX8_undo 15 = .ok (.iconst 1, 1) := by decide +kernel
theorem dX8_undo_16 : decode cX8_undo 16 = .ok (.isub, 1) := by decide +kernel
theorem dX8_undo_17 : decode cX8_undo 17 = .ok (.putfield 47, 3) := by decide +kernel
theorem dX8_undo_20 : decode cX8_undo 20 = .ok (.iconst 0, 1) := by decide +kernel
theorem dX8_undo_21 : decode cX8_undo 21 = .ok (.istore_n 1, 1) := by decide +kernel
theorem dX8_undo_22 : decode cX8_undo 22 = .ok (.iload_n 1, 1) := by decide +kernel
theorem dX8_undo_23 : decode cX8_undo 23 = .ok (.sipush 934, 3) := by decide +kernel
theorem dX8_undo_26 : decode cX8_undo 26 = .ok (.if_icmp .ge 30, 3) := by decide +kernel
theorem dX8_undo_29 : decode cX8_undo 29 = .ok (.aload_n 0, 1) := by decide +kernel
theorem dX8_undo_30 : decode cX8_undo 30 = .ok (.getfield 7, 3) := by decide +kernel
theorem dX8_undo_33 : decode cX8_undo 33 = .ok (.iload_n 1, 1) := by decide +kernel
theorem dX8_undo_34 : decode cX8_undo 34 = .ok (.aload_n 0, 1) := by decide +kernel
theorem dX8_undo_35 : decode cX8_undo 35 = .ok (.getfield 13, 3) := by decide +kernel
theorem dX8_undo_38 : decode cX8_undo 38 = .ok (.sipush 934, 3) := by decide +kernel
theorem dX8_undo_41 : decode cX8_undo 41 = .ok (.aload_n 0, 1) := by decide +kernel
theorem dX8_undo_42 : decode cX8_undo 42 = .ok (.getfield 47, 3) := by decide +kernel
theorem dX8_undo_45 : decode cX8_undo 45 = .ok (.imul, 1) := by decide +kernel
theorem dX8_undo_46 : decode cX8_undo 46 = .ok (.iload_n 1, 1) := by decide +kernel
theorem dX8_undo_47 : decode cX8_undo 47 = .ok (.iadd, 1) := by decide +kernel
theorem dX8_undo_48 : decode cX8_undo 48 = .ok (.iaload, 1) := by decide +kernel
theorem dX8_undo_49 : decode cX8_undo 49 = .ok (.iastore, 1) := by decide +kernel
theorem dX8_undo_50 : decode cX8_undo 50 = .ok (.iinc 1 1, 3) := by decide +kernel
theorem dX8_undo_53 : decode cX8_undo 53 = .ok (.goto (-31), 3) := by decide +kernel
theorem dX8_undo_56 : decode cX8_undo 56 = .ok (.aload_n 0, 1) := by decide +kernel
theorem dX8_undo_57 : decode cX8_undo 57 = .ok (.getfield 16, 3) := by decide +kernel
theorem dX8_undo_60 : decode cX8_undo 60 = .ok (.iconst 0, 1) := by decide +kernel
theorem dX8_undo_61 : decode cX8_undo 61 = .ok (.aload_n 0, 1) := by decide +kernel
theorem dX8_undo_62 : decode cX8_undo 62 = .ok (.getfield 20, 3) := by decide +kernel
theorem dX8_undo_65 : decode cX8_undo 65 = .ok (.iconst 2, 1) := by decide +kernel
theorem dX8_undo_66 : decode cX8_undo 66 = .ok (.aload_n 0, 1) := by decide +kernel
theorem dX8_undo_67 : decode cX8_undo 67 = .ok (.getfield 47, 3) := by decide +kernel
theorem dX8_undo_70 : decode cX8_undo 70 = .ok (.imul, 1) := by decide +kernel
theorem dX8_undo_71 : decode cX8_undo 71 = .ok (.laload, 1) := by decide +kernel
theorem dX8_undo_72 : decode cX8_undo 72 = .ok (.lastore, 1) := by decide +kernel
theorem dX8_undo_73 : decode cX8_undo 73 = .ok (.aload_n 0, 1) := by decide +kernel
theorem dX8_undo_74 : decode cX8_undo 74 = .ok (.getfield 16, 3) := by decide +kernel
theorem dX8_undo_77 : decode cX8_undo 77 = .ok (.iconst 1, 1) := by decide +kernel
theorem dX8_undo_78 : decode cX8_undo 78 = .ok (.aload_n 0, 1) := by decide +kernel
theorem dX8_undo_79 : decode cX8_undo 79 = .ok (.getfield 20, 3) := by decide +kernel
theorem dX8_undo_82 : decode cX8_undo 82 = .ok (.iconst 2, 1) := by decide +kernel
theorem dX8_undo_83 : decode cX8_undo 83 = .ok (.aload_n 0, 1) := by decide +kernel
theorem dX8_undo_84 : decode cX8_undo 84 = .ok (.getfield 47, 3) := by decide +kernel
theorem dX8_undo_87 : decode cX8_undo 87 = .ok (.imul, 1) := by decide +kernel
theorem dX8_undo_88 : decode cX8_undo 88 = .ok (.iconst 1, 1) := by decide +kernel
theorem dX8_undo_89 : decode cX8_undo 89 = .ok (.iadd, 1) := by decide +kernel
theorem dX8_undo_90 : decode cX8_undo 90 = .ok (.laload, 1) := by decide +kernel
theorem dX8_undo_91 : decode cX8_undo 91 = .ok (.lastore, 1) := by decide +kernel
theorem dX8_undo_92 : decode cX8_undo 92 = .ok (.aload_n 0, 1) := by decide +kernel
theorem dX8_undo_93 : decode cX8_undo 93 = .ok (.getfield 47, 3) := by decide +kernel
theorem dX8_undo_96 : decode cX8_undo 96 = .ok (.ireturn, 1) := by decide +kernel
theorem dX8_stratum_0 : decode cX8_stratum 0 = .ok (.iload_n 1, 1) := by decide +kernel
theorem dX8_stratum_1 : decode cX8_stratum 1 = .ok (.iconst 0, 1) := by decide +kernel
theorem dX8_stratum_2 : decode cX8_stratum 2 = .ok (.aload_n 0, 1) := by decide +kernel
theorem dX8_stratum_3 : decode cX8_stratum 3 = .ok (.getfield 7, 3) := by decide +kernel
theorem dX8_stratum_6 : decode cX8_stratum 6 = .ok (.iconst 0, 1) := by decide +kernel
theorem dX8_stratum_7 : decode cX8_stratum 7 = .ok (.iaload, 1) := by decide +kernel
theorem dX8_stratum_8 : decode cX8_stratum 8 = .ok (.invokestatic 51, 3) := by decide +kernel
theorem dX8_stratum_11 : decode cX8_stratum 11 = .ok (.ifCond .eq 26, 3) := by decide +kernel
theorem dX8_stratum_14 : decode cX8_stratum 14 = .ok (.iload_n 2, 1) := by decide +kernel
theorem dX8_stratum_15 : decode cX8_stratum 15 = .ok (.bipush 100, 2) := by decide +kernel
theorem dX8_stratum_17 : decode cX8_stratum 17 = .ok (.sipush 20000, 3) := by decide +kernel
theorem dX8_stratum_20 : decode cX8_stratum 20 = .ok (.invokestatic 51, 3) := by decide +kernel
theorem dX8_stratum_23 : decode cX8_stratum 23 = .ok (.ifCond .eq 14, 3) := by decide +kernel
theorem dX8_stratum_26 : decode cX8_stratum 26 = .ok (.iload_n 3, 1) := by decide +kernel
theorem dX8_stratum_27 : decode cX8_stratum 27 = .ok (.iconst 1, 1) := by decide +kernel
theorem dX8_stratum_28 : decode cX8_stratum 28 = .ok (.sipush 500, 3) := by decide +kernel
theorem dX8_stratum_31 : decode cX8_stratum 31 = .ok (.invokestatic 51, 3) := by decide +kernel
theorem dX8_stratum_34 : decode cX8_stratum 34 = .ok (.ifCond .ne 5, 3) := by decide +kernel
theorem dX8_stratum_37 : decode cX8_stratum 37 = .ok (.iconst (-1), 1) := by decide +kernel
theorem dX8_stratum_38 : decode cX8_stratum 38 = .ok (.ireturn, 1) := by decide +kernel
theorem dX8_stratum_39 : decode cX8_stratum 39 = .ok (.iload_n 1, 1) := by decide +kernel
theorem dX8_stratum_40 : decode cX8_stratum 40 = .ok (.bipush 6, 2) := by decide +kernel
theorem dX8_stratum_42 : decode cX8_stratum 42 = .ok (.if_icmp .ne 6, 3) := by decide +kernel
theorem dX8_stratum_45 : decode cX8_stratum 45 = .ok (.bipush (-3), 2) := by decide +kernel
theorem dX8_stratum_47 : decode cX8_stratum 47 = .ok (.ireturn, 1) := by decide +kernel
theorem dX8_stratum_48 : decode cX8_stratum 48 = .ok (.aload_n 0, 1) := by decide +kernel
theorem dX8_stratum_49 : decode cX8_stratum 49 = .ok (.invokevirtual 55, 3) := by decide +kernel
theorem dX8_stratum_52 : decode cX8_stratum 52 = .ok (.aload_n 0, 1) := by decide +kernel
theorem dX8_stratum_53 : decode cX8_stratum 53 = .ok (.getfield 7, 3) := by decide +kernel
theorem dX8_stratum_56 : decode cX8_stratum 56 = .ok (.iconst 1, 1) := by decide +kernel
theorem dX8_stratum_57 : decode cX8_stratum 57 = .ok (.iload_n 1, 1) := by decide +kernel
theorem dX8_stratum_58 : decode cX8_stratum 58 = .ok (.iadd, 1) := by decide +kernel
theorem dX8_stratum_59 : decode cX8_stratum 59 = .ok (.iload_n 2, 1) := by decide +kernel
theorem dX8_stratum_60 : decode cX8_stratum 60 = .ok (.iastore, 1) := by decide +kernel
theorem dX8_stratum_61 : decode cX8_stratum 61 = .ok (.aload_n 0, 1) := by decide +kernel
theorem dX8_stratum_62 : decode cX8_stratum 62 = .ok (.getfield 7, 3) := by decide +kernel
theorem dX8_stratum_65 : decode cX8_stratum 65 = .ok (.bipush 7, 2) := by decide +kernel
theorem dX8_stratum_67 : decode cX8_stratum 67 = .ok (.iload_n 1, 1) := by decide +kernel
theorem dX8_stratum_68 : decode cX8_stratum 68 = .ok (.iadd, 1) := by decide +kernel
theorem dX8_stratum_69 : decode cX8_stratum 69 = .ok (.iload_n 3, 1) := by decide +kernel
theorem dX8_stratum_70 : decode cX8_stratum 70 = .ok (.iastore, 1) := by decide +kernel
theorem dX8_stratum_71 : decode cX8_stratum 71 = .ok (.aload_n 0, 1) := by decide +kernel
theorem dX8_stratum_72 : decode cX8_stratum 72 = .ok (.getfield 7, 3) := by decide +kernel
theorem dX8_stratum_75 : decode cX8_stratum 75 = .ok (.iconst 0, 1) := by decide +kernel
theorem dX8_stratum_76 : decode cX8_stratum 76 = .ok (.dup2, 1) := by decide +kernel
theorem dX8_stratum_77 : decode cX8_stratum 77 = .ok (.iaload, 1) := by decide +kernel
theorem dX8_stratum_78 : decode cX8_stratum 78 = .ok (.iload_n 1, 1) := by decide +kernel
theorem dX8_stratum_79 : decode cX8_stratum 79 = .ok (.aload_n 0, 1) := by decide +kernel
theorem dX8_stratum_80 : decode cX8_stratum 80 = .ok (.getfield 7, 3) := by decide +kernel
theorem dX8_stratum_83 : decode cX8_stratum 83 = .ok (.iconst 0, 1) := by decide +kernel
theorem dX8_stratum_84 : decode cX8_stratum 84 = .ok (.iaload, 1) := by decide +kernel
theorem dX8_stratum_85 : decode cX8_stratum 85 = .ok (.if_icmp .ne 7, 3) := by decide +kernel
theorem dX8_stratum_88 : decode cX8_stratum 88 = .ok (.iconst 1, 1) := by decide +kernel
theorem dX8_stratum_89 : decode cX8_stratum 89 = .ok (.goto 4, 3) := by decide +kernel
theorem dX8_stratum_92 : decode cX8_stratum 92 = .ok (.iconst 0, 1) := by decide +kernel
theorem dX8_stratum_93 : decode cX8_stratum 93 = .ok (.iadd, 1) := by decide +kernel
theorem dX8_stratum_94 : decode cX8_stratum 94 = .ok (.iastore, 1) := by decide +kernel
theorem dX8_stratum_95 : decode cX8_stratum 95 = .ok (.aload_n 0, 1) := by decide +kernel
theorem dX8_stratum_96 : decode cX8_stratum 96 = .ok (.getfield 7, 3) := by decide +kernel
theorem dX8_stratum_99 : decode cX8_stratum 99 = .ok (.iconst 0, 1) := by decide +kernel
theorem dX8_stratum_100 : decode cX8_stratum 100 = .ok (.iaload, 1) := by decide +kernel
theorem dX8_stratum_101 : decode cX8_stratum 101 = .ok (.ireturn, 1) := by decide +kernel
theorem dX8_cut_0 : decode cX8_cut 0 = .ok (.aload_n 0, 1) := by decide +kernel
theorem dX8_cut_1 : decode cX8_cut 1 = .ok (.getfield 7, 3) := by decide +kernel
theorem dX8_cut_4 : decode cX8_cut 4 = .ok (.iconst 0, 1) := by decide +kernel
theorem dX8_cut_5 : decode cX8_cut 5 = .ok (.iaload, 1) := by decide +kernel
theorem dX8_cut_6 : decode cX8_cut 6 = .ok (.iconst 1, 1) := by decide +kernel
theorem dX8_cut_7 : decode cX8_cut 7 = .ok (.if_icmp .ne 6, 3) := by decide +kernel
theorem dX8_cut_10 : decode cX8_cut 10 = .ok (.bipush (-2), 2) := by decide +kernel
theorem dX8_cut_12 : decode cX8_cut 12 = .ok (.ireturn, 1) := by decide +kernel
theorem dX8_cut_13 : decode cX8_cut 13 = .ok (.aload_n 0, 1) := by decide +kernel
theorem dX8_cut_14 : decode cX8_cut 14 = .ok (.invokevirtual 55, 3) := by decide +kernel
theorem dX8_cut_17 : decode cX8_cut 17 = .ok (.aload_n 0, 1) := by decide +kernel
theorem dX8_cut_18 : decode cX8_cut 18 = .ok (.getfield 7, 3) := by decide +kernel
theorem dX8_cut_21 : decode cX8_cut 21 = .ok (.iconst 0, 1) := by decide +kernel
theorem dX8_cut_22 : decode cX8_cut 22 = .ok (.dup2, 1) := by decide +kernel
theorem dX8_cut_23 : decode cX8_cut 23 = .ok (.iaload, 1) := by decide +kernel
theorem dX8_cut_24 : decode cX8_cut 24 = .ok (.iconst 1, 1) := by decide +kernel
theorem dX8_cut_25 : decode cX8_cut 25 = .ok (.isub, 1) := by decide +kernel
theorem dX8_cut_26 : decode cX8_cut 26 = .ok (.iastore, 1) := by decide +kernel
theorem dX8_cut_27 : decode cX8_cut 27 = .ok (.aload_n 0, 1) := by decide +kernel
theorem dX8_cut_28 : decode cX8_cut 28 = .ok (.getfield 7, 3) := by decide +kernel
theorem dX8_cut_31 : decode cX8_cut 31 = .ok (.iconst 0, 1) := by decide +kernel
theorem dX8_cut_32 : decode cX8_cut 32 = .ok (.iaload, 1) := by decide +kernel
theorem dX8_cut_33 : decode cX8_cut 33 = .ok (.ireturn, 1) := by decide +kernel
theorem dX8_stratumAt_0 : decode cX8_stratumAt 0 = .ok (.iconst 0, 1) := by decide +kernel
theorem dX8_stratumAt_1 : decode cX8_stratumAt 1 = .ok (.istore_n 2, 1) := by decide +kernel
theorem dX8_stratumAt_2 : decode cX8_stratumAt 2 = .ok (.iconst 0, 1) := by decide +kernel
theorem dX8_stratumAt_3 : decode cX8_stratumAt 3 = .ok (.istore_n 3, 1) := by decide +kernel
theorem dX8_stratumAt_4 : decode cX8_stratumAt 4 = .ok (.iload_n 3, 1) := by decide +kernel
theorem dX8_stratumAt_5 : decode cX8_stratumAt 5 = .ok (.aload_n 0, 1) := by decide +kernel
theorem dX8_stratumAt_6 : decode cX8_stratumAt 6 = .ok (.getfield 7, 3) := by decide +kernel
theorem dX8_stratumAt_9 : decode cX8_stratumAt 9 = .ok (.iconst 0, 1) := by decide +kernel
theorem dX8_stratumAt_10 : decode cX8_stratumAt 10 = .ok (.iaload, 1) := by decide +kernel
theorem dX8_stratumAt_11 : decode cX8_stratumAt 11 = .ok (.if_icmp .ge 27, 3) := by decide +kernel
theorem dX8_stratumAt_14 : decode cX8_stratumAt 14 = .ok (.iload_n 2, 1) := by decide +kernel
theorem dX8_stratumAt_15 : decode cX8_stratumAt 15 = .ok (.aload_n 0, 1) := by decide +kernel
theorem dX8_stratumAt_16 : decode cX8_stratumAt 16 = .ok (.getfield 7, 3) := by decide +kernel
theorem dX8_stratumAt_19 : decode cX8_stratumAt 19 = .ok (.iconst 1, 1) := by decide +kernel
theorem dX8_stratumAt_20 : decode cX8_stratumAt 20 = .ok (.iload_n 3, 1) := by decide +kernel
theorem dX8_stratumAt_21 : decode cX8_stratumAt 21 = .ok (.iadd, 1) := by decide +kernel
theorem dX8_stratumAt_22 : decode cX8_stratumAt 22 = .ok (.iaload, 1) := by decide +kernel
theorem dX8_stratumAt_23 : decode cX8_stratumAt 23 = .ok (.iadd, 1) := by decide +kernel
theorem dX8_stratumAt_24 : decode cX8_stratumAt 24 = .ok (.istore_n 2, 1) := by decide +kernel
theorem dX8_stratumAt_25 : decode cX8_stratumAt 25 = .ok (.iload_n 1, 1) := by decide +kernel
theorem dX8_stratumAt_26 : decode cX8_stratumAt 26 = .ok (.iload_n 2, 1) := by decide +kernel
theorem dX8_stratumAt_27 : decode cX8_stratumAt 27 = .ok (.if_icmp .ge 5, 3) := by decide +kernel
theorem dX8_stratumAt_30 : decode cX8_stratumAt 30 = .ok (.iload_n 3, 1) := by decide +kernel
theorem dX8_stratumAt_31 : decode cX8_stratumAt 31 = .ok (.ireturn, 1) := by decide +kernel
theorem dX8_stratumAt_32 : decode cX8_stratumAt 32 = .ok (.iinc 3 1, 3) := by decide +kernel
theorem dX8_stratumAt_35 : decode cX8_stratumAt 35 = .ok (.goto (-31), 3) := by decide +kernel
theorem dX8_stratumAt_38 : decode cX8_stratumAt 38 = .ok (.bipush (-4), 2) := by decide +kernel
theorem dX8_stratumAt_40 : decode cX8_stratumAt 40 = .ok (.ireturn, 1) := by decide +kernel
theorem dX8_hardness_0 : decode cX8_hardness 0 = .ok (.aload_n 0, 1) := by decide +kernel
theorem dX8_hardness_1 : decode cX8_hardness 1 = .ok (.iload_n 1, 1) := by decide +kernel
theorem dX8_hardness_2 : decode cX8_hardness 2 = .ok (.invokevirtual 58, 3) := by decide +kernel
theorem dX8_hardness_5 : decode cX8_hardness 5 = .ok (.istore_n 2, 1) := by decide +kernel
theorem dX8_hardness_6 : decode cX8_hardness 6 = .ok (.iload_n 2, 1) := by decide +kernel
theorem dX8_hardness_7 : decode cX8_hardness 7 = .ok (.ifCond .ge 9, 3) := by decide +kernel
theorem dX8_hardness_10 : decode cX8_hardness 10 = .ok (.sipush 2000, 3) := by decide +kernel
theorem dX8_hardness_13 : decode cX8_hardness 13 = .ok (.goto 12, 3) := by decide +kernel
theorem dX8_hardness_16 : decode cX8_hardness 16 = .ok (.aload_n 0, 1) := by decide +kernel
theorem dX8_hardness_17 : decode cX8_hardness 17 = .ok (.getfield 7, 3) := by decide +kernel
theorem dX8_hardness_20 : decode cX8_hardness 20 = .ok (.bipush 7, 2) := by decide +kernel
theorem dX8_hardness_22 : decode cX8_hardness 22 = .ok (.iload_n 2, 1) := by decide +kernel
theorem dX8_hardness_23 : decode cX8_hardness 23 = .ok (.iadd, 1) := by decide +kernel
theorem dX8_hardness_24 : decode cX8_hardness 24 = .ok (.iaload, 1) := by decide +kernel
theorem dX8_hardness_25 : decode cX8_hardness 25 = .ok (.ireturn, 1) := by decide +kernel
theorem dX8_begins_0 : decode cX8_begins 0 = .ok (.iconst 0, 1) := by decide +kernel
theorem dX8_begins_1 : decode cX8_begins 1 = .ok (.istore_n 2, 1) := by decide +kernel
theorem dX8_begins_2 : decode cX8_begins 2 = .ok (.iconst 0, 1) := by decide +kernel
theorem dX8_begins_3 : decode cX8_begins 3 = .ok (.istore_n 3, 1) := by decide +kernel
theorem dX8_begins_4 : decode cX8_begins 4 = .ok (.iload_n 3, 1) := by decide +kernel
theorem dX8_begins_5 : decode cX8_begins 5 = .ok (.iload_n 1, 1) := by decide +kernel
theorem dX8_begins_6 : decode cX8_begins 6 = .ok (.if_icmp .ge 20, 3) := by decide +kernel
theorem dX8_begins_9 : decode cX8_begins 9 = .ok (.iload_n 2, 1) := by decide +kernel
theorem dX8_begins_10 : decode cX8_begins 10 = .ok (.aload_n 0, 1) := by decide +kernel
theorem dX8_begins_11 : decode cX8_begins 11 = .ok (.getfield 7, 3) := by decide +kernel
theorem dX8_begins_14 : decode cX8_begins 14 = .ok (.iconst 1, 1) := by decide +kernel
theorem dX8_begins_15 : decode cX8_begins 15 = .ok (.iload_n 3, 1) := by decide +kernel
theorem dX8_begins_16 : decode cX8_begins 16 = .ok (.iadd, 1) := by decide +kernel
theorem dX8_begins_17 : decode cX8_begins 17 = .ok (.iaload, 1) := by decide +kernel
theorem dX8_begins_18 : decode cX8_begins 18 = .ok (.iadd, 1) := by decide +kernel
theorem dX8_begins_19 : decode cX8_begins 19 = .ok (.istore_n 2, 1) := by decide +kernel
theorem dX8_begins_20 : decode cX8_begins 20 = .ok (.iinc 3 1, 3) := by decide +kernel
theorem dX8_begins_23 : decode cX8_begins 23 = .ok (.goto (-19), 3) := by decide +kernel
theorem dX8_begins_26 : decode cX8_begins 26 = .ok (.iload_n 2, 1) := by decide +kernel
theorem dX8_begins_27 : decode cX8_begins 27 = .ok (.ireturn, 1) := by decide +kernel
theorem dX8_feetIn_0 : decode cX8_feetIn 0 = .ok (.iconst 0, 1) := by decide +kernel
theorem dX8_feetIn_1 : decode cX8_feetIn 1 = .ok (.istore_n 2, 1) := by decide +kernel
theorem dX8_feetIn_2 : decode cX8_feetIn 2 = .ok (.iconst 0, 1) := by decide +kernel
theorem dX8_feetIn_3 : decode cX8_feetIn 3 = .ok (.istore_n 3, 1) := by decide +kernel
theorem dX8_feetIn_4 : decode cX8_feetIn 4 = .ok (.iload_n 3, 1) := by decide +kernel
theorem dX8_feetIn_5 : decode cX8_feetIn 5 = .ok (.aload_n 0, 1) := by decide +kernel
theorem dX8_feetIn_6 : decode cX8_feetIn 6 = .ok (.getfield 7, 3) := by decide +kernel
theorem dX8_feetIn_9 : decode cX8_feetIn 9 = .ok (.bipush 19, 2) := by decide +kernel
theorem dX8_feetIn_11 : decode cX8_feetIn 11 = .ok (.iaload, 1) := by decide +kernel
theorem dX8_feetIn_12 : decode cX8_feetIn 12 = .ok (.if_icmp .ge 31, 3) := by decide +kernel
theorem dX8_feetIn_15 : decode cX8_feetIn 15 = .ok (.iload_n 2, 1) := by decide +kernel
theorem dX8_feetIn_16 : decode cX8_feetIn 16 = .ok (.aload_n 0, 1) := by decide +kernel
theorem dX8_feetIn_17 : decode cX8_feetIn 17 = .ok (.aload_n 0, 1) := by decide +kernel
theorem dX8_feetIn_18 : decode cX8_feetIn 18 = .ok (.iload_n 3, 1) := by decide +kernel
theorem dX8_feetIn_19 : decode cX8_feetIn 19 = .ok (.iconst 3, 1) := by decide +kernel
theorem dX8_feetIn_20 : decode cX8_feetIn 20 = .ok (.invokevirtual 62, 3) := by decide +kernel
theorem dX8_feetIn_23 : decode cX8_feetIn 23 = .ok (.invokevirtual 58, 3) := by decide +kernel
theorem dX8_feetIn_26 : decode cX8_feetIn 26 = .ok (.iload_n 1, 1) := by decide +kernel
theorem dX8_feetIn_27 : decode cX8_feetIn 27 = .ok (.if_icmp .ne 7, 3) := by decide +kernel
theorem dX8_feetIn_30 : decode cX8_feetIn 30 = .ok (.iconst 1, 1) := by decide +kernel
theorem dX8_feetIn_31 : decode cX8_feetIn 31 = .ok (.goto 4, 3) := by decide +kernel
theorem dX8_feetIn_34 : decode cX8_feetIn 34 = .ok (.iconst 0, 1) := by decide +kernel
theorem dX8_feetIn_35 : decode cX8_feetIn 35 = .ok (.iadd, 1) := by decide +kernel
theorem dX8_feetIn_36 : decode cX8_feetIn 36 = .ok (.istore_n 2, 1) := by decide +kernel
theorem dX8_feetIn_37 : decode cX8_feetIn 37 = .ok (.iinc 3 1, 3) := by decide +kernel
theorem dX8_feetIn_40 : decode cX8_feetIn 40 = .ok (.goto (-36), 3) := by decide +kernel
theorem dX8_feetIn_43 : decode cX8_feetIn 43 = .ok (.iload_n 2, 1) := by decide +kernel
theorem dX8_feetIn_44 : decode cX8_feetIn 44 = .ok (.ireturn, 1) := by decide +kernel
theorem dX8_ground_0 : decode cX8_ground 0 = .ok (.iload_n 1, 1) := by decide +kernel
theorem dX8_ground_1 : decode cX8_ground 1 = .ok (.iconst 0, 1) := by decide +kernel
theorem dX8_ground_2 : decode cX8_ground 2 = .ok (.aload_n 0, 1) := by decide +kernel
theorem dX8_ground_3 : decode cX8_ground 3 = .ok (.getfield 7, 3) := by decide +kernel
theorem dX8_ground_6 : decode cX8_ground 6 = .ok (.iconst 0, 1) := by decide +kernel
theorem dX8_ground_7 : decode cX8_ground 7 = .ok (.iaload, 1) := by decide +kernel
theorem dX8_ground_8 : decode cX8_ground 8 = .ok (.iconst 1, 1) := by decide +kernel
theorem dX8_ground_9 : decode cX8_ground 9 = .ok (.isub, 1) := by decide +kernel
theorem dX8_ground_10 : decode cX8_ground 10 = .ok (.invokestatic 51, 3) := by decide +kernel
theorem dX8_ground_13 : decode cX8_ground 13 = .ok (.ifCond .eq 12, 3) := by decide +kernel
theorem dX8_ground_16 : decode cX8_ground 16 = .ok (.iload_n 2, 1) := by decide +kernel
theorem dX8_ground_17 : decode cX8_ground 17 = .ok (.iconst 0, 1) := by decide +kernel
theorem dX8_ground_18 : decode cX8_ground 18 = .ok (.iconst 3, 1) := by decide +kernel
theorem dX8_ground_19 : decode cX8_ground 19 = .ok (.invokestatic 51, 3) := by decide +kernel
theorem dX8_ground_22 : decode cX8_ground 22 = .ok (.ifCond .ne 5, 3) := by decide +kernel
theorem dX8_ground_25 : decode cX8_ground 25 = .ok (.iconst (-1), 1) := by decide +kernel
theorem dX8_ground_26 : decode cX8_ground 26 = .ok (.ireturn, 1) := by decide +kernel
theorem dX8_ground_27 : decode cX8_ground 27 = .ok (.iload_n 2, 1) := by decide +kernel
theorem dX8_ground_28 : decode cX8_ground 28 = .ok (.tableswitch 53 0 2 #[28, 37, 47], 28) := by decide +kernel
theorem dX8_ground_56 : decode cX8_ground 56 = .ok (.aload_n 0, 1) := by decide +kernel
theorem dX8_ground_57 : decode cX8_ground 57 = .ok (.getfield 7, 3) := by decide +kernel
theorem dX8_ground_60 : decode cX8_ground 60 = .ok (.iconst 1, 1) := by decide +kernel
theorem dX8_ground_61 : decode cX8_ground 61 = .ok (.iload_n 1, 1) := by decide +kernel
theorem dX8_ground_62 : decode cX8_ground 62 = .ok (.iadd, 1) := by decide +kernel
theorem dX8_ground_63 : decode cX8_ground 63 = .ok (.iaload, 1) := by decide +kernel
theorem dX8_ground_64 : decode cX8_ground 64 = .ok (.ireturn, 1) := by decide +kernel
theorem dX8_ground_65 : decode cX8_ground 65 = .ok (.aload_n 0, 1) := by decide +kernel
theorem dX8_ground_66 : decode cX8_ground 66 = .ok (.getfield 7, 3) := by decide +kernel
theorem dX8_ground_69 : decode cX8_ground 69 = .ok (.bipush 7, 2) := by decide +kernel
theorem dX8_ground_71 : decode cX8_ground 71 = .ok (.iload_n 1, 1) := by decide +kernel
theorem dX8_ground_72 : decode cX8_ground 72 = .ok (.iadd, 1) := by decide +kernel
theorem dX8_ground_73 : decode cX8_ground 73 = .ok (.iaload, 1) := by decide +kernel
theorem dX8_ground_74 : decode cX8_ground 74 = .ok (.ireturn, 1) := by decide +kernel
theorem dX8_ground_75 : decode cX8_ground 75 = .ok (.aload_n 0, 1) := by decide +kernel
theorem dX8_ground_76 : decode cX8_ground 76 = .ok (.iload_n 1, 1) := by decide +kernel
theorem dX8_ground_77 : decode cX8_ground 77 = .ok (.invokevirtual 66, 3) := by decide +kernel
theorem dX8_ground_80 : decode cX8_ground 80 = .ok (.ireturn, 1) := by decide +kernel
theorem dX8_ground_81 : decode cX8_ground 81 = .ok (.aload_n 0, 1) := by decide +kernel
theorem dX8_ground_82 : decode cX8_ground 82 = .ok (.iload_n 1, 1) := by decide +kernel
theorem dX8_ground_83 : decode cX8_ground 83 = .ok (.invokevirtual 69, 3) := by decide +kernel
theorem dX8_ground_86 : decode cX8_ground 86 = .ok (.ireturn, 1) := by decide +kernel
theorem dX8_at_0 : decode cX8_at 0 = .ok (.iload_n 1, 1) := by decide +kernel
theorem dX8_at_1 : decode cX8_at 1 = .ok (.iconst 0, 1) := by decide +kernel
theorem dX8_at_2 : decode cX8_at 2 = .ok (.ldc 72, 2) := by decide +kernel
theorem dX8_at_4 : decode cX8_at 4 = .ok (.invokestatic 51, 3) := by decide +kernel
theorem dX8_at_7 : decode cX8_at 7 = .ok (.ifCond .eq 11, 3) := by decide +kernel
theorem dX8_at_10 : decode cX8_at 10 = .ok (.aload_n 0, 1) := by decide +kernel
theorem dX8_at_11 : decode cX8_at 11 = .ok (.iload_n 1, 1) := by decide +kernel
theorem dX8_at_12 : decode cX8_at 12 = .ok (.invokevirtual 58, 3) := by decide +kernel
theorem dX8_at_15 : decode cX8_at 15 = .ok (.goto 4, 3) := by decide +kernel
theorem dX8_at_18 : decode cX8_at 18 = .ok (.iconst (-1), 1) := by decide +kernel
theorem dX8_at_19 : decode cX8_at 19 = .ok (.ireturn, 1) := by decide +kernel
theorem dX8_canBe_0 : decode cX8_canBe 0 = .ok (.iload_n 0, 1) := by decide +kernel
theorem dX8_canBe_1 : decode cX8_canBe 1 = .ok (.tableswitch 76 0 5 #[39, 49, 58, 66, 76, 58], 39) := by decide +kernel
theorem dX8_canBe_40 : decode cX8_canBe 40 = .ok (.iload_n 1, 1) := by decide +kernel
theorem dX8_canBe_41 : decode cX8_canBe 41 = .ok (.bipush 100, 2) := by decide +kernel
theorem dX8_canBe_43 : decode cX8_canBe 43 = .ok (.sipush 10000, 3) := by decide +kernel
theorem dX8_canBe_46 : decode cX8_canBe 46 = .ok (.invokestatic 51, 3) := by decide +kernel
theorem dX8_canBe_49 : decode cX8_canBe 49 = .ok (.ireturn, 1) := by decide +kernel
theorem dX8_canBe_50 : decode cX8_canBe 50 = .ok (.iload_n 1, 1) := by decide +kernel
theorem dX8_canBe_51 : decode cX8_canBe 51 = .ok (.bipush 10, 2) := by decide +kernel
theorem dX8_canBe_53 : decode cX8_canBe 53 = .ok (.bipush 100, 2) := by decide +kernel
theorem dX8_canBe_55 : decode cX8_canBe 55 = .ok (.invokestatic 51, 3) := by decide +kernel
theorem dX8_canBe_58 : decode cX8_canBe 58 = .ok (.ireturn, 1) := by decide +kernel
theorem dX8_canBe_59 : decode cX8_canBe 59 = .ok (.iload_n 1, 1) := by decide +kernel
theorem dX8_canBe_60 : decode cX8_canBe 60 = .ok (.iconst 0, 1) := by decide +kernel
theorem dX8_canBe_61 : decode cX8_canBe 61 = .ok (.bipush 50, 2) := by decide +kernel
theorem dX8_canBe_63 : decode cX8_canBe 63 = .ok (.invokestatic 51, 3) := by decide +kernel
theorem dX8_canBe_66 : decode cX8_canBe 66 = .ok (.ireturn, 1) := by decide +kernel
theorem dX8_canBe_67 : decode cX8_canBe 67 = .ok (.iload_n 1, 1) := by decide +kernel
theorem dX8_canBe_68 : decode cX8_canBe 68 = .ok (.bipush 100, 2) := by decide +kernel
theorem dX8_canBe_70 : decode cX8_canBe 70 = .ok (.sipush 500, 3) := by decide +kernel
theorem dX8_canBe_73 : decode cX8_canBe 73 = .ok (.invokestatic 51, 3) := by decide +kernel
theorem dX8_canBe_76 : decode cX8_canBe 76 = .ok (.ireturn, 1) := by decide +kernel
theorem dX8_canBe_77 : decode cX8_canBe 77 = .ok (.iload_n 0, 1) := by decide +kernel
theorem dX8_canBe_78 : decode cX8_canBe 78 = .ok (.iconst 4, 1) := by decide +kernel
theorem dX8_canBe_79 : decode cX8_canBe 79 = .ok (.if_icmp .ne 18, 3) := by decide +kernel
theorem dX8_canBe_82 : decode cX8_canBe 82 = .ok (.iload_n 1, 1) := by decide +kernel
theorem dX8_canBe_83 : decode cX8_canBe 83 = .ok (.iconst 0, 1) := by decide +kernel
theorem dX8_canBe_84 : decode cX8_canBe 84 = .ok (.sipush 10000, 3) := by decide +kernel
theorem dX8_canBe_87 : decode cX8_canBe 87 = .ok (.invokestatic 51, 3) := by decide +kernel
theorem dX8_canBe_90 : decode cX8_canBe 90 = .ok (.ifCond .eq 7, 3) := by decide +kernel
theorem dX8_canBe_93 : decode cX8_canBe 93 = .ok (.iconst 1, 1) := by decide +kernel
theorem dX8_canBe_94 : decode cX8_canBe 94 = .ok (.goto 4, 3) := by decide +kernel
theorem dX8_canBe_97 : decode cX8_canBe 97 = .ok (.iconst 0, 1) := by decide +kernel
theorem dX8_canBe_98 : decode cX8_canBe 98 = .ok (.ireturn, 1) := by decide +kernel
theorem dX8_set_0 : decode cX8_set 0 = .ok (.iload_n 1, 1) := by decide +kernel
theorem dX8_set_1 : decode cX8_set 1 = .ok (.iload_n 2, 1) := by decide +kernel
theorem dX8_set_2 : decode cX8_set 2 = .ok (.invokestatic 73, 3) := by decide +kernel
theorem dX8_set_5 : decode cX8_set 5 = .ok (.ifCond .ne 5, 3) := by decide +kernel
theorem dX8_set_8 : decode cX8_set 8 = .ok (.iconst (-1), 1) := by decide +kernel
theorem dX8_set_9 : decode cX8_set 9 = .ok (.ireturn, 1) := by decide +kernel
theorem dX8_set_10 : decode cX8_set 10 = .ok (.aload_n 0, 1) := by decide +kernel
theorem dX8_set_11 : decode cX8_set 11 = .ok (.invokevirtual 55, 3) := by decide +kernel
theorem dX8_set_14 : decode cX8_set 14 = .ok (.aload_n 0, 1) := by decide +kernel
theorem dX8_set_15 : decode cX8_set 15 = .ok (.getfield 7, 3) := by decide +kernel
theorem dX8_set_18 : decode cX8_set 18 = .ok (.bipush 13, 2) := by decide +kernel
theorem dX8_set_20 : decode cX8_set 20 = .ok (.iload_n 1, 1) := by decide +kernel
theorem dX8_set_21 : decode cX8_set 21 = .ok (.iadd, 1) := by decide +kernel
theorem dX8_set_22 : decode cX8_set 22 = .ok (.iaload, 1) := by decide +kernel
theorem dX8_set_23 : decode cX8_set 23 = .ok (.istore_n 3, 1) := by decide +kernel
theorem dX8_set_24 : decode cX8_set 24 = .ok (.aload_n 0, 1) := by decide +kernel
theorem dX8_set_25 : decode cX8_set 25 = .ok (.getfield 7, 3) := by decide +kernel
theorem dX8_set_28 : decode cX8_set 28 = .ok (.bipush 13, 2) := by decide +kernel
theorem dX8_set_30 : decode cX8_set 30 = .ok (.iload_n 1, 1) := by decide +kernel
theorem dX8_set_31 : decode cX8_set 31 = .ok (.iadd, 1) := by decide +kernel
theorem dX8_set_32 : decode cX8_set 32 = .ok (.iload_n 2, 1) := by decide +kernel
theorem dX8_set_33 : decode cX8_set 33 = .ok (.iastore, 1) := by decide +kernel
theorem dX8_set_34 : decode cX8_set 34 = .ok (.iload_n 3, 1) := by decide +kernel
theorem dX8_set_35 : decode cX8_set 35 = .ok (.ireturn, 1) := by decide +kernel
theorem dX8_feet_0 : decode cX8_feet 0 = .ok (.iconst 0, 1) := by decide +kernel
theorem dX8_feet_1 : decode cX8_feet 1 = .ok (.istore_n 1, 1) := by decide +kernel
theorem dX8_feet_2 : decode cX8_feet 2 = .ok (.iconst 0, 1) := by decide +kernel
theorem dX8_feet_3 : decode cX8_feet 3 = .ok (.istore_n 2, 1) := by decide +kernel
theorem dX8_feet_4 : decode cX8_feet 4 = .ok (.iload_n 2, 1) := by decide +kernel
theorem dX8_feet_5 : decode cX8_feet 5 = .ok (.aload_n 0, 1) := by decide +kernel
theorem dX8_feet_6 : decode cX8_feet 6 = .ok (.getfield 7, 3) := by decide +kernel
theorem dX8_feet_9 : decode cX8_feet 9 = .ok (.bipush 19, 2) := by decide +kernel
theorem dX8_feet_11 : decode cX8_feet 11 = .ok (.iaload, 1) := by decide +kernel
theorem dX8_feet_12 : decode cX8_feet 12 = .ok (.if_icmp .ge 18, 3) := by decide +kernel
theorem dX8_feet_15 : decode cX8_feet 15 = .ok (.iload_n 1, 1) := by decide +kernel
theorem dX8_feet_16 : decode cX8_feet 16 = .ok (.aload_n 0, 1) := by decide +kernel
theorem dX8_feet_17 : decode cX8_feet 17 = .ok (.iload_n 2, 1) := by decide +kernel
theorem dX8_feet_18 : decode cX8_feet 18 = .ok (.iconst 3, 1) := by decide +kernel
theorem dX8_feet_19 : decode cX8_feet 19 = .ok (.invokevirtual 62, 3) := by decide +kernel
theorem dX8_feet_22 : decode cX8_feet 22 = .ok (.iadd, 1) := by decide +kernel
theorem dX8_feet_23 : decode cX8_feet 23 = .ok (.istore_n 1, 1) := by decide +kernel
theorem dX8_feet_24 : decode cX8_feet 24 = .ok (.iinc 2 1, 3) := by decide +kernel
theorem dX8_feet_27 : decode cX8_feet 27 = .ok (.goto (-23), 3) := by decide +kernel
theorem dX8_feet_30 : decode cX8_feet 30 = .ok (.iload_n 1, 1) := by decide +kernel
theorem dX8_feet_31 : decode cX8_feet 31 = .ok (.ireturn, 1) := by decide +kernel
theorem dX8_loosePiles_0 : decode cX8_loosePiles 0 = .ok (.iconst 0, 1) := by decide +kernel
theorem dX8_loosePiles_1 : decode cX8_loosePiles 1 = .ok (.istore_n 1, 1) := by decide +kernel
theorem dX8_loosePiles_2 : decode cX8_loosePiles 2 = .ok (.iconst 0, 1) := by decide +kernel
theorem dX8_loosePiles_3 : decode cX8_loosePiles 3 = .ok (.istore_n 2, 1) := by decide +kernel
theorem dX8_loosePiles_4 : decode cX8_loosePiles 4 = .ok (.iload_n 2, 1) := by decide +kernel
theorem dX8_loosePiles_5 : decode cX8_loosePiles 5 = .ok (.aload_n 0, 1) := by decide +kernel
theorem dX8_loosePiles_6 : decode cX8_loosePiles 6 = .ok (.getfield 7, 3) := by decide +kernel
theorem dX8_loosePiles_9 : decode cX8_loosePiles 9 = .ok (.bipush 19, 2) := by decide +kernel
theorem dX8_loosePiles_11 : decode cX8_loosePiles 11 = .ok (.iaload, 1) := by decide +kernel
theorem dX8_loosePiles_12 : decode cX8_loosePiles 12 = .ok (.if_icmp .ge 19, 3) := by decide +kernel
theorem dX8_loosePiles_15 : decode cX8_loosePiles 15 = .ok (.iload_n 1, 1) := by decide +kernel
theorem dX8_loosePiles_16 : decode cX8_loosePiles 16 = .ok (.aload_n 0, 1) := by decide +kernel
theorem dX8_loosePiles_17 : decode cX8_loosePiles 17 = .ok (.iload_n 2, 1) := by decide +kernel
theorem dX8_loosePiles_18 : decode cX8_loosePiles 18 = .ok (.bipush 6, 2) := by decide +kernel
theorem dX8_loosePiles_20 : decode cX8_loosePiles 20 = .ok (.invokevirtual 62, 3) := by decide +kernel
theorem dX8_loosePiles_23 : decode cX8_loosePiles 23 = .ok (.iadd, 1) := by decide +kernel
theorem dX8_loosePiles_24 : decode cX8_loosePiles 24 = .ok (.istore_n 1, 1) := by decide +kernel
theorem dX8_loosePiles_25 : decode cX8_loosePiles 25 = .ok (.iinc 2 1, 3) := by decide +kernel
theorem dX8_loosePiles_28 : decode cX8_loosePiles 28 = .ok (.goto (-24), 3) := by decide +kernel
theorem dX8_loosePiles_31 : decode cX8_loosePiles 31 = .ok (.iload_n 1, 1) := by decide +kernel
theorem dX8_loosePiles_32 : decode cX8_loosePiles 32 = .ok (.ireturn, 1) := by decide +kernel
theorem dX8_count_0 : decode cX8_count 0 = .ok (.iload_n 1, 1) := by decide +kernel
theorem dX8_count_1 : decode cX8_count 1 = .ok (.tableswitch 189 0 24 #[115, 123, 132, 138, 147, 153, 159, 189, 189, 189, 189, 189, 189, 189, 189, 189, 189, 189, 189, 189, 165, 165, 175, 175, 175], 115) := by decide +kernel
theorem dX8_count_116 : decode cX8_count 116 = .ok (.aload_n 0, 1) := by decide +kernel
theorem dX8_count_117 : decode cX8_count 117 = .ok (.getfield 7, 3) := by decide +kernel
theorem dX8_count_120 : decode cX8_count 120 = .ok (.iconst 0, 1) := by decide +kernel
theorem dX8_count_121 : decode cX8_count 121 = .ok (.iaload, 1) := by decide +kernel
theorem dX8_count_122 : decode cX8_count 122 = .ok (.i2l, 1) := by decide +kernel
theorem dX8_count_123 : decode cX8_count 123 = .ok (.lreturn, 1) := by decide +kernel
theorem dX8_count_124 : decode cX8_count 124 = .ok (.aload_n 0, 1) := by decide +kernel
theorem dX8_count_125 : decode cX8_count 125 = .ok (.getfield 7, 3) := by decide +kernel
theorem dX8_count_128 : decode cX8_count 128 = .ok (.bipush 19, 2) := by decide +kernel
theorem dX8_count_130 : decode cX8_count 130 = .ok (.iaload, 1) := by decide +kernel
theorem dX8_count_131 : decode cX8_count 131 = .ok (.i2l, 1) := by decide +kernel
theorem dX8_count_132 : decode cX8_count 132 = .ok (.lreturn, 1) := by decide +kernel
theorem dX8_count_133 : decode cX8_count 133 = .ok (.aload_n 0, 1) := by decide +kernel
theorem dX8_count_134 : decode cX8_count 134 = .ok (.invokevirtual 77, 3) := by decide +kernel
theorem dX8_count_137 : decode cX8_count 137 = .ok (.i2l, 1) := by decide +kernel
theorem dX8_count_138 : decode cX8_count 138 = .ok (.lreturn, 1) := by decide +kernel
theorem dX8_count_139 : decode cX8_count 139 = .ok (.aload_n 0, 1) := by decide +kernel
theorem dX8_count_140 : decode cX8_count 140 = .ok (.getfield 7, 3) := by decide +kernel
theorem dX8_count_143 : decode cX8_count 143 = .ok (.bipush 20, 2) := by decide +kernel
theorem dX8_count_145 : decode cX8_count 145 = .ok (.iaload, 1) := by decide +kernel
theorem dX8_count_146 : decode cX8_count 146 = .ok (.i2l, 1) := by decide +kernel
theorem dX8_count_147 : decode cX8_count 147 = .ok (.lreturn, 1) := by decide +kernel
theorem dX8_count_148 : decode cX8_count 148 = .ok (.aload_n 0, 1) := by decide +kernel
theorem dX8_count_149 : decode cX8_count 149 = .ok (.getfield 47, 3) := by decide +kernel
theorem dX8_count_152 : decode cX8_count 152 = .ok (.i2l, 1) := by decide +kernel
theorem dX8_count_153 : decode cX8_count 153 = .ok (.lreturn, 1) := by decide +kernel
theorem dX8_count_154 : decode cX8_count 154 = .ok (.aload_n 0, 1) := by decide +kernel
theorem dX8_count_155 : decode cX8_count 155 = .ok (.getfield 81, 3) := by decide +kernel
theorem dX8_count_158 : decode cX8_count 158 = .ok (.i2l, 1) := by decide +kernel
theorem dX8_count_159 : decode cX8_count 159 = .ok (.lreturn, 1) := by decide +kernel
theorem dX8_count_160 : decode cX8_count 160 = .ok (.aload_n 0, 1) := by decide +kernel
theorem dX8_count_161 : decode cX8_count 161 = .ok (.invokevirtual 84, 3) := by decide +kernel
theorem dX8_count_164 : decode cX8_count 164 = .ok (.i2l, 1) := by decide +kernel
theorem dX8_count_165 : decode cX8_count 165 = .ok (.lreturn, 1) := by decide +kernel
theorem dX8_count_166 : decode cX8_count 166 = .ok (.aload_n 0, 1) := by decide +kernel
theorem dX8_count_167 : decode cX8_count 167 = .ok (.getfield 16, 3) := by decide +kernel
theorem dX8_count_170 : decode cX8_count 170 = .ok (.iload_n 1, 1) := by decide +kernel
theorem dX8_count_171 : decode cX8_count 171 = .ok (.bipush 20, 2) := by decide +kernel
theorem dX8_count_173 : decode cX8_count 173 = .ok (.isub, 1) := by decide +kernel
theorem dX8_count_174 : decode cX8_count 174 = .ok (.laload, 1) := by decide +kernel
theorem dX8_count_175 : decode cX8_count 175 = .ok (.lreturn, 1) := by decide +kernel
theorem dX8_count_176 : decode cX8_count 176 = .ok (.aload_n 0, 1) := by decide +kernel
theorem dX8_count_177 : decode cX8_count 177 = .ok (.getfield 7, 3) := by decide +kernel
theorem dX8_count_180 : decode cX8_count 180 = .ok (.bipush 21, 2) := by decide +kernel
theorem dX8_count_182 : decode cX8_count 182 = .ok (.iload_n 1, 1) := by decide +kernel
theorem dX8_count_183 : decode cX8_count 183 = .ok (.iadd, 1) := by decide +kernel
theorem dX8_count_184 : decode cX8_count 184 = .ok (.bipush 22, 2) := by decide +kernel
theorem dX8_count_186 : decode cX8_count 186 = .ok (.isub, 1) := by decide +kernel
theorem dX8_count_187 : decode cX8_count 187 = .ok (.iaload, 1) := by decide +kernel
theorem dX8_count_188 : decode cX8_count 188 = .ok (.i2l, 1) := by decide +kernel
theorem dX8_count_189 : decode cX8_count 189 = .ok (.lreturn, 1) := by decide +kernel
theorem dX8_count_190 : decode cX8_count 190 = .ok (.iload_n 1, 1) := by decide +kernel
theorem dX8_count_191 : decode cX8_count 191 = .ok (.bipush 10, 2) := by decide +kernel
theorem dX8_count_193 : decode cX8_count 193 = .ok (.bipush 15, 2) := by decide +kernel
theorem dX8_count_195 : decode cX8_count 195 = .ok (.invokestatic 51, 3) := by decide +kernel
theorem dX8_count_198 : decode cX8_count 198 = .ok (.ifCond .eq 19, 3) := by decide +kernel
theorem dX8_count_201 : decode cX8_count 201 = .ok (.aload_n 0, 1) := by decide +kernel
theorem dX8_count_202 : decode cX8_count 202 = .ok (.getfield 7, 3) := by decide +kernel
theorem dX8_count_205 : decode cX8_count 205 = .ok (.bipush 13, 2) := by decide +kernel
theorem dX8_count_207 : decode cX8_count 207 = .ok (.iload_n 1, 1) := by decide +kernel
theorem dX8_count_208 : decode cX8_count 208 = .ok (.iadd, 1) := by decide +kernel
theorem dX8_count_209 : decode cX8_count 209 = .ok (.bipush 10, 2) := by decide +kernel
theorem dX8_count_211 : decode cX8_count 211 = .ok (.isub, 1) := by decide +kernel
theorem dX8_count_212 : decode cX8_count 212 = .ok (.iaload, 1) := by decide +kernel
theorem dX8_count_213 : decode cX8_count 213 = .ok (.i2l, 1) := by decide +kernel
theorem dX8_count_214 : decode cX8_count 214 = .ok (.goto 6, 3) := by decide +kernel
theorem dX8_count_217 : decode cX8_count 217 = .ok (.ldc2_w 87, 3) := by decide +kernel
theorem dX8_count_220 : decode cX8_count 220 = .ok (.lreturn, 1) := by decide +kernel
theorem dX8_of_0 : decode cX8_of 0 = .ok (.aload_n 0, 1) := by decide +kernel
theorem dX8_of_1 : decode cX8_of 1 = .ok (.getfield 7, 3) := by decide +kernel
theorem dX8_of_4 : decode cX8_of 4 = .ok (.bipush 24, 2) := by decide +kernel
theorem dX8_of_6 : decode cX8_of 6 = .ok (.bipush 91, 2) := by decide +kernel
theorem dX8_of_8 : decode cX8_of 8 = .ok (.iload_n 1, 1) := by decide +kernel
theorem dX8_of_9 : decode cX8_of 9 = .ok (.imul, 1) := by decide +kernel
theorem dX8_of_10 : decode cX8_of 10 = .ok (.iadd, 1) := by decide +kernel
theorem dX8_of_11 : decode cX8_of 11 = .ok (.iload_n 2, 1) := by decide +kernel
theorem dX8_of_12 : decode cX8_of 12 = .ok (.iadd, 1) := by decide +kernel
theorem dX8_of_13 : decode cX8_of 13 = .ok (.iaload, 1) := by decide +kernel
theorem dX8_of_14 : decode cX8_of 14 = .ok (.ireturn, 1) := by decide +kernel
theorem dX8_put_0 : decode cX8_put 0 = .ok (.aload_n 0, 1) := by decide +kernel
theorem dX8_put_1 : decode cX8_put 1 = .ok (.getfield 7, 3) := by decide +kernel
theorem dX8_put_4 : decode cX8_put 4 = .ok (.bipush 24, 2) := by decide +kernel
theorem dX8_put_6 : decode cX8_put 6 = .ok (.bipush 91, 2) := by decide +kernel
theorem dX8_put_8 : decode cX8_put 8 = .ok (.iload_n 1, 1) := by decide +kernel
theorem dX8_put_9 : decode cX8_put 9 = .ok (.imul, 1) := by decide +kernel
theorem dX8_put_10 : decode cX8_put 10 = .ok (.iadd, 1) := by decide +kernel
theorem dX8_put_11 : decode cX8_put 11 = .ok (.iload_n 2, 1) := by decide +kernel
theorem dX8_put_12 : decode cX8_put 12 = .ok (.iadd, 1) := by decide +kernel
theorem dX8_put_13 : decode cX8_put 13 = .ok (.iload_n 3, 1) := by decide +kernel
theorem dX8_put_14 : decode cX8_put 14 = .ok (.iastore, 1) := by decide +kernel
theorem dX8_put_15 : decode cX8_put 15 = .ok (.return_, 1) := by decide +kernel
theorem dX8_isPile_0 : decode cX8_isPile 0 = .ok (.iload_n 1, 1) := by decide +kernel
theorem dX8_isPile_1 : decode cX8_isPile 1 = .ok (.iconst 0, 1) := by decide +kernel
theorem dX8_isPile_2 : decode cX8_isPile 2 = .ok (.aload_n 0, 1) := by decide +kernel
theorem dX8_isPile_3 : decode cX8_isPile 3 = .ok (.getfield 7, 3) := by decide +kernel
theorem dX8_isPile_6 : decode cX8_isPile 6 = .ok (.bipush 19, 2) := by decide +kernel
theorem dX8_isPile_8 : decode cX8_isPile 8 = .ok (.iaload, 1) := by decide +kernel
theorem dX8_isPile_9 : decode cX8_isPile 9 = .ok (.iconst 1, 1) := by decide +kernel
theorem dX8_isPile_10 : decode cX8_isPile 10 = .ok (.isub, 1) := by decide +kernel
theorem dX8_isPile_11 : decode cX8_isPile 11 = .ok (.invokestatic 51, 3) := by decide +kernel
theorem dX8_isPile_14 : decode cX8_isPile 14 = .ok (.ireturn, 1) := by decide +kernel
theorem dX8_isFall_0 : decode cX8_isFall 0 = .ok (.iload_n 0, 1) := by decide +kernel
theorem dX8_isFall_1 : decode cX8_isFall 1 = .ok (.bipush 100, 2) := by decide +kernel
theorem dX8_isFall_3 : decode cX8_isFall 3 = .ok (.sipush 3000, 3) := by decide +kernel
theorem dX8_isFall_6 : decode cX8_isFall 6 = .ok (.invokestatic 51, 3) := by decide +kernel
theorem dX8_isFall_9 : decode cX8_isFall 9 = .ok (.ireturn, 1) := by decide +kernel
theorem dX8_stands_0 : decode cX8_stands 0 = .ok (.iconst 0, 1) := by decide +kernel
theorem dX8_stands_1 : decode cX8_stands 1 = .ok (.istore_n 3, 1) := by decide +kernel
theorem dX8_stands_2 : decode cX8_stands 2 = .ok (.iconst 0, 1) := by decide +kernel
theorem dX8_stands_3 : decode cX8_stands 3 = .ok (.istore 4, 2) := by decide +kernel
theorem dX8_stands_5 : decode cX8_stands 5 = .ok (.iload 4, 2) := by decide +kernel
theorem dX8_stands_7 : decode cX8_stands 7 = .ok (.aload_n 0, 1) := by decide +kernel
theorem dX8_stands_8 : decode cX8_stands 8 = .ok (.getfield 7, 3) := by decide +kernel
theorem dX8_stands_11 : decode cX8_stands 11 = .ok (.bipush 19, 2) := by decide +kernel
theorem dX8_stands_13 : decode cX8_stands 13 = .ok (.iaload, 1) := by decide +kernel
theorem dX8_stands_14 : decode cX8_stands 14 = .ok (.if_icmp .ge 41, 3) := by decide +kernel
theorem dX8_stands_17 : decode cX8_stands 17 = .ok (.iload_n 3, 1) := by decide +kernel
theorem dX8_stands_18 : decode cX8_stands 18 = .ok (.ifCond .ne 25, 3) := by decide +kernel
theorem dX8_stands_21 : decode cX8_stands 21 = .ok (.aload_n 0, 1) := by decide +kernel
theorem dX8_stands_22 : decode cX8_stands 22 = .ok (.iload 4, 2) := by decide +kernel
theorem dX8_stands_24 : decode cX8_stands 24 = .ok (.iconst 0, 1) := by decide +kernel
theorem dX8_stands_25 : decode cX8_stands 25 = .ok (.invokevirtual 62, 3) := by decide +kernel
theorem dX8_stands_28 : decode cX8_stands 28 = .ok (.iload_n 1, 1) := by decide +kernel
theorem dX8_stands_29 : decode cX8_stands 29 = .ok (.if_icmp .ne 18, 3) := by decide +kernel
theorem dX8_stands_32 : decode cX8_stands 32 = .ok (.aload_n 0, 1) := by decide +kernel
theorem dX8_stands_33 : decode cX8_stands 33 = .ok (.iload 4, 2) := by decide +kernel
theorem dX8_stands_35 : decode cX8_stands 35 = .ok (.iconst 1, 1) := by decide +kernel
theorem dX8_stands_36 : decode cX8_stands 36 = .ok (.invokevirtual 62, 3) := by decide +kernel
theorem dX8_stands_39 : decode cX8_stands 39 = .ok (.iload_n 2, 1) := by decide +kernel
theorem dX8_stands_40 : decode cX8_stands 40 = .ok (.if_icmp .ne 7, 3) := by decide +kernel
theorem dX8_stands_43 : decode cX8_stands 43 = .ok (.iconst 1, 1) := by decide +kernel
theorem dX8_stands_44 : decode cX8_stands 44 = .ok (.goto 4, 3) := by decide +kernel
theorem dX8_stands_47 : decode cX8_stands 47 = .ok (.iconst 0, 1) := by decide +kernel
theorem dX8_stands_48 : decode cX8_stands 48 = .ok (.istore_n 3, 1) := by decide +kernel
theorem dX8_stands_49 : decode cX8_stands 49 = .ok (.iinc 4 1, 3) := by decide +kernel
theorem dX8_stands_52 : decode cX8_stands 52 = .ok (.goto (-47), 3) := by decide +kernel
theorem dX8_stands_55 : decode cX8_stands 55 = .ok (.iload_n 3, 1) := by decide +kernel
theorem dX8_stands_56 : decode cX8_stands 56 = .ok (.ireturn, 1) := by decide +kernel
theorem dX8_pile_0 : decode cX8_pile 0 = .ok (.iload_n 1, 1) := by decide +kernel
theorem dX8_pile_1 : decode cX8_pile 1 = .ok (.iconst 0, 1) := by decide +kernel
theorem dX8_pile_2 : decode cX8_pile 2 = .ok (.sipush 20000, 3) := by decide +kernel
theorem dX8_pile_5 : decode cX8_pile 5 = .ok (.invokestatic 51, 3) := by decide +kernel
theorem dX8_pile_8 : decode cX8_pile 8 = .ok (.ifCond .eq 26, 3) := by decide +kernel
theorem dX8_pile_11 : decode cX8_pile 11 = .ok (.iload_n 2, 1) := by decide +kernel
theorem dX8_pile_12 : decode cX8_pile 12 = .ok (.iconst 0, 1) := by decide +kernel
theorem dX8_pile_13 : decode cX8_pile 13 = .ok (.sipush 20000, 3) := by decide +kernel
theorem dX8_pile_16 : decode cX8_pile 16 = .ok (.invokestatic 51, 3) := by decide +kernel
theorem dX8_pile_19 : decode cX8_pile 19 = .ok (.ifCond .eq 15, 3) := by decide +kernel
theorem dX8_pile_22 : decode cX8_pile 22 = .ok (.iload_n 3, 1) := by decide +kernel
theorem dX8_pile_23 : decode cX8_pile 23 = .ok (.sipush 1000, 3) := by decide +kernel
theorem dX8_pile_26 : decode cX8_pile 26 = .ok (.ldc 89, 2) := by decide +kernel
theorem dX8_pile_28 : decode cX8_pile 28 = .ok (.invokestatic 51, 3) := by decide +kernel
theorem dX8_pile_31 : decode cX8_pile 31 = .ok (.ifCond .ne 5, 3) := by decide +kernel
theorem dX8_pile_34 : decode cX8_pile 34 = .ok (.iconst (-1), 1) := by decide +kernel
theorem dX8_pile_35 : decode cX8_pile 35 = .ok (.ireturn, 1) := by decide +kernel
theorem dX8_pile_36 : decode cX8_pile 36 = .ok (.aload_n 0, 1) := by decide +kernel
theorem dX8_pile_37 : decode cX8_pile 37 = .ok (.iload_n 1, 1) := by decide +kernel
theorem dX8_pile_38 : decode cX8_pile 38 = .ok (.iload_n 2, 1) := by decide +kernel
theorem dX8_pile_39 : decode cX8_pile 39 = .ok (.invokevirtual 90, 3) := by decide +kernel
theorem dX8_pile_42 : decode cX8_pile 42 = .ok (.ifCond .eq 6, 3) := by decide +kernel
theorem dX8_pile_45 : decode cX8_pile 45 = .ok (.bipush (-2), 2) := by decide +kernel
theorem dX8_pile_47 : decode cX8_pile 47 = .ok (.ireturn, 1) := by decide +kernel
theorem dX8_pile_48 : decode cX8_pile 48 = .ok (.aload_n 0, 1) := by decide +kernel
theorem dX8_pile_49 : decode cX8_pile 49 = .ok (.getfield 7, 3) := by decide +kernel
theorem dX8_pile_52 : decode cX8_pile 52 = .ok (.bipush 19, 2) := by decide +kernel
theorem dX8_pile_54 : decode cX8_pile 54 = .ok (.iaload, 1) := by decide +kernel
theorem dX8_pile_55 : decode cX8_pile 55 = .ok (.bipush 10, 2) := by decide +kernel
theorem dX8_pile_57 : decode cX8_pile 57 = .ok (.if_icmp .ne 6, 3) := by decide +kernel
theorem dX8_pile_60 : decode cX8_pile 60 = .ok (.bipush (-3), 2) := by decide +kernel
theorem dX8_pile_62 : decode cX8_pile 62 = .ok (.ireturn, 1) := by decide +kernel
theorem dX8_pile_63 : decode cX8_pile 63 = .ok (.aload_n 0, 1) := by decide +kernel
theorem dX8_pile_64 : decode cX8_pile 64 = .ok (.invokevirtual 55, 3) := by decide +kernel
theorem dX8_pile_67 : decode cX8_pile 67 = .ok (.aload_n 0, 1) := by decide +kernel
theorem dX8_pile_68 : decode cX8_pile 68 = .ok (.getfield 7, 3) := by decide +kernel
theorem dX8_pile_71 : decode cX8_pile 71 = .ok (.bipush 19, 2) := by decide +kernel
theorem dX8_pile_73 : decode cX8_pile 73 = .ok (.iaload, 1) := by decide +kernel
theorem dX8_pile_74 : decode cX8_pile 74 = .ok (.istore 4, 2) := by decide +kernel
theorem dX8_pile_76 : decode cX8_pile 76 = .ok (.iconst 0, 1) := by decide +kernel
theorem dX8_pile_77 : decode cX8_pile 77 = .ok (.istore 5, 2) := by decide +kernel
theorem dX8_pile_79 : decode cX8_pile 79 = .ok (.iload 5, 2) := by decide +kernel
theorem dX8_pile_81 : decode cX8_pile 81 = .ok (.bipush 91, 2) := by decide +kernel
theorem dX8_pile_83 : decode cX8_pile 83 = .ok (.if_icmp .ge 18, 3) := by decide +kernel
theorem dX8_pile_86 : decode cX8_pile 86 = .ok (.aload_n 0, 1) := by decide +kernel
theorem dX8_pile_87 : decode cX8_pile 87 = .ok (.iload 4, 2) := by decide +kernel
theorem dX8_pile_89 : decode cX8_pile 89 = .ok (.iload 5, 2) := by decide +kernel
theorem dX8_pile_91 : decode cX8_pile 91 = .ok (.iconst 0, 1) := by decide +kernel
theorem dX8_pile_92 : decode cX8_pile 92 = .ok (.invokevirtual 93, 3) := by decide +kernel
theorem dX8_pile_95 : decode cX8_pile 95 = .ok (.iinc 5 1, 3) := by decide +kernel
theorem dX8_pile_98 : decode cX8_pile 98 = .ok (.goto (-19), 3) := by decide +kernel
theorem dX8_pile_101 : decode cX8_pile 101 = .ok (.aload_n 0, 1) := by decide +kernel
theorem dX8_pile_102 : decode cX8_pile 102 = .ok (.iload 4, 2) := by decide +kernel
theorem dX8_pile_104 : decode cX8_pile 104 = .ok (.iconst 0, 1) := by decide +kernel
theorem dX8_pile_105 : decode cX8_pile 105 = .ok (.iload_n 1, 1) := by decide +kernel
theorem dX8_pile_106 : decode cX8_pile 106 = .ok (.invokevirtual 93, 3) := by decide +kernel
theorem dX8_pile_109 : decode cX8_pile 109 = .ok (.aload_n 0, 1) := by decide +kernel
theorem dX8_pile_110 : decode cX8_pile 110 = .ok (.iload 4, 2) := by decide +kernel
theorem dX8_pile_112 : decode cX8_pile 112 = .ok (.iconst 1, 1) := by decide +kernel
theorem dX8_pile_113 : decode cX8_pile 113 = .ok (.iload_n 2, 1) := by decide +kernel
theorem dX8_pile_114 : decode cX8_pile 114 = .ok (.invokevirtual 93, 3) := by decide +kernel
theorem dX8_pile_117 : decode cX8_pile 117 = .ok (.aload_n 0, 1) := by decide +kernel
theorem dX8_pile_118 : decode cX8_pile 118 = .ok (.iload 4, 2) := by decide +kernel
theorem dX8_pile_120 : decode cX8_pile 120 = .ok (.iconst 2, 1) := by decide +kernel
theorem dX8_pile_121 : decode cX8_pile 121 = .ok (.iload_n 3, 1) := by decide +kernel
theorem dX8_pile_122 : decode cX8_pile 122 = .ok (.invokevirtual 93, 3) := by decide +kernel
theorem dX8_pile_125 : decode cX8_pile 125 = .ok (.aload_n 0, 1) := by decide +kernel
theorem dX8_pile_126 : decode cX8_pile 126 = .ok (.getfield 7, 3) := by decide +kernel
theorem dX8_pile_129 : decode cX8_pile 129 = .ok (.bipush 19, 2) := by decide +kernel
theorem dX8_pile_131 : decode cX8_pile 131 = .ok (.dup2, 1) := by decide +kernel
theorem dX8_pile_132 : decode cX8_pile 132 = .ok (.iaload, 1) := by decide +kernel
theorem dX8_pile_133 : decode cX8_pile 133 = .ok (.iconst 1, 1) := by decide +kernel
theorem dX8_pile_134 : decode cX8_pile 134 = .ok (.iadd, 1) := by decide +kernel
theorem dX8_pile_135 : decode cX8_pile 135 = .ok (.iastore, 1) := by decide +kernel
theorem dX8_pile_136 : decode cX8_pile 136 = .ok (.iload 4, 2) := by decide +kernel
theorem dX8_pile_138 : decode cX8_pile 138 = .ok (.ireturn, 1) := by decide +kernel
theorem dX8_apart_0 : decode cX8_apart 0 = .ok (.iload_n 0, 1) := by decide +kernel
theorem dX8_apart_1 : decode cX8_apart 1 = .ok (.iload_n 1, 1) := by decide +kernel
theorem dX8_apart_2 : decode cX8_apart 2 = .ok (.if_icmp .ge 9, 3) := by decide +kernel
theorem dX8_apart_5 : decode cX8_apart 5 = .ok (.iload_n 1, 1) := by decide +kernel
theorem dX8_apart_6 : decode cX8_apart 6 = .ok (.iload_n 0, 1) := by decide +kernel
theorem dX8_apart_7 : decode cX8_apart 7 = .ok (.isub, 1) := by decide +kernel
theorem dX8_apart_8 : decode cX8_apart 8 = .ok (.goto 6, 3) := by decide +kernel
theorem dX8_apart_11 : decode cX8_apart 11 = .ok (.iload_n 0, 1) := by decide +kernel
theorem dX8_apart_12 : decode cX8_apart 12 = .ok (.iload_n 1, 1) := by decide +kernel
theorem dX8_apart_13 : decode cX8_apart 13 = .ok (.isub, 1) := by decide +kernel
theorem dX8_apart_14 : decode cX8_apart 14 = .ok (.ireturn, 1) := by decide +kernel
theorem dX8_areNear_0 : decode cX8_areNear 0 = .ok (.aload_n 0, 1) := by decide +kernel
theorem dX8_areNear_1 : decode cX8_areNear 1 = .ok (.getfield 7, 3) := by decide +kernel
theorem dX8_areNear_4 : decode cX8_areNear 4 = .ok (.bipush 17, 2) := by decide +kernel
theorem dX8_areNear_6 : decode cX8_areNear 6 = .ok (.iaload, 1) := by decide +kernel
theorem dX8_areNear_7 : decode cX8_areNear 7 = .ok (.istore_n 3, 1) := by decide +kernel
theorem dX8_areNear_8 : decode cX8_areNear 8 = .ok (.iload_n 1, 1) := by decide +kernel
theorem dX8_areNear_9 : decode cX8_areNear 9 = .ok (.iload_n 2, 1) := by decide +kernel
theorem dX8_areNear_10 : decode cX8_areNear 10 = .ok (.if_icmp .eq 45, 3) := by decide +kernel
theorem dX8_areNear_13 : decode cX8_areNear 13 = .ok (.aload_n 0, 1) := by decide +kernel
theorem dX8_areNear_14 : decode cX8_areNear 14 = .ok (.iload_n 1, 1) := by decide +kernel
theorem dX8_areNear_15 : decode cX8_areNear 15 = .ok (.iconst 0, 1) := by decide +kernel
theorem dX8_areNear_16 : decode cX8_areNear 16 = .ok (.invokevirtual 62, 3) := by decide +kernel
theorem dX8_areNear_19 : decode cX8_areNear 19 = .ok (.aload_n 0, 1) := by decide +kernel
theorem dX8_areNear_20 : decode cX8_areNear 20 = .ok (.iload_n 2, 1) := by decide +kernel
theorem dX8_areNear_21 : decode cX8_areNear 21 = .ok (.iconst 0, 1) := by decide +kernel
theorem dX8_areNear_22 : decode cX8_areNear 22 = .ok (.invokevirtual 62, 3) := by decide +kernel
theorem dX8_areNear_25 : decode cX8_areNear 25 = .ok (.invokestatic 97, 3) := by decide +kernel
theorem dX8_areNear_28 : decode cX8_areNear 28 = .ok (.iload_n 3, 1) := by decide +kernel
theorem dX8_areNear_29 : decode cX8_areNear 29 = .ok (.if_icmp .gt 26, 3) := by decide +kernel
theorem dX8_areNear_32 : decode cX8_areNear 32 = .ok (.aload_n 0, 1) := by decide +kernel
theorem dX8_areNear_33 : decode cX8_areNear 33 = .ok (.iload_n 1, 1) := by decide +kernel
theorem dX8_areNear_34 : decode cX8_areNear 34 = .ok (.iconst 1, 1) := by decide +kernel
theorem dX8_areNear_35 : decode cX8_areNear 35 = .ok (.invokevirtual 62, 3) := by decide +kernel
theorem dX8_areNear_38 : decode cX8_areNear 38 = .ok (.aload_n 0, 1) := by decide +kernel
theorem dX8_areNear_39 : decode cX8_areNear 39 = .ok (.iload_n 2, 1) := by decide +kernel
theorem dX8_areNear_40 : decode cX8_areNear 40 = .ok (.iconst 1, 1) := by decide +kernel
theorem dX8_areNear_41 : decode cX8_areNear 41 = .ok (.invokevirtual 62, 3) := by decide +kernel
theorem dX8_areNear_44 : decode cX8_areNear 44 = .ok (.invokestatic 97, 3) := by decide +kernel
theorem dX8_areNear_47 : decode cX8_areNear 47 = .ok (.iload_n 3, 1) := by decide +kernel
theorem dX8_areNear_48 : decode cX8_areNear 48 = .ok (.if_icmp .gt 7, 3) := by decide +kernel
theorem dX8_areNear_51 : decode cX8_areNear 51 = .ok (.iconst 1, 1) := by decide +kernel
theorem dX8_areNear_52 : decode cX8_areNear 52 = .ok (.goto 4, 3) := by decide +kernel
theorem dX8_areNear_55 : decode cX8_areNear 55 = .ok (.iconst 0, 1) := by decide +kernel
theorem dX8_areNear_56 : decode cX8_areNear 56 = .ok (.ireturn, 1) := by decide +kernel
theorem dX8_near_0 : decode cX8_near 0 = .ok (.iconst 0, 1) := by decide +kernel
theorem dX8_near_1 : decode cX8_near 1 = .ok (.istore_n 2, 1) := by decide +kernel
theorem dX8_near_2 : decode cX8_near 2 = .ok (.iconst 0, 1) := by decide +kernel
theorem dX8_near_3 : decode cX8_near 3 = .ok (.istore_n 3, 1) := by decide +kernel
theorem dX8_near_4 : decode cX8_near 4 = .ok (.iload_n 3, 1) := by decide +kernel
theorem dX8_near_5 : decode cX8_near 5 = .ok (.aload_n 0, 1) := by decide +kernel
theorem dX8_near_6 : decode cX8_near 6 = .ok (.getfield 7, 3) := by decide +kernel
theorem dX8_near_9 : decode cX8_near 9 = .ok (.bipush 19, 2) := by decide +kernel
theorem dX8_near_11 : decode cX8_near 11 = .ok (.iaload, 1) := by decide +kernel
theorem dX8_near_12 : decode cX8_near 12 = .ok (.if_icmp .ge 26, 3) := by decide +kernel
theorem dX8_near_15 : decode cX8_near 15 = .ok (.iload_n 2, 1) := by decide +kernel
theorem dX8_near_16 : decode cX8_near 16 = .ok (.aload_n 0, 1) := by decide +kernel
theorem dX8_near_17 : decode cX8_near 17 = .ok (.iload_n 1, 1) := by decide +kernel
theorem dX8_near_18 : decode cX8_near 18 = .ok (.iload_n 3, 1) := by decide +kernel
theorem dX8_near_19 : decode cX8_near 19 = .ok (.invokevirtual 100, 3) := by decide +kernel
theorem dX8_near_22 : decode cX8_near 22 = .ok (.ifCond .eq 7, 3) := by decide +kernel
theorem dX8_near_25 : decode cX8_near 25 = .ok (.iconst 1, 1) := by decide +kernel
theorem dX8_near_26 : decode cX8_near 26 = .ok (.goto 4, 3) := by decide +kernel
theorem dX8_near_29 : decode cX8_near 29 = .ok (.iconst 0, 1) := by decide +kernel
theorem dX8_near_30 : decode cX8_near 30 = .ok (.iadd, 1) := by decide +kernel
theorem dX8_near_31 : decode cX8_near 31 = .ok (.istore_n 2, 1) := by decide +kernel
theorem dX8_near_32 : decode cX8_near 32 = .ok (.iinc 3 1, 3) := by decide +kernel
theorem dX8_near_35 : decode cX8_near 35 = .ok (.goto (-31), 3) := by decide +kernel
theorem dX8_near_38 : decode cX8_near 38 = .ok (.iload_n 2, 1) := by decide +kernel
theorem dX8_near_39 : decode cX8_near 39 = .ok (.ireturn, 1) := by decide +kernel
theorem dX8_allowed_0 : decode cX8_allowed 0 = .ok (.aload_n 0, 1) := by decide +kernel
theorem dX8_allowed_1 : decode cX8_allowed 1 = .ok (.iload_n 1, 1) := by decide +kernel
theorem dX8_allowed_2 : decode cX8_allowed 2 = .ok (.iconst 5, 1) := by decide +kernel
theorem dX8_allowed_3 : decode cX8_allowed 3 = .ok (.invokevirtual 62, 3) := by decide +kernel
theorem dX8_allowed_6 : decode cX8_allowed 6 = .ok (.bipush 100, 2) := by decide +kernel
theorem dX8_allowed_8 : decode cX8_allowed 8 = .ok (.imul, 1) := by decide +kernel
theorem dX8_allowed_9 : decode cX8_allowed 9 = .ok (.aload_n 0, 1) := by decide +kernel
theorem dX8_allowed_10 : decode cX8_allowed 10 = .ok (.getfield 7, 3) := by decide +kernel
theorem dX8_allowed_13 : decode cX8_allowed 13 = .ok (.bipush 16, 2) := by decide +kernel
theorem dX8_allowed_15 : decode cX8_allowed 15 = .ok (.iaload, 1) := by decide +kernel
theorem dX8_allowed_16 : decode cX8_allowed 16 = .ok (.idiv, 1) := by decide +kernel
theorem dX8_allowed_17 : decode cX8_allowed 17 = .ok (.istore_n 2, 1) := by decide +kernel
theorem dX8_allowed_18 : decode cX8_allowed 18 = .ok (.aload_n 0, 1) := by decide +kernel
theorem dX8_allowed_19 : decode cX8_allowed 19 = .ok (.iload_n 1, 1) := by decide +kernel
theorem dX8_allowed_20 : decode cX8_allowed 20 = .ok (.bipush 6, 2) := by decide +kernel
theorem dX8_allowed_22 : decode cX8_allowed 22 = .ok (.invokevirtual 62, 3) := by decide +kernel
theorem dX8_allowed_25 : decode cX8_allowed 25 = .ok (.iconst 1, 1) := by decide +kernel
theorem dX8_allowed_26 : decode cX8_allowed 26 = .ok (.if_icmp .ne 9, 3) := by decide +kernel
theorem dX8_allowed_29 : decode cX8_allowed 29 = .ok (.iload_n 2, 1) := by decide +kernel
theorem dX8_allowed_30 : decode cX8_allowed 30 = .ok (.iconst 2, 1) := by decide +kernel
theorem dX8_allowed_31 : decode cX8_allowed 31 = .ok (.idiv, 1) := by decide +kernel
theorem dX8_allowed_32 : decode cX8_allowed 32 = .ok (.goto 4, 3) := by decide +kernel
theorem dX8_allowed_35 : decode cX8_allowed 35 = .ok (.iload_n 2, 1) := by decide +kernel
theorem dX8_allowed_36 : decode cX8_allowed 36 = .ok (.ireturn, 1) := by decide +kernel
theorem dX8_pileOf_0 : decode cX8_pileOf 0 = .ok (.aload_n 0, 1) := by decide +kernel
theorem dX8_pileOf_1 : decode cX8_pileOf 1 = .ok (.iload_n 1, 1) := by decide +kernel
theorem dX8_pileOf_2 : decode cX8_pileOf 2 = .ok (.invokevirtual 103, 3) := by decide +kernel
theorem dX8_pileOf_5 : decode cX8_pileOf 5 = .ok (.ifCond .eq 13, 3) := by decide +kernel
theorem dX8_pileOf_8 : decode cX8_pileOf 8 = .ok (.iload_n 2, 1) := by decide +kernel
theorem dX8_pileOf_9 : decode cX8_pileOf 9 = .ok (.iconst 0, 1) := by decide +kernel
theorem dX8_pileOf_10 : decode cX8_pileOf 10 = .ok (.bipush 12, 2) := by decide +kernel
theorem dX8_pileOf_12 : decode cX8_pileOf 12 = .ok (.invokestatic 51, 3) := by decide +kernel
theorem dX8_pileOf_15 : decode cX8_pileOf 15 = .ok (.ifCond .ne 5, 3) := by decide +kernel
theorem dX8_pileOf_18 : decode cX8_pileOf 18 = .ok (.iconst (-1), 1) := by decide +kernel
theorem dX8_pileOf_19 : decode cX8_pileOf 19 = .ok (.ireturn, 1) := by decide +kernel
theorem dX8_pileOf_20 : decode cX8_pileOf 20 = .ok (.iload_n 2, 1) := by decide +kernel
theorem dX8_pileOf_21 : decode cX8_pileOf 21 = .ok (.tableswitch 123 5 12 #[47, 68, 88, 96, 96, 96, 109, 115], 47) := by decide +kernel
theorem dX8_pileOf_68 : decode cX8_pileOf 68 = .ok (.aload_n 0, 1) := by decide +kernel
theorem dX8_pileOf_69 : decode cX8_pileOf 69 = .ok (.iload_n 1, 1) := by decide +kernel
theorem dX8_pileOf_70 : decode cX8_pileOf 70 = .ok (.iconst 4, 1) := by decide +kernel
theorem dX8_pileOf_71 : decode cX8_pileOf 71 = .ok (.invokevirtual 62, 3) := by decide +kernel
theorem dX8_pileOf_74 : decode cX8_pileOf 74 = .ok (.ifCond .ne 8, 3) := by decide +kernel
theorem dX8_pileOf_77 : decode cX8_pileOf 77 = .ok (.bipush (-4), 2) := by decide +kernel
theorem dX8_pileOf_79 : decode cX8_pileOf 79 = .ok (.goto 9, 3) := by decide +kernel
theorem dX8_pileOf_82 : decode cX8_pileOf 82 = .ok (.aload_n 0, 1) := by decide +kernel
theorem dX8_pileOf_83 : decode cX8_pileOf 83 = .ok (.iload_n 1, 1) := by decide +kernel
theorem dX8_pileOf_84 : decode cX8_pileOf 84 = .ok (.iconst 5, 1) := by decide +kernel
theorem dX8_pileOf_85 : decode cX8_pileOf 85 = .ok (.invokevirtual 62, 3) := by decide +kernel
theorem dX8_pileOf_88 : decode cX8_pileOf 88 = .ok (.ireturn, 1) := by decide +kernel
theorem dX8_pileOf_89 : decode cX8_pileOf 89 = .ok (.aload_n 0, 1) := by decide +kernel
theorem dX8_pileOf_90 : decode cX8_pileOf 90 = .ok (.iload_n 1, 1) := by decide +kernel
theorem dX8_pileOf_91 : decode cX8_pileOf 91 = .ok (.iconst 4, 1) := by decide +kernel
theorem dX8_pileOf_92 : decode cX8_pileOf 92 = .ok (.invokevirtual 62, 3) := by decide +kernel
theorem dX8_pileOf_95 : decode cX8_pileOf 95 = .ok (.ifCond .ne 8, 3) := by decide +kernel
theorem dX8_pileOf_98 : decode cX8_pileOf 98 = .ok (.bipush (-4), 2) := by decide +kernel
theorem dX8_pileOf_100 : decode cX8_pileOf 100 = .ok (.goto 8, 3) := by decide +kernel
theorem dX8_pileOf_103 : decode cX8_pileOf 103 = .ok (.aload_n 0, 1) := by decide +kernel
theorem dX8_pileOf_104 : decode cX8_pileOf 104 = .ok (.iload_n 1, 1) := by decide +kernel
theorem dX8_pileOf_105 : decode cX8_pileOf 105 = .ok (.invokevirtual 107, 3) := by decide +kernel
theorem dX8_pileOf_108 : decode cX8_pileOf 108 = .ok (.ireturn, 1) := by decide +kernel
theorem dX8_pileOf_109 : decode cX8_pileOf 109 = .ok (.aload_n 0, 1) := by decide +kernel
theorem dX8_pileOf_110 : decode cX8_pileOf 110 = .ok (.iload_n 1, 1) := by decide +kernel
theorem dX8_pileOf_111 : decode cX8_pileOf 111 = .ok (.bipush 6, 2) := by decide +kernel
theorem dX8_pileOf_113 : decode cX8_pileOf 113 = .ok (.invokevirtual 62, 3) := by decide +kernel
theorem dX8_pileOf_116 : decode cX8_pileOf 116 = .ok (.ireturn, 1) := by decide +kernel
theorem dX8_pileOf_117 : decode cX8_pileOf 117 = .ok (.aload_n 0, 1) := by decide +kernel
theorem dX8_pileOf_118 : decode cX8_pileOf 118 = .ok (.iload_n 1, 1) := by decide +kernel
theorem dX8_pileOf_119 : decode cX8_pileOf 119 = .ok (.bipush 7, 2) := by decide +kernel
theorem dX8_pileOf_121 : decode cX8_pileOf 121 = .ok (.iload_n 2, 1) := by decide +kernel
theorem dX8_pileOf_122 : decode cX8_pileOf 122 = .ok (.iadd, 1) := by decide +kernel
theorem dX8_pileOf_123 : decode cX8_pileOf 123 = .ok (.bipush 8, 2) := by decide +kernel
theorem dX8_pileOf_125 : decode cX8_pileOf 125 = .ok (.isub, 1) := by decide +kernel
theorem dX8_pileOf_126 : decode cX8_pileOf 126 = .ok (.invokevirtual 62, 3) := by decide +kernel
theorem dX8_pileOf_129 : decode cX8_pileOf 129 = .ok (.ireturn, 1) := by decide +kernel
theorem dX8_pileOf_130 : decode cX8_pileOf 130 = .ok (.aload_n 0, 1) := by decide +kernel
theorem dX8_pileOf_131 : decode cX8_pileOf 131 = .ok (.iload_n 1, 1) := by decide +kernel
theorem dX8_pileOf_132 : decode cX8_pileOf 132 = .ok (.invokevirtual 110, 3) := by decide +kernel
theorem dX8_pileOf_135 : decode cX8_pileOf 135 = .ok (.ireturn, 1) := by decide +kernel
theorem dX8_pileOf_136 : decode cX8_pileOf 136 = .ok (.aload_n 0, 1) := by decide +kernel
theorem dX8_pileOf_137 : decode cX8_pileOf 137 = .ok (.iload_n 1, 1) := by decide +kernel
theorem dX8_pileOf_138 : decode cX8_pileOf 138 = .ok (.bipush 10, 2) := by decide +kernel
theorem dX8_pileOf_140 : decode cX8_pileOf 140 = .ok (.invokevirtual 62, 3) := by decide +kernel
theorem dX8_pileOf_143 : decode cX8_pileOf 143 = .ok (.ireturn, 1) := by decide +kernel
theorem dX8_pileOf_144 : decode cX8_pileOf 144 = .ok (.aload_n 0, 1) := by decide +kernel
theorem dX8_pileOf_145 : decode cX8_pileOf 145 = .ok (.iload_n 1, 1) := by decide +kernel
theorem dX8_pileOf_146 : decode cX8_pileOf 146 = .ok (.iload_n 2, 1) := by decide +kernel
theorem dX8_pileOf_147 : decode cX8_pileOf 147 = .ok (.invokevirtual 62, 3) := by decide +kernel
theorem dX8_pileOf_150 : decode cX8_pileOf 150 = .ok (.ireturn, 1) := by decide +kernel
theorem dX8_blow_0 : decode cX8_blow 0 = .ok (.aload_n 0, 1) := by decide +kernel
theorem dX8_blow_1 : decode cX8_blow 1 = .ok (.iload_n 1, 1) := by decide +kernel
theorem dX8_blow_2 : decode cX8_blow 2 = .ok (.invokevirtual 103, 3) := by decide +kernel
theorem dX8_blow_5 : decode cX8_blow 5 = .ok (.ifCond .eq 16, 3) := by decide +kernel
theorem dX8_blow_8 : decode cX8_blow 8 = .ok (.iload_n 2, 1) := by decide +kernel
theorem dX8_blow_9 : decode cX8_blow 9 = .ok (.ifCond .lt 12, 3) := by decide +kernel
theorem dX8_blow_12 : decode cX8_blow 12 = .ok (.iload_n 3, 1) := by decide +kernel
theorem dX8_blow_13 : decode cX8_blow 13 = .ok (.iconst 0, 1) := by decide +kernel
theorem dX8_blow_14 : decode cX8_blow 14 = .ok (.iconst 1, 1) := by decide +kernel
theorem dX8_blow_15 : decode cX8_blow 15 = .ok (.invokestatic 51, 3) := by decide +kernel
theorem dX8_blow_18 : decode cX8_blow 18 = .ok (.ifCond .ne 5, 3) := by decide +kernel
theorem dX8_blow_21 : decode cX8_blow 21 = .ok (.iconst (-1), 1) := by decide +kernel
theorem dX8_blow_22 : decode cX8_blow 22 = .ok (.ireturn, 1) := by decide +kernel
theorem dX8_blow_23 : decode cX8_blow 23 = .ok (.aload_n 0, 1) := by decide +kernel
theorem dX8_blow_24 : decode cX8_blow 24 = .ok (.iload_n 1, 1) := by decide +kernel
theorem dX8_blow_25 : decode cX8_blow 25 = .ok (.bipush 10, 2) := by decide +kernel
theorem dX8_blow_27 : decode cX8_blow 27 = .ok (.invokevirtual 62, 3) := by decide +kernel
theorem dX8_blow_30 : decode cX8_blow 30 = .ok (.istore 4, 2) := by decide +kernel
theorem dX8_blow_32 : decode cX8_blow 32 = .ok (.iload_n 2, 1) := by decide +kernel
theorem dX8_blow_33 : decode cX8_blow 33 = .ok (.iload 4, 2) := by decide +kernel
theorem dX8_blow_35 : decode cX8_blow 35 = .ok (.if_icmp .lt 6, 3) := by decide +kernel
theorem dX8_blow_38 : decode cX8_blow 38 = .ok (.bipush (-4), 2) := by decide +kernel
theorem dX8_blow_40 : decode cX8_blow 40 = .ok (.ireturn, 1) := by decide +kernel
theorem dX8_blow_41 : decode cX8_blow 41 = .ok (.aload_n 0, 1) := by decide +kernel
theorem dX8_blow_42 : decode cX8_blow 42 = .ok (.iload_n 1, 1) := by decide +kernel
theorem dX8_blow_43 : decode cX8_blow 43 = .ok (.iload_n 3, 1) := by decide +kernel
theorem dX8_blow_44 : decode cX8_blow 44 = .ok (.ifCond .ne 8, 3) := by decide +kernel
theorem dX8_blow_47 : decode cX8_blow 47 = .ok (.bipush 11, 2) := by decide +kernel
theorem dX8_blow_49 : decode cX8_blow 49 = .ok (.goto 5, 3) := by decide +kernel
theorem dX8_blow_52 : decode cX8_blow 52 = .ok (.bipush 51, 2) := by decide +kernel
theorem dX8_blow_54 : decode cX8_blow 54 = .ok (.iload 4, 2) := by decide +kernel
theorem dX8_blow_56 : decode cX8_blow 56 = .ok (.iadd, 1) := by decide +kernel
theorem dX8_blow_57 : decode cX8_blow 57 = .ok (.iconst 1, 1) := by decide +kernel
theorem dX8_blow_58 : decode cX8_blow 58 = .ok (.isub, 1) := by decide +kernel
theorem dX8_blow_59 : decode cX8_blow 59 = .ok (.iload_n 2, 1) := by decide +kernel
theorem dX8_blow_60 : decode cX8_blow 60 = .ok (.isub, 1) := by decide +kernel
theorem dX8_blow_61 : decode cX8_blow 61 = .ok (.invokevirtual 62, 3) := by decide +kernel
theorem dX8_blow_64 : decode cX8_blow 64 = .ok (.ireturn, 1) := by decide +kernel
theorem dX8_energy_0 : decode cX8_energy 0 = .ok (.aload_n 0, 1) := by decide +kernel
theorem dX8_energy_1 : decode cX8_energy 1 = .ok (.getfield 7, 3) := by decide +kernel
theorem dX8_energy_4 : decode cX8_energy 4 = .ok (.bipush 13, 2) := by decide +kernel
theorem dX8_energy_6 : decode cX8_energy 6 = .ok (.iaload, 1) := by decide +kernel
theorem dX8_energy_7 : decode cX8_energy 7 = .ok (.i2l, 1) := by decide +kernel
theorem dX8_energy_8 : decode cX8_energy 8 = .ok (.iload_n 1, 1) := by decide +kernel
theorem dX8_energy_9 : decode cX8_energy 9 = .ok (.i2l, 1) := by decide +kernel
theorem dX8_energy_10 : decode cX8_energy 10 = .ok (.lmul, 1) := by decide +kernel
theorem dX8_energy_11 : decode cX8_energy 11 = .ok (.aload_n 0, 1) := by decide +kernel
theorem dX8_energy_12 : decode cX8_energy 12 = .ok (.getfield 7, 3) := by decide +kernel
theorem dX8_energy_15 : decode cX8_energy 15 = .ok (.bipush 14, 2) := by decide +kernel
theorem dX8_energy_17 : decode cX8_energy 17 = .ok (.iaload, 1) := by decide +kernel
theorem dX8_energy_18 : decode cX8_energy 18 = .ok (.i2l, 1) := by decide +kernel
theorem dX8_energy_19 : decode cX8_energy 19 = .ok (.lmul, 1) := by decide +kernel
theorem dX8_energy_20 : decode cX8_energy 20 = .ok (.ldc2_w 113, 3) := by decide +kernel
theorem dX8_energy_23 : decode cX8_energy 23 = .ok (.ldiv, 1) := by decide +kernel
theorem dX8_energy_24 : decode cX8_energy 24 = .ok (.l2i, 1) := by decide +kernel
theorem dX8_energy_25 : decode cX8_energy 25 = .ok (.ireturn, 1) := by decide +kernel
theorem dX8_setAt_0 : decode cX8_setAt 0 = .ok (.aload_n 0, 1) := by decide +kernel
theorem dX8_setAt_1 : decode cX8_setAt 1 = .ok (.iload_n 3, 1) := by decide +kernel
theorem dX8_setAt_2 : decode cX8_setAt 2 = .ok (.invokevirtual 115, 3) := by decide +kernel
theorem dX8_setAt_5 : decode cX8_setAt 5 = .ok (.aload_n 0, 1) := by decide +kernel
theorem dX8_setAt_6 : decode cX8_setAt 6 = .ok (.iload_n 2, 1) := by decide +kernel
theorem dX8_setAt_7 : decode cX8_setAt 7 = .ok (.invokevirtual 118, 3) := by decide +kernel
theorem dX8_setAt_10 : decode cX8_setAt 10 = .ok (.idiv, 1) := by decide +kernel
theorem dX8_setAt_11 : decode cX8_setAt 11 = .ok (.aload_n 0, 1) := by decide +kernel
theorem dX8_setAt_12 : decode cX8_setAt 12 = .ok (.getfield 7, 3) := by decide +kernel
theorem dX8_setAt_15 : decode cX8_setAt 15 = .ok (.bipush 15, 2) := by decide +kernel
theorem dX8_setAt_17 : decode cX8_setAt 17 = .ok (.iaload, 1) := by decide +kernel
theorem dX8_setAt_18 : decode cX8_setAt 18 = .ok (.isub, 1) := by decide +kernel
theorem dX8_setAt_19 : decode cX8_setAt 19 = .ok (.istore 4, 2) := by decide +kernel
theorem dX8_setAt_21 : decode cX8_setAt 21 = .ok (.iload 4, 2) := by decide +kernel
theorem dX8_setAt_23 : decode cX8_setAt 23 = .ok (.ifCond .ge 7, 3) := by decide +kernel
theorem dX8_setAt_26 : decode cX8_setAt 26 = .ok (.iconst 0, 1) := by decide +kernel
theorem dX8_setAt_27 : decode cX8_setAt 27 = .ok (.goto 11, 3) := by decide +kernel
theorem dX8_setAt_30 : decode cX8_setAt 30 = .ok (.iload 4, 2) := by decide +kernel
theorem dX8_setAt_32 : decode cX8_setAt 32 = .ok (.sipush 500, 3) := by decide +kernel
theorem dX8_setAt_35 : decode cX8_setAt 35 = .ok (.invokestatic 121, 3) := by decide +kernel
theorem dX8_setAt_38 : decode cX8_setAt 38 = .ok (.istore 4, 2) := by decide +kernel
theorem dX8_setAt_40 : decode cX8_setAt 40 = .ok (.iload 4, 2) := by decide +kernel
theorem dX8_setAt_42 : decode cX8_setAt 42 = .ok (.aload_n 0, 1) := by decide +kernel
theorem dX8_setAt_43 : decode cX8_setAt 43 = .ok (.iload_n 1, 1) := by decide +kernel
theorem dX8_setAt_44 : decode cX8_setAt 44 = .ok (.iconst 2, 1) := by decide +kernel
theorem dX8_setAt_45 : decode cX8_setAt 45 = .ok (.invokevirtual 62, 3) := by decide +kernel
theorem dX8_setAt_48 : decode cX8_setAt 48 = .ok (.iload_n 2, 1) := by decide +kernel
theorem dX8_setAt_49 : decode cX8_setAt 49 = .ok (.isub, 1) := by decide +kernel
theorem dX8_setAt_50 : decode cX8_setAt 50 = .ok (.invokestatic 121, 3) := by decide +kernel
theorem dX8_setAt_53 : decode cX8_setAt 53 = .ok (.ireturn, 1) := by decide +kernel
theorem dX8_isDown_0 : decode cX8_isDown 0 = .ok (.aload_n 0, 1) := by decide +kernel
theorem dX8_isDown_1 : decode cX8_isDown 1 = .ok (.iload_n 1, 1) := by decide +kernel
theorem dX8_isDown_2 : decode cX8_isDown 2 = .ok (.iconst 3, 1) := by decide +kernel
theorem dX8_isDown_3 : decode cX8_isDown 3 = .ok (.invokevirtual 62, 3) := by decide +kernel
theorem dX8_isDown_6 : decode cX8_isDown 6 = .ok (.aload_n 0, 1) := by decide +kernel
theorem dX8_isDown_7 : decode cX8_isDown 7 = .ok (.iload_n 1, 1) := by decide +kernel
theorem dX8_isDown_8 : decode cX8_isDown 8 = .ok (.iconst 2, 1) := by decide +kernel
theorem dX8_isDown_9 : decode cX8_isDown 9 = .ok (.invokevirtual 62, 3) := by decide +kernel
theorem dX8_isDown_12 : decode cX8_isDown 12 = .ok (.if_icmp .ne 7, 3) := by decide +kernel
theorem dX8_isDown_15 : decode cX8_isDown 15 = .ok (.iconst 1, 1) := by decide +kernel
theorem dX8_isDown_16 : decode cX8_isDown 16 = .ok (.goto 4, 3) := by decide +kernel
theorem dX8_isDown_19 : decode cX8_isDown 19 = .ok (.iconst 0, 1) := by decide +kernel
theorem dX8_isDown_20 : decode cX8_isDown 20 = .ok (.ireturn, 1) := by decide +kernel
theorem dX8_liftOf_0 : decode cX8_liftOf 0 = .ok (.iload_n 3, 1) := by decide +kernel
theorem dX8_liftOf_1 : decode cX8_liftOf 1 = .ok (.iload_n 2, 1) := by decide +kernel
theorem dX8_liftOf_2 : decode cX8_liftOf 2 = .ok (.if_icmp .ge 22, 3) := by decide +kernel
theorem dX8_liftOf_5 : decode cX8_liftOf 5 = .ok (.iload_n 1, 1) := by decide +kernel
theorem dX8_liftOf_6 : decode cX8_liftOf 6 = .ok (.aload_n 0, 1) := by decide +kernel
theorem dX8_liftOf_7 : decode cX8_liftOf 7 = .ok (.getfield 7, 3) := by decide +kernel
theorem dX8_liftOf_10 : decode cX8_liftOf 10 = .ok (.bipush 18, 2) := by decide +kernel
theorem dX8_liftOf_12 : decode cX8_liftOf 12 = .ok (.iaload, 1) := by decide +kernel
theorem dX8_liftOf_13 : decode cX8_liftOf 13 = .ok (.imul, 1) := by decide +kernel
theorem dX8_liftOf_14 : decode cX8_liftOf 14 = .ok (.bipush 100, 2) := by decide +kernel
theorem dX8_liftOf_16 : decode cX8_liftOf 16 = .ok (.idiv, 1) := by decide +kernel
theorem dX8_liftOf_17 : decode cX8_liftOf 17 = .ok (.iload_n 3, 1) := by decide +kernel
theorem dX8_liftOf_18 : decode cX8_liftOf 18 = .ok (.invokestatic 121, 3) := by decide +kernel
theorem dX8_liftOf_21 : decode cX8_liftOf 21 = .ok (.goto 4, 3) := by decide +kernel
theorem dX8_liftOf_24 : decode cX8_liftOf 24 = .ok (.iconst 0, 1) := by decide +kernel
theorem dX8_liftOf_25 : decode cX8_liftOf 25 = .ok (.ireturn, 1) := by decide +kernel
theorem dX8_keeps_0 : decode cX8_keeps 0 = .ok (.aload_n 0, 1) := by decide +kernel
theorem dX8_keeps_1 : decode cX8_keeps 1 = .ok (.iload_n 1, 1) := by decide +kernel
theorem dX8_keeps_2 : decode cX8_keeps 2 = .ok (.bipush 10, 2) := by decide +kernel
theorem dX8_keeps_4 : decode cX8_keeps 4 = .ok (.invokevirtual 62, 3) := by decide +kernel
theorem dX8_keeps_7 : decode cX8_keeps 7 = .ok (.bipush 40, 2) := by decide +kernel
theorem dX8_keeps_9 : decode cX8_keeps 9 = .ok (.if_icmp .ne 72, 3) := by decide +kernel
theorem dX8_keeps_12 : decode cX8_keeps 12 = .ok (.iconst 1, 1) := by decide +kernel
theorem dX8_keeps_13 : decode cX8_keeps 13 = .ok (.istore 4, 2) := by decide +kernel
theorem dX8_keeps_15 : decode cX8_keeps 15 = .ok (.iload 4, 2) := by decide +kernel
theorem dX8_keeps_17 : decode cX8_keeps 17 = .ok (.bipush 40, 2) := by decide +kernel
theorem dX8_keeps_19 : decode cX8_keeps 19 = .ok (.if_icmp .ge 53, 3) := by decide +kernel
theorem dX8_keeps_22 : decode cX8_keeps 22 = .ok (.aload_n 0, 1) := by decide +kernel
theorem dX8_keeps_23 : decode cX8_keeps 23 = .ok (.iload_n 1, 1) := by decide +kernel
theorem dX8_keeps_24 : decode cX8_keeps 24 = .ok (.bipush 11, 2) := by decide +kernel
theorem dX8_keeps_26 : decode cX8_keeps 26 = .ok (.iload 4, 2) := by decide +kernel
theorem dX8_keeps_28 : decode cX8_keeps 28 = .ok (.iadd, 1) := by decide +kernel
theorem dX8_keeps_29 : decode cX8_keeps 29 = .ok (.iconst 1, 1) := by decide +kernel
theorem dX8_keeps_30 : decode cX8_keeps 30 = .ok (.isub, 1) := by decide +kernel
theorem dX8_keeps_31 : decode cX8_keeps 31 = .ok (.aload_n 0, 1) := by decide +kernel
theorem dX8_keeps_32 : decode cX8_keeps 32 = .ok (.iload_n 1, 1) := by decide +kernel
theorem dX8_keeps_33 : decode cX8_keeps 33 = .ok (.bipush 11, 2) := by decide +kernel
theorem dX8_keeps_35 : decode cX8_keeps 35 = .ok (.iload 4, 2) := by decide +kernel
theorem dX8_keeps_37 : decode cX8_keeps 37 = .ok (.iadd, 1) := by decide +kernel
theorem dX8_keeps_38 : decode cX8_keeps 38 = .ok (.invokevirtual 62, 3) := by decide +kernel
theorem dX8_keeps_41 : decode cX8_keeps 41 = .ok (.invokevirtual 93, 3) := by decide +kernel
theorem dX8_keeps_44 : decode cX8_keeps 44 = .ok (.aload_n 0, 1) := by decide +kernel
theorem dX8_keeps_45 : decode cX8_keeps 45 = .ok (.iload_n 1, 1) := by decide +kernel
theorem dX8_keeps_46 : decode cX8_keeps 46 = .ok (.bipush 51, 2) := by decide +kernel
theorem dX8_keeps_48 : decode cX8_keeps 48 = .ok (.iload 4, 2) := by decide +kernel
theorem dX8_keeps_50 : decode cX8_keeps 50 = .ok (.iadd, 1) := by decide +kernel
theorem dX8_keeps_51 : decode cX8_keeps 51 = .ok (.iconst 1, 1) := by decide +kernel
theorem dX8_keeps_52 : decode cX8_keeps 52 = .ok (.isub, 1) := by decide +kernel
theorem dX8_keeps_53 : decode cX8_keeps 53 = .ok (.aload_n 0, 1) := by decide +kernel
theorem dX8_keeps_54 : decode cX8_keeps 54 = .ok (.iload_n 1, 1) := by decide +kernel
theorem dX8_keeps_55 : decode cX8_keeps 55 = .ok (.bipush 51, 2) := by decide +kernel
theorem dX8_keeps_57 : decode cX8_keeps 57 = .ok (.iload 4, 2) := by decide +kernel
theorem dX8_keeps_59 : decode cX8_keeps 59 = .ok (.iadd, 1) := by decide +kernel
theorem dX8_keeps_60 : decode cX8_keeps 60 = .ok (.invokevirtual 62, 3) := by decide +kernel
theorem dX8_keeps_63 : decode cX8_keeps 63 = .ok (.invokevirtual 93, 3) := by decide +kernel
theorem dX8_keeps_66 : decode cX8_keeps 66 = .ok (.iinc 4 1, 3) := by decide +kernel
theorem dX8_keeps_69 : decode cX8_keeps 69 = .ok (.goto (-54), 3) := by decide +kernel
theorem dX8_keeps_72 : decode cX8_keeps 72 = .ok (.aload_n 0, 1) := by decide +kernel
theorem dX8_keeps_73 : decode cX8_keeps 73 = .ok (.iload_n 1, 1) := by decide +kernel
theorem dX8_keeps_74 : decode cX8_keeps 74 = .ok (.bipush 10, 2) := by decide +kernel
theorem dX8_keeps_76 : decode cX8_keeps 76 = .ok (.bipush 39, 2) := by decide +kernel
theorem dX8_keeps_78 : decode cX8_keeps 78 = .ok (.invokevirtual 93, 3) := by decide +kernel
theorem dX8_keeps_81 : decode cX8_keeps 81 = .ok (.aload_n 0, 1) := by decide +kernel
theorem dX8_keeps_82 : decode cX8_keeps 82 = .ok (.iload_n 1, 1) := by decide +kernel
theorem dX8_keeps_83 : decode cX8_keeps 83 = .ok (.bipush 10, 2) := by decide +kernel
theorem dX8_keeps_85 : decode cX8_keeps 85 = .ok (.invokevirtual 62, 3) := by decide +kernel
theorem dX8_keeps_88 : decode cX8_keeps 88 = .ok (.istore 4, 2) := by decide +kernel
theorem dX8_keeps_90 : decode cX8_keeps 90 = .ok (.aload_n 0, 1) := by decide +kernel
theorem dX8_keeps_91 : decode cX8_keeps 91 = .ok (.iload_n 1, 1) := by decide +kernel
theorem dX8_keeps_92 : decode cX8_keeps 92 = .ok (.bipush 11, 2) := by decide +kernel
theorem dX8_keeps_94 : decode cX8_keeps 94 = .ok (.iload 4, 2) := by decide +kernel
theorem dX8_keeps_96 : decode cX8_keeps 96 = .ok (.iadd, 1) := by decide +kernel
theorem dX8_keeps_97 : decode cX8_keeps 97 = .ok (.iload_n 2, 1) := by decide +kernel
theorem dX8_keeps_98 : decode cX8_keeps 98 = .ok (.invokevirtual 93, 3) := by decide +kernel
theorem dX8_keeps_101 : decode cX8_keeps 101 = .ok (.aload_n 0, 1) := by decide +kernel
theorem dX8_keeps_102 : decode cX8_keeps 102 = .ok (.iload_n 1, 1) := by decide +kernel
theorem dX8_keeps_103 : decode cX8_keeps 103 = .ok (.bipush 51, 2) := by decide +kernel
theorem dX8_keeps_105 : decode cX8_keeps 105 = .ok (.iload 4, 2) := by decide +kernel
theorem dX8_keeps_107 : decode cX8_keeps 107 = .ok (.iadd, 1) := by decide +kernel
theorem dX8_keeps_108 : decode cX8_keeps 108 = .ok (.iload_n 3, 1) := by decide +kernel
theorem dX8_keeps_109 : decode cX8_keeps 109 = .ok (.invokevirtual 93, 3) := by decide +kernel
theorem dX8_keeps_112 : decode cX8_keeps 112 = .ok (.aload_n 0, 1) := by decide +kernel
theorem dX8_keeps_113 : decode cX8_keeps 113 = .ok (.iload_n 1, 1) := by decide +kernel
theorem dX8_keeps_114 : decode cX8_keeps 114 = .ok (.bipush 10, 2) := by decide +kernel
theorem dX8_keeps_116 : decode cX8_keeps 116 = .ok (.iload 4, 2) := by decide +kernel
theorem dX8_keeps_118 : decode cX8_keeps 118 = .ok (.iconst 1, 1) := by decide +kernel
theorem dX8_keeps_119 : decode cX8_keeps 119 = .ok (.iadd, 1) := by decide +kernel
theorem dX8_keeps_120 : decode cX8_keeps 120 = .ok (.invokevirtual 93, 3) := by decide +kernel
theorem dX8_keeps_123 : decode cX8_keeps 123 = .ok (.return_, 1) := by decide +kernel
theorem dX8_lifts_0 : decode cX8_lifts 0 = .ok (.iconst 0, 1) := by decide +kernel
theorem dX8_lifts_1 : decode cX8_lifts 1 = .ok (.istore_n 3, 1) := by decide +kernel
theorem dX8_lifts_2 : decode cX8_lifts 2 = .ok (.iload_n 3, 1) := by decide +kernel
theorem dX8_lifts_3 : decode cX8_lifts 3 = .ok (.aload_n 0, 1) := by decide +kernel
theorem dX8_lifts_4 : decode cX8_lifts 4 = .ok (.getfield 7, 3) := by decide +kernel
theorem dX8_lifts_7 : decode cX8_lifts 7 = .ok (.bipush 19, 2) := by decide +kernel
theorem dX8_lifts_9 : decode cX8_lifts 9 = .ok (.iaload, 1) := by decide +kernel
theorem dX8_lifts_10 : decode cX8_lifts 10 = .ok (.if_icmp .ge 98, 3) := by decide +kernel
theorem dX8_lifts_13 : decode cX8_lifts 13 = .ok (.aload_n 0, 1) := by decide +kernel
theorem dX8_lifts_14 : decode cX8_lifts 14 = .ok (.iload_n 1, 1) := by decide +kernel
theorem dX8_lifts_15 : decode cX8_lifts 15 = .ok (.iload_n 3, 1) := by decide +kernel
theorem dX8_lifts_16 : decode cX8_lifts 16 = .ok (.invokevirtual 100, 3) := by decide +kernel
theorem dX8_lifts_19 : decode cX8_lifts 19 = .ok (.ifCond .eq 23, 3) := by decide +kernel
theorem dX8_lifts_22 : decode cX8_lifts 22 = .ok (.aload_n 0, 1) := by decide +kernel
theorem dX8_lifts_23 : decode cX8_lifts 23 = .ok (.iload_n 2, 1) := by decide +kernel
theorem dX8_lifts_24 : decode cX8_lifts 24 = .ok (.aload_n 0, 1) := by decide +kernel
theorem dX8_lifts_25 : decode cX8_lifts 25 = .ok (.iload_n 1, 1) := by decide +kernel
theorem dX8_lifts_26 : decode cX8_lifts 26 = .ok (.iconst 3, 1) := by decide +kernel
theorem dX8_lifts_27 : decode cX8_lifts 27 = .ok (.invokevirtual 62, 3) := by decide +kernel
theorem dX8_lifts_30 : decode cX8_lifts 30 = .ok (.aload_n 0, 1) := by decide +kernel
theorem dX8_lifts_31 : decode cX8_lifts 31 = .ok (.iload_n 3, 1) := by decide +kernel
theorem dX8_lifts_32 : decode cX8_lifts 32 = .ok (.iconst 3, 1) := by decide +kernel
theorem dX8_lifts_33 : decode cX8_lifts 33 = .ok (.invokevirtual 62, 3) := by decide +kernel
theorem dX8_lifts_36 : decode cX8_lifts 36 = .ok (.invokevirtual 124, 3) := by decide +kernel
theorem dX8_lifts_39 : decode cX8_lifts 39 = .ok (.goto 4, 3) := by decide +kernel
theorem dX8_lifts_42 : decode cX8_lifts 42 = .ok (.iconst 0, 1) := by decide +kernel
theorem dX8_lifts_43 : decode cX8_lifts 43 = .ok (.istore 4, 2) := by decide +kernel
theorem dX8_lifts_45 : decode cX8_lifts 45 = .ok (.iload 4, 2) := by decide +kernel
theorem dX8_lifts_47 : decode cX8_lifts 47 = .ok (.ifCond .le 55, 3) := by decide +kernel
theorem dX8_lifts_50 : decode cX8_lifts 50 = .ok (.aload_n 0, 1) := by decide +kernel
theorem dX8_lifts_51 : decode cX8_lifts 51 = .ok (.iload_n 3, 1) := by decide +kernel
theorem dX8_lifts_52 : decode cX8_lifts 52 = .ok (.iconst 3, 1) := by decide +kernel
theorem dX8_lifts_53 : decode cX8_lifts 53 = .ok (.aload_n 0, 1) := by decide +kernel
theorem dX8_lifts_54 : decode cX8_lifts 54 = .ok (.iload_n 3, 1) := by decide +kernel
theorem dX8_lifts_55 : decode cX8_lifts 55 = .ok (.iconst 3, 1) := by decide +kernel
theorem dX8_lifts_56 : decode cX8_lifts 56 = .ok (.invokevirtual 62, 3) := by decide +kernel
theorem dX8_lifts_59 : decode cX8_lifts 59 = .ok (.iload 4, 2) := by decide +kernel
theorem dX8_lifts_61 : decode cX8_lifts 61 = .ok (.isub, 1) := by decide +kernel
theorem dX8_lifts_62 : decode cX8_lifts 62 = .ok (.invokevirtual 93, 3) := by decide +kernel
theorem dX8_lifts_65 : decode cX8_lifts 65 = .ok (.aload_n 0, 1) := by decide +kernel
theorem dX8_lifts_66 : decode cX8_lifts 66 = .ok (.iload_n 3, 1) := by decide +kernel
theorem dX8_lifts_67 : decode cX8_lifts 67 = .ok (.bipush 6, 2) := by decide +kernel
theorem dX8_lifts_69 : decode cX8_lifts 69 = .ok (.iconst 1, 1) := by decide +kernel
theorem dX8_lifts_70 : decode cX8_lifts 70 = .ok (.invokevirtual 93, 3) := by decide +kernel
theorem dX8_lifts_73 : decode cX8_lifts 73 = .ok (.aload_n 0, 1) := by decide +kernel
theorem dX8_lifts_74 : decode cX8_lifts 74 = .ok (.iload_n 3, 1) := by decide +kernel
theorem dX8_lifts_75 : decode cX8_lifts 75 = .ok (.bipush 8, 2) := by decide +kernel
theorem dX8_lifts_77 : decode cX8_lifts 77 = .ok (.aload_n 0, 1) := by decide +kernel
theorem dX8_lifts_78 : decode cX8_lifts 78 = .ok (.iload_n 3, 1) := by decide +kernel
theorem dX8_lifts_79 : decode cX8_lifts 79 = .ok (.bipush 8, 2) := by decide +kernel
theorem dX8_lifts_81 : decode cX8_lifts 81 = .ok (.invokevirtual 62, 3) := by decide +kernel
theorem dX8_lifts_84 : decode cX8_lifts 84 = .ok (.iload 4, 2) := by decide +kernel
theorem dX8_lifts_86 : decode cX8_lifts 86 = .ok (.iadd, 1) := by decide +kernel
theorem dX8_lifts_87 : decode cX8_lifts 87 = .ok (.invokevirtual 93, 3) := by decide +kernel
theorem dX8_lifts_90 : decode cX8_lifts 90 = .ok (.aload_n 0, 1) := by decide +kernel
theorem dX8_lifts_91 : decode cX8_lifts 91 = .ok (.getfield 7, 3) := by decide +kernel
theorem dX8_lifts_94 : decode cX8_lifts 94 = .ok (.bipush 22, 2) := by decide +kernel
theorem dX8_lifts_96 : decode cX8_lifts 96 = .ok (.dup2, 1) := by decide +kernel
theorem dX8_lifts_97 : decode cX8_lifts 97 = .ok (.iaload, 1) := by decide +kernel
theorem dX8_lifts_98 : decode cX8_lifts 98 = .ok (.iload 4, 2) := by decide +kernel
theorem dX8_lifts_100 : decode cX8_lifts 100 = .ok (.iadd, 1) := by decide +kernel
theorem dX8_lifts_101 : decode cX8_lifts 101 = .ok (.iastore, 1) := by decide +kernel
theorem dX8_lifts_102 : decode cX8_lifts 102 = .ok (.iinc 3 1, 3) := by decide +kernel
theorem dX8_lifts_105 : decode cX8_lifts 105 = .ok (.goto (-103), 3) := by decide +kernel
theorem dX8_lifts_108 : decode cX8_lifts 108 = .ok (.return_, 1) := by decide +kernel
theorem dX8_strikes_0 : decode cX8_strikes 0 = .ok (.aload_n 0, 1) := by decide +kernel
theorem dX8_strikes_1 : decode cX8_strikes 1 = .ok (.aload_n 0, 1) := by decide +kernel
theorem dX8_strikes_2 : decode cX8_strikes 2 = .ok (.iload_n 1, 1) := by decide +kernel
theorem dX8_strikes_3 : decode cX8_strikes 3 = .ok (.iconst 3, 1) := by decide +kernel
theorem dX8_strikes_4 : decode cX8_strikes 4 = .ok (.invokevirtual 62, 3) := by decide +kernel
theorem dX8_strikes_7 : decode cX8_strikes 7 = .ok (.invokevirtual 118, 3) := by decide +kernel
theorem dX8_strikes_10 : decode cX8_strikes 10 = .ok (.istore_n 3, 1) := by decide +kernel
theorem dX8_strikes_11 : decode cX8_strikes 11 = .ok (.aload_n 0, 1) := by decide +kernel
theorem dX8_strikes_12 : decode cX8_strikes 12 = .ok (.iload_n 2, 1) := by decide +kernel
theorem dX8_strikes_13 : decode cX8_strikes 13 = .ok (.invokevirtual 115, 3) := by decide +kernel
theorem dX8_strikes_16 : decode cX8_strikes 16 = .ok (.istore 4, 2) := by decide +kernel
theorem dX8_strikes_18 : decode cX8_strikes 18 = .ok (.aload_n 0, 1) := by decide +kernel
theorem dX8_strikes_19 : decode cX8_strikes 19 = .ok (.iload_n 1, 1) := by decide +kernel
theorem dX8_strikes_20 : decode cX8_strikes 20 = .ok (.aload_n 0, 1) := by decide +kernel
theorem dX8_strikes_21 : decode cX8_strikes 21 = .ok (.iload_n 1, 1) := by decide +kernel
theorem dX8_strikes_22 : decode cX8_strikes 22 = .ok (.iconst 3, 1) := by decide +kernel
theorem dX8_strikes_23 : decode cX8_strikes 23 = .ok (.invokevirtual 62, 3) := by decide +kernel
theorem dX8_strikes_26 : decode cX8_strikes 26 = .ok (.iload_n 2, 1) := by decide +kernel
theorem dX8_strikes_27 : decode cX8_strikes 27 = .ok (.invokevirtual 128, 3) := by decide +kernel
theorem dX8_strikes_30 : decode cX8_strikes 30 = .ok (.istore 5, 2) := by decide +kernel
theorem dX8_strikes_32 : decode cX8_strikes 32 = .ok (.iload 5, 2) := by decide +kernel
theorem dX8_strikes_34 : decode cX8_strikes 34 = .ok (.aload_n 0, 1) := by decide +kernel
theorem dX8_strikes_35 : decode cX8_strikes 35 = .ok (.getfield 7, 3) := by decide +kernel
theorem dX8_strikes_38 : decode cX8_strikes 38 = .ok (.bipush 15, 2) := by decide +kernel
theorem dX8_strikes_40 : decode cX8_strikes 40 = .ok (.iaload, 1) := by decide +kernel
theorem dX8_strikes_41 : decode cX8_strikes 41 = .ok (.iadd, 1) := by decide +kernel
theorem dX8_strikes_42 : decode cX8_strikes 42 = .ok (.istore 6, 2) := by decide +kernel
theorem dX8_strikes_44 : decode cX8_strikes 44 = .ok (.iload 6, 2) := by decide +kernel
theorem dX8_strikes_46 : decode cX8_strikes 46 = .ok (.ifCond .ne 8, 3) := by decide +kernel
theorem dX8_strikes_49 : decode cX8_strikes 49 = .ok (.ldc 131, 2) := by decide +kernel
theorem dX8_strikes_51 : decode cX8_strikes 51 = .ok (.goto 13, 3) := by decide +kernel
theorem dX8_strikes_54 : decode cX8_strikes 54 = .ok (.iload 4, 2) := by decide +kernel
theorem dX8_strikes_56 : decode cX8_strikes 56 = .ok (.iload 6, 2) := by decide +kernel
theorem dX8_strikes_58 : decode cX8_strikes 58 = .ok (.idiv, 1) := by decide +kernel
theorem dX8_strikes_59 : decode cX8_strikes 59 = .ok (.ldc 131, 2) := by decide +kernel
theorem dX8_strikes_61 : decode cX8_strikes 61 = .ok (.invokestatic 121, 3) := by decide +kernel
theorem dX8_strikes_64 : decode cX8_strikes 64 = .ok (.istore 7, 2) := by decide +kernel
theorem dX8_strikes_66 : decode cX8_strikes 66 = .ok (.aload_n 0, 1) := by decide +kernel
theorem dX8_strikes_67 : decode cX8_strikes 67 = .ok (.iload_n 1, 1) := by decide +kernel
theorem dX8_strikes_68 : decode cX8_strikes 68 = .ok (.iconst 3, 1) := by decide +kernel
theorem dX8_strikes_69 : decode cX8_strikes 69 = .ok (.aload_n 0, 1) := by decide +kernel
theorem dX8_strikes_70 : decode cX8_strikes 70 = .ok (.iload_n 1, 1) := by decide +kernel
theorem dX8_strikes_71 : decode cX8_strikes 71 = .ok (.iconst 3, 1) := by decide +kernel
theorem dX8_strikes_72 : decode cX8_strikes 72 = .ok (.invokevirtual 62, 3) := by decide +kernel
theorem dX8_strikes_75 : decode cX8_strikes 75 = .ok (.iload 5, 2) := by decide +kernel
theorem dX8_strikes_77 : decode cX8_strikes 77 = .ok (.iadd, 1) := by decide +kernel
theorem dX8_strikes_78 : decode cX8_strikes 78 = .ok (.invokevirtual 93, 3) := by decide +kernel
theorem dX8_strikes_81 : decode cX8_strikes 81 = .ok (.aload_n 0, 1) := by decide +kernel
theorem dX8_strikes_82 : decode cX8_strikes 82 = .ok (.iload_n 1, 1) := by decide +kernel
theorem dX8_strikes_83 : decode cX8_strikes 83 = .ok (.iconst 4, 1) := by decide +kernel
theorem dX8_strikes_84 : decode cX8_strikes 84 = .ok (.aload_n 0, 1) := by decide +kernel
theorem dX8_strikes_85 : decode cX8_strikes 85 = .ok (.iload_n 1, 1) := by decide +kernel
theorem dX8_strikes_86 : decode cX8_strikes 86 = .ok (.iconst 4, 1) := by decide +kernel
theorem dX8_strikes_87 : decode cX8_strikes 87 = .ok (.invokevirtual 62, 3) := by decide +kernel
theorem dX8_strikes_90 : decode cX8_strikes 90 = .ok (.iconst 1, 1) := by decide +kernel
theorem dX8_strikes_91 : decode cX8_strikes 91 = .ok (.iadd, 1) := by decide +kernel
theorem dX8_strikes_92 : decode cX8_strikes 92 = .ok (.invokevirtual 93, 3) := by decide +kernel
theorem dX8_strikes_95 : decode cX8_strikes 95 = .ok (.aload_n 0, 1) := by decide +kernel
theorem dX8_strikes_96 : decode cX8_strikes 96 = .ok (.iload_n 1, 1) := by decide +kernel
theorem dX8_strikes_97 : decode cX8_strikes 97 = .ok (.iconst 5, 1) := by decide +kernel
theorem dX8_strikes_98 : decode cX8_strikes 98 = .ok (.iload 7, 2) := by decide +kernel
theorem dX8_strikes_100 : decode cX8_strikes 100 = .ok (.invokevirtual 93, 3) := by decide +kernel
theorem dX8_strikes_103 : decode cX8_strikes 103 = .ok (.aload_n 0, 1) := by decide +kernel
theorem dX8_strikes_104 : decode cX8_strikes 104 = .ok (.iload_n 1, 1) := by decide +kernel
theorem dX8_strikes_105 : decode cX8_strikes 105 = .ok (.bipush 6, 2) := by decide +kernel
theorem dX8_strikes_107 : decode cX8_strikes 107 = .ok (.iconst 0, 1) := by decide +kernel
theorem dX8_strikes_108 : decode cX8_strikes 108 = .ok (.invokevirtual 93, 3) := by decide +kernel
theorem dX8_strikes_111 : decode cX8_strikes 111 = .ok (.aload_n 0, 1) := by decide +kernel
theorem dX8_strikes_112 : decode cX8_strikes 112 = .ok (.iload_n 1, 1) := by decide +kernel
theorem dX8_strikes_113 : decode cX8_strikes 113 = .ok (.bipush 7, 2) := by decide +kernel
theorem dX8_strikes_115 : decode cX8_strikes 115 = .ok (.aload_n 0, 1) := by decide +kernel
theorem dX8_strikes_116 : decode cX8_strikes 116 = .ok (.iload_n 1, 1) := by decide +kernel
theorem dX8_strikes_117 : decode cX8_strikes 117 = .ok (.bipush 7, 2) := by decide +kernel
theorem dX8_strikes_119 : decode cX8_strikes 119 = .ok (.invokevirtual 62, 3) := by decide +kernel
theorem dX8_strikes_122 : decode cX8_strikes 122 = .ok (.iload 5, 2) := by decide +kernel
theorem dX8_strikes_124 : decode cX8_strikes 124 = .ok (.iadd, 1) := by decide +kernel
theorem dX8_strikes_125 : decode cX8_strikes 125 = .ok (.invokevirtual 93, 3) := by decide +kernel
theorem dX8_strikes_128 : decode cX8_strikes 128 = .ok (.aload_n 0, 1) := by decide +kernel
theorem dX8_strikes_129 : decode cX8_strikes 129 = .ok (.iload_n 1, 1) := by decide +kernel
theorem dX8_strikes_130 : decode cX8_strikes 130 = .ok (.iload 5, 2) := by decide +kernel
theorem dX8_strikes_132 : decode cX8_strikes 132 = .ok (.iload 7, 2) := by decide +kernel
theorem dX8_strikes_134 : decode cX8_strikes 134 = .ok (.invokevirtual 132, 3) := by decide +kernel
theorem dX8_strikes_137 : decode cX8_strikes 137 = .ok (.aload_n 0, 1) := by decide +kernel
theorem dX8_strikes_138 : decode cX8_strikes 138 = .ok (.getfield 7, 3) := by decide +kernel
theorem dX8_strikes_141 : decode cX8_strikes 141 = .ok (.bipush 20, 2) := by decide +kernel
theorem dX8_strikes_143 : decode cX8_strikes 143 = .ok (.dup2, 1) := by decide +kernel
theorem dX8_strikes_144 : decode cX8_strikes 144 = .ok (.iaload, 1) := by decide +kernel
theorem dX8_strikes_145 : decode cX8_strikes 145 = .ok (.iconst 1, 1) := by decide +kernel
theorem dX8_strikes_146 : decode cX8_strikes 146 = .ok (.iadd, 1) := by decide +kernel
theorem dX8_strikes_147 : decode cX8_strikes 147 = .ok (.iastore, 1) := by decide +kernel
theorem dX8_strikes_148 : decode cX8_strikes 148 = .ok (.aload_n 0, 1) := by decide +kernel
theorem dX8_strikes_149 : decode cX8_strikes 149 = .ok (.getfield 7, 3) := by decide +kernel
theorem dX8_strikes_152 : decode cX8_strikes 152 = .ok (.bipush 21, 2) := by decide +kernel
theorem dX8_strikes_154 : decode cX8_strikes 154 = .ok (.dup2, 1) := by decide +kernel
theorem dX8_strikes_155 : decode cX8_strikes 155 = .ok (.iaload, 1) := by decide +kernel
theorem dX8_strikes_156 : decode cX8_strikes 156 = .ok (.iload 5, 2) := by decide +kernel
theorem dX8_strikes_158 : decode cX8_strikes 158 = .ok (.iadd, 1) := by decide +kernel
theorem dX8_strikes_159 : decode cX8_strikes 159 = .ok (.iastore, 1) := by decide +kernel
theorem dX8_strikes_160 : decode cX8_strikes 160 = .ok (.aload_n 0, 1) := by decide +kernel
theorem dX8_strikes_161 : decode cX8_strikes 161 = .ok (.getfield 16, 3) := by decide +kernel
theorem dX8_strikes_164 : decode cX8_strikes 164 = .ok (.iconst 0, 1) := by decide +kernel
theorem dX8_strikes_165 : decode cX8_strikes 165 = .ok (.dup2, 1) := by decide +kernel
theorem dX8_strikes_166 : decode cX8_strikes 166 = .ok (.laload, 1) := by decide +kernel
theorem dX8_strikes_167 : decode cX8_strikes 167 = .ok (.iload 4, 2) := by decide +kernel
theorem dX8_strikes_169 : decode cX8_strikes 169 = .ok (.i2l, 1) := by decide +kernel
theorem dX8_strikes_170 : decode cX8_strikes 170 = .ok (.ladd, 1) := by decide +kernel
theorem dX8_strikes_171 : decode cX8_strikes 171 = .ok (.lastore, 1) := by decide +kernel
theorem dX8_strikes_172 : decode cX8_strikes 172 = .ok (.aload_n 0, 1) := by decide +kernel
theorem dX8_strikes_173 : decode cX8_strikes 173 = .ok (.getfield 16, 3) := by decide +kernel
theorem dX8_strikes_176 : decode cX8_strikes 176 = .ok (.iconst 1, 1) := by decide +kernel
theorem dX8_strikes_177 : decode cX8_strikes 177 = .ok (.dup2, 1) := by decide +kernel
theorem dX8_strikes_178 : decode cX8_strikes 178 = .ok (.laload, 1) := by decide +kernel
theorem dX8_strikes_179 : decode cX8_strikes 179 = .ok (.iload 5, 2) := by decide +kernel
theorem dX8_strikes_181 : decode cX8_strikes 181 = .ok (.i2l, 1) := by decide +kernel
theorem dX8_strikes_182 : decode cX8_strikes 182 = .ok (.iload_n 3, 1) := by decide +kernel
theorem dX8_strikes_183 : decode cX8_strikes 183 = .ok (.i2l, 1) := by decide +kernel
theorem dX8_strikes_184 : decode cX8_strikes 184 = .ok (.lmul, 1) := by decide +kernel
theorem dX8_strikes_185 : decode cX8_strikes 185 = .ok (.ladd, 1) := by decide +kernel
theorem dX8_strikes_186 : decode cX8_strikes 186 = .ok (.lastore, 1) := by decide +kernel
theorem dX8_strikes_187 : decode cX8_strikes 187 = .ok (.aload_n 0, 1) := by decide +kernel
theorem dX8_strikes_188 : decode cX8_strikes 188 = .ok (.iload_n 1, 1) := by decide +kernel
theorem dX8_strikes_189 : decode cX8_strikes 189 = .ok (.iload 5, 2) := by decide +kernel
theorem dX8_strikes_191 : decode cX8_strikes 191 = .ok (.invokevirtual 135, 3) := by decide +kernel
theorem dX8_strikes_194 : decode cX8_strikes 194 = .ok (.iload 5, 2) := by decide +kernel
theorem dX8_strikes_196 : decode cX8_strikes 196 = .ok (.ireturn, 1) := by decide +kernel
theorem dX8_strike_0 : decode cX8_strike 0 = .ok (.aload_n 0, 1) := by decide +kernel
theorem dX8_strike_1 : decode cX8_strike 1 = .ok (.iload_n 1, 1) := by decide +kernel
theorem dX8_strike_2 : decode cX8_strike 2 = .ok (.invokevirtual 103, 3) := by decide +kernel
theorem dX8_strike_5 : decode cX8_strike 5 = .ok (.ifCond .eq 10, 3) := by decide +kernel
theorem dX8_strike_8 : decode cX8_strike 8 = .ok (.iload_n 2, 1) := by decide +kernel
theorem dX8_strike_9 : decode cX8_strike 9 = .ok (.invokestatic 139, 3) := by decide +kernel
theorem dX8_strike_12 : decode cX8_strike 12 = .ok (.ifCond .ne 5, 3) := by decide +kernel
theorem dX8_strike_15 : decode cX8_strike 15 = .ok (.iconst (-1), 1) := by decide +kernel
theorem dX8_strike_16 : decode cX8_strike 16 = .ok (.ireturn, 1) := by decide +kernel
theorem dX8_strike_17 : decode cX8_strike 17 = .ok (.aload_n 0, 1) := by decide +kernel
theorem dX8_strike_18 : decode cX8_strike 18 = .ok (.iload_n 1, 1) := by decide +kernel
theorem dX8_strike_19 : decode cX8_strike 19 = .ok (.invokevirtual 142, 3) := by decide +kernel
theorem dX8_strike_22 : decode cX8_strike 22 = .ok (.ifCond .eq 6, 3) := by decide +kernel
theorem dX8_strike_25 : decode cX8_strike 25 = .ok (.bipush (-2), 2) := by decide +kernel
theorem dX8_strike_27 : decode cX8_strike 27 = .ok (.ireturn, 1) := by decide +kernel
theorem dX8_strike_28 : decode cX8_strike 28 = .ok (.aload_n 0, 1) := by decide +kernel
theorem dX8_strike_29 : decode cX8_strike 29 = .ok (.invokevirtual 55, 3) := by decide +kernel
theorem dX8_strike_32 : decode cX8_strike 32 = .ok (.aload_n 0, 1) := by decide +kernel
theorem dX8_strike_33 : decode cX8_strike 33 = .ok (.iload_n 1, 1) := by decide +kernel
theorem dX8_strike_34 : decode cX8_strike 34 = .ok (.iload_n 2, 1) := by decide +kernel
theorem dX8_strike_35 : decode cX8_strike 35 = .ok (.invokevirtual 145, 3) := by decide +kernel
theorem dX8_strike_38 : decode cX8_strike 38 = .ok (.ireturn, 1) := by decide +kernel
theorem dX8_drive_0 : decode cX8_drive 0 = .ok (.aload_n 0, 1) := by decide +kernel
theorem dX8_drive_1 : decode cX8_drive 1 = .ok (.iload_n 1, 1) := by decide +kernel
theorem dX8_drive_2 : decode cX8_drive 2 = .ok (.invokevirtual 103, 3) := by decide +kernel
theorem dX8_drive_5 : decode cX8_drive 5 = .ok (.ifCond .eq 32, 3) := by decide +kernel
theorem dX8_drive_8 : decode cX8_drive 8 = .ok (.iload_n 2, 1) := by decide +kernel
theorem dX8_drive_9 : decode cX8_drive 9 = .ok (.invokestatic 139, 3) := by decide +kernel
theorem dX8_drive_12 : decode cX8_drive 12 = .ok (.ifCond .eq 25, 3) := by decide +kernel
theorem dX8_drive_15 : decode cX8_drive 15 = .ok (.iload_n 3, 1) := by decide +kernel
theorem dX8_drive_16 : decode cX8_drive 16 = .ok (.iconst 0, 1) := by decide +kernel
theorem dX8_drive_17 : decode cX8_drive 17 = .ok (.sipush 500, 3) := by decide +kernel
theorem dX8_drive_20 : decode cX8_drive 20 = .ok (.invokestatic 51, 3) := by decide +kernel
theorem dX8_drive_23 : decode cX8_drive 23 = .ok (.ifCond .eq 14, 3) := by decide +kernel
theorem dX8_drive_26 : decode cX8_drive 26 = .ok (.iload 4, 2) := by decide +kernel
theorem dX8_drive_28 : decode cX8_drive 28 = .ok (.iconst 1, 1) := by decide +kernel
theorem dX8_drive_29 : decode cX8_drive 29 = .ok (.bipush 100, 2) := by decide +kernel
theorem dX8_drive_31 : decode cX8_drive 31 = .ok (.invokestatic 51, 3) := by decide +kernel
theorem dX8_drive_34 : decode cX8_drive 34 = .ok (.ifCond .ne 5, 3) := by decide +kernel
theorem dX8_drive_37 : decode cX8_drive 37 = .ok (.iconst (-1), 1) := by decide +kernel
theorem dX8_drive_38 : decode cX8_drive 38 = .ok (.ireturn, 1) := by decide +kernel
theorem dX8_drive_39 : decode cX8_drive 39 = .ok (.aload_n 0, 1) := by decide +kernel
theorem dX8_drive_40 : decode cX8_drive 40 = .ok (.iload_n 1, 1) := by decide +kernel
theorem dX8_drive_41 : decode cX8_drive 41 = .ok (.invokevirtual 142, 3) := by decide +kernel
theorem dX8_drive_44 : decode cX8_drive 44 = .ok (.ifCond .eq 6, 3) := by decide +kernel
theorem dX8_drive_47 : decode cX8_drive 47 = .ok (.bipush (-2), 2) := by decide +kernel
theorem dX8_drive_49 : decode cX8_drive 49 = .ok (.ireturn, 1) := by decide +kernel
theorem dX8_drive_50 : decode cX8_drive 50 = .ok (.aload_n 0, 1) := by decide +kernel
theorem dX8_drive_51 : decode cX8_drive 51 = .ok (.invokevirtual 55, 3) := by decide +kernel
theorem dX8_drive_54 : decode cX8_drive 54 = .ok (.iconst 0, 1) := by decide +kernel
theorem dX8_drive_55 : decode cX8_drive 55 = .ok (.istore 5, 2) := by decide +kernel
theorem dX8_drive_57 : decode cX8_drive 57 = .ok (.iconst 1, 1) := by decide +kernel
theorem dX8_drive_58 : decode cX8_drive 58 = .ok (.istore 6, 2) := by decide +kernel
theorem dX8_drive_60 : decode cX8_drive 60 = .ok (.iload 6, 2) := by decide +kernel
theorem dX8_drive_62 : decode cX8_drive 62 = .ok (.ifCond .eq 45, 3) := by decide +kernel
theorem dX8_drive_65 : decode cX8_drive 65 = .ok (.aload_n 0, 1) := by decide +kernel
theorem dX8_drive_66 : decode cX8_drive 66 = .ok (.iload_n 1, 1) := by decide +kernel
theorem dX8_drive_67 : decode cX8_drive 67 = .ok (.iload_n 2, 1) := by decide +kernel
theorem dX8_drive_68 : decode cX8_drive 68 = .ok (.invokevirtual 145, 3) := by decide +kernel
theorem dX8_drive_71 : decode cX8_drive 71 = .ok (.istore 7, 2) := by decide +kernel
theorem dX8_drive_73 : decode cX8_drive 73 = .ok (.iinc 5 1, 3) := by decide +kernel
theorem dX8_drive_76 : decode cX8_drive 76 = .ok (.iload 7, 2) := by decide +kernel
theorem dX8_drive_78 : decode cX8_drive 78 = .ok (.iload_n 3, 1) := by decide +kernel
theorem dX8_drive_79 : decode cX8_drive 79 = .ok (.if_icmp .le 22, 3) := by decide +kernel
theorem dX8_drive_82 : decode cX8_drive 82 = .ok (.aload_n 0, 1) := by decide +kernel
theorem dX8_drive_83 : decode cX8_drive 83 = .ok (.iload_n 1, 1) := by decide +kernel
theorem dX8_drive_84 : decode cX8_drive 84 = .ok (.invokevirtual 142, 3) := by decide +kernel
theorem dX8_drive_87 : decode cX8_drive 87 = .ok (.ifCond .ne 14, 3) := by decide +kernel
theorem dX8_drive_90 : decode cX8_drive 90 = .ok (.iload 5, 2) := by decide +kernel
theorem dX8_drive_92 : decode cX8_drive 92 = .ok (.iload 4, 2) := by decide +kernel
theorem dX8_drive_94 : decode cX8_drive 94 = .ok (.if_icmp .ge 7, 3) := by decide +kernel
theorem dX8_drive_97 : decode cX8_drive 97 = .ok (.iconst 1, 1) := by decide +kernel
theorem dX8_drive_98 : decode cX8_drive 98 = .ok (.goto 4, 3) := by decide +kernel
theorem dX8_drive_101 : decode cX8_drive 101 = .ok (.iconst 0, 1) := by decide +kernel
theorem dX8_drive_102 : decode cX8_drive 102 = .ok (.istore 6, 2) := by decide +kernel
theorem dX8_drive_104 : decode cX8_drive 104 = .ok (.goto (-44), 3) := by decide +kernel
theorem dX8_drive_107 : decode cX8_drive 107 = .ok (.iload 5, 2) := by decide +kernel
theorem dX8_drive_109 : decode cX8_drive 109 = .ok (.ireturn, 1) := by decide +kernel
theorem dX8_would_0 : decode cX8_would 0 = .ok (.aload_n 0, 1) := by decide +kernel
theorem dX8_would_1 : decode cX8_would 1 = .ok (.iload_n 1, 1) := by decide +kernel
theorem dX8_would_2 : decode cX8_would 2 = .ok (.invokevirtual 103, 3) := by decide +kernel
theorem dX8_would_5 : decode cX8_would 5 = .ok (.ifCond .eq 10, 3) := by decide +kernel
theorem dX8_would_8 : decode cX8_would 8 = .ok (.iload_n 2, 1) := by decide +kernel
theorem dX8_would_9 : decode cX8_would 9 = .ok (.invokestatic 139, 3) := by decide +kernel
theorem dX8_would_12 : decode cX8_would 12 = .ok (.ifCond .ne 5, 3) := by decide +kernel
theorem dX8_would_15 : decode cX8_would 15 = .ok (.iconst (-1), 1) := by decide +kernel
theorem dX8_would_16 : decode cX8_would 16 = .ok (.ireturn, 1) := by decide +kernel
theorem dX8_would_17 : decode cX8_would 17 = .ok (.aload_n 0, 1) := by decide +kernel
theorem dX8_would_18 : decode cX8_would 18 = .ok (.iload_n 1, 1) := by decide +kernel
theorem dX8_would_19 : decode cX8_would 19 = .ok (.invokevirtual 142, 3) := by decide +kernel
theorem dX8_would_22 : decode cX8_would 22 = .ok (.ifCond .eq 8, 3) := by decide +kernel
theorem dX8_would_25 : decode cX8_would 25 = .ok (.bipush (-2), 2) := by decide +kernel
theorem dX8_would_27 : decode cX8_would 27 = .ok (.goto 15, 3) := by decide +kernel
theorem dX8_would_30 : decode cX8_would 30 = .ok (.aload_n 0, 1) := by decide +kernel
theorem dX8_would_31 : decode cX8_would 31 = .ok (.iload_n 1, 1) := by decide +kernel
theorem dX8_would_32 : decode cX8_would 32 = .ok (.aload_n 0, 1) := by decide +kernel
theorem dX8_would_33 : decode cX8_would 33 = .ok (.iload_n 1, 1) := by decide +kernel
theorem dX8_would_34 : decode cX8_would 34 = .ok (.iconst 3, 1) := by decide +kernel
theorem dX8_would_35 : decode cX8_would 35 = .ok (.invokevirtual 62, 3) := by decide +kernel
theorem dX8_would_38 : decode cX8_would 38 = .ok (.iload_n 2, 1) := by decide +kernel
theorem dX8_would_39 : decode cX8_would 39 = .ok (.invokevirtual 128, 3) := by decide +kernel
theorem dX8_would_42 : decode cX8_would 42 = .ok (.ireturn, 1) := by decide +kernel
theorem dX8_fallFor_0 : decode cX8_fallFor 0 = .ok (.aload_n 0, 1) := by decide +kernel
theorem dX8_fallFor_1 : decode cX8_fallFor 1 = .ok (.iload_n 1, 1) := by decide +kernel
theorem dX8_fallFor_2 : decode cX8_fallFor 2 = .ok (.invokevirtual 103, 3) := by decide +kernel
theorem dX8_fallFor_5 : decode cX8_fallFor 5 = .ok (.ifCond .eq 14, 3) := by decide +kernel
theorem dX8_fallFor_8 : decode cX8_fallFor 8 = .ok (.iload_n 2, 1) := by decide +kernel
theorem dX8_fallFor_9 : decode cX8_fallFor 9 = .ok (.iconst 0, 1) := by decide +kernel
theorem dX8_fallFor_10 : decode cX8_fallFor 10 = .ok (.sipush 500, 3) := by decide +kernel
theorem dX8_fallFor_13 : decode cX8_fallFor 13 = .ok (.invokestatic 51, 3) := by decide +kernel
theorem dX8_fallFor_16 : decode cX8_fallFor 16 = .ok (.ifCond .ne 5, 3) := by decide +kernel
theorem dX8_fallFor_19 : decode cX8_fallFor 19 = .ok (.iconst (-1), 1) := by decide +kernel
theorem dX8_fallFor_20 : decode cX8_fallFor 20 = .ok (.ireturn, 1) := by decide +kernel
theorem dX8_fallFor_21 : decode cX8_fallFor 21 = .ok (.aload_n 0, 1) := by decide +kernel
theorem dX8_fallFor_22 : decode cX8_fallFor 22 = .ok (.iload_n 1, 1) := by decide +kernel
theorem dX8_fallFor_23 : decode cX8_fallFor 23 = .ok (.invokevirtual 142, 3) := by decide +kernel
theorem dX8_fallFor_26 : decode cX8_fallFor 26 = .ok (.ifCond .eq 6, 3) := by decide +kernel
theorem dX8_fallFor_29 : decode cX8_fallFor 29 = .ok (.bipush (-2), 2) := by decide +kernel
theorem dX8_fallFor_31 : decode cX8_fallFor 31 = .ok (.ireturn, 1) := by decide +kernel
theorem dX8_fallFor_32 : decode cX8_fallFor 32 = .ok (.bipush 100, 2) := by decide +kernel
theorem dX8_fallFor_34 : decode cX8_fallFor 34 = .ok (.istore_n 3, 1) := by decide +kernel
theorem dX8_fallFor_35 : decode cX8_fallFor 35 = .ok (.iload_n 3, 1) := by decide +kernel
theorem dX8_fallFor_36 : decode cX8_fallFor 36 = .ok (.sipush 3000, 3) := by decide +kernel
theorem dX8_fallFor_39 : decode cX8_fallFor 39 = .ok (.if_icmp .gt 27, 3) := by decide +kernel
theorem dX8_fallFor_42 : decode cX8_fallFor 42 = .ok (.aload_n 0, 1) := by decide +kernel
theorem dX8_fallFor_43 : decode cX8_fallFor 43 = .ok (.iload_n 1, 1) := by decide +kernel
theorem dX8_fallFor_44 : decode cX8_fallFor 44 = .ok (.aload_n 0, 1) := by decide +kernel
theorem dX8_fallFor_45 : decode cX8_fallFor 45 = .ok (.iload_n 1, 1) := by decide +kernel
theorem dX8_fallFor_46 : decode cX8_fallFor 46 = .ok (.iconst 3, 1) := by decide +kernel
theorem dX8_fallFor_47 : decode cX8_fallFor 47 = .ok (.invokevirtual 62, 3) := by decide +kernel
theorem dX8_fallFor_50 : decode cX8_fallFor 50 = .ok (.iload_n 3, 1) := by decide +kernel
theorem dX8_fallFor_51 : decode cX8_fallFor 51 = .ok (.invokevirtual 128, 3) := by decide +kernel
theorem dX8_fallFor_54 : decode cX8_fallFor 54 = .ok (.iload_n 2, 1) := by decide +kernel
theorem dX8_fallFor_55 : decode cX8_fallFor 55 = .ok (.if_icmp .lt 5, 3) := by decide +kernel
theorem dX8_fallFor_58 : decode cX8_fallFor 58 = .ok (.iload_n 3, 1) := by decide +kernel
theorem dX8_fallFor_59 : decode cX8_fallFor 59 = .ok (.ireturn, 1) := by decide +kernel
theorem dX8_fallFor_60 : decode cX8_fallFor 60 = .ok (.iinc 3 1, 3) := by decide +kernel
theorem dX8_fallFor_63 : decode cX8_fallFor 63 = .ok (.goto (-28), 3) := by decide +kernel
theorem dX8_fallFor_66 : decode cX8_fallFor 66 = .ok (.bipush (-4), 2) := by decide +kernel
theorem dX8_fallFor_68 : decode cX8_fallFor 68 = .ok (.ireturn, 1) := by decide +kernel
theorem dX8_blowsTo_0 : decode cX8_blowsTo 0 = .ok (.aload_n 0, 1) := by decide +kernel
theorem dX8_blowsTo_1 : decode cX8_blowsTo 1 = .ok (.iload_n 1, 1) := by decide +kernel
theorem dX8_blowsTo_2 : decode cX8_blowsTo 2 = .ok (.invokevirtual 103, 3) := by decide +kernel
theorem dX8_blowsTo_5 : decode cX8_blowsTo 5 = .ok (.ifCond .eq 20, 3) := by decide +kernel
theorem dX8_blowsTo_8 : decode cX8_blowsTo 8 = .ok (.iload_n 2, 1) := by decide +kernel
theorem dX8_blowsTo_9 : decode cX8_blowsTo 9 = .ok (.invokestatic 139, 3) := by decide +kernel
theorem dX8_blowsTo_12 : decode cX8_blowsTo 12 = .ok (.ifCond .eq 13, 3) := by decide +kernel
theorem dX8_blowsTo_15 : decode cX8_blowsTo 15 = .ok (.iload_n 3, 1) := by decide +kernel
theorem dX8_blowsTo_16 : decode cX8_blowsTo 16 = .ok (.iconst 0, 1) := by decide +kernel
theorem dX8_blowsTo_17 : decode cX8_blowsTo 17 = .ok (.ldc 89, 2) := by decide +kernel
theorem dX8_blowsTo_19 : decode cX8_blowsTo 19 = .ok (.invokestatic 51, 3) := by decide +kernel
theorem dX8_blowsTo_22 : decode cX8_blowsTo 22 = .ok (.ifCond .ne 5, 3) := by decide +kernel
theorem dX8_blowsTo_25 : decode cX8_blowsTo 25 = .ok (.iconst (-1), 1) := by decide +kernel
theorem dX8_blowsTo_26 : decode cX8_blowsTo 26 = .ok (.ireturn, 1) := by decide +kernel
theorem dX8_blowsTo_27 : decode cX8_blowsTo 27 = .ok (.aload_n 0, 1) := by decide +kernel
theorem dX8_blowsTo_28 : decode cX8_blowsTo 28 = .ok (.iload_n 1, 1) := by decide +kernel
theorem dX8_blowsTo_29 : decode cX8_blowsTo 29 = .ok (.iconst 3, 1) := by decide +kernel
theorem dX8_blowsTo_30 : decode cX8_blowsTo 30 = .ok (.invokevirtual 62, 3) := by decide +kernel
theorem dX8_blowsTo_33 : decode cX8_blowsTo 33 = .ok (.istore 4, 2) := by decide +kernel
theorem dX8_blowsTo_35 : decode cX8_blowsTo 35 = .ok (.iconst 0, 1) := by decide +kernel
theorem dX8_blowsTo_36 : decode cX8_blowsTo 36 = .ok (.istore 5, 2) := by decide +kernel
theorem dX8_blowsTo_38 : decode cX8_blowsTo 38 = .ok (.iload 4, 2) := by decide +kernel
theorem dX8_blowsTo_40 : decode cX8_blowsTo 40 = .ok (.iload_n 3, 1) := by decide +kernel
theorem dX8_blowsTo_41 : decode cX8_blowsTo 41 = .ok (.if_icmp .ge 34, 3) := by decide +kernel
theorem dX8_blowsTo_44 : decode cX8_blowsTo 44 = .ok (.aload_n 0, 1) := by decide +kernel
theorem dX8_blowsTo_45 : decode cX8_blowsTo 45 = .ok (.iload_n 1, 1) := by decide +kernel
theorem dX8_blowsTo_46 : decode cX8_blowsTo 46 = .ok (.iload 4, 2) := by decide +kernel
theorem dX8_blowsTo_48 : decode cX8_blowsTo 48 = .ok (.iload_n 2, 1) := by decide +kernel
theorem dX8_blowsTo_49 : decode cX8_blowsTo 49 = .ok (.invokevirtual 128, 3) := by decide +kernel
theorem dX8_blowsTo_52 : decode cX8_blowsTo 52 = .ok (.istore 6, 2) := by decide +kernel
theorem dX8_blowsTo_54 : decode cX8_blowsTo 54 = .ok (.iload 6, 2) := by decide +kernel
theorem dX8_blowsTo_56 : decode cX8_blowsTo 56 = .ok (.ifCond .ne 6, 3) := by decide +kernel
theorem dX8_blowsTo_59 : decode cX8_blowsTo 59 = .ok (.bipush (-4), 2) := by decide +kernel
theorem dX8_blowsTo_61 : decode cX8_blowsTo 61 = .ok (.ireturn, 1) := by decide +kernel
theorem dX8_blowsTo_62 : decode cX8_blowsTo 62 = .ok (.iload 4, 2) := by decide +kernel
theorem dX8_blowsTo_64 : decode cX8_blowsTo 64 = .ok (.iload 6, 2) := by decide +kernel
theorem dX8_blowsTo_66 : decode cX8_blowsTo 66 = .ok (.iadd, 1) := by decide +kernel
theorem dX8_blowsTo_67 : decode cX8_blowsTo 67 = .ok (.istore 4, 2) := by decide +kernel
theorem dX8_blowsTo_69 : decode cX8_blowsTo 69 = .ok (.iinc 5 1, 3) := by decide +kernel
theorem dX8_blowsTo_72 : decode cX8_blowsTo 72 = .ok (.goto (-34), 3) := by decide +kernel
theorem dX8_blowsTo_75 : decode cX8_blowsTo 75 = .ok (.iload 5, 2) := by decide +kernel
theorem dX8_blowsTo_77 : decode cX8_blowsTo 77 = .ok (.ireturn, 1) := by decide +kernel
theorem dX8_test_0 : decode cX8_test 0 = .ok (.aload_n 0, 1) := by decide +kernel
theorem dX8_test_1 : decode cX8_test 1 = .ok (.iload_n 1, 1) := by decide +kernel
theorem dX8_test_2 : decode cX8_test 2 = .ok (.invokevirtual 103, 3) := by decide +kernel
theorem dX8_test_5 : decode cX8_test 5 = .ok (.ifCond .eq 13, 3) := by decide +kernel
theorem dX8_test_8 : decode cX8_test 8 = .ok (.iload_n 2, 1) := by decide +kernel
theorem dX8_test_9 : decode cX8_test 9 = .ok (.iconst 1, 1) := by decide +kernel
theorem dX8_test_10 : decode cX8_test 10 = .ok (.ldc 131, 2) := by decide +kernel
theorem dX8_test_12 : decode cX8_test 12 = .ok (.invokestatic 51, 3) := by decide +kernel
theorem dX8_test_15 : decode cX8_test 15 = .ok (.ifCond .ne 5, 3) := by decide +kernel
theorem dX8_test_18 : decode cX8_test 18 = .ok (.iconst (-1), 1) := by decide +kernel
theorem dX8_test_19 : decode cX8_test 19 = .ok (.ireturn, 1) := by decide +kernel
theorem dX8_test_20 : decode cX8_test 20 = .ok (.aload_n 0, 1) := by decide +kernel
theorem dX8_test_21 : decode cX8_test 21 = .ok (.invokevirtual 55, 3) := by decide +kernel
theorem dX8_test_24 : decode cX8_test 24 = .ok (.aload_n 0, 1) := by decide +kernel
theorem dX8_test_25 : decode cX8_test 25 = .ok (.iload_n 1, 1) := by decide +kernel
theorem dX8_test_26 : decode cX8_test 26 = .ok (.iconst 3, 1) := by decide +kernel
theorem dX8_test_27 : decode cX8_test 27 = .ok (.invokevirtual 62, 3) := by decide +kernel
theorem dX8_test_30 : decode cX8_test 30 = .ok (.istore_n 3, 1) := by decide +kernel
theorem dX8_test_31 : decode cX8_test 31 = .ok (.aload_n 0, 1) := by decide +kernel
theorem dX8_test_32 : decode cX8_test 32 = .ok (.iload_n 3, 1) := by decide +kernel
theorem dX8_test_33 : decode cX8_test 33 = .ok (.invokevirtual 118, 3) := by decide +kernel
theorem dX8_test_36 : decode cX8_test 36 = .ok (.bipush 10, 2) := by decide +kernel
theorem dX8_test_38 : decode cX8_test 38 = .ok (.imul, 1) := by decide +kernel
theorem dX8_test_39 : decode cX8_test 39 = .ok (.iload_n 3, 1) := by decide +kernel
theorem dX8_test_40 : decode cX8_test 40 = .ok (.bipush 100, 2) := by decide +kernel
theorem dX8_test_42 : decode cX8_test 42 = .ok (.idiv, 1) := by decide +kernel
theorem dX8_test_43 : decode cX8_test 43 = .ok (.iadd, 1) := by decide +kernel
theorem dX8_test_44 : decode cX8_test 44 = .ok (.istore 4, 2) := by decide +kernel
theorem dX8_test_46 : decode cX8_test 46 = .ok (.iload_n 2, 1) := by decide +kernel
theorem dX8_test_47 : decode cX8_test 47 = .ok (.iload 4, 2) := by decide +kernel
theorem dX8_test_49 : decode cX8_test 49 = .ok (.if_icmp .gt 5, 3) := by decide +kernel
theorem dX8_test_52 : decode cX8_test 52 = .ok (.iconst 0, 1) := by decide +kernel
theorem dX8_test_53 : decode cX8_test 53 = .ok (.ireturn, 1) := by decide +kernel
theorem dX8_test_54 : decode cX8_test 54 = .ok (.iload_n 2, 1) := by decide +kernel
theorem dX8_test_55 : decode cX8_test 55 = .ok (.iload 4, 2) := by decide +kernel
theorem dX8_test_57 : decode cX8_test 57 = .ok (.isub, 1) := by decide +kernel
theorem dX8_test_58 : decode cX8_test 58 = .ok (.bipush 10, 2) := by decide +kernel
theorem dX8_test_60 : decode cX8_test 60 = .ok (.idiv, 1) := by decide +kernel
theorem dX8_test_61 : decode cX8_test 61 = .ok (.iconst 1, 1) := by decide +kernel
theorem dX8_test_62 : decode cX8_test 62 = .ok (.iadd, 1) := by decide +kernel
theorem dX8_test_63 : decode cX8_test 63 = .ok (.aload_n 0, 1) := by decide +kernel
theorem dX8_test_64 : decode cX8_test 64 = .ok (.iload_n 1, 1) := by decide +kernel
theorem dX8_test_65 : decode cX8_test 65 = .ok (.iconst 2, 1) := by decide +kernel
theorem dX8_test_66 : decode cX8_test 66 = .ok (.invokevirtual 62, 3) := by decide +kernel
theorem dX8_test_69 : decode cX8_test 69 = .ok (.iload_n 3, 1) := by decide +kernel
theorem dX8_test_70 : decode cX8_test 70 = .ok (.isub, 1) := by decide +kernel
theorem dX8_test_71 : decode cX8_test 71 = .ok (.invokestatic 121, 3) := by decide +kernel
theorem dX8_test_74 : decode cX8_test 74 = .ok (.istore 5, 2) := by decide +kernel
theorem dX8_test_76 : decode cX8_test 76 = .ok (.aload_n 0, 1) := by decide +kernel
theorem dX8_test_77 : decode cX8_test 77 = .ok (.iload_n 1, 1) := by decide +kernel
theorem dX8_test_78 : decode cX8_test 78 = .ok (.iconst 3, 1) := by decide +kernel
theorem dX8_test_79 : decode cX8_test 79 = .ok (.iload_n 3, 1) := by decide +kernel
theorem dX8_test_80 : decode cX8_test 80 = .ok (.iload 5, 2) := by decide +kernel
theorem dX8_test_82 : decode cX8_test 82 = .ok (.iadd, 1) := by decide +kernel
theorem dX8_test_83 : decode cX8_test 83 = .ok (.invokevirtual 93, 3) := by decide +kernel
theorem dX8_test_86 : decode cX8_test 86 = .ok (.aload_n 0, 1) := by decide +kernel
theorem dX8_test_87 : decode cX8_test 87 = .ok (.iload_n 1, 1) := by decide +kernel
theorem dX8_test_88 : decode cX8_test 88 = .ok (.bipush 6, 2) := by decide +kernel
theorem dX8_test_90 : decode cX8_test 90 = .ok (.iconst 0, 1) := by decide +kernel
theorem dX8_test_91 : decode cX8_test 91 = .ok (.invokevirtual 93, 3) := by decide +kernel
theorem dX8_test_94 : decode cX8_test 94 = .ok (.aload_n 0, 1) := by decide +kernel
theorem dX8_test_95 : decode cX8_test 95 = .ok (.iload_n 1, 1) := by decide +kernel
theorem dX8_test_96 : decode cX8_test 96 = .ok (.bipush 9, 2) := by decide +kernel
theorem dX8_test_98 : decode cX8_test 98 = .ok (.aload_n 0, 1) := by decide +kernel
theorem dX8_test_99 : decode cX8_test 99 = .ok (.iload_n 1, 1) := by decide +kernel
theorem dX8_test_100 : decode cX8_test 100 = .ok (.bipush 9, 2) := by decide +kernel
theorem dX8_test_102 : decode cX8_test 102 = .ok (.invokevirtual 62, 3) := by decide +kernel
theorem dX8_test_105 : decode cX8_test 105 = .ok (.iload 5, 2) := by decide +kernel
theorem dX8_test_107 : decode cX8_test 107 = .ok (.iadd, 1) := by decide +kernel
theorem dX8_test_108 : decode cX8_test 108 = .ok (.invokevirtual 93, 3) := by decide +kernel
theorem dX8_test_111 : decode cX8_test 111 = .ok (.aload_n 0, 1) := by decide +kernel
theorem dX8_test_112 : decode cX8_test 112 = .ok (.getfield 7, 3) := by decide +kernel
theorem dX8_test_115 : decode cX8_test 115 = .ok (.bipush 23, 2) := by decide +kernel
theorem dX8_test_117 : decode cX8_test 117 = .ok (.dup2, 1) := by decide +kernel
theorem dX8_test_118 : decode cX8_test 118 = .ok (.iaload, 1) := by decide +kernel
theorem dX8_test_119 : decode cX8_test 119 = .ok (.iload 5, 2) := by decide +kernel
theorem dX8_test_121 : decode cX8_test 121 = .ok (.iadd, 1) := by decide +kernel
theorem dX8_test_122 : decode cX8_test 122 = .ok (.iastore, 1) := by decide +kernel
theorem dX8_test_123 : decode cX8_test 123 = .ok (.iload 5, 2) := by decide +kernel
theorem dX8_test_125 : decode cX8_test 125 = .ok (.ireturn, 1) := by decide +kernel
theorem dX8_endsRun_0 : decode cX8_endsRun 0 = .ok (.iload_n 2, 1) := by decide +kernel
theorem dX8_endsRun_1 : decode cX8_endsRun 1 = .ok (.iconst 2, 1) := by decide +kernel
theorem dX8_endsRun_2 : decode cX8_endsRun 2 = .ok (.if_icmp .le 43, 3) := by decide +kernel
theorem dX8_endsRun_5 : decode cX8_endsRun 5 = .ok (.aload_n 0, 1) := by decide +kernel
theorem dX8_endsRun_6 : decode cX8_endsRun 6 = .ok (.getfield 26, 3) := by decide +kernel
theorem dX8_endsRun_9 : decode cX8_endsRun 9 = .ok (.aload_n 0, 1) := by decide +kernel
theorem dX8_endsRun_10 : decode cX8_endsRun 10 = .ok (.getfield 148, 3) := by decide +kernel
theorem dX8_endsRun_13 : decode cX8_endsRun 13 = .ok (.iload_n 1, 1) := by decide +kernel
theorem dX8_endsRun_14 : decode cX8_endsRun 14 = .ok (.iastore, 1) := by decide +kernel
theorem dX8_endsRun_15 : decode cX8_endsRun 15 = .ok (.aload_n 0, 1) := by decide +kernel
theorem dX8_endsRun_16 : decode cX8_endsRun 16 = .ok (.getfield 29, 3) := by decide +kernel
theorem dX8_endsRun_19 : decode cX8_endsRun 19 = .ok (.aload_n 0, 1) := by decide +kernel
theorem dX8_endsRun_20 : decode cX8_endsRun 20 = .ok (.getfield 148, 3) := by decide +kernel
theorem dX8_endsRun_23 : decode cX8_endsRun 23 = .ok (.iload_n 2, 1) := by decide +kernel
theorem dX8_endsRun_24 : decode cX8_endsRun 24 = .ok (.iastore, 1) := by decide +kernel
theorem dX8_endsRun_25 : decode cX8_endsRun 25 = .ok (.aload_n 0, 1) := by decide +kernel
theorem dX8_endsRun_26 : decode cX8_endsRun 26 = .ok (.getfield 32, 3) := by decide +kernel
theorem dX8_endsRun_29 : decode cX8_endsRun 29 = .ok (.aload_n 0, 1) := by decide +kernel
theorem dX8_endsRun_30 : decode cX8_endsRun 30 = .ok (.getfield 148, 3) := by decide +kernel
theorem dX8_endsRun_33 : decode cX8_endsRun 33 = .ok (.iload_n 3, 1) := by decide +kernel
theorem dX8_endsRun_34 : decode cX8_endsRun 34 = .ok (.iastore, 1) := by decide +kernel
theorem dX8_endsRun_35 : decode cX8_endsRun 35 = .ok (.aload_n 0, 1) := by decide +kernel
theorem dX8_endsRun_36 : decode cX8_endsRun 36 = .ok (.dup, 1) := by decide +kernel
theorem dX8_endsRun_37 : decode cX8_endsRun 37 = .ok (.getfield 148, 3) := by decide +kernel
theorem dX8_endsRun_40 : decode cX8_endsRun 40 = .ok (.iconst 1, 1) := by decide +kernel
theorem dX8_endsRun_41 : decode cX8_endsRun 41 = .ok (.iadd, 1) := by decide +kernel
theorem dX8_endsRun_42 : decode cX8_endsRun 42 = .ok (.putfield 148, 3) := by decide +kernel
theorem dX8_endsRun_45 : decode cX8_endsRun 45 = .ok (.return_, 1) := by decide +kernel
theorem dX8_findRuns_0 : decode cX8_findRuns 0 = .ok (.aload_n 0, 1) := by decide +kernel
theorem dX8_findRuns_1 : decode cX8_findRuns 1 = .ok (.iconst 0, 1) := by decide +kernel
theorem dX8_findRuns_2 : decode cX8_findRuns 2 = .ok (.putfield 148, 3) := by decide +kernel
theorem dX8_findRuns_5 : decode cX8_findRuns 5 = .ok (.iconst 0, 1) := by decide +kernel
theorem dX8_findRuns_6 : decode cX8_findRuns 6 = .ok (.istore_n 2, 1) := by decide +kernel
theorem dX8_findRuns_7 : decode cX8_findRuns 7 = .ok (.iconst 0, 1) := by decide +kernel
theorem dX8_findRuns_8 : decode cX8_findRuns 8 = .ok (.istore_n 3, 1) := by decide +kernel
theorem dX8_findRuns_9 : decode cX8_findRuns 9 = .ok (.iconst 0, 1) := by decide +kernel
theorem dX8_findRuns_10 : decode cX8_findRuns 10 = .ok (.istore 4, 2) := by decide +kernel
theorem dX8_findRuns_12 : decode cX8_findRuns 12 = .ok (.iconst 0, 1) := by decide +kernel
theorem dX8_findRuns_13 : decode cX8_findRuns 13 = .ok (.istore 5, 2) := by decide +kernel
theorem dX8_findRuns_15 : decode cX8_findRuns 15 = .ok (.iload 5, 2) := by decide +kernel
theorem dX8_findRuns_17 : decode cX8_findRuns 17 = .ok (.aload_n 0, 1) := by decide +kernel
theorem dX8_findRuns_18 : decode cX8_findRuns 18 = .ok (.iload_n 1, 1) := by decide +kernel
theorem dX8_findRuns_19 : decode cX8_findRuns 19 = .ok (.bipush 10, 2) := by decide +kernel
theorem dX8_findRuns_21 : decode cX8_findRuns 21 = .ok (.invokevirtual 62, 3) := by decide +kernel
theorem dX8_findRuns_24 : decode cX8_findRuns 24 = .ok (.if_icmp .ge 86, 3) := by decide +kernel
theorem dX8_findRuns_27 : decode cX8_findRuns 27 = .ok (.aload_n 0, 1) := by decide +kernel
theorem dX8_findRuns_28 : decode cX8_findRuns 28 = .ok (.iload_n 1, 1) := by decide +kernel
theorem dX8_findRuns_29 : decode cX8_findRuns 29 = .ok (.bipush 11, 2) := by decide +kernel
theorem dX8_findRuns_31 : decode cX8_findRuns 31 = .ok (.iload 5, 2) := by decide +kernel
theorem dX8_findRuns_33 : decode cX8_findRuns 33 = .ok (.iadd, 1) := by decide +kernel
theorem dX8_findRuns_34 : decode cX8_findRuns 34 = .ok (.invokevirtual 62, 3) := by decide +kernel
theorem dX8_findRuns_37 : decode cX8_findRuns 37 = .ok (.istore 6, 2) := by decide +kernel
theorem dX8_findRuns_39 : decode cX8_findRuns 39 = .ok (.iload 6, 2) := by decide +kernel
theorem dX8_findRuns_41 : decode cX8_findRuns 41 = .ok (.ifCond .le 63, 3) := by decide +kernel
theorem dX8_findRuns_44 : decode cX8_findRuns 44 = .ok (.iload_n 3, 1) := by decide +kernel
theorem dX8_findRuns_45 : decode cX8_findRuns 45 = .ok (.ifCond .le 25, 3) := by decide +kernel
theorem dX8_findRuns_48 : decode cX8_findRuns 48 = .ok (.iload 6, 2) := by decide +kernel
theorem dX8_findRuns_50 : decode cX8_findRuns 50 = .ok (.aload_n 0, 1) := by decide +kernel
theorem dX8_findRuns_51 : decode cX8_findRuns 51 = .ok (.iload_n 1, 1) := by decide +kernel
theorem dX8_findRuns_52 : decode cX8_findRuns 52 = .ok (.bipush 11, 2) := by decide +kernel
theorem dX8_findRuns_54 : decode cX8_findRuns 54 = .ok (.iload_n 2, 1) := by decide +kernel
theorem dX8_findRuns_55 : decode cX8_findRuns 55 = .ok (.iadd, 1) := by decide +kernel
theorem dX8_findRuns_56 : decode cX8_findRuns 56 = .ok (.invokevirtual 62, 3) := by decide +kernel
theorem dX8_findRuns_59 : decode cX8_findRuns 59 = .ok (.invokestatic 97, 3) := by decide +kernel
theorem dX8_findRuns_62 : decode cX8_findRuns 62 = .ok (.iconst 1, 1) := by decide +kernel
theorem dX8_findRuns_63 : decode cX8_findRuns 63 = .ok (.if_icmp .gt 7, 3) := by decide +kernel
theorem dX8_findRuns_66 : decode cX8_findRuns 66 = .ok (.iconst 1, 1) := by decide +kernel
theorem dX8_findRuns_67 : decode cX8_findRuns 67 = .ok (.goto 4, 3) := by decide +kernel
theorem dX8_findRuns_70 : decode cX8_findRuns 70 = .ok (.iconst 0, 1) := by decide +kernel
theorem dX8_findRuns_71 : decode cX8_findRuns 71 = .ok (.istore 7, 2) := by decide +kernel
theorem dX8_findRuns_73 : decode cX8_findRuns 73 = .ok (.iload 7, 2) := by decide +kernel
theorem dX8_findRuns_75 : decode cX8_findRuns 75 = .ok (.ifCond .ne 19, 3) := by decide +kernel
theorem dX8_findRuns_78 : decode cX8_findRuns 78 = .ok (.aload_n 0, 1) := by decide +kernel
theorem dX8_findRuns_79 : decode cX8_findRuns 79 = .ok (.iload_n 2, 1) := by decide +kernel
theorem dX8_findRuns_80 : decode cX8_findRuns 80 = .ok (.iload_n 3, 1) := by decide +kernel
theorem dX8_findRuns_81 : decode cX8_findRuns 81 = .ok (.iload 4, 2) := by decide +kernel
theorem dX8_findRuns_83 : decode cX8_findRuns 83 = .ok (.invokevirtual 151, 3) := by decide +kernel
theorem dX8_findRuns_86 : decode cX8_findRuns 86 = .ok (.iload 5, 2) := by decide +kernel
theorem dX8_findRuns_88 : decode cX8_findRuns 88 = .ok (.istore_n 2, 1) := by decide +kernel
theorem dX8_findRuns_89 : decode cX8_findRuns 89 = .ok (.iconst 0, 1) := by decide +kernel
theorem dX8_findRuns_90 : decode cX8_findRuns 90 = .ok (.istore_n 3, 1) := by decide +kernel
theorem dX8_findRuns_91 : decode cX8_findRuns 91 = .ok (.iconst 0, 1) := by decide +kernel
theorem dX8_findRuns_92 : decode cX8_findRuns 92 = .ok (.istore 4, 2) := by decide +kernel
theorem dX8_findRuns_94 : decode cX8_findRuns 94 = .ok (.iinc 3 1, 3) := by decide +kernel
theorem dX8_findRuns_97 : decode cX8_findRuns 97 = .ok (.iload 4, 2) := by decide +kernel
theorem dX8_findRuns_99 : decode cX8_findRuns 99 = .ok (.iload 6, 2) := by decide +kernel
theorem dX8_findRuns_101 : decode cX8_findRuns 101 = .ok (.iadd, 1) := by decide +kernel
theorem dX8_findRuns_102 : decode cX8_findRuns 102 = .ok (.istore 4, 2) := by decide +kernel
theorem dX8_findRuns_104 : decode cX8_findRuns 104 = .ok (.iinc 5 1, 3) := by decide +kernel
theorem dX8_findRuns_107 : decode cX8_findRuns 107 = .ok (.goto (-92), 3) := by decide +kernel
theorem dX8_findRuns_110 : decode cX8_findRuns 110 = .ok (.aload_n 0, 1) := by decide +kernel
theorem dX8_findRuns_111 : decode cX8_findRuns 111 = .ok (.iload_n 2, 1) := by decide +kernel
theorem dX8_findRuns_112 : decode cX8_findRuns 112 = .ok (.iload_n 3, 1) := by decide +kernel
theorem dX8_findRuns_113 : decode cX8_findRuns 113 = .ok (.iload 4, 2) := by decide +kernel
theorem dX8_findRuns_115 : decode cX8_findRuns 115 = .ok (.invokevirtual 151, 3) := by decide +kernel
theorem dX8_findRuns_118 : decode cX8_findRuns 118 = .ok (.return_, 1) := by decide +kernel
theorem dX8_runs_0 : decode cX8_runs 0 = .ok (.aload_n 0, 1) := by decide +kernel
theorem dX8_runs_1 : decode cX8_runs 1 = .ok (.iload_n 1, 1) := by decide +kernel
theorem dX8_runs_2 : decode cX8_runs 2 = .ok (.invokevirtual 103, 3) := by decide +kernel
theorem dX8_runs_5 : decode cX8_runs 5 = .ok (.ifCond .ne 5, 3) := by decide +kernel
theorem dX8_runs_8 : decode cX8_runs 8 = .ok (.iconst (-1), 1) := by decide +kernel
theorem dX8_runs_9 : decode cX8_runs 9 = .ok (.ireturn, 1) := by decide +kernel
theorem dX8_runs_10 : decode cX8_runs 10 = .ok (.aload_n 0, 1) := by decide +kernel
theorem dX8_runs_11 : decode cX8_runs 11 = .ok (.iload_n 1, 1) := by decide +kernel
theorem dX8_runs_12 : decode cX8_runs 12 = .ok (.invokevirtual 154, 3) := by decide +kernel
theorem dX8_runs_15 : decode cX8_runs 15 = .ok (.aload_n 0, 1) := by decide +kernel
theorem dX8_runs_16 : decode cX8_runs 16 = .ok (.getfield 148, 3) := by decide +kernel
theorem dX8_runs_19 : decode cX8_runs 19 = .ok (.ireturn, 1) := by decide +kernel
theorem dX8_run_0 : decode cX8_run 0 = .ok (.aload_n 0, 1) := by decide +kernel
theorem dX8_run_1 : decode cX8_run 1 = .ok (.iload_n 1, 1) := by decide +kernel
theorem dX8_run_2 : decode cX8_run 2 = .ok (.invokevirtual 103, 3) := by decide +kernel
theorem dX8_run_5 : decode cX8_run 5 = .ok (.ifCond .eq 16, 3) := by decide +kernel
theorem dX8_run_8 : decode cX8_run 8 = .ok (.iload_n 2, 1) := by decide +kernel
theorem dX8_run_9 : decode cX8_run 9 = .ok (.ifCond .lt 12, 3) := by decide +kernel
theorem dX8_run_12 : decode cX8_run 12 = .ok (.iload_n 3, 1) := by decide +kernel
theorem dX8_run_13 : decode cX8_run 13 = .ok (.iconst 0, 1) := by decide +kernel
theorem dX8_run_14 : decode cX8_run 14 = .ok (.iconst 3, 1) := by decide +kernel
theorem dX8_run_15 : decode cX8_run 15 = .ok (.invokestatic 51, 3) := by decide +kernel
theorem dX8_run_18 : decode cX8_run 18 = .ok (.ifCond .ne 5, 3) := by decide +kernel
theorem dX8_run_21 : decode cX8_run 21 = .ok (.iconst (-1), 1) := by decide +kernel
theorem dX8_run_22 : decode cX8_run 22 = .ok (.ireturn, 1) := by decide +kernel
theorem dX8_run_23 : decode cX8_run 23 = .ok (.aload_n 0, 1) := by decide +kernel
theorem dX8_run_24 : decode cX8_run 24 = .ok (.iload_n 1, 1) := by decide +kernel
theorem dX8_run_25 : decode cX8_run 25 = .ok (.invokevirtual 154, 3) := by decide +kernel
theorem dX8_run_28 : decode cX8_run 28 = .ok (.iload_n 2, 1) := by decide +kernel
theorem dX8_run_29 : decode cX8_run 29 = .ok (.aload_n 0, 1) := by decide +kernel
theorem dX8_run_30 : decode cX8_run 30 = .ok (.getfield 148, 3) := by decide +kernel
theorem dX8_run_33 : decode cX8_run 33 = .ok (.if_icmp .lt 6, 3) := by decide +kernel
theorem dX8_run_36 : decode cX8_run 36 = .ok (.bipush (-4), 2) := by decide +kernel
theorem dX8_run_38 : decode cX8_run 38 = .ok (.ireturn, 1) := by decide +kernel
theorem dX8_run_39 : decode cX8_run 39 = .ok (.iload_n 3, 1) := by decide +kernel
theorem dX8_run_40 : decode cX8_run 40 = .ok (.tableswitch 65 0 2 #[28, 43, 50], 28) := by decide +kernel
theorem dX8_run_68 : decode cX8_run 68 = .ok (.aload_n 0, 1) := by decide +kernel
theorem dX8_run_69 : decode cX8_run 69 = .ok (.iload_n 1, 1) := by decide +kernel
theorem dX8_run_70 : decode cX8_run 70 = .ok (.bipush 11, 2) := by decide +kernel
theorem dX8_run_72 : decode cX8_run 72 = .ok (.aload_n 0, 1) := by decide +kernel
theorem dX8_run_73 : decode cX8_run 73 = .ok (.getfield 26, 3) := by decide +kernel
theorem dX8_run_76 : decode cX8_run 76 = .ok (.iload_n 2, 1) := by decide +kernel
theorem dX8_run_77 : decode cX8_run 77 = .ok (.iaload, 1) := by decide +kernel
theorem dX8_run_78 : decode cX8_run 78 = .ok (.iadd, 1) := by decide +kernel
theorem dX8_run_79 : decode cX8_run 79 = .ok (.invokevirtual 62, 3) := by decide +kernel
theorem dX8_run_82 : decode cX8_run 82 = .ok (.ireturn, 1) := by decide +kernel
theorem dX8_run_83 : decode cX8_run 83 = .ok (.aload_n 0, 1) := by decide +kernel
theorem dX8_run_84 : decode cX8_run 84 = .ok (.getfield 29, 3) := by decide +kernel
theorem dX8_run_87 : decode cX8_run 87 = .ok (.iload_n 2, 1) := by decide +kernel
theorem dX8_run_88 : decode cX8_run 88 = .ok (.iaload, 1) := by decide +kernel
theorem dX8_run_89 : decode cX8_run 89 = .ok (.ireturn, 1) := by decide +kernel
theorem dX8_run_90 : decode cX8_run 90 = .ok (.aload_n 0, 1) := by decide +kernel
theorem dX8_run_91 : decode cX8_run 91 = .ok (.iload_n 1, 1) := by decide +kernel
theorem dX8_run_92 : decode cX8_run 92 = .ok (.bipush 51, 2) := by decide +kernel
theorem dX8_run_94 : decode cX8_run 94 = .ok (.aload_n 0, 1) := by decide +kernel
theorem dX8_run_95 : decode cX8_run 95 = .ok (.getfield 26, 3) := by decide +kernel
theorem dX8_run_98 : decode cX8_run 98 = .ok (.iload_n 2, 1) := by decide +kernel
theorem dX8_run_99 : decode cX8_run 99 = .ok (.iaload, 1) := by decide +kernel
theorem dX8_run_100 : decode cX8_run 100 = .ok (.iadd, 1) := by decide +kernel
theorem dX8_run_101 : decode cX8_run 101 = .ok (.invokevirtual 62, 3) := by decide +kernel
theorem dX8_run_104 : decode cX8_run 104 = .ok (.ireturn, 1) := by decide +kernel
theorem dX8_run_105 : decode cX8_run 105 = .ok (.aload_n 0, 1) := by decide +kernel
theorem dX8_run_106 : decode cX8_run 106 = .ok (.getfield 32, 3) := by decide +kernel
theorem dX8_run_109 : decode cX8_run 109 = .ok (.iload_n 2, 1) := by decide +kernel
theorem dX8_run_110 : decode cX8_run 110 = .ok (.iaload, 1) := by decide +kernel
theorem dX8_run_111 : decode cX8_run 111 = .ok (.ireturn, 1) := by decide +kernel
theorem dX8_findFresh_0 : decode cX8_findFresh 0 = .ok (.aload_n 0, 1) := by decide +kernel
theorem dX8_findFresh_1 : decode cX8_findFresh 1 = .ok (.iconst 0, 1) := by decide +kernel
theorem dX8_findFresh_2 : decode cX8_findFresh 2 = .ok (.putfield 158, 3) := by decide +kernel
theorem dX8_findFresh_5 : decode cX8_findFresh 5 = .ok (.iconst 0, 1) := by decide +kernel
theorem dX8_findFresh_6 : decode cX8_findFresh 6 = .ok (.istore_n 1, 1) := by decide +kernel
theorem dX8_findFresh_7 : decode cX8_findFresh 7 = .ok (.iload_n 1, 1) := by decide +kernel
theorem dX8_findFresh_8 : decode cX8_findFresh 8 = .ok (.aload_n 0, 1) := by decide +kernel
theorem dX8_findFresh_9 : decode cX8_findFresh 9 = .ok (.getfield 7, 3) := by decide +kernel
theorem dX8_findFresh_12 : decode cX8_findFresh 12 = .ok (.bipush 19, 2) := by decide +kernel
theorem dX8_findFresh_14 : decode cX8_findFresh 14 = .ok (.iaload, 1) := by decide +kernel
theorem dX8_findFresh_15 : decode cX8_findFresh 15 = .ok (.if_icmp .ge 38, 3) := by decide +kernel
theorem dX8_findFresh_18 : decode cX8_findFresh 18 = .ok (.aload_n 0, 1) := by decide +kernel
theorem dX8_findFresh_19 : decode cX8_findFresh 19 = .ok (.iload_n 1, 1) := by decide +kernel
theorem dX8_findFresh_20 : decode cX8_findFresh 20 = .ok (.iconst 4, 1) := by decide +kernel
theorem dX8_findFresh_21 : decode cX8_findFresh 21 = .ok (.invokevirtual 62, 3) := by decide +kernel
theorem dX8_findFresh_24 : decode cX8_findFresh 24 = .ok (.ifCond .ne 23, 3) := by decide +kernel
theorem dX8_findFresh_27 : decode cX8_findFresh 27 = .ok (.aload_n 0, 1) := by decide +kernel
theorem dX8_findFresh_28 : decode cX8_findFresh 28 = .ok (.getfield 35, 3) := by decide +kernel
theorem dX8_findFresh_31 : decode cX8_findFresh 31 = .ok (.aload_n 0, 1) := by decide +kernel
theorem dX8_findFresh_32 : decode cX8_findFresh 32 = .ok (.getfield 158, 3) := by decide +kernel
theorem dX8_findFresh_35 : decode cX8_findFresh 35 = .ok (.iload_n 1, 1) := by decide +kernel
theorem dX8_findFresh_36 : decode cX8_findFresh 36 = .ok (.iastore, 1) := by decide +kernel
theorem dX8_findFresh_37 : decode cX8_findFresh 37 = .ok (.aload_n 0, 1) := by decide +kernel
theorem dX8_findFresh_38 : decode cX8_findFresh 38 = .ok (.dup, 1) := by decide +kernel
theorem dX8_findFresh_39 : decode cX8_findFresh 39 = .ok (.getfield 158, 3) := by decide +kernel
theorem dX8_findFresh_42 : decode cX8_findFresh 42 = .ok (.iconst 1, 1) := by decide +kernel
theorem dX8_findFresh_43 : decode cX8_findFresh 43 = .ok (.iadd, 1) := by decide +kernel
theorem dX8_findFresh_44 : decode cX8_findFresh 44 = .ok (.putfield 158, 3) := by decide +kernel
theorem dX8_findFresh_47 : decode cX8_findFresh 47 = .ok (.iinc 1 1, 3) := by decide +kernel
theorem dX8_findFresh_50 : decode cX8_findFresh 50 = .ok (.goto (-43), 3) := by decide +kernel
theorem dX8_findFresh_53 : decode cX8_findFresh 53 = .ok (.return_, 1) := by decide +kernel
theorem dX8_layRow_0 : decode cX8_layRow 0 = .ok (.iconst 0, 1) := by decide +kernel
theorem dX8_layRow_1 : decode cX8_layRow 1 = .ok (.istore_n 3, 1) := by decide +kernel
theorem dX8_layRow_2 : decode cX8_layRow 2 = .ok (.iload_n 1, 1) := by decide +kernel
theorem dX8_layRow_3 : decode cX8_layRow 3 = .ok (.istore 4, 2) := by decide +kernel
theorem dX8_layRow_5 : decode cX8_layRow 5 = .ok (.iload_n 2, 1) := by decide +kernel
theorem dX8_layRow_6 : decode cX8_layRow 6 = .ok (.istore 5, 2) := by decide +kernel
theorem dX8_layRow_8 : decode cX8_layRow 8 = .ok (.iconst 0, 1) := by decide +kernel
theorem dX8_layRow_9 : decode cX8_layRow 9 = .ok (.istore 6, 2) := by decide +kernel
theorem dX8_layRow_11 : decode cX8_layRow 11 = .ok (.iload 6, 2) := by decide +kernel
theorem dX8_layRow_13 : decode cX8_layRow 13 = .ok (.aload_n 0, 1) := by decide +kernel
theorem dX8_layRow_14 : decode cX8_layRow 14 = .ok (.getfield 158, 3) := by decide +kernel
theorem dX8_layRow_17 : decode cX8_layRow 17 = .ok (.if_icmp .ge 100, 3) := by decide +kernel
theorem dX8_layRow_20 : decode cX8_layRow 20 = .ok (.iload 5, 2) := by decide +kernel
theorem dX8_layRow_22 : decode cX8_layRow 22 = .ok (.aload_n 0, 1) := by decide +kernel
theorem dX8_layRow_23 : decode cX8_layRow 23 = .ok (.getfield 158, 3) := by decide +kernel
theorem dX8_layRow_26 : decode cX8_layRow 26 = .ok (.iload 6, 2) := by decide +kernel
theorem dX8_layRow_28 : decode cX8_layRow 28 = .ok (.isub, 1) := by decide +kernel
theorem dX8_layRow_29 : decode cX8_layRow 29 = .ok (.idiv, 1) := by decide +kernel
theorem dX8_layRow_30 : decode cX8_layRow 30 = .ok (.istore 5, 2) := by decide +kernel
theorem dX8_layRow_32 : decode cX8_layRow 32 = .ok (.iload 4, 2) := by decide +kernel
theorem dX8_layRow_34 : decode cX8_layRow 34 = .ok (.iload 5, 2) := by decide +kernel
theorem dX8_layRow_36 : decode cX8_layRow 36 = .ok (.idiv, 1) := by decide +kernel
theorem dX8_layRow_37 : decode cX8_layRow 37 = .ok (.istore 7, 2) := by decide +kernel
theorem dX8_layRow_39 : decode cX8_layRow 39 = .ok (.iload 4, 2) := by decide +kernel
theorem dX8_layRow_41 : decode cX8_layRow 41 = .ok (.iload 5, 2) := by decide +kernel
theorem dX8_layRow_43 : decode cX8_layRow 43 = .ok (.irem, 1) := by decide +kernel
theorem dX8_layRow_44 : decode cX8_layRow 44 = .ok (.istore 4, 2) := by decide +kernel
theorem dX8_layRow_46 : decode cX8_layRow 46 = .ok (.iconst 0, 1) := by decide +kernel
theorem dX8_layRow_47 : decode cX8_layRow 47 = .ok (.istore 8, 2) := by decide +kernel
theorem dX8_layRow_49 : decode cX8_layRow 49 = .ok (.iload_n 3, 1) := by decide +kernel
theorem dX8_layRow_50 : decode cX8_layRow 50 = .ok (.iload 8, 2) := by decide +kernel
theorem dX8_layRow_52 : decode cX8_layRow 52 = .ok (.ishr, 1) := by decide +kernel
theorem dX8_layRow_53 : decode cX8_layRow 53 = .ok (.iconst 1, 1) := by decide +kernel
theorem dX8_layRow_54 : decode cX8_layRow 54 = .ok (.iand, 1) := by decide +kernel
theorem dX8_layRow_55 : decode cX8_layRow 55 = .ok (.iconst 1, 1) := by decide +kernel
theorem dX8_layRow_56 : decode cX8_layRow 56 = .ok (.if_icmp .eq 8, 3) := by decide +kernel
theorem dX8_layRow_59 : decode cX8_layRow 59 = .ok (.iload 7, 2) := by decide +kernel
theorem dX8_layRow_61 : decode cX8_layRow 61 = .ok (.ifCond .le 29, 3) := by decide +kernel
theorem dX8_layRow_64 : decode cX8_layRow 64 = .ok (.iload 7, 2) := by decide +kernel
theorem dX8_layRow_66 : decode cX8_layRow 66 = .ok (.iload_n 3, 1) := by decide +kernel
theorem dX8_layRow_67 : decode cX8_layRow 67 = .ok (.iload 8, 2) := by decide +kernel
theorem dX8_layRow_69 : decode cX8_layRow 69 = .ok (.ishr, 1) := by decide +kernel
theorem dX8_layRow_70 : decode cX8_layRow 70 = .ok (.iconst 1, 1) := by decide +kernel
theorem dX8_layRow_71 : decode cX8_layRow 71 = .ok (.iand, 1) := by decide +kernel
theorem dX8_layRow_72 : decode cX8_layRow 72 = .ok (.iconst 1, 1) := by decide +kernel
theorem dX8_layRow_73 : decode cX8_layRow 73 = .ok (.if_icmp .ne 7, 3) := by decide +kernel
theorem dX8_layRow_76 : decode cX8_layRow 76 = .ok (.iconst 0, 1) := by decide +kernel
theorem dX8_layRow_77 : decode cX8_layRow 77 = .ok (.goto 4, 3) := by decide +kernel
theorem dX8_layRow_80 : decode cX8_layRow 80 = .ok (.iconst 1, 1) := by decide +kernel
theorem dX8_layRow_81 : decode cX8_layRow 81 = .ok (.isub, 1) := by decide +kernel
theorem dX8_layRow_82 : decode cX8_layRow 82 = .ok (.istore 7, 2) := by decide +kernel
theorem dX8_layRow_84 : decode cX8_layRow 84 = .ok (.iinc 8 1, 3) := by decide +kernel
theorem dX8_layRow_87 : decode cX8_layRow 87 = .ok (.goto (-38), 3) := by decide +kernel
theorem dX8_layRow_90 : decode cX8_layRow 90 = .ok (.iload_n 3, 1) := by decide +kernel
theorem dX8_layRow_91 : decode cX8_layRow 91 = .ok (.iconst 1, 1) := by decide +kernel
theorem dX8_layRow_92 : decode cX8_layRow 92 = .ok (.iload 8, 2) := by decide +kernel
theorem dX8_layRow_94 : decode cX8_layRow 94 = .ok (.ishl, 1) := by decide +kernel
theorem dX8_layRow_95 : decode cX8_layRow 95 = .ok (.ior, 1) := by decide +kernel
theorem dX8_layRow_96 : decode cX8_layRow 96 = .ok (.istore_n 3, 1) := by decide +kernel
theorem dX8_layRow_97 : decode cX8_layRow 97 = .ok (.aload_n 0, 1) := by decide +kernel
theorem dX8_layRow_98 : decode cX8_layRow 98 = .ok (.getfield 38, 3) := by decide +kernel
theorem dX8_layRow_101 : decode cX8_layRow 101 = .ok (.iload 6, 2) := by decide +kernel
theorem dX8_layRow_103 : decode cX8_layRow 103 = .ok (.aload_n 0, 1) := by decide +kernel
theorem dX8_layRow_104 : decode cX8_layRow 104 = .ok (.getfield 35, 3) := by decide +kernel
theorem dX8_layRow_107 : decode cX8_layRow 107 = .ok (.iload 8, 2) := by decide +kernel
theorem dX8_layRow_109 : decode cX8_layRow 109 = .ok (.iaload, 1) := by decide +kernel
theorem dX8_layRow_110 : decode cX8_layRow 110 = .ok (.iastore, 1) := by decide +kernel
theorem dX8_layRow_111 : decode cX8_layRow 111 = .ok (.iinc 6 1, 3) := by decide +kernel
theorem dX8_layRow_114 : decode cX8_layRow 114 = .ok (.goto (-103), 3) := by decide +kernel
theorem dX8_layRow_117 : decode cX8_layRow 117 = .ok (.return_, 1) := by decide +kernel
theorem dX8_tries_0 : decode cX8_tries 0 = .ok (.iconst 0, 1) := by decide +kernel
theorem dX8_tries_1 : decode cX8_tries 1 = .ok (.istore 4, 2) := by decide +kernel
theorem dX8_tries_3 : decode cX8_tries 3 = .ok (.iconst 0, 1) := by decide +kernel
theorem dX8_tries_4 : decode cX8_tries 4 = .ok (.istore 5, 2) := by decide +kernel
theorem dX8_tries_6 : decode cX8_tries 6 = .ok (.iload 5, 2) := by decide +kernel
theorem dX8_tries_8 : decode cX8_tries 8 = .ok (.iload_n 3, 1) := by decide +kernel
theorem dX8_tries_9 : decode cX8_tries 9 = .ok (.if_icmp .ge 124, 3) := by decide +kernel
theorem dX8_tries_12 : decode cX8_tries 12 = .ok (.aload_n 0, 1) := by decide +kernel
theorem dX8_tries_13 : decode cX8_tries 13 = .ok (.getfield 44, 3) := by decide +kernel
theorem dX8_tries_16 : decode cX8_tries 16 = .ok (.iload_n 1, 1) := by decide +kernel
theorem dX8_tries_17 : decode cX8_tries 17 = .ok (.iaload, 1) := by decide +kernel
theorem dX8_tries_18 : decode cX8_tries 18 = .ok (.aload_n 0, 1) := by decide +kernel
theorem dX8_tries_19 : decode cX8_tries 19 = .ok (.iload_n 1, 1) := by decide +kernel
theorem dX8_tries_20 : decode cX8_tries 20 = .ok (.iconst 2, 1) := by decide +kernel
theorem dX8_tries_21 : decode cX8_tries 21 = .ok (.invokevirtual 62, 3) := by decide +kernel
theorem dX8_tries_24 : decode cX8_tries 24 = .ok (.if_icmp .ge 109, 3) := by decide +kernel
theorem dX8_tries_27 : decode cX8_tries 27 = .ok (.aload_n 0, 1) := by decide +kernel
theorem dX8_tries_28 : decode cX8_tries 28 = .ok (.iload_n 1, 1) := by decide +kernel
theorem dX8_tries_29 : decode cX8_tries 29 = .ok (.aload_n 0, 1) := by decide +kernel
theorem dX8_tries_30 : decode cX8_tries 30 = .ok (.getfield 44, 3) := by decide +kernel
theorem dX8_tries_33 : decode cX8_tries 33 = .ok (.iload_n 1, 1) := by decide +kernel
theorem dX8_tries_34 : decode cX8_tries 34 = .ok (.iaload, 1) := by decide +kernel
theorem dX8_tries_35 : decode cX8_tries 35 = .ok (.iload_n 2, 1) := by decide +kernel
theorem dX8_tries_36 : decode cX8_tries 36 = .ok (.invokevirtual 128, 3) := by decide +kernel
theorem dX8_tries_39 : decode cX8_tries 39 = .ok (.istore 6, 2) := by decide +kernel
theorem dX8_tries_41 : decode cX8_tries 41 = .ok (.aload_n 0, 1) := by decide +kernel
theorem dX8_tries_42 : decode cX8_tries 42 = .ok (.getfield 44, 3) := by decide +kernel
theorem dX8_tries_45 : decode cX8_tries 45 = .ok (.iload_n 1, 1) := by decide +kernel
theorem dX8_tries_46 : decode cX8_tries 46 = .ok (.dup2, 1) := by decide +kernel
theorem dX8_tries_47 : decode cX8_tries 47 = .ok (.iaload, 1) := by decide +kernel
theorem dX8_tries_48 : decode cX8_tries 48 = .ok (.iload 6, 2) := by decide +kernel
theorem dX8_tries_50 : decode cX8_tries 50 = .ok (.iadd, 1) := by decide +kernel
theorem dX8_tries_51 : decode cX8_tries 51 = .ok (.iastore, 1) := by decide +kernel
theorem dX8_tries_52 : decode cX8_tries 52 = .ok (.iconst 0, 1) := by decide +kernel
theorem dX8_tries_53 : decode cX8_tries 53 = .ok (.istore 7, 2) := by decide +kernel
theorem dX8_tries_55 : decode cX8_tries 55 = .ok (.iload 7, 2) := by decide +kernel
theorem dX8_tries_57 : decode cX8_tries 57 = .ok (.aload_n 0, 1) := by decide +kernel
theorem dX8_tries_58 : decode cX8_tries 58 = .ok (.getfield 7, 3) := by decide +kernel
theorem dX8_tries_61 : decode cX8_tries 61 = .ok (.bipush 19, 2) := by decide +kernel
theorem dX8_tries_63 : decode cX8_tries 63 = .ok (.iaload, 1) := by decide +kernel
theorem dX8_tries_64 : decode cX8_tries 64 = .ok (.if_icmp .ge 63, 3) := by decide +kernel
theorem dX8_tries_67 : decode cX8_tries 67 = .ok (.aload_n 0, 1) := by decide +kernel
theorem dX8_tries_68 : decode cX8_tries 68 = .ok (.iload_n 1, 1) := by decide +kernel
theorem dX8_tries_69 : decode cX8_tries 69 = .ok (.iload 7, 2) := by decide +kernel
theorem dX8_tries_71 : decode cX8_tries 71 = .ok (.invokevirtual 100, 3) := by decide +kernel
theorem dX8_tries_74 : decode cX8_tries 74 = .ok (.ifCond .eq 25, 3) := by decide +kernel
theorem dX8_tries_77 : decode cX8_tries 77 = .ok (.aload_n 0, 1) := by decide +kernel
theorem dX8_tries_78 : decode cX8_tries 78 = .ok (.iload 6, 2) := by decide +kernel
theorem dX8_tries_80 : decode cX8_tries 80 = .ok (.aload_n 0, 1) := by decide +kernel
theorem dX8_tries_81 : decode cX8_tries 81 = .ok (.getfield 44, 3) := by decide +kernel
theorem dX8_tries_84 : decode cX8_tries 84 = .ok (.iload_n 1, 1) := by decide +kernel
theorem dX8_tries_85 : decode cX8_tries 85 = .ok (.iaload, 1) := by decide +kernel
theorem dX8_tries_86 : decode cX8_tries 86 = .ok (.aload_n 0, 1) := by decide +kernel
theorem dX8_tries_87 : decode cX8_tries 87 = .ok (.getfield 44, 3) := by decide +kernel
theorem dX8_tries_90 : decode cX8_tries 90 = .ok (.iload 7, 2) := by decide +kernel
theorem dX8_tries_92 : decode cX8_tries 92 = .ok (.iaload, 1) := by decide +kernel
theorem dX8_tries_93 : decode cX8_tries 93 = .ok (.invokevirtual 124, 3) := by decide +kernel
theorem dX8_tries_96 : decode cX8_tries 96 = .ok (.goto 4, 3) := by decide +kernel
theorem dX8_tries_99 : decode cX8_tries 99 = .ok (.iconst 0, 1) := by decide +kernel
theorem dX8_tries_100 : decode cX8_tries 100 = .ok (.istore 8, 2) := by decide +kernel
theorem dX8_tries_102 : decode cX8_tries 102 = .ok (.aload_n 0, 1) := by decide +kernel
theorem dX8_tries_103 : decode cX8_tries 103 = .ok (.getfield 44, 3) := by decide +kernel
theorem dX8_tries_106 : decode cX8_tries 106 = .ok (.iload 7, 2) := by decide +kernel
theorem dX8_tries_108 : decode cX8_tries 108 = .ok (.dup2, 1) := by decide +kernel
theorem dX8_tries_109 : decode cX8_tries 109 = .ok (.iaload, 1) := by decide +kernel
theorem dX8_tries_110 : decode cX8_tries 110 = .ok (.iload 8, 2) := by decide +kernel
theorem dX8_tries_112 : decode cX8_tries 112 = .ok (.isub, 1) := by decide +kernel
theorem dX8_tries_113 : decode cX8_tries 113 = .ok (.iastore, 1) := by decide +kernel
theorem dX8_tries_114 : decode cX8_tries 114 = .ok (.iload 4, 2) := by decide +kernel
theorem dX8_tries_116 : decode cX8_tries 116 = .ok (.iload 8, 2) := by decide +kernel
theorem dX8_tries_118 : decode cX8_tries 118 = .ok (.iadd, 1) := by decide +kernel
theorem dX8_tries_119 : decode cX8_tries 119 = .ok (.istore 4, 2) := by decide +kernel
theorem dX8_tries_121 : decode cX8_tries 121 = .ok (.iinc 7 1, 3) := by decide +kernel
theorem dX8_tries_124 : decode cX8_tries 124 = .ok (.goto (-69), 3) := by decide +kernel
theorem dX8_tries_127 : decode cX8_tries 127 = .ok (.iinc 5 1, 3) := by decide +kernel
theorem dX8_tries_130 : decode cX8_tries 130 = .ok (.goto (-124), 3) := by decide +kernel
theorem dX8_tries_133 : decode cX8_tries 133 = .ok (.iload 4, 2) := by decide +kernel
theorem dX8_tries_135 : decode cX8_tries 135 = .ok (.ireturn, 1) := by decide +kernel
theorem dX8_findOrder_0 : decode cX8_findOrder 0 = .ok (.iconst 1, 1) := by decide +kernel
theorem dX8_findOrder_1 : decode cX8_findOrder 1 = .ok (.istore_n 3, 1) := by decide +kernel
theorem dX8_findOrder_2 : decode cX8_findOrder 2 = .ok (.iconst 2, 1) := by decide +kernel
theorem dX8_findOrder_3 : decode cX8_findOrder 3 = .ok (.istore 4, 2) := by decide +kernel
theorem dX8_findOrder_5 : decode cX8_findOrder 5 = .ok (.iload 4, 2) := by decide +kernel
theorem dX8_findOrder_7 : decode cX8_findOrder 7 = .ok (.aload_n 0, 1) := by decide +kernel
theorem dX8_findOrder_8 : decode cX8_findOrder 8 = .ok (.getfield 158, 3) := by decide +kernel
theorem dX8_findOrder_11 : decode cX8_findOrder 11 = .ok (.if_icmp .gt 14, 3) := by decide +kernel
theorem dX8_findOrder_14 : decode cX8_findOrder 14 = .ok (.iload_n 3, 1) := by decide +kernel
theorem dX8_findOrder_15 : decode cX8_findOrder 15 = .ok (.iload 4, 2) := by decide +kernel
theorem dX8_findOrder_17 : decode cX8_findOrder 17 = .ok (.imul, 1) := by decide +kernel
theorem dX8_findOrder_18 : decode cX8_findOrder 18 = .ok (.istore_n 3, 1) := by decide +kernel
theorem dX8_findOrder_19 : decode cX8_findOrder 19 = .ok (.iinc 4 1, 3) := by decide +kernel
theorem dX8_findOrder_22 : decode cX8_findOrder 22 = .ok (.goto (-17), 3) := by decide +kernel
theorem dX8_findOrder_25 : decode cX8_findOrder 25 = .ok (.iconst 0, 1) := by decide +kernel
theorem dX8_findOrder_26 : decode cX8_findOrder 26 = .ok (.istore 4, 2) := by decide +kernel
theorem dX8_findOrder_28 : decode cX8_findOrder 28 = .ok (.iload 4, 2) := by decide +kernel
theorem dX8_findOrder_30 : decode cX8_findOrder 30 = .ok (.iload_n 3, 1) := by decide +kernel
theorem dX8_findOrder_31 : decode cX8_findOrder 31 = .ok (.if_icmp .ge 142, 3) := by decide +kernel
theorem dX8_findOrder_34 : decode cX8_findOrder 34 = .ok (.aload_n 0, 1) := by decide +kernel
theorem dX8_findOrder_35 : decode cX8_findOrder 35 = .ok (.iload 4, 2) := by decide +kernel
theorem dX8_findOrder_37 : decode cX8_findOrder 37 = .ok (.iload_n 3, 1) := by decide +kernel
theorem dX8_findOrder_38 : decode cX8_findOrder 38 = .ok (.invokevirtual 161, 3) := by decide +kernel
theorem dX8_findOrder_41 : decode cX8_findOrder 41 = .ok (.iconst 0, 1) := by decide +kernel
theorem dX8_findOrder_42 : decode cX8_findOrder 42 = .ok (.istore 5, 2) := by decide +kernel
theorem dX8_findOrder_44 : decode cX8_findOrder 44 = .ok (.iload 5, 2) := by decide +kernel
theorem dX8_findOrder_46 : decode cX8_findOrder 46 = .ok (.aload_n 0, 1) := by decide +kernel
theorem dX8_findOrder_47 : decode cX8_findOrder 47 = .ok (.getfield 7, 3) := by decide +kernel
theorem dX8_findOrder_50 : decode cX8_findOrder 50 = .ok (.bipush 19, 2) := by decide +kernel
theorem dX8_findOrder_52 : decode cX8_findOrder 52 = .ok (.iaload, 1) := by decide +kernel
theorem dX8_findOrder_53 : decode cX8_findOrder 53 = .ok (.if_icmp .ge 23, 3) := by decide +kernel
theorem dX8_findOrder_56 : decode cX8_findOrder 56 = .ok (.aload_n 0, 1) := by decide +kernel
theorem dX8_findOrder_57 : decode cX8_findOrder 57 = .ok (.getfield 44, 3) := by decide +kernel
theorem dX8_findOrder_60 : decode cX8_findOrder 60 = .ok (.iload 5, 2) := by decide +kernel
theorem dX8_findOrder_62 : decode cX8_findOrder 62 = .ok (.aload_n 0, 1) := by decide +kernel
theorem dX8_findOrder_63 : decode cX8_findOrder 63 = .ok (.iload 5, 2) := by decide +kernel
theorem dX8_findOrder_65 : decode cX8_findOrder 65 = .ok (.iconst 3, 1) := by decide +kernel
theorem dX8_findOrder_66 : decode cX8_findOrder 66 = .ok (.invokevirtual 62, 3) := by decide +kernel
theorem dX8_findOrder_69 : decode cX8_findOrder 69 = .ok (.iastore, 1) := by decide +kernel
theorem dX8_findOrder_70 : decode cX8_findOrder 70 = .ok (.iinc 5 1, 3) := by decide +kernel
theorem dX8_findOrder_73 : decode cX8_findOrder 73 = .ok (.goto (-29), 3) := by decide +kernel
theorem dX8_findOrder_76 : decode cX8_findOrder 76 = .ok (.iconst 0, 1) := by decide +kernel
theorem dX8_findOrder_77 : decode cX8_findOrder 77 = .ok (.istore 5, 2) := by decide +kernel
theorem dX8_findOrder_79 : decode cX8_findOrder 79 = .ok (.iconst 0, 1) := by decide +kernel
theorem dX8_findOrder_80 : decode cX8_findOrder 80 = .ok (.istore 6, 2) := by decide +kernel
theorem dX8_findOrder_82 : decode cX8_findOrder 82 = .ok (.iload 6, 2) := by decide +kernel
theorem dX8_findOrder_84 : decode cX8_findOrder 84 = .ok (.aload_n 0, 1) := by decide +kernel
theorem dX8_findOrder_85 : decode cX8_findOrder 85 = .ok (.getfield 158, 3) := by decide +kernel
theorem dX8_findOrder_88 : decode cX8_findOrder 88 = .ok (.if_icmp .ge 27, 3) := by decide +kernel
theorem dX8_findOrder_91 : decode cX8_findOrder 91 = .ok (.iload 5, 2) := by decide +kernel
theorem dX8_findOrder_93 : decode cX8_findOrder 93 = .ok (.aload_n 0, 1) := by decide +kernel
theorem dX8_findOrder_94 : decode cX8_findOrder 94 = .ok (.aload_n 0, 1) := by decide +kernel
theorem dX8_findOrder_95 : decode cX8_findOrder 95 = .ok (.getfield 38, 3) := by decide +kernel
theorem dX8_findOrder_98 : decode cX8_findOrder 98 = .ok (.iload 6, 2) := by decide +kernel
theorem dX8_findOrder_100 : decode cX8_findOrder 100 = .ok (.iaload, 1) := by decide +kernel
theorem dX8_findOrder_101 : decode cX8_findOrder 101 = .ok (.iload_n 1, 1) := by decide +kernel
theorem dX8_findOrder_102 : decode cX8_findOrder 102 = .ok (.iload_n 2, 1) := by decide +kernel
theorem dX8_findOrder_103 : decode cX8_findOrder 103 = .ok (.invokevirtual 164, 3) := by decide +kernel
theorem dX8_findOrder_106 : decode cX8_findOrder 106 = .ok (.iadd, 1) := by decide +kernel
theorem dX8_findOrder_107 : decode cX8_findOrder 107 = .ok (.istore 5, 2) := by decide +kernel
theorem dX8_findOrder_109 : decode cX8_findOrder 109 = .ok (.iinc 6 1, 3) := by decide +kernel
theorem dX8_findOrder_112 : decode cX8_findOrder 112 = .ok (.goto (-30), 3) := by decide +kernel
theorem dX8_findOrder_115 : decode cX8_findOrder 115 = .ok (.iload 4, 2) := by decide +kernel
theorem dX8_findOrder_117 : decode cX8_findOrder 117 = .ok (.ifCond .eq 12, 3) := by decide +kernel
theorem dX8_findOrder_120 : decode cX8_findOrder 120 = .ok (.iload 5, 2) := by decide +kernel
theorem dX8_findOrder_122 : decode cX8_findOrder 122 = .ok (.aload_n 0, 1) := by decide +kernel
theorem dX8_findOrder_123 : decode cX8_findOrder 123 = .ok (.getfield 167, 3) := by decide +kernel
theorem dX8_findOrder_126 : decode cX8_findOrder 126 = .ok (.if_icmp .ge 41, 3) := by decide +kernel
theorem dX8_findOrder_129 : decode cX8_findOrder 129 = .ok (.aload_n 0, 1) := by decide +kernel
theorem dX8_findOrder_130 : decode cX8_findOrder 130 = .ok (.iload 5, 2) := by decide +kernel
theorem dX8_findOrder_132 : decode cX8_findOrder 132 = .ok (.putfield 167, 3) := by decide +kernel
theorem dX8_findOrder_135 : decode cX8_findOrder 135 = .ok (.iconst 0, 1) := by decide +kernel
theorem dX8_findOrder_136 : decode cX8_findOrder 136 = .ok (.istore 6, 2) := by decide +kernel
theorem dX8_findOrder_138 : decode cX8_findOrder 138 = .ok (.iload 6, 2) := by decide +kernel
theorem dX8_findOrder_140 : decode cX8_findOrder 140 = .ok (.aload_n 0, 1) := by decide +kernel
theorem dX8_findOrder_141 : decode cX8_findOrder 141 = .ok (.getfield 158, 3) := by decide +kernel
theorem dX8_findOrder_144 : decode cX8_findOrder 144 = .ok (.if_icmp .ge 23, 3) := by decide +kernel
theorem dX8_findOrder_147 : decode cX8_findOrder 147 = .ok (.aload_n 0, 1) := by decide +kernel
theorem dX8_findOrder_148 : decode cX8_findOrder 148 = .ok (.getfield 41, 3) := by decide +kernel
theorem dX8_findOrder_151 : decode cX8_findOrder 151 = .ok (.iload 6, 2) := by decide +kernel
theorem dX8_findOrder_153 : decode cX8_findOrder 153 = .ok (.aload_n 0, 1) := by decide +kernel
theorem dX8_findOrder_154 : decode cX8_findOrder 154 = .ok (.getfield 38, 3) := by decide +kernel
theorem dX8_findOrder_157 : decode cX8_findOrder 157 = .ok (.iload 6, 2) := by decide +kernel
theorem dX8_findOrder_159 : decode cX8_findOrder 159 = .ok (.iaload, 1) := by decide +kernel
theorem dX8_findOrder_160 : decode cX8_findOrder 160 = .ok (.iastore, 1) := by decide +kernel
theorem dX8_findOrder_161 : decode cX8_findOrder 161 = .ok (.iinc 6 1, 3) := by decide +kernel
theorem dX8_findOrder_164 : decode cX8_findOrder 164 = .ok (.goto (-26), 3) := by decide +kernel
theorem dX8_findOrder_167 : decode cX8_findOrder 167 = .ok (.iinc 4 1, 3) := by decide +kernel
theorem dX8_findOrder_170 : decode cX8_findOrder 170 = .ok (.goto (-142), 3) := by decide +kernel
theorem dX8_findOrder_173 : decode cX8_findOrder 173 = .ok (.return_, 1) := by decide +kernel
theorem dX8_order_0 : decode cX8_order 0 = .ok (.iload_n 1, 1) := by decide +kernel
theorem dX8_order_1 : decode cX8_order 1 = .ok (.invokestatic 139, 3) := by decide +kernel
theorem dX8_order_4 : decode cX8_order 4 = .ok (.ifCond .eq 17, 3) := by decide +kernel
theorem dX8_order_7 : decode cX8_order 7 = .ok (.iload_n 2, 1) := by decide +kernel
theorem dX8_order_8 : decode cX8_order 8 = .ok (.iconst 1, 1) := by decide +kernel
theorem dX8_order_9 : decode cX8_order 9 = .ok (.bipush 20, 2) := by decide +kernel
theorem dX8_order_11 : decode cX8_order 11 = .ok (.invokestatic 51, 3) := by decide +kernel
theorem dX8_order_14 : decode cX8_order 14 = .ok (.ifCond .eq 7, 3) := by decide +kernel
theorem dX8_order_17 : decode cX8_order 17 = .ok (.iload_n 3, 1) := by decide +kernel
theorem dX8_order_18 : decode cX8_order 18 = .ok (.ifCond .ge 5, 3) := by decide +kernel
theorem dX8_order_21 : decode cX8_order 21 = .ok (.iconst (-1), 1) := by decide +kernel
theorem dX8_order_22 : decode cX8_order 22 = .ok (.ireturn, 1) := by decide +kernel
theorem dX8_order_23 : decode cX8_order 23 = .ok (.aload_n 0, 1) := by decide +kernel
theorem dX8_order_24 : decode cX8_order 24 = .ok (.invokevirtual 170, 3) := by decide +kernel
theorem dX8_order_27 : decode cX8_order 27 = .ok (.aload_n 0, 1) := by decide +kernel
theorem dX8_order_28 : decode cX8_order 28 = .ok (.getfield 158, 3) := by decide +kernel
theorem dX8_order_31 : decode cX8_order 31 = .ok (.iconst 5, 1) := by decide +kernel
theorem dX8_order_32 : decode cX8_order 32 = .ok (.if_icmp .le 6, 3) := by decide +kernel
theorem dX8_order_35 : decode cX8_order 35 = .ok (.bipush (-2), 2) := by decide +kernel
theorem dX8_order_37 : decode cX8_order 37 = .ok (.ireturn, 1) := by decide +kernel
theorem dX8_order_38 : decode cX8_order 38 = .ok (.iload_n 3, 1) := by decide +kernel
theorem dX8_order_39 : decode cX8_order 39 = .ok (.aload_n 0, 1) := by decide +kernel
theorem dX8_order_40 : decode cX8_order 40 = .ok (.getfield 158, 3) := by decide +kernel
theorem dX8_order_43 : decode cX8_order 43 = .ok (.if_icmp .lt 6, 3) := by decide +kernel
theorem dX8_order_46 : decode cX8_order 46 = .ok (.bipush (-4), 2) := by decide +kernel
theorem dX8_order_48 : decode cX8_order 48 = .ok (.ireturn, 1) := by decide +kernel
theorem dX8_order_49 : decode cX8_order 49 = .ok (.aload_n 0, 1) := by decide +kernel
theorem dX8_order_50 : decode cX8_order 50 = .ok (.iload_n 1, 1) := by decide +kernel
theorem dX8_order_51 : decode cX8_order 51 = .ok (.iload_n 2, 1) := by decide +kernel
theorem dX8_order_52 : decode cX8_order 52 = .ok (.invokevirtual 173, 3) := by decide +kernel
theorem dX8_order_55 : decode cX8_order 55 = .ok (.aload_n 0, 1) := by decide +kernel
theorem dX8_order_56 : decode cX8_order 56 = .ok (.getfield 41, 3) := by decide +kernel
theorem dX8_order_59 : decode cX8_order 59 = .ok (.iload_n 3, 1) := by decide +kernel
theorem dX8_order_60 : decode cX8_order 60 = .ok (.iaload, 1) := by decide +kernel
theorem dX8_order_61 : decode cX8_order 61 = .ok (.ireturn, 1) := by decide +kernel
theorem dX8_leastLift_0 : decode cX8_leastLift 0 = .ok (.iload_n 1, 1) := by decide +kernel
theorem dX8_leastLift_1 : decode cX8_leastLift 1 = .ok (.invokestatic 139, 3) := by decide +kernel
theorem dX8_leastLift_4 : decode cX8_leastLift 4 = .ok (.ifCond .eq 13, 3) := by decide +kernel
theorem dX8_leastLift_7 : decode cX8_leastLift 7 = .ok (.iload_n 2, 1) := by decide +kernel
theorem dX8_leastLift_8 : decode cX8_leastLift 8 = .ok (.iconst 1, 1) := by decide +kernel
theorem dX8_leastLift_9 : decode cX8_leastLift 9 = .ok (.bipush 20, 2) := by decide +kernel
theorem dX8_leastLift_11 : decode cX8_leastLift 11 = .ok (.invokestatic 51, 3) := by decide +kernel
theorem dX8_leastLift_14 : decode cX8_leastLift 14 = .ok (.ifCond .ne 5, 3) := by decide +kernel
theorem dX8_leastLift_17 : decode cX8_leastLift 17 = .ok (.iconst (-1), 1) := by decide +kernel
theorem dX8_leastLift_18 : decode cX8_leastLift 18 = .ok (.ireturn, 1) := by decide +kernel
theorem dX8_leastLift_19 : decode cX8_leastLift 19 = .ok (.aload_n 0, 1) := by decide +kernel
theorem dX8_leastLift_20 : decode cX8_leastLift 20 = .ok (.invokevirtual 170, 3) := by decide +kernel
theorem dX8_leastLift_23 : decode cX8_leastLift 23 = .ok (.aload_n 0, 1) := by decide +kernel
theorem dX8_leastLift_24 : decode cX8_leastLift 24 = .ok (.getfield 158, 3) := by decide +kernel
theorem dX8_leastLift_27 : decode cX8_leastLift 27 = .ok (.iconst 5, 1) := by decide +kernel
theorem dX8_leastLift_28 : decode cX8_leastLift 28 = .ok (.if_icmp .le 6, 3) := by decide +kernel
theorem dX8_leastLift_31 : decode cX8_leastLift 31 = .ok (.bipush (-2), 2) := by decide +kernel
theorem dX8_leastLift_33 : decode cX8_leastLift 33 = .ok (.ireturn, 1) := by decide +kernel
theorem dX8_leastLift_34 : decode cX8_leastLift 34 = .ok (.aload_n 0, 1) := by decide +kernel
theorem dX8_leastLift_35 : decode cX8_leastLift 35 = .ok (.iload_n 1, 1) := by decide +kernel
theorem dX8_leastLift_36 : decode cX8_leastLift 36 = .ok (.iload_n 2, 1) := by decide +kernel
theorem dX8_leastLift_37 : decode cX8_leastLift 37 = .ok (.invokevirtual 173, 3) := by decide +kernel
theorem dX8_leastLift_40 : decode cX8_leastLift 40 = .ok (.aload_n 0, 1) := by decide +kernel
theorem dX8_leastLift_41 : decode cX8_leastLift 41 = .ok (.getfield 167, 3) := by decide +kernel
theorem dX8_leastLift_44 : decode cX8_leastLift 44 = .ok (.ireturn, 1) := by decide +kernel
theorem dX8_type_0 : decode cX8_type 0 = .ok (.iload_n 1, 1) := by decide +kernel
theorem dX8_type_1 : decode cX8_type 1 = .ok (.bipush 32, 2) := by decide +kernel
theorem dX8_type_3 : decode cX8_type 3 = .ok (.bipush 126, 2) := by decide +kernel
theorem dX8_type_5 : decode cX8_type 5 = .ok (.invokestatic 51, 3) := by decide +kernel
theorem dX8_type_8 : decode cX8_type 8 = .ok (.ifCond .ne 5, 3) := by decide +kernel
theorem dX8_type_11 : decode cX8_type 11 = .ok (.iconst (-1), 1) := by decide +kernel
theorem dX8_type_12 : decode cX8_type 12 = .ok (.ireturn, 1) := by decide +kernel
theorem dX8_type_13 : decode cX8_type 13 = .ok (.aload_n 0, 1) := by decide +kernel
theorem dX8_type_14 : decode cX8_type 14 = .ok (.getfield 81, 3) := by decide +kernel
theorem dX8_type_17 : decode cX8_type 17 = .ok (.bipush 80, 2) := by decide +kernel
theorem dX8_type_19 : decode cX8_type 19 = .ok (.if_icmp .ne 6, 3) := by decide +kernel
theorem dX8_type_22 : decode cX8_type 22 = .ok (.bipush (-3), 2) := by decide +kernel
theorem dX8_type_24 : decode cX8_type 24 = .ok (.ireturn, 1) := by decide +kernel
theorem dX8_type_25 : decode cX8_type 25 = .ok (.aload_n 0, 1) := by decide +kernel
theorem dX8_type_26 : decode cX8_type 26 = .ok (.getfield 23, 3) := by decide +kernel
theorem dX8_type_29 : decode cX8_type 29 = .ok (.aload_n 0, 1) := by decide +kernel
theorem dX8_type_30 : decode cX8_type 30 = .ok (.getfield 81, 3) := by decide +kernel
theorem dX8_type_33 : decode cX8_type 33 = .ok (.iload_n 1, 1) := by decide +kernel
theorem dX8_type_34 : decode cX8_type 34 = .ok (.iastore, 1) := by decide +kernel
theorem dX8_type_35 : decode cX8_type 35 = .ok (.aload_n 0, 1) := by decide +kernel
theorem dX8_type_36 : decode cX8_type 36 = .ok (.dup, 1) := by decide +kernel
theorem dX8_type_37 : decode cX8_type 37 = .ok (.getfield 81, 3) := by decide +kernel
theorem dX8_type_40 : decode cX8_type 40 = .ok (.iconst 1, 1) := by decide +kernel
theorem dX8_type_41 : decode cX8_type 41 = .ok (.iadd, 1) := by decide +kernel
theorem dX8_type_42 : decode cX8_type 42 = .ok (.putfield 81, 3) := by decide +kernel
theorem dX8_type_45 : decode cX8_type 45 = .ok (.aload_n 0, 1) := by decide +kernel
theorem dX8_type_46 : decode cX8_type 46 = .ok (.getfield 81, 3) := by decide +kernel
theorem dX8_type_49 : decode cX8_type 49 = .ok (.ireturn, 1) := by decide +kernel
theorem dX8_clearText_0 : decode cX8_clearText 0 = .ok (.aload_n 0, 1) := by decide +kernel
theorem dX8_clearText_1 : decode cX8_clearText 1 = .ok (.getfield 81, 3) := by decide +kernel
theorem dX8_clearText_4 : decode cX8_clearText 4 = .ok (.istore_n 1, 1) := by decide +kernel
theorem dX8_clearText_5 : decode cX8_clearText 5 = .ok (.aload_n 0, 1) := by decide +kernel
theorem dX8_clearText_6 : decode cX8_clearText 6 = .ok (.iconst 0, 1) := by decide +kernel
theorem dX8_clearText_7 : decode cX8_clearText 7 = .ok (.putfield 81, 3) := by decide +kernel
theorem dX8_clearText_10 : decode cX8_clearText 10 = .ok (.iload_n 1, 1) := by decide +kernel
theorem dX8_clearText_11 : decode cX8_clearText 11 = .ok (.ireturn, 1) := by decide +kernel
theorem dX8_isDigit_0 : decode cX8_isDigit 0 = .ok (.aload_n 0, 1) := by decide +kernel
theorem dX8_isDigit_1 : decode cX8_isDigit 1 = .ok (.getfield 176, 3) := by decide +kernel
theorem dX8_isDigit_4 : decode cX8_isDigit 4 = .ok (.aload_n 0, 1) := by decide +kernel
theorem dX8_isDigit_5 : decode cX8_isDigit 5 = .ok (.getfield 81, 3) := by decide +kernel
theorem dX8_isDigit_8 : decode cX8_isDigit 8 = .ok (.if_icmp .ge 26, 3) := by decide +kernel
theorem dX8_isDigit_11 : decode cX8_isDigit 11 = .ok (.aload_n 0, 1) := by decide +kernel
theorem dX8_isDigit_12 : decode cX8_isDigit 12 = .ok (.getfield 23, 3) := by decide +kernel
theorem dX8_isDigit_15 : decode cX8_isDigit 15 = .ok (.aload_n 0, 1) := by decide +kernel
theorem dX8_isDigit_16 : decode cX8_isDigit 16 = .ok (.getfield 176, 3) := by decide +kernel
theorem dX8_isDigit_19 : decode cX8_isDigit 19 = .ok (.iaload, 1) := by decide +kernel
theorem dX8_isDigit_20 : decode cX8_isDigit 20 = .ok (.bipush 48, 2) := by decide +kernel
theorem dX8_isDigit_22 : decode cX8_isDigit 22 = .ok (.bipush 57, 2) := by decide +kernel
theorem dX8_isDigit_24 : decode cX8_isDigit 24 = .ok (.invokestatic 51, 3) := by decide +kernel
theorem dX8_isDigit_27 : decode cX8_isDigit 27 = .ok (.ifCond .eq 7, 3) := by decide +kernel
theorem dX8_isDigit_30 : decode cX8_isDigit 30 = .ok (.iconst 1, 1) := by decide +kernel
theorem dX8_isDigit_31 : decode cX8_isDigit 31 = .ok (.goto 4, 3) := by decide +kernel
theorem dX8_isDigit_34 : decode cX8_isDigit 34 = .ok (.iconst 0, 1) := by decide +kernel
theorem dX8_isDigit_35 : decode cX8_isDigit 35 = .ok (.ireturn, 1) := by decide +kernel
theorem dX8_digits_0 : decode cX8_digits 0 = .ok (.iconst 0, 1) := by decide +kernel
theorem dX8_digits_1 : decode cX8_digits 1 = .ok (.istore_n 3, 1) := by decide +kernel
theorem dX8_digits_2 : decode cX8_digits 2 = .ok (.iconst 0, 1) := by decide +kernel
theorem dX8_digits_3 : decode cX8_digits 3 = .ok (.istore 4, 2) := by decide +kernel
theorem dX8_digits_5 : decode cX8_digits 5 = .ok (.iload 4, 2) := by decide +kernel
theorem dX8_digits_7 : decode cX8_digits 7 = .ok (.iload_n 2, 1) := by decide +kernel
theorem dX8_digits_8 : decode cX8_digits 8 = .ok (.if_icmp .ge 44, 3) := by decide +kernel
theorem dX8_digits_11 : decode cX8_digits 11 = .ok (.aload_n 0, 1) := by decide +kernel
theorem dX8_digits_12 : decode cX8_digits 12 = .ok (.invokevirtual 179, 3) := by decide +kernel
theorem dX8_digits_15 : decode cX8_digits 15 = .ok (.ifCond .eq 37, 3) := by decide +kernel
theorem dX8_digits_18 : decode cX8_digits 18 = .ok (.bipush 10, 2) := by decide +kernel
theorem dX8_digits_20 : decode cX8_digits 20 = .ok (.iload_n 3, 1) := by decide +kernel
theorem dX8_digits_21 : decode cX8_digits 21 = .ok (.imul, 1) := by decide +kernel
theorem dX8_digits_22 : decode cX8_digits 22 = .ok (.aload_n 0, 1) := by decide +kernel
theorem dX8_digits_23 : decode cX8_digits 23 = .ok (.getfield 23, 3) := by decide +kernel
theorem dX8_digits_26 : decode cX8_digits 26 = .ok (.aload_n 0, 1) := by decide +kernel
theorem dX8_digits_27 : decode cX8_digits 27 = .ok (.getfield 176, 3) := by decide +kernel
theorem dX8_digits_30 : decode cX8_digits 30 = .ok (.iaload, 1) := by decide +kernel
theorem dX8_digits_31 : decode cX8_digits 31 = .ok (.iadd, 1) := by decide +kernel
theorem dX8_digits_32 : decode cX8_digits 32 = .ok (.bipush 48, 2) := by decide +kernel
theorem dX8_digits_34 : decode cX8_digits 34 = .ok (.isub, 1) := by decide +kernel
theorem dX8_digits_35 : decode cX8_digits 35 = .ok (.istore_n 3, 1) := by decide +kernel
theorem dX8_digits_36 : decode cX8_digits 36 = .ok (.iinc 4 1, 3) := by decide +kernel
theorem dX8_digits_39 : decode cX8_digits 39 = .ok (.aload_n 0, 1) := by decide +kernel
theorem dX8_digits_40 : decode cX8_digits 40 = .ok (.dup, 1) := by decide +kernel
theorem dX8_digits_41 : decode cX8_digits 41 = .ok (.getfield 176, 3) := by decide +kernel
theorem dX8_digits_44 : decode cX8_digits 44 = .ok (.iconst 1, 1) := by decide +kernel
theorem dX8_digits_45 : decode cX8_digits 45 = .ok (.iadd, 1) := by decide +kernel
theorem dX8_digits_46 : decode cX8_digits 46 = .ok (.putfield 176, 3) := by decide +kernel
theorem dX8_digits_49 : decode cX8_digits 49 = .ok (.goto (-44), 3) := by decide +kernel
theorem dX8_digits_52 : decode cX8_digits 52 = .ok (.iload 4, 2) := by decide +kernel
theorem dX8_digits_54 : decode cX8_digits 54 = .ok (.iload_n 1, 1) := by decide +kernel
theorem dX8_digits_55 : decode cX8_digits 55 = .ok (.if_icmp .ge 7, 3) := by decide +kernel
theorem dX8_digits_58 : decode cX8_digits 58 = .ok (.iconst (-1), 1) := by decide +kernel
theorem dX8_digits_59 : decode cX8_digits 59 = .ok (.goto 4, 3) := by decide +kernel
theorem dX8_digits_62 : decode cX8_digits 62 = .ok (.iload_n 3, 1) := by decide +kernel
theorem dX8_digits_63 : decode cX8_digits 63 = .ok (.ireturn, 1) := by decide +kernel
theorem dX8_takes_0 : decode cX8_takes 0 = .ok (.aload_n 0, 1) := by decide +kernel
theorem dX8_takes_1 : decode cX8_takes 1 = .ok (.getfield 176, 3) := by decide +kernel
theorem dX8_takes_4 : decode cX8_takes 4 = .ok (.aload_n 0, 1) := by decide +kernel
theorem dX8_takes_5 : decode cX8_takes 5 = .ok (.getfield 81, 3) := by decide +kernel
theorem dX8_takes_8 : decode cX8_takes 8 = .ok (.if_icmp .ge 20, 3) := by decide +kernel
theorem dX8_takes_11 : decode cX8_takes 11 = .ok (.aload_n 0, 1) := by decide +kernel
theorem dX8_takes_12 : decode cX8_takes 12 = .ok (.getfield 23, 3) := by decide +kernel
theorem dX8_takes_15 : decode cX8_takes 15 = .ok (.aload_n 0, 1) := by decide +kernel
theorem dX8_takes_16 : decode cX8_takes 16 = .ok (.getfield 176, 3) := by decide +kernel
theorem dX8_takes_19 : decode cX8_takes 19 = .ok (.iaload, 1) := by decide +kernel
theorem dX8_takes_20 : decode cX8_takes 20 = .ok (.iload_n 1, 1) := by decide +kernel
theorem dX8_takes_21 : decode cX8_takes 21 = .ok (.if_icmp .ne 7, 3) := by decide +kernel
theorem dX8_takes_24 : decode cX8_takes 24 = .ok (.iconst 1, 1) := by decide +kernel
theorem dX8_takes_25 : decode cX8_takes 25 = .ok (.goto 4, 3) := by decide +kernel
theorem dX8_takes_28 : decode cX8_takes 28 = .ok (.iconst 0, 1) := by decide +kernel
theorem dX8_takes_29 : decode cX8_takes 29 = .ok (.istore_n 2, 1) := by decide +kernel
theorem dX8_takes_30 : decode cX8_takes 30 = .ok (.aload_n 0, 1) := by decide +kernel
theorem dX8_takes_31 : decode cX8_takes 31 = .ok (.dup, 1) := by decide +kernel
theorem dX8_takes_32 : decode cX8_takes 32 = .ok (.getfield 176, 3) := by decide +kernel
theorem dX8_takes_35 : decode cX8_takes 35 = .ok (.iload_n 2, 1) := by decide +kernel
theorem dX8_takes_36 : decode cX8_takes 36 = .ok (.ifCond .eq 7, 3) := by decide +kernel
theorem dX8_takes_39 : decode cX8_takes 39 = .ok (.iconst 1, 1) := by decide +kernel
theorem dX8_takes_40 : decode cX8_takes 40 = .ok (.goto 4, 3) := by decide +kernel
theorem dX8_takes_43 : decode cX8_takes 43 = .ok (.iconst 0, 1) := by decide +kernel
theorem dX8_takes_44 : decode cX8_takes 44 = .ok (.iadd, 1) := by decide +kernel
theorem dX8_takes_45 : decode cX8_takes 45 = .ok (.putfield 176, 3) := by decide +kernel
theorem dX8_takes_48 : decode cX8_takes 48 = .ok (.iload_n 2, 1) := by decide +kernel
theorem dX8_takes_49 : decode cX8_takes 49 = .ok (.ireturn, 1) := by decide +kernel
theorem dX8_isFormed_0 : decode cX8_isFormed 0 = .ok (.aload_n 0, 1) := by decide +kernel
theorem dX8_isFormed_1 : decode cX8_isFormed 1 = .ok (.aload_n 0, 1) := by decide +kernel
theorem dX8_isFormed_2 : decode cX8_isFormed 2 = .ok (.iconst 1, 1) := by decide +kernel
theorem dX8_isFormed_3 : decode cX8_isFormed 3 = .ok (.iconst 1, 1) := by decide +kernel
theorem dX8_isFormed_4 : decode cX8_isFormed 4 = .ok (.invokevirtual 183, 3) := by decide +kernel
theorem dX8_isFormed_7 : decode cX8_isFormed 7 = .ok (.putfield 186, 3) := by decide +kernel
theorem dX8_isFormed_10 : decode cX8_isFormed 10 = .ok (.aload_n 0, 1) := by decide +kernel
theorem dX8_isFormed_11 : decode cX8_isFormed 11 = .ok (.getfield 186, 3) := by decide +kernel
theorem dX8_isFormed_14 : decode cX8_isFormed 14 = .ok (.ifCond .lt 12, 3) := by decide +kernel
theorem dX8_isFormed_17 : decode cX8_isFormed 17 = .ok (.aload_n 0, 1) := by decide +kernel
theorem dX8_isFormed_18 : decode cX8_isFormed 18 = .ok (.bipush 58, 2) := by decide +kernel
theorem dX8_isFormed_20 : decode cX8_isFormed 20 = .ok (.invokevirtual 189, 3) := by decide +kernel
theorem dX8_isFormed_23 : decode cX8_isFormed 23 = .ok (.ifCond .ne 5, 3) := by decide +kernel
theorem dX8_isFormed_26 : decode cX8_isFormed 26 = .ok (.iconst 0, 1) := by decide +kernel
theorem dX8_isFormed_27 : decode cX8_isFormed 27 = .ok (.ireturn, 1) := by decide +kernel
theorem dX8_isFormed_28 : decode cX8_isFormed 28 = .ok (.aload_n 0, 1) := by decide +kernel
theorem dX8_isFormed_29 : decode cX8_isFormed 29 = .ok (.aload_n 0, 1) := by decide +kernel
theorem dX8_isFormed_30 : decode cX8_isFormed 30 = .ok (.iconst 3, 1) := by decide +kernel
theorem dX8_isFormed_31 : decode cX8_isFormed 31 = .ok (.iconst 4, 1) := by decide +kernel
theorem dX8_isFormed_32 : decode cX8_isFormed 32 = .ok (.invokevirtual 183, 3) := by decide +kernel
theorem dX8_isFormed_35 : decode cX8_isFormed 35 = .ok (.putfield 192, 3) := by decide +kernel
theorem dX8_isFormed_38 : decode cX8_isFormed 38 = .ok (.aload_n 0, 1) := by decide +kernel
theorem dX8_isFormed_39 : decode cX8_isFormed 39 = .ok (.getfield 192, 3) := by decide +kernel
theorem dX8_isFormed_42 : decode cX8_isFormed 42 = .ok (.ifCond .ge 5, 3) := by decide +kernel
theorem dX8_isFormed_45 : decode cX8_isFormed 45 = .ok (.iconst 0, 1) := by decide +kernel
theorem dX8_isFormed_46 : decode cX8_isFormed 46 = .ok (.ireturn, 1) := by decide +kernel
theorem dX8_isFormed_47 : decode cX8_isFormed 47 = .ok (.aload_n 0, 1) := by decide +kernel
theorem dX8_isFormed_48 : decode cX8_isFormed 48 = .ok (.aload_n 0, 1) := by decide +kernel
theorem dX8_isFormed_49 : decode cX8_isFormed 49 = .ok (.bipush 42, 2) := by decide +kernel
theorem dX8_isFormed_51 : decode cX8_isFormed 51 = .ok (.invokevirtual 189, 3) := by decide +kernel
theorem dX8_isFormed_54 : decode cX8_isFormed 54 = .ok (.ifCond .eq 12, 3) := by decide +kernel
theorem dX8_isFormed_57 : decode cX8_isFormed 57 = .ok (.aload_n 0, 1) := by decide +kernel
theorem dX8_isFormed_58 : decode cX8_isFormed 58 = .ok (.iconst 1, 1) := by decide +kernel
theorem dX8_isFormed_59 : decode cX8_isFormed 59 = .ok (.iconst 2, 1) := by decide +kernel
theorem dX8_isFormed_60 : decode cX8_isFormed 60 = .ok (.invokevirtual 183, 3) := by decide +kernel
theorem dX8_isFormed_63 : decode cX8_isFormed 63 = .ok (.goto 4, 3) := by decide +kernel
theorem dX8_isFormed_66 : decode cX8_isFormed 66 = .ok (.iconst 1, 1) := by decide +kernel
theorem dX8_isFormed_67 : decode cX8_isFormed 67 = .ok (.putfield 195, 3) := by decide +kernel
theorem dX8_isFormed_70 : decode cX8_isFormed 70 = .ok (.aload_n 0, 1) := by decide +kernel
theorem dX8_isFormed_71 : decode cX8_isFormed 71 = .ok (.getfield 195, 3) := by decide +kernel
theorem dX8_isFormed_74 : decode cX8_isFormed 74 = .ok (.ifCond .lt 16, 3) := by decide +kernel
theorem dX8_isFormed_77 : decode cX8_isFormed 77 = .ok (.aload_n 0, 1) := by decide +kernel
theorem dX8_isFormed_78 : decode cX8_isFormed 78 = .ok (.bipush 59, 2) := by decide +kernel
theorem dX8_isFormed_80 : decode cX8_isFormed 80 = .ok (.invokevirtual 189, 3) := by decide +kernel
theorem dX8_isFormed_83 : decode cX8_isFormed 83 = .ok (.ifCond .eq 7, 3) := by decide +kernel
theorem dX8_isFormed_86 : decode cX8_isFormed 86 = .ok (.iconst 1, 1) := by decide +kernel
theorem dX8_isFormed_87 : decode cX8_isFormed 87 = .ok (.goto 4, 3) := by decide +kernel
theorem dX8_isFormed_90 : decode cX8_isFormed 90 = .ok (.iconst 0, 1) := by decide +kernel
theorem dX8_isFormed_91 : decode cX8_isFormed 91 = .ok (.ireturn, 1) := by decide +kernel
theorem dX8_reason_0 : decode cX8_reason 0 = .ok (.aload_n 0, 1) := by decide +kernel
theorem dX8_reason_1 : decode cX8_reason 1 = .ok (.invokevirtual 198, 3) := by decide +kernel
theorem dX8_reason_4 : decode cX8_reason 4 = .ok (.ifCond .ne 5, 3) := by decide +kernel
theorem dX8_reason_7 : decode cX8_reason 7 = .ok (.iconst 1, 1) := by decide +kernel
theorem dX8_reason_8 : decode cX8_reason 8 = .ok (.ireturn, 1) := by decide +kernel
theorem dX8_reason_9 : decode cX8_reason 9 = .ok (.aload_n 0, 1) := by decide +kernel
theorem dX8_reason_10 : decode cX8_reason 10 = .ok (.aload_n 0, 1) := by decide +kernel
theorem dX8_reason_11 : decode cX8_reason 11 = .ok (.getfield 186, 3) := by decide +kernel
theorem dX8_reason_14 : decode cX8_reason 14 = .ok (.invokevirtual 103, 3) := by decide +kernel
theorem dX8_reason_17 : decode cX8_reason 17 = .ok (.ifCond .ne 5, 3) := by decide +kernel
theorem dX8_reason_20 : decode cX8_reason 20 = .ok (.iconst 2, 1) := by decide +kernel
theorem dX8_reason_21 : decode cX8_reason 21 = .ok (.ireturn, 1) := by decide +kernel
theorem dX8_reason_22 : decode cX8_reason 22 = .ok (.aload_n 0, 1) := by decide +kernel
theorem dX8_reason_23 : decode cX8_reason 23 = .ok (.getfield 192, 3) := by decide +kernel
theorem dX8_reason_26 : decode cX8_reason 26 = .ok (.invokestatic 139, 3) := by decide +kernel
theorem dX8_reason_29 : decode cX8_reason 29 = .ok (.ifCond .eq 20, 3) := by decide +kernel
theorem dX8_reason_32 : decode cX8_reason 32 = .ok (.aload_n 0, 1) := by decide +kernel
theorem dX8_reason_33 : decode cX8_reason 33 = .ok (.getfield 195, 3) := by decide +kernel
theorem dX8_reason_36 : decode cX8_reason 36 = .ok (.iconst 1, 1) := by decide +kernel
theorem dX8_reason_37 : decode cX8_reason 37 = .ok (.bipush 40, 2) := by decide +kernel
theorem dX8_reason_39 : decode cX8_reason 39 = .ok (.invokestatic 51, 3) := by decide +kernel
theorem dX8_reason_42 : decode cX8_reason 42 = .ok (.ifCond .eq 7, 3) := by decide +kernel
theorem dX8_reason_45 : decode cX8_reason 45 = .ok (.iconst 0, 1) := by decide +kernel
theorem dX8_reason_46 : decode cX8_reason 46 = .ok (.goto 4, 3) := by decide +kernel
theorem dX8_reason_49 : decode cX8_reason 49 = .ok (.iconst 3, 1) := by decide +kernel
theorem dX8_reason_50 : decode cX8_reason 50 = .ok (.ireturn, 1) := by decide +kernel
theorem dX8_reasonOfText_0 : decode cX8_reasonOfText 0 = .ok (.aload_n 0, 1) := by decide +kernel
theorem dX8_reasonOfText_1 : decode cX8_reasonOfText 1 = .ok (.iconst 0, 1) := by decide +kernel
theorem dX8_reasonOfText_2 : decode cX8_reasonOfText 2 = .ok (.putfield 176, 3) := by decide +kernel
theorem dX8_reasonOfText_5 : decode cX8_reasonOfText 5 = .ok (.iconst 0, 1) := by decide +kernel
theorem dX8_reasonOfText_6 : decode cX8_reasonOfText 6 = .ok (.istore_n 1, 1) := by decide +kernel
theorem dX8_reasonOfText_7 : decode cX8_reasonOfText 7 = .ok (.aload_n 0, 1) := by decide +kernel
theorem dX8_reasonOfText_8 : decode cX8_reasonOfText 8 = .ok (.getfield 176, 3) := by decide +kernel
theorem dX8_reasonOfText_11 : decode cX8_reasonOfText 11 = .ok (.aload_n 0, 1) := by decide +kernel
theorem dX8_reasonOfText_12 : decode cX8_reasonOfText 12 = .ok (.getfield 81, 3) := by decide +kernel
theorem dX8_reasonOfText_15 : decode cX8_reasonOfText 15 = .ok (.if_icmp .ge 23, 3) := by decide +kernel
theorem dX8_reasonOfText_18 : decode cX8_reasonOfText 18 = .ok (.iload_n 1, 1) := by decide +kernel
theorem dX8_reasonOfText_19 : decode cX8_reasonOfText 19 = .ok (.ifCond .ne 19, 3) := by decide +kernel
theorem dX8_reasonOfText_22 : decode cX8_reasonOfText 22 = .ok (.aload_n 0, 1) := by decide +kernel
theorem dX8_reasonOfText_23 : decode cX8_reasonOfText 23 = .ok (.aload_n 0, 1) := by decide +kernel
theorem dX8_reasonOfText_24 : decode cX8_reasonOfText 24 = .ok (.getfield 176, 3) := by decide +kernel
theorem dX8_reasonOfText_27 : decode cX8_reasonOfText 27 = .ok (.putfield 201, 3) := by decide +kernel
theorem dX8_reasonOfText_30 : decode cX8_reasonOfText 30 = .ok (.aload_n 0, 1) := by decide +kernel
theorem dX8_reasonOfText_31 : decode cX8_reasonOfText 31 = .ok (.invokevirtual 204, 3) := by decide +kernel
theorem dX8_reasonOfText_34 : decode cX8_reasonOfText 34 = .ok (.istore_n 1, 1) := by decide +kernel
theorem dX8_reasonOfText_35 : decode cX8_reasonOfText 35 = .ok (.goto (-28), 3) := by decide +kernel
theorem dX8_reasonOfText_38 : decode cX8_reasonOfText 38 = .ok (.iload_n 1, 1) := by decide +kernel
theorem dX8_reasonOfText_39 : decode cX8_reasonOfText 39 = .ok (.ireturn, 1) := by decide +kernel
theorem dX8_fault_0 : decode cX8_fault 0 = .ok (.iload_n 1, 1) := by decide +kernel
theorem dX8_fault_1 : decode cX8_fault 1 = .ok (.iconst 0, 1) := by decide +kernel
theorem dX8_fault_2 : decode cX8_fault 2 = .ok (.iconst 1, 1) := by decide +kernel
theorem dX8_fault_3 : decode cX8_fault 3 = .ok (.invokestatic 51, 3) := by decide +kernel
theorem dX8_fault_6 : decode cX8_fault 6 = .ok (.ifCond .ne 5, 3) := by decide +kernel
theorem dX8_fault_9 : decode cX8_fault 9 = .ok (.iconst (-1), 1) := by decide +kernel
theorem dX8_fault_10 : decode cX8_fault 10 = .ok (.ireturn, 1) := by decide +kernel
theorem dX8_fault_11 : decode cX8_fault 11 = .ok (.aload_n 0, 1) := by decide +kernel
theorem dX8_fault_12 : decode cX8_fault 12 = .ok (.invokevirtual 207, 3) := by decide +kernel
theorem dX8_fault_15 : decode cX8_fault 15 = .ok (.istore_n 2, 1) := by decide +kernel
theorem dX8_fault_16 : decode cX8_fault 16 = .ok (.iload_n 2, 1) := by decide +kernel
theorem dX8_fault_17 : decode cX8_fault 17 = .ok (.ifCond .ne 8, 3) := by decide +kernel
theorem dX8_fault_20 : decode cX8_fault 20 = .ok (.bipush (-4), 2) := by decide +kernel
theorem dX8_fault_22 : decode cX8_fault 22 = .ok (.goto 15, 3) := by decide +kernel
theorem dX8_fault_25 : decode cX8_fault 25 = .ok (.iload_n 1, 1) := by decide +kernel
theorem dX8_fault_26 : decode cX8_fault 26 = .ok (.ifCond .ne 10, 3) := by decide +kernel
theorem dX8_fault_29 : decode cX8_fault 29 = .ok (.aload_n 0, 1) := by decide +kernel
theorem dX8_fault_30 : decode cX8_fault 30 = .ok (.getfield 201, 3) := by decide +kernel
theorem dX8_fault_33 : decode cX8_fault 33 = .ok (.goto 4, 3) := by decide +kernel
theorem dX8_fault_36 : decode cX8_fault 36 = .ok (.iload_n 2, 1) := by decide +kernel
theorem dX8_fault_37 : decode cX8_fault 37 = .ok (.ireturn, 1) := by decide +kernel
theorem dX8_carry_0 : decode cX8_carry 0 = .ok (.aload_n 0, 1) := by decide +kernel
theorem dX8_carry_1 : decode cX8_carry 1 = .ok (.invokevirtual 207, 3) := by decide +kernel
theorem dX8_carry_4 : decode cX8_carry 4 = .ok (.ifCond .eq 6, 3) := by decide +kernel
theorem dX8_carry_7 : decode cX8_carry 7 = .ok (.bipush (-2), 2) := by decide +kernel
theorem dX8_carry_9 : decode cX8_carry 9 = .ok (.ireturn, 1) := by decide +kernel
theorem dX8_carry_10 : decode cX8_carry 10 = .ok (.aload_n 0, 1) := by decide +kernel
theorem dX8_carry_11 : decode cX8_carry 11 = .ok (.invokevirtual 55, 3) := by decide +kernel
theorem dX8_carry_14 : decode cX8_carry 14 = .ok (.aload_n 0, 1) := by decide +kernel
theorem dX8_carry_15 : decode cX8_carry 15 = .ok (.iconst 0, 1) := by decide +kernel
theorem dX8_carry_16 : decode cX8_carry 16 = .ok (.putfield 176, 3) := by decide +kernel
theorem dX8_carry_19 : decode cX8_carry 19 = .ok (.iconst 0, 1) := by decide +kernel
theorem dX8_carry_20 : decode cX8_carry 20 = .ok (.istore_n 1, 1) := by decide +kernel
theorem dX8_carry_21 : decode cX8_carry 21 = .ok (.aload_n 0, 1) := by decide +kernel
theorem dX8_carry_22 : decode cX8_carry 22 = .ok (.getfield 176, 3) := by decide +kernel
theorem dX8_carry_25 : decode cX8_carry 25 = .ok (.aload_n 0, 1) := by decide +kernel
theorem dX8_carry_26 : decode cX8_carry 26 = .ok (.getfield 81, 3) := by decide +kernel
theorem dX8_carry_29 : decode cX8_carry 29 = .ok (.if_icmp .ge 56, 3) := by decide +kernel
theorem dX8_carry_32 : decode cX8_carry 32 = .ok (.aload_n 0, 1) := by decide +kernel
theorem dX8_carry_33 : decode cX8_carry 33 = .ok (.invokevirtual 204, 3) := by decide +kernel
theorem dX8_carry_36 : decode cX8_carry 36 = .ok (.ifCond .ne 49, 3) := by decide +kernel
theorem dX8_carry_39 : decode cX8_carry 39 = .ok (.iconst 0, 1) := by decide +kernel
theorem dX8_carry_40 : decode cX8_carry 40 = .ok (.istore_n 2, 1) := by decide +kernel
theorem dX8_carry_41 : decode cX8_carry 41 = .ok (.iload_n 2, 1) := by decide +kernel
theorem dX8_carry_42 : decode cX8_carry 42 = .ok (.aload_n 0, 1) := by decide +kernel
theorem dX8_carry_43 : decode cX8_carry 43 = .ok (.getfield 195, 3) := by decide +kernel
theorem dX8_carry_46 : decode cX8_carry 46 = .ok (.if_icmp .ge 36, 3) := by decide +kernel
theorem dX8_carry_49 : decode cX8_carry 49 = .ok (.aload_n 0, 1) := by decide +kernel
theorem dX8_carry_50 : decode cX8_carry 50 = .ok (.aload_n 0, 1) := by decide +kernel
theorem dX8_carry_51 : decode cX8_carry 51 = .ok (.getfield 186, 3) := by decide +kernel
theorem dX8_carry_54 : decode cX8_carry 54 = .ok (.invokevirtual 142, 3) := by decide +kernel
theorem dX8_carry_57 : decode cX8_carry 57 = .ok (.ifCond .ne 25, 3) := by decide +kernel
theorem dX8_carry_60 : decode cX8_carry 60 = .ok (.aload_n 0, 1) := by decide +kernel
theorem dX8_carry_61 : decode cX8_carry 61 = .ok (.aload_n 0, 1) := by decide +kernel
theorem dX8_carry_62 : decode cX8_carry 62 = .ok (.getfield 186, 3) := by decide +kernel
theorem dX8_carry_65 : decode cX8_carry 65 = .ok (.aload_n 0, 1) := by decide +kernel
theorem dX8_carry_66 : decode cX8_carry 66 = .ok (.getfield 192, 3) := by decide +kernel
theorem dX8_carry_69 : decode cX8_carry 69 = .ok (.invokevirtual 145, 3) := by decide +kernel
theorem dX8_carry_72 : decode cX8_carry 72 = .ok (.istore_n 3, 1) := by decide +kernel
theorem dX8_carry_73 : decode cX8_carry 73 = .ok (.iinc 1 1, 3) := by decide +kernel
theorem dX8_carry_76 : decode cX8_carry 76 = .ok (.iinc 2 1, 3) := by decide +kernel
theorem dX8_carry_79 : decode cX8_carry 79 = .ok (.goto (-38), 3) := by decide +kernel
theorem dX8_carry_82 : decode cX8_carry 82 = .ok (.goto (-61), 3) := by decide +kernel
theorem dX8_carry_85 : decode cX8_carry 85 = .ok (.iload_n 1, 1) := by decide +kernel
theorem dX8_carry_86 : decode cX8_carry 86 = .ok (.ireturn, 1) := by decide +kernel
end
section
theorem dL_law_0 : decode cL_law 0 = .ok (.new 7, 3) := by decide +kernel
theorem dL_law_3 : decode cL_law 3 = .ok (.dup, 1) := by decide +kernel
theorem dL_law_4 : decode cL_law 4 = .ok (.invokespecial 9, 3) := by decide +kernel
theorem dL_law_7 : decode cL_law 7 = .ok (.astore_n 1, 1) := by decide +kernel
theorem dL_law_8 : decode cL_law 8 = .ok (.new 10, 3) := by decide +kernel
theorem dL_law_11 : decode cL_law 11 = .ok (.dup, 1) := by decide +kernel
theorem dL_law_12 : decode cL_law 12 = .ok (.invokespecial 12, 3) := by decide +kernel
theorem dL_law_15 : decode cL_law 15 = .ok (.astore_n 2, 1) := by decide +kernel
theorem dL_law_16 : decode cL_law 16 = .ok (.iconst 0, 1) := by decide +kernel
theorem dL_law_17 : decode cL_law 17 = .ok (.istore_n 3, 1) := by decide +kernel
theorem dL_law_18 : decode cL_law 18 = .ok (.iload_n 3, 1) := by decide +kernel
theorem dL_law_19 : decode cL_law 19 = .ok (.aload_n 0, 1) := by decide +kernel
theorem dL_law_20 : decode cL_law 20 = .ok (.arraylength, 1) := by decide +kernel
theorem dL_law_21 : decode cL_law 21 = .ok (.iconst 5, 1) := by decide +kernel
theorem dL_law_22 : decode cL_law 22 = .ok (.isub, 1) := by decide +kernel
theorem dL_law_23 : decode cL_law 23 = .ok (.if_icmp .gt 870, 3) := by decide +kernel
theorem dL_law_26 : decode cL_law 26 = .ok (.aload_n 0, 1) := by decide +kernel
theorem dL_law_27 : decode cL_law 27 = .ok (.iload_n 3, 1) := by decide +kernel
theorem dL_law_28 : decode cL_law 28 = .ok (.iaload, 1) := by decide +kernel
theorem dL_law_29 : decode cL_law 29 = .ok (.bipush 31, 2) := by decide +kernel
theorem dL_law_31 : decode cL_law 31 = .ok (.iand, 1) := by decide +kernel
theorem dL_law_32 : decode cL_law 32 = .ok (.tableswitch 855 0 23 #[112, 155, 168, 201, 224, 257, 281, 324, 357, 400, 433, 486, 519, 552, 595, 628, 641, 664, 707, 750, 783, 806, 819, 842], 112) := by decide +kernel
theorem dL_law_144 : decode cL_law 144 = .ok (.aload_n 1, 1) := by decide +kernel
theorem dL_law_145 : decode cL_law 145 = .ok (.aload_n 0, 1) := by decide +kernel
theorem dL_law_146 : decode cL_law 146 = .ok (.iload_n 3, 1) := by decide +kernel
theorem dL_law_147 : decode cL_law 147 = .ok (.iconst 1, 1) := by decide +kernel
theorem dL_law_148 : decode cL_law 148 = .ok (.iadd, 1) := by decide +kernel
theorem dL_law_149 : decode cL_law 149 = .ok (.iaload, 1) := by decide +kernel
theorem dL_law_150 : decode cL_law 150 = .ok (.aload_n 0, 1) := by decide +kernel
theorem dL_law_151 : decode cL_law 151 = .ok (.iload_n 3, 1) := by decide +kernel
theorem dL_law_152 : decode cL_law 152 = .ok (.iconst 2, 1) := by decide +kernel
theorem dL_law_153 : decode cL_law 153 = .ok (.iadd, 1) := by decide +kernel
theorem dL_law_154 : decode cL_law 154 = .ok (.iaload, 1) := by decide +kernel
theorem dL_law_155 : decode cL_law 155 = .ok (.aload_n 0, 1) := by decide +kernel
theorem dL_law_156 : decode cL_law 156 = .ok (.iload_n 3, 1) := by decide +kernel
theorem dL_law_157 : decode cL_law 157 = .ok (.iconst 3, 1) := by decide +kernel
theorem dL_law_158 : decode cL_law 158 = .ok (.iadd, 1) := by decide +kernel
theorem dL_law_159 : decode cL_law 159 = .ok (.iaload, 1) := by decide +kernel
theorem dL_law_160 : decode cL_law 160 = .ok (.invokevirtual 13, 3) := by decide +kernel
theorem dL_law_163 : decode cL_law 163 = .ok (.aload_n 2, 1) := by decide +kernel
theorem dL_law_164 : decode cL_law 164 = .ok (.aload_n 0, 1) := by decide +kernel
theorem dL_law_165 : decode cL_law 165 = .ok (.iload_n 3, 1) := by decide +kernel
theorem dL_law_166 : decode cL_law 166 = .ok (.iconst 1, 1) := by decide +kernel
theorem dL_law_167 : decode cL_law 167 = .ok (.iadd, 1) := by decide +kernel
theorem dL_law_168 : decode cL_law 168 = .ok (.iaload, 1) := by decide +kernel
theorem dL_law_169 : decode cL_law 169 = .ok (.aload_n 0, 1) := by decide +kernel
theorem dL_law_170 : decode cL_law 170 = .ok (.iload_n 3, 1) := by decide +kernel
theorem dL_law_171 : decode cL_law 171 = .ok (.iconst 2, 1) := by decide +kernel
theorem dL_law_172 : decode cL_law 172 = .ok (.iadd, 1) := by decide +kernel
theorem dL_law_173 : decode cL_law 173 = .ok (.iaload, 1) := by decide +kernel
theorem dL_law_174 : decode cL_law 174 = .ok (.aload_n 0, 1) := by decide +kernel
theorem dL_law_175 : decode cL_law 175 = .ok (.iload_n 3, 1) := by decide +kernel
theorem dL_law_176 : decode cL_law 176 = .ok (.iconst 3, 1) := by decide +kernel
theorem dL_law_177 : decode cL_law 177 = .ok (.iadd, 1) := by decide +kernel
theorem dL_law_178 : decode cL_law 178 = .ok (.iaload, 1) := by decide +kernel
theorem dL_law_179 : decode cL_law 179 = .ok (.invokevirtual 17, 3) := by decide +kernel
theorem dL_law_182 : decode cL_law 182 = .ok (.if_icmp .eq 705, 3) := by decide +kernel
theorem dL_law_185 : decode cL_law 185 = .ok (.iconst 0, 1) := by decide +kernel
theorem dL_law_186 : decode cL_law 186 = .ok (.ireturn, 1) := by decide +kernel
theorem dL_law_187 : decode cL_law 187 = .ok (.aload_n 1, 1) := by decide +kernel
theorem dL_law_188 : decode cL_law 188 = .ok (.invokevirtual 18, 3) := by decide +kernel
theorem dL_law_191 : decode cL_law 191 = .ok (.aload_n 2, 1) := by decide +kernel
theorem dL_law_192 : decode cL_law 192 = .ok (.invokevirtual 22, 3) := by decide +kernel
theorem dL_law_195 : decode cL_law 195 = .ok (.if_icmp .eq 692, 3) := by decide +kernel
theorem dL_law_198 : decode cL_law 198 = .ok (.iconst 0, 1) := by decide +kernel
theorem dL_law_199 : decode cL_law 199 = .ok (.ireturn, 1) := by decide +kernel
theorem dL_law_200 : decode cL_law 200 = .ok (.aload_n 1, 1) := by decide +kernel
theorem dL_law_201 : decode cL_law 201 = .ok (.aload_n 0, 1) := by decide +kernel
theorem dL_law_202 : decode cL_law 202 = .ok (.iload_n 3, 1) := by decide +kernel
theorem dL_law_203 : decode cL_law 203 = .ok (.iconst 1, 1) := by decide +kernel
theorem dL_law_204 : decode cL_law 204 = .ok (.iadd, 1) := by decide +kernel
theorem dL_law_205 : decode cL_law 205 = .ok (.iaload, 1) := by decide +kernel
theorem dL_law_206 : decode cL_law 206 = .ok (.aload_n 0, 1) := by decide +kernel
theorem dL_law_207 : decode cL_law 207 = .ok (.iload_n 3, 1) := by decide +kernel
theorem dL_law_208 : decode cL_law 208 = .ok (.iconst 2, 1) := by decide +kernel
theorem dL_law_209 : decode cL_law 209 = .ok (.iadd, 1) := by decide +kernel
theorem dL_law_210 : decode cL_law 210 = .ok (.iaload, 1) := by decide +kernel
theorem dL_law_211 : decode cL_law 211 = .ok (.invokevirtual 23, 3) := by decide +kernel
theorem dL_law_214 : decode cL_law 214 = .ok (.aload_n 2, 1) := by decide +kernel
theorem dL_law_215 : decode cL_law 215 = .ok (.aload_n 0, 1) := by decide +kernel
theorem dL_law_216 : decode cL_law 216 = .ok (.iload_n 3, 1) := by decide +kernel
theorem dL_law_217 : decode cL_law 217 = .ok (.iconst 1, 1) := by decide +kernel
theorem dL_law_218 : decode cL_law 218 = .ok (.iadd, 1) := by decide +kernel
theorem dL_law_219 : decode cL_law 219 = .ok (.iaload, 1) := by decide +kernel
theorem dL_law_220 : decode cL_law 220 = .ok (.aload_n 0, 1) := by decide +kernel
theorem dL_law_221 : decode cL_law 221 = .ok (.iload_n 3, 1) := by decide +kernel
theorem dL_law_222 : decode cL_law 222 = .ok (.iconst 2, 1) := by decide +kernel
theorem dL_law_223 : decode cL_law 223 = .ok (.iadd, 1) := by decide +kernel
theorem dL_law_224 : decode cL_law 224 = .ok (.iaload, 1) := by decide +kernel
theorem dL_law_225 : decode cL_law 225 = .ok (.invokevirtual 27, 3) := by decide +kernel
theorem dL_law_228 : decode cL_law 228 = .ok (.if_icmp .eq 659, 3) := by decide +kernel
theorem dL_law_231 : decode cL_law 231 = .ok (.iconst 0, 1) := by decide +kernel
theorem dL_law_232 : decode cL_law 232 = .ok (.ireturn, 1) := by decide +kernel
theorem dL_law_233 : decode cL_law 233 = .ok (.aload_n 1, 1) := by decide +kernel
theorem dL_law_234 : decode cL_law 234 = .ok (.aload_n 0, 1) := by decide +kernel
theorem dL_law_235 : decode cL_law 235 = .ok (.iload_n 3, 1) := by decide +kernel
theorem dL_law_236 : decode cL_law 236 = .ok (.iconst 1, 1) := by decide +kernel
theorem dL_law_237 : decode cL_law 237 = .ok (.iadd, 1) := by decide +kernel
theorem dL_law_238 : decode cL_law 238 = .ok (.iaload, 1) := by decide +kernel
theorem dL_law_239 : decode cL_law 239 = .ok (.invokevirtual 28, 3) := by decide +kernel
theorem dL_law_242 : decode cL_law 242 = .ok (.aload_n 2, 1) := by decide +kernel
theorem dL_law_243 : decode cL_law 243 = .ok (.aload_n 0, 1) := by decide +kernel
theorem dL_law_244 : decode cL_law 244 = .ok (.iload_n 3, 1) := by decide +kernel
theorem dL_law_245 : decode cL_law 245 = .ok (.iconst 1, 1) := by decide +kernel
theorem dL_law_246 : decode cL_law 246 = .ok (.iadd, 1) := by decide +kernel
theorem dL_law_247 : decode cL_law 247 = .ok (.iaload, 1) := by decide +kernel
theorem dL_law_248 : decode cL_law 248 = .ok (.invokevirtual 32, 3) := by decide +kernel
theorem dL_law_251 : decode cL_law 251 = .ok (.if_icmp .eq 636, 3) := by decide +kernel
theorem dL_law_254 : decode cL_law 254 = .ok (.iconst 0, 1) := by decide +kernel
theorem dL_law_255 : decode cL_law 255 = .ok (.ireturn, 1) := by decide +kernel
theorem dL_law_256 : decode cL_law 256 = .ok (.aload_n 1, 1) := by decide +kernel
theorem dL_law_257 : decode cL_law 257 = .ok (.aload_n 0, 1) := by decide +kernel
theorem dL_law_258 : decode cL_law 258 = .ok (.iload_n 3, 1) := by decide +kernel
theorem dL_law_259 : decode cL_law 259 = .ok (.iconst 1, 1) := by decide +kernel
theorem dL_law_260 : decode cL_law 260 = .ok (.iadd, 1) := by decide +kernel
theorem dL_law_261 : decode cL_law 261 = .ok (.iaload, 1) := by decide +kernel
theorem dL_law_262 : decode cL_law 262 = .ok (.aload_n 0, 1) := by decide +kernel
theorem dL_law_263 : decode cL_law 263 = .ok (.iload_n 3, 1) := by decide +kernel
theorem dL_law_264 : decode cL_law 264 = .ok (.iconst 2, 1) := by decide +kernel
theorem dL_law_265 : decode cL_law 265 = .ok (.iadd, 1) := by decide +kernel
theorem dL_law_266 : decode cL_law 266 = .ok (.iaload, 1) := by decide +kernel
theorem dL_law_267 : decode cL_law 267 = .ok (.invokevirtual 33, 3) := by decide +kernel
theorem dL_law_270 : decode cL_law 270 = .ok (.aload_n 2, 1) := by decide +kernel
theorem dL_law_271 : decode cL_law 271 = .ok (.aload_n 0, 1) := by decide +kernel
theorem dL_law_272 : decode cL_law 272 = .ok (.iload_n 3, 1) := by decide +kernel
theorem dL_law_273 : decode cL_law 273 = .ok (.iconst 1, 1) := by decide +kernel
theorem dL_law_274 : decode cL_law 274 = .ok (.iadd, 1) := by decide +kernel
theorem dL_law_275 : decode cL_law 275 = .ok (.iaload, 1) := by decide +kernel
theorem dL_law_276 : decode cL_law 276 = .ok (.aload_n 0, 1) := by decide +kernel
theorem dL_law_277 : decode cL_law 277 = .ok (.iload_n 3, 1) := by decide +kernel
theorem dL_law_278 : decode cL_law 278 = .ok (.iconst 2, 1) := by decide +kernel
theorem dL_law_279 : decode cL_law 279 = .ok (.iadd, 1) := by decide +kernel
theorem dL_law_280 : decode cL_law 280 = .ok (.iaload, 1) := by decide +kernel
theorem dL_law_281 : decode cL_law 281 = .ok (.invokevirtual 36, 3) := by decide +kernel
theorem dL_law_284 : decode cL_law 284 = .ok (.if_icmp .eq 603, 3) := by decide +kernel
theorem dL_law_287 : decode cL_law 287 = .ok (.iconst 0, 1) := by decide +kernel
theorem dL_law_288 : decode cL_law 288 = .ok (.ireturn, 1) := by decide +kernel
theorem dL_law_289 : decode cL_law 289 = .ok (.aload_n 1, 1) := by decide +kernel
theorem dL_law_290 : decode cL_law 290 = .ok (.aload_n 0, 1) := by decide +kernel
theorem dL_law_291 : decode cL_law 291 = .ok (.iload_n 3, 1) := by decide +kernel
theorem dL_law_292 : decode cL_law 292 = .ok (.iconst 1, 1) := by decide +kernel
theorem dL_law_293 : decode cL_law 293 = .ok (.iadd, 1) := by decide +kernel
theorem dL_law_294 : decode cL_law 294 = .ok (.iaload, 1) := by decide +kernel
theorem dL_law_295 : decode cL_law 295 = .ok (.invokevirtual 37, 3) := by decide +kernel
theorem dL_law_298 : decode cL_law 298 = .ok (.aload_n 2, 1) := by decide +kernel
theorem dL_law_299 : decode cL_law 299 = .ok (.aload_n 0, 1) := by decide +kernel
theorem dL_law_300 : decode cL_law 300 = .ok (.iload_n 3, 1) := by decide +kernel
theorem dL_law_301 : decode cL_law 301 = .ok (.iconst 1, 1) := by decide +kernel
theorem dL_law_302 : decode cL_law 302 = .ok (.iadd, 1) := by decide +kernel
theorem dL_law_303 : decode cL_law 303 = .ok (.iaload, 1) := by decide +kernel
theorem dL_law_304 : decode cL_law 304 = .ok (.invokevirtual 41, 3) := by decide +kernel
theorem dL_law_307 : decode cL_law 307 = .ok (.lcmp, 1) := by decide +kernel
theorem dL_law_308 : decode cL_law 308 = .ok (.ifCond .eq 579, 3) := by decide +kernel
theorem dL_law_311 : decode cL_law 311 = .ok (.iconst 0, 1) := by decide +kernel
theorem dL_law_312 : decode cL_law 312 = .ok (.ireturn, 1) := by decide +kernel
theorem dL_law_313 : decode cL_law 313 = .ok (.aload_n 1, 1) := by decide +kernel
theorem dL_law_314 : decode cL_law 314 = .ok (.aload_n 0, 1) := by decide +kernel
theorem dL_law_315 : decode cL_law 315 = .ok (.iload_n 3, 1) := by decide +kernel
theorem dL_law_316 : decode cL_law 316 = .ok (.iconst 1, 1) := by decide +kernel
theorem dL_law_317 : decode cL_law 317 = .ok (.iadd, 1) := by decide +kernel
theorem dL_law_318 : decode cL_law 318 = .ok (.iaload, 1) := by decide +kernel
theorem dL_law_319 : decode cL_law 319 = .ok (.aload_n 0, 1) := by decide +kernel
theorem dL_law_320 : decode cL_law 320 = .ok (.iload_n 3, 1) := by decide +kernel
theorem dL_law_321 : decode cL_law 321 = .ok (.iconst 2, 1) := by decide +kernel
theorem dL_law_322 : decode cL_law 322 = .ok (.iadd, 1) := by decide +kernel
theorem dL_law_323 : decode cL_law 323 = .ok (.iaload, 1) := by decide +kernel
theorem dL_law_324 : decode cL_law 324 = .ok (.aload_n 0, 1) := by decide +kernel
theorem dL_law_325 : decode cL_law 325 = .ok (.iload_n 3, 1) := by decide +kernel
theorem dL_law_326 : decode cL_law 326 = .ok (.iconst 3, 1) := by decide +kernel
theorem dL_law_327 : decode cL_law 327 = .ok (.iadd, 1) := by decide +kernel
theorem dL_law_328 : decode cL_law 328 = .ok (.iaload, 1) := by decide +kernel
theorem dL_law_329 : decode cL_law 329 = .ok (.invokevirtual 42, 3) := by decide +kernel
theorem dL_law_332 : decode cL_law 332 = .ok (.aload_n 2, 1) := by decide +kernel
theorem dL_law_333 : decode cL_law 333 = .ok (.aload_n 0, 1) := by decide +kernel
theorem dL_law_334 : decode cL_law 334 = .ok (.iload_n 3, 1) := by decide +kernel
theorem dL_law_335 : decode cL_law 335 = .ok (.iconst 1, 1) := by decide +kernel
theorem dL_law_336 : decode cL_law 336 = .ok (.iadd, 1) := by decide +kernel
theorem dL_law_337 : decode cL_law 337 = .ok (.iaload, 1) := by decide +kernel
theorem dL_law_338 : decode cL_law 338 = .ok (.aload_n 0, 1) := by decide +kernel
theorem dL_law_339 : decode cL_law 339 = .ok (.iload_n 3, 1) := by decide +kernel
theorem dL_law_340 : decode cL_law 340 = .ok (.iconst 2, 1) := by decide +kernel
theorem dL_law_341 : decode cL_law 341 = .ok (.iadd, 1) := by decide +kernel
theorem dL_law_342 : decode cL_law 342 = .ok (.iaload, 1) := by decide +kernel
theorem dL_law_343 : decode cL_law 343 = .ok (.aload_n 0, 1) := by decide +kernel
theorem dL_law_344 : decode cL_law 344 = .ok (.iload_n 3, 1) := by decide +kernel
theorem dL_law_345 : decode cL_law 345 = .ok (.iconst 3, 1) := by decide +kernel
theorem dL_law_346 : decode cL_law 346 = .ok (.iadd, 1) := by decide +kernel
theorem dL_law_347 : decode cL_law 347 = .ok (.iaload, 1) := by decide +kernel
theorem dL_law_348 : decode cL_law 348 = .ok (.invokevirtual 45, 3) := by decide +kernel
theorem dL_law_351 : decode cL_law 351 = .ok (.if_icmp .eq 536, 3) := by decide +kernel
theorem dL_law_354 : decode cL_law 354 = .ok (.iconst 0, 1) := by decide +kernel
theorem dL_law_355 : decode cL_law 355 = .ok (.ireturn, 1) := by decide +kernel
theorem dL_law_356 : decode cL_law 356 = .ok (.aload_n 1, 1) := by decide +kernel
theorem dL_law_357 : decode cL_law 357 = .ok (.aload_n 0, 1) := by decide +kernel
theorem dL_law_358 : decode cL_law 358 = .ok (.iload_n 3, 1) := by decide +kernel
theorem dL_law_359 : decode cL_law 359 = .ok (.iconst 1, 1) := by decide +kernel
theorem dL_law_360 : decode cL_law 360 = .ok (.iadd, 1) := by decide +kernel
theorem dL_law_361 : decode cL_law 361 = .ok (.iaload, 1) := by decide +kernel
theorem dL_law_362 : decode cL_law 362 = .ok (.aload_n 0, 1) := by decide +kernel
theorem dL_law_363 : decode cL_law 363 = .ok (.iload_n 3, 1) := by decide +kernel
theorem dL_law_364 : decode cL_law 364 = .ok (.iconst 2, 1) := by decide +kernel
theorem dL_law_365 : decode cL_law 365 = .ok (.iadd, 1) := by decide +kernel
theorem dL_law_366 : decode cL_law 366 = .ok (.iaload, 1) := by decide +kernel
theorem dL_law_367 : decode cL_law 367 = .ok (.invokevirtual 46, 3) := by decide +kernel
theorem dL_law_370 : decode cL_law 370 = .ok (.aload_n 2, 1) := by decide +kernel
theorem dL_law_371 : decode cL_law 371 = .ok (.aload_n 0, 1) := by decide +kernel
theorem dL_law_372 : decode cL_law 372 = .ok (.iload_n 3, 1) := by decide +kernel
theorem dL_law_373 : decode cL_law 373 = .ok (.iconst 1, 1) := by decide +kernel
theorem dL_law_374 : decode cL_law 374 = .ok (.iadd, 1) := by decide +kernel
theorem dL_law_375 : decode cL_law 375 = .ok (.iaload, 1) := by decide +kernel
theorem dL_law_376 : decode cL_law 376 = .ok (.aload_n 0, 1) := by decide +kernel
theorem dL_law_377 : decode cL_law 377 = .ok (.iload_n 3, 1) := by decide +kernel
theorem dL_law_378 : decode cL_law 378 = .ok (.iconst 2, 1) := by decide +kernel
theorem dL_law_379 : decode cL_law 379 = .ok (.iadd, 1) := by decide +kernel
theorem dL_law_380 : decode cL_law 380 = .ok (.iaload, 1) := by decide +kernel
theorem dL_law_381 : decode cL_law 381 = .ok (.invokevirtual 49, 3) := by decide +kernel
theorem dL_law_384 : decode cL_law 384 = .ok (.if_icmp .eq 503, 3) := by decide +kernel
theorem dL_law_387 : decode cL_law 387 = .ok (.iconst 0, 1) := by decide +kernel
theorem dL_law_388 : decode cL_law 388 = .ok (.ireturn, 1) := by decide +kernel
theorem dL_law_389 : decode cL_law 389 = .ok (.aload_n 1, 1) := by decide +kernel
theorem dL_law_390 : decode cL_law 390 = .ok (.aload_n 0, 1) := by decide +kernel
theorem dL_law_391 : decode cL_law 391 = .ok (.iload_n 3, 1) := by decide +kernel
theorem dL_law_392 : decode cL_law 392 = .ok (.iconst 1, 1) := by decide +kernel
theorem dL_law_393 : decode cL_law 393 = .ok (.iadd, 1) := by decide +kernel
theorem dL_law_394 : decode cL_law 394 = .ok (.iaload, 1) := by decide +kernel
theorem dL_law_395 : decode cL_law 395 = .ok (.aload_n 0, 1) := by decide +kernel
theorem dL_law_396 : decode cL_law 396 = .ok (.iload_n 3, 1) := by decide +kernel
theorem dL_law_397 : decode cL_law 397 = .ok (.iconst 2, 1) := by decide +kernel
theorem dL_law_398 : decode cL_law 398 = .ok (.iadd, 1) := by decide +kernel
theorem dL_law_399 : decode cL_law 399 = .ok (.iaload, 1) := by decide +kernel
theorem dL_law_400 : decode cL_law 400 = .ok (.aload_n 0, 1) := by decide +kernel
theorem dL_law_401 : decode cL_law 401 = .ok (.iload_n 3, 1) := by decide +kernel
theorem dL_law_402 : decode cL_law 402 = .ok (.iconst 3, 1) := by decide +kernel
theorem dL_law_403 : decode cL_law 403 = .ok (.iadd, 1) := by decide +kernel
theorem dL_law_404 : decode cL_law 404 = .ok (.iaload, 1) := by decide +kernel
theorem dL_law_405 : decode cL_law 405 = .ok (.invokevirtual 50, 3) := by decide +kernel
theorem dL_law_408 : decode cL_law 408 = .ok (.aload_n 2, 1) := by decide +kernel
theorem dL_law_409 : decode cL_law 409 = .ok (.aload_n 0, 1) := by decide +kernel
theorem dL_law_410 : decode cL_law 410 = .ok (.iload_n 3, 1) := by decide +kernel
theorem dL_law_411 : decode cL_law 411 = .ok (.iconst 1, 1) := by decide +kernel
theorem dL_law_412 : decode cL_law 412 = .ok (.iadd, 1) := by decide +kernel
theorem dL_law_413 : decode cL_law 413 = .ok (.iaload, 1) := by decide +kernel
theorem dL_law_414 : decode cL_law 414 = .ok (.aload_n 0, 1) := by decide +kernel
theorem dL_law_415 : decode cL_law 415 = .ok (.iload_n 3, 1) := by decide +kernel
theorem dL_law_416 : decode cL_law 416 = .ok (.iconst 2, 1) := by decide +kernel
theorem dL_law_417 : decode cL_law 417 = .ok (.iadd, 1) := by decide +kernel
theorem dL_law_418 : decode cL_law 418 = .ok (.iaload, 1) := by decide +kernel
theorem dL_law_419 : decode cL_law 419 = .ok (.aload_n 0, 1) := by decide +kernel
theorem dL_law_420 : decode cL_law 420 = .ok (.iload_n 3, 1) := by decide +kernel
theorem dL_law_421 : decode cL_law 421 = .ok (.iconst 3, 1) := by decide +kernel
theorem dL_law_422 : decode cL_law 422 = .ok (.iadd, 1) := by decide +kernel
theorem dL_law_423 : decode cL_law 423 = .ok (.iaload, 1) := by decide +kernel
theorem dL_law_424 : decode cL_law 424 = .ok (.invokevirtual 53, 3) := by decide +kernel
theorem dL_law_427 : decode cL_law 427 = .ok (.if_icmp .eq 460, 3) := by decide +kernel
theorem dL_law_430 : decode cL_law 430 = .ok (.iconst 0, 1) := by decide +kernel
theorem dL_law_431 : decode cL_law 431 = .ok (.ireturn, 1) := by decide +kernel
theorem dL_law_432 : decode cL_law 432 = .ok (.aload_n 1, 1) := by decide +kernel
theorem dL_law_433 : decode cL_law 433 = .ok (.aload_n 0, 1) := by decide +kernel
theorem dL_law_434 : decode cL_law 434 = .ok (.iload_n 3, 1) := by decide +kernel
theorem dL_law_435 : decode cL_law 435 = .ok (.iconst 1, 1) := by decide +kernel
theorem dL_law_436 : decode cL_law 436 = .ok (.iadd, 1) := by decide +kernel
theorem dL_law_437 : decode cL_law 437 = .ok (.iaload, 1) := by decide +kernel
theorem dL_law_438 : decode cL_law 438 = .ok (.aload_n 0, 1) := by decide +kernel
theorem dL_law_439 : decode cL_law 439 = .ok (.iload_n 3, 1) := by decide +kernel
theorem dL_law_440 : decode cL_law 440 = .ok (.iconst 2, 1) := by decide +kernel
theorem dL_law_441 : decode cL_law 441 = .ok (.iadd, 1) := by decide +kernel
theorem dL_law_442 : decode cL_law 442 = .ok (.iaload, 1) := by decide +kernel
theorem dL_law_443 : decode cL_law 443 = .ok (.invokevirtual 54, 3) := by decide +kernel
theorem dL_law_446 : decode cL_law 446 = .ok (.aload_n 2, 1) := by decide +kernel
theorem dL_law_447 : decode cL_law 447 = .ok (.aload_n 0, 1) := by decide +kernel
theorem dL_law_448 : decode cL_law 448 = .ok (.iload_n 3, 1) := by decide +kernel
theorem dL_law_449 : decode cL_law 449 = .ok (.iconst 1, 1) := by decide +kernel
theorem dL_law_450 : decode cL_law 450 = .ok (.iadd, 1) := by decide +kernel
theorem dL_law_451 : decode cL_law 451 = .ok (.iaload, 1) := by decide +kernel
theorem dL_law_452 : decode cL_law 452 = .ok (.aload_n 0, 1) := by decide +kernel
theorem dL_law_453 : decode cL_law 453 = .ok (.iload_n 3, 1) := by decide +kernel
theorem dL_law_454 : decode cL_law 454 = .ok (.iconst 2, 1) := by decide +kernel
theorem dL_law_455 : decode cL_law 455 = .ok (.iadd, 1) := by decide +kernel
theorem dL_law_456 : decode cL_law 456 = .ok (.iaload, 1) := by decide +kernel
theorem dL_law_457 : decode cL_law 457 = .ok (.invokevirtual 57, 3) := by decide +kernel
theorem dL_law_460 : decode cL_law 460 = .ok (.if_icmp .eq 427, 3) := by decide +kernel
theorem dL_law_463 : decode cL_law 463 = .ok (.iconst 0, 1) := by decide +kernel
theorem dL_law_464 : decode cL_law 464 = .ok (.ireturn, 1) := by decide +kernel
theorem dL_law_465 : decode cL_law 465 = .ok (.aload_n 1, 1) := by decide +kernel
theorem dL_law_466 : decode cL_law 466 = .ok (.aload_n 0, 1) := by decide +kernel
theorem dL_law_467 : decode cL_law 467 = .ok (.iload_n 3, 1) := by decide +kernel
theorem dL_law_468 : decode cL_law 468 = .ok (.iconst 1, 1) := by decide +kernel
theorem dL_law_469 : decode cL_law 469 = .ok (.iadd, 1) := by decide +kernel
theorem dL_law_470 : decode cL_law 470 = .ok (.iaload, 1) := by decide +kernel
theorem dL_law_471 : decode cL_law 471 = .ok (.aload_n 0, 1) := by decide +kernel
theorem dL_law_472 : decode cL_law 472 = .ok (.iload_n 3, 1) := by decide +kernel
theorem dL_law_473 : decode cL_law 473 = .ok (.iconst 2, 1) := by decide +kernel
theorem dL_law_474 : decode cL_law 474 = .ok (.iadd, 1) := by decide +kernel
theorem dL_law_475 : decode cL_law 475 = .ok (.iaload, 1) := by decide +kernel
theorem dL_law_476 : decode cL_law 476 = .ok (.aload_n 0, 1) := by decide +kernel
theorem dL_law_477 : decode cL_law 477 = .ok (.iload_n 3, 1) := by decide +kernel
theorem dL_law_478 : decode cL_law 478 = .ok (.iconst 3, 1) := by decide +kernel
theorem dL_law_479 : decode cL_law 479 = .ok (.iadd, 1) := by decide +kernel
theorem dL_law_480 : decode cL_law 480 = .ok (.iaload, 1) := by decide +kernel
theorem dL_law_481 : decode cL_law 481 = .ok (.aload_n 0, 1) := by decide +kernel
theorem dL_law_482 : decode cL_law 482 = .ok (.iload_n 3, 1) := by decide +kernel
theorem dL_law_483 : decode cL_law 483 = .ok (.iconst 4, 1) := by decide +kernel
theorem dL_law_484 : decode cL_law 484 = .ok (.iadd, 1) := by decide +kernel
theorem dL_law_485 : decode cL_law 485 = .ok (.iaload, 1) := by decide +kernel
theorem dL_law_486 : decode cL_law 486 = .ok (.invokevirtual 58, 3) := by decide +kernel
theorem dL_law_489 : decode cL_law 489 = .ok (.aload_n 2, 1) := by decide +kernel
theorem dL_law_490 : decode cL_law 490 = .ok (.aload_n 0, 1) := by decide +kernel
theorem dL_law_491 : decode cL_law 491 = .ok (.iload_n 3, 1) := by decide +kernel
theorem dL_law_492 : decode cL_law 492 = .ok (.iconst 1, 1) := by decide +kernel
theorem dL_law_493 : decode cL_law 493 = .ok (.iadd, 1) := by decide +kernel
theorem dL_law_494 : decode cL_law 494 = .ok (.iaload, 1) := by decide +kernel
theorem dL_law_495 : decode cL_law 495 = .ok (.aload_n 0, 1) := by decide +kernel
theorem dL_law_496 : decode cL_law 496 = .ok (.iload_n 3, 1) := by decide +kernel
theorem dL_law_497 : decode cL_law 497 = .ok (.iconst 2, 1) := by decide +kernel
theorem dL_law_498 : decode cL_law 498 = .ok (.iadd, 1) := by decide +kernel
theorem dL_law_499 : decode cL_law 499 = .ok (.iaload, 1) := by decide +kernel
theorem dL_law_500 : decode cL_law 500 = .ok (.aload_n 0, 1) := by decide +kernel
theorem dL_law_501 : decode cL_law 501 = .ok (.iload_n 3, 1) := by decide +kernel
theorem dL_law_502 : decode cL_law 502 = .ok (.iconst 3, 1) := by decide +kernel
theorem dL_law_503 : decode cL_law 503 = .ok (.iadd, 1) := by decide +kernel
theorem dL_law_504 : decode cL_law 504 = .ok (.iaload, 1) := by decide +kernel
theorem dL_law_505 : decode cL_law 505 = .ok (.aload_n 0, 1) := by decide +kernel
theorem dL_law_506 : decode cL_law 506 = .ok (.iload_n 3, 1) := by decide +kernel
theorem dL_law_507 : decode cL_law 507 = .ok (.iconst 4, 1) := by decide +kernel
theorem dL_law_508 : decode cL_law 508 = .ok (.iadd, 1) := by decide +kernel
theorem dL_law_509 : decode cL_law 509 = .ok (.iaload, 1) := by decide +kernel
theorem dL_law_510 : decode cL_law 510 = .ok (.invokevirtual 62, 3) := by decide +kernel
theorem dL_law_513 : decode cL_law 513 = .ok (.if_icmp .eq 374, 3) := by decide +kernel
theorem dL_law_516 : decode cL_law 516 = .ok (.iconst 0, 1) := by decide +kernel
theorem dL_law_517 : decode cL_law 517 = .ok (.ireturn, 1) := by decide +kernel
theorem dL_law_518 : decode cL_law 518 = .ok (.aload_n 1, 1) := by decide +kernel
theorem dL_law_519 : decode cL_law 519 = .ok (.aload_n 0, 1) := by decide +kernel
theorem dL_law_520 : decode cL_law 520 = .ok (.iload_n 3, 1) := by decide +kernel
theorem dL_law_521 : decode cL_law 521 = .ok (.iconst 1, 1) := by decide +kernel
theorem dL_law_522 : decode cL_law 522 = .ok (.iadd, 1) := by decide +kernel
theorem dL_law_523 : decode cL_law 523 = .ok (.iaload, 1) := by decide +kernel
theorem dL_law_524 : decode cL_law 524 = .ok (.aload_n 0, 1) := by decide +kernel
theorem dL_law_525 : decode cL_law 525 = .ok (.iload_n 3, 1) := by decide +kernel
theorem dL_law_526 : decode cL_law 526 = .ok (.iconst 2, 1) := by decide +kernel
theorem dL_law_527 : decode cL_law 527 = .ok (.iadd, 1) := by decide +kernel
theorem dL_law_528 : decode cL_law 528 = .ok (.iaload, 1) := by decide +kernel
theorem dL_law_529 : decode cL_law 529 = .ok (.invokevirtual 63, 3) := by decide +kernel
theorem dL_law_532 : decode cL_law 532 = .ok (.aload_n 2, 1) := by decide +kernel
theorem dL_law_533 : decode cL_law 533 = .ok (.aload_n 0, 1) := by decide +kernel
theorem dL_law_534 : decode cL_law 534 = .ok (.iload_n 3, 1) := by decide +kernel
theorem dL_law_535 : decode cL_law 535 = .ok (.iconst 1, 1) := by decide +kernel
theorem dL_law_536 : decode cL_law 536 = .ok (.iadd, 1) := by decide +kernel
theorem dL_law_537 : decode cL_law 537 = .ok (.iaload, 1) := by decide +kernel
theorem dL_law_538 : decode cL_law 538 = .ok (.aload_n 0, 1) := by decide +kernel
theorem dL_law_539 : decode cL_law 539 = .ok (.iload_n 3, 1) := by decide +kernel
theorem dL_law_540 : decode cL_law 540 = .ok (.iconst 2, 1) := by decide +kernel
theorem dL_law_541 : decode cL_law 541 = .ok (.iadd, 1) := by decide +kernel
theorem dL_law_542 : decode cL_law 542 = .ok (.iaload, 1) := by decide +kernel
theorem dL_law_543 : decode cL_law 543 = .ok (.invokevirtual 66, 3) := by decide +kernel
theorem dL_law_546 : decode cL_law 546 = .ok (.if_icmp .eq 341, 3) := by decide +kernel
theorem dL_law_549 : decode cL_law 549 = .ok (.iconst 0, 1) := by decide +kernel
theorem dL_law_550 : decode cL_law 550 = .ok (.ireturn, 1) := by decide +kernel
theorem dL_law_551 : decode cL_law 551 = .ok (.aload_n 1, 1) := by decide +kernel
theorem dL_law_552 : decode cL_law 552 = .ok (.aload_n 0, 1) := by decide +kernel
theorem dL_law_553 : decode cL_law 553 = .ok (.iload_n 3, 1) := by decide +kernel
theorem dL_law_554 : decode cL_law 554 = .ok (.iconst 1, 1) := by decide +kernel
theorem dL_law_555 : decode cL_law 555 = .ok (.iadd, 1) := by decide +kernel
theorem dL_law_556 : decode cL_law 556 = .ok (.iaload, 1) := by decide +kernel
theorem dL_law_557 : decode cL_law 557 = .ok (.aload_n 0, 1) := by decide +kernel
theorem dL_law_558 : decode cL_law 558 = .ok (.iload_n 3, 1) := by decide +kernel
theorem dL_law_559 : decode cL_law 559 = .ok (.iconst 2, 1) := by decide +kernel
theorem dL_law_560 : decode cL_law 560 = .ok (.iadd, 1) := by decide +kernel
theorem dL_law_561 : decode cL_law 561 = .ok (.iaload, 1) := by decide +kernel
theorem dL_law_562 : decode cL_law 562 = .ok (.invokevirtual 67, 3) := by decide +kernel
theorem dL_law_565 : decode cL_law 565 = .ok (.aload_n 2, 1) := by decide +kernel
theorem dL_law_566 : decode cL_law 566 = .ok (.aload_n 0, 1) := by decide +kernel
theorem dL_law_567 : decode cL_law 567 = .ok (.iload_n 3, 1) := by decide +kernel
theorem dL_law_568 : decode cL_law 568 = .ok (.iconst 1, 1) := by decide +kernel
theorem dL_law_569 : decode cL_law 569 = .ok (.iadd, 1) := by decide +kernel
theorem dL_law_570 : decode cL_law 570 = .ok (.iaload, 1) := by decide +kernel
theorem dL_law_571 : decode cL_law 571 = .ok (.aload_n 0, 1) := by decide +kernel
theorem dL_law_572 : decode cL_law 572 = .ok (.iload_n 3, 1) := by decide +kernel
theorem dL_law_573 : decode cL_law 573 = .ok (.iconst 2, 1) := by decide +kernel
theorem dL_law_574 : decode cL_law 574 = .ok (.iadd, 1) := by decide +kernel
theorem dL_law_575 : decode cL_law 575 = .ok (.iaload, 1) := by decide +kernel
theorem dL_law_576 : decode cL_law 576 = .ok (.invokevirtual 70, 3) := by decide +kernel
theorem dL_law_579 : decode cL_law 579 = .ok (.if_icmp .eq 308, 3) := by decide +kernel
theorem dL_law_582 : decode cL_law 582 = .ok (.iconst 0, 1) := by decide +kernel
theorem dL_law_583 : decode cL_law 583 = .ok (.ireturn, 1) := by decide +kernel
theorem dL_law_584 : decode cL_law 584 = .ok (.aload_n 1, 1) := by decide +kernel
theorem dL_law_585 : decode cL_law 585 = .ok (.aload_n 0, 1) := by decide +kernel
theorem dL_law_586 : decode cL_law 586 = .ok (.iload_n 3, 1) := by decide +kernel
theorem dL_law_587 : decode cL_law 587 = .ok (.iconst 1, 1) := by decide +kernel
theorem dL_law_588 : decode cL_law 588 = .ok (.iadd, 1) := by decide +kernel
theorem dL_law_589 : decode cL_law 589 = .ok (.iaload, 1) := by decide +kernel
theorem dL_law_590 : decode cL_law 590 = .ok (.aload_n 0, 1) := by decide +kernel
theorem dL_law_591 : decode cL_law 591 = .ok (.iload_n 3, 1) := by decide +kernel
theorem dL_law_592 : decode cL_law 592 = .ok (.iconst 2, 1) := by decide +kernel
theorem dL_law_593 : decode cL_law 593 = .ok (.iadd, 1) := by decide +kernel
theorem dL_law_594 : decode cL_law 594 = .ok (.iaload, 1) := by decide +kernel
theorem dL_law_595 : decode cL_law 595 = .ok (.aload_n 0, 1) := by decide +kernel
theorem dL_law_596 : decode cL_law 596 = .ok (.iload_n 3, 1) := by decide +kernel
theorem dL_law_597 : decode cL_law 597 = .ok (.iconst 3, 1) := by decide +kernel
theorem dL_law_598 : decode cL_law 598 = .ok (.iadd, 1) := by decide +kernel
theorem dL_law_599 : decode cL_law 599 = .ok (.iaload, 1) := by decide +kernel
theorem dL_law_600 : decode cL_law 600 = .ok (.invokevirtual 71, 3) := by decide +kernel
theorem dL_law_603 : decode cL_law 603 = .ok (.aload_n 2, 1) := by decide +kernel
theorem dL_law_604 : decode cL_law 604 = .ok (.aload_n 0, 1) := by decide +kernel
theorem dL_law_605 : decode cL_law 605 = .ok (.iload_n 3, 1) := by decide +kernel
theorem dL_law_606 : decode cL_law 606 = .ok (.iconst 1, 1) := by decide +kernel
theorem dL_law_607 : decode cL_law 607 = .ok (.iadd, 1) := by decide +kernel
theorem dL_law_608 : decode cL_law 608 = .ok (.iaload, 1) := by decide +kernel
theorem dL_law_609 : decode cL_law 609 = .ok (.aload_n 0, 1) := by decide +kernel
theorem dL_law_610 : decode cL_law 610 = .ok (.iload_n 3, 1) := by decide +kernel
theorem dL_law_611 : decode cL_law 611 = .ok (.iconst 2, 1) := by decide +kernel
theorem dL_law_612 : decode cL_law 612 = .ok (.iadd, 1) := by decide +kernel
theorem dL_law_613 : decode cL_law 613 = .ok (.iaload, 1) := by decide +kernel
theorem dL_law_614 : decode cL_law 614 = .ok (.aload_n 0, 1) := by decide +kernel
theorem dL_law_615 : decode cL_law 615 = .ok (.iload_n 3, 1) := by decide +kernel
theorem dL_law_616 : decode cL_law 616 = .ok (.iconst 3, 1) := by decide +kernel
theorem dL_law_617 : decode cL_law 617 = .ok (.iadd, 1) := by decide +kernel
theorem dL_law_618 : decode cL_law 618 = .ok (.iaload, 1) := by decide +kernel
theorem dL_law_619 : decode cL_law 619 = .ok (.invokevirtual 74, 3) := by decide +kernel
theorem dL_law_622 : decode cL_law 622 = .ok (.if_icmp .eq 265, 3) := by decide +kernel
theorem dL_law_625 : decode cL_law 625 = .ok (.iconst 0, 1) := by decide +kernel
theorem dL_law_626 : decode cL_law 626 = .ok (.ireturn, 1) := by decide +kernel
theorem dL_law_627 : decode cL_law 627 = .ok (.aload_n 1, 1) := by decide +kernel
theorem dL_law_628 : decode cL_law 628 = .ok (.aload_n 0, 1) := by decide +kernel
theorem dL_law_629 : decode cL_law 629 = .ok (.iload_n 3, 1) := by decide +kernel
theorem dL_law_630 : decode cL_law 630 = .ok (.iconst 1, 1) := by decide +kernel
theorem dL_law_631 : decode cL_law 631 = .ok (.iadd, 1) := by decide +kernel
theorem dL_law_632 : decode cL_law 632 = .ok (.iaload, 1) := by decide +kernel
theorem dL_law_633 : decode cL_law 633 = .ok (.aload_n 0, 1) := by decide +kernel
theorem dL_law_634 : decode cL_law 634 = .ok (.iload_n 3, 1) := by decide +kernel
theorem dL_law_635 : decode cL_law 635 = .ok (.iconst 2, 1) := by decide +kernel
theorem dL_law_636 : decode cL_law 636 = .ok (.iadd, 1) := by decide +kernel
theorem dL_law_637 : decode cL_law 637 = .ok (.iaload, 1) := by decide +kernel
theorem dL_law_638 : decode cL_law 638 = .ok (.invokevirtual 75, 3) := by decide +kernel
theorem dL_law_641 : decode cL_law 641 = .ok (.aload_n 2, 1) := by decide +kernel
theorem dL_law_642 : decode cL_law 642 = .ok (.aload_n 0, 1) := by decide +kernel
theorem dL_law_643 : decode cL_law 643 = .ok (.iload_n 3, 1) := by decide +kernel
theorem dL_law_644 : decode cL_law 644 = .ok (.iconst 1, 1) := by decide +kernel
theorem dL_law_645 : decode cL_law 645 = .ok (.iadd, 1) := by decide +kernel
theorem dL_law_646 : decode cL_law 646 = .ok (.iaload, 1) := by decide +kernel
theorem dL_law_647 : decode cL_law 647 = .ok (.aload_n 0, 1) := by decide +kernel
theorem dL_law_648 : decode cL_law 648 = .ok (.iload_n 3, 1) := by decide +kernel
theorem dL_law_649 : decode cL_law 649 = .ok (.iconst 2, 1) := by decide +kernel
theorem dL_law_650 : decode cL_law 650 = .ok (.iadd, 1) := by decide +kernel
theorem dL_law_651 : decode cL_law 651 = .ok (.iaload, 1) := by decide +kernel
theorem dL_law_652 : decode cL_law 652 = .ok (.invokevirtual 78, 3) := by decide +kernel
theorem dL_law_655 : decode cL_law 655 = .ok (.if_icmp .eq 232, 3) := by decide +kernel
theorem dL_law_658 : decode cL_law 658 = .ok (.iconst 0, 1) := by decide +kernel
theorem dL_law_659 : decode cL_law 659 = .ok (.ireturn, 1) := by decide +kernel
theorem dL_law_660 : decode cL_law 660 = .ok (.aload_n 1, 1) := by decide +kernel
theorem dL_law_661 : decode cL_law 661 = .ok (.invokevirtual 79, 3) := by decide +kernel
theorem dL_law_664 : decode cL_law 664 = .ok (.aload_n 2, 1) := by decide +kernel
theorem dL_law_665 : decode cL_law 665 = .ok (.invokevirtual 82, 3) := by decide +kernel
theorem dL_law_668 : decode cL_law 668 = .ok (.if_icmp .eq 219, 3) := by decide +kernel
theorem dL_law_671 : decode cL_law 671 = .ok (.iconst 0, 1) := by decide +kernel
theorem dL_law_672 : decode cL_law 672 = .ok (.ireturn, 1) := by decide +kernel
theorem dL_law_673 : decode cL_law 673 = .ok (.aload_n 1, 1) := by decide +kernel
theorem dL_law_674 : decode cL_law 674 = .ok (.aload_n 0, 1) := by decide +kernel
theorem dL_law_675 : decode cL_law 675 = .ok (.iload_n 3, 1) := by decide +kernel
theorem dL_law_676 : decode cL_law 676 = .ok (.iconst 1, 1) := by decide +kernel
theorem dL_law_677 : decode cL_law 677 = .ok (.iadd, 1) := by decide +kernel
theorem dL_law_678 : decode cL_law 678 = .ok (.iaload, 1) := by decide +kernel
theorem dL_law_679 : decode cL_law 679 = .ok (.invokevirtual 83, 3) := by decide +kernel
theorem dL_law_682 : decode cL_law 682 = .ok (.aload_n 2, 1) := by decide +kernel
theorem dL_law_683 : decode cL_law 683 = .ok (.aload_n 0, 1) := by decide +kernel
theorem dL_law_684 : decode cL_law 684 = .ok (.iload_n 3, 1) := by decide +kernel
theorem dL_law_685 : decode cL_law 685 = .ok (.iconst 1, 1) := by decide +kernel
theorem dL_law_686 : decode cL_law 686 = .ok (.iadd, 1) := by decide +kernel
theorem dL_law_687 : decode cL_law 687 = .ok (.iaload, 1) := by decide +kernel
theorem dL_law_688 : decode cL_law 688 = .ok (.invokevirtual 86, 3) := by decide +kernel
theorem dL_law_691 : decode cL_law 691 = .ok (.if_icmp .eq 196, 3) := by decide +kernel
theorem dL_law_694 : decode cL_law 694 = .ok (.iconst 0, 1) := by decide +kernel
theorem dL_law_695 : decode cL_law 695 = .ok (.ireturn, 1) := by decide +kernel
theorem dL_law_696 : decode cL_law 696 = .ok (.aload_n 1, 1) := by decide +kernel
theorem dL_law_697 : decode cL_law 697 = .ok (.aload_n 0, 1) := by decide +kernel
theorem dL_law_698 : decode cL_law 698 = .ok (.iload_n 3, 1) := by decide +kernel
theorem dL_law_699 : decode cL_law 699 = .ok (.iconst 1, 1) := by decide +kernel
theorem dL_law_700 : decode cL_law 700 = .ok (.iadd, 1) := by decide +kernel
theorem dL_law_701 : decode cL_law 701 = .ok (.iaload, 1) := by decide +kernel
theorem dL_law_702 : decode cL_law 702 = .ok (.aload_n 0, 1) := by decide +kernel
theorem dL_law_703 : decode cL_law 703 = .ok (.iload_n 3, 1) := by decide +kernel
theorem dL_law_704 : decode cL_law 704 = .ok (.iconst 2, 1) := by decide +kernel
theorem dL_law_705 : decode cL_law 705 = .ok (.iadd, 1) := by decide +kernel
theorem dL_law_706 : decode cL_law 706 = .ok (.iaload, 1) := by decide +kernel
theorem dL_law_707 : decode cL_law 707 = .ok (.aload_n 0, 1) := by decide +kernel
theorem dL_law_708 : decode cL_law 708 = .ok (.iload_n 3, 1) := by decide +kernel
theorem dL_law_709 : decode cL_law 709 = .ok (.iconst 3, 1) := by decide +kernel
theorem dL_law_710 : decode cL_law 710 = .ok (.iadd, 1) := by decide +kernel
theorem dL_law_711 : decode cL_law 711 = .ok (.iaload, 1) := by decide +kernel
theorem dL_law_712 : decode cL_law 712 = .ok (.invokevirtual 87, 3) := by decide +kernel
theorem dL_law_715 : decode cL_law 715 = .ok (.aload_n 2, 1) := by decide +kernel
theorem dL_law_716 : decode cL_law 716 = .ok (.aload_n 0, 1) := by decide +kernel
theorem dL_law_717 : decode cL_law 717 = .ok (.iload_n 3, 1) := by decide +kernel
theorem dL_law_718 : decode cL_law 718 = .ok (.iconst 1, 1) := by decide +kernel
theorem dL_law_719 : decode cL_law 719 = .ok (.iadd, 1) := by decide +kernel
theorem dL_law_720 : decode cL_law 720 = .ok (.iaload, 1) := by decide +kernel
theorem dL_law_721 : decode cL_law 721 = .ok (.aload_n 0, 1) := by decide +kernel
theorem dL_law_722 : decode cL_law 722 = .ok (.iload_n 3, 1) := by decide +kernel
theorem dL_law_723 : decode cL_law 723 = .ok (.iconst 2, 1) := by decide +kernel
theorem dL_law_724 : decode cL_law 724 = .ok (.iadd, 1) := by decide +kernel
theorem dL_law_725 : decode cL_law 725 = .ok (.iaload, 1) := by decide +kernel
theorem dL_law_726 : decode cL_law 726 = .ok (.aload_n 0, 1) := by decide +kernel
theorem dL_law_727 : decode cL_law 727 = .ok (.iload_n 3, 1) := by decide +kernel
theorem dL_law_728 : decode cL_law 728 = .ok (.iconst 3, 1) := by decide +kernel
theorem dL_law_729 : decode cL_law 729 = .ok (.iadd, 1) := by decide +kernel
theorem dL_law_730 : decode cL_law 730 = .ok (.iaload, 1) := by decide +kernel
theorem dL_law_731 : decode cL_law 731 = .ok (.invokevirtual 90, 3) := by decide +kernel
theorem dL_law_734 : decode cL_law 734 = .ok (.if_icmp .eq 153, 3) := by decide +kernel
theorem dL_law_737 : decode cL_law 737 = .ok (.iconst 0, 1) := by decide +kernel
theorem dL_law_738 : decode cL_law 738 = .ok (.ireturn, 1) := by decide +kernel
theorem dL_law_739 : decode cL_law 739 = .ok (.aload_n 1, 1) := by decide +kernel
theorem dL_law_740 : decode cL_law 740 = .ok (.aload_n 0, 1) := by decide +kernel
theorem dL_law_741 : decode cL_law 741 = .ok (.iload_n 3, 1) := by decide +kernel
theorem dL_law_742 : decode cL_law 742 = .ok (.iconst 1, 1) := by decide +kernel
theorem dL_law_743 : decode cL_law 743 = .ok (.iadd, 1) := by decide +kernel
theorem dL_law_744 : decode cL_law 744 = .ok (.iaload, 1) := by decide +kernel
theorem dL_law_745 : decode cL_law 745 = .ok (.aload_n 0, 1) := by decide +kernel
theorem dL_law_746 : decode cL_law 746 = .ok (.iload_n 3, 1) := by decide +kernel
theorem dL_law_747 : decode cL_law 747 = .ok (.iconst 2, 1) := by decide +kernel
theorem dL_law_748 : decode cL_law 748 = .ok (.iadd, 1) := by decide +kernel
theorem dL_law_749 : decode cL_law 749 = .ok (.iaload, 1) := by decide +kernel
theorem dL_law_750 : decode cL_law 750 = .ok (.aload_n 0, 1) := by decide +kernel
theorem dL_law_751 : decode cL_law 751 = .ok (.iload_n 3, 1) := by decide +kernel
theorem dL_law_752 : decode cL_law 752 = .ok (.iconst 3, 1) := by decide +kernel
theorem dL_law_753 : decode cL_law 753 = .ok (.iadd, 1) := by decide +kernel
theorem dL_law_754 : decode cL_law 754 = .ok (.iaload, 1) := by decide +kernel
theorem dL_law_755 : decode cL_law 755 = .ok (.invokevirtual 91, 3) := by decide +kernel
theorem dL_law_758 : decode cL_law 758 = .ok (.aload_n 2, 1) := by decide +kernel
theorem dL_law_759 : decode cL_law 759 = .ok (.aload_n 0, 1) := by decide +kernel
theorem dL_law_760 : decode cL_law 760 = .ok (.iload_n 3, 1) := by decide +kernel
theorem dL_law_761 : decode cL_law 761 = .ok (.iconst 1, 1) := by decide +kernel
theorem dL_law_762 : decode cL_law 762 = .ok (.iadd, 1) := by decide +kernel
theorem dL_law_763 : decode cL_law 763 = .ok (.iaload, 1) := by decide +kernel
theorem dL_law_764 : decode cL_law 764 = .ok (.aload_n 0, 1) := by decide +kernel
theorem dL_law_765 : decode cL_law 765 = .ok (.iload_n 3, 1) := by decide +kernel
theorem dL_law_766 : decode cL_law 766 = .ok (.iconst 2, 1) := by decide +kernel
theorem dL_law_767 : decode cL_law 767 = .ok (.iadd, 1) := by decide +kernel
theorem dL_law_768 : decode cL_law 768 = .ok (.iaload, 1) := by decide +kernel
theorem dL_law_769 : decode cL_law 769 = .ok (.aload_n 0, 1) := by decide +kernel
theorem dL_law_770 : decode cL_law 770 = .ok (.iload_n 3, 1) := by decide +kernel
theorem dL_law_771 : decode cL_law 771 = .ok (.iconst 3, 1) := by decide +kernel
theorem dL_law_772 : decode cL_law 772 = .ok (.iadd, 1) := by decide +kernel
theorem dL_law_773 : decode cL_law 773 = .ok (.iaload, 1) := by decide +kernel
theorem dL_law_774 : decode cL_law 774 = .ok (.invokevirtual 94, 3) := by decide +kernel
theorem dL_law_777 : decode cL_law 777 = .ok (.if_icmp .eq 110, 3) := by decide +kernel
theorem dL_law_780 : decode cL_law 780 = .ok (.iconst 0, 1) := by decide +kernel
theorem dL_law_781 : decode cL_law 781 = .ok (.ireturn, 1) := by decide +kernel
theorem dL_law_782 : decode cL_law 782 = .ok (.aload_n 1, 1) := by decide +kernel
theorem dL_law_783 : decode cL_law 783 = .ok (.aload_n 0, 1) := by decide +kernel
theorem dL_law_784 : decode cL_law 784 = .ok (.iload_n 3, 1) := by decide +kernel
theorem dL_law_785 : decode cL_law 785 = .ok (.iconst 1, 1) := by decide +kernel
theorem dL_law_786 : decode cL_law 786 = .ok (.iadd, 1) := by decide +kernel
theorem dL_law_787 : decode cL_law 787 = .ok (.iaload, 1) := by decide +kernel
theorem dL_law_788 : decode cL_law 788 = .ok (.aload_n 0, 1) := by decide +kernel
theorem dL_law_789 : decode cL_law 789 = .ok (.iload_n 3, 1) := by decide +kernel
theorem dL_law_790 : decode cL_law 790 = .ok (.iconst 2, 1) := by decide +kernel
theorem dL_law_791 : decode cL_law 791 = .ok (.iadd, 1) := by decide +kernel
theorem dL_law_792 : decode cL_law 792 = .ok (.iaload, 1) := by decide +kernel
theorem dL_law_793 : decode cL_law 793 = .ok (.invokevirtual 95, 3) := by decide +kernel
theorem dL_law_796 : decode cL_law 796 = .ok (.aload_n 2, 1) := by decide +kernel
theorem dL_law_797 : decode cL_law 797 = .ok (.aload_n 0, 1) := by decide +kernel
theorem dL_law_798 : decode cL_law 798 = .ok (.iload_n 3, 1) := by decide +kernel
theorem dL_law_799 : decode cL_law 799 = .ok (.iconst 1, 1) := by decide +kernel
theorem dL_law_800 : decode cL_law 800 = .ok (.iadd, 1) := by decide +kernel
theorem dL_law_801 : decode cL_law 801 = .ok (.iaload, 1) := by decide +kernel
theorem dL_law_802 : decode cL_law 802 = .ok (.aload_n 0, 1) := by decide +kernel
theorem dL_law_803 : decode cL_law 803 = .ok (.iload_n 3, 1) := by decide +kernel
theorem dL_law_804 : decode cL_law 804 = .ok (.iconst 2, 1) := by decide +kernel
theorem dL_law_805 : decode cL_law 805 = .ok (.iadd, 1) := by decide +kernel
theorem dL_law_806 : decode cL_law 806 = .ok (.iaload, 1) := by decide +kernel
theorem dL_law_807 : decode cL_law 807 = .ok (.invokevirtual 98, 3) := by decide +kernel
theorem dL_law_810 : decode cL_law 810 = .ok (.if_icmp .eq 77, 3) := by decide +kernel
theorem dL_law_813 : decode cL_law 813 = .ok (.iconst 0, 1) := by decide +kernel
theorem dL_law_814 : decode cL_law 814 = .ok (.ireturn, 1) := by decide +kernel
theorem dL_law_815 : decode cL_law 815 = .ok (.aload_n 1, 1) := by decide +kernel
theorem dL_law_816 : decode cL_law 816 = .ok (.aload_n 0, 1) := by decide +kernel
theorem dL_law_817 : decode cL_law 817 = .ok (.iload_n 3, 1) := by decide +kernel
theorem dL_law_818 : decode cL_law 818 = .ok (.iconst 1, 1) := by decide +kernel
theorem dL_law_819 : decode cL_law 819 = .ok (.iadd, 1) := by decide +kernel
theorem dL_law_820 : decode cL_law 820 = .ok (.iaload, 1) := by decide +kernel
theorem dL_law_821 : decode cL_law 821 = .ok (.invokevirtual 99, 3) := by decide +kernel
theorem dL_law_824 : decode cL_law 824 = .ok (.aload_n 2, 1) := by decide +kernel
theorem dL_law_825 : decode cL_law 825 = .ok (.aload_n 0, 1) := by decide +kernel
theorem dL_law_826 : decode cL_law 826 = .ok (.iload_n 3, 1) := by decide +kernel
theorem dL_law_827 : decode cL_law 827 = .ok (.iconst 1, 1) := by decide +kernel
theorem dL_law_828 : decode cL_law 828 = .ok (.iadd, 1) := by decide +kernel
theorem dL_law_829 : decode cL_law 829 = .ok (.iaload, 1) := by decide +kernel
theorem dL_law_830 : decode cL_law 830 = .ok (.invokevirtual 102, 3) := by decide +kernel
theorem dL_law_833 : decode cL_law 833 = .ok (.if_icmp .eq 54, 3) := by decide +kernel
theorem dL_law_836 : decode cL_law 836 = .ok (.iconst 0, 1) := by decide +kernel
theorem dL_law_837 : decode cL_law 837 = .ok (.ireturn, 1) := by decide +kernel
theorem dL_law_838 : decode cL_law 838 = .ok (.aload_n 1, 1) := by decide +kernel
theorem dL_law_839 : decode cL_law 839 = .ok (.invokevirtual 103, 3) := by decide +kernel
theorem dL_law_842 : decode cL_law 842 = .ok (.aload_n 2, 1) := by decide +kernel
theorem dL_law_843 : decode cL_law 843 = .ok (.invokevirtual 106, 3) := by decide +kernel
theorem dL_law_846 : decode cL_law 846 = .ok (.if_icmp .eq 41, 3) := by decide +kernel
theorem dL_law_849 : decode cL_law 849 = .ok (.iconst 0, 1) := by decide +kernel
theorem dL_law_850 : decode cL_law 850 = .ok (.ireturn, 1) := by decide +kernel
theorem dL_law_851 : decode cL_law 851 = .ok (.aload_n 1, 1) := by decide +kernel
theorem dL_law_852 : decode cL_law 852 = .ok (.aload_n 0, 1) := by decide +kernel
theorem dL_law_853 : decode cL_law 853 = .ok (.iload_n 3, 1) := by decide +kernel
theorem dL_law_854 : decode cL_law 854 = .ok (.iconst 1, 1) := by decide +kernel
theorem dL_law_855 : decode cL_law 855 = .ok (.iadd, 1) := by decide +kernel
theorem dL_law_856 : decode cL_law 856 = .ok (.iaload, 1) := by decide +kernel
theorem dL_law_857 : decode cL_law 857 = .ok (.invokevirtual 107, 3) := by decide +kernel
theorem dL_law_860 : decode cL_law 860 = .ok (.aload_n 2, 1) := by decide +kernel
theorem dL_law_861 : decode cL_law 861 = .ok (.aload_n 0, 1) := by decide +kernel
theorem dL_law_862 : decode cL_law 862 = .ok (.iload_n 3, 1) := by decide +kernel
theorem dL_law_863 : decode cL_law 863 = .ok (.iconst 1, 1) := by decide +kernel
theorem dL_law_864 : decode cL_law 864 = .ok (.iadd, 1) := by decide +kernel
theorem dL_law_865 : decode cL_law 865 = .ok (.iaload, 1) := by decide +kernel
theorem dL_law_866 : decode cL_law 866 = .ok (.invokevirtual 110, 3) := by decide +kernel
theorem dL_law_869 : decode cL_law 869 = .ok (.if_icmp .eq 18, 3) := by decide +kernel
theorem dL_law_872 : decode cL_law 872 = .ok (.iconst 0, 1) := by decide +kernel
theorem dL_law_873 : decode cL_law 873 = .ok (.ireturn, 1) := by decide +kernel
theorem dL_law_874 : decode cL_law 874 = .ok (.aload_n 1, 1) := by decide +kernel
theorem dL_law_875 : decode cL_law 875 = .ok (.invokevirtual 111, 3) := by decide +kernel
theorem dL_law_878 : decode cL_law 878 = .ok (.aload_n 2, 1) := by decide +kernel
theorem dL_law_879 : decode cL_law 879 = .ok (.invokevirtual 114, 3) := by decide +kernel
theorem dL_law_882 : decode cL_law 882 = .ok (.if_icmp .eq 5, 3) := by decide +kernel
theorem dL_law_885 : decode cL_law 885 = .ok (.iconst 0, 1) := by decide +kernel
theorem dL_law_886 : decode cL_law 886 = .ok (.ireturn, 1) := by decide +kernel
theorem dL_law_887 : decode cL_law 887 = .ok (.iinc 3 5, 3) := by decide +kernel
theorem dL_law_890 : decode cL_law 890 = .ok (.goto (-872), 3) := by decide +kernel
theorem dL_law_893 : decode cL_law 893 = .ok (.iconst 1, 1) := by decide +kernel
theorem dL_law_894 : decode cL_law 894 = .ok (.ireturn, 1) := by decide +kernel
end
section
theorem zz_last : True := trivial
end
