section
-- ===== PART A: goes FIRST, ahead of the names: the tables' words, and 'selects' of the private methods out of them =====
/-- a private method of a class that the tables say can be made, by its rows of tables_1 -/
def lw_okq (q : MethodName × Nat) : Prop := (q.1.cls ≠ "java/lang/invoke/MethodHandle" ∧ q.1.cls ≠ "java/lang/invoke/VarHandle") ∧ Cond.instantiable q.1.cls q.2 ∈ tables_1 ∧ Cond.privateMethod q.1 ∈ tables_1 ∧ Cond.instanceMethod q.1 ∈ tables_1
theorem lw_p0 : lw_okq (⟨"HopscotchCourt$Court", "wipe", "()V"⟩, 15) := ⟨⟨by decide +kernel, by decide +kernel⟩, List.mem_of_getElem? (i := 31) (by decide +kernel), List.mem_of_getElem? (i := 37) (by decide +kernel), List.mem_of_getElem? (i := 38) (by decide +kernel)⟩
theorem lw_p1 : lw_okq (⟨"HopscotchCourt$Court", "addRow", "(I)V"⟩, 15) := ⟨⟨by decide +kernel, by decide +kernel⟩, List.mem_of_getElem? (i := 31) (by decide +kernel), List.mem_of_getElem? (i := 243) (by decide +kernel), List.mem_of_getElem? (i := 244) (by decide +kernel)⟩
theorem lw_p2 : lw_okq (⟨"HopscotchCourt$Court", "addPlayer", "()V"⟩, 15) := ⟨⟨by decide +kernel, by decide +kernel⟩, List.mem_of_getElem? (i := 31) (by decide +kernel), List.mem_of_getElem? (i := 247) (by decide +kernel), List.mem_of_getElem? (i := 248) (by decide +kernel)⟩
theorem lw_p3 : lw_okq (⟨"HopscotchCourt$Court", "put", "(III)V"⟩, 15) := ⟨⟨by decide +kernel, by decide +kernel⟩, List.mem_of_getElem? (i := 31) (by decide +kernel), List.mem_of_getElem? (i := 251) (by decide +kernel), List.mem_of_getElem? (i := 252) (by decide +kernel)⟩
theorem lw_p4 : lw_okq (⟨"HopscotchCourt$Court", "addLetter", "(I)V"⟩, 15) := ⟨⟨by decide +kernel, by decide +kernel⟩, List.mem_of_getElem? (i := 31) (by decide +kernel), List.mem_of_getElem? (i := 255) (by decide +kernel), List.mem_of_getElem? (i := 256) (by decide +kernel)⟩
theorem lw_p5 : lw_okq (⟨"HopscotchCourt$Reader", "readCourt", "(LHopscotchCourt$Court;)Z"⟩, 7) := ⟨⟨by decide +kernel, by decide +kernel⟩, List.mem_of_getElem? (i := 196) (by decide +kernel), List.mem_of_getElem? (i := 288) (by decide +kernel), List.mem_of_getElem? (i := 289) (by decide +kernel)⟩
theorem lw_p6 : lw_okq (⟨"HopscotchCourt$Reader", "moveTo", "(I)V"⟩, 7) := ⟨⟨by decide +kernel, by decide +kernel⟩, List.mem_of_getElem? (i := 196) (by decide +kernel), List.mem_of_getElem? (i := 293) (by decide +kernel), List.mem_of_getElem? (i := 294) (by decide +kernel)⟩
theorem lw_p7 : lw_okq (⟨"HopscotchCourt$Reader", "readRows", "(LHopscotchCourt$Court;)Z"⟩, 7) := ⟨⟨by decide +kernel, by decide +kernel⟩, List.mem_of_getElem? (i := 196) (by decide +kernel), List.mem_of_getElem? (i := 297) (by decide +kernel), List.mem_of_getElem? (i := 298) (by decide +kernel)⟩
theorem lw_p8 : lw_okq (⟨"HopscotchCourt$Reader", "takeWord", "(Ljava/lang/String;)Z"⟩, 7) := ⟨⟨by decide +kernel, by decide +kernel⟩, List.mem_of_getElem? (i := 196) (by decide +kernel), List.mem_of_getElem? (i := 302) (by decide +kernel), List.mem_of_getElem? (i := 303) (by decide +kernel)⟩
theorem lw_p9 : lw_okq (⟨"HopscotchCourt$Reader", "nextIsWord", "(Ljava/lang/String;)Z"⟩, 7) := ⟨⟨by decide +kernel, by decide +kernel⟩, List.mem_of_getElem? (i := 196) (by decide +kernel), List.mem_of_getElem? (i := 306) (by decide +kernel), List.mem_of_getElem? (i := 307) (by decide +kernel)⟩
theorem lw_p10 : lw_okq (⟨"HopscotchCourt$Reader", "fail", "(II)Z"⟩, 7) := ⟨⟨by decide +kernel, by decide +kernel⟩, List.mem_of_getElem? (i := 196) (by decide +kernel), List.mem_of_getElem? (i := 358) (by decide +kernel), List.mem_of_getElem? (i := 359) (by decide +kernel)⟩
theorem lw_p11 : lw_okq (⟨"HopscotchCourt$Reader", "readSemicolon", "()Z"⟩, 7) := ⟨⟨by decide +kernel, by decide +kernel⟩, List.mem_of_getElem? (i := 196) (by decide +kernel), List.mem_of_getElem? (i := 364) (by decide +kernel), List.mem_of_getElem? (i := 365) (by decide +kernel)⟩
theorem lw_p12 : lw_okq (⟨"HopscotchCourt$Reader", "takeSign", "(I)Z"⟩, 7) := ⟨⟨by decide +kernel, by decide +kernel⟩, List.mem_of_getElem? (i := 196) (by decide +kernel), List.mem_of_getElem? (i := 368) (by decide +kernel), List.mem_of_getElem? (i := 369) (by decide +kernel)⟩
theorem lw_p13 : lw_okq (⟨"HopscotchCourt$Reader", "readDrift", "(LHopscotchCourt$Court;)Z"⟩, 7) := ⟨⟨by decide +kernel, by decide +kernel⟩, List.mem_of_getElem? (i := 196) (by decide +kernel), List.mem_of_getElem? (i := 373) (by decide +kernel), List.mem_of_getElem? (i := 374) (by decide +kernel)⟩
theorem lw_p14 : lw_okq (⟨"HopscotchCourt$Reader", "readNumber", "(II)Z"⟩, 7) := ⟨⟨by decide +kernel, by decide +kernel⟩, List.mem_of_getElem? (i := 196) (by decide +kernel), List.mem_of_getElem? (i := 378) (by decide +kernel), List.mem_of_getElem? (i := 379) (by decide +kernel)⟩
theorem lw_p15 : lw_okq (⟨"HopscotchCourt$Reader", "readPlayers", "(LHopscotchCourt$Court;)Z"⟩, 7) := ⟨⟨by decide +kernel, by decide +kernel⟩, List.mem_of_getElem? (i := 196) (by decide +kernel), List.mem_of_getElem? (i := 385) (by decide +kernel), List.mem_of_getElem? (i := 386) (by decide +kernel)⟩
def lw_privs_1 : List (MethodName × Nat) := [(⟨"HopscotchCourt$Court", "wipe", "()V"⟩, 15), (⟨"HopscotchCourt$Court", "addRow", "(I)V"⟩, 15), (⟨"HopscotchCourt$Court", "addPlayer", "()V"⟩, 15), (⟨"HopscotchCourt$Court", "put", "(III)V"⟩, 15), (⟨"HopscotchCourt$Court", "addLetter", "(I)V"⟩, 15), (⟨"HopscotchCourt$Reader", "readCourt", "(LHopscotchCourt$Court;)Z"⟩, 7), (⟨"HopscotchCourt$Reader", "moveTo", "(I)V"⟩, 7), (⟨"HopscotchCourt$Reader", "readRows", "(LHopscotchCourt$Court;)Z"⟩, 7), (⟨"HopscotchCourt$Reader", "takeWord", "(Ljava/lang/String;)Z"⟩, 7), (⟨"HopscotchCourt$Reader", "nextIsWord", "(Ljava/lang/String;)Z"⟩, 7), (⟨"HopscotchCourt$Reader", "fail", "(II)Z"⟩, 7), (⟨"HopscotchCourt$Reader", "readSemicolon", "()Z"⟩, 7), (⟨"HopscotchCourt$Reader", "takeSign", "(I)Z"⟩, 7), (⟨"HopscotchCourt$Reader", "readDrift", "(LHopscotchCourt$Court;)Z"⟩, 7), (⟨"HopscotchCourt$Reader", "readNumber", "(II)Z"⟩, 7), (⟨"HopscotchCourt$Reader", "readPlayers", "(LHopscotchCourt$Court;)Z"⟩, 7)]
theorem lw_r1 : ∀ q ∈ lw_privs_1, lw_okq q := List.forall_mem_cons.mpr ⟨lw_p0, List.forall_mem_cons.mpr ⟨lw_p1, List.forall_mem_cons.mpr ⟨lw_p2, List.forall_mem_cons.mpr ⟨lw_p3, List.forall_mem_cons.mpr ⟨lw_p4, List.forall_mem_cons.mpr ⟨lw_p5, List.forall_mem_cons.mpr ⟨lw_p6, List.forall_mem_cons.mpr ⟨lw_p7, List.forall_mem_cons.mpr ⟨lw_p8, List.forall_mem_cons.mpr ⟨lw_p9, List.forall_mem_cons.mpr ⟨lw_p10, List.forall_mem_cons.mpr ⟨lw_p11, List.forall_mem_cons.mpr ⟨lw_p12, List.forall_mem_cons.mpr ⟨lw_p13, List.forall_mem_cons.mpr ⟨lw_p14, List.forall_mem_cons.mpr ⟨lw_p15, fun _ h => absurd h List.not_mem_nil⟩⟩⟩⟩⟩⟩⟩⟩⟩⟩⟩⟩⟩⟩⟩⟩
theorem lw_p16 : lw_okq (⟨"HopscotchCourt$Reader", "readName", "(LHopscotchCourt$Court;I)Z"⟩, 7) := ⟨⟨by decide +kernel, by decide +kernel⟩, List.mem_of_getElem? (i := 196) (by decide +kernel), List.mem_of_getElem? (i := 391) (by decide +kernel), List.mem_of_getElem? (i := 392) (by decide +kernel)⟩
theorem lw_p17 : lw_okq (⟨"HopscotchCourt$Court", "hasSameName", "(II)Z"⟩, 15) := ⟨⟨by decide +kernel, by decide +kernel⟩, List.mem_of_getElem? (i := 31) (by decide +kernel), List.mem_of_getElem? (i := 396) (by decide +kernel), List.mem_of_getElem? (i := 397) (by decide +kernel)⟩
theorem lw_p18 : lw_okq (⟨"HopscotchCourt$Reader", "readParts", "(LHopscotchCourt$Court;I)Z"⟩, 7) := ⟨⟨by decide +kernel, by decide +kernel⟩, List.mem_of_getElem? (i := 196) (by decide +kernel), List.mem_of_getElem? (i := 400) (by decide +kernel), List.mem_of_getElem? (i := 401) (by decide +kernel)⟩
theorem lw_p19 : lw_okq (⟨"HopscotchCourt$Reader", "readPart", "(LHopscotchCourt$Court;ILjava/lang/String;I)Z"⟩, 7) := ⟨⟨by decide +kernel, by decide +kernel⟩, List.mem_of_getElem? (i := 196) (by decide +kernel), List.mem_of_getElem? (i := 405) (by decide +kernel), List.mem_of_getElem? (i := 406) (by decide +kernel)⟩
theorem lw_p20 : lw_okq (⟨"HopscotchCourt$Reader", "readOwned", "(LHopscotchCourt$Court;I)Z"⟩, 7) := ⟨⟨by decide +kernel, by decide +kernel⟩, List.mem_of_getElem? (i := 196) (by decide +kernel), List.mem_of_getElem? (i := 419) (by decide +kernel), List.mem_of_getElem? (i := 420) (by decide +kernel)⟩
theorem lw_p21 : lw_okq (⟨"HopscotchCourt$Court", "mendTargets", "()V"⟩, 15) := ⟨⟨by decide +kernel, by decide +kernel⟩, List.mem_of_getElem? (i := 31) (by decide +kernel), List.mem_of_getElem? (i := 425) (by decide +kernel), List.mem_of_getElem? (i := 426) (by decide +kernel)⟩
theorem lw_p22 : lw_okq (⟨"HopscotchCourt$Court", "get", "(II)I"⟩, 15) := ⟨⟨by decide +kernel, by decide +kernel⟩, List.mem_of_getElem? (i := 31) (by decide +kernel), List.mem_of_getElem? (i := 429) (by decide +kernel), List.mem_of_getElem? (i := 430) (by decide +kernel)⟩
theorem lw_p23 : lw_okq (⟨"HopscotchCourt$Court", "isForbidden", "(II)Z"⟩, 15) := ⟨⟨by decide +kernel, by decide +kernel⟩, List.mem_of_getElem? (i := 31) (by decide +kernel), List.mem_of_getElem? (i := 433) (by decide +kernel), List.mem_of_getElem? (i := 434) (by decide +kernel)⟩
theorem lw_p24 : lw_okq (⟨"HopscotchCourt$Court", "firstAllowed", "(II)I"⟩, 15) := ⟨⟨by decide +kernel, by decide +kernel⟩, List.mem_of_getElem? (i := 31) (by decide +kernel), List.mem_of_getElem? (i := 437) (by decide +kernel), List.mem_of_getElem? (i := 438) (by decide +kernel)⟩
theorem lw_p25 : lw_okq (⟨"HopscotchCourt$History", "keep", "(LHopscotchCourt$Court;)V"⟩, 3) := ⟨⟨by decide +kernel, by decide +kernel⟩, List.mem_of_getElem? (i := 176) (by decide +kernel), List.mem_of_getElem? (i := 441) (by decide +kernel), List.mem_of_getElem? (i := 442) (by decide +kernel)⟩
theorem lw_p26 : lw_okq (⟨"HopscotchCourt$Court", "copyFrom", "(LHopscotchCourt$Court;)V"⟩, 15) := ⟨⟨by decide +kernel, by decide +kernel⟩, List.mem_of_getElem? (i := 31) (by decide +kernel), List.mem_of_getElem? (i := 445) (by decide +kernel), List.mem_of_getElem? (i := 446) (by decide +kernel)⟩
theorem lw_p27 : lw_okq (⟨"HopscotchCourt$Game", "playUntilCrown", "(LHopscotchCourt$Court;I)I"⟩, 2) := ⟨⟨by decide +kernel, by decide +kernel⟩, List.mem_of_getElem? (i := 116) (by decide +kernel), List.mem_of_getElem? (i := 462) (by decide +kernel), List.mem_of_getElem? (i := 463) (by decide +kernel)⟩
theorem lw_p28 : lw_okq (⟨"HopscotchCourt$Court", "leastPower", "(I)I"⟩, 15) := ⟨⟨by decide +kernel, by decide +kernel⟩, List.mem_of_getElem? (i := 31) (by decide +kernel), List.mem_of_getElem? (i := 467) (by decide +kernel), List.mem_of_getElem? (i := 468) (by decide +kernel)⟩
theorem lw_p29 : lw_okq (⟨"HopscotchCourt$Court", "sideOf", "(I)I"⟩, 15) := ⟨⟨by decide +kernel, by decide +kernel⟩, List.mem_of_getElem? (i := 31) (by decide +kernel), List.mem_of_getElem? (i := 474) (by decide +kernel), List.mem_of_getElem? (i := 475) (by decide +kernel)⟩
theorem lw_p30 : lw_okq (⟨"HopscotchCourt$Game", "playTurn", "(LHopscotchCourt$Court;II)I"⟩, 2) := ⟨⟨by decide +kernel, by decide +kernel⟩, List.mem_of_getElem? (i := 116) (by decide +kernel), List.mem_of_getElem? (i := 478) (by decide +kernel), List.mem_of_getElem? (i := 479) (by decide +kernel)⟩
theorem lw_p31 : lw_okq (⟨"HopscotchCourt$Court", "faultOfThrow", "(III)I"⟩, 15) := ⟨⟨by decide +kernel, by decide +kernel⟩, List.mem_of_getElem? (i := 31) (by decide +kernel), List.mem_of_getElem? (i := 482) (by decide +kernel), List.mem_of_getElem? (i := 483) (by decide +kernel)⟩
def lw_privs_2 : List (MethodName × Nat) := [(⟨"HopscotchCourt$Reader", "readName", "(LHopscotchCourt$Court;I)Z"⟩, 7), (⟨"HopscotchCourt$Court", "hasSameName", "(II)Z"⟩, 15), (⟨"HopscotchCourt$Reader", "readParts", "(LHopscotchCourt$Court;I)Z"⟩, 7), (⟨"HopscotchCourt$Reader", "readPart", "(LHopscotchCourt$Court;ILjava/lang/String;I)Z"⟩, 7), (⟨"HopscotchCourt$Reader", "readOwned", "(LHopscotchCourt$Court;I)Z"⟩, 7), (⟨"HopscotchCourt$Court", "mendTargets", "()V"⟩, 15), (⟨"HopscotchCourt$Court", "get", "(II)I"⟩, 15), (⟨"HopscotchCourt$Court", "isForbidden", "(II)Z"⟩, 15), (⟨"HopscotchCourt$Court", "firstAllowed", "(II)I"⟩, 15), (⟨"HopscotchCourt$History", "keep", "(LHopscotchCourt$Court;)V"⟩, 3), (⟨"HopscotchCourt$Court", "copyFrom", "(LHopscotchCourt$Court;)V"⟩, 15), (⟨"HopscotchCourt$Game", "playUntilCrown", "(LHopscotchCourt$Court;I)I"⟩, 2), (⟨"HopscotchCourt$Court", "leastPower", "(I)I"⟩, 15), (⟨"HopscotchCourt$Court", "sideOf", "(I)I"⟩, 15), (⟨"HopscotchCourt$Game", "playTurn", "(LHopscotchCourt$Court;II)I"⟩, 2), (⟨"HopscotchCourt$Court", "faultOfThrow", "(III)I"⟩, 15)]
theorem lw_r2 : ∀ q ∈ lw_privs_2, lw_okq q := List.forall_mem_cons.mpr ⟨lw_p16, List.forall_mem_cons.mpr ⟨lw_p17, List.forall_mem_cons.mpr ⟨lw_p18, List.forall_mem_cons.mpr ⟨lw_p19, List.forall_mem_cons.mpr ⟨lw_p20, List.forall_mem_cons.mpr ⟨lw_p21, List.forall_mem_cons.mpr ⟨lw_p22, List.forall_mem_cons.mpr ⟨lw_p23, List.forall_mem_cons.mpr ⟨lw_p24, List.forall_mem_cons.mpr ⟨lw_p25, List.forall_mem_cons.mpr ⟨lw_p26, List.forall_mem_cons.mpr ⟨lw_p27, List.forall_mem_cons.mpr ⟨lw_p28, List.forall_mem_cons.mpr ⟨lw_p29, List.forall_mem_cons.mpr ⟨lw_p30, List.forall_mem_cons.mpr ⟨lw_p31, fun _ h => absurd h List.not_mem_nil⟩⟩⟩⟩⟩⟩⟩⟩⟩⟩⟩⟩⟩⟩⟩⟩
theorem lw_p32 : lw_okq (⟨"HopscotchCourt$Court", "widthOf", "(I)I"⟩, 15) := ⟨⟨by decide +kernel, by decide +kernel⟩, List.mem_of_getElem? (i := 31) (by decide +kernel), List.mem_of_getElem? (i := 486) (by decide +kernel), List.mem_of_getElem? (i := 487) (by decide +kernel)⟩
theorem lw_p33 : lw_okq (⟨"HopscotchCourt$Game", "faultOfHops", "(LHopscotchCourt$Court;I)I"⟩, 2) := ⟨⟨by decide +kernel, by decide +kernel⟩, List.mem_of_getElem? (i := 116) (by decide +kernel), List.mem_of_getElem? (i := 491) (by decide +kernel), List.mem_of_getElem? (i := 492) (by decide +kernel)⟩
theorem lw_p34 : lw_okq (⟨"HopscotchCourt$Way", "seek", "(LHopscotchCourt$Court;III)Z"⟩, 11) := ⟨⟨by decide +kernel, by decide +kernel⟩, List.mem_of_getElem? (i := 122) (by decide +kernel), List.mem_of_getElem? (i := 495) (by decide +kernel), List.mem_of_getElem? (i := 496) (by decide +kernel)⟩
theorem lw_p35 : lw_okq (⟨"HopscotchCourt$Way", "layFootings", "(LHopscotchCourt$Court;II)V"⟩, 11) := ⟨⟨by decide +kernel, by decide +kernel⟩, List.mem_of_getElem? (i := 122) (by decide +kernel), List.mem_of_getElem? (i := 500) (by decide +kernel), List.mem_of_getElem? (i := 501) (by decide +kernel)⟩
theorem lw_p36 : lw_okq (⟨"HopscotchCourt$Court", "markedSquares", "(I)I"⟩, 15) := ⟨⟨by decide +kernel, by decide +kernel⟩, List.mem_of_getElem? (i := 31) (by decide +kernel), List.mem_of_getElem? (i := 504) (by decide +kernel), List.mem_of_getElem? (i := 505) (by decide +kernel)⟩
theorem lw_p37 : lw_okq (⟨"HopscotchCourt$Court", "usableSet", "(II)I"⟩, 15) := ⟨⟨by decide +kernel, by decide +kernel⟩, List.mem_of_getElem? (i := 31) (by decide +kernel), List.mem_of_getElem? (i := 508) (by decide +kernel), List.mem_of_getElem? (i := 509) (by decide +kernel)⟩
theorem lw_p38 : lw_okq (⟨"HopscotchCourt$Court", "squaresOf", "(I)I"⟩, 15) := ⟨⟨by decide +kernel, by decide +kernel⟩, List.mem_of_getElem? (i := 31) (by decide +kernel), List.mem_of_getElem? (i := 512) (by decide +kernel), List.mem_of_getElem? (i := 513) (by decide +kernel)⟩
theorem lw_p39 : lw_okq (⟨"HopscotchCourt$Way", "rowAt", "(I)I"⟩, 11) := ⟨⟨by decide +kernel, by decide +kernel⟩, List.mem_of_getElem? (i := 122) (by decide +kernel), List.mem_of_getElem? (i := 517) (by decide +kernel), List.mem_of_getElem? (i := 518) (by decide +kernel)⟩
theorem lw_p40 : lw_okq (⟨"HopscotchCourt$Court", "footingOf", "(III)I"⟩, 15) := ⟨⟨by decide +kernel, by decide +kernel⟩, List.mem_of_getElem? (i := 31) (by decide +kernel), List.mem_of_getElem? (i := 521) (by decide +kernel), List.mem_of_getElem? (i := 522) (by decide +kernel)⟩
theorem lw_p41 : lw_okq (⟨"HopscotchCourt$Way", "reckon", "()V"⟩, 11) := ⟨⟨by decide +kernel, by decide +kernel⟩, List.mem_of_getElem? (i := 122) (by decide +kernel), List.mem_of_getElem? (i := 531) (by decide +kernel), List.mem_of_getElem? (i := 532) (by decide +kernel)⟩
theorem lw_p42 : lw_okq (⟨"HopscotchCourt$Way", "reckonFrom", "(II)V"⟩, 11) := ⟨⟨by decide +kernel, by decide +kernel⟩, List.mem_of_getElem? (i := 122) (by decide +kernel), List.mem_of_getElem? (i := 535) (by decide +kernel), List.mem_of_getElem? (i := 536) (by decide +kernel)⟩
theorem lw_p43 : lw_okq (⟨"HopscotchCourt$Way", "follow", "()V"⟩, 11) := ⟨⟨by decide +kernel, by decide +kernel⟩, List.mem_of_getElem? (i := 122) (by decide +kernel), List.mem_of_getElem? (i := 541) (by decide +kernel), List.mem_of_getElem? (i := 542) (by decide +kernel)⟩
theorem lw_p44 : lw_okq (⟨"HopscotchCourt$Game", "hopOutAndBack", "(LHopscotchCourt$Court;I)V"⟩, 2) := ⟨⟨by decide +kernel, by decide +kernel⟩, List.mem_of_getElem? (i := 116) (by decide +kernel), List.mem_of_getElem? (i := 545) (by decide +kernel), List.mem_of_getElem? (i := 546) (by decide +kernel)⟩
theorem lw_p45 : lw_okq (⟨"HopscotchCourt$Court", "addLandings", "(II)V"⟩, 15) := ⟨⟨by decide +kernel, by decide +kernel⟩, List.mem_of_getElem? (i := 31) (by decide +kernel), List.mem_of_getElem? (i := 554) (by decide +kernel), List.mem_of_getElem? (i := 555) (by decide +kernel)⟩
theorem lw_p46 : lw_okq (⟨"HopscotchCourt$Court", "moveTargetOn", "(I)V"⟩, 15) := ⟨⟨by decide +kernel, by decide +kernel⟩, List.mem_of_getElem? (i := 31) (by decide +kernel), List.mem_of_getElem? (i := 558) (by decide +kernel), List.mem_of_getElem? (i := 559) (by decide +kernel)⟩
theorem lw_p47 : lw_okq (⟨"HopscotchCourt$Court", "endTurn", "(I)V"⟩, 15) := ⟨⟨by decide +kernel, by decide +kernel⟩, List.mem_of_getElem? (i := 31) (by decide +kernel), List.mem_of_getElem? (i := 563) (by decide +kernel), List.mem_of_getElem? (i := 564) (by decide +kernel)⟩
def lw_privs_3 : List (MethodName × Nat) := [(⟨"HopscotchCourt$Court", "widthOf", "(I)I"⟩, 15), (⟨"HopscotchCourt$Game", "faultOfHops", "(LHopscotchCourt$Court;I)I"⟩, 2), (⟨"HopscotchCourt$Way", "seek", "(LHopscotchCourt$Court;III)Z"⟩, 11), (⟨"HopscotchCourt$Way", "layFootings", "(LHopscotchCourt$Court;II)V"⟩, 11), (⟨"HopscotchCourt$Court", "markedSquares", "(I)I"⟩, 15), (⟨"HopscotchCourt$Court", "usableSet", "(II)I"⟩, 15), (⟨"HopscotchCourt$Court", "squaresOf", "(I)I"⟩, 15), (⟨"HopscotchCourt$Way", "rowAt", "(I)I"⟩, 11), (⟨"HopscotchCourt$Court", "footingOf", "(III)I"⟩, 15), (⟨"HopscotchCourt$Way", "reckon", "()V"⟩, 11), (⟨"HopscotchCourt$Way", "reckonFrom", "(II)V"⟩, 11), (⟨"HopscotchCourt$Way", "follow", "()V"⟩, 11), (⟨"HopscotchCourt$Game", "hopOutAndBack", "(LHopscotchCourt$Court;I)V"⟩, 2), (⟨"HopscotchCourt$Court", "addLandings", "(II)V"⟩, 15), (⟨"HopscotchCourt$Court", "moveTargetOn", "(I)V"⟩, 15), (⟨"HopscotchCourt$Court", "endTurn", "(I)V"⟩, 15)]
theorem lw_r3 : ∀ q ∈ lw_privs_3, lw_okq q := List.forall_mem_cons.mpr ⟨lw_p32, List.forall_mem_cons.mpr ⟨lw_p33, List.forall_mem_cons.mpr ⟨lw_p34, List.forall_mem_cons.mpr ⟨lw_p35, List.forall_mem_cons.mpr ⟨lw_p36, List.forall_mem_cons.mpr ⟨lw_p37, List.forall_mem_cons.mpr ⟨lw_p38, List.forall_mem_cons.mpr ⟨lw_p39, List.forall_mem_cons.mpr ⟨lw_p40, List.forall_mem_cons.mpr ⟨lw_p41, List.forall_mem_cons.mpr ⟨lw_p42, List.forall_mem_cons.mpr ⟨lw_p43, List.forall_mem_cons.mpr ⟨lw_p44, List.forall_mem_cons.mpr ⟨lw_p45, List.forall_mem_cons.mpr ⟨lw_p46, List.forall_mem_cons.mpr ⟨lw_p47, fun _ h => absurd h List.not_mem_nil⟩⟩⟩⟩⟩⟩⟩⟩⟩⟩⟩⟩⟩⟩⟩⟩
theorem lw_p48 : lw_okq (⟨"HopscotchCourt$Writer", "write", "(LHopscotchCourt$Court;)V"⟩, 2) := ⟨⟨by decide +kernel, by decide +kernel⟩, List.mem_of_getElem? (i := 228) (by decide +kernel), List.mem_of_getElem? (i := 585) (by decide +kernel), List.mem_of_getElem? (i := 586) (by decide +kernel)⟩
theorem lw_p49 : lw_okq (⟨"HopscotchCourt$Writer", "add", "(I)V"⟩, 2) := ⟨⟨by decide +kernel, by decide +kernel⟩, List.mem_of_getElem? (i := 228) (by decide +kernel), List.mem_of_getElem? (i := 591) (by decide +kernel), List.mem_of_getElem? (i := 592) (by decide +kernel)⟩
theorem lw_p50 : lw_okq (⟨"HopscotchCourt$Writer", "addNumber", "(I)V"⟩, 2) := ⟨⟨by decide +kernel, by decide +kernel⟩, List.mem_of_getElem? (i := 228) (by decide +kernel), List.mem_of_getElem? (i := 595) (by decide +kernel), List.mem_of_getElem? (i := 596) (by decide +kernel)⟩
theorem lw_p51 : lw_okq (⟨"HopscotchCourt$Writer", "addName", "(LHopscotchCourt$Court;I)V"⟩, 2) := ⟨⟨by decide +kernel, by decide +kernel⟩, List.mem_of_getElem? (i := 228) (by decide +kernel), List.mem_of_getElem? (i := 599) (by decide +kernel), List.mem_of_getElem? (i := 600) (by decide +kernel)⟩
theorem lw_p52 : lw_okq (⟨"java/lang/Throwable", "fillInStackTrace", "(I)Ljava/lang/Throwable;"⟩, 6) := ⟨⟨by decide +kernel, by decide +kernel⟩, List.mem_of_getElem? (i := 652) (by decide +kernel), List.mem_of_getElem? (i := 650) (by decide +kernel), List.mem_of_getElem? (i := 651) (by decide +kernel)⟩
theorem lw_p53 : lw_okq (⟨"HopscotchCourt$Reader", "addBytes", "(I)V"⟩, 7) := ⟨⟨by decide +kernel, by decide +kernel⟩, List.mem_of_getElem? (i := 196) (by decide +kernel), List.mem_of_getElem? (i := 681) (by decide +kernel), List.mem_of_getElem? (i := 682) (by decide +kernel)⟩
theorem lw_p54 : lw_okq (⟨"HopscotchCourt$Court", "ownedSquares", "()I"⟩, 15) := ⟨⟨by decide +kernel, by decide +kernel⟩, List.mem_of_getElem? (i := 31) (by decide +kernel), List.mem_of_getElem? (i := 693) (by decide +kernel), List.mem_of_getElem? (i := 694) (by decide +kernel)⟩
theorem lw_p55 : lw_okq (⟨"HopscotchCourt$Court", "lyingMarkers", "()I"⟩, 15) := ⟨⟨by decide +kernel, by decide +kernel⟩, List.mem_of_getElem? (i := 31) (by decide +kernel), List.mem_of_getElem? (i := 697) (by decide +kernel), List.mem_of_getElem? (i := 698) (by decide +kernel)⟩
theorem lw_p56 : lw_okq (⟨"HopscotchCourt$Court", "richest", "()I"⟩, 15) := ⟨⟨by decide +kernel, by decide +kernel⟩, List.mem_of_getElem? (i := 31) (by decide +kernel), List.mem_of_getElem? (i := 701) (by decide +kernel), List.mem_of_getElem? (i := 702) (by decide +kernel)⟩
theorem lw_p57 : lw_okq (⟨"HopscotchCourt", "checkPlayer", "(I)V"⟩, 8) := ⟨⟨by decide +kernel, by decide +kernel⟩, List.mem_of_getElem? (i := 23) (by decide +kernel), List.mem_of_getElem? (i := 729) (by decide +kernel), List.mem_of_getElem? (i := 730) (by decide +kernel)⟩
theorem lw_p58 : lw_okq (⟨"HopscotchCourt", "checkSquare", "(I)V"⟩, 8) := ⟨⟨by decide +kernel, by decide +kernel⟩, List.mem_of_getElem? (i := 23) (by decide +kernel), List.mem_of_getElem? (i := 759) (by decide +kernel), List.mem_of_getElem? (i := 760) (by decide +kernel)⟩
theorem lw_p59 : lw_okq (⟨"HopscotchCourt$Court", "markersOn", "(I)I"⟩, 15) := ⟨⟨by decide +kernel, by decide +kernel⟩, List.mem_of_getElem? (i := 31) (by decide +kernel), List.mem_of_getElem? (i := 765) (by decide +kernel), List.mem_of_getElem? (i := 766) (by decide +kernel)⟩
theorem lw_p60 : lw_okq (⟨"HopscotchCourt", "checkRow", "(I)V"⟩, 8) := ⟨⟨by decide +kernel, by decide +kernel⟩, List.mem_of_getElem? (i := 23) (by decide +kernel), List.mem_of_getElem? (i := 777) (by decide +kernel), List.mem_of_getElem? (i := 778) (by decide +kernel)⟩
theorem lw_p61 : lw_okq (⟨"HopscotchCourt$Game", "ownWay", "(LHopscotchCourt$Court;IZ)LHopscotchCourt$Way;"⟩, 2) := ⟨⟨by decide +kernel, by decide +kernel⟩, List.mem_of_getElem? (i := 116) (by decide +kernel), List.mem_of_getElem? (i := 827) (by decide +kernel), List.mem_of_getElem? (i := 828) (by decide +kernel)⟩
theorem lw_p62 : lw_okq (⟨"HopscotchCourt$Game", "hasBothWays", "(LHopscotchCourt$Court;III)Z"⟩, 2) := ⟨⟨by decide +kernel, by decide +kernel⟩, List.mem_of_getElem? (i := 116) (by decide +kernel), List.mem_of_getElem? (i := 846) (by decide +kernel), List.mem_of_getElem? (i := 847) (by decide +kernel)⟩
theorem lw_p63 : lw_okq (⟨"HopscotchCourt$Game", "playableSquares", "(LHopscotchCourt$Court;I)I"⟩, 2) := ⟨⟨by decide +kernel, by decide +kernel⟩, List.mem_of_getElem? (i := 116) (by decide +kernel), List.mem_of_getElem? (i := 857) (by decide +kernel), List.mem_of_getElem? (i := 858) (by decide +kernel)⟩
def lw_privs_4 : List (MethodName × Nat) := [(⟨"HopscotchCourt$Writer", "write", "(LHopscotchCourt$Court;)V"⟩, 2), (⟨"HopscotchCourt$Writer", "add", "(I)V"⟩, 2), (⟨"HopscotchCourt$Writer", "addNumber", "(I)V"⟩, 2), (⟨"HopscotchCourt$Writer", "addName", "(LHopscotchCourt$Court;I)V"⟩, 2), (⟨"java/lang/Throwable", "fillInStackTrace", "(I)Ljava/lang/Throwable;"⟩, 6), (⟨"HopscotchCourt$Reader", "addBytes", "(I)V"⟩, 7), (⟨"HopscotchCourt$Court", "ownedSquares", "()I"⟩, 15), (⟨"HopscotchCourt$Court", "lyingMarkers", "()I"⟩, 15), (⟨"HopscotchCourt$Court", "richest", "()I"⟩, 15), (⟨"HopscotchCourt", "checkPlayer", "(I)V"⟩, 8), (⟨"HopscotchCourt", "checkSquare", "(I)V"⟩, 8), (⟨"HopscotchCourt$Court", "markersOn", "(I)I"⟩, 15), (⟨"HopscotchCourt", "checkRow", "(I)V"⟩, 8), (⟨"HopscotchCourt$Game", "ownWay", "(LHopscotchCourt$Court;IZ)LHopscotchCourt$Way;"⟩, 2), (⟨"HopscotchCourt$Game", "hasBothWays", "(LHopscotchCourt$Court;III)Z"⟩, 2), (⟨"HopscotchCourt$Game", "playableSquares", "(LHopscotchCourt$Court;I)I"⟩, 2)]
theorem lw_r4 : ∀ q ∈ lw_privs_4, lw_okq q := List.forall_mem_cons.mpr ⟨lw_p48, List.forall_mem_cons.mpr ⟨lw_p49, List.forall_mem_cons.mpr ⟨lw_p50, List.forall_mem_cons.mpr ⟨lw_p51, List.forall_mem_cons.mpr ⟨lw_p52, List.forall_mem_cons.mpr ⟨lw_p53, List.forall_mem_cons.mpr ⟨lw_p54, List.forall_mem_cons.mpr ⟨lw_p55, List.forall_mem_cons.mpr ⟨lw_p56, List.forall_mem_cons.mpr ⟨lw_p57, List.forall_mem_cons.mpr ⟨lw_p58, List.forall_mem_cons.mpr ⟨lw_p59, List.forall_mem_cons.mpr ⟨lw_p60, List.forall_mem_cons.mpr ⟨lw_p61, List.forall_mem_cons.mpr ⟨lw_p62, List.forall_mem_cons.mpr ⟨lw_p63, fun _ h => absurd h List.not_mem_nil⟩⟩⟩⟩⟩⟩⟩⟩⟩⟩⟩⟩⟩⟩⟩⟩
theorem lw_p64 : lw_okq (⟨"HopscotchCourt$Game", "playableByOthers", "(LHopscotchCourt$Court;I)I"⟩, 2) := ⟨⟨by decide +kernel, by decide +kernel⟩, List.mem_of_getElem? (i := 116) (by decide +kernel), List.mem_of_getElem? (i := 870) (by decide +kernel), List.mem_of_getElem? (i := 871) (by decide +kernel)⟩
theorem lw_p65 : lw_okq (⟨"HopscotchCourt$History", "bringBack", "(LHopscotchCourt$Court;)V"⟩, 3) := ⟨⟨by decide +kernel, by decide +kernel⟩, List.mem_of_getElem? (i := 176) (by decide +kernel), List.mem_of_getElem? (i := 941) (by decide +kernel), List.mem_of_getElem? (i := 942) (by decide +kernel)⟩
theorem lw_p66 : lw_okq (⟨"HopscotchCourtModel", "begins", "()V"⟩, 27) := ⟨⟨by decide +kernel, by decide +kernel⟩, List.mem_of_getElem? (i := 972) (by decide +kernel), List.mem_of_getElem? (i := 978) (by decide +kernel), List.mem_of_getElem? (i := 979) (by decide +kernel)⟩
theorem lw_p67 : lw_okq (⟨"HopscotchCourtModel", "beginsPlayer", "(I)V"⟩, 27) := ⟨⟨by decide +kernel, by decide +kernel⟩, List.mem_of_getElem? (i := 972) (by decide +kernel), List.mem_of_getElem? (i := 982) (by decide +kernel), List.mem_of_getElem? (i := 983) (by decide +kernel)⟩
theorem lw_p68 : lw_okq (⟨"HopscotchCourtModel", "sets", "(III)V"⟩, 27) := ⟨⟨by decide +kernel, by decide +kernel⟩, List.mem_of_getElem? (i := 972) (by decide +kernel), List.mem_of_getElem? (i := 986) (by decide +kernel), List.mem_of_getElem? (i := 987) (by decide +kernel)⟩
theorem lw_p69 : lw_okq (⟨"HopscotchCourtModel", "keeps", "([I)V"⟩, 27) := ⟨⟨by decide +kernel, by decide +kernel⟩, List.mem_of_getElem? (i := 972) (by decide +kernel), List.mem_of_getElem? (i := 1094) (by decide +kernel), List.mem_of_getElem? (i := 1095) (by decide +kernel)⟩
theorem lw_p70 : lw_okq (⟨"HopscotchCourtModel", "next", "()V"⟩, 27) := ⟨⟨by decide +kernel, by decide +kernel⟩, List.mem_of_getElem? (i := 972) (by decide +kernel), List.mem_of_getElem? (i := 1109) (by decide +kernel), List.mem_of_getElem? (i := 1110) (by decide +kernel)⟩
theorem lw_p71 : lw_okq (⟨"HopscotchCourtModel", "see", "(I)I"⟩, 27) := ⟨⟨by decide +kernel, by decide +kernel⟩, List.mem_of_getElem? (i := 972) (by decide +kernel), List.mem_of_getElem? (i := 1113) (by decide +kernel), List.mem_of_getElem? (i := 1114) (by decide +kernel)⟩
theorem lw_p72 : lw_okq (⟨"HopscotchCourtModel", "isLetter", "(I)Z"⟩, 27) := ⟨⟨by decide +kernel, by decide +kernel⟩, List.mem_of_getElem? (i := 972) (by decide +kernel), List.mem_of_getElem? (i := 1117) (by decide +kernel), List.mem_of_getElem? (i := 1118) (by decide +kernel)⟩
theorem lw_p73 : lw_okq (⟨"HopscotchCourtModel", "isDigit", "(I)Z"⟩, 27) := ⟨⟨by decide +kernel, by decide +kernel⟩, List.mem_of_getElem? (i := 972) (by decide +kernel), List.mem_of_getElem? (i := 1121) (by decide +kernel), List.mem_of_getElem? (i := 1122) (by decide +kernel)⟩
theorem lw_p74 : lw_okq (⟨"HopscotchCourtModel", "isWord", "(Ljava/lang/String;)Z"⟩, 27) := ⟨⟨by decide +kernel, by decide +kernel⟩, List.mem_of_getElem? (i := 972) (by decide +kernel), List.mem_of_getElem? (i := 1127) (by decide +kernel), List.mem_of_getElem? (i := 1128) (by decide +kernel)⟩
theorem lw_p75 : lw_okq (⟨"HopscotchCourtModel", "must", "(Z)V"⟩, 27) := ⟨⟨by decide +kernel, by decide +kernel⟩, List.mem_of_getElem? (i := 972) (by decide +kernel), List.mem_of_getElem? (i := 1133) (by decide +kernel), List.mem_of_getElem? (i := 1134) (by decide +kernel)⟩
theorem lw_p76 : lw_okq (⟨"HopscotchCourtModel", "fails", "(I)V"⟩, 27) := ⟨⟨by decide +kernel, by decide +kernel⟩, List.mem_of_getElem? (i := 972) (by decide +kernel), List.mem_of_getElem? (i := 1137) (by decide +kernel), List.mem_of_getElem? (i := 1138) (by decide +kernel)⟩
theorem lw_p77 : lw_okq (⟨"HopscotchCourtModel", "readsRow", "()V"⟩, 27) := ⟨⟨by decide +kernel, by decide +kernel⟩, List.mem_of_getElem? (i := 972) (by decide +kernel), List.mem_of_getElem? (i := 1141) (by decide +kernel), List.mem_of_getElem? (i := 1142) (by decide +kernel)⟩
theorem lw_p78 : lw_okq (⟨"HopscotchCourtModel", "isRow", "()Z"⟩, 27) := ⟨⟨by decide +kernel, by decide +kernel⟩, List.mem_of_getElem? (i := 972) (by decide +kernel), List.mem_of_getElem? (i := 1145) (by decide +kernel), List.mem_of_getElem? (i := 1146) (by decide +kernel)⟩
theorem lw_p79 : lw_okq (⟨"HopscotchCourtModel", "isSign", "(C)Z"⟩, 27) := ⟨⟨by decide +kernel, by decide +kernel⟩, List.mem_of_getElem? (i := 972) (by decide +kernel), List.mem_of_getElem? (i := 1151) (by decide +kernel), List.mem_of_getElem? (i := 1152) (by decide +kernel)⟩
def lw_privs_5 : List (MethodName × Nat) := [(⟨"HopscotchCourt$Game", "playableByOthers", "(LHopscotchCourt$Court;I)I"⟩, 2), (⟨"HopscotchCourt$History", "bringBack", "(LHopscotchCourt$Court;)V"⟩, 3), (⟨"HopscotchCourtModel", "begins", "()V"⟩, 27), (⟨"HopscotchCourtModel", "beginsPlayer", "(I)V"⟩, 27), (⟨"HopscotchCourtModel", "sets", "(III)V"⟩, 27), (⟨"HopscotchCourtModel", "keeps", "([I)V"⟩, 27), (⟨"HopscotchCourtModel", "next", "()V"⟩, 27), (⟨"HopscotchCourtModel", "see", "(I)I"⟩, 27), (⟨"HopscotchCourtModel", "isLetter", "(I)Z"⟩, 27), (⟨"HopscotchCourtModel", "isDigit", "(I)Z"⟩, 27), (⟨"HopscotchCourtModel", "isWord", "(Ljava/lang/String;)Z"⟩, 27), (⟨"HopscotchCourtModel", "must", "(Z)V"⟩, 27), (⟨"HopscotchCourtModel", "fails", "(I)V"⟩, 27), (⟨"HopscotchCourtModel", "readsRow", "()V"⟩, 27), (⟨"HopscotchCourtModel", "isRow", "()Z"⟩, 27), (⟨"HopscotchCourtModel", "isSign", "(C)Z"⟩, 27)]
theorem lw_r5 : ∀ q ∈ lw_privs_5, lw_okq q := List.forall_mem_cons.mpr ⟨lw_p64, List.forall_mem_cons.mpr ⟨lw_p65, List.forall_mem_cons.mpr ⟨lw_p66, List.forall_mem_cons.mpr ⟨lw_p67, List.forall_mem_cons.mpr ⟨lw_p68, List.forall_mem_cons.mpr ⟨lw_p69, List.forall_mem_cons.mpr ⟨lw_p70, List.forall_mem_cons.mpr ⟨lw_p71, List.forall_mem_cons.mpr ⟨lw_p72, List.forall_mem_cons.mpr ⟨lw_p73, List.forall_mem_cons.mpr ⟨lw_p74, List.forall_mem_cons.mpr ⟨lw_p75, List.forall_mem_cons.mpr ⟨lw_p76, List.forall_mem_cons.mpr ⟨lw_p77, List.forall_mem_cons.mpr ⟨lw_p78, List.forall_mem_cons.mpr ⟨lw_p79, fun _ h => absurd h List.not_mem_nil⟩⟩⟩⟩⟩⟩⟩⟩⟩⟩⟩⟩⟩⟩⟩⟩
theorem lw_p80 : lw_okq (⟨"HopscotchCourtModel", "isTaken", "(Ljava/lang/String;)Z"⟩, 27) := ⟨⟨by decide +kernel, by decide +kernel⟩, List.mem_of_getElem? (i := 972) (by decide +kernel), List.mem_of_getElem? (i := 1156) (by decide +kernel), List.mem_of_getElem? (i := 1157) (by decide +kernel)⟩
theorem lw_p81 : lw_okq (⟨"HopscotchCourtModel", "takes", "(II)I"⟩, 27) := ⟨⟨by decide +kernel, by decide +kernel⟩, List.mem_of_getElem? (i := 972) (by decide +kernel), List.mem_of_getElem? (i := 1160) (by decide +kernel), List.mem_of_getElem? (i := 1161) (by decide +kernel)⟩
theorem lw_p82 : lw_okq (⟨"HopscotchCourtModel", "stands", "(II)I"⟩, 27) := ⟨⟨by decide +kernel, by decide +kernel⟩, List.mem_of_getElem? (i := 972) (by decide +kernel), List.mem_of_getElem? (i := 1164) (by decide +kernel), List.mem_of_getElem? (i := 1165) (by decide +kernel)⟩
theorem lw_p83 : lw_okq (⟨"HopscotchCourtModel", "readsPlayer", "()V"⟩, 27) := ⟨⟨by decide +kernel, by decide +kernel⟩, List.mem_of_getElem? (i := 972) (by decide +kernel), List.mem_of_getElem? (i := 1168) (by decide +kernel), List.mem_of_getElem? (i := 1169) (by decide +kernel)⟩
theorem lw_p84 : lw_okq (⟨"HopscotchCourtModel", "isName", "(I)Z"⟩, 27) := ⟨⟨by decide +kernel, by decide +kernel⟩, List.mem_of_getElem? (i := 972) (by decide +kernel), List.mem_of_getElem? (i := 1173) (by decide +kernel), List.mem_of_getElem? (i := 1174) (by decide +kernel)⟩
theorem lw_p85 : lw_okq (⟨"HopscotchCourtModel", "of", "(II)I"⟩, 27) := ⟨⟨by decide +kernel, by decide +kernel⟩, List.mem_of_getElem? (i := 972) (by decide +kernel), List.mem_of_getElem? (i := 1177) (by decide +kernel), List.mem_of_getElem? (i := 1178) (by decide +kernel)⟩
theorem lw_p86 : lw_okq (⟨"HopscotchCourtModel", "readsOwned", "(I)V"⟩, 27) := ⟨⟨by decide +kernel, by decide +kernel⟩, List.mem_of_getElem? (i := 972) (by decide +kernel), List.mem_of_getElem? (i := 1186) (by decide +kernel), List.mem_of_getElem? (i := 1187) (by decide +kernel)⟩
theorem lw_p87 : lw_okq (⟨"HopscotchCourtModel", "ownerOf", "(I)I"⟩, 27) := ⟨⟨by decide +kernel, by decide +kernel⟩, List.mem_of_getElem? (i := 972) (by decide +kernel), List.mem_of_getElem? (i := 1190) (by decide +kernel), List.mem_of_getElem? (i := 1191) (by decide +kernel)⟩
theorem lw_p88 : lw_okq (⟨"HopscotchCourtModel", "owns", "(II)V"⟩, 27) := ⟨⟨by decide +kernel, by decide +kernel⟩, List.mem_of_getElem? (i := 972) (by decide +kernel), List.mem_of_getElem? (i := 1194) (by decide +kernel), List.mem_of_getElem? (i := 1195) (by decide +kernel)⟩
theorem lw_p89 : lw_okq (⟨"HopscotchCourtModel", "players", "()I"⟩, 27) := ⟨⟨by decide +kernel, by decide +kernel⟩, List.mem_of_getElem? (i := 972) (by decide +kernel), List.mem_of_getElem? (i := 1199) (by decide +kernel), List.mem_of_getElem? (i := 1200) (by decide +kernel)⟩
theorem lw_p90 : lw_okq (⟨"HopscotchCourtModel", "putsRight", "(I)V"⟩, 27) := ⟨⟨by decide +kernel, by decide +kernel⟩, List.mem_of_getElem? (i := 972) (by decide +kernel), List.mem_of_getElem? (i := 1203) (by decide +kernel), List.mem_of_getElem? (i := 1204) (by decide +kernel)⟩
theorem lw_p91 : lw_okq (⟨"HopscotchCourtModel", "openRound", "(II)I"⟩, 27) := ⟨⟨by decide +kernel, by decide +kernel⟩, List.mem_of_getElem? (i := 972) (by decide +kernel), List.mem_of_getElem? (i := 1207) (by decide +kernel), List.mem_of_getElem? (i := 1208) (by decide +kernel)⟩
theorem lw_p92 : lw_okq (⟨"HopscotchCourtModel", "openFrom", "(II)I"⟩, 27) := ⟨⟨by decide +kernel, by decide +kernel⟩, List.mem_of_getElem? (i := 972) (by decide +kernel), List.mem_of_getElem? (i := 1211) (by decide +kernel), List.mem_of_getElem? (i := 1212) (by decide +kernel)⟩
theorem lw_p93 : lw_okq (⟨"HopscotchCourtModel", "squares", "()I"⟩, 27) := ⟨⟨by decide +kernel, by decide +kernel⟩, List.mem_of_getElem? (i := 972) (by decide +kernel), List.mem_of_getElem? (i := 1215) (by decide +kernel), List.mem_of_getElem? (i := 1216) (by decide +kernel)⟩
theorem lw_p94 : lw_okq (⟨"HopscotchCourtModel", "isForbidden", "(II)Z"⟩, 27) := ⟨⟨by decide +kernel, by decide +kernel⟩, List.mem_of_getElem? (i := 972) (by decide +kernel), List.mem_of_getElem? (i := 1219) (by decide +kernel), List.mem_of_getElem? (i := 1220) (by decide +kernel)⟩
theorem lw_p95 : lw_okq (⟨"HopscotchCourtModel", "ownedAll", "()I"⟩, 27) := ⟨⟨by decide +kernel, by decide +kernel⟩, List.mem_of_getElem? (i := 972) (by decide +kernel), List.mem_of_getElem? (i := 1231) (by decide +kernel), List.mem_of_getElem? (i := 1232) (by decide +kernel)⟩
def lw_privs_6 : List (MethodName × Nat) := [(⟨"HopscotchCourtModel", "isTaken", "(Ljava/lang/String;)Z"⟩, 27), (⟨"HopscotchCourtModel", "takes", "(II)I"⟩, 27), (⟨"HopscotchCourtModel", "stands", "(II)I"⟩, 27), (⟨"HopscotchCourtModel", "readsPlayer", "()V"⟩, 27), (⟨"HopscotchCourtModel", "isName", "(I)Z"⟩, 27), (⟨"HopscotchCourtModel", "of", "(II)I"⟩, 27), (⟨"HopscotchCourtModel", "readsOwned", "(I)V"⟩, 27), (⟨"HopscotchCourtModel", "ownerOf", "(I)I"⟩, 27), (⟨"HopscotchCourtModel", "owns", "(II)V"⟩, 27), (⟨"HopscotchCourtModel", "players", "()I"⟩, 27), (⟨"HopscotchCourtModel", "putsRight", "(I)V"⟩, 27), (⟨"HopscotchCourtModel", "openRound", "(II)I"⟩, 27), (⟨"HopscotchCourtModel", "openFrom", "(II)I"⟩, 27), (⟨"HopscotchCourtModel", "squares", "()I"⟩, 27), (⟨"HopscotchCourtModel", "isForbidden", "(II)Z"⟩, 27), (⟨"HopscotchCourtModel", "ownedAll", "()I"⟩, 27)]
theorem lw_r6 : ∀ q ∈ lw_privs_6, lw_okq q := List.forall_mem_cons.mpr ⟨lw_p80, List.forall_mem_cons.mpr ⟨lw_p81, List.forall_mem_cons.mpr ⟨lw_p82, List.forall_mem_cons.mpr ⟨lw_p83, List.forall_mem_cons.mpr ⟨lw_p84, List.forall_mem_cons.mpr ⟨lw_p85, List.forall_mem_cons.mpr ⟨lw_p86, List.forall_mem_cons.mpr ⟨lw_p87, List.forall_mem_cons.mpr ⟨lw_p88, List.forall_mem_cons.mpr ⟨lw_p89, List.forall_mem_cons.mpr ⟨lw_p90, List.forall_mem_cons.mpr ⟨lw_p91, List.forall_mem_cons.mpr ⟨lw_p92, List.forall_mem_cons.mpr ⟨lw_p93, List.forall_mem_cons.mpr ⟨lw_p94, List.forall_mem_cons.mpr ⟨lw_p95, fun _ h => absurd h List.not_mem_nil⟩⟩⟩⟩⟩⟩⟩⟩⟩⟩⟩⟩⟩⟩⟩⟩
theorem lw_p96 : lw_okq (⟨"HopscotchCourtModel", "owned", "(I)I"⟩, 27) := ⟨⟨by decide +kernel, by decide +kernel⟩, List.mem_of_getElem? (i := 972) (by decide +kernel), List.mem_of_getElem? (i := 1235) (by decide +kernel), List.mem_of_getElem? (i := 1236) (by decide +kernel)⟩
theorem lw_p97 : lw_okq (⟨"HopscotchCourtModel", "markers", "()I"⟩, 27) := ⟨⟨by decide +kernel, by decide +kernel⟩, List.mem_of_getElem? (i := 972) (by decide +kernel), List.mem_of_getElem? (i := 1242) (by decide +kernel), List.mem_of_getElem? (i := 1243) (by decide +kernel)⟩
theorem lw_p98 : lw_okq (⟨"HopscotchCourtModel", "richest", "()I"⟩, 27) := ⟨⟨by decide +kernel, by decide +kernel⟩, List.mem_of_getElem? (i := 972) (by decide +kernel), List.mem_of_getElem? (i := 1246) (by decide +kernel), List.mem_of_getElem? (i := 1247) (by decide +kernel)⟩
theorem lw_p99 : lw_okq (⟨"HopscotchCourtModel", "isPlayer", "(I)Z"⟩, 27) := ⟨⟨by decide +kernel, by decide +kernel⟩, List.mem_of_getElem? (i := 972) (by decide +kernel), List.mem_of_getElem? (i := 1254) (by decide +kernel), List.mem_of_getElem? (i := 1255) (by decide +kernel)⟩
theorem lw_p100 : lw_okq (⟨"HopscotchCourtModel", "isSquare", "(I)Z"⟩, 27) := ⟨⟨by decide +kernel, by decide +kernel⟩, List.mem_of_getElem? (i := 972) (by decide +kernel), List.mem_of_getElem? (i := 1262) (by decide +kernel), List.mem_of_getElem? (i := 1263) (by decide +kernel)⟩
theorem lw_p101 : lw_okq (⟨"HopscotchCourtModel", "rowOf", "(I)I"⟩, 27) := ⟨⟨by decide +kernel, by decide +kernel⟩, List.mem_of_getElem? (i := 972) (by decide +kernel), List.mem_of_getElem? (i := 1266) (by decide +kernel), List.mem_of_getElem? (i := 1267) (by decide +kernel)⟩
theorem lw_p102 : lw_okq (⟨"HopscotchCourtModel", "firstOf", "(I)I"⟩, 27) := ⟨⟨by decide +kernel, by decide +kernel⟩, List.mem_of_getElem? (i := 972) (by decide +kernel), List.mem_of_getElem? (i := 1270) (by decide +kernel), List.mem_of_getElem? (i := 1271) (by decide +kernel)⟩
theorem lw_p103 : lw_okq (⟨"HopscotchCourtModel", "markersOn", "(I)I"⟩, 27) := ⟨⟨by decide +kernel, by decide +kernel⟩, List.mem_of_getElem? (i := 972) (by decide +kernel), List.mem_of_getElem? (i := 1274) (by decide +kernel), List.mem_of_getElem? (i := 1275) (by decide +kernel)⟩
theorem lw_p104 : lw_okq (⟨"HopscotchCourtModel", "isRowOf", "(I)Z"⟩, 27) := ⟨⟨by decide +kernel, by decide +kernel⟩, List.mem_of_getElem? (i := 972) (by decide +kernel), List.mem_of_getElem? (i := 1282) (by decide +kernel), List.mem_of_getElem? (i := 1283) (by decide +kernel)⟩
theorem lw_p105 : lw_okq (⟨"HopscotchCourtModel", "footingOf", "(III)I"⟩, 27) := ⟨⟨by decide +kernel, by decide +kernel⟩, List.mem_of_getElem? (i := 972) (by decide +kernel), List.mem_of_getElem? (i := 1290) (by decide +kernel), List.mem_of_getElem? (i := 1291) (by decide +kernel)⟩
theorem lw_p106 : lw_okq (⟨"HopscotchCourtModel", "isUsable", "(III)Z"⟩, 27) := ⟨⟨by decide +kernel, by decide +kernel⟩, List.mem_of_getElem? (i := 972) (by decide +kernel), List.mem_of_getElem? (i := 1294) (by decide +kernel), List.mem_of_getElem? (i := 1295) (by decide +kernel)⟩
theorem lw_p107 : lw_okq (⟨"HopscotchCourtModel", "isMarked", "(II)Z"⟩, 27) := ⟨⟨by decide +kernel, by decide +kernel⟩, List.mem_of_getElem? (i := 972) (by decide +kernel), List.mem_of_getElem? (i := 1298) (by decide +kernel), List.mem_of_getElem? (i := 1299) (by decide +kernel)⟩
theorem lw_p108 : lw_okq (⟨"HopscotchCourtModel", "faultOf", "(III)I"⟩, 27) := ⟨⟨by decide +kernel, by decide +kernel⟩, List.mem_of_getElem? (i := 972) (by decide +kernel), List.mem_of_getElem? (i := 1309) (by decide +kernel), List.mem_of_getElem? (i := 1310) (by decide +kernel)⟩
theorem lw_p109 : lw_okq (⟨"HopscotchCourtModel", "bestOf", "(I)I"⟩, 27) := ⟨⟨by decide +kernel, by decide +kernel⟩, List.mem_of_getElem? (i := 972) (by decide +kernel), List.mem_of_getElem? (i := 1317) (by decide +kernel), List.mem_of_getElem? (i := 1318) (by decide +kernel)⟩
theorem lw_p110 : lw_okq (⟨"HopscotchCourtModel", "hopFaultOf", "(I)I"⟩, 27) := ⟨⟨by decide +kernel, by decide +kernel⟩, List.mem_of_getElem? (i := 972) (by decide +kernel), List.mem_of_getElem? (i := 1325) (by decide +kernel), List.mem_of_getElem? (i := 1326) (by decide +kernel)⟩
theorem lw_p111 : lw_okq (⟨"HopscotchCourtModel", "faultWith", "(III)I"⟩, 27) := ⟨⟨by decide +kernel, by decide +kernel⟩, List.mem_of_getElem? (i := 972) (by decide +kernel), List.mem_of_getElem? (i := 1329) (by decide +kernel), List.mem_of_getElem? (i := 1330) (by decide +kernel)⟩
def lw_privs_7 : List (MethodName × Nat) := [(⟨"HopscotchCourtModel", "owned", "(I)I"⟩, 27), (⟨"HopscotchCourtModel", "markers", "()I"⟩, 27), (⟨"HopscotchCourtModel", "richest", "()I"⟩, 27), (⟨"HopscotchCourtModel", "isPlayer", "(I)Z"⟩, 27), (⟨"HopscotchCourtModel", "isSquare", "(I)Z"⟩, 27), (⟨"HopscotchCourtModel", "rowOf", "(I)I"⟩, 27), (⟨"HopscotchCourtModel", "firstOf", "(I)I"⟩, 27), (⟨"HopscotchCourtModel", "markersOn", "(I)I"⟩, 27), (⟨"HopscotchCourtModel", "isRowOf", "(I)Z"⟩, 27), (⟨"HopscotchCourtModel", "footingOf", "(III)I"⟩, 27), (⟨"HopscotchCourtModel", "isUsable", "(III)Z"⟩, 27), (⟨"HopscotchCourtModel", "isMarked", "(II)Z"⟩, 27), (⟨"HopscotchCourtModel", "faultOf", "(III)I"⟩, 27), (⟨"HopscotchCourtModel", "bestOf", "(I)I"⟩, 27), (⟨"HopscotchCourtModel", "hopFaultOf", "(I)I"⟩, 27), (⟨"HopscotchCourtModel", "faultWith", "(III)I"⟩, 27)]
theorem lw_r7 : ∀ q ∈ lw_privs_7, lw_okq q := List.forall_mem_cons.mpr ⟨lw_p96, List.forall_mem_cons.mpr ⟨lw_p97, List.forall_mem_cons.mpr ⟨lw_p98, List.forall_mem_cons.mpr ⟨lw_p99, List.forall_mem_cons.mpr ⟨lw_p100, List.forall_mem_cons.mpr ⟨lw_p101, List.forall_mem_cons.mpr ⟨lw_p102, List.forall_mem_cons.mpr ⟨lw_p103, List.forall_mem_cons.mpr ⟨lw_p104, List.forall_mem_cons.mpr ⟨lw_p105, List.forall_mem_cons.mpr ⟨lw_p106, List.forall_mem_cons.mpr ⟨lw_p107, List.forall_mem_cons.mpr ⟨lw_p108, List.forall_mem_cons.mpr ⟨lw_p109, List.forall_mem_cons.mpr ⟨lw_p110, List.forall_mem_cons.mpr ⟨lw_p111, fun _ h => absurd h List.not_mem_nil⟩⟩⟩⟩⟩⟩⟩⟩⟩⟩⟩⟩⟩⟩⟩⟩
theorem lw_p112 : lw_okq (⟨"HopscotchCourtModel", "lays", "(IIIZ)I"⟩, 27) := ⟨⟨by decide +kernel, by decide +kernel⟩, List.mem_of_getElem? (i := 972) (by decide +kernel), List.mem_of_getElem? (i := 1333) (by decide +kernel), List.mem_of_getElem? (i := 1334) (by decide +kernel)⟩
theorem lw_p113 : lw_okq (⟨"HopscotchCourtModel", "last", "()I"⟩, 27) := ⟨⟨by decide +kernel, by decide +kernel⟩, List.mem_of_getElem? (i := 972) (by decide +kernel), List.mem_of_getElem? (i := 1337) (by decide +kernel), List.mem_of_getElem? (i := 1338) (by decide +kernel)⟩
theorem lw_p114 : lw_okq (⟨"HopscotchCourtModel", "rowAt", "(IZ)I"⟩, 27) := ⟨⟨by decide +kernel, by decide +kernel⟩, List.mem_of_getElem? (i := 972) (by decide +kernel), List.mem_of_getElem? (i := 1341) (by decide +kernel), List.mem_of_getElem? (i := 1342) (by decide +kernel)⟩
theorem lw_p115 : lw_okq (⟨"HopscotchCourtModel", "leastBy", "(IIII)I"⟩, 27) := ⟨⟨by decide +kernel, by decide +kernel⟩, List.mem_of_getElem? (i := 972) (by decide +kernel), List.mem_of_getElem? (i := 1346) (by decide +kernel), List.mem_of_getElem? (i := 1347) (by decide +kernel)⟩
theorem lw_p116 : lw_okq (⟨"HopscotchCourtModel", "mayHop", "(IIII)Z"⟩, 27) := ⟨⟨by decide +kernel, by decide +kernel⟩, List.mem_of_getElem? (i := 972) (by decide +kernel), List.mem_of_getElem? (i := 1350) (by decide +kernel), List.mem_of_getElem? (i := 1351) (by decide +kernel)⟩
theorem lw_p117 : lw_okq (⟨"HopscotchCourtModel", "runAt", "(II)I"⟩, 27) := ⟨⟨by decide +kernel, by decide +kernel⟩, List.mem_of_getElem? (i := 972) (by decide +kernel), List.mem_of_getElem? (i := 1354) (by decide +kernel), List.mem_of_getElem? (i := 1355) (by decide +kernel)⟩
theorem lw_p118 : lw_okq (⟨"HopscotchCourtModel", "costOf", "(IZ)I"⟩, 27) := ⟨⟨by decide +kernel, by decide +kernel⟩, List.mem_of_getElem? (i := 972) (by decide +kernel), List.mem_of_getElem? (i := 1362) (by decide +kernel), List.mem_of_getElem? (i := 1363) (by decide +kernel)⟩
theorem lw_p119 : lw_okq (⟨"HopscotchCourtModel", "playableOf", "(I)I"⟩, 27) := ⟨⟨by decide +kernel, by decide +kernel⟩, List.mem_of_getElem? (i := 972) (by decide +kernel), List.mem_of_getElem? (i := 1378) (by decide +kernel), List.mem_of_getElem? (i := 1379) (by decide +kernel)⟩
theorem lw_p120 : lw_okq (⟨"HopscotchCourtModel", "plays", "(I)I"⟩, 27) := ⟨⟨by decide +kernel, by decide +kernel⟩, List.mem_of_getElem? (i := 972) (by decide +kernel), List.mem_of_getElem? (i := 1390) (by decide +kernel), List.mem_of_getElem? (i := 1391) (by decide +kernel)⟩
theorem lw_p121 : lw_okq (⟨"HopscotchCourtModel", "turns", "(II)I"⟩, 27) := ⟨⟨by decide +kernel, by decide +kernel⟩, List.mem_of_getElem? (i := 972) (by decide +kernel), List.mem_of_getElem? (i := 1395) (by decide +kernel), List.mem_of_getElem? (i := 1396) (by decide +kernel)⟩
theorem lw_p122 : lw_okq (⟨"HopscotchCourtModel", "hops", "(IZI)V"⟩, 27) := ⟨⟨by decide +kernel, by decide +kernel⟩, List.mem_of_getElem? (i := 972) (by decide +kernel), List.mem_of_getElem? (i := 1399) (by decide +kernel), List.mem_of_getElem? (i := 1400) (by decide +kernel)⟩
theorem lw_p123 : lw_okq (⟨"HopscotchCourtModel", "goesThrough", "(I)V"⟩, 27) := ⟨⟨by decide +kernel, by decide +kernel⟩, List.mem_of_getElem? (i := 972) (by decide +kernel), List.mem_of_getElem? (i := 1403) (by decide +kernel), List.mem_of_getElem? (i := 1404) (by decide +kernel)⟩
theorem lw_p124 : lw_okq (⟨"HopscotchCourtModel", "ends", "(II)V"⟩, 27) := ⟨⟨by decide +kernel, by decide +kernel⟩, List.mem_of_getElem? (i := 972) (by decide +kernel), List.mem_of_getElem? (i := 1407) (by decide +kernel), List.mem_of_getElem? (i := 1408) (by decide +kernel)⟩
theorem lw_p125 : lw_okq (⟨"HopscotchCourtModel", "mayBe", "(II)Z"⟩, 27) := ⟨⟨by decide +kernel, by decide +kernel⟩, List.mem_of_getElem? (i := 972) (by decide +kernel), List.mem_of_getElem? (i := 1447) (by decide +kernel), List.mem_of_getElem? (i := 1448) (by decide +kernel)⟩
theorem lw_p126 : lw_okq (⟨"HopscotchCourtModel", "says", "(I)V"⟩, 27) := ⟨⟨by decide +kernel, by decide +kernel⟩, List.mem_of_getElem? (i := 972) (by decide +kernel), List.mem_of_getElem? (i := 1459) (by decide +kernel), List.mem_of_getElem? (i := 1460) (by decide +kernel)⟩
theorem lw_p127 : lw_okq (⟨"HopscotchCourtModel", "saysSquare", "(I)V"⟩, 27) := ⟨⟨by decide +kernel, by decide +kernel⟩, List.mem_of_getElem? (i := 972) (by decide +kernel), List.mem_of_getElem? (i := 1463) (by decide +kernel), List.mem_of_getElem? (i := 1464) (by decide +kernel)⟩
def lw_privs_8 : List (MethodName × Nat) := [(⟨"HopscotchCourtModel", "lays", "(IIIZ)I"⟩, 27), (⟨"HopscotchCourtModel", "last", "()I"⟩, 27), (⟨"HopscotchCourtModel", "rowAt", "(IZ)I"⟩, 27), (⟨"HopscotchCourtModel", "leastBy", "(IIII)I"⟩, 27), (⟨"HopscotchCourtModel", "mayHop", "(IIII)Z"⟩, 27), (⟨"HopscotchCourtModel", "runAt", "(II)I"⟩, 27), (⟨"HopscotchCourtModel", "costOf", "(IZ)I"⟩, 27), (⟨"HopscotchCourtModel", "playableOf", "(I)I"⟩, 27), (⟨"HopscotchCourtModel", "plays", "(I)I"⟩, 27), (⟨"HopscotchCourtModel", "turns", "(II)I"⟩, 27), (⟨"HopscotchCourtModel", "hops", "(IZI)V"⟩, 27), (⟨"HopscotchCourtModel", "goesThrough", "(I)V"⟩, 27), (⟨"HopscotchCourtModel", "ends", "(II)V"⟩, 27), (⟨"HopscotchCourtModel", "mayBe", "(II)Z"⟩, 27), (⟨"HopscotchCourtModel", "says", "(I)V"⟩, 27), (⟨"HopscotchCourtModel", "saysSquare", "(I)V"⟩, 27)]
theorem lw_r8 : ∀ q ∈ lw_privs_8, lw_okq q := List.forall_mem_cons.mpr ⟨lw_p112, List.forall_mem_cons.mpr ⟨lw_p113, List.forall_mem_cons.mpr ⟨lw_p114, List.forall_mem_cons.mpr ⟨lw_p115, List.forall_mem_cons.mpr ⟨lw_p116, List.forall_mem_cons.mpr ⟨lw_p117, List.forall_mem_cons.mpr ⟨lw_p118, List.forall_mem_cons.mpr ⟨lw_p119, List.forall_mem_cons.mpr ⟨lw_p120, List.forall_mem_cons.mpr ⟨lw_p121, List.forall_mem_cons.mpr ⟨lw_p122, List.forall_mem_cons.mpr ⟨lw_p123, List.forall_mem_cons.mpr ⟨lw_p124, List.forall_mem_cons.mpr ⟨lw_p125, List.forall_mem_cons.mpr ⟨lw_p126, List.forall_mem_cons.mpr ⟨lw_p127, fun _ h => absurd h List.not_mem_nil⟩⟩⟩⟩⟩⟩⟩⟩⟩⟩⟩⟩⟩⟩⟩⟩
def lw_privs : List (MethodName × Nat) := lw_privs_1 ++ (lw_privs_2 ++ (lw_privs_3 ++ (lw_privs_4 ++ (lw_privs_5 ++ (lw_privs_6 ++ (lw_privs_7 ++ (lw_privs_8)))))))
def lw_tbl : List Cond := k2_sels lw_privs ++ tables_1
theorem lw_privs_ok : ∀ q ∈ lw_privs, lw_okq q := by
  show ∀ q ∈ lw_privs_1 ++ (lw_privs_2 ++ (lw_privs_3 ++ (lw_privs_4 ++ (lw_privs_5 ++ (lw_privs_6 ++ (lw_privs_7 ++ (lw_privs_8))))))), lw_okq q
  exact List.forall_mem_append.mpr ⟨lw_r1, List.forall_mem_append.mpr ⟨lw_r2, List.forall_mem_append.mpr ⟨lw_r3, List.forall_mem_append.mpr ⟨lw_r4, List.forall_mem_append.mpr ⟨lw_r5, List.forall_mem_append.mpr ⟨lw_r6, List.forall_mem_append.mpr ⟨lw_r7, lw_r8⟩⟩⟩⟩⟩⟩⟩
/-- the streams that the claim lets the run draw from -/
abbrev lw_cs : List Choice := [Jvm.Choice.named "NaN.bits"]
theorem lw_bits : nanBits ∈ lw_cs := by first | decide | exact List.mem_cons_self | simp [lw_cs, nanBits]
-- ===== end of PART A; then your names; then what follows =====
end
section
/-! ===== BEGIN words of one list among another's, by their places ===== -/
theorem goodIn_r {big : List Cond} (ws : List Cond) (ps : List Nat) (hp : ws = ps.filterMap (fun i => big[i]?)) (h : ws.all goodWord = true) : GoodIn big ws := by
  intro w hw
  have h1 := List.all_eq_true.mp h w hw
  rw [hp] at hw
  obtain ⟨i, -, hi⟩ := List.mem_filterMap.mp hw
  have hm : w ∈ big := by first | exact List.mem_of_getElem? hi | exact List.getElem?_mem hi
  exact ⟨hm, good_of_word h1⟩
theorem goodIn_app {big a b : List Cond} (ha : GoodIn big a) (hb : GoodIn big b) : GoodIn big (a ++ b) := fun w h => (List.mem_append.mp h).elim (ha w) (hb w)
theorem goodIn_ca {big a b : List Cond} {c : Cond} (ha : GoodIn big (c :: a)) (hb : GoodIn big b) : GoodIn big (c :: (a ++ b)) := fun w h => (List.mem_cons.mp h).elim (fun e => ha w (List.mem_cons.mpr (Or.inl e))) (fun h => (List.mem_append.mp h).elim (fun h => ha w (List.mem_cons.mpr (Or.inr h))) (hb w))
theorem goodIn_sub {big ws : List Cond} (hm : ∀ w ∈ ws, w ∈ big) (h : ws.all goodWord = true) : GoodIn big ws := fun w hw => ⟨hm w hw, good_of_word (List.all_eq_true.mp h w hw)⟩
/-! ===== END ===== -/

/-! ===== BEGIN exceptions that leave a method, and their catching by the caller (launches without stack traces) ===== -/
section VXA
/-! The laws vx_back, vx_callV, vx_callS, vx_callSW, vx_throw0, vx_throwS follow proofs of the library, with one case more: JvmDerived/Free/Laws.lean (Back.of_free), Shelf42/LK1.lean (callV, callS), Shelf/KitTraced.lean (throwNew0V, throwNewS). -/
/-- where a method has thrown q: the class by its name, the cell, what was written, the world -/
def vx_T (XC : String → State → State → Prop) (st : State) (q : Addr) (t : State) (mc ms : Nat) (free : Addr → Prop) : Prop :=
  ∃ (E : String) (ce : Cell) (L : List Loc), XC E st t ∧ t.heap[q]? = some ce ∧ ce.vm = .none ∧ st.vm.findClass E = some ce.cls ∧ st.WarmedH t.vm ∧ st.sameButNew ({ t with vm := st.vm } : State) L mc ms ∧ ∀ z ∈ L, free z.base
def vx_Q (Qc : Array Value → State → Outcome → State → Prop) (XC : String → State → State → Prop) (mc ms : Nat) (free : Addr → Prop) : Array Value → State → Outcome → State → Prop := fun a st o t =>
  (Qc a st o t ∧ ∃ L, FrameEnd st o t L mc ms ∧ ∀ q ∈ L, free q.base) ∨ ∃ q, o = .threw q ∧ vx_T XC st q t mc ms free
/-- a callee that returns or throws -/
def vx_Met (l : Launch) (y : MethodName) (ws : List Cond) (rm : Room) (Pc : Array Value → State → Prop) (Qc : Array Value → State → Outcome → State → Prop) (XC : String → State → State → Prop) (mc ms : Nat) (free : Addr → Prop) : Prop :=
  MetFree l y (headSpec ws rm) Pc (fun _ _ _ _ _ => True) (vx_Q Qc XC mc ms free)
def vx_Post (XC : String → State → State → Prop) (mc ms : Nat) (free : Addr → Prop) : Pt → Array Value → Addr → Pt → Prop := fun A a q B =>
  ∃ (g : JFrame) (mk : MethodId) (t : State) (L : List Loc) (E : String) (ce : Cell), B.U.heap = t.heap ∧ B.U.vm = t.vm ∧ XC E (A.U.calling g mk a) t ∧ t.heap[q]? = some ce ∧ ce.vm = .none ∧ A.U.vm.findClass E = some ce.cls ∧ B.locs = A.locs ++ L ∧ (∀ z ∈ L, free z.base) ∧ B.cells = A.cells + mc ∧ B.slots = A.slots + ms
def vx_Back (l : Launch) (R : Room) (p : Program) (e : Env) (below : List Frame) (s : State) (sargs : Array Value) (y : MethodName) (len W9 : Nat)
    (Pre : Pt → Array Value → Prop) (Post : Pt → Array Value → Option Value → Pt → Prop) (PostX : Pt → Array Value → Addr → Pt → Prop) : Prop :=
  ∀ (m : MethodId) (meth : Method) (c : Code) (A : Pt) (g : JFrame) (ig : Instr) (mk : MethodId) (a : Array Value),
    Stand p l e R s m sargs below meth c A.U A.locs A.cells A.slots → g.method = m → g.locals.size = c.maxLocals → decode c.code g.pc = .ok (ig, len) →
    2 * g.monitorRoom + (g.stack.map fun v => v.category).sum ≤ W9 → A.U.methodNamed? y = some mk → Pre A a →
    (∃ (v : Option Value) (B : Pt), Stand p l e R s m sargs below meth c B.U B.locs B.cells B.slots ∧ Post A a v B ∧
      Steps p.tables e below (doInvoke e (A.U.setTop g) [] mk a).1 (B.U.setTop { g with pc := g.pc + len, stack := v.toList ++ g.stack })) ∨
    (∃ (q : Addr) (B : Pt), Stand p l e R s m sargs below meth c B.U B.locs B.cells B.slots ∧ PostX A a q B ∧
      Steps p.tables e below (doInvoke e (A.U.setTop g) [] mk a).1 ((B.U.setTop g).pushFrame (.throwing q)))
section Payer
variable {l : Launch} {R : Room} {p : Program} {e : Env} {below : List Frame} {s : State} {sargs : Array Value} {y : MethodName} {len W9 : Nat}
theorem vx_back {ws : List Cond} {rm : Room} {Pc : Array Value → State → Prop} {Qc : Array Value → State → Outcome → State → Prop} {XC : String → State → State → Prop} {mc ms : Nat} {free : Addr → Prop} {bytes : ByteArray} {maxL : Nat} {ret : Option FieldType}
    (hM : vx_Met l y ws rm Pc Qc XC mc ms free) (hblind : FrameBlind Pc) (hrc : rm.cells = mc) (hrs : rm.slots = ms)
    (hframes : rm.frames + 1 ≤ R.frames) (hlocals : W9 + (maxL + 11) + rm.locals ≤ R.locals)
    (hws : ∀ w ∈ ws, ∀ a' U, s.WarmedH U.vm → w.before a' U = true) (hcode : Cond.code y bytes maxL ret ∈ ws) (hinit : ∀ a' U, s.WarmedH U.vm → (Cond.initialized y.cls).before a' U = true) :
    vx_Back l R p e below s sargs y len W9 (PreOf R mc ms Pc) (PostOf Qc mc ms free) (vx_Post XC mc ms free) := by
  intro m meth c A g ig mk a X hg hsize hdg hW hn hp
  have h1 : (headSpec ws rm).pre.before a A.U = true := atoms_intro fun w hw => hws w hw _ _ X.warmed
  have h2 : (Cond.code y bytes maxL ret).before a A.U = true := hws _ hcode _ _ X.warmed
  have h3 : (Cond.initialized y.cls).before a A.U = true := hinit _ _ X.warmed
  have h4 : A.cells + (headSpec ws rm).room.cells ≤ R.cells := by rw [show (headSpec ws rm).room.cells = mc from hrc]; exact hp.1
  have h5 : A.slots + (headSpec ws rm).room.slots ≤ R.slots := by rw [show (headSpec ws rm).room.slots = ms from hrs]; exact hp.2.1
  have hPc : Pc a (A.U.calling g mk a) := hblind _ _ _ _ hp.2.2
  obtain ⟨U, Ls, c0, s0⟩ := A
  dsimp only [Pt.U, Pt.locs, Pt.cells, Pt.slots] at h1 h2 h3 h4 h5 X hn hPc ⊢
  obtain ⟨methY, cY, hmY, hcY, -, hlY, -, -, -, -⟩ := Cond.code_spec hn h2
  obtain ⟨kY, hkY, -⟩ := className_of_methodNamed hn
  have hinitY : kY.init = .initialized := Cond.initialized_spec (findClass_of_methodNamed hn) hkY h3
  have h : At U g.method c below := by rw [hg]; exact X.here
  have hlocals9 : W9 + (maxL + 11) + (headSpec ws rm).room.locals ≤ R.locals := hlocals
  have happ : (headSpec ws rm).appliesLoose y e.platform (U.calling g mk a) = true :=
    Spec.appliesLoose_calling (g := g) h hdg hn hkY hinitY
      (X.room_calling (g := g) (R' := (headSpec ws rm).room) hsize hmY hcY hframes (by rw [hlY]; omega) h4 h5) h1
  obtain ⟨mid, hmid⟩ := h.above
  have hfr : (U.setTop g).frames = (.java g :: mid) ++ below := by rw [State.frames_setTop' g h.top, hmid]; rfl
  obtain ⟨o, s₂, hsteps, -, hend, hq⟩ := Steps.callFree hM p X.admits X.cas X.clock (acts := []) hfr happ hPc trivial
  have hq' : vx_Q Qc XC mc ms free a (U.calling g mk a) o s₂ := hq
  rw [State.frames_setTop' g h.top] at hend
  obtain ⟨g₀, hg0⟩ := Option.isSome_iff_exists.mp h.top
  obtain ⟨r, hr⟩ := State.topJava?_eq_some.mp hg0
  have hr' : (({ U with heap := s₂.heap, slotsUsed := s₂.slotsUsed } : State).setVm s₂.vm).frames = .java g₀ :: r := hr
  rcases hq' with ⟨hqc, L, hfe, hL⟩ | ⟨q, rfl, E, ce, L, hx, hce, hcv, hcl, hW₂, hsm, hL⟩
  · obtain ⟨⟨v, rfl⟩, hW₂, e2, q2, q3, q4, q5, q6⟩ := id hfe
    have e3 : s₂ = ({ (U.calling g mk a).setFrames s₂.frames with heap := s₂.heap, slotsUsed := s₂.slotsUsed } : State).setVm s₂.vm := by
      have : s₂ = ({ s₂ with vm := (U.calling g mk a).vm } : State).setVm s₂.vm := rfl
      rw [e2] at this
      exact this
    obtain ⟨c₂, i₂, len₂, hc₂, hd₂, hf₂⟩ := hend
    have hW' : U.WarmedH s₂.vm := hW₂
    have hcc : c₂ = c := by
      have h1 : s₂.code? g.method = U.code? g.method := by
        rw [State.code?_eq, State.code?_eq, hW'.alike.method?]
      exact Option.some.inj (hc₂.symm.trans (h1.trans h.code))
    subst hcc
    have hlen : len₂ = len := by rw [hdg] at hd₂; cases hd₂; rfl
    subst hlen
    have hs₂ : s₂ = (({ U with heap := s₂.heap, slotsUsed := s₂.slotsUsed } : State).setVm s₂.vm).setTop { g with pc := g.pc + len₂, stack := v.toList ++ g.stack } := by
      refine e3.trans ?_
      rw [hf₂, State.calling_eq h.top, State.setFrames_setFrames, State.setTop_of_frames _ hr', hr]
      rfl
    have hsame : U.sameButNew ({ U with heap := s₂.heap, slotsUsed := s₂.slotsUsed } : State) L mc ms := by
      refine ⟨?_, q2, q3, q4, q5, q6⟩
      obtain ⟨t, ht, -⟩ := State.frames_cons hr
      show ({ U with heap := s₂.heap, slotsUsed := s₂.slotsUsed } : State) = { U.setFrames U.frames with heap := s₂.heap, slotsUsed := s₂.slotsUsed }
      rw [State.setFrames_self ht]
    subst hg
    refine Or.inl ⟨v, ⟨(({ U with heap := s₂.heap, slotsUsed := s₂.slotsUsed } : State).setVm s₂.vm), Ls ++ L, c0 + mc, s0 + ms⟩,
      ⟨X.admits, X.cas, X.clock, X.frames, X.room, X.hears, X.method, X.code, (X.here.setHeapUsed s₂.heap s₂.slotsUsed).setVm hW'.alike, X.tail, State.WarmedH.trans X.warmed hW', X.limits, X.bytes, X.same.trans (hsame.setVm s.vm)⟩,
      ⟨g, mk, s₂, L, rfl, rfl, hqc, rfl, hL, rfl, rfl⟩, ?_⟩
    show Steps p.tables e below _ ((({ U with heap := s₂.heap, slotsUsed := s₂.slotsUsed } : State).setVm s₂.vm).setTop { g with pc := g.pc + len₂, stack := v.toList ++ g.stack })
    rw [← hs₂]
    exact hsteps
  · obtain ⟨e2, q2, q3, q4, q5, q6⟩ := id hsm
    have e3 : s₂ = ({ (U.calling g mk a).setFrames s₂.frames with heap := s₂.heap, slotsUsed := s₂.slotsUsed } : State).setVm s₂.vm := by
      have : s₂ = ({ s₂ with vm := (U.calling g mk a).vm } : State).setVm s₂.vm := rfl
      rw [e2] at this
      exact this
    have hf₂ : s₂.frames = .throwing q :: .java g :: U.frames.tail := hend
    have hW' : U.WarmedH s₂.vm := hW₂
    have hs₂ : s₂ = ((({ U with heap := s₂.heap, slotsUsed := s₂.slotsUsed } : State).setVm s₂.vm).setTop g).pushFrame (.throwing q) := by
      refine e3.trans ?_
      rw [hf₂, State.calling_eq h.top, State.setFrames_setFrames, State.pushFrame, State.frames_setTop _ hr', State.setTop_of_frames _ hr', State.setFrames_setFrames, hr]
      rfl
    have hsame : U.sameButNew ({ U with heap := s₂.heap, slotsUsed := s₂.slotsUsed } : State) L mc ms := by
      refine ⟨?_, q2, q3, q4, q5, q6⟩
      obtain ⟨t, ht, -⟩ := State.frames_cons hr
      show ({ U with heap := s₂.heap, slotsUsed := s₂.slotsUsed } : State) = { U.setFrames U.frames with heap := s₂.heap, slotsUsed := s₂.slotsUsed }
      rw [State.setFrames_self ht]
    subst hg
    refine Or.inr ⟨q, ⟨(({ U with heap := s₂.heap, slotsUsed := s₂.slotsUsed } : State).setVm s₂.vm), Ls ++ L, c0 + mc, s0 + ms⟩,
      ⟨X.admits, X.cas, X.clock, X.frames, X.room, X.hears, X.method, X.code, (X.here.setHeapUsed s₂.heap s₂.slotsUsed).setVm hW'.alike, X.tail, State.WarmedH.trans X.warmed hW', X.limits, X.bytes, X.same.trans (hsame.setVm s.vm)⟩,
      ⟨g, mk, s₂, L, E, ce, rfl, rfl, hx, hce, hcv, hcl, rfl, hL, rfl, rfl⟩, ?_⟩
    show Steps p.tables e below _ (((({ U with heap := s₂.heap, slotsUsed := s₂.slotsUsed } : State).setVm s₂.vm).setTop g).pushFrame (.throwing q))
    rw [← hs₂]
    exact hsteps
end Payer
section Calls
variable {p : Program} {l : Launch} {e : Env} {R : Room} {s : State} {m : MethodId} {args : Array Value} {below : List Frame} {meth : Method} {c : Code} {T : State} {locs : List Loc} {cells slots : Nat}
theorem vx_callV (X : Stand p l e R s m args below meth c T locs cells slots) (hexec : p.tables.exec = Jvm.exec) {own C : String} {index : Nat} {y : MethodName} {bytes : ByteArray} {maxL : Nat} {ret : Option FieldType}
    (hown : s.vm.findClass own = some m.cls) (hlink : (Cond.methodLink own index y).before args s = true) (hinst : (Cond.instanceMethod y).before args s = true) (hsel : (Cond.selects C y y).before args s = true)
    (hcode : (Cond.code y bytes maxL ret).before args s = true) (hy : y.cls ≠ "java/lang/invoke/MethodHandle" ∧ y.cls ≠ "java/lang/invoke/VarHandle")
    {W9 : Nat} {Pre : Pt → Array Value → Prop} {Post : Pt → Array Value → Option Value → Pt → Prop} {PostX : Pt → Array Value → Addr → Pt → Prop} (hK : vx_Back l R p e below s args y 3 W9 Pre Post PostX)
    {b : Addr} {cellB : Cell} (hcell : T.heap[b]? = some cellB) (hobj : cellB.vm.isStatics = false) (hcls : s.vm.findClass C = some cellB.cls)
    {g : JFrame} (hg : g.method = m) (hsize : g.locals.size = c.maxLocals) {argsL rest : List Value} (hlen : ∀ sig, parseMethodDescriptor y.desc = some sig → argsL.length = sig.parameters.length)
    (hstack : g.stack = argsL.reverse ++ .ref b :: rest) (hW : 2 * g.monitorRoom + (rest.map fun v => v.category).sum ≤ W9) (hdg : decode c.code g.pc = .ok (.invokevirtual index, 3))
    (hpre : ∀ vm₁, s.WarmedH vm₁ → Pre ⟨T.setVm vm₁, locs, cells, slots⟩ (Value.ref b :: argsL).toArray) :
    (∃ (v : Option Value) (vm₁ : Vm) (B : Pt), s.WarmedH vm₁ ∧ Stand p l e R s m args below meth c B.U B.locs B.cells B.slots ∧ Post ⟨T.setVm vm₁, locs, cells, slots⟩ (Value.ref b :: argsL).toArray v B ∧
      ∀ target, Steps p.tables e below (B.U.setTop { g with pc := g.pc + 3, stack := v.toList ++ rest }) target → Steps p.tables e below (T.setTop g) target) ∨
    (∃ (q : Addr) (vm₁ : Vm) (B : Pt), s.WarmedH vm₁ ∧ Stand p l e R s m args below meth c B.U B.locs B.cells B.slots ∧ PostX ⟨T.setVm vm₁, locs, cells, slots⟩ (Value.ref b :: argsL).toArray q B ∧
      Steps p.tables e below (T.setTop g) ((B.U.setTop { g with stack := rest }).pushFrame (.throwing q))) := by
  obtain ⟨mk, methM, hnamed, hmethM, hstM, habM⟩ := Cond.instanceMethod_spec hinst
  obtain ⟨methM', cM, hmethM', -, -, -, -, -, -, hsigM⟩ := Cond.code_spec hnamed hcode
  cases hmethM.symm.trans hmethM'
  obtain ⟨c2, r2, m2, q1, q2, q3, q4, kP, hkP, hkPi⟩ := Cond.selects_spec hsel
  cases hcls.symm.trans q1
  cases (State.methodFound?_of_named hnamed hy).symm.trans q2
  cases hnamed.symm.trans q3
  have hselP : selectMethod e.platform s.vm cellB.cls mk = .method mk := by rw [Launch.admits_selectMethod X.admits]; exact q4
  obtain ⟨vm₁, X₁, hstep₁⟩ := X.invokevirtual hexec hown hlink hnamed hmethM hstM hkP hkPi hy (a := b) (cell := cellB) hcell
    (fun z h => by rw [h] at hobj; cases hobj) hselP hmethM habM hkP hkPi (g := g) hg (argsL := argsL) (rest := rest) (hlen _ hsigM) hstack hdg
  rcases hK m meth c ⟨T.setVm vm₁, locs, cells, slots⟩ { g with stack := rest } (.invokevirtual index) mk (Value.ref b :: argsL).toArray X₁ hg hsize hdg hW (X₁.named hnamed) (hpre vm₁ X₁.warmed) with ⟨v, B, X', hpost, hsteps⟩ | ⟨q, B, X', hpost, hsteps⟩
  · exact Or.inl ⟨v, vm₁, B, X₁.warmed, X', hpost, fun target h => hstep₁ _ fun acts => by rw [doInvoke_state]; exact hsteps.trans h⟩
  · exact Or.inr ⟨q, vm₁, B, X₁.warmed, X', hpost, hstep₁ _ fun acts => by rw [doInvoke_state]; exact hsteps⟩
theorem vx_callS (X : Stand p l e R s m args below meth c T locs cells slots) (hexec : p.tables.exec = Jvm.exec) {own : String} {index : Nat} {y : MethodName} {bytes : ByteArray} {maxL : Nat} {ret : Option FieldType}
    (hown : s.vm.findClass own = some m.cls) (hlink : (Cond.methodLink own index y).before args s = true) (hstat : (Cond.static y).before args s = true) (hinit : (Cond.initialized y.cls).before args s = true)
    (hcode : (Cond.code y bytes maxL ret).before args s = true) (hy : y.cls ≠ "java/lang/invoke/MethodHandle" ∧ y.cls ≠ "java/lang/invoke/VarHandle")
    {W9 : Nat} {Pre : Pt → Array Value → Prop} {Post : Pt → Array Value → Option Value → Pt → Prop} {PostX : Pt → Array Value → Addr → Pt → Prop} (hK : vx_Back l R p e below s args y 3 W9 Pre Post PostX)
    {g : JFrame} (hg : g.method = m) (hsize : g.locals.size = c.maxLocals) {argsL rest : List Value} (hlen : ∀ sig, parseMethodDescriptor y.desc = some sig → argsL.length = sig.parameters.length)
    (hstack : g.stack = argsL.reverse ++ rest) (hW : 2 * g.monitorRoom + (rest.map fun v => v.category).sum ≤ W9) (hdg : decode c.code g.pc = .ok (.invokestatic index, 3))
    (hpre : ∀ vm₁, s.WarmedH vm₁ → Pre ⟨T.setVm vm₁, locs, cells, slots⟩ argsL.toArray) :
    (∃ (v : Option Value) (vm₁ : Vm) (B : Pt), s.WarmedH vm₁ ∧ Stand p l e R s m args below meth c B.U B.locs B.cells B.slots ∧ Post ⟨T.setVm vm₁, locs, cells, slots⟩ argsL.toArray v B ∧
      ∀ target, Steps p.tables e below (B.U.setTop { g with pc := g.pc + 3, stack := v.toList ++ rest }) target → Steps p.tables e below (T.setTop g) target) ∨
    (∃ (q : Addr) (vm₁ : Vm) (B : Pt), s.WarmedH vm₁ ∧ Stand p l e R s m args below meth c B.U B.locs B.cells B.slots ∧ PostX ⟨T.setVm vm₁, locs, cells, slots⟩ argsL.toArray q B ∧
      Steps p.tables e below (T.setTop g) ((B.U.setTop { g with stack := rest }).pushFrame (.throwing q))) := by
  obtain ⟨mk, hnamed⟩ := Cond.code_named hcode
  obtain ⟨methM, cM, hmethM, -, -, -, -, -, -, hsigM⟩ := Cond.code_spec hnamed hcode
  have hstatic : methM.isStatic = true := Cond.static_spec hnamed hmethM hstat
  obtain ⟨kP, hkP, -⟩ := className_of_methodNamed hnamed
  have hinitP : kP.init = .initialized := Cond.initialized_spec (findClass_of_methodNamed hnamed) hkP hinit
  obtain ⟨vm₁, X₁, hstep₁⟩ := X.invokestatic hexec hown hlink hnamed hmethM hstatic hkP hinitP hy (g := g) hg (argsL := argsL) (rest := rest) (hlen _ hsigM) hstack hdg
  rcases hK m meth c ⟨T.setVm vm₁, locs, cells, slots⟩ { g with stack := rest } (.invokestatic index) mk argsL.toArray X₁ hg hsize hdg hW (X₁.named hnamed) (hpre vm₁ X₁.warmed) with ⟨v, B, X', hpost, hsteps⟩ | ⟨q, B, X', hpost, hsteps⟩
  · exact Or.inl ⟨v, vm₁, B, X₁.warmed, X', hpost, fun target h => hstep₁ _ fun acts => by rw [doInvoke_state]; exact hsteps.trans h⟩
  · exact Or.inr ⟨q, vm₁, B, X₁.warmed, X', hpost, hstep₁ _ fun acts => by rw [doInvoke_state]; exact hsteps⟩
end Calls
theorem vx_cls {s : State} {T : State} {vm₁ : Vm} {E : String} {k : ClassId} (hW : s.WarmedH vm₁) (h : (T.setVm vm₁).vm.findClass E = some k) : s.vm.findClass E = some k := by
  have h1 : vm₁.findClass E = some k := h
  rw [hW.alike.findClass] at h1
  exact h1
/-- the method's frame g, with q thrown over it -/
def vx_W (p : Program) (l : Launch) (e : Env) (R : Room) (s : State) (m : MethodId) (args : Array Value) (below : List Frame) (meth : Method) (c : Code) (H : Heap) (locs : List Loc) (cells slots : Nat) (Q : State → Prop) (g : JFrame) (q : Addr) : Prop :=
  ∀ T : State, T.heap = H → Stand p l e R s m args below meth c T locs cells slots → ∃ t, Steps p.tables e below ((T.setTop g).pushFrame (.throwing q)) t ∧ Q t
def vx_Run (p : Program) (l : Launch) (e : Env) (R : Room) (s : State) (m : MethodId) (args : Array Value) (below : List Frame) (meth : Method) (c : Code) (H : Heap) (locs : List Loc) (cells slots mc ms : Nat) (g : JFrame) (rest : List Value) (Qa : State → Outcome → State → Prop) (XC : String → State → State → Prop) (free : Addr → Prop) : Prop :=
  ∀ T : State, T.heap = H → Stand p l e R s m args below meth c T locs cells slots →
    (∃ (v : Option Value) (st₀ t T' : State) (L : List Loc), st₀.heap = H ∧ Stand p l e R s m args below meth c T' (locs ++ L) (cells + mc) (slots + ms) ∧ (∀ q ∈ L, free q.base) ∧ T'.heap = t.heap ∧ T'.vm = t.vm ∧ Qa st₀ (.returned v) t ∧
      Goes p e below T g T' { g with pc := g.pc + 3, stack := v.toList ++ rest }) ∨
    (∃ (q : Addr) (st₀ t T' : State) (L : List Loc) (E : String) (ce : Cell), st₀.heap = H ∧ Stand p l e R s m args below meth c T' (locs ++ L) (cells + mc) (slots + ms) ∧ (∀ z ∈ L, free z.base) ∧ T'.heap = t.heap ∧ T'.vm = t.vm ∧ XC E st₀ t ∧ t.heap[q]? = some ce ∧ ce.vm = .none ∧ s.vm.findClass E = some ce.cls ∧
      Steps p.tables e below (T.setTop g) ((T'.setTop { g with stack := rest }).pushFrame (.throwing q)))
def vx_X {S : Type} (px : S → Prop) (B : String → S → State → Prop) (A : Nat → Prop) : String → State → State → Prop := fun E st t => ∃ u : S, px u ∧ B E u t ∧ va_F A st t
section Runs
variable {p : Program} {l : Launch} {e : Env} {R : Room} {s : State} {m : MethodId} {args : Array Value} {below : List Frame} {meth : Method} {c : Code} {H : Heap} {locs : List Loc} {cells slots : Nat}
variable {y : MethodName} {bytes cc : ByteArray} {maxL nL mc ms n index : Nat} {ret : Option FieldType} {ws : List Cond} {rm : Room} {Pc : Array Value → State → Prop} {Qc : Array Value → State → Outcome → State → Prop} {XC : String → State → State → Prop} {free : Addr → Prop} {Ts : List Cond} {own C : String} {b : Addr} {As rest : List Value} {g : JFrame}
theorem vx_callBack (cb : CallB R s args own index y bytes maxL ret ws rm mc ms n) (hM : vx_Met l y ws rm Pc Qc XC mc ms free) (hbl : FrameBlind Pc) : vx_Back l R p e below s args y 3 8 (PreOf R mc ms Pc) (PostOf Qc mc ms free) (vx_Post XC mc ms free) := by
  obtain ⟨hrc, hrs, hfr, hlo, hws, hcw, -, hini, -⟩ := cb
  exact vx_back (bytes := bytes) (maxL := maxL) (ret := ret) hM hbl hrc hrs hfr hlo hws hcw (fun a' U hW => word_at hW (Or.inl (by first | rfl | simp [Cond.onTables, Cond.keeps, Cond.steady])) hini)
theorem vx_runV (S : CallFix p m c cc nL s args Ts own) (hM : vx_Met l y ws rm Pc Qc XC mc ms free) (cw : CallW R s args own C index y bytes maxL ret ws rm mc ms n) (hp : PreV s H C b Pc As)
    (hg : g.method = m) (hn : As.length = n) (hsize : g.locals.size = nL) (hstack : g.stack = As.reverse ++ .ref b :: rest) (hW : 2 * g.monitorRoom + (rest.map fun v => v.category).sum ≤ 8) (hdg : decode cc g.pc = .ok (.invokevirtual index, 3)) (hf : cells + mc ≤ R.cells ∧ slots + ms ≤ R.slots) :
    vx_Run p l e R s m args below meth c H locs cells slots mc ms g rest (Qc (Value.ref b :: As).toArray) XC free := by
  have hK : vx_Back l R p e below s args y 3 8 (PreOf R mc ms Pc) (PostOf Qc mc ms free) (vx_Post XC mc ms free) := vx_callBack cw.1 hM hp.1
  obtain ⟨⟨-, -, -, -, -, -, hcode, -, hy, hlen, hl⟩, hin, hse⟩ := cw
  obtain ⟨hx, hb, hml, ho, -⟩ := S
  obtain ⟨-, ⟨cellB, hcB, hoB, hclB⟩, hPc⟩ := hp
  intro T hT X
  rcases vx_callV X hx (C := C) (bytes := bytes) (maxL := maxL) (ret := ret) ho hl hin hse hcode hy hK (by rw [hT]; exact hcB) hoB hclB hg (hsize.trans hml.symm) (argsL := As) (rest := rest) (fun sig h => hn.trans (hlen sig h)) hstack hW (by rw [hb]; exact hdg)
    (fun vm₁ hW₁ => ⟨hf.1, hf.2, hPc (T.setVm vm₁) hT hW₁⟩) with ⟨v, vm₁, ⟨U', l2, c2, s2⟩, hW₁, X', ⟨g', mk, t, L, e1, e2, hq, h1, hL, h2, h3⟩, st⟩ | ⟨q, vm₁, ⟨U', l2, c2, s2⟩, hW₁, X', ⟨g', mk, t, L, E, ce, e1, e2, hq, hce, hcv, hcl, h1, hL, h2, h3⟩, st⟩
  · dsimp only [Pt.U, Pt.locs, Pt.cells, Pt.slots] at X' e1 e2 h1 h2 h3 st
    subst h1; subst h2; subst h3
    exact Or.inl ⟨v, (T.setVm vm₁).calling g' mk (Value.ref b :: As).toArray, t, U', L, hT, X', hL, e1, e2, hq, st⟩
  · dsimp only [Pt.U, Pt.locs, Pt.cells, Pt.slots] at X' e1 e2 h1 h2 h3 st hcl
    subst h1; subst h2; subst h3
    exact Or.inr ⟨q, (T.setVm vm₁).calling g' mk (Value.ref b :: As).toArray, t, U', L, E, ce, hT, X', hL, e1, e2, hq, hce, hcv, vx_cls hW₁ hcl, st⟩
theorem vx_runS (S : CallFix p m c cc nL s args Ts own) (hM : vx_Met l y ws rm Pc Qc XC mc ms free) (cw : CallB R s args own index y bytes maxL ret ws rm mc ms n ∧ (Cond.static y).before args s = true) (hp : PreS s H Pc As)
    (hg : g.method = m) (hn : As.length = n) (hsize : g.locals.size = nL) (hstack : g.stack = As.reverse ++ rest) (hW : 2 * g.monitorRoom + (rest.map fun v => v.category).sum ≤ 8) (hdg : decode cc g.pc = .ok (.invokestatic index, 3)) (hf : cells + mc ≤ R.cells ∧ slots + ms ≤ R.slots) :
    vx_Run p l e R s m args below meth c H locs cells slots mc ms g rest (Qc As.toArray) XC free := by
  have hK : vx_Back l R p e below s args y 3 8 (PreOf R mc ms Pc) (PostOf Qc mc ms free) (vx_Post XC mc ms free) := vx_callBack cw.1 hM hp.1
  obtain ⟨⟨-, -, -, -, -, -, hcode, hini, hy, hlen, hl⟩, hstt⟩ := cw
  obtain ⟨hx, hb, hml, ho, -⟩ := S
  intro T hT X
  rcases vx_callS X hx (bytes := bytes) (maxL := maxL) (ret := ret) ho hl hstt hini hcode hy hK hg (hsize.trans hml.symm) (argsL := As) (rest := rest) (fun sig h => hn.trans (hlen sig h)) hstack hW (by rw [hb]; exact hdg)
    (fun vm₁ hW₁ => ⟨hf.1, hf.2, hp.2 (T.setVm vm₁) hT hW₁⟩) with ⟨v, vm₁, ⟨U', l2, c2, s2⟩, hW₁, X', ⟨g', mk, t, L, e1, e2, hq, h1, hL, h2, h3⟩, st⟩ | ⟨q, vm₁, ⟨U', l2, c2, s2⟩, hW₁, X', ⟨g', mk, t, L, E, ce, e1, e2, hq, hce, hcv, hcl, h1, hL, h2, h3⟩, st⟩
  · dsimp only [Pt.U, Pt.locs, Pt.cells, Pt.slots] at X' e1 e2 h1 h2 h3 st
    subst h1; subst h2; subst h3
    exact Or.inl ⟨v, (T.setVm vm₁).calling g' mk As.toArray, t, U', L, hT, X', hL, e1, e2, hq, st⟩
  · dsimp only [Pt.U, Pt.locs, Pt.cells, Pt.slots] at X' e1 e2 h1 h2 h3 st hcl
    subst h1; subst h2; subst h3
    exact Or.inr ⟨q, (T.setVm vm₁).calling g' mk As.toArray, t, U', L, E, ce, hT, X', hL, e1, e2, hq, hce, hcv, vx_cls hW₁ hcl, st⟩
end Runs
section Rows
variable {p : Program} {l : Launch} {e : Env} {R : Room} {s : State} {m : MethodId} {args : Array Value} {below : List Frame} {meth : Method} {c : Code} {H : Heap} {locs : List Loc} {cells slots : Nat} {Q : State → Prop}
variable {mc ms : Nat} {free : Addr → Prop} {A0 A1 : Nat → Prop} {H0 : Heap} {a : Array Value} {pc : Nat} {ls : Array Slot} {st0 rest : List Value}
theorem vx_keep {st₀ t T' : State} {L : List Loc} (h0 : st₀.heap = H) (e1 : T'.heap = t.heap) (hS : va_S A0 H0 H locs) (hA : ∀ q, q < H.size → A1 q → A0 q) (hf : ∀ q, free q → A0 q) (hL : ∀ q ∈ L, free q.base) (hF : va_F A1 st₀ t) :
    H.size ≤ T'.heap.size ∧ (∀ q : Nat, q < H.size → ¬ A1 q → T'.heap[q]? = H[q]?) ∧ va_S A0 H0 T'.heap (locs ++ L) := by
  obtain ⟨hz, hk⟩ := hF
  rw [h0] at hz hk
  exact ⟨by rw [e1]; exact hz, fun q h1 h2 => by rw [e1]; exact hk q h1 h2,
    ⟨Nat.le_trans hS.1 (by rw [e1]; exact hz), fun q h1 h2 => by rw [e1, hk q (Nat.lt_of_lt_of_le h1 hS.1) (fun z => h2 (hA q (Nat.lt_of_lt_of_le h1 hS.1) z))]; exact hS.2.1 q h1 h2, fun q hq => by
      rcases List.mem_append.mp hq with h | h
      · exact hS.2.2 q h
      · exact hf _ (hL q h)⟩⟩
theorem vx_calli {S SX : Type} {post : Int32 → S → Prop} {px : SX → Prop} {B : S → State → Prop} {BX : String → SX → State → Prop} {AX : Nat → Prop} (hr : vx_Run p l e R s m args below meth c H locs cells slots mc ms (F0 m pc ls st0) rest (va_Qi post B A1 a) (vx_X px BX AX) free) (hS : va_S A0 H0 H locs) (hA : ∀ q, q < H.size → A1 q → A0 q) (hf : ∀ q, free q → A0 q) (hAX : ∀ q, q < H.size → AX q → A0 q)
    (kx : ∀ (E : String) (ce : Cell) (q9 : Addr) (u : SX) (t : State) (H1 : Heap) (locs1 : List Loc), t.heap = H1 → s.vm.Alike t.vm → px u → BX E u t → H.size ≤ H1.size → (∀ q : Nat, q < H.size → ¬ AX q → H1[q]? = H[q]?) → va_S A0 H0 H1 locs1 → H1[q9]? = some ce → ce.vm = .none → s.vm.findClass E = some ce.cls → vx_W p l e R s m args below meth c H1 locs1 (cells + mc) (slots + ms) Q (F0 m pc ls rest) q9)
    (kk : ∀ (r : Int32) (u : S) (t : State) (H1 : Heap) (locs1 : List Loc), t.heap = H1 → s.vm.Alike t.vm → post r u → B u t → H.size ≤ H1.size → (∀ q : Nat, q < H.size → ¬ A1 q → H1[q]? = H[q]?) → va_S A0 H0 H1 locs1 → W p l e R s m args below meth c H1 locs1 (cells + mc) (slots + ms) Q (F0 m (pc + 3) ls (.int r :: rest))) : W p l e R s m args below meth c H locs cells slots Q (F0 m pc ls st0) := by
  intro T hT X
  rcases hr T hT X with ⟨v, st₀, t, T', L, h0, X', hL, e1, e2, ⟨⟨r, u, hv, hp, hb⟩, hF⟩, st⟩ | ⟨q, st₀, t, T', L, E, ce, h0, X', hL, e1, e2, ⟨u, hp, hb, hF⟩, hce, hcv, hcl, st⟩
  · cases hv
    obtain ⟨k1, k2, k3⟩ := vx_keep h0 e1 hS hA hf hL hF
    obtain ⟨t2, a1, b1⟩ := kk r u t T'.heap (locs ++ L) e1.symm (by rw [← e2]; exact X'.warmed.alike) hp hb k1 k2 k3 T' rfl X'
    exact ⟨t2, st t2 a1, b1⟩
  · obtain ⟨k1, k2, k3⟩ := vx_keep h0 e1 hS hAX hf hL hF
    obtain ⟨t2, a1, b1⟩ := kx E ce q u t T'.heap (locs ++ L) e1.symm (by rw [← e2]; exact X'.warmed.alike) hp hb k1 k2 k3 (by rw [e1]; exact hce) hcv hcl T' rfl X'
    exact ⟨t2, st.trans a1, b1⟩
theorem vx_calll {S SX : Type} {post : Int64 → S → Prop} {px : SX → Prop} {B : S → State → Prop} {BX : String → SX → State → Prop} {AX : Nat → Prop} (hr : vx_Run p l e R s m args below meth c H locs cells slots mc ms (F0 m pc ls st0) rest (va_Ql post B A1 a) (vx_X px BX AX) free) (hS : va_S A0 H0 H locs) (hA : ∀ q, q < H.size → A1 q → A0 q) (hf : ∀ q, free q → A0 q) (hAX : ∀ q, q < H.size → AX q → A0 q)
    (kx : ∀ (E : String) (ce : Cell) (q9 : Addr) (u : SX) (t : State) (H1 : Heap) (locs1 : List Loc), t.heap = H1 → s.vm.Alike t.vm → px u → BX E u t → H.size ≤ H1.size → (∀ q : Nat, q < H.size → ¬ AX q → H1[q]? = H[q]?) → va_S A0 H0 H1 locs1 → H1[q9]? = some ce → ce.vm = .none → s.vm.findClass E = some ce.cls → vx_W p l e R s m args below meth c H1 locs1 (cells + mc) (slots + ms) Q (F0 m pc ls rest) q9)
    (kk : ∀ (r : Int64) (u : S) (t : State) (H1 : Heap) (locs1 : List Loc), t.heap = H1 → s.vm.Alike t.vm → post r u → B u t → H.size ≤ H1.size → (∀ q : Nat, q < H.size → ¬ A1 q → H1[q]? = H[q]?) → va_S A0 H0 H1 locs1 → W p l e R s m args below meth c H1 locs1 (cells + mc) (slots + ms) Q (F0 m (pc + 3) ls (.long r :: rest))) : W p l e R s m args below meth c H locs cells slots Q (F0 m pc ls st0) := by
  intro T hT X
  rcases hr T hT X with ⟨v, st₀, t, T', L, h0, X', hL, e1, e2, ⟨⟨r, u, hv, hp, hb⟩, hF⟩, st⟩ | ⟨q, st₀, t, T', L, E, ce, h0, X', hL, e1, e2, ⟨u, hp, hb, hF⟩, hce, hcv, hcl, st⟩
  · cases hv
    obtain ⟨k1, k2, k3⟩ := vx_keep h0 e1 hS hA hf hL hF
    obtain ⟨t2, a1, b1⟩ := kk r u t T'.heap (locs ++ L) e1.symm (by rw [← e2]; exact X'.warmed.alike) hp hb k1 k2 k3 T' rfl X'
    exact ⟨t2, st t2 a1, b1⟩
  · obtain ⟨k1, k2, k3⟩ := vx_keep h0 e1 hS hAX hf hL hF
    obtain ⟨t2, a1, b1⟩ := kx E ce q u t T'.heap (locs ++ L) e1.symm (by rw [← e2]; exact X'.warmed.alike) hp hb k1 k2 k3 (by rw [e1]; exact hce) hcv hcl T' rfl X'
    exact ⟨t2, st.trans a1, b1⟩
theorem vx_callf {S SX : Type} {post : UInt32 → S → Prop} {px : SX → Prop} {B : S → State → Prop} {BX : String → SX → State → Prop} {AX : Nat → Prop} (hr : vx_Run p l e R s m args below meth c H locs cells slots mc ms (F0 m pc ls st0) rest (va_Qf post B A1 a) (vx_X px BX AX) free) (hS : va_S A0 H0 H locs) (hA : ∀ q, q < H.size → A1 q → A0 q) (hf : ∀ q, free q → A0 q) (hAX : ∀ q, q < H.size → AX q → A0 q)
    (kx : ∀ (E : String) (ce : Cell) (q9 : Addr) (u : SX) (t : State) (H1 : Heap) (locs1 : List Loc), t.heap = H1 → s.vm.Alike t.vm → px u → BX E u t → H.size ≤ H1.size → (∀ q : Nat, q < H.size → ¬ AX q → H1[q]? = H[q]?) → va_S A0 H0 H1 locs1 → H1[q9]? = some ce → ce.vm = .none → s.vm.findClass E = some ce.cls → vx_W p l e R s m args below meth c H1 locs1 (cells + mc) (slots + ms) Q (F0 m pc ls rest) q9)
    (kk : ∀ (r : UInt32) (u : S) (t : State) (H1 : Heap) (locs1 : List Loc), t.heap = H1 → s.vm.Alike t.vm → post r u → B u t → H.size ≤ H1.size → (∀ q : Nat, q < H.size → ¬ A1 q → H1[q]? = H[q]?) → va_S A0 H0 H1 locs1 → W p l e R s m args below meth c H1 locs1 (cells + mc) (slots + ms) Q (F0 m (pc + 3) ls (.float r :: rest))) : W p l e R s m args below meth c H locs cells slots Q (F0 m pc ls st0) := by
  intro T hT X
  rcases hr T hT X with ⟨v, st₀, t, T', L, h0, X', hL, e1, e2, ⟨⟨r, u, hv, hp, hb⟩, hF⟩, st⟩ | ⟨q, st₀, t, T', L, E, ce, h0, X', hL, e1, e2, ⟨u, hp, hb, hF⟩, hce, hcv, hcl, st⟩
  · cases hv
    obtain ⟨k1, k2, k3⟩ := vx_keep h0 e1 hS hA hf hL hF
    obtain ⟨t2, a1, b1⟩ := kk r u t T'.heap (locs ++ L) e1.symm (by rw [← e2]; exact X'.warmed.alike) hp hb k1 k2 k3 T' rfl X'
    exact ⟨t2, st t2 a1, b1⟩
  · obtain ⟨k1, k2, k3⟩ := vx_keep h0 e1 hS hAX hf hL hF
    obtain ⟨t2, a1, b1⟩ := kx E ce q u t T'.heap (locs ++ L) e1.symm (by rw [← e2]; exact X'.warmed.alike) hp hb k1 k2 k3 (by rw [e1]; exact hce) hcv hcl T' rfl X'
    exact ⟨t2, st.trans a1, b1⟩
theorem vx_calld {S SX : Type} {post : UInt64 → S → Prop} {px : SX → Prop} {B : S → State → Prop} {BX : String → SX → State → Prop} {AX : Nat → Prop} (hr : vx_Run p l e R s m args below meth c H locs cells slots mc ms (F0 m pc ls st0) rest (va_Qd post B A1 a) (vx_X px BX AX) free) (hS : va_S A0 H0 H locs) (hA : ∀ q, q < H.size → A1 q → A0 q) (hf : ∀ q, free q → A0 q) (hAX : ∀ q, q < H.size → AX q → A0 q)
    (kx : ∀ (E : String) (ce : Cell) (q9 : Addr) (u : SX) (t : State) (H1 : Heap) (locs1 : List Loc), t.heap = H1 → s.vm.Alike t.vm → px u → BX E u t → H.size ≤ H1.size → (∀ q : Nat, q < H.size → ¬ AX q → H1[q]? = H[q]?) → va_S A0 H0 H1 locs1 → H1[q9]? = some ce → ce.vm = .none → s.vm.findClass E = some ce.cls → vx_W p l e R s m args below meth c H1 locs1 (cells + mc) (slots + ms) Q (F0 m pc ls rest) q9)
    (kk : ∀ (r : UInt64) (u : S) (t : State) (H1 : Heap) (locs1 : List Loc), t.heap = H1 → s.vm.Alike t.vm → post r u → B u t → H.size ≤ H1.size → (∀ q : Nat, q < H.size → ¬ A1 q → H1[q]? = H[q]?) → va_S A0 H0 H1 locs1 → W p l e R s m args below meth c H1 locs1 (cells + mc) (slots + ms) Q (F0 m (pc + 3) ls (.double r :: rest))) : W p l e R s m args below meth c H locs cells slots Q (F0 m pc ls st0) := by
  intro T hT X
  rcases hr T hT X with ⟨v, st₀, t, T', L, h0, X', hL, e1, e2, ⟨⟨r, u, hv, hp, hb⟩, hF⟩, st⟩ | ⟨q, st₀, t, T', L, E, ce, h0, X', hL, e1, e2, ⟨u, hp, hb, hF⟩, hce, hcv, hcl, st⟩
  · cases hv
    obtain ⟨k1, k2, k3⟩ := vx_keep h0 e1 hS hA hf hL hF
    obtain ⟨t2, a1, b1⟩ := kk r u t T'.heap (locs ++ L) e1.symm (by rw [← e2]; exact X'.warmed.alike) hp hb k1 k2 k3 T' rfl X'
    exact ⟨t2, st t2 a1, b1⟩
  · obtain ⟨k1, k2, k3⟩ := vx_keep h0 e1 hS hAX hf hL hF
    obtain ⟨t2, a1, b1⟩ := kx E ce q u t T'.heap (locs ++ L) e1.symm (by rw [← e2]; exact X'.warmed.alike) hp hb k1 k2 k3 (by rw [e1]; exact hce) hcv hcl T' rfl X'
    exact ⟨t2, st.trans a1, b1⟩
theorem vx_callv {S SX : Type} {post : S → Prop} {px : SX → Prop} {B : S → State → Prop} {BX : String → SX → State → Prop} {AX : Nat → Prop} (hr : vx_Run p l e R s m args below meth c H locs cells slots mc ms (F0 m pc ls st0) rest (va_Qv post B A1 a) (vx_X px BX AX) free) (hS : va_S A0 H0 H locs) (hA : ∀ q, q < H.size → A1 q → A0 q) (hf : ∀ q, free q → A0 q) (hAX : ∀ q, q < H.size → AX q → A0 q)
    (kx : ∀ (E : String) (ce : Cell) (q9 : Addr) (u : SX) (t : State) (H1 : Heap) (locs1 : List Loc), t.heap = H1 → s.vm.Alike t.vm → px u → BX E u t → H.size ≤ H1.size → (∀ q : Nat, q < H.size → ¬ AX q → H1[q]? = H[q]?) → va_S A0 H0 H1 locs1 → H1[q9]? = some ce → ce.vm = .none → s.vm.findClass E = some ce.cls → vx_W p l e R s m args below meth c H1 locs1 (cells + mc) (slots + ms) Q (F0 m pc ls rest) q9)
    (kk : ∀ (u : S) (t : State) (H1 : Heap) (locs1 : List Loc), t.heap = H1 → s.vm.Alike t.vm → post u → B u t → H.size ≤ H1.size → (∀ q : Nat, q < H.size → ¬ A1 q → H1[q]? = H[q]?) → va_S A0 H0 H1 locs1 → W p l e R s m args below meth c H1 locs1 (cells + mc) (slots + ms) Q (F0 m (pc + 3) ls (rest))) : W p l e R s m args below meth c H locs cells slots Q (F0 m pc ls st0) := by
  intro T hT X
  rcases hr T hT X with ⟨v, st₀, t, T', L, h0, X', hL, e1, e2, ⟨⟨u, hv, hp, hb⟩, hF⟩, st⟩ | ⟨q, st₀, t, T', L, E, ce, h0, X', hL, e1, e2, ⟨u, hp, hb, hF⟩, hce, hcv, hcl, st⟩
  · cases hv
    obtain ⟨k1, k2, k3⟩ := vx_keep h0 e1 hS hA hf hL hF
    obtain ⟨t2, a1, b1⟩ := kk u t T'.heap (locs ++ L) e1.symm (by rw [← e2]; exact X'.warmed.alike) hp hb k1 k2 k3 T' rfl X'
    exact ⟨t2, st t2 a1, b1⟩
  · obtain ⟨k1, k2, k3⟩ := vx_keep h0 e1 hS hAX hf hL hF
    obtain ⟨t2, a1, b1⟩ := kx E ce q u t T'.heap (locs ++ L) e1.symm (by rw [← e2]; exact X'.warmed.alike) hp hb k1 k2 k3 (by rw [e1]; exact hce) hcv hcl T' rfl X'
    exact ⟨t2, st.trans a1, b1⟩
/-- caught by the row x of this method's table; the rows ahead don't take it -/
theorem vx_catch {own name : String} {E : String} {ce : Cell} {q : Addr} (hown : s.vm.findClass own = some m.cls) (pre : List ExceptionTableEntry) (x : ExceptionTableEntry) (suf : List ExceptionTableEntry) (hsplit : c.exceptionTable.toList = pre ++ x :: suf)
    (hpass : ∀ z ∈ pre, covers z pc = false ∨ (z.catchType ≠ 0 ∧ ∃ nm : String, (Cond.classLink own z.catchType nm).before args s = true ∧ va_Nc E nm s)) (hx : covers x pc = true) (h0 : x.catchType ≠ 0)
    (hlink : (Cond.classLink own x.catchType name).before args s = true) (hcast : (Cond.castable E name).before args s = true) (hcell : H[q]? = some ce) (hv : ce.vm = .none) (hcl : s.vm.findClass E = some ce.cls)
    (kk : W p l e R s m args below meth c H locs cells slots Q (F0 m x.handlerPc ls [.ref q])) : vx_W p l e R s m args below meth c H locs cells slots Q (F0 m pc ls rest) q := by
  intro T hT X
  have hpl : e.platform.magicAccessors = ({} : Platform).magicAccessors := by rw [X.admits.platform]
  obtain ⟨c3, c4, hc3, hc4, hasg⟩ := Cond.castable_spec hcast
  cases Option.some.inj (hc3.symm.trans hcl)
  obtain ⟨c5, hc5, hcl5⟩ := Cond.classLink_spec hown hlink e.platform hpl
  cases Option.some.inj (hc4.symm.trans hc5)
  obtain ⟨vm', X', st⟩ := X.thenCaughtThrough q (g := F0 m pc ls rest) rfl (Steps.refl _) (by rw [hT]; exact hcell) (by rw [hv]; rfl) (by obtain ⟨k9, h9, -⟩ := Vm.findClass_spec hcl; exact ⟨k9, h9⟩) pre x suf hsplit
    (fun z hz => by
      rcases hpass z hz with h | ⟨hz0, nm, hl1, hn1⟩
      · exact Or.inl h
      · obtain ⟨c6, hc6, hcl6⟩ := Cond.classLink_spec hown hl1 e.platform hpl
        obtain ⟨a8, b8, h1, h2, h3⟩ := hn1
        cases Option.some.inj (h1.symm.trans hcl)
        cases Option.some.inj (h2.symm.trans hc6)
        exact Or.inr ⟨hz0, _, hcl6, h3⟩) hx (Or.inr ⟨h0, c4, hcl5, hasg⟩)
  obtain ⟨t, a1, b1⟩ := kk (T.setVm vm') hT X'
  exact ⟨t, st.trans a1, b1⟩
end Rows
section Ends
variable {p : Program} {l : Launch} {e : Env} {R : Room} {s : State} {m : MethodId} {args : Array Value} {below : List Frame} {meth : Method} {c : Code} {H : Heap} {locs : List Loc} {cells slots : Nat} {Q : State → Prop}
variable {mc ms : Nat} {free : Addr → Prop} {A0 A1 : Nat → Prop} {H0 : Heap} {a : Array Value} {ls : Array Slot} {st0 rest : List Value}
variable {Qc : Array Value → State → Outcome → State → Prop} {XC : String → State → State → Prop}
/-- what a body that may throw owes at its end -/
def vx_MQ (below : List Frame) (Qc : Array Value → State → Outcome → State → Prop) (XC : String → State → State → Prop) (a : Array Value) (s : State) (mc ms : Nat) (free : Addr → Prop) : State → Prop := fun t =>
  ∃ o, t.status = .running ∧ Ended t below o ∧ vx_Q Qc XC mc ms free a s o t
theorem vx_ret {g : JFrame} {mc ms : Nat} (k : W p l e R s m args below meth c H locs cells slots (MQ below Qc args s mc ms free) g) : W p l e R s m args below meth c H locs cells slots (vx_MQ below Qc XC args s mc ms free) g := by
  intro T hT X
  obtain ⟨t, a1, o, b1, b2, b3, b4⟩ := k T hT X
  exact ⟨t, a1, o, b1, b2, Or.inl ⟨b3, b4⟩⟩
/-- not caught here: it goes on to the caller -/
theorem vx_widen {g : JFrame} {q : Addr} {k n : Nat} (h1 : cells ≤ k) (h2 : slots ≤ n) (kk : vx_W p l e R s m args below meth c H locs k n Q g q) : vx_W p l e R s m args below meth c H locs cells slots Q g q := fun T hT X => kk T hT (stand_widen X h1 h2)
theorem vx_out {pc : Nat} {E : String} {ce : Cell} {q : Addr} {mc ms : Nat} (hout : ∀ x ∈ c.exceptionTable.toList, covers x pc = false) (hlocks : meth.locks = false) (hcell : H[q]? = some ce) (hv : ce.vm = .none) (hcl : s.vm.findClass E = some ce.cls)
    (hx : ∀ t : State, t.heap = H → s.vm.Alike t.vm → XC E s t) (hf : ∀ z ∈ locs, free z.base) (hc : cells ≤ mc) (hs : slots ≤ ms) :
    vx_W p l e R s m args below meth c H locs cells slots (vx_MQ below Qc XC args s mc ms free) (F0 m pc ls rest) q := by
  intro T hT X
  obtain ⟨st1, hrun, hend, hW, hsm⟩ := X.leaveThrown q (g := F0 m pc ls rest) rfl rfl rfl hout hlocks
  have hcell9 : (T.setFrames (.throwing q :: below)).heap[q]? = some ce := by
    show T.heap[q]? = some ce
    rw [hT]; exact hcell
  exact ⟨_, st1, .threw q, hrun, hend, Or.inr ⟨q, rfl, E, ce, locs, hx _ hT hW.alike, hcell9, hv, hcl, hW, hsm.mono hc hs, hf⟩⟩
theorem vx_frame {U : State} {k n : Nat} (h : s.sameButNew ({ U with vm := s.vm } : State) locs k n) : s.heap.size ≤ U.heap.size ∧ ∀ q : Nat, q < s.heap.size → (∀ z ∈ locs, z.base ≠ q) → U.heap[q]? = s.heap[q]? := by
  obtain ⟨-, h2, -, -, -, h6⟩ := h
  refine ⟨h2, fun q hq hz => ?_⟩
  obtain ⟨c9, e1, e2, e3, e4⟩ := h6 q _ (Array.getElem?_eq_getElem hq)
  have hs : c9.slots = (s.heap[q]).slots := Array.ext_getElem? fun i => e4 i fun hm => hz _ hm rfl
  have h9 : c9 = s.heap[q] := by
    rw [hs] at e2
    exact e2
  have e5 : U.heap[q]? = some c9 := e1
  rw [e5, h9, Array.getElem?_eq_getElem hq]
/-- the words of a throw but the four that speak of the heap -/
def vx_no (w : Cond) : Bool := decide (w ≠ .isRef (.static Bundle.tN "UNASSIGNED_STACK" Bundle.steD)) && decide (w ≠ .isRef (.static Bundle.tN "SUPPRESSED_SENTINEL" Bundle.listD)) && decide (w ≠ .laysStatic Bundle.tN "UNASSIGNED_STACK" Bundle.steD) && decide (w ≠ .laysStatic Bundle.tN "SUPPRESSED_SENTINEL" Bundle.listD)
def vx_at0 (own : String) (ic : Nat) (X : String) (names : List String) : List Cond := (Bundle.ownAtoms0 own ic X names).filter vx_no
def vx_atS (own : String) (ic : Nat) (X : String) (names : List String) : List Cond := (Bundle.ownAtoms own ic X names).filter vx_no
/-- a word that the tables alone decide, or a good one -/
def vx_ot (w : Cond) : Bool := w.onTables || goodWord w
theorem vx_ot_at {args a' : Array Value} {s U : State} {w : Cond} (hW : s.WarmedH U.vm) (hvm : s.vm = U.vm) (hg : vx_ot w = true) (h : w.before args s = true) : w.before a' U = true := by
  simp only [vx_ot, Bool.or_eq_true] at hg
  rcases hg with hg | hg
  · exact va_tabs hg hvm h
  · exact word_at hW (good_of_word hg) h
/-- a list's words: the good ones out of the method's own list, the others by premises of their own -/
theorem vx_hat {args : Array Value} {s : State} {L B : List Cond} (h1 : ∀ w ∈ L.filter goodWord, w.before args s = true) (h2 : ∀ w ∈ L.filter (fun w => !goodWord w), w ∈ B) (h3 : ∀ w ∈ B, w.before args s = true) : ∀ w ∈ L, w.before args s = true := by
  intro w hw
  by_cases g : goodWord w = true
  · exact h1 w (List.mem_filter.mpr ⟨hw, g⟩)
  · refine h3 w (h2 w (List.mem_filter.mpr ⟨hw, ?_⟩))
    show (!goodWord w) = true
    cases hgw : goodWord w
    · rfl
    · exact absurd hgw g
theorem vx_c {args : Array Value} {s : State} {w : Cond} {B : List Cond} (h : w.before args s = true) (t : ∀ w ∈ B, w.before args s = true) : ∀ w' ∈ w :: B, w'.before args s = true := fun w' h' => (List.mem_cons.mp h').elim (fun e => by rw [e]; exact h) (t w')
theorem vx_n {args : Array Value} {s : State} : ∀ w ∈ ([] : List Cond), w.before args s = true := fun _ h => nomatch h
theorem vx_own {args : Array Value} {s : State} {L : List Cond} (h1 : ∀ w ∈ L.filter vx_no, w.before args s = true)
    (hU : (Cond.isRef (.static Bundle.tN "UNASSIGNED_STACK" Bundle.steD)).before args s = true) (hN : (Cond.isRef (.static Bundle.tN "SUPPRESSED_SENTINEL" Bundle.listD)).before args s = true)
    (lU : (Cond.laysStatic Bundle.tN "UNASSIGNED_STACK" Bundle.steD).before args s = true) (lN : (Cond.laysStatic Bundle.tN "SUPPRESSED_SENTINEL" Bundle.listD).before args s = true) : ∀ w ∈ L, w.before args s = true := by
  intro w hw
  by_cases e1 : w = .isRef (.static Bundle.tN "UNASSIGNED_STACK" Bundle.steD)
  · rw [e1]; exact hU
  · by_cases e2 : w = .isRef (.static Bundle.tN "SUPPRESSED_SENTINEL" Bundle.listD)
    · rw [e2]; exact hN
    · by_cases e3 : w = .laysStatic Bundle.tN "UNASSIGNED_STACK" Bundle.steD
      · rw [e3]; exact lU
      · by_cases e4 : w = .laysStatic Bundle.tN "SUPPRESSED_SENTINEL" Bundle.listD
        · rw [e4]; exact lN
        · exact h1 w (List.mem_filter.mpr ⟨hw, by unfold vx_no; rw [decide_eq_true e1, decide_eq_true e2, decide_eq_true e3, decide_eq_true e4]; rfl⟩)
/-- where a static field lies, its class's statics cell in H -/
def vx_L (C n d : String) (A : Nat → Prop) (U : State) (H : Heap) : Prop := ∃ (c : ClassId) (k : Class) (i : Nat) (f : Field) (a : Nat) (cell : Cell), U.vm.findClass C = some c ∧ U.fieldFound? C n d = some (c, k, i, f) ∧ f.isStatic = true ∧ k.statics = some a ∧ H[a]? = some cell ∧ cell.vm.isStatics = true ∧ cell.cls = c ∧ f.slot < cell.slots.size ∧ k.staticTypes[f.slot]? = some f.type ∧ ¬ A a
theorem vx_L.moved {C n d : String} {A : Nat → Prop} {u U : State} {H : Heap} (hvm : u.vm.Alike U.vm) (h : vx_L C n d A u H) : vx_L C n d A U H := by
  obtain ⟨c, k, i, f, a, cell, h1, h2, h3, h4, h5, h6, h7, h8, h9, h10⟩ := h
  obtain ⟨k', hi', he⟩ := State.fieldFound?_setVm hvm h2
  exact ⟨c, k', i, f, a, cell, by rw [hvm.findClass]; exact h1, hi', h3, by rw [he]; exact h4, h5, h6, h7, h8, by rw [he]; exact h9, h10⟩
theorem vx_L.kept {C n d : String} {A : Nat → Prop} {U : State} {H H1 : Heap} (h : vx_L C n d A U H) (hq : ∀ a : Nat, a < H.size → ¬ A a → H1[a]? = H[a]?) : vx_L C n d A U H1 := by
  obtain ⟨c, k, i, f, a, cell, h1, h2, h3, h4, h5, h6, h7, h8, h9, h10⟩ := h
  exact ⟨c, k, i, f, a, cell, h1, h2, h3, h4, by rw [hq a (Array.getElem?_eq_some_iff.mp h5).1 h10]; exact h5, h6, h7, h8, h9, h10⟩
theorem vx_L.narrow {C n d : String} {A B : Nat → Prop} {U : State} {H : Heap} (h : vx_L C n d A U H) (hAB : ∀ q, B q → A q) : vx_L C n d B U H := by
  obtain ⟨c, k, i, f, a, cell, h1, h2, h3, h4, h5, h6, h7, h8, h9, h10⟩ := h
  exact ⟨c, k, i, f, a, cell, h1, h2, h3, h4, h5, h6, h7, h8, h9, fun z => h10 (hAB _ z)⟩
theorem vx_L.word {C n d : String} {A : Nat → Prop} {s : State} {args : Array Value} (h : vx_L C n d A s s.heap) : (Cond.laysStatic C n d).before args s = true := by
  obtain ⟨c, k, i, f, a, cell, h1, h2, h3, h4, h5, h6, h7, h8, h9, -⟩ := h
  show (Cond.laysStatic C n d).holds args s none s [] = true
  exact Cond.laysStatic_of h1 h2 h3 h4 h5 h6 h7 h8 h9
/-- .. and what it holds: null or some reference -/
def vx_Zq (C n d : String) (A : Nat → Prop) (U : State) (H : Heap) : Prop := va_Zq C n d A U H ∧ vx_L C n d A U H
theorem vx_Zq.moved {C n d : String} {A : Nat → Prop} {u U : State} {H : Heap} (hvm : u.vm.Alike U.vm) (h : vx_Zq C n d A u H) : vx_Zq C n d A U H := ⟨va_Zq.moved hvm h.1, vx_L.moved hvm h.2⟩
theorem vx_Zq.kept {C n d : String} {A : Nat → Prop} {U : State} {H H1 : Heap} (h : vx_Zq C n d A U H) (hq : ∀ a : Nat, a < H.size → ¬ A a → H1[a]? = H[a]?) : vx_Zq C n d A U H1 := ⟨va_Zq.kept h.1 hq, vx_L.kept h.2 hq⟩
theorem vx_Zq.narrow {C n d : String} {A B : Nat → Prop} {U : State} {H : Heap} (h : vx_Zq C n d A U H) (hAB : ∀ q, B q → A q) : vx_Zq C n d B U H := ⟨va_Zq.narrow h.1 hAB, vx_L.narrow h.2 hAB⟩
theorem vx_Zqof {args : Array Value} {s : State} {C n d : String} {A : Nat → Prop} (hl : (Cond.laysStatic C n d).before args s = true) (hini : (Cond.initialized C).before args s = true) (h : (Cond.isRef (.static C n d)).before args s = true) (hA : ∀ a : Nat, a < s.heap.size → ¬ A a) : vx_Zq C n d A s s.heap := by
  refine ⟨va_Zqof hl hini h hA, ?_⟩
  obtain ⟨c, k, i, f, a, cell, h1, h2, h3, h4, h5, h6, h7, h8, h9⟩ := Cond.laysStatic_spec hl
  exact ⟨c, k, i, f, a, cell, h1, h2, h3, h4, h5, h6, h7, h8, h9, hA a (Array.getElem?_eq_some_iff.mp h5).1⟩
theorem vx_isRef {C n d : String} {v : Value} {A : Nat → Prop} {s : State} {args : Array Value} (h : va_Z C n d v A s s.heap) (hv : v.isRef = true) : (Cond.isRef (.static C n d)).before args s = true := by
  obtain ⟨cf, kf, fi, f, a, cell, h1, h2, h3, h4, h5, h6, h7, -⟩ := h
  have he : (Term.static C n d).eval args s none [] s = some v := by
    simp [Term.eval, State.fieldNamed?, h1, h2, h4, h5, h6, h7]
  simp only [Cond.before, Cond.holds, Cond.value, he]
  cases v <;> simp_all [Value.isRef]
theorem vx_isRefq {C n d : String} {A : Nat → Prop} {s : State} {args : Array Value} (h : va_Zq C n d A s s.heap) : (Cond.isRef (.static C n d)).before args s = true := by
  rcases h with h | ⟨t, h⟩
  · exact vx_isRef h rfl
  · exact vx_isRef h rfl
/-- the same frame, seen from here: as if the method were called anew in this heap -/
theorem vx_rebase {T : State} (X : Stand p l e R s m args below meth c T locs cells slots) {R' : Room} (hf : R'.frames ≤ R.frames) (hl : R'.locals ≤ R.locals) (hc : cells + R'.cells ≤ R.cells) (hs : slots + R'.slots ≤ R.slots) :
    Stand p l e R' ((T.setVm s.vm).setFrames (.invoking m args :: below)) m args below meth c T [] 0 0 := by
  have htop : (T.setVm s.vm).topJava?.isSome := X.here.top
  have hF : ((T.setVm s.vm).setFrames (.invoking m args :: below)).frames = .invoking m args :: below := State.frames_setFrames _ (State.cur_lt_of_top htop)
  obtain ⟨g₀, hg0⟩ := Option.isSome_iff_exists.mp htop
  obtain ⟨r, hr⟩ := State.topJava?_eq_some.mp hg0
  have hl9 : e.platform.stackLimits (T.setVm s.vm).me = e.platform.stackLimits s.me := X.limits
  have hb9 : (T.setVm s.vm).me.stackBytes = s.me.stackBytes := X.bytes
  refine ⟨X.admits, X.cas, X.clock, hF, ?_, X.hears, X.method, X.code, X.here, X.tail, X.warmed, ?_, ?_, ?_⟩
  · have h := X.room
    have hU : ((T.setVm s.vm).setFrames (.invoking m args :: below)).localsInUse = s.localsInUse := by
      rw [State.localsInUse_invoking hF (meth := meth) (c := c) X.method X.code, State.localsInUse_invoking X.frames X.method X.code]
    simp only [State.hasRoom, Bool.and_eq_true, decide_eq_true_eq] at h ⊢
    obtain ⟨⟨⟨⟨h1, h2, h3, h4, h5, h6⟩, h7⟩, h8⟩, h9⟩ := h
    rw [X.frames, List.length_cons] at h2 h3
    have q1 := X.heapSize
    have q2 := X.used
    simp only [hF, hU, List.length_cons, State.stackLimits_setFrames, State.stackBytes_setFrames, hl9, hb9]
    refine ⟨⟨⟨⟨by omega, by omega, by omega, by omega, by omega, h6⟩, ?_⟩, ?_⟩, X.book⟩
    · show T.heap.size + R'.cells ≤ e.platform.maxCells
      omega
    · show T.slotsUsed + R'.slots ≤ e.platform.maxSlots
      omega
  · rw [State.stackLimits_setFrames]; rfl
  · rw [State.stackBytes_setFrames]; rfl
  · refine ⟨?_, Nat.le_refl _, Nat.le_refl _, ?_, ?_, fun a c9 h9 => ⟨c9, h9, rfl, rfl, fun _ _ => rfl⟩⟩
    · obtain ⟨t, ht, -⟩ := State.frames_cons hr
      show T.setVm s.vm = { ((T.setVm s.vm).setFrames (.invoking m args :: below)).setFrames (T.setVm s.vm).frames with heap := T.heap, slotsUsed := T.slotsUsed }
      rw [State.setFrames_setFrames, State.setFrames_self ht]
      rfl
    · show T.slotsUsed = T.slotsUsed + ((T.heap.toList.drop T.heap.size).map (·.slots.size)).sum
      rw [List.drop_eq_nil_of_le (Nat.le_of_eq Array.length_toList)]
      rfl
    · show ((T.heap.toList.drop T.heap.size).map (·.slots.size)).sum ≤ 0
      rw [List.drop_eq_nil_of_le (Nat.le_of_eq Array.length_toList)]
      exact Nat.le_refl _
/-- 'throw new E()': new; dup; invokespecial; athrow -/
theorem vx_throw0 {cc : ByteArray} {pc : Nat} (hexec : p.tables.exec = Jvm.exec) (hb : c.code = cc) (hl : l.stackTraces = false) {own cls : String} {names : List String} {ik ic mc ms : Nat} {A : Nat → Prop}
    (hown : s.vm.findClass own = some m.cls) (hcls : Bundle.fit cls = true) (hnames : ∀ n ∈ names, Bundle.fit n = true)
    (hk : (Cond.classLink own ik cls).before args s = true) (hini : (Cond.initialized cls).before args s = true) (hat : ∀ w ∈ vx_at0 own ic cls names, w.before args s = true)
    (hgood : ∀ w ∈ Cond.classLink own ik cls :: Cond.initialized cls :: vx_at0 own ic cls names, vx_ot w = true)
    (hU : vx_Zq Bundle.tN "UNASSIGNED_STACK" Bundle.steD A s s.heap) (hN : vx_Zq Bundle.tN "SUPPRESSED_SENTINEL" Bundle.listD A s s.heap) (hS : va_S A s.heap H locs) (hsize : ls.size = c.maxLocals)
    (d0 : decode cc pc = .ok (.new ik, 3)) (d3 : decode cc (pc + 3) = .ok (.dup, 1)) (d4 : decode cc (pc + 4) = .ok (.invokespecial ic, 3)) (d7 : decode cc (pc + 7) = .ok (.athrow, 1))
    (hout : ∀ x ∈ c.exceptionTable.toList, covers x (pc + 7) = false)
    (hRframes : names.length + 3 < R.frames) (hRlocals : (rest.map fun v => v.category).sum + (13 * (names.length + 1) + 42) ≤ R.locals) (hRcells : cells + 1 ≤ R.cells) (hRslots : slots + 6 ≤ R.slots) (hlocks : meth.locks = false)
    (hx : ∀ t : State, s.vm.Alike t.vm → H.size ≤ t.heap.size → (∀ q : Nat, q < H.size → t.heap[q]? = H[q]?) → XC cls s t)
    (hf : ∀ z ∈ locs, free z.base) (hc : cells + 1 ≤ mc) (hs : slots + 6 ≤ ms) :
    W p l e R s m args below meth c H locs cells slots (vx_MQ below Qc XC args s mc ms free) (F0 m pc ls rest) := by
  intro T hT X
  have htr : e.platform.stackTraces = false := (show e.platform.stackTraces = l.stackTraces by rw [X.admits.platform]).trans hl
  have Y := vx_rebase X (R' := { frames := R.frames, locals := R.locals, cells := 1, slots := 6 }) (Nat.le_refl _) (Nat.le_refl _) hRcells hRslots
  obtain ⟨s', hA⟩ : ∃ z, z = (T.setVm s.vm).setFrames (.invoking m args :: below) := ⟨_, rfl⟩
  rw [← hA] at Y
  have hvm : s'.vm = s.vm := by rw [hA]; rfl
  have hhp : s'.heap = H := by rw [hA]; exact hT
  have hW0 : s.WarmedH s'.vm := by rw [hvm]; exact State.WarmedH.refl s
  have hat' : ∀ w ∈ vx_at0 own ic cls names, w.before args s' = true := fun w hw => vx_ot_at hW0 hvm.symm (hgood w (List.mem_cons_of_mem _ (List.mem_cons_of_mem _ hw))) (hat w hw)
  have hk' : (Cond.classLink own ik cls).before args s' = true := vx_ot_at hW0 hvm.symm (hgood _ List.mem_cons_self) hk
  have hini' : (Cond.initialized cls).before args s' = true := vx_ot_at hW0 hvm.symm (hgood _ (List.mem_cons_of_mem _ List.mem_cons_self)) hini
  have hU' : vx_Zq Bundle.tN "UNASSIGNED_STACK" Bundle.steD A s' s'.heap := by rw [hhp]; exact vx_Zq.moved hW0.alike (hU.kept hS.2.1)
  have hN' : vx_Zq Bundle.tN "SUPPRESSED_SENTINEL" Bundle.listD A s' s'.heap := by rw [hhp]; exact vx_Zq.moved hW0.alike (hN.kept hS.2.1)
  have h : ∀ w ∈ Bundle.ownAtoms0 own ic cls names, w.before args s' = true := vx_own hat' (vx_isRefq hU'.1) (vx_isRefq hN'.1) hU'.2.word hN'.2.word
  have hown' : s'.vm.findClass own = some m.cls := by rw [hvm]; exact hown
  have hins : (Cond.instantiable cls 6).before args s' = true := h _ (by simp [Bundle.ownAtoms0])
  obtain ⟨vm₁, cX, kX, hfX, hkX, -, -, X₁, st1⟩ := Y.newCold hexec (own := own) (C := cls) (index := ik) (n := 6) hown' hk' hins hini'
    (g := F0 m pc ls rest) rfl (by rw [hb]; exact d0) (Nat.le_refl _) (Nat.le_refl _)
  generalize hT1 : (T.setVm vm₁).pushCell { cls := cX, slots := kX.instanceTypes.map defaultValue, vm := .none } = T1 at X₁ st1
  have hcat : (Value.ref T.heap.size).category = 1 := rfl
  have hcellA : T1.heap[T.heap.size]? = some (freshCell cX kX) := by rw [← hT1]; exact State.heap_pushCell_size _ _
  have d3' : decode c.code (pc + 3) = .ok (.dup, 1) := by rw [hb]; exact d3
  obtain ⟨U, hsteps, hrun, hend, hW, hsame, ce, hce, hO⟩ := X₁.ctorThrow0 hexec htr (own := own) (cls := cls) (names := names) (ic := ic) hown' hcls hnames h (fun x hx => nomatch hx) hfX hkX hcellA (by rw [hhp, hT]; exact Nat.le_refl _)
    (g := { method := m, pc := pc + 4, locals := ls, stack := .ref T.heap.size :: .ref T.heap.size :: rest, locked := none }) rfl hsize rfl rfl (rest := rest) rfl
    (by rw [hb]; exact d4) (by rw [hb]; exact d7) hout hRframes (by simp only [List.map_cons, List.sum_cons, hcat]; omega) hlocks
  obtain ⟨f1, f2⟩ := vx_frame hsame
  rw [hhp] at f1 f2
  have hWs : s.WarmedH U.vm := State.WarmedH.trans hW0 hW
  have hcl : s.vm.findClass cls = some ce.cls := by
    have h9 := hO.cls
    rw [hvm] at h9
    exact h9
  have hall : s.sameButNew ({ U with vm := s.vm } : State) locs mc ms := by
    subst hA
    obtain ⟨e1, e2⟩ := hsame
    rw [State.setFrames_setFrames] at e1
    have h2 : (T.setVm s.vm).sameButNew ({ U with vm := s.vm } : State) [] (0 + 1) (0 + 6) := ⟨e1, e2⟩
    have h3 := X.same.trans h2
    rw [List.append_nil] at h3
    exact h3.mono hc hs
  refine ⟨U, ?_, .threw T.heap.size, hrun, hend, Or.inr ⟨T.heap.size, rfl, cls, ce, locs, hx U hWs.alike f1 (fun q hq => f2 q hq (fun z hz => nomatch hz)), hce, hO.vm, hcl, hWs, hall, hf⟩⟩
  refine st1 _ ?_
  show Steps p.tables e below (T1.setTop { method := m, pc := pc + 3, locals := ls, stack := .ref T.heap.size :: rest, locked := none }) _
  jvm_step X₁.here [X₁.here.top, hexec, d3', Value.category]
  exact hsteps
/-- 'throw new E("text")': new; dup; ldc; invokespecial; athrow -/
theorem vx_throwS {cc : ByteArray} {pc : Nat} (hexec : p.tables.exec = Jvm.exec) (hb : c.code = cc) (hl : l.stackTraces = false) {own cls text : String} {names : List String} {ik is ic mc ms sa : Nat} {A : Nat → Prop}
    (hown : s.vm.findClass own = some m.cls) (hcls : Bundle.fit cls = true) (hnames : ∀ n ∈ names, Bundle.fit n = true)
    (hk : (Cond.classLink own ik cls).before args s = true) (hini : (Cond.initialized cls).before args s = true) (hstr : vk_R own is text sa s) (hat : ∀ w ∈ vx_atS own ic cls names, w.before args s = true)
    (hgood : ∀ w ∈ Cond.classLink own ik cls :: Cond.initialized cls :: vx_atS own ic cls names, vx_ot w = true)
    (hU : vx_Zq Bundle.tN "UNASSIGNED_STACK" Bundle.steD A s s.heap) (hN : vx_Zq Bundle.tN "SUPPRESSED_SENTINEL" Bundle.listD A s s.heap) (hS : va_S A s.heap H locs) (hsize : ls.size = c.maxLocals)
    (d0 : decode cc pc = .ok (.new ik, 3)) (d3 : decode cc (pc + 3) = .ok (.dup, 1)) (d4 : decode cc (pc + 4) = .ok (.ldc is, 2)) (d6 : decode cc (pc + 6) = .ok (.invokespecial ic, 3)) (d9 : decode cc (pc + 9) = .ok (.athrow, 1))
    (hout : ∀ x ∈ c.exceptionTable.toList, covers x (pc + 9) = false)
    (hRframes : names.length + 3 < R.frames) (hRlocals : (rest.map fun v => v.category).sum + (13 * (names.length + 1) + 43) ≤ R.locals) (hRcells : cells + 1 ≤ R.cells) (hRslots : slots + 6 ≤ R.slots) (hlocks : meth.locks = false)
    (hx : ∀ t : State, s.vm.Alike t.vm → H.size ≤ t.heap.size → (∀ q : Nat, q < H.size → t.heap[q]? = H[q]?) → XC cls s t)
    (hf : ∀ z ∈ locs, free z.base) (hc : cells + 1 ≤ mc) (hs : slots + 6 ≤ ms) :
    W p l e R s m args below meth c H locs cells slots (vx_MQ below Qc XC args s mc ms free) (F0 m pc ls rest) := by
  intro T hT X
  have htr : e.platform.stackTraces = false := (show e.platform.stackTraces = l.stackTraces by rw [X.admits.platform]).trans hl
  have Y := vx_rebase X (R' := { frames := R.frames, locals := R.locals, cells := 1, slots := 6 }) (Nat.le_refl _) (Nat.le_refl _) hRcells hRslots
  obtain ⟨s', hA⟩ : ∃ z, z = (T.setVm s.vm).setFrames (.invoking m args :: below) := ⟨_, rfl⟩
  rw [← hA] at Y
  have hvm : s'.vm = s.vm := by rw [hA]; rfl
  have hhp : s'.heap = H := by rw [hA]; exact hT
  have hW0 : s.WarmedH s'.vm := by rw [hvm]; exact State.WarmedH.refl s
  have hat' : ∀ w ∈ vx_atS own ic cls names, w.before args s' = true := fun w hw => vx_ot_at hW0 hvm.symm (hgood w (List.mem_cons_of_mem _ (List.mem_cons_of_mem _ hw))) (hat w hw)
  have hk' : (Cond.classLink own ik cls).before args s' = true := vx_ot_at hW0 hvm.symm (hgood _ List.mem_cons_self) hk
  have hini' : (Cond.initialized cls).before args s' = true := vx_ot_at hW0 hvm.symm (hgood _ (List.mem_cons_of_mem _ List.mem_cons_self)) hini
  have hU' : vx_Zq Bundle.tN "UNASSIGNED_STACK" Bundle.steD A s' s'.heap := by rw [hhp]; exact vx_Zq.moved hW0.alike (hU.kept hS.2.1)
  have hN' : vx_Zq Bundle.tN "SUPPRESSED_SENTINEL" Bundle.listD A s' s'.heap := by rw [hhp]; exact vx_Zq.moved hW0.alike (hN.kept hS.2.1)
  have h : ∀ w ∈ Bundle.ownAtoms own ic cls names, w.before args s' = true := vx_own hat' (vx_isRefq hU'.1) (vx_isRefq hN'.1) hU'.2.word hN'.2.word
  have hown' : s'.vm.findClass own = some m.cls := by rw [hvm]; exact hown
  have hins : (Cond.instantiable cls 6).before args s' = true := h _ (by simp [Bundle.ownAtoms])
  obtain ⟨vm₁, cX, kX, hfX, hkX, -, -, X₁, st1⟩ := Y.newCold hexec (own := own) (C := cls) (index := ik) (n := 6) hown' hk' hins hini'
    (g := F0 m pc ls rest) rfl (by rw [hb]; exact d0) (Nat.le_refl _) (Nat.le_refl _)
  generalize hT1 : (T.setVm vm₁).pushCell { cls := cX, slots := kX.instanceTypes.map defaultValue, vm := .none } = T1 at X₁ st1
  have hcat : (Value.ref T.heap.size).category = 1 := rfl
  have hcellA : T1.heap[T.heap.size]? = some (freshCell cX kX) := by rw [← hT1]; exact State.heap_pushCell_size _ _
  have d3' : decode c.code (pc + 3) = .ok (.dup, 1) := by rw [hb]; exact d3
  have d4' : decode c.code (pc + 4) = .ok (.ldc is, 2) := by rw [hb]; exact d4
  have hstr' : vk_R own is text sa s' := vk_R.warm hW0 hstr
  obtain ⟨U, hsteps, hrun, hend, hW, hsame, ce, hce, hO⟩ := X₁.ctorThrowS hexec htr (own := own) (cls := cls) (names := names) (ic := ic) hown' hcls hnames h (fun x hx => nomatch hx) hfX hkX hcellA (by rw [hhp, hT]; exact Nat.le_refl _) (msg := .ref sa) rfl
    (g := { method := m, pc := pc + 6, locals := ls, stack := .ref sa :: .ref T.heap.size :: .ref T.heap.size :: rest, locked := none }) rfl hsize rfl rfl (rest := rest) rfl
    (by rw [hb]; exact d6) (by rw [hb]; exact d9) hout hRframes (by simp only [List.map_cons, List.sum_cons, hcat]; omega) hlocks
  obtain ⟨f1, f2⟩ := vx_frame hsame
  rw [hhp] at f1 f2
  have hWs : s.WarmedH U.vm := State.WarmedH.trans hW0 hW
  have hcl : s.vm.findClass cls = some ce.cls := by
    have h9 := hO.cls
    rw [hvm] at h9
    exact h9
  have hall : s.sameButNew ({ U with vm := s.vm } : State) locs mc ms := by
    subst hA
    obtain ⟨e1, e2⟩ := hsame
    rw [State.setFrames_setFrames] at e1
    have h2 : (T.setVm s.vm).sameButNew ({ U with vm := s.vm } : State) [] (0 + 1) (0 + 6) := ⟨e1, e2⟩
    have h3 := X.same.trans h2
    rw [List.append_nil] at h3
    exact h3.mono hc hs
  refine ⟨U, ?_, .threw T.heap.size, hrun, hend, Or.inr ⟨T.heap.size, rfl, cls, ce, locs, hx U hWs.alike f1 (fun q hq => f2 q hq (fun z hz => nomatch hz)), hce, hO.vm, hcl, hWs, hall, hf⟩⟩
  refine st1 _ ?_
  show Steps p.tables e below (T1.setTop { method := m, pc := pc + 3, locals := ls, stack := .ref T.heap.size :: rest, locked := none }) _
  jvm_step X₁.here [X₁.here.top, hexec, d3', Value.category]
  exact X₁.ldcString hexec (own := own) (text := text) (index := is) (a := sa) hown' hstr'.1 hstr'.2
    (g := { method := m, pc := pc + 4, locals := ls, stack := .ref T.heap.size :: .ref T.heap.size :: rest, locked := none }) rfl d4' _ hsteps
/-- 'throw new E("text")', the text by a wide index -/
theorem vx_throwSW {cc : ByteArray} {pc : Nat} (hexec : p.tables.exec = Jvm.exec) (hb : c.code = cc) (hl : l.stackTraces = false) {own cls text : String} {names : List String} {ik is ic mc ms sa : Nat} {A : Nat → Prop}
    (hown : s.vm.findClass own = some m.cls) (hcls : Bundle.fit cls = true) (hnames : ∀ n ∈ names, Bundle.fit n = true)
    (hk : (Cond.classLink own ik cls).before args s = true) (hini : (Cond.initialized cls).before args s = true) (hstr : vk_R own is text sa s) (hat : ∀ w ∈ vx_atS own ic cls names, w.before args s = true)
    (hgood : ∀ w ∈ Cond.classLink own ik cls :: Cond.initialized cls :: vx_atS own ic cls names, vx_ot w = true)
    (hU : vx_Zq Bundle.tN "UNASSIGNED_STACK" Bundle.steD A s s.heap) (hN : vx_Zq Bundle.tN "SUPPRESSED_SENTINEL" Bundle.listD A s s.heap) (hS : va_S A s.heap H locs) (hsize : ls.size = c.maxLocals)
    (d0 : decode cc pc = .ok (.new ik, 3)) (d3 : decode cc (pc + 3) = .ok (.dup, 1)) (d4 : decode cc (pc + 4) = .ok (.ldc_w is, 3)) (d7 : decode cc (pc + 7) = .ok (.invokespecial ic, 3)) (d10 : decode cc (pc + 10) = .ok (.athrow, 1))
    (hout : ∀ x ∈ c.exceptionTable.toList, covers x (pc + 10) = false)
    (hRframes : names.length + 3 < R.frames) (hRlocals : (rest.map fun v => v.category).sum + (13 * (names.length + 1) + 43) ≤ R.locals) (hRcells : cells + 1 ≤ R.cells) (hRslots : slots + 6 ≤ R.slots) (hlocks : meth.locks = false)
    (hx : ∀ t : State, s.vm.Alike t.vm → H.size ≤ t.heap.size → (∀ q : Nat, q < H.size → t.heap[q]? = H[q]?) → XC cls s t)
    (hf : ∀ z ∈ locs, free z.base) (hc : cells + 1 ≤ mc) (hs : slots + 6 ≤ ms) :
    W p l e R s m args below meth c H locs cells slots (vx_MQ below Qc XC args s mc ms free) (F0 m pc ls rest) := by
  intro T hT X
  have htr : e.platform.stackTraces = false := (show e.platform.stackTraces = l.stackTraces by rw [X.admits.platform]).trans hl
  have Y := vx_rebase X (R' := { frames := R.frames, locals := R.locals, cells := 1, slots := 6 }) (Nat.le_refl _) (Nat.le_refl _) hRcells hRslots
  obtain ⟨s', hA⟩ : ∃ z, z = (T.setVm s.vm).setFrames (.invoking m args :: below) := ⟨_, rfl⟩
  rw [← hA] at Y
  have hvm : s'.vm = s.vm := by rw [hA]; rfl
  have hhp : s'.heap = H := by rw [hA]; exact hT
  have hW0 : s.WarmedH s'.vm := by rw [hvm]; exact State.WarmedH.refl s
  have hat' : ∀ w ∈ vx_atS own ic cls names, w.before args s' = true := fun w hw => vx_ot_at hW0 hvm.symm (hgood w (List.mem_cons_of_mem _ (List.mem_cons_of_mem _ hw))) (hat w hw)
  have hk' : (Cond.classLink own ik cls).before args s' = true := vx_ot_at hW0 hvm.symm (hgood _ List.mem_cons_self) hk
  have hini' : (Cond.initialized cls).before args s' = true := vx_ot_at hW0 hvm.symm (hgood _ (List.mem_cons_of_mem _ List.mem_cons_self)) hini
  have hU' : vx_Zq Bundle.tN "UNASSIGNED_STACK" Bundle.steD A s' s'.heap := by rw [hhp]; exact vx_Zq.moved hW0.alike (hU.kept hS.2.1)
  have hN' : vx_Zq Bundle.tN "SUPPRESSED_SENTINEL" Bundle.listD A s' s'.heap := by rw [hhp]; exact vx_Zq.moved hW0.alike (hN.kept hS.2.1)
  have h : ∀ w ∈ Bundle.ownAtoms own ic cls names, w.before args s' = true := vx_own hat' (vx_isRefq hU'.1) (vx_isRefq hN'.1) hU'.2.word hN'.2.word
  have hown' : s'.vm.findClass own = some m.cls := by rw [hvm]; exact hown
  have hins : (Cond.instantiable cls 6).before args s' = true := h _ (by simp [Bundle.ownAtoms])
  obtain ⟨vm₁, cX, kX, hfX, hkX, -, -, X₁, st1⟩ := Y.newCold hexec (own := own) (C := cls) (index := ik) (n := 6) hown' hk' hins hini'
    (g := F0 m pc ls rest) rfl (by rw [hb]; exact d0) (Nat.le_refl _) (Nat.le_refl _)
  generalize hT1 : (T.setVm vm₁).pushCell { cls := cX, slots := kX.instanceTypes.map defaultValue, vm := .none } = T1 at X₁ st1
  have hcat : (Value.ref T.heap.size).category = 1 := rfl
  have hcellA : T1.heap[T.heap.size]? = some (freshCell cX kX) := by rw [← hT1]; exact State.heap_pushCell_size _ _
  have d3' : decode c.code (pc + 3) = .ok (.dup, 1) := by rw [hb]; exact d3
  have d4' : decode c.code (pc + 4) = .ok (.ldc_w is, 3) := by rw [hb]; exact d4
  have hstr' : vk_R own is text sa s' := vk_R.warm hW0 hstr
  obtain ⟨U, hsteps, hrun, hend, hW, hsame, ce, hce, hO⟩ := X₁.ctorThrowS hexec htr (own := own) (cls := cls) (names := names) (ic := ic) hown' hcls hnames h (fun x hx => nomatch hx) hfX hkX hcellA (by rw [hhp, hT]; exact Nat.le_refl _) (msg := .ref sa) rfl
    (g := { method := m, pc := pc + 7, locals := ls, stack := .ref sa :: .ref T.heap.size :: .ref T.heap.size :: rest, locked := none }) rfl hsize rfl rfl (rest := rest) rfl
    (by rw [hb]; exact d7) (by rw [hb]; exact d10) hout hRframes (by simp only [List.map_cons, List.sum_cons, hcat]; omega) hlocks
  obtain ⟨f1, f2⟩ := vx_frame hsame
  rw [hhp] at f1 f2
  have hWs : s.WarmedH U.vm := State.WarmedH.trans hW0 hW
  have hcl : s.vm.findClass cls = some ce.cls := by
    have h9 := hO.cls
    rw [hvm] at h9
    exact h9
  have hall : s.sameButNew ({ U with vm := s.vm } : State) locs mc ms := by
    subst hA
    obtain ⟨e1, e2⟩ := hsame
    rw [State.setFrames_setFrames] at e1
    have h2 : (T.setVm s.vm).sameButNew ({ U with vm := s.vm } : State) [] (0 + 1) (0 + 6) := ⟨e1, e2⟩
    have h3 := X.same.trans h2
    rw [List.append_nil] at h3
    exact h3.mono hc hs
  refine ⟨U, ?_, .threw T.heap.size, hrun, hend, Or.inr ⟨T.heap.size, rfl, cls, ce, locs, hx U hWs.alike f1 (fun q hq => f2 q hq (fun z hz => nomatch hz)), hce, hO.vm, hcl, hWs, hall, hf⟩⟩
  refine st1 _ ?_
  show Steps p.tables e below (T1.setTop { method := m, pc := pc + 3, locals := ls, stack := .ref T.heap.size :: rest, locked := none }) _
  jvm_step X₁.here [X₁.here.top, hexec, d3', Value.category]
  exact X₁.ldcStringW hexec (own := own) (text := text) (index := is) (a := sa) hown' hstr'.1 hstr'.2
    (g := { method := m, pc := pc + 4, locals := ls, stack := .ref T.heap.size :: .ref T.heap.size :: rest, locked := none }) rfl d4' _ hsteps
end Ends
section Bodies
variable {l : Launch}
theorem vx_ofW {y : MethodName} {ws ws' : List Cond} {rm : Room} {Pc : Array Value → State → Prop} {Qc : Array Value → State → Outcome → State → Prop} {XC : String → State → State → Prop} {mc ms : Nat} {free : Addr → Prop} {cc : ByteArray} {maxL : Nat} {ret : Option FieldType}
    (hy : plainName y.cls = true) (hw : ws = Cond.code y cc maxL ret :: ws')
    (body : ∀ p e s m args below meth c s₁, BodyLoose p l y (headSpec ws rm) cc maxL ret e s m args below meth c s₁ → c.maxLocals = maxL → (∀ x ∈ c.exceptionTable.toList, False) → Pc args s →
      W p l e (headSpec ws rm).room s m args below meth c s.heap [] 0 0 (vx_MQ below Qc XC args s mc ms free) (entryFrame m args maxL)) : vx_Met l y ws rm Pc Qc XC mc ms free := by
  refine MetFree.of_bodyS (code := cc) (maxLocals := maxL) (ret := ret) hy ?_ ?_
  · intro args s m h hn
    obtain ⟨meth, c, h1, h2, h3, h4, h5, h6, -, -⟩ := Cond.code_spec hn (atoms_spec (ws := ws) h _ (by rw [hw]; exact List.mem_cons_self))
    exact ⟨meth, c, h1, h2, h3, h4, h5, h6⟩
  · intro p e s m args below meth c s₁ B hml hP _
    have hh0 : s₁.heap = s.heap := by rw [B.state]; rfl
    have ht : ∀ x ∈ c.exceptionTable.toList, False := by
      obtain ⟨meth9, c9, h1, h2, -, -, -, -, h7, -⟩ := Cond.code_spec B.named (atoms_spec (ws := ws) B.pre _ (by rw [hw]; exact List.mem_cons_self))
      cases Option.some.inj (h1.symm.trans B.method)
      cases Option.some.inj (h2.symm.trans (Stand.of_body B).code)
      intro x hx
      rw [Array.isEmpty_iff.mp h7] at hx
      cases hx
    obtain ⟨t, a1, o, b1, b2, b3⟩ := body p e s m args below meth c s₁ B hml ht hP s₁ hh0 (Stand.of_body B)
    exact ⟨t, o, a1, b1, b2, b3⟩
/-- the table of a body with handlers -/
theorem vx_table {p : Program} {x y : MethodName} {S : Spec} {cc bytes : ByteArray} {maxL maxL' : Nat} {ret ret' : Option FieldType} {e : Env} {s s₁ : State} {m : MethodId} {args : Array Value} {below : List Frame} {meth : Method} {c : Code} {hh : List (Nat × Nat × Nat × Nat)}
    (B : BodyLoose p l y S cc maxL ret e s m args below meth c s₁) (h : (Cond.codeWith y bytes maxL' ret' hh).before args s = true) : c.exceptionTable.toList = tableOf hh := by
  obtain ⟨m9, meth9, c9, hn9, h1, h2, -, -, h6, -⟩ := Cond.codeWith_spec h
  cases Option.some.inj (hn9.symm.trans B.named)
  cases Option.some.inj (h1.symm.trans B.method)
  cases Option.some.inj (h2.symm.trans (Stand.of_body B).code)
  rw [← h6, table_eq]
end Bodies
end VXA
/-! ===== END ===== -/
/-! ===== BEGIN a static call of a method with an exception table ===== -/
section VXS
variable {p : Program} {l : Launch} {e : Env} {R : Room} {s : State} {m : MethodId} {args : Array Value} {below : List Frame} {meth : Method} {c : Code} {T : State} {H : Heap} {locs : List Loc} {cells slots : Nat}
abbrev vx_CSW (R : Room) (s : State) (args : Array Value) (own : String) (index : Nat) (y : MethodName) (bytes : ByteArray) (maxL : Nat) (ret : Option FieldType) (hh : List (Nat × Nat × Nat × Nat)) (ws : List Cond) (rm : Room) (mc ms n : Nat) : Prop :=
  (rm.cells = mc ∧ rm.slots = ms ∧ rm.frames + 1 ≤ R.frames ∧ 8 + (maxL + 11) + rm.locals ≤ R.locals ∧ (∀ w ∈ ws, ∀ (a' : Array Value) (U : State), s.WarmedH U.vm → w.before a' U = true) ∧ Cond.codeWith y bytes maxL ret hh ∈ ws) ∧
  (Cond.codeWith y bytes maxL ret hh).before args s = true ∧ (Cond.initialized y.cls).before args s = true ∧ (y.cls ≠ "java/lang/invoke/MethodHandle" ∧ y.cls ≠ "java/lang/invoke/VarHandle") ∧
  (∀ sig, parseMethodDescriptor y.desc = some sig → n = sig.parameters.length) ∧ (Cond.methodLink own index y).before args s = true ∧ (Cond.static y).before args s = true
theorem vx_cwSW {own : String} {index maxL mc ms : Nat} {y : MethodName} {bytes : ByteArray} {ret : Option FieldType} {hh : List (Nat × Nat × Nat × Nat)} {Ts ws ws' : List Cond} {rm : Room} (n : Nat) (ht : ∀ w ∈ Ts, w.before args s = true) (hT : GoodIn Ts (va_wsS own index y ws)) (hw : ws = Cond.codeWith y bytes maxL ret hh :: ws') (hrc : rm.cells = mc) (hrs : rm.slots = ms)
    (hd : y.cls ≠ "java/lang/invoke/MethodHandle" ∧ y.cls ≠ "java/lang/invoke/VarHandle" ∧ (parseMethodDescriptor y.desc).map (fun d => d.parameters.length) = some n) (hR : rm.frames + 1 ≤ R.frames ∧ 8 + (maxL + 11) + rm.locals ≤ R.locals) :
    vx_CSW R s args own index y bytes maxL ret hh ws rm mc ms n := by
  have ok : ∀ w ∈ va_wsS own index y ws, w.before args s = true := fun w h => ht w (hT w h).1
  have hG : GoodIn Ts ws := fun w h => hT w (by unfold va_wsS; exact List.mem_append_right _ h)
  have hc : Cond.codeWith y bytes maxL ret hh ∈ ws := by rw [hw]; exact List.mem_cons_self
  refine ⟨⟨hrc, hrs, hR.1, hR.2, pay_in ht hG, hc⟩, ht _ (hG _ hc).1, ok _ (by simp [va_wsS]), ⟨hd.1, hd.2.1⟩, fun sig h => ?_, ok _ (by simp [va_wsS]), ok _ (by simp [va_wsS])⟩
  have h2 := hd.2.2
  rw [h] at h2
  exact (Option.some.inj h2).symm
theorem vx_callSW (X : Stand p l e R s m args below meth c T locs cells slots) (hexec : p.tables.exec = Jvm.exec) {own : String} {index : Nat} {y : MethodName} {bytes : ByteArray} {maxL : Nat} {ret : Option FieldType} {hh : List (Nat × Nat × Nat × Nat)}
    (hown : s.vm.findClass own = some m.cls) (hlink : (Cond.methodLink own index y).before args s = true) (hstat : (Cond.static y).before args s = true) (hinit : (Cond.initialized y.cls).before args s = true)
    (hcode : (Cond.codeWith y bytes maxL ret hh).before args s = true) (hy : y.cls ≠ "java/lang/invoke/MethodHandle" ∧ y.cls ≠ "java/lang/invoke/VarHandle")
    {W9 : Nat} {Pre : Pt → Array Value → Prop} {Post : Pt → Array Value → Option Value → Pt → Prop} (hK : Back l R p e below s args y 3 W9 Pre Post)
    {g : JFrame} (hg : g.method = m) (hsize : g.locals.size = c.maxLocals) {argsL rest : List Value} (hlen : ∀ sig, parseMethodDescriptor y.desc = some sig → argsL.length = sig.parameters.length)
    (hstack : g.stack = argsL.reverse ++ rest) (hW : 2 * g.monitorRoom + (rest.map fun v => v.category).sum ≤ W9) (hdg : decode c.code g.pc = .ok (.invokestatic index, 3))
    (hpre : ∀ vm₁, s.WarmedH vm₁ → Pre ⟨T.setVm vm₁, locs, cells, slots⟩ argsL.toArray) :
    ∃ (v : Option Value) (vm₁ : Vm) (B : Pt), s.WarmedH vm₁ ∧ Stand p l e R s m args below meth c B.U B.locs B.cells B.slots ∧ Post ⟨T.setVm vm₁, locs, cells, slots⟩ argsL.toArray v B ∧
      ∀ target, Steps p.tables e below (B.U.setTop { g with pc := g.pc + 3, stack := v.toList ++ rest }) target → Steps p.tables e below (T.setTop g) target := by
  obtain ⟨mk, methM, cM, hnamed, hmethM, -, -, -, -, -, -, hsigM⟩ := Cond.codeWith_spec hcode
  have hstatic : methM.isStatic = true := Cond.static_spec hnamed hmethM hstat
  obtain ⟨kP, hkP, -⟩ := className_of_methodNamed hnamed
  have hinitP : kP.init = .initialized := Cond.initialized_spec (findClass_of_methodNamed hnamed) hkP hinit
  obtain ⟨vm₁, X₁, hstep₁⟩ := X.invokestatic hexec hown hlink hnamed hmethM hstatic hkP hinitP hy (g := g) hg (argsL := argsL) (rest := rest) (hlen _ hsigM) hstack hdg
  obtain ⟨v, B, X', hpost, hsteps⟩ := hK m meth c ⟨T.setVm vm₁, locs, cells, slots⟩ { g with stack := rest } (.invokestatic index) mk argsL.toArray X₁ hg hsize hdg hW (X₁.named hnamed) (hpre vm₁ X₁.warmed)
  exact ⟨v, vm₁, B, X₁.warmed, X', hpost, fun target h => hstep₁ _ fun acts => by rw [doInvoke_state]; exact hsteps.trans h⟩
theorem vx_runSW {y : MethodName} {bytes cc : ByteArray} {maxL nL mc ms n index : Nat} {ret : Option FieldType} {hh : List (Nat × Nat × Nat × Nat)} {ws : List Cond} {rm : Room} {Pc : Array Value → State → Prop} {Qc : Array Value → State → Outcome → State → Prop} {free : Addr → Prop} {Ts : List Cond} {own : String} {As rest : List Value} {g : JFrame}
    (S : CallFix p m c cc nL s args Ts own) (hM : Met l y ws rm Pc Qc mc ms free) (cw : vx_CSW R s args own index y bytes maxL ret hh ws rm mc ms n) (hp : PreS s H Pc As)
    (hg : g.method = m) (hn : As.length = n) (hsize : g.locals.size = nL) (hstack : g.stack = As.reverse ++ rest) (hW : 2 * g.monitorRoom + (rest.map fun v => v.category).sum ≤ 8) (hdg : decode cc g.pc = .ok (.invokestatic index, 3)) (hf : cells + mc ≤ R.cells ∧ slots + ms ≤ R.slots) :
    va_Run p l e R s m args below meth c H locs cells slots mc ms g rest (Qc As.toArray) (free) := by
  obtain ⟨⟨hrc, hrs, hfr, hlo, hws, hcw⟩, hcode, hini, hy, hlen, hl, hstt⟩ := cw
  have hK : Back l R p e below s args y 3 8 (PreOf R mc ms Pc) (PostOf Qc mc ms free) := va_backW (hh := hh) (bytes := bytes) (maxL := maxL) (ret := ret) hM hp.1 hrc hrs hfr hlo hws hcw (fun a' U hW => word_at hW (Or.inl (by first | rfl | simp [Cond.onTables, Cond.keeps, Cond.steady])) hini)
  obtain ⟨hx, hb, hml, ho, -⟩ := S
  intro T hT X
  obtain ⟨v, vm₁, ⟨U', l2, c2, s2⟩, hW₁, X', ⟨g', mk, t, L, e1, e2, hq, h1, hL, h2, h3⟩, st⟩ := vx_callSW X hx (hh := hh) (bytes := bytes) (maxL := maxL) (ret := ret) ho hl hstt hini hcode hy hK hg (hsize.trans hml.symm) (argsL := As) (rest := rest) (fun sig h => hn.trans (hlen sig h)) hstack hW (by rw [hb]; exact hdg)
    (fun vm₁ hW₁ => ⟨hf.1, hf.2, hp.2 (T.setVm vm₁) hT hW₁⟩)
  dsimp only [Pt.U, Pt.locs, Pt.cells, Pt.slots] at X' e1 e2 h1 h2 h3 st
  subst h1; subst h2; subst h3
  exact ⟨v, (T.setVm vm₁).calling g' mk As.toArray, t, U', L, hT, X', hL, e1, e2, hq, st⟩
/-- not caught here, past rows that name other classes: it goes on to the caller -/
theorem vx_outP {p : Program} {l : Launch} {e : Env} {R : Room} {s : State} {m : MethodId} {args : Array Value} {below : List Frame} {meth : Method} {c : Code} {H : Heap} {locs : List Loc} {cells slots : Nat} {free : Addr → Prop} {ls : Array Slot} {rest : List Value} {Qc : Array Value → State → Outcome → State → Prop} {XC : String → State → State → Prop}
    {pc : Nat} {own E : String} {ce : Cell} {q : Addr} {mc ms : Nat} (hown : s.vm.findClass own = some m.cls) (hlocks : meth.locks = false)
    (hpass : ∀ z ∈ c.exceptionTable.toList, covers z pc = false ∨ (z.catchType ≠ 0 ∧ ∃ nm : String, (Cond.classLink own z.catchType nm).before args s = true ∧ va_Nc E nm s)) (hcell : H[q]? = some ce) (hv : ce.vm = .none) (hcl : s.vm.findClass E = some ce.cls)
    (hx : ∀ t : State, t.heap = H → s.vm.Alike t.vm → XC E s t) (hf : ∀ z ∈ locs, free z.base) (hc : cells ≤ mc) (hs : slots ≤ ms) :
    vx_W p l e R s m args below meth c H locs cells slots (vx_MQ below Qc XC args s mc ms free) (F0 m pc ls rest) q := by
  intro T hT X
  have hpl : e.platform.magicAccessors = ({} : Platform).magicAccessors := by rw [X.admits.platform]
  obtain ⟨vm', hW', X', st⟩ := X.outThrough hlocks q (g := F0 m pc ls rest) rfl rfl rfl (cell := ce) (by rw [hT]; exact hcell) (by rw [hv]; rfl)
    (by obtain ⟨k9, h9, -⟩ := Vm.findClass_spec hcl; exact ⟨k9, h9⟩) (fun z hz => by
      rcases hpass z hz with h | ⟨hz0, nm, hl1, hn1⟩
      · exact Or.inl h
      · obtain ⟨c6, hc6, hcl6⟩ := Cond.classLink_spec hown hl1 e.platform hpl
        obtain ⟨a8, b8, h1, h2, h3⟩ := hn1
        cases Option.some.inj (h1.symm.trans hcl)
        cases Option.some.inj (h2.symm.trans hc6)
        exact Or.inr ⟨hz0, _, hcl6, h3⟩)
  obtain ⟨g₀, hfr⟩ := X'.frames_eq
  have hcell9 : ((T.setVm vm').setFrames (.throwing q :: below)).heap[q]? = some ce := by
    show T.heap[q]? = some ce
    rw [hT]; exact hcell
  have hend : Ended ((T.setVm vm').setFrames (.throwing q :: below)) below (.threw q) := State.frames_setFrames _ (State.cur_lt_of_frames hfr)
  refine ⟨(T.setVm vm').setFrames (.throwing q :: below), ?_, .threw q, X'.here.running, hend, Or.inr ⟨q, rfl, E, ce, locs, hx _ hT (X'.ends _).1.alike, hcell9, hv, hcl, (X'.ends _).1, (X'.ends _).2.mono hc hs, hf⟩⟩
  rw [X.pushThrowing_eq]
  exact st
/-- a thing of a world lies in the heap -/
theorem vx_lt {D : va_G} {cl : List vw_C} {ws : va_W} {H1 : Heap} (h : va_P D cl ws H1) {k : Nat} {q : Nat × va_E} (hk : ws[k]? = some q) : q.1 < H1.size := (h k q hk).lt
end VXS
/-! ===== END ===== -/
/-! ===== BEGIN methods with a table of their own: called by a name, returning or throwing ===== -/
section VXH
/-! vx_backW, vx_callVX, vx_callSX, vx_callVW, vx_runVW, vx_runVX, vx_runSX, vx_ofWH follow the same proofs as their sisters above (Free/Laws.lean, Shelf42/LK1.lean); vx_outP calls Shelf42/NT130.lean (outThrough). -/
section
variable {l : Launch} {R : Room} {p : Program} {e : Env} {below : List Frame} {s : State} {sargs : Array Value} {y : MethodName} {len W9 : Nat}
theorem vx_backW {ws : List Cond} {rm : Room} {Pc : Array Value → State → Prop} {Qc : Array Value → State → Outcome → State → Prop} {XC : String → State → State → Prop} {mc ms : Nat} {free : Addr → Prop} {bytes : ByteArray} {maxL : Nat} {ret : Option FieldType} {hh : List (Nat × Nat × Nat × Nat)}
    (hM : vx_Met l y ws rm Pc Qc XC mc ms free) (hblind : FrameBlind Pc) (hrc : rm.cells = mc) (hrs : rm.slots = ms)
    (hframes : rm.frames + 1 ≤ R.frames) (hlocals : W9 + (maxL + 11) + rm.locals ≤ R.locals)
    (hws : ∀ w ∈ ws, ∀ a' U, s.WarmedH U.vm → w.before a' U = true) (hcode : Cond.codeWith y bytes maxL ret hh ∈ ws) (hinit : ∀ a' U, s.WarmedH U.vm → (Cond.initialized y.cls).before a' U = true) :
    vx_Back l R p e below s sargs y len W9 (PreOf R mc ms Pc) (PostOf Qc mc ms free) (vx_Post XC mc ms free) := by
  intro m meth c A g ig mk a X hg hsize hdg hW hn hp
  have h1 : (headSpec ws rm).pre.before a A.U = true := atoms_intro fun w hw => hws w hw _ _ X.warmed
  have h2 : (Cond.codeWith y bytes maxL ret hh).before a A.U = true := hws _ hcode _ _ X.warmed
  have h3 : (Cond.initialized y.cls).before a A.U = true := hinit _ _ X.warmed
  have h4 : A.cells + (headSpec ws rm).room.cells ≤ R.cells := by rw [show (headSpec ws rm).room.cells = mc from hrc]; exact hp.1
  have h5 : A.slots + (headSpec ws rm).room.slots ≤ R.slots := by rw [show (headSpec ws rm).room.slots = ms from hrs]; exact hp.2.1
  have hPc : Pc a (A.U.calling g mk a) := hblind _ _ _ _ hp.2.2
  obtain ⟨U, Ls, c0, s0⟩ := A
  dsimp only [Pt.U, Pt.locs, Pt.cells, Pt.slots] at h1 h2 h3 h4 h5 X hn hPc ⊢
  obtain ⟨m9, methY, cY, hn9, hmY, hcY, -, hlY, -⟩ := Cond.codeWith_spec h2
  cases Option.some.inj (hn9.symm.trans hn)
  obtain ⟨kY, hkY, -⟩ := className_of_methodNamed hn
  have hinitY : kY.init = .initialized := Cond.initialized_spec (findClass_of_methodNamed hn) hkY h3
  have h : At U g.method c below := by rw [hg]; exact X.here
  have hlocals9 : W9 + (maxL + 11) + (headSpec ws rm).room.locals ≤ R.locals := hlocals
  have happ : (headSpec ws rm).appliesLoose y e.platform (U.calling g mk a) = true :=
    Spec.appliesLoose_calling (g := g) h hdg hn hkY hinitY
      (X.room_calling (g := g) (R' := (headSpec ws rm).room) hsize hmY hcY hframes (by rw [hlY]; omega) h4 h5) h1
  obtain ⟨mid, hmid⟩ := h.above
  have hfr : (U.setTop g).frames = (.java g :: mid) ++ below := by rw [State.frames_setTop' g h.top, hmid]; rfl
  obtain ⟨o, s₂, hsteps, -, hend, hq⟩ := Steps.callFree hM p X.admits X.cas X.clock (acts := []) hfr happ hPc trivial
  have hq' : vx_Q Qc XC mc ms free a (U.calling g mk a) o s₂ := hq
  rw [State.frames_setTop' g h.top] at hend
  obtain ⟨g₀, hg0⟩ := Option.isSome_iff_exists.mp h.top
  obtain ⟨r, hr⟩ := State.topJava?_eq_some.mp hg0
  have hr' : (({ U with heap := s₂.heap, slotsUsed := s₂.slotsUsed } : State).setVm s₂.vm).frames = .java g₀ :: r := hr
  rcases hq' with ⟨hqc, L, hfe, hL⟩ | ⟨q, rfl, E, ce, L, hx, hce, hcv, hcl, hW₂, hsm, hL⟩
  · obtain ⟨⟨v, rfl⟩, hW₂, e2, q2, q3, q4, q5, q6⟩ := id hfe
    have e3 : s₂ = ({ (U.calling g mk a).setFrames s₂.frames with heap := s₂.heap, slotsUsed := s₂.slotsUsed } : State).setVm s₂.vm := by
      have : s₂ = ({ s₂ with vm := (U.calling g mk a).vm } : State).setVm s₂.vm := rfl
      rw [e2] at this
      exact this
    obtain ⟨c₂, i₂, len₂, hc₂, hd₂, hf₂⟩ := hend
    have hW' : U.WarmedH s₂.vm := hW₂
    have hcc : c₂ = c := by
      have h1 : s₂.code? g.method = U.code? g.method := by
        rw [State.code?_eq, State.code?_eq, hW'.alike.method?]
      exact Option.some.inj (hc₂.symm.trans (h1.trans h.code))
    subst hcc
    have hlen : len₂ = len := by rw [hdg] at hd₂; cases hd₂; rfl
    subst hlen
    have hs₂ : s₂ = (({ U with heap := s₂.heap, slotsUsed := s₂.slotsUsed } : State).setVm s₂.vm).setTop { g with pc := g.pc + len₂, stack := v.toList ++ g.stack } := by
      refine e3.trans ?_
      rw [hf₂, State.calling_eq h.top, State.setFrames_setFrames, State.setTop_of_frames _ hr', hr]
      rfl
    have hsame : U.sameButNew ({ U with heap := s₂.heap, slotsUsed := s₂.slotsUsed } : State) L mc ms := by
      refine ⟨?_, q2, q3, q4, q5, q6⟩
      obtain ⟨t, ht, -⟩ := State.frames_cons hr
      show ({ U with heap := s₂.heap, slotsUsed := s₂.slotsUsed } : State) = { U.setFrames U.frames with heap := s₂.heap, slotsUsed := s₂.slotsUsed }
      rw [State.setFrames_self ht]
    subst hg
    refine Or.inl ⟨v, ⟨(({ U with heap := s₂.heap, slotsUsed := s₂.slotsUsed } : State).setVm s₂.vm), Ls ++ L, c0 + mc, s0 + ms⟩,
      ⟨X.admits, X.cas, X.clock, X.frames, X.room, X.hears, X.method, X.code, (X.here.setHeapUsed s₂.heap s₂.slotsUsed).setVm hW'.alike, X.tail, State.WarmedH.trans X.warmed hW', X.limits, X.bytes, X.same.trans (hsame.setVm s.vm)⟩,
      ⟨g, mk, s₂, L, rfl, rfl, hqc, rfl, hL, rfl, rfl⟩, ?_⟩
    show Steps p.tables e below _ ((({ U with heap := s₂.heap, slotsUsed := s₂.slotsUsed } : State).setVm s₂.vm).setTop { g with pc := g.pc + len₂, stack := v.toList ++ g.stack })
    rw [← hs₂]
    exact hsteps
  · obtain ⟨e2, q2, q3, q4, q5, q6⟩ := id hsm
    have e3 : s₂ = ({ (U.calling g mk a).setFrames s₂.frames with heap := s₂.heap, slotsUsed := s₂.slotsUsed } : State).setVm s₂.vm := by
      have : s₂ = ({ s₂ with vm := (U.calling g mk a).vm } : State).setVm s₂.vm := rfl
      rw [e2] at this
      exact this
    have hf₂ : s₂.frames = .throwing q :: .java g :: U.frames.tail := hend
    have hW' : U.WarmedH s₂.vm := hW₂
    have hs₂ : s₂ = ((({ U with heap := s₂.heap, slotsUsed := s₂.slotsUsed } : State).setVm s₂.vm).setTop g).pushFrame (.throwing q) := by
      refine e3.trans ?_
      rw [hf₂, State.calling_eq h.top, State.setFrames_setFrames, State.pushFrame, State.frames_setTop _ hr', State.setTop_of_frames _ hr', State.setFrames_setFrames, hr]
      rfl
    have hsame : U.sameButNew ({ U with heap := s₂.heap, slotsUsed := s₂.slotsUsed } : State) L mc ms := by
      refine ⟨?_, q2, q3, q4, q5, q6⟩
      obtain ⟨t, ht, -⟩ := State.frames_cons hr
      show ({ U with heap := s₂.heap, slotsUsed := s₂.slotsUsed } : State) = { U.setFrames U.frames with heap := s₂.heap, slotsUsed := s₂.slotsUsed }
      rw [State.setFrames_self ht]
    subst hg
    refine Or.inr ⟨q, ⟨(({ U with heap := s₂.heap, slotsUsed := s₂.slotsUsed } : State).setVm s₂.vm), Ls ++ L, c0 + mc, s0 + ms⟩,
      ⟨X.admits, X.cas, X.clock, X.frames, X.room, X.hears, X.method, X.code, (X.here.setHeapUsed s₂.heap s₂.slotsUsed).setVm hW'.alike, X.tail, State.WarmedH.trans X.warmed hW', X.limits, X.bytes, X.same.trans (hsame.setVm s.vm)⟩,
      ⟨g, mk, s₂, L, E, ce, rfl, rfl, hx, hce, hcv, hcl, rfl, hL, rfl, rfl⟩, ?_⟩
    show Steps p.tables e below _ (((({ U with heap := s₂.heap, slotsUsed := s₂.slotsUsed } : State).setVm s₂.vm).setTop g).pushFrame (.throwing q))
    rw [← hs₂]
    exact hsteps
end
variable {p : Program} {l : Launch} {e : Env} {R : Room} {s : State} {m : MethodId} {args : Array Value} {below : List Frame} {meth : Method} {c : Code} {T : State} {H : Heap} {locs : List Loc} {cells slots : Nat}
theorem vx_callVX (X : Stand p l e R s m args below meth c T locs cells slots) (hexec : p.tables.exec = Jvm.exec) {own C : String} {index : Nat} {y : MethodName} {bytes : ByteArray} {maxL : Nat} {ret : Option FieldType} {hh : List (Nat × Nat × Nat × Nat)}
    (hown : s.vm.findClass own = some m.cls) (hlink : (Cond.methodLink own index y).before args s = true) (hinst : (Cond.instanceMethod y).before args s = true) (hsel : (Cond.selects C y y).before args s = true)
    (hcode : (Cond.codeWith y bytes maxL ret hh).before args s = true) (hy : y.cls ≠ "java/lang/invoke/MethodHandle" ∧ y.cls ≠ "java/lang/invoke/VarHandle")
    {W9 : Nat} {Pre : Pt → Array Value → Prop} {Post : Pt → Array Value → Option Value → Pt → Prop} {PostX : Pt → Array Value → Addr → Pt → Prop} (hK : vx_Back l R p e below s args y 3 W9 Pre Post PostX)
    {b : Addr} {cellB : Cell} (hcell : T.heap[b]? = some cellB) (hobj : cellB.vm.isStatics = false) (hcls : s.vm.findClass C = some cellB.cls)
    {g : JFrame} (hg : g.method = m) (hsize : g.locals.size = c.maxLocals) {argsL rest : List Value} (hlen : ∀ sig, parseMethodDescriptor y.desc = some sig → argsL.length = sig.parameters.length)
    (hstack : g.stack = argsL.reverse ++ .ref b :: rest) (hW : 2 * g.monitorRoom + (rest.map fun v => v.category).sum ≤ W9) (hdg : decode c.code g.pc = .ok (.invokevirtual index, 3))
    (hpre : ∀ vm₁, s.WarmedH vm₁ → Pre ⟨T.setVm vm₁, locs, cells, slots⟩ (Value.ref b :: argsL).toArray) :
    (∃ (v : Option Value) (vm₁ : Vm) (B : Pt), s.WarmedH vm₁ ∧ Stand p l e R s m args below meth c B.U B.locs B.cells B.slots ∧ Post ⟨T.setVm vm₁, locs, cells, slots⟩ (Value.ref b :: argsL).toArray v B ∧
      ∀ target, Steps p.tables e below (B.U.setTop { g with pc := g.pc + 3, stack := v.toList ++ rest }) target → Steps p.tables e below (T.setTop g) target) ∨
    (∃ (q : Addr) (vm₁ : Vm) (B : Pt), s.WarmedH vm₁ ∧ Stand p l e R s m args below meth c B.U B.locs B.cells B.slots ∧ PostX ⟨T.setVm vm₁, locs, cells, slots⟩ (Value.ref b :: argsL).toArray q B ∧
      Steps p.tables e below (T.setTop g) ((B.U.setTop { g with stack := rest }).pushFrame (.throwing q))) := by
  obtain ⟨mk, methM, hnamed, hmethM, hstM, habM⟩ := Cond.instanceMethod_spec hinst
  obtain ⟨m8, methM', cM, hn8, hmethM', -, -, -, -, -, -, hsigM⟩ := Cond.codeWith_spec hcode
  cases Option.some.inj (hn8.symm.trans hnamed)
  cases hmethM.symm.trans hmethM'
  obtain ⟨c2, r2, m2, q1, q2, q3, q4, kP, hkP, hkPi⟩ := Cond.selects_spec hsel
  cases hcls.symm.trans q1
  cases (State.methodFound?_of_named hnamed hy).symm.trans q2
  cases hnamed.symm.trans q3
  have hselP : selectMethod e.platform s.vm cellB.cls mk = .method mk := by rw [Launch.admits_selectMethod X.admits]; exact q4
  obtain ⟨vm₁, X₁, hstep₁⟩ := X.invokevirtual hexec hown hlink hnamed hmethM hstM hkP hkPi hy (a := b) (cell := cellB) hcell
    (fun z h => by rw [h] at hobj; cases hobj) hselP hmethM habM hkP hkPi (g := g) hg (argsL := argsL) (rest := rest) (hlen _ hsigM) hstack hdg
  rcases hK m meth c ⟨T.setVm vm₁, locs, cells, slots⟩ { g with stack := rest } (.invokevirtual index) mk (Value.ref b :: argsL).toArray X₁ hg hsize hdg hW (X₁.named hnamed) (hpre vm₁ X₁.warmed) with ⟨v, B, X', hpost, hsteps⟩ | ⟨q, B, X', hpost, hsteps⟩
  · exact Or.inl ⟨v, vm₁, B, X₁.warmed, X', hpost, fun target h => hstep₁ _ fun acts => by rw [doInvoke_state]; exact hsteps.trans h⟩
  · exact Or.inr ⟨q, vm₁, B, X₁.warmed, X', hpost, hstep₁ _ fun acts => by rw [doInvoke_state]; exact hsteps⟩
theorem vx_callSX (X : Stand p l e R s m args below meth c T locs cells slots) (hexec : p.tables.exec = Jvm.exec) {own : String} {index : Nat} {y : MethodName} {bytes : ByteArray} {maxL : Nat} {ret : Option FieldType} {hh : List (Nat × Nat × Nat × Nat)}
    (hown : s.vm.findClass own = some m.cls) (hlink : (Cond.methodLink own index y).before args s = true) (hstat : (Cond.static y).before args s = true) (hinit : (Cond.initialized y.cls).before args s = true)
    (hcode : (Cond.codeWith y bytes maxL ret hh).before args s = true) (hy : y.cls ≠ "java/lang/invoke/MethodHandle" ∧ y.cls ≠ "java/lang/invoke/VarHandle")
    {W9 : Nat} {Pre : Pt → Array Value → Prop} {Post : Pt → Array Value → Option Value → Pt → Prop} {PostX : Pt → Array Value → Addr → Pt → Prop} (hK : vx_Back l R p e below s args y 3 W9 Pre Post PostX)
    {g : JFrame} (hg : g.method = m) (hsize : g.locals.size = c.maxLocals) {argsL rest : List Value} (hlen : ∀ sig, parseMethodDescriptor y.desc = some sig → argsL.length = sig.parameters.length)
    (hstack : g.stack = argsL.reverse ++ rest) (hW : 2 * g.monitorRoom + (rest.map fun v => v.category).sum ≤ W9) (hdg : decode c.code g.pc = .ok (.invokestatic index, 3))
    (hpre : ∀ vm₁, s.WarmedH vm₁ → Pre ⟨T.setVm vm₁, locs, cells, slots⟩ argsL.toArray) :
    (∃ (v : Option Value) (vm₁ : Vm) (B : Pt), s.WarmedH vm₁ ∧ Stand p l e R s m args below meth c B.U B.locs B.cells B.slots ∧ Post ⟨T.setVm vm₁, locs, cells, slots⟩ argsL.toArray v B ∧
      ∀ target, Steps p.tables e below (B.U.setTop { g with pc := g.pc + 3, stack := v.toList ++ rest }) target → Steps p.tables e below (T.setTop g) target) ∨
    (∃ (q : Addr) (vm₁ : Vm) (B : Pt), s.WarmedH vm₁ ∧ Stand p l e R s m args below meth c B.U B.locs B.cells B.slots ∧ PostX ⟨T.setVm vm₁, locs, cells, slots⟩ argsL.toArray q B ∧
      Steps p.tables e below (T.setTop g) ((B.U.setTop { g with stack := rest }).pushFrame (.throwing q))) := by
  obtain ⟨mk, methM, cM, hnamed, hmethM, -, -, -, -, -, -, hsigM⟩ := Cond.codeWith_spec hcode
  have hstatic : methM.isStatic = true := Cond.static_spec hnamed hmethM hstat
  obtain ⟨kP, hkP, -⟩ := className_of_methodNamed hnamed
  have hinitP : kP.init = .initialized := Cond.initialized_spec (findClass_of_methodNamed hnamed) hkP hinit
  obtain ⟨vm₁, X₁, hstep₁⟩ := X.invokestatic hexec hown hlink hnamed hmethM hstatic hkP hinitP hy (g := g) hg (argsL := argsL) (rest := rest) (hlen _ hsigM) hstack hdg
  rcases hK m meth c ⟨T.setVm vm₁, locs, cells, slots⟩ { g with stack := rest } (.invokestatic index) mk argsL.toArray X₁ hg hsize hdg hW (X₁.named hnamed) (hpre vm₁ X₁.warmed) with ⟨v, B, X', hpost, hsteps⟩ | ⟨q, B, X', hpost, hsteps⟩
  · exact Or.inl ⟨v, vm₁, B, X₁.warmed, X', hpost, fun target h => hstep₁ _ fun acts => by rw [doInvoke_state]; exact hsteps.trans h⟩
  · exact Or.inr ⟨q, vm₁, B, X₁.warmed, X', hpost, hstep₁ _ fun acts => by rw [doInvoke_state]; exact hsteps⟩
theorem vx_callVW (X : Stand p l e R s m args below meth c T locs cells slots) (hexec : p.tables.exec = Jvm.exec) {own C : String} {index : Nat} {y : MethodName} {bytes : ByteArray} {maxL : Nat} {ret : Option FieldType} {hh : List (Nat × Nat × Nat × Nat)}
    (hown : s.vm.findClass own = some m.cls) (hlink : (Cond.methodLink own index y).before args s = true) (hinst : (Cond.instanceMethod y).before args s = true) (hsel : (Cond.selects C y y).before args s = true)
    (hcode : (Cond.codeWith y bytes maxL ret hh).before args s = true) (hy : y.cls ≠ "java/lang/invoke/MethodHandle" ∧ y.cls ≠ "java/lang/invoke/VarHandle")
    {W9 : Nat} {Pre : Pt → Array Value → Prop} {Post : Pt → Array Value → Option Value → Pt → Prop} (hK : Back l R p e below s args y 3 W9 Pre Post)
    {b : Addr} {cellB : Cell} (hcell : T.heap[b]? = some cellB) (hobj : cellB.vm.isStatics = false) (hcls : s.vm.findClass C = some cellB.cls)
    {g : JFrame} (hg : g.method = m) (hsize : g.locals.size = c.maxLocals) {argsL rest : List Value} (hlen : ∀ sig, parseMethodDescriptor y.desc = some sig → argsL.length = sig.parameters.length)
    (hstack : g.stack = argsL.reverse ++ .ref b :: rest) (hW : 2 * g.monitorRoom + (rest.map fun v => v.category).sum ≤ W9) (hdg : decode c.code g.pc = .ok (.invokevirtual index, 3))
    (hpre : ∀ vm₁, s.WarmedH vm₁ → Pre ⟨T.setVm vm₁, locs, cells, slots⟩ (Value.ref b :: argsL).toArray) :
    ∃ (v : Option Value) (vm₁ : Vm) (B : Pt), s.WarmedH vm₁ ∧ Stand p l e R s m args below meth c B.U B.locs B.cells B.slots ∧ Post ⟨T.setVm vm₁, locs, cells, slots⟩ (Value.ref b :: argsL).toArray v B ∧
      ∀ target, Steps p.tables e below (B.U.setTop { g with pc := g.pc + 3, stack := v.toList ++ rest }) target → Steps p.tables e below (T.setTop g) target := by
  obtain ⟨mk, methM, hnamed, hmethM, hstM, habM⟩ := Cond.instanceMethod_spec hinst
  obtain ⟨m8, methM', cM, hn8, hmethM', -, -, -, -, -, -, hsigM⟩ := Cond.codeWith_spec hcode
  cases Option.some.inj (hn8.symm.trans hnamed)
  cases hmethM.symm.trans hmethM'
  obtain ⟨c2, r2, m2, q1, q2, q3, q4, kP, hkP, hkPi⟩ := Cond.selects_spec hsel
  cases hcls.symm.trans q1
  cases (State.methodFound?_of_named hnamed hy).symm.trans q2
  cases hnamed.symm.trans q3
  have hselP : selectMethod e.platform s.vm cellB.cls mk = .method mk := by rw [Launch.admits_selectMethod X.admits]; exact q4
  obtain ⟨vm₁, X₁, hstep₁⟩ := X.invokevirtual hexec hown hlink hnamed hmethM hstM hkP hkPi hy (a := b) (cell := cellB) hcell
    (fun z h => by rw [h] at hobj; cases hobj) hselP hmethM habM hkP hkPi (g := g) hg (argsL := argsL) (rest := rest) (hlen _ hsigM) hstack hdg
  obtain ⟨v, B, X', hpost, hsteps⟩ := hK m meth c ⟨T.setVm vm₁, locs, cells, slots⟩ { g with stack := rest } (.invokevirtual index) mk (Value.ref b :: argsL).toArray X₁ hg hsize hdg hW (X₁.named hnamed) (hpre vm₁ X₁.warmed)
  exact ⟨v, vm₁, B, X₁.warmed, X', hpost, fun target h => hstep₁ _ fun acts => by rw [doInvoke_state]; exact hsteps.trans h⟩
abbrev vx_CVW (R : Room) (s : State) (args : Array Value) (own C : String) (index : Nat) (y : MethodName) (bytes : ByteArray) (maxL : Nat) (ret : Option FieldType) (hh : List (Nat × Nat × Nat × Nat)) (ws : List Cond) (rm : Room) (mc ms n : Nat) : Prop :=
  (rm.cells = mc ∧ rm.slots = ms ∧ rm.frames + 1 ≤ R.frames ∧ 8 + (maxL + 11) + rm.locals ≤ R.locals ∧ (∀ w ∈ ws, ∀ (a' : Array Value) (U : State), s.WarmedH U.vm → w.before a' U = true) ∧ Cond.codeWith y bytes maxL ret hh ∈ ws) ∧
  (Cond.codeWith y bytes maxL ret hh).before args s = true ∧ (Cond.initialized y.cls).before args s = true ∧ (y.cls ≠ "java/lang/invoke/MethodHandle" ∧ y.cls ≠ "java/lang/invoke/VarHandle") ∧
  (∀ sig, parseMethodDescriptor y.desc = some sig → n = sig.parameters.length) ∧ (Cond.methodLink own index y).before args s = true ∧ (Cond.instanceMethod y).before args s = true ∧ (Cond.selects C y y).before args s = true
theorem vx_cwVW {own C : String} {index maxL mc ms : Nat} {y : MethodName} {bytes : ByteArray} {ret : Option FieldType} {hh : List (Nat × Nat × Nat × Nat)} {Ts ws ws' : List Cond} {rm : Room} (n : Nat) (ht : ∀ w ∈ Ts, w.before args s = true) (hT : GoodIn Ts (wsV own index C y ws)) (hw : ws = Cond.codeWith y bytes maxL ret hh :: ws') (hrc : rm.cells = mc) (hrs : rm.slots = ms)
    (hd : y.cls = C ∧ y.cls ≠ "java/lang/invoke/MethodHandle" ∧ y.cls ≠ "java/lang/invoke/VarHandle" ∧ (parseMethodDescriptor y.desc).map (fun d => d.parameters.length) = some n) (hR : rm.frames + 1 ≤ R.frames ∧ 8 + (maxL + 11) + rm.locals ≤ R.locals) :
    vx_CVW R s args own C index y bytes maxL ret hh ws rm mc ms n := by
  obtain ⟨hC, hd⟩ := hd
  subst hC
  have ok : ∀ w ∈ wsV own index y.cls y ws, w.before args s = true := fun w h => ht w (hT w h).1
  have hG : GoodIn Ts ws := fun w h => hT w (by unfold wsV; exact List.mem_append_right _ h)
  have hc : Cond.codeWith y bytes maxL ret hh ∈ ws := by rw [hw]; exact List.mem_cons_self
  refine ⟨⟨hrc, hrs, hR.1, hR.2, pay_in ht hG, hc⟩, ht _ (hG _ hc).1, ok _ (by simp [wsV]), ⟨hd.1, hd.2.1⟩, fun sig h => ?_, ok _ (by simp [wsV]), ok _ (by simp [wsV]), ok _ (by simp [wsV])⟩
  have h2 := hd.2.2
  rw [h] at h2
  exact (Option.some.inj h2).symm
theorem vx_runVW {y : MethodName} {bytes cc : ByteArray} {maxL nL mc ms n index : Nat} {ret : Option FieldType} {hh : List (Nat × Nat × Nat × Nat)} {ws : List Cond} {rm : Room} {Pc : Array Value → State → Prop} {Qc : Array Value → State → Outcome → State → Prop} {free : Addr → Prop} {Ts : List Cond} {own C : String} {b : Addr} {As rest : List Value} {g : JFrame}
    (S : CallFix p m c cc nL s args Ts own) (hM : Met l y ws rm Pc Qc mc ms free) (cw : vx_CVW R s args own C index y bytes maxL ret hh ws rm mc ms n) (hp : PreV s H C b Pc As)
    (hg : g.method = m) (hn : As.length = n) (hsize : g.locals.size = nL) (hstack : g.stack = As.reverse ++ .ref b :: rest) (hW : 2 * g.monitorRoom + (rest.map fun v => v.category).sum ≤ 8) (hdg : decode cc g.pc = .ok (.invokevirtual index, 3)) (hf : cells + mc ≤ R.cells ∧ slots + ms ≤ R.slots) :
    va_Run p l e R s m args below meth c H locs cells slots mc ms g rest (Qc (Value.ref b :: As).toArray) free := by
  obtain ⟨⟨hrc, hrs, hfr, hlo, hws, hcw⟩, hcode, hini, hy, hlen, hl, hin, hse⟩ := cw
  have hK : Back l R p e below s args y 3 8 (PreOf R mc ms Pc) (PostOf Qc mc ms free) := va_backW (hh := hh) (bytes := bytes) (maxL := maxL) (ret := ret) hM hp.1 hrc hrs hfr hlo hws hcw (fun a' U hW => word_at hW (Or.inl (by first | rfl | simp [Cond.onTables, Cond.keeps, Cond.steady])) hini)
  obtain ⟨hx, hb, hml, ho, -⟩ := S
  obtain ⟨-, ⟨cellB, hcB, hoB, hclB⟩, hPc⟩ := hp
  intro T hT X
  obtain ⟨v, vm₁, ⟨U', l2, c2, s2⟩, hW₁, X', ⟨g', mk, t, L, e1, e2, hq, h1, hL, h2, h3⟩, st⟩ := vx_callVW X hx (C := C) (hh := hh) (bytes := bytes) (maxL := maxL) (ret := ret) ho hl hin hse hcode hy hK (by rw [hT]; exact hcB) hoB hclB hg (hsize.trans hml.symm) (argsL := As) (rest := rest) (fun sig h => hn.trans (hlen sig h)) hstack hW (by rw [hb]; exact hdg)
    (fun vm₁ hW₁ => ⟨hf.1, hf.2, hPc (T.setVm vm₁) hT hW₁⟩)
  dsimp only [Pt.U, Pt.locs, Pt.cells, Pt.slots] at X' e1 e2 h1 h2 h3 st
  subst h1; subst h2; subst h3
  exact ⟨v, (T.setVm vm₁).calling g' mk (Value.ref b :: As).toArray, t, U', L, hT, X', hL, e1, e2, hq, st⟩
section
variable {y : MethodName} {bytes cc : ByteArray} {maxL nL mc ms n index : Nat} {ret : Option FieldType} {ws : List Cond} {rm : Room} {Pc : Array Value → State → Prop} {Qc : Array Value → State → Outcome → State → Prop} {XC : String → State → State → Prop} {free : Addr → Prop} {Ts : List Cond} {own C : String} {b : Addr} {As rest : List Value} {g : JFrame}
theorem vx_runVX {hh : List (Nat × Nat × Nat × Nat)} (S : CallFix p m c cc nL s args Ts own) (hM : vx_Met l y ws rm Pc Qc XC mc ms free) (cw : vx_CVW R s args own C index y bytes maxL ret hh ws rm mc ms n) (hp : PreV s H C b Pc As)
    (hg : g.method = m) (hn : As.length = n) (hsize : g.locals.size = nL) (hstack : g.stack = As.reverse ++ .ref b :: rest) (hW : 2 * g.monitorRoom + (rest.map fun v => v.category).sum ≤ 8) (hdg : decode cc g.pc = .ok (.invokevirtual index, 3)) (hf : cells + mc ≤ R.cells ∧ slots + ms ≤ R.slots) :
    vx_Run p l e R s m args below meth c H locs cells slots mc ms g rest (Qc (Value.ref b :: As).toArray) XC free := by
  obtain ⟨⟨hrc, hrs, hfr, hlo, hws, hcw⟩, hcode, hini, hy, hlen, hl, hin, hse⟩ := cw
  have hK : vx_Back l R p e below s args y 3 8 (PreOf R mc ms Pc) (PostOf Qc mc ms free) (vx_Post XC mc ms free) := vx_backW (hh := hh) (bytes := bytes) (maxL := maxL) (ret := ret) hM hp.1 hrc hrs hfr hlo hws hcw (fun a' U hW => word_at hW (Or.inl (by first | rfl | simp [Cond.onTables, Cond.keeps, Cond.steady])) hini)
  obtain ⟨hx, hb, hml, ho, -⟩ := S
  obtain ⟨-, ⟨cellB, hcB, hoB, hclB⟩, hPc⟩ := hp
  intro T hT X
  rcases vx_callVX X hx (C := C) (hh := hh) (bytes := bytes) (maxL := maxL) (ret := ret) ho hl hin hse hcode hy hK (by rw [hT]; exact hcB) hoB hclB hg (hsize.trans hml.symm) (argsL := As) (rest := rest) (fun sig h => hn.trans (hlen sig h)) hstack hW (by rw [hb]; exact hdg)
    (fun vm₁ hW₁ => ⟨hf.1, hf.2, hPc (T.setVm vm₁) hT hW₁⟩) with ⟨v, vm₁, ⟨U', l2, c2, s2⟩, hW₁, X', ⟨g', mk, t, L, e1, e2, hq, h1, hL, h2, h3⟩, st⟩ | ⟨q, vm₁, ⟨U', l2, c2, s2⟩, hW₁, X', ⟨g', mk, t, L, E, ce, e1, e2, hq, hce, hcv, hcl, h1, hL, h2, h3⟩, st⟩
  · dsimp only [Pt.U, Pt.locs, Pt.cells, Pt.slots] at X' e1 e2 h1 h2 h3 st
    subst h1; subst h2; subst h3
    exact Or.inl ⟨v, (T.setVm vm₁).calling g' mk (Value.ref b :: As).toArray, t, U', L, hT, X', hL, e1, e2, hq, st⟩
  · dsimp only [Pt.U, Pt.locs, Pt.cells, Pt.slots] at X' e1 e2 h1 h2 h3 st hcl
    subst h1; subst h2; subst h3
    exact Or.inr ⟨q, (T.setVm vm₁).calling g' mk (Value.ref b :: As).toArray, t, U', L, E, ce, hT, X', hL, e1, e2, hq, hce, hcv, vx_cls hW₁ hcl, st⟩
theorem vx_runSX {hh : List (Nat × Nat × Nat × Nat)} (S : CallFix p m c cc nL s args Ts own) (hM : vx_Met l y ws rm Pc Qc XC mc ms free) (cw : vx_CSW R s args own index y bytes maxL ret hh ws rm mc ms n) (hp : PreS s H Pc As)
    (hg : g.method = m) (hn : As.length = n) (hsize : g.locals.size = nL) (hstack : g.stack = As.reverse ++ rest) (hW : 2 * g.monitorRoom + (rest.map fun v => v.category).sum ≤ 8) (hdg : decode cc g.pc = .ok (.invokestatic index, 3)) (hf : cells + mc ≤ R.cells ∧ slots + ms ≤ R.slots) :
    vx_Run p l e R s m args below meth c H locs cells slots mc ms g rest (Qc As.toArray) XC free := by
  obtain ⟨⟨hrc, hrs, hfr, hlo, hws, hcw⟩, hcode, hini, hy, hlen, hl, hstt⟩ := cw
  have hK : vx_Back l R p e below s args y 3 8 (PreOf R mc ms Pc) (PostOf Qc mc ms free) (vx_Post XC mc ms free) := vx_backW (hh := hh) (bytes := bytes) (maxL := maxL) (ret := ret) hM hp.1 hrc hrs hfr hlo hws hcw (fun a' U hW => word_at hW (Or.inl (by first | rfl | simp [Cond.onTables, Cond.keeps, Cond.steady])) hini)
  obtain ⟨hx, hb, hml, ho, -⟩ := S
  intro T hT X
  rcases vx_callSX X hx (hh := hh) (bytes := bytes) (maxL := maxL) (ret := ret) ho hl hstt hini hcode hy hK hg (hsize.trans hml.symm) (argsL := As) (rest := rest) (fun sig h => hn.trans (hlen sig h)) hstack hW (by rw [hb]; exact hdg)
    (fun vm₁ hW₁ => ⟨hf.1, hf.2, hp.2 (T.setVm vm₁) hT hW₁⟩) with ⟨v, vm₁, ⟨U', l2, c2, s2⟩, hW₁, X', ⟨g', mk, t, L, e1, e2, hq, h1, hL, h2, h3⟩, st⟩ | ⟨q, vm₁, ⟨U', l2, c2, s2⟩, hW₁, X', ⟨g', mk, t, L, E, ce, e1, e2, hq, hce, hcv, hcl, h1, hL, h2, h3⟩, st⟩
  · dsimp only [Pt.U, Pt.locs, Pt.cells, Pt.slots] at X' e1 e2 h1 h2 h3 st
    subst h1; subst h2; subst h3
    exact Or.inl ⟨v, (T.setVm vm₁).calling g' mk As.toArray, t, U', L, hT, X', hL, e1, e2, hq, st⟩
  · dsimp only [Pt.U, Pt.locs, Pt.cells, Pt.slots] at X' e1 e2 h1 h2 h3 st hcl
    subst h1; subst h2; subst h3
    exact Or.inr ⟨q, (T.setVm vm₁).calling g' mk As.toArray, t, U', L, E, ce, hT, X', hL, e1, e2, hq, hce, hcv, vx_cls hW₁ hcl, st⟩
end
end VXH
theorem vx_ofWH {l : Launch} {y : MethodName} {ws ws' : List Cond} {rm : Room} {Pc : Array Value → State → Prop} {Qc : Array Value → State → Outcome → State → Prop} {XC : String → State → State → Prop} {mc ms : Nat} {free : Addr → Prop} {cc : ByteArray} {maxL : Nat} {ret : Option FieldType} {hh : List (Nat × Nat × Nat × Nat)}
    (hy : plainName y.cls = true) (hw : ws = Cond.codeWith y cc maxL ret hh :: ws')
    (body : ∀ p e s m args below meth c s₁, BodyLoose p l y (headSpec ws rm) cc maxL ret e s m args below meth c s₁ → c.maxLocals = maxL → Pc args s →
      W p l e (headSpec ws rm).room s m args below meth c s.heap [] 0 0 (vx_MQ below Qc XC args s mc ms free) (entryFrame m args maxL)) : vx_Met l y ws rm Pc Qc XC mc ms free := by
  refine MetFree.of_bodyS (code := cc) (maxLocals := maxL) (ret := ret) hy ?_ ?_
  · intro args s m h hn
    obtain ⟨m9, meth, c, hn9, h1, h2, h3, h4, -, h5, h6, -⟩ := Cond.codeWith_spec (atoms_spec (ws := ws) h _ (by rw [hw]; exact List.mem_cons_self))
    cases hn.symm.trans hn9
    exact ⟨meth, c, h1, h2, h3, h4, h5, h6⟩
  · intro p e s m args below meth c s₁ B hml hP _
    have hh0 : s₁.heap = s.heap := by rw [B.state]; rfl
    obtain ⟨t, a1, o, b1, b2, b3⟩ := body p e s m args below meth c s₁ B hml hP s₁ hh0 (Stand.of_body B)
    exact ⟨t, o, a1, b1, b2, b3⟩
/-! ===== END ===== -/

/-! ===== BEGIN printed: names, fields, word lists, decode rows ===== -/
def RX0 : String := "HopscotchCourt$Court"
def TX0 : u_T := fun k => match k with
  | 0 => ("HopscotchCourt$Court", "rows", "I", false)
  | 1 => ("HopscotchCourt$Court", "squares", "I", false)
  | 2 => ("HopscotchCourt$Court", "players", "I", false)
  | 3 => ("HopscotchCourt$Court", "drift", "I", false)
  | 4 => ("HopscotchCourt$Court", "turnOf", "I", false)
  | 5 => ("HopscotchCourt$Court", "turns", "I", false)
  | 6 => ("HopscotchCourt$Court", "hops", "I", false)
  | 7 => ("HopscotchCourt$Court", "faultless", "I", false)
  | 8 => ("HopscotchCourt$Court", "firsts", "[I", true)
  | 9 => ("HopscotchCourt$Court", "rowOf", "[I", true)
  | 10 => ("HopscotchCourt$Court", "owners", "[I", true)
  | 11 => ("HopscotchCourt$Court", "landings", "[I", true)
  | 12 => ("HopscotchCourt$Court", "numbers", "[I", true)
  | 13 => ("HopscotchCourt$Court", "names", "[B", true)
  | _ => ("HopscotchCourt$Court", "nameLengths", "[I", true)
def tyX0 : Nat → FieldType := fun k => match k with
  | 0 => .int
  | 1 => .int
  | 2 => .int
  | 3 => .int
  | 4 => .int
  | 5 => .int
  | 6 => .int
  | 7 => .int
  | 8 => .array .int
  | 9 => .array .int
  | 10 => .array .int
  | 11 => .array .int
  | 12 => .array .int
  | 13 => .array .byte
  | _ => .array .int
abbrev wsX00 : List Cond := u_ws RX0 TX0 15
theorem nmX0 : ∀ a, a < 15 → ∀ b, b < 15 → a ≠ b → (TX0 a).2.1 ≠ (TX0 b).2.1 := by decide +kernel
theorem tyX0_ok : ∀ k, k < 15 → parseFieldDescriptor (TX0 k).2.2.1 = some (tyX0 k) := by decide +kernel
abbrev cX0_init : ByteArray := prog_2_method_1_code
def yX0_init : MethodName := ⟨RX0, "<init>", "()V"⟩
abbrev cX0_wipe : ByteArray := prog_2_method_2_code
def yX0_wipe : MethodName := ⟨RX0, "wipe", "()V"⟩
abbrev cX0_copyFrom : ByteArray := prog_2_method_3_code
def yX0_copyFrom : MethodName := ⟨RX0, "copyFrom", "(LHopscotchCourt$Court;)V"⟩
abbrev cX0_addRow : ByteArray := prog_2_method_4_code
def yX0_addRow : MethodName := ⟨RX0, "addRow", "(I)V"⟩
abbrev cX0_addPlayer : ByteArray := prog_2_method_5_code
def yX0_addPlayer : MethodName := ⟨RX0, "addPlayer", "()V"⟩
abbrev cX0_addLetter : ByteArray := prog_2_method_6_code
def yX0_addLetter : MethodName := ⟨RX0, "addLetter", "(I)V"⟩
abbrev cX0_hasSameName : ByteArray := prog_2_method_7_code
def yX0_hasSameName : MethodName := ⟨RX0, "hasSameName", "(II)Z"⟩
abbrev cX0_get : ByteArray := prog_2_method_8_code
def yX0_get : MethodName := ⟨RX0, "get", "(II)I"⟩
abbrev cX0_put : ByteArray := prog_2_method_9_code
def yX0_put : MethodName := ⟨RX0, "put", "(III)V"⟩
abbrev cX0_widthOf : ByteArray := prog_2_method_10_code
def yX0_widthOf : MethodName := ⟨RX0, "widthOf", "(I)I"⟩
abbrev cX0_sideOf : ByteArray := prog_2_method_11_code
def yX0_sideOf : MethodName := ⟨RX0, "sideOf", "(I)I"⟩
abbrev cX0_squaresOf : ByteArray := prog_2_method_12_code
def yX0_squaresOf : MethodName := ⟨RX0, "squaresOf", "(I)I"⟩
abbrev cX0_ownedSquares : ByteArray := prog_2_method_13_code
def yX0_ownedSquares : MethodName := ⟨RX0, "ownedSquares", "()I"⟩
abbrev cX0_richest : ByteArray := prog_2_method_14_code
def yX0_richest : MethodName := ⟨RX0, "richest", "()I"⟩
abbrev cX0_lyingMarkers : ByteArray := prog_2_method_15_code
def yX0_lyingMarkers : MethodName := ⟨RX0, "lyingMarkers", "()I"⟩
abbrev cX0_markersOn : ByteArray := prog_2_method_16_code
def yX0_markersOn : MethodName := ⟨RX0, "markersOn", "(I)I"⟩
abbrev cX0_markedSquares : ByteArray := prog_2_method_17_code
def yX0_markedSquares : MethodName := ⟨RX0, "markedSquares", "(I)I"⟩
abbrev cX0_isForbidden : ByteArray := prog_2_method_18_code
def yX0_isForbidden : MethodName := ⟨RX0, "isForbidden", "(II)Z"⟩
abbrev cX0_usableSet : ByteArray := prog_2_method_19_code
def yX0_usableSet : MethodName := ⟨RX0, "usableSet", "(II)I"⟩
abbrev cX0_footingOf : ByteArray := prog_2_method_20_code
def yX0_footingOf : MethodName := ⟨RX0, "footingOf", "(III)I"⟩
abbrev cX0_firstAllowed : ByteArray := prog_2_method_21_code
def yX0_firstAllowed : MethodName := ⟨RX0, "firstAllowed", "(II)I"⟩
abbrev cX0_mendTargets : ByteArray := prog_2_method_22_code
def yX0_mendTargets : MethodName := ⟨RX0, "mendTargets", "()V"⟩
abbrev cX0_faultOfThrow : ByteArray := prog_2_method_23_code
def yX0_faultOfThrow : MethodName := ⟨RX0, "faultOfThrow", "(III)I"⟩
abbrev cX0_leastPower : ByteArray := prog_2_method_24_code
def yX0_leastPower : MethodName := ⟨RX0, "leastPower", "(I)I"⟩
abbrev cX0_addLandings : ByteArray := prog_2_method_25_code
def yX0_addLandings : MethodName := ⟨RX0, "addLandings", "(II)V"⟩
abbrev cX0_moveTargetOn : ByteArray := prog_2_method_26_code
def yX0_moveTargetOn : MethodName := ⟨RX0, "moveTargetOn", "(I)V"⟩
abbrev cX0_endTurn : ByteArray := prog_2_method_27_code
def yX0_endTurn : MethodName := ⟨RX0, "endTurn", "(I)V"⟩
def RX1 : String := "HopscotchCourt$Game"
def TX1 : u_T := fun k => match k with
  | 0 => ("HopscotchCourt$Game", "out", "LHopscotchCourt$Way;", true)
  | _ => ("HopscotchCourt$Game", "back", "LHopscotchCourt$Way;", true)
def tyX1 : Nat → FieldType := fun k => match k with
  | 0 => .object "HopscotchCourt$Way"
  | _ => .object "HopscotchCourt$Way"
abbrev wsX10 : List Cond := u_ws RX1 TX1 2
theorem nmX1 : ∀ a, a < 2 → ∀ b, b < 2 → a ≠ b → (TX1 a).2.1 ≠ (TX1 b).2.1 := by decide +kernel
theorem tyX1_ok : ∀ k, k < 2 → parseFieldDescriptor (TX1 k).2.2.1 = some (tyX1 k) := by decide +kernel
abbrev cX1_init : ByteArray := prog_3_method_1_code
def yX1_init : MethodName := ⟨RX1, "<init>", "()V"⟩
abbrev cX1_ownWay : ByteArray := prog_3_method_2_code
def yX1_ownWay : MethodName := ⟨RX1, "ownWay", "(LHopscotchCourt$Court;IZ)LHopscotchCourt$Way;"⟩
abbrev cX1_hasBothWays : ByteArray := prog_3_method_3_code
def yX1_hasBothWays : MethodName := ⟨RX1, "hasBothWays", "(LHopscotchCourt$Court;III)Z"⟩
abbrev cX1_faultOfHops : ByteArray := prog_3_method_4_code
def yX1_faultOfHops : MethodName := ⟨RX1, "faultOfHops", "(LHopscotchCourt$Court;I)I"⟩
abbrev cX1_playableSquares : ByteArray := prog_3_method_5_code
def yX1_playableSquares : MethodName := ⟨RX1, "playableSquares", "(LHopscotchCourt$Court;I)I"⟩
abbrev cX1_playableByOthers : ByteArray := prog_3_method_6_code
def yX1_playableByOthers : MethodName := ⟨RX1, "playableByOthers", "(LHopscotchCourt$Court;I)I"⟩
abbrev cX1_playTurn : ByteArray := prog_3_method_7_code
def yX1_playTurn : MethodName := ⟨RX1, "playTurn", "(LHopscotchCourt$Court;II)I"⟩
abbrev cX1_hopOutAndBack : ByteArray := prog_3_method_8_code
def yX1_hopOutAndBack : MethodName := ⟨RX1, "hopOutAndBack", "(LHopscotchCourt$Court;I)V"⟩
abbrev cX1_makeHops : ByteArray := prog_3_method_9_code
def yX1_makeHops : MethodName := ⟨RX1, "makeHops", "(LHopscotchCourt$Court;ILHopscotchCourt$Way;)V"⟩
abbrev cX1_playUntilCrown : ByteArray := prog_3_method_10_code
def yX1_playUntilCrown : MethodName := ⟨RX1, "playUntilCrown", "(LHopscotchCourt$Court;I)I"⟩
def RX2 : String := "HopscotchCourt$History"
def TX2 : u_T := fun k => match k with
  | 0 => ("HopscotchCourt$History", "courts", "[LHopscotchCourt$Court;", true)
  | 1 => ("HopscotchCourt$History", "next", "I", false)
  | _ => ("HopscotchCourt$History", "size", "I", false)
def tyX2 : Nat → FieldType := fun k => match k with
  | 0 => .array (.object "HopscotchCourt$Court")
  | 1 => .int
  | _ => .int
abbrev wsX20 : List Cond := u_ws RX2 TX2 3
theorem nmX2 : ∀ a, a < 3 → ∀ b, b < 3 → a ≠ b → (TX2 a).2.1 ≠ (TX2 b).2.1 := by decide +kernel
theorem tyX2_ok : ∀ k, k < 3 → parseFieldDescriptor (TX2 k).2.2.1 = some (tyX2 k) := by decide +kernel
abbrev cX2_init : ByteArray := prog_4_method_1_code
def yX2_init : MethodName := ⟨RX2, "<init>", "()V"⟩
abbrev cX2_keep : ByteArray := prog_4_method_2_code
def yX2_keep : MethodName := ⟨RX2, "keep", "(LHopscotchCourt$Court;)V"⟩
abbrev cX2_bringBack : ByteArray := prog_4_method_3_code
def yX2_bringBack : MethodName := ⟨RX2, "bringBack", "(LHopscotchCourt$Court;)V"⟩
def RX3 : String := "HopscotchCourt$Reader"
def TX3 : u_T := fun k => match k with
  | 0 => ("HopscotchCourt$Reader", "text", "[B", true)
  | 1 => ("HopscotchCourt$Reader", "length", "I", false)
  | 2 => ("HopscotchCourt$Reader", "at", "I", false)
  | 3 => ("HopscotchCourt$Reader", "wordEnd", "I", false)
  | 4 => ("HopscotchCourt$Reader", "value", "I", false)
  | 5 => ("HopscotchCourt$Reader", "code", "I", false)
  | _ => ("HopscotchCourt$Reader", "errorAt", "I", false)
def tyX3 : Nat → FieldType := fun k => match k with
  | 0 => .array .byte
  | 1 => .int
  | 2 => .int
  | 3 => .int
  | 4 => .int
  | 5 => .int
  | _ => .int
abbrev wsX30 : List Cond := u_ws RX3 TX3 7
theorem nmX3 : ∀ a, a < 7 → ∀ b, b < 7 → a ≠ b → (TX3 a).2.1 ≠ (TX3 b).2.1 := by decide +kernel
theorem tyX3_ok : ∀ k, k < 7 → parseFieldDescriptor (TX3 k).2.2.1 = some (tyX3 k) := by decide +kernel
abbrev cX3_init : ByteArray := prog_5_method_1_code
def yX3_init : MethodName := ⟨RX3, "<init>", "()V"⟩
abbrev cX3_bytesIn : ByteArray := prog_5_method_2_code
def yX3_bytesIn : MethodName := ⟨RX3, "bytesIn", "(I)I"⟩
abbrev cX3_addBytes : ByteArray := prog_5_method_3_code
def yX3_addBytes : MethodName := ⟨RX3, "addBytes", "(I)V"⟩
abbrev cX3_readCourt : ByteArray := prog_5_method_4_code
def yX3_readCourt : MethodName := ⟨RX3, "readCourt", "(LHopscotchCourt$Court;)Z"⟩
abbrev cX3_readRows : ByteArray := prog_5_method_5_code
def yX3_readRows : MethodName := ⟨RX3, "readRows", "(LHopscotchCourt$Court;)Z"⟩
abbrev cX3_readDrift : ByteArray := prog_5_method_6_code
def yX3_readDrift : MethodName := ⟨RX3, "readDrift", "(LHopscotchCourt$Court;)Z"⟩
abbrev cX3_readPlayers : ByteArray := prog_5_method_7_code
def yX3_readPlayers : MethodName := ⟨RX3, "readPlayers", "(LHopscotchCourt$Court;)Z"⟩
abbrev cX3_readName : ByteArray := prog_5_method_8_code
def yX3_readName : MethodName := ⟨RX3, "readName", "(LHopscotchCourt$Court;I)Z"⟩
abbrev cX3_readParts : ByteArray := prog_5_method_9_code
def yX3_readParts : MethodName := ⟨RX3, "readParts", "(LHopscotchCourt$Court;I)Z"⟩
abbrev cX3_readPart : ByteArray := prog_5_method_10_code
def yX3_readPart : MethodName := ⟨RX3, "readPart", "(LHopscotchCourt$Court;ILjava/lang/String;I)Z"⟩
abbrev cX3_readOwned : ByteArray := prog_5_method_11_code
def yX3_readOwned : MethodName := ⟨RX3, "readOwned", "(LHopscotchCourt$Court;I)Z"⟩
abbrev cX3_readNumber : ByteArray := prog_5_method_12_code
def yX3_readNumber : MethodName := ⟨RX3, "readNumber", "(II)Z"⟩
abbrev cX3_readSemicolon : ByteArray := prog_5_method_13_code
def yX3_readSemicolon : MethodName := ⟨RX3, "readSemicolon", "()Z"⟩
abbrev cX3_takeSign : ByteArray := prog_5_method_14_code
def yX3_takeSign : MethodName := ⟨RX3, "takeSign", "(I)Z"⟩
abbrev cX3_takeWord : ByteArray := prog_5_method_15_code
def yX3_takeWord : MethodName := ⟨RX3, "takeWord", "(Ljava/lang/String;)Z"⟩
abbrev cX3_nextIsWord : ByteArray := prog_5_method_16_code
def yX3_nextIsWord : MethodName := ⟨RX3, "nextIsWord", "(Ljava/lang/String;)Z"⟩
abbrev cX3_moveTo : ByteArray := prog_5_method_17_code
def yX3_moveTo : MethodName := ⟨RX3, "moveTo", "(I)V"⟩
abbrev cX3_fail : ByteArray := prog_5_method_18_code
def yX3_fail : MethodName := ⟨RX3, "fail", "(II)Z"⟩
def RX4 : String := "HopscotchCourt$Way"
def TX4 : u_T := fun k => match k with
  | 0 => ("HopscotchCourt$Way", "back", "Z", true)
  | 1 => ("HopscotchCourt$Way", "cost", "I", false)
  | 2 => ("HopscotchCourt$Way", "length", "I", false)
  | 3 => ("HopscotchCourt$Way", "rows", "[I", true)
  | 4 => ("HopscotchCourt$Way", "goal", "I", false)
  | 5 => ("HopscotchCourt$Way", "must", "I", false)
  | 6 => ("HopscotchCourt$Way", "reach", "I", false)
  | 7 => ("HopscotchCourt$Way", "balance", "I", false)
  | 8 => ("HopscotchCourt$Way", "footings", "[I", true)
  | 9 => ("HopscotchCourt$Way", "costsToGoal", "[I", true)
  | _ => ("HopscotchCourt$Way", "hops", "[I", true)
def tyX4 : Nat → FieldType := fun k => match k with
  | 0 => .boolean
  | 1 => .int
  | 2 => .int
  | 3 => .array .int
  | 4 => .int
  | 5 => .int
  | 6 => .int
  | 7 => .int
  | 8 => .array .int
  | 9 => .array .int
  | _ => .array .int
abbrev wsX40 : List Cond := u_ws RX4 TX4 11
theorem nmX4 : ∀ a, a < 11 → ∀ b, b < 11 → a ≠ b → (TX4 a).2.1 ≠ (TX4 b).2.1 := by decide +kernel
theorem tyX4_ok : ∀ k, k < 11 → parseFieldDescriptor (TX4 k).2.2.1 = some (tyX4 k) := by decide +kernel
abbrev cX4_init : ByteArray := prog_6_method_1_code
def yX4_init : MethodName := ⟨RX4, "<init>", "(Z)V"⟩
abbrev cX4_seek : ByteArray := prog_6_method_2_code
def yX4_seek : MethodName := ⟨RX4, "seek", "(LHopscotchCourt$Court;III)Z"⟩
abbrev cX4_rowAt : ByteArray := prog_6_method_3_code
def yX4_rowAt : MethodName := ⟨RX4, "rowAt", "(I)I"⟩
abbrev cX4_layFootings : ByteArray := prog_6_method_4_code
def yX4_layFootings : MethodName := ⟨RX4, "layFootings", "(LHopscotchCourt$Court;II)V"⟩
abbrev cX4_reckon : ByteArray := prog_6_method_5_code
def yX4_reckon : MethodName := ⟨RX4, "reckon", "()V"⟩
abbrev cX4_reckonFrom : ByteArray := prog_6_method_6_code
def yX4_reckonFrom : MethodName := ⟨RX4, "reckonFrom", "(II)V"⟩
abbrev cX4_follow : ByteArray := prog_6_method_7_code
def yX4_follow : MethodName := ⟨RX4, "follow", "()V"⟩
def RX5 : String := "HopscotchCourt$Writer"
def TX5 : u_T := fun k => match k with
  | 0 => ("HopscotchCourt$Writer", "text", "[B", true)
  | _ => ("HopscotchCourt$Writer", "length", "I", false)
def tyX5 : Nat → FieldType := fun k => match k with
  | 0 => .array .byte
  | _ => .int
abbrev wsX50 : List Cond := u_ws RX5 TX5 2
theorem nmX5 : ∀ a, a < 2 → ∀ b, b < 2 → a ≠ b → (TX5 a).2.1 ≠ (TX5 b).2.1 := by decide +kernel
theorem tyX5_ok : ∀ k, k < 2 → parseFieldDescriptor (TX5 k).2.2.1 = some (tyX5 k) := by decide +kernel
abbrev cX5_init : ByteArray := prog_7_method_1_code
def yX5_init : MethodName := ⟨RX5, "<init>", "()V"⟩
abbrev cX5_write : ByteArray := prog_7_method_2_code
def yX5_write : MethodName := ⟨RX5, "write", "(LHopscotchCourt$Court;)V"⟩
abbrev cX5_addName : ByteArray := prog_7_method_3_code
def yX5_addName : MethodName := ⟨RX5, "addName", "(LHopscotchCourt$Court;I)V"⟩
abbrev cX5_addNumber : ByteArray := prog_7_method_4_code
def yX5_addNumber : MethodName := ⟨RX5, "addNumber", "(I)V"⟩
abbrev cX5_add : ByteArray := prog_7_method_5_code
def yX5_add : MethodName := ⟨RX5, "add", "(I)V"⟩
def RX6 : String := "HopscotchCourt"
def TX6 : u_T := fun k => match k with
  | 0 => ("HopscotchCourt", "court", "LHopscotchCourt$Court;", true)
  | 1 => ("HopscotchCourt", "trial", "LHopscotchCourt$Court;", true)
  | 2 => ("HopscotchCourt", "game", "LHopscotchCourt$Game;", true)
  | 3 => ("HopscotchCourt", "history", "LHopscotchCourt$History;", true)
  | 4 => ("HopscotchCourt", "saved", "[LHopscotchCourt$Court;", true)
  | 5 => ("HopscotchCourt", "isSaved", "[Z", true)
  | 6 => ("HopscotchCourt", "reader", "LHopscotchCourt$Reader;", true)
  | _ => ("HopscotchCourt", "writer", "LHopscotchCourt$Writer;", true)
def tyX6 : Nat → FieldType := fun k => match k with
  | 0 => .object "HopscotchCourt$Court"
  | 1 => .object "HopscotchCourt$Court"
  | 2 => .object "HopscotchCourt$Game"
  | 3 => .object "HopscotchCourt$History"
  | 4 => .array (.object "HopscotchCourt$Court")
  | 5 => .array .boolean
  | 6 => .object "HopscotchCourt$Reader"
  | _ => .object "HopscotchCourt$Writer"
abbrev wsX60 : List Cond := u_ws RX6 TX6 8
theorem nmX6 : ∀ a, a < 8 → ∀ b, b < 8 → a ≠ b → (TX6 a).2.1 ≠ (TX6 b).2.1 := by decide +kernel
theorem tyX6_ok : ∀ k, k < 8 → parseFieldDescriptor (TX6 k).2.2.1 = some (tyX6 k) := by decide +kernel
abbrev cX6_init : ByteArray := prog_1_method_1_code
def yX6_init : MethodName := ⟨RX6, "<init>", "()V"⟩
abbrev cX6_append : ByteArray := prog_1_method_2_code
def yX6_append : MethodName := ⟨RX6, "append", "(IIIII)I"⟩
abbrev cX6_load : ByteArray := prog_1_method_3_code
def yX6_load : MethodName := ⟨RX6, "load", "()I"⟩
abbrev cX6_errorPosition : ByteArray := prog_1_method_4_code
def yX6_errorPosition : MethodName := ⟨RX6, "errorPosition", "()I"⟩
abbrev cX6_count : ByteArray := prog_1_method_5_code
def yX6_count : MethodName := ⟨RX6, "count", "(I)I"⟩
abbrev cX6_player : ByteArray := prog_1_method_6_code
def yX6_player : MethodName := ⟨RX6, "player", "(II)I"⟩
abbrev cX6_square : ByteArray := prog_1_method_7_code
def yX6_square : MethodName := ⟨RX6, "square", "(II)I"⟩
abbrev cX6_row : ByteArray := prog_1_method_8_code
def yX6_row : MethodName := ⟨RX6, "row", "(I)I"⟩
abbrev cX6_footing : ByteArray := prog_1_method_9_code
def yX6_footing : MethodName := ⟨RX6, "footing", "(II)I"⟩
abbrev cX6_throwFault : ByteArray := prog_1_method_10_code
def yX6_throwFault : MethodName := ⟨RX6, "throwFault", "(III)I"⟩
abbrev cX6_bestThrow : ByteArray := prog_1_method_11_code
def yX6_bestThrow : MethodName := ⟨RX6, "bestThrow", "(I)I"⟩
abbrev cX6_hopFault : ByteArray := prog_1_method_12_code
def yX6_hopFault : MethodName := ⟨RX6, "hopFault", "(I)I"⟩
abbrev cX6_cost : ByteArray := prog_1_method_13_code
def yX6_cost : MethodName := ⟨RX6, "cost", "(IZ)I"⟩
abbrev cX6_place : ByteArray := prog_1_method_14_code
def yX6_place : MethodName := ⟨RX6, "place", "(IZI)I"⟩
abbrev cX6_leastReach : ByteArray := prog_1_method_15_code
def yX6_leastReach : MethodName := ⟨RX6, "leastReach", "(I)I"⟩
abbrev cX6_playable : ByteArray := prog_1_method_16_code
def yX6_playable : MethodName := ⟨RX6, "playable", "(I)I"⟩
abbrev cX6_bestClaim : ByteArray := prog_1_method_17_code
def yX6_bestClaim : MethodName := ⟨RX6, "bestClaim", "(I)I"⟩
abbrev cX6_turnsToCrown : ByteArray := prog_1_method_18_code
def yX6_turnsToCrown : MethodName := ⟨RX6, "turnsToCrown", "(I)I"⟩
abbrev cX6_firstThrough : ByteArray := prog_1_method_19_code
def yX6_firstThrough : MethodName := ⟨RX6, "firstThrough", "()I"⟩
abbrev cX6_meanCost : ByteArray := prog_1_method_20_code
def yX6_meanCost : MethodName := ⟨RX6, "meanCost", "()D"⟩
abbrev cX6_success : ByteArray := prog_1_method_21_code
def yX6_success : MethodName := ⟨RX6, "success", "()F"⟩
abbrev cX6_turn : ByteArray := prog_1_method_22_code
def yX6_turn : MethodName := ⟨RX6, "turn", "(II)I"⟩
abbrev cX6_pass : ByteArray := prog_1_method_23_code
def yX6_pass : MethodName := ⟨RX6, "pass", "()I"⟩
abbrev cX6_claim : ByteArray := prog_1_method_24_code
def yX6_claim : MethodName := ⟨RX6, "claim", "(II)I"⟩
abbrev cX6_release : ByteArray := prog_1_method_25_code
def yX6_release : MethodName := ⟨RX6, "release", "(I)I"⟩
abbrev cX6_setDrift : ByteArray := prog_1_method_26_code
def yX6_setDrift : MethodName := ⟨RX6, "setDrift", "(I)I"⟩
abbrev cX6_setPlayer : ByteArray := prog_1_method_27_code
def yX6_setPlayer : MethodName := ⟨RX6, "setPlayer", "(III)I"⟩
abbrev cX6_mark : ByteArray := prog_1_method_28_code
def yX6_mark : MethodName := ⟨RX6, "mark", "(II)I"⟩
abbrev cX6_undo : ByteArray := prog_1_method_29_code
def yX6_undo : MethodName := ⟨RX6, "undo", "()I"⟩
abbrev cX6_save : ByteArray := prog_1_method_30_code
def yX6_save : MethodName := ⟨RX6, "save", "(I)V"⟩
abbrev cX6_restore : ByteArray := prog_1_method_31_code
def yX6_restore : MethodName := ⟨RX6, "restore", "(I)I"⟩
abbrev cX6_writeCourt : ByteArray := prog_1_method_32_code
def yX6_writeCourt : MethodName := ⟨RX6, "writeCourt", "()I"⟩
abbrev cX6_writtenByte : ByteArray := prog_1_method_33_code
def yX6_writtenByte : MethodName := ⟨RX6, "writtenByte", "(I)I"⟩
abbrev cX6_checkPlayer : ByteArray := prog_1_method_34_code
def yX6_checkPlayer : MethodName := ⟨RX6, "checkPlayer", "(I)V"⟩
abbrev cX6_checkSquare : ByteArray := prog_1_method_35_code
def yX6_checkSquare : MethodName := ⟨RX6, "checkSquare", "(I)V"⟩
abbrev cX6_checkRow : ByteArray := prog_1_method_36_code
def yX6_checkRow : MethodName := ⟨RX6, "checkRow", "(I)V"⟩
abbrev cX6_checkSlot : ByteArray := prog_1_method_37_code
def yX6_checkSlot : MethodName := ⟨RX6, "checkSlot", "(I)V"⟩
abbrev cX6_checkThrow : ByteArray := prog_1_method_38_code
def yX6_checkThrow : MethodName := ⟨RX6, "checkThrow", "(II)V"⟩
abbrev cX6_lowestOf : ByteArray := prog_1_method_39_code
def yX6_lowestOf : MethodName := ⟨RX6, "lowestOf", "(I)I"⟩
abbrev cX6_highestOf : ByteArray := prog_1_method_40_code
def yX6_highestOf : MethodName := ⟨RX6, "highestOf", "(II)I"⟩
def RX7 : String := "HopscotchCourtModel"
def TX7 : u_T := fun k => match k with
  | 0 => ("HopscotchCourtModel", "a", "[I", true)
  | 1 => ("HopscotchCourtModel", "aside", "[I", true)
  | 2 => ("HopscotchCourtModel", "tried", "[I", true)
  | 3 => ("HopscotchCourtModel", "kept", "[I", true)
  | 4 => ("HopscotchCourtModel", "saved", "[I", true)
  | 5 => ("HopscotchCourtModel", "isSaved", "[Z", true)
  | 6 => ("HopscotchCourtModel", "keptMany", "I", false)
  | 7 => ("HopscotchCourtModel", "thrown", "I", false)
  | 8 => ("HopscotchCourtModel", "buffer", "[I", true)
  | 9 => ("HopscotchCourtModel", "buffered", "I", false)
  | 10 => ("HopscotchCourtModel", "at", "I", false)
  | 11 => ("HopscotchCourtModel", "behind", "I", false)
  | 12 => ("HopscotchCourtModel", "kind", "I", false)
  | 13 => ("HopscotchCourtModel", "number", "I", false)
  | 14 => ("HopscotchCourtModel", "wrong", "I", false)
  | 15 => ("HopscotchCourtModel", "wrongAt", "I", false)
  | 16 => ("HopscotchCourtModel", "errorAt", "I", false)
  | 17 => ("HopscotchCourtModel", "least", "[I", true)
  | 18 => ("HopscotchCourtModel", "foot", "[I", true)
  | 19 => ("HopscotchCourtModel", "way", "[I", true)
  | 20 => ("HopscotchCourtModel", "must0", "I", false)
  | 21 => ("HopscotchCourtModel", "wayMany", "I", false)
  | 22 => ("HopscotchCourtModel", "playedMany", "I", false)
  | 23 => ("HopscotchCourtModel", "unused", "I", false)
  | 24 => ("HopscotchCourtModel", "unusedCost", "I", false)
  | 25 => ("HopscotchCourtModel", "written", "[I", true)
  | _ => ("HopscotchCourtModel", "writtenMany", "I", false)
def tyX7 : Nat → FieldType := fun k => match k with
  | 0 => .array .int
  | 1 => .array .int
  | 2 => .array .int
  | 3 => .array .int
  | 4 => .array .int
  | 5 => .array .boolean
  | 6 => .int
  | 7 => .int
  | 8 => .array .int
  | 9 => .int
  | 10 => .int
  | 11 => .int
  | 12 => .int
  | 13 => .int
  | 14 => .int
  | 15 => .int
  | 16 => .int
  | 17 => .array .int
  | 18 => .array .int
  | 19 => .array .int
  | 20 => .int
  | 21 => .int
  | 22 => .int
  | 23 => .int
  | 24 => .int
  | 25 => .array .int
  | _ => .int
abbrev wsX70 : List Cond := u_ws RX7 TX7 27
theorem nmX7 : ∀ a, a < 27 → ∀ b, b < 27 → a ≠ b → (TX7 a).2.1 ≠ (TX7 b).2.1 := by decide +kernel
theorem tyX7_ok : ∀ k, k < 27 → parseFieldDescriptor (TX7 k).2.2.1 = some (tyX7 k) := by decide +kernel
abbrev cX7_init : ByteArray := prog_9_method_1_code
def yX7_init : MethodName := ⟨RX7, "<init>", "()V"⟩
abbrev cX7_begins : ByteArray := prog_9_method_2_code
def yX7_begins : MethodName := ⟨RX7, "begins", "()V"⟩
abbrev cX7_beginsPlayer : ByteArray := prog_9_method_3_code
def yX7_beginsPlayer : MethodName := ⟨RX7, "beginsPlayer", "(I)V"⟩
abbrev cX7_thrown : ByteArray := prog_9_method_4_code
def yX7_thrown : MethodName := ⟨RX7, "thrown", "()I"⟩
abbrev cX7_isIn : ByteArray := prog_9_method_5_code
def yX7_isIn : MethodName := ⟨RX7, "isIn", "(III)Z"⟩
abbrev cX7_copies : ByteArray := prog_9_method_6_code
def yX7_copies : MethodName := ⟨RX7, "copies", "([II[II)V"⟩
abbrev cX7_keeps : ByteArray := prog_9_method_7_code
def yX7_keeps : MethodName := ⟨RX7, "keeps", "([I)V"⟩
abbrev cX7_undo : ByteArray := prog_9_method_8_code
def yX7_undo : MethodName := ⟨RX7, "undo", "()I"⟩
abbrev cX7_save : ByteArray := prog_9_method_9_code
def yX7_save : MethodName := ⟨RX7, "save", "(I)V"⟩
abbrev cX7_restore : ByteArray := prog_9_method_10_code
def yX7_restore : MethodName := ⟨RX7, "restore", "(I)I"⟩
abbrev cX7_byteOf : ByteArray := prog_9_method_11_code
def yX7_byteOf : MethodName := ⟨RX7, "byteOf", "(IIIIII)I"⟩
abbrev cX7_append : ByteArray := prog_9_method_12_code
def yX7_append : MethodName := ⟨RX7, "append", "(IIIII)I"⟩
abbrev cX7_see : ByteArray := prog_9_method_13_code
def yX7_see : MethodName := ⟨RX7, "see", "(I)I"⟩
abbrev cX7_isLetter : ByteArray := prog_9_method_14_code
def yX7_isLetter : MethodName := ⟨RX7, "isLetter", "(I)Z"⟩
abbrev cX7_isDigit : ByteArray := prog_9_method_15_code
def yX7_isDigit : MethodName := ⟨RX7, "isDigit", "(I)Z"⟩
abbrev cX7_next : ByteArray := prog_9_method_16_code
def yX7_next : MethodName := ⟨RX7, "next", "()V"⟩
abbrev cX7_isWord : ByteArray := prog_9_method_17_code
def yX7_isWord : MethodName := ⟨RX7, "isWord", "(Ljava/lang/String;)Z"⟩
abbrev cX7_isSign : ByteArray := prog_9_method_18_code
def yX7_isSign : MethodName := ⟨RX7, "isSign", "(C)Z"⟩
abbrev cX7_fails : ByteArray := prog_9_method_19_code
def yX7_fails : MethodName := ⟨RX7, "fails", "(I)V"⟩
abbrev cX7_must : ByteArray := prog_9_method_20_code
def yX7_must : MethodName := ⟨RX7, "must", "(Z)V"⟩
abbrev cX7_stands : ByteArray := prog_9_method_21_code
def yX7_stands : MethodName := ⟨RX7, "stands", "(II)I"⟩
abbrev cX7_takes : ByteArray := prog_9_method_22_code
def yX7_takes : MethodName := ⟨RX7, "takes", "(II)I"⟩
abbrev cX7_isTaken : ByteArray := prog_9_method_23_code
def yX7_isTaken : MethodName := ⟨RX7, "isTaken", "(Ljava/lang/String;)Z"⟩
abbrev cX7_isRow : ByteArray := prog_9_method_24_code
def yX7_isRow : MethodName := ⟨RX7, "isRow", "()Z"⟩
abbrev cX7_readsRow : ByteArray := prog_9_method_25_code
def yX7_readsRow : MethodName := ⟨RX7, "readsRow", "()V"⟩
abbrev cX7_isName : ByteArray := prog_9_method_26_code
def yX7_isName : MethodName := ⟨RX7, "isName", "(I)Z"⟩
abbrev cX7_readsPlayer : ByteArray := prog_9_method_27_code
def yX7_readsPlayer : MethodName := ⟨RX7, "readsPlayer", "()V"⟩
abbrev cX7_readsOwned : ByteArray := prog_9_method_28_code
def yX7_readsOwned : MethodName := ⟨RX7, "readsOwned", "(I)V"⟩
abbrev cX7_load : ByteArray := prog_9_method_29_code
def yX7_load : MethodName := ⟨RX7, "load", "()I"⟩
abbrev cX7_errorPosition : ByteArray := prog_9_method_30_code
def yX7_errorPosition : MethodName := ⟨RX7, "errorPosition", "()I"⟩
abbrev cX7_squares : ByteArray := prog_9_method_31_code
def yX7_squares : MethodName := ⟨RX7, "squares", "()I"⟩
abbrev cX7_players : ByteArray := prog_9_method_32_code
def yX7_players : MethodName := ⟨RX7, "players", "()I"⟩
abbrev cX7_of : ByteArray := prog_9_method_33_code
def yX7_of : MethodName := ⟨RX7, "of", "(II)I"⟩
abbrev cX7_sets : ByteArray := prog_9_method_34_code
def yX7_sets : MethodName := ⟨RX7, "sets", "(III)V"⟩
abbrev cX7_ownerOf : ByteArray := prog_9_method_35_code
def yX7_ownerOf : MethodName := ⟨RX7, "ownerOf", "(I)I"⟩
abbrev cX7_owns : ByteArray := prog_9_method_36_code
def yX7_owns : MethodName := ⟨RX7, "owns", "(II)V"⟩
abbrev cX7_isPlayer : ByteArray := prog_9_method_37_code
def yX7_isPlayer : MethodName := ⟨RX7, "isPlayer", "(I)Z"⟩
abbrev cX7_isSquare : ByteArray := prog_9_method_38_code
def yX7_isSquare : MethodName := ⟨RX7, "isSquare", "(I)Z"⟩
abbrev cX7_firstOf : ByteArray := prog_9_method_39_code
def yX7_firstOf : MethodName := ⟨RX7, "firstOf", "(I)I"⟩
abbrev cX7_rowOf : ByteArray := prog_9_method_40_code
def yX7_rowOf : MethodName := ⟨RX7, "rowOf", "(I)I"⟩
abbrev cX7_isForbidden : ByteArray := prog_9_method_41_code
def yX7_isForbidden : MethodName := ⟨RX7, "isForbidden", "(II)Z"⟩
abbrev cX7_openFrom : ByteArray := prog_9_method_42_code
def yX7_openFrom : MethodName := ⟨RX7, "openFrom", "(II)I"⟩
abbrev cX7_openRound : ByteArray := prog_9_method_43_code
def yX7_openRound : MethodName := ⟨RX7, "openRound", "(II)I"⟩
abbrev cX7_putsRight : ByteArray := prog_9_method_44_code
def yX7_putsRight : MethodName := ⟨RX7, "putsRight", "(I)V"⟩
abbrev cX7_isMarked : ByteArray := prog_9_method_45_code
def yX7_isMarked : MethodName := ⟨RX7, "isMarked", "(II)Z"⟩
abbrev cX7_isUsable : ByteArray := prog_9_method_46_code
def yX7_isUsable : MethodName := ⟨RX7, "isUsable", "(III)Z"⟩
abbrev cX7_footingOf : ByteArray := prog_9_method_47_code
def yX7_footingOf : MethodName := ⟨RX7, "footingOf", "(III)I"⟩
abbrev cX7_last : ByteArray := prog_9_method_48_code
def yX7_last : MethodName := ⟨RX7, "last", "()I"⟩
abbrev cX7_rowAt : ByteArray := prog_9_method_49_code
def yX7_rowAt : MethodName := ⟨RX7, "rowAt", "(IZ)I"⟩
abbrev cX7_runAt : ByteArray := prog_9_method_50_code
def yX7_runAt : MethodName := ⟨RX7, "runAt", "(II)I"⟩
abbrev cX7_mayHop : ByteArray := prog_9_method_51_code
def yX7_mayHop : MethodName := ⟨RX7, "mayHop", "(IIII)Z"⟩
abbrev cX7_leastBy : ByteArray := prog_9_method_52_code
def yX7_leastBy : MethodName := ⟨RX7, "leastBy", "(IIII)I"⟩
abbrev cX7_lays : ByteArray := prog_9_method_53_code
def yX7_lays : MethodName := ⟨RX7, "lays", "(IIIZ)I"⟩
abbrev cX7_faultWith : ByteArray := prog_9_method_54_code
def yX7_faultWith : MethodName := ⟨RX7, "faultWith", "(III)I"⟩
abbrev cX7_hopFaultOf : ByteArray := prog_9_method_55_code
def yX7_hopFaultOf : MethodName := ⟨RX7, "hopFaultOf", "(I)I"⟩
abbrev cX7_owned : ByteArray := prog_9_method_56_code
def yX7_owned : MethodName := ⟨RX7, "owned", "(I)I"⟩
abbrev cX7_bits : ByteArray := prog_9_method_57_code
def yX7_bits : MethodName := ⟨RX7, "bits", "(I)I"⟩
abbrev cX7_ownedAll : ByteArray := prog_9_method_58_code
def yX7_ownedAll : MethodName := ⟨RX7, "ownedAll", "()I"⟩
abbrev cX7_markers : ByteArray := prog_9_method_59_code
def yX7_markers : MethodName := ⟨RX7, "markers", "()I"⟩
abbrev cX7_richest : ByteArray := prog_9_method_60_code
def yX7_richest : MethodName := ⟨RX7, "richest", "()I"⟩
abbrev cX7_count : ByteArray := prog_9_method_61_code
def yX7_count : MethodName := ⟨RX7, "count", "(I)I"⟩
abbrev cX7_player : ByteArray := prog_9_method_62_code
def yX7_player : MethodName := ⟨RX7, "player", "(II)I"⟩
abbrev cX7_markersOn : ByteArray := prog_9_method_63_code
def yX7_markersOn : MethodName := ⟨RX7, "markersOn", "(I)I"⟩
abbrev cX7_square : ByteArray := prog_9_method_64_code
def yX7_square : MethodName := ⟨RX7, "square", "(II)I"⟩
abbrev cX7_isRowOf : ByteArray := prog_9_method_65_code
def yX7_isRowOf : MethodName := ⟨RX7, "isRowOf", "(I)Z"⟩
abbrev cX7_row : ByteArray := prog_9_method_66_code
def yX7_row : MethodName := ⟨RX7, "row", "(I)I"⟩
abbrev cX7_footing : ByteArray := prog_9_method_67_code
def yX7_footing : MethodName := ⟨RX7, "footing", "(II)I"⟩
abbrev cX7_faultOf : ByteArray := prog_9_method_68_code
def yX7_faultOf : MethodName := ⟨RX7, "faultOf", "(III)I"⟩
abbrev cX7_isThrow : ByteArray := prog_9_method_69_code
def yX7_isThrow : MethodName := ⟨RX7, "isThrow", "(II)Z"⟩
abbrev cX7_throwFault : ByteArray := prog_9_method_70_code
def yX7_throwFault : MethodName := ⟨RX7, "throwFault", "(III)I"⟩
abbrev cX7_bestOf : ByteArray := prog_9_method_71_code
def yX7_bestOf : MethodName := ⟨RX7, "bestOf", "(I)I"⟩
abbrev cX7_bestThrow : ByteArray := prog_9_method_72_code
def yX7_bestThrow : MethodName := ⟨RX7, "bestThrow", "(I)I"⟩
abbrev cX7_hopFault : ByteArray := prog_9_method_73_code
def yX7_hopFault : MethodName := ⟨RX7, "hopFault", "(I)I"⟩
abbrev cX7_costOf : ByteArray := prog_9_method_74_code
def yX7_costOf : MethodName := ⟨RX7, "costOf", "(IZ)I"⟩
abbrev cX7_cost : ByteArray := prog_9_method_75_code
def yX7_cost : MethodName := ⟨RX7, "cost", "(IZ)I"⟩
abbrev cX7_place : ByteArray := prog_9_method_76_code
def yX7_place : MethodName := ⟨RX7, "place", "(IZI)I"⟩
abbrev cX7_leastReach : ByteArray := prog_9_method_77_code
def yX7_leastReach : MethodName := ⟨RX7, "leastReach", "(I)I"⟩
abbrev cX7_playableOf : ByteArray := prog_9_method_78_code
def yX7_playableOf : MethodName := ⟨RX7, "playableOf", "(I)I"⟩
abbrev cX7_playable : ByteArray := prog_9_method_79_code
def yX7_playable : MethodName := ⟨RX7, "playable", "(I)I"⟩
abbrev cX7_bestClaim : ByteArray := prog_9_method_80_code
def yX7_bestClaim : MethodName := ⟨RX7, "bestClaim", "(I)I"⟩
abbrev cX7_plays : ByteArray := prog_9_method_81_code
def yX7_plays : MethodName := ⟨RX7, "plays", "(I)I"⟩
abbrev cX7_turnsToCrown : ByteArray := prog_9_method_82_code
def yX7_turnsToCrown : MethodName := ⟨RX7, "turnsToCrown", "(I)I"⟩
abbrev cX7_firstThrough : ByteArray := prog_9_method_83_code
def yX7_firstThrough : MethodName := ⟨RX7, "firstThrough", "()I"⟩
abbrev cX7_meanCost : ByteArray := prog_9_method_84_code
def yX7_meanCost : MethodName := ⟨RX7, "meanCost", "()D"⟩
abbrev cX7_success : ByteArray := prog_9_method_85_code
def yX7_success : MethodName := ⟨RX7, "success", "()F"⟩
abbrev cX7_hops : ByteArray := prog_9_method_86_code
def yX7_hops : MethodName := ⟨RX7, "hops", "(IZI)V"⟩
abbrev cX7_goesThrough : ByteArray := prog_9_method_87_code
def yX7_goesThrough : MethodName := ⟨RX7, "goesThrough", "(I)V"⟩
abbrev cX7_ends : ByteArray := prog_9_method_88_code
def yX7_ends : MethodName := ⟨RX7, "ends", "(II)V"⟩
abbrev cX7_turns : ByteArray := prog_9_method_89_code
def yX7_turns : MethodName := ⟨RX7, "turns", "(II)I"⟩
abbrev cX7_turn : ByteArray := prog_9_method_90_code
def yX7_turn : MethodName := ⟨RX7, "turn", "(II)I"⟩
abbrev cX7_pass : ByteArray := prog_9_method_91_code
def yX7_pass : MethodName := ⟨RX7, "pass", "()I"⟩
abbrev cX7_claim : ByteArray := prog_9_method_92_code
def yX7_claim : MethodName := ⟨RX7, "claim", "(II)I"⟩
abbrev cX7_release : ByteArray := prog_9_method_93_code
def yX7_release : MethodName := ⟨RX7, "release", "(I)I"⟩
abbrev cX7_setDrift : ByteArray := prog_9_method_94_code
def yX7_setDrift : MethodName := ⟨RX7, "setDrift", "(I)I"⟩
abbrev cX7_mayBe : ByteArray := prog_9_method_95_code
def yX7_mayBe : MethodName := ⟨RX7, "mayBe", "(II)Z"⟩
abbrev cX7_setPlayer : ByteArray := prog_9_method_96_code
def yX7_setPlayer : MethodName := ⟨RX7, "setPlayer", "(III)I"⟩
abbrev cX7_mark : ByteArray := prog_9_method_97_code
def yX7_mark : MethodName := ⟨RX7, "mark", "(II)I"⟩
abbrev cX7_says : ByteArray := prog_9_method_98_code
def yX7_says : MethodName := ⟨RX7, "says", "(I)V"⟩
abbrev cX7_saysSquare : ByteArray := prog_9_method_99_code
def yX7_saysSquare : MethodName := ⟨RX7, "saysSquare", "(I)V"⟩
abbrev cX7_writeCourt : ByteArray := prog_9_method_100_code
def yX7_writeCourt : MethodName := ⟨RX7, "writeCourt", "()I"⟩
abbrev cX7_writtenByte : ByteArray := prog_9_method_101_code
def yX7_writtenByte : MethodName := ⟨RX7, "writtenByte", "(I)I"⟩
def RJ6 : String := "java/lang/Integer"
def TJ6 : u_T := fun k => match k with
  | _ => ("", "", "", false)
def tyJ6 : Nat → FieldType := fun k => match k with
  | _ => .int
abbrev wsJ60 : List Cond := u_ws RJ6 TJ6 0
theorem nmJ6 : ∀ a, a < 0 → ∀ b, b < 0 → a ≠ b → (TJ6 a).2.1 ≠ (TJ6 b).2.1 := by decide +kernel
theorem tyJ6_ok : ∀ k, k < 0 → parseFieldDescriptor (TJ6 k).2.2.1 = some (tyJ6 k) := by decide +kernel
abbrev cJ6_bitCount_0f7a4 : ByteArray := prog_14_method_49_code
def yJ6_bitCount_0f7a4 : MethodName := ⟨RJ6, "bitCount", "(I)I"⟩
def RJ9 : String := "java/lang/Math"
def TJ9 : u_T := fun k => match k with
  | _ => ("", "", "", false)
def tyJ9 : Nat → FieldType := fun k => match k with
  | _ => .int
abbrev wsJ90 : List Cond := u_ws RJ9 TJ9 0
theorem nmJ9 : ∀ a, a < 0 → ∀ b, b < 0 → a ≠ b → (TJ9 a).2.1 ≠ (TJ9 b).2.1 := by decide +kernel
theorem tyJ9_ok : ∀ k, k < 0 → parseFieldDescriptor (TJ9 k).2.2.1 = some (tyJ9 k) := by decide +kernel
abbrev cJ9_max_7cf53 : ByteArray := prog_15_method_65_code
def yJ9_max_7cf53 : MethodName := ⟨RJ9, "max", "(II)I"⟩
abbrev cJ9_min_7cf53 : ByteArray := prog_15_method_69_code
def yJ9_min_7cf53 : MethodName := ⟨RJ9, "min", "(II)I"⟩
def RJ0 : String := "java/lang/String"
def TJ0 : u_T := fun k => match k with
  | _ => ("", "", "", false)
def tyJ0 : Nat → FieldType := fun k => match k with
  | _ => .int
abbrev wsJ00 : List Cond := u_ws RJ0 TJ0 0
theorem nmJ0 : ∀ a, a < 0 → ∀ b, b < 0 → a ≠ b → (TJ0 a).2.1 ≠ (TJ0 b).2.1 := by decide +kernel
theorem tyJ0_ok : ∀ k, k < 0 → parseFieldDescriptor (TJ0 k).2.2.1 = some (tyJ0 k) := by decide +kernel
abbrev cJ0_length_8abf5 : ByteArray := prog_17_method_54_code
def yJ0_length_8abf5 : MethodName := ⟨RJ0, "length", "()I"⟩
abbrev cJ0_charAt_5068e : ByteArray := prog_17_method_56_code
def yJ0_charAt_5068e : MethodName := ⟨RJ0, "charAt", "(I)C"⟩
abbrev cJ0_coder_7d493 : ByteArray := prog_17_method_152_code
def yJ0_coder_7d493 : MethodName := ⟨RJ0, "coder", "()B"⟩
abbrev cJ0_isLatin1_aae02 : ByteArray := prog_17_method_154_code
def yJ0_isLatin1_aae02 : MethodName := ⟨RJ0, "isLatin1", "()Z"⟩
abbrev cJ0_checkIndex_df160 : ByteArray := prog_17_method_155_code
def yJ0_checkIndex_df160 : MethodName := ⟨RJ0, "checkIndex", "(II)V"⟩
def RJ1 : String := "java/lang/StringLatin1"
def TJ1 : u_T := fun k => match k with
  | _ => ("", "", "", false)
def tyJ1 : Nat → FieldType := fun k => match k with
  | _ => .int
abbrev wsJ10 : List Cond := u_ws RJ1 TJ1 0
theorem nmJ1 : ∀ a, a < 0 → ∀ b, b < 0 → a ≠ b → (TJ1 a).2.1 ≠ (TJ1 b).2.1 := by decide +kernel
theorem tyJ1_ok : ∀ k, k < 0 → parseFieldDescriptor (TJ1 k).2.2.1 = some (tyJ1 k) := by decide +kernel
abbrev cJ1_charAt_3b067 : ByteArray := prog_18_method_2_code
def yJ1_charAt_3b067 : MethodName := ⟨RJ1, "charAt", "([BI)C"⟩
def RJ2 : String := "java/lang/StringUTF16"
def TJ2 : u_T := fun k => match k with
  | _ => ("", "", "", false)
def tyJ2 : Nat → FieldType := fun k => match k with
  | _ => .int
abbrev wsJ20 : List Cond := u_ws RJ2 TJ2 0
theorem nmJ2 : ∀ a, a < 0 → ∀ b, b < 0 → a ≠ b → (TJ2 a).2.1 ≠ (TJ2 b).2.1 := by decide +kernel
theorem tyJ2_ok : ∀ k, k < 0 → parseFieldDescriptor (TJ2 k).2.2.1 = some (tyJ2 k) := by decide +kernel
abbrev cJ2_getChar_3b067 : ByteArray := prog_19_method_5_code
def yJ2_getChar_3b067 : MethodName := ⟨RJ2, "getChar", "([BI)C"⟩
abbrev cJ2_length_9d52b : ByteArray := prog_19_method_6_code
def yJ2_length_9d52b : MethodName := ⟨RJ2, "length", "([B)I"⟩
abbrev cJ2_charAt_3b067 : ByteArray := prog_19_method_83_code
def yJ2_charAt_3b067 : MethodName := ⟨RJ2, "charAt", "([BI)C"⟩
abbrev cJ2_checkIndex_2214a : ByteArray := prog_19_method_91_code
def yJ2_checkIndex_2214a : MethodName := ⟨RJ2, "checkIndex", "(I[B)V"⟩
def RJ10 : String := "java/lang/System"
def TJ10 : u_T := fun k => match k with
  | _ => ("", "", "", false)
def tyJ10 : Nat → FieldType := fun k => match k with
  | _ => .int
abbrev wsJ100 : List Cond := u_ws RJ10 TJ10 0
theorem nmJ10 : ∀ a, a < 0 → ∀ b, b < 0 → a ≠ b → (TJ10 a).2.1 ≠ (TJ10 b).2.1 := by decide +kernel
theorem tyJ10_ok : ∀ k, k < 0 → parseFieldDescriptor (TJ10 k).2.2.1 = some (tyJ10 k) := by decide +kernel
def RJ3 : String := "jdk/internal/util/Preconditions"
def TJ3 : u_T := fun k => match k with
  | _ => ("", "", "", false)
def tyJ3 : Nat → FieldType := fun k => match k with
  | _ => .int
abbrev wsJ30 : List Cond := u_ws RJ3 TJ3 0
theorem nmJ3 : ∀ a, a < 0 → ∀ b, b < 0 → a ≠ b → (TJ3 a).2.1 ≠ (TJ3 b).2.1 := by decide +kernel
theorem tyJ3_ok : ∀ k, k < 0 → parseFieldDescriptor (TJ3 k).2.2.1 = some (tyJ3 k) := by decide +kernel
abbrev cJ3_checkIndex_8e157 : ByteArray := prog_22_method_11_code
def yJ3_checkIndex_8e157 : MethodName := ⟨RJ3, "checkIndex", "(IILjava/util/function/BiFunction;)I"⟩
def RL : String := "HopscotchCourtLaw"
abbrev cL_append : ByteArray := method_3_code
def yL_append : MethodName := ⟨RL, "append", "(LHopscotchCourt;IIIII[J)I"⟩
abbrev cL_count : ByteArray := method_4_code
def yL_count : MethodName := ⟨RL, "count", "(LHopscotchCourt;I[J)I"⟩
abbrev cL_player : ByteArray := method_5_code
def yL_player : MethodName := ⟨RL, "player", "(LHopscotchCourt;II[J)I"⟩
abbrev cL_square : ByteArray := method_6_code
def yL_square : MethodName := ⟨RL, "square", "(LHopscotchCourt;II[J)I"⟩
abbrev cL_row : ByteArray := method_7_code
def yL_row : MethodName := ⟨RL, "row", "(LHopscotchCourt;I[J)I"⟩
abbrev cL_footing : ByteArray := method_8_code
def yL_footing : MethodName := ⟨RL, "footing", "(LHopscotchCourt;II[J)I"⟩
abbrev cL_throwFault : ByteArray := method_9_code
def yL_throwFault : MethodName := ⟨RL, "throwFault", "(LHopscotchCourt;III[J)I"⟩
abbrev cL_bestThrow : ByteArray := method_10_code
def yL_bestThrow : MethodName := ⟨RL, "bestThrow", "(LHopscotchCourt;I[J)I"⟩
abbrev cL_hopFault : ByteArray := method_11_code
def yL_hopFault : MethodName := ⟨RL, "hopFault", "(LHopscotchCourt;I[J)I"⟩
abbrev cL_cost : ByteArray := method_12_code
def yL_cost : MethodName := ⟨RL, "cost", "(LHopscotchCourt;IZ[J)I"⟩
abbrev cL_place : ByteArray := method_13_code
def yL_place : MethodName := ⟨RL, "place", "(LHopscotchCourt;IZI[J)I"⟩
abbrev cL_leastReach : ByteArray := method_14_code
def yL_leastReach : MethodName := ⟨RL, "leastReach", "(LHopscotchCourt;I[J)I"⟩
abbrev cL_playable : ByteArray := method_15_code
def yL_playable : MethodName := ⟨RL, "playable", "(LHopscotchCourt;I[J)I"⟩
abbrev cL_bestClaim : ByteArray := method_16_code
def yL_bestClaim : MethodName := ⟨RL, "bestClaim", "(LHopscotchCourt;I[J)I"⟩
abbrev cL_turnsToCrown : ByteArray := method_17_code
def yL_turnsToCrown : MethodName := ⟨RL, "turnsToCrown", "(LHopscotchCourt;I[J)I"⟩
abbrev cL_turn : ByteArray := method_18_code
def yL_turn : MethodName := ⟨RL, "turn", "(LHopscotchCourt;II[J)I"⟩
abbrev cL_claim : ByteArray := method_19_code
def yL_claim : MethodName := ⟨RL, "claim", "(LHopscotchCourt;II[J)I"⟩
abbrev cL_release : ByteArray := method_20_code
def yL_release : MethodName := ⟨RL, "release", "(LHopscotchCourt;I[J)I"⟩
abbrev cL_setDrift : ByteArray := method_21_code
def yL_setDrift : MethodName := ⟨RL, "setDrift", "(LHopscotchCourt;I[J)I"⟩
abbrev cL_setPlayer : ByteArray := method_22_code
def yL_setPlayer : MethodName := ⟨RL, "setPlayer", "(LHopscotchCourt;III[J)I"⟩
abbrev cL_mark : ByteArray := method_23_code
def yL_mark : MethodName := ⟨RL, "mark", "(LHopscotchCourt;II[J)I"⟩
abbrev cL_undo : ByteArray := method_24_code
def yL_undo : MethodName := ⟨RL, "undo", "(LHopscotchCourt;[J)I"⟩
abbrev cL_save : ByteArray := method_25_code
def yL_save : MethodName := ⟨RL, "save", "(LHopscotchCourt;I)I"⟩
abbrev cL_restore : ByteArray := method_26_code
def yL_restore : MethodName := ⟨RL, "restore", "(LHopscotchCourt;I[J)I"⟩
abbrev cL_writtenByte : ByteArray := method_27_code
def yL_writtenByte : MethodName := ⟨RL, "writtenByte", "(LHopscotchCourt;I[J)I"⟩
abbrev cL_law : ByteArray := code
def yL_law : MethodName := ⟨RL, "law", "([I)Z"⟩
abbrev vwCl : List vw_C := [(RX0, TX0, 15), (RX1, TX1, 2), (RX2, TX2, 3), (RX3, TX3, 7), (RX4, TX4, 11), (RX5, TX5, 2), (RX6, TX6, 8), (RX7, TX7, 27)]
/-! ===== END printed: names ===== -/
end
section
/-! THE WALK OVER A WORLD OF NUMBERS: things are numbered (ids), a world says for each id and place which whole number stands there; references are fixed once the two systems are made. RR: from here the machine comes to a point that K names, or throws as X says. -/
abbrev zWd : Type := Nat → Int → Int
abbrev zK : Type := Nat → Nat → List Value → List Value → zWd → Prop
abbrev zX : Type := String → zWd → Prop
abbrev zM : Type := String × ByteArray × Nat × MethodName × Option FieldType
abbrev zY : Type := ClassId × ClassId × ClassId × ClassId × ClassId
def zI (z : Int) : Value := .int (Int32.ofInt z)
def zR (z : Int) : Prop := -2147483648 ≤ z ∧ z < 2147483648
theorem zR_toInt {z : Int} (h : zR z) : (Int32.ofInt z).toInt = z := by
  rw [Int32.toInt_ofInt]
  exact Jvm.LawKit.bmod32 (by have := h.1; omega) (by have := h.2; omega)
theorem zR_lt {a b : Int} (ha : zR a) (hb : zR b) : Int32.ofInt a < Int32.ofInt b ↔ a < b := by
  rw [Int32.lt_iff_toInt_lt, zR_toInt ha, zR_toInt hb]
theorem zR_le {a b : Int} (ha : zR a) (hb : zR b) : Int32.ofInt a ≤ Int32.ofInt b ↔ a ≤ b := by
  rw [Int32.le_iff_toInt_le, zR_toInt ha, zR_toInt hb]
theorem zR_eq {a b : Int} (ha : zR a) (hb : zR b) : Int32.ofInt a = Int32.ofInt b ↔ a = b := by
  rw [← Int32.toInt_inj, zR_toInt ha, zR_toInt hb]
theorem zR_zero : zR 0 := by unfold zR; omega
theorem z_ofInt0 : Int32.ofInt 0 = 0 := rfl
theorem zR_of (x : Int32) : zR x.toInt := ⟨by have := Int32.le_toInt x; simpa using this, by have := Int32.toInt_lt x; simpa using this⟩
theorem z_back (x : Int32) : Int32.ofInt x.toInt = x := Int32.ofInt_toInt x
theorem z_clamp {i : Int} (h0 : 0 ≤ i) (h1 : i < 2147483648) : (Int32.ofInt i).toNatClampNeg = i.toNat := by
  show (Int32.ofInt i).toInt.toNat = i.toNat
  rw [zR_toInt ⟨by omega, h1⟩]
theorem z_in {i : Int} {n : Nat} (h0 : 0 ≤ i) (h1 : i < n) (hn : n < 2147483648) : vp_in (Int32.ofInt i) n := by
  rw [vp_in_iff, zR_toInt ⟨by omega, by omega⟩]
  exact ⟨h0, h1⟩
def zup (W : zWd) (k : Nat) (i v : Int) : zWd := fun k' i' => if k' = k then (if i' = i then v else W k' i') else W k' i'
theorem zup_s {W : zWd} {k : Nat} {i v : Int} : zup W k i v k i = v := by simp [zup]
theorem zup_i {W : zWd} {k k' : Nat} {i i' v : Int} (h : i' ≠ i) : zup W k i v k' i' = W k' i' := by simp [zup, h]
theorem zup_k {W : zWd} {k k' : Nat} {i i' v : Int} (h : k' ≠ k) : zup W k i v k' i' = W k' i' := by simp [zup, h]
/-! which thing an id is: 0..7 an object of that class, 10 ints, 11 bytes, 12 booleans, 13 courts, 14 longs; and how long -/
def zk (k : Nat) : Nat × Nat :=
  if k < 96 then
    (if k % 8 = 0 then (0, 0) else if k % 8 = 1 then (10, 11) else if k % 8 = 2 then (10, 21) else if k % 8 = 3 then (10, 21) else if k % 8 = 4 then (10, 21) else if k % 8 = 5 then (10, 60) else if k % 8 = 6 then (11, 48) else (10, 6))
  else if k = 96 then (6, 0) else if k = 97 then (1, 0)
  else if k = 98 then (4, 0) else if k = 99 then (10, 11) else if k = 100 then (10, 12) else if k = 101 then (10, 120) else if k = 102 then (10, 120)
  else if k = 103 then (4, 0) else if k = 104 then (10, 11) else if k = 105 then (10, 12) else if k = 106 then (10, 120) else if k = 107 then (10, 120)
  else if k = 108 then (2, 0) else if k = 109 then (13, 8) else if k = 110 then (13, 2) else if k = 111 then (12, 2)
  else if k = 112 then (3, 0) else if k = 113 then (11, 600) else if k = 114 then (5, 0) else if k = 115 then (11, 300)
  else if k = 116 then (7, 0) else if k = 117 then (10, 160) else if k = 118 then (10, 160) else if k = 119 then (10, 160) else if k = 120 then (10, 1280) else if k = 121 then (10, 320)
  else if k = 122 then (12, 2) else if k = 123 then (10, 600) else if k = 124 then (10, 120) else if k = 125 then (10, 12) else if k = 126 then (10, 12) else if k = 127 then (10, 400) else (14, 1)
/-- how many fields -/
def znf (ci : Nat) : Nat := [15, 2, 3, 7, 11, 2, 8, 27].getD ci 0
/-- the references: of an object's field, of an array's place -/
def zr (k j : Nat) : Option Nat :=
  if k < 96 then (if k % 8 = 0 ∧ 8 ≤ j then some (k + (j - 7)) else none)
  else if k = 96 then some ([0, 8, 97, 108, 110, 111, 112, 114].getD j 0)
  else if k = 97 then some (98 + 5 * j)
  else if k = 98 ∨ k = 103 then (if j = 3 then some (k + 1) else if j = 8 then some (k + 2) else if j = 9 then some (k + 3) else if j = 10 then some (k + 4) else none)
  else if k = 108 then (if j = 0 then some 109 else none)
  else if k = 109 then some (16 + 8 * j)
  else if k = 110 then some (80 + 8 * j)
  else if k = 112 then (if j = 0 then some 113 else none)
  else if k = 114 then (if j = 0 then some 115 else none)
  else if k = 116 then (if j < 6 then some (117 + j) else if j = 8 then some 123 else if j = 17 then some 124 else if j = 18 then some 125 else if j = 19 then some 126 else if j = 25 then some 127 else none)
  else none
def zfv (ad : Nat → Nat) (W : zWd) (k j : Nat) : Value := match zr k j with
  | some r => .ref (ad r)
  | none => .int (Int32.ofInt (W k j))
def zc (Y : zY) (ad : Nat → Nat) (W : zWd) (k : Nat) : va_E :=
  if (zk k).1 = 10 then .inl (Y.1, (zk k).2, .inl (fun j => Int32.ofInt (W k j)))
  else if (zk k).1 = 11 then .inl (Y.2.1, (zk k).2, .inl (fun j => Int32.ofInt (W k j)))
  else if (zk k).1 = 12 then .inl (Y.2.2.1, (zk k).2, .inl (fun j => Int32.ofInt (W k j)))
  else if (zk k).1 = 13 then .inl (Y.2.2.2.1, (zk k).2, .inr (.inr (.inr (.inr (fun j => (zr k j).map ad)))))
  else if (zk k).1 = 14 then .inl (Y.2.2.2.2, (zk k).2, .inr (.inl (fun j => (Int32.ofInt (W k j)).toInt64)))
  else .inr ((zk k).1, (List.range (znf (zk k).1)).map (zfv ad W k))
def zws (Y : zY) (ad : Nat → Nat) (W : zWd) : va_W := (List.range 129).map (fun k => (ad k, zc Y ad W k))
abbrev ztys (Y : zY) : List (ClassId × FieldType) := [(Y.1, .int), (Y.2.1, .byte), (Y.2.2.1, .boolean), (Y.2.2.2.1, .object "HopscotchCourt$Court"), (Y.2.2.2.2, .long)]
theorem zws_at (Y : zY) (ad : Nat → Nat) (W : zWd) {k : Nat} (h : k < 129) : (zws Y ad W)[k]? = some (ad k, zc Y ad W k) := by
  simp [zws, h]
theorem zk_ge {k : Nat} (q : 129 ≤ k) : zk k = (14, 1) := by
  unfold zk
  rw [if_neg (by omega)]
  repeat rw [if_neg (by omega)]
theorem zk_lt {k ci n : Nat} (h : zk k = (ci, n)) (hc : ci ≠ 14) : k < 129 := by
  rcases Nat.lt_or_ge k 129 with q | q
  · exact q
  · rw [zk_ge q] at h
    exact absurd (congrArg Prod.fst h).symm hc
theorem zws_set (Y : zY) (ad : Nat → Nat) (W W' : zWd) {k : Nat} (h : k < 129) (e : va_E) (he : e = zc Y ad W' k) (ho : ∀ k', k' ≠ k → W' k' = W k') : (zws Y ad W).set k (ad k, e) = zws Y ad W' := by
  subst he
  apply List.ext_getElem?
  intro j
  rw [List.getElem?_set]
  by_cases hj : k = j
  · subst hj
    simp [zws, h]
  · rw [if_neg hj]
    simp only [zws, List.getElem?_map]
    by_cases h2 : j < 129
    · have e9 : W' j = W j := ho j (fun q => hj q.symm)
      rw [List.getElem?_range h2]
      simp only [Option.map_some]
      congr 2
      have e8 : zfv ad W' j = zfv ad W j := by funext i; simp only [zfv, e9]
      simp only [zc, e8, e9]
    · rw [List.getElem?_eq_none (by simp; omega)]
      rfl
theorem zup_other {W : zWd} {k : Nat} {i v : Int} : ∀ k', k' ≠ k → zup W k i v k' = W k' := fun k' h => by funext i'; exact zup_k h
theorem zc_obj (Y : zY) (ad : Nat → Nat) (W : zWd) {k ci : Nat} (h : zk k = (ci, 0)) (hc : ci < 8) : zc Y ad W k = .inr (ci, (List.range (znf ci)).map (zfv ad W k)) := by
  simp only [zc, h]
  rw [if_neg (by omega), if_neg (by omega), if_neg (by omega), if_neg (by omega), if_neg (by omega)]
theorem zc_int (Y : zY) (ad : Nat → Nat) (W : zWd) {k n : Nat} (h : zk k = (10, n)) : zc Y ad W k = .inl (Y.1, n, .inl (fun j => Int32.ofInt (W k j))) := by
  simp [zc, h]
theorem zc_byte (Y : zY) (ad : Nat → Nat) (W : zWd) {k n : Nat} (h : zk k = (11, n)) : zc Y ad W k = .inl (Y.2.1, n, .inl (fun j => Int32.ofInt (W k j))) := by
  simp [zc, h]
theorem zc_bool (Y : zY) (ad : Nat → Nat) (W : zWd) {k n : Nat} (h : zk k = (12, n)) : zc Y ad W k = .inl (Y.2.2.1, n, .inl (fun j => Int32.ofInt (W k j))) := by
  simp [zc, h]
theorem zc_refs (Y : zY) (ad : Nat → Nat) (W : zWd) {k n : Nat} (h : zk k = (13, n)) : zc Y ad W k = .inl (Y.2.2.2.1, n, .inr (.inr (.inr (.inr (fun j => (zr k j).map ad))))) := by
  simp [zc, h]
theorem zc_long (Y : zY) (ad : Nat → Nat) (W : zWd) {k n : Nat} (h : zk k = (14, n)) : zc Y ad W k = .inl (Y.2.2.2.2, n, .inr (.inl (fun j => (Int32.ofInt (W k j)).toInt64))) := by
  simp [zc, h]
theorem zk_len {k ci n : Nat} (h : zk k = (ci, n)) : n < 2147483648 := by
  have h8 : ∀ k, k < 129 → (zk k).2 < 2147483648 := by decide +kernel
  have h9 : (zk k).2 < 2147483648 := by
    rcases Nat.lt_or_ge k 129 with q | q
    · exact h8 k q
    · rw [zk_ge q]; decide
  rw [h] at h9
  exact h9
theorem zc_putF (Y : zY) (ad : Nat → Nat) (W : zWd) {k ci j : Nat} (h : zk k = (ci, 0)) (hc : ci < 8) (hj : j < znf ci) (hr : zr k j = none) (v : Int) : (.inr (ci, ((List.range (znf ci)).map (zfv ad W k)).set j (zI v)) : va_E) = zc Y ad (zup W k j v) k := by
  rw [zc_obj Y ad _ h hc]
  congr 2
  apply List.ext_getElem?
  intro i
  rw [List.getElem?_set]
  by_cases hi : j = i
  · subst hi
    simp [hj, zfv, hr, zup_s, zI]
  · rw [if_neg hi]
    simp only [List.getElem?_map]
    by_cases hi2 : i < znf ci
    · have h9 : zfv ad (zup W k j v) k i = zfv ad W k i := by
        simp only [zfv, zup_i (show (i : Int) ≠ (j : Int) by omega)]
      simp [hi2, h9]
    · rw [List.getElem?_eq_none (by simp; omega)]
      rfl
theorem z_updI (f : Int → Int) {i : Int} {n : Nat} (h0 : 0 ≤ i) (h1 : i < 2147483648) (v : Int) : upd (fun j => Int32.ofInt (f j)) (Int32.ofInt i).toNatClampNeg (Int32.ofInt v) = fun j : Nat => Int32.ofInt (if (j : Int) = i then v else f j) := by
  funext j
  rw [z_clamp h0 h1]
  unfold upd
  by_cases hj : j = i.toNat
  · rw [if_pos hj, if_pos (by omega)]
  · rw [if_neg hj, if_neg (by omega)]
theorem zc_putA (Y : zY) (ad : Nat → Nat) (W : zWd) {k n : Nat} (h : zk k = (10, n)) {i v : Int} (h0 : 0 ≤ i) (h1 : i < n) : (.inl (Y.1, n, .inl (upd (fun j => Int32.ofInt (W k j)) (Int32.ofInt i).toNatClampNeg (Int32.ofInt v))) : va_E) = zc Y ad (zup W k i v) k := by
  rw [zc_int Y ad _ h, z_updI (n := n) (fun j => W k j) h0 (by have := zk_len h; omega)]
  congr 5
  funext j
  simp [zup]
theorem zc_putB (Y : zY) (ad : Nat → Nat) (W : zWd) {k n : Nat} (h : zk k = (11, n)) {i v : Int} (h0 : 0 ≤ i) (h1 : i < n) : (.inl (Y.2.1, n, .inl (upd (fun j => Int32.ofInt (W k j)) (Int32.ofInt i).toNatClampNeg (Int32.ofInt v))) : va_E) = zc Y ad (zup W k i v) k := by
  rw [zc_byte Y ad _ h, z_updI (n := n) (fun j => W k j) h0 (by have := zk_len h; omega)]
  congr 5
  funext j
  simp [zup]
theorem zc_putZ (Y : zY) (ad : Nat → Nat) (W : zWd) {k n : Nat} (h : zk k = (12, n)) {i v : Int} (h0 : 0 ≤ i) (h1 : i < n) : (.inl (Y.2.2.1, n, .inl (upd (fun j => Int32.ofInt (W k j)) (Int32.ofInt i).toNatClampNeg (Int32.ofInt v))) : va_E) = zc Y ad (zup W k i v) k := by
  rw [zc_bool Y ad _ h, z_updI (n := n) (fun j => W k j) h0 (by have := zk_len h; omega)]
  congr 5
  funext j
  simp [zup]
theorem zc_putL (Y : zY) (ad : Nat → Nat) (W : zWd) {k n : Nat} (h : zk k = (14, n)) {i v : Int} (h0 : 0 ≤ i) (h1 : i < n) : (.inl (Y.2.2.2.2, n, .inr (.inl (vp_updL (fun j => (Int32.ofInt (W k j)).toInt64) (Int32.ofInt i).toNatClampNeg (Int32.ofInt v).toInt64))) : va_E) = zc Y ad (zup W k i v) k := by
  rw [zc_long Y ad _ h, z_clamp h0 (by have := zk_len h; omega)]
  congr 6
  funext j
  unfold vp_updL
  by_cases hj : j = i.toNat
  · rw [if_pos hj, show (j : Int) = i by omega, zup_s]
  · rw [if_neg hj, zup_i (by omega)]
/-! places: a list of values, .null where nothing is known -/
def zt (ad : Nat → Nat) : Value → Value
  | .ref k => .ref (ad k)
  | v => v
def zts (ad : Nat → Nat) : List Value → List Value
  | [] => []
  | v :: t => zt ad v :: zts ad t
def zg : List Value → Nat → Value
  | [], _ => .null
  | v :: _, 0 => v
  | _ :: t, n + 1 => zg t n
def zs : List Value → Nat → Value → List Value
  | [], _, _ => []
  | _ :: t, 0, x => x :: t
  | v :: t, n + 1, x => v :: zs t n x
def zl (ad : Nat → Nat) : Nat → List Value → List (Nat × Value)
  | _, [] => []
  | i, .int x :: t => (i, .int x) :: zl ad (i + 1) t
  | i, .ref k :: t => (i, .ref (ad k)) :: zl ad (i + 1) t
  | i, _ :: t => zl ad (i + 1) t
theorem zl_cat (ad : Nat → Nat) : ∀ (l : List Value) (i : Nat), ∀ q ∈ zl ad i l, i ≤ q.1 ∧ q.2.category = 1 := by
  intro l
  induction l with
  | nil => intro i q h; cases h
  | cons v t ih =>
    intro i q h
    have far : q ∈ zl ad (i + 1) t → i ≤ q.1 ∧ q.2.category = 1 := fun h => ⟨by have := (ih _ q h).1; omega, (ih _ q h).2⟩
    cases v with
    | int x =>
      rcases List.mem_cons.mp h with rfl | h
      · exact ⟨Nat.le_refl _, rfl⟩
      · exact far h
    | ref k =>
      rcases List.mem_cons.mp h with rfl | h
      · exact ⟨Nat.le_refl _, rfl⟩
      · exact far h
    | _ => exact far h
theorem zl_get (ad : Nat → Nat) : ∀ (l : List Value) (i k : Nat) (v : Value), zg l k = v → (∃ x, v = .int x) ∨ (∃ x, v = .ref x) → (i + k, zt ad v) ∈ zl ad i l := by
  intro l
  induction l with
  | nil =>
    intro i k v h hv
    subst h
    rcases hv with ⟨x, h⟩ | ⟨x, h⟩ <;> cases h
  | cons w t ih =>
    intro i k v h hv
    cases k with
    | zero =>
      subst h
      rcases hv with ⟨x, h⟩ | ⟨x, h⟩
      · have h : w = .int x := h
        subst h; exact List.mem_cons_self
      · have h : w = .ref x := h
        subst h; exact List.mem_cons_self
    | succ k =>
      have h9 := ih (i + 1) k v h hv
      rw [show i + 1 + k = i + (k + 1) by omega] at h9
      cases w <;> first | exact List.mem_cons_of_mem _ h9 | exact h9
theorem zl_set (ad : Nat → Nat) (x : Value) : ∀ (l : List Value) (i k : Nat) (q : Nat × Value), q ∈ zl ad i (zs l k x) → q = (i + k, zt ad x) ∨ (q ∈ zl ad i l ∧ q.1 ≠ i + k) := by
  intro l
  induction l with
  | nil => intro i k q h; cases h
  | cons w t ih =>
    intro i k q h
    cases k with
    | zero =>
      have far : q ∈ zl ad (i + 1) t → q ∈ zl ad i (w :: t) ∧ q.1 ≠ i + 0 := fun hh =>
        ⟨by clear h; cases w <;> first | exact List.mem_cons_of_mem _ hh | exact hh, by have := (zl_cat ad t _ q hh).1; omega⟩
      cases x with
      | int x =>
        rcases List.mem_cons.mp h with rfl | h
        · exact Or.inl rfl
        · exact Or.inr (far h)
      | ref x =>
        rcases List.mem_cons.mp h with rfl | h
        · exact Or.inl rfl
        · exact Or.inr (far h)
      | _ => exact Or.inr (far h)
    | succ k =>
      have far : q ∈ zl ad (i + 1) (zs t k x) → q = (i + (k + 1), zt ad x) ∨ (q ∈ zl ad (i + 1) t ∧ q.1 ≠ i + (k + 1)) := fun h => by
        have h9 := ih (i + 1) k q h
        rw [show i + 1 + k = i + (k + 1) by omega] at h9
        exact h9
      cases w with
      | int z =>
        rcases List.mem_cons.mp h with rfl | h
        · exact Or.inr ⟨List.mem_cons_self, by simp⟩
        · exact (far h).imp_right fun ⟨a, b⟩ => ⟨List.mem_cons_of_mem _ a, b⟩
      | ref z =>
        rcases List.mem_cons.mp h with rfl | h
        · exact Or.inr ⟨List.mem_cons_self, by simp⟩
        · exact (far h).imp_right fun ⟨a, b⟩ => ⟨List.mem_cons_of_mem _ a, b⟩
      | _ => exact far h
theorem zl_at {ad : Nat → Nat} {ls : List Value} {lsA : Array Slot} {n k : Nat} {x : Int32} (hl : lv_has lsA n (zl ad 0 ls)) (hg : zg ls k = .int x) : lsA[k]? = some (.val (.int x)) := by
  have h := zl_get ad ls 0 k _ hg (Or.inl ⟨_, rfl⟩)
  rw [Nat.zero_add] at h
  exact hl.2.2 _ h
theorem zl_atR {ad : Nat → Nat} {ls : List Value} {lsA : Array Slot} {n k r : Nat} (hl : lv_has lsA n (zl ad 0 ls)) (hg : zg ls k = .ref r) : lsA[k]? = some (.val (.ref (ad r))) := by
  have h := zl_get ad ls 0 k _ hg (Or.inr ⟨_, rfl⟩)
  rw [Nat.zero_add] at h
  exact hl.2.2 _ h
theorem zl_put {ad : Nat → Nat} {ls : List Value} {lsA : Array Slot} {n k : Nat} {x : Value} (hl : lv_has lsA n ((k, zt ad x) :: (zl ad 0 ls).filter (fun q => !(q.1 == k) && !(q.1 + 1 == k && q.2.category == 2)))) : lv_has lsA n (zl ad 0 (zs ls k x)) := by
  refine ⟨hl.1, hl.2.1, fun q hq => hl.2.2 q ?_⟩
  rcases zl_set ad x ls 0 k q hq with h | ⟨h1, h2⟩
  · rw [h, Nat.zero_add]; exact List.mem_cons_self
  · refine List.mem_cons_of_mem _ (List.mem_filter.mpr ⟨h1, ?_⟩)
    rw [Nat.zero_add] at h2
    rw [(zl_cat ad ls 0 q h1).2]
    simp [h2]
end
section
/-! words: what a method may read of the tables; what holds around a walk -/
def zNw : Cond → Bool
  | .fieldLinkNest .. => true
  | .methodLinkNest .. => true
  | .castable .. => true
  | .declares _ => true
  | _ => false
def zWs : List Cond := lw_tbl.filter goodWord
def zNst : List Cond := lw_tbl.filter zNw
theorem zWs_in {w : Cond} (i : Nat) (h : lw_tbl[i]? = some w) (hg : goodWord w = true) : w ∈ zWs := List.mem_filter.mpr ⟨List.mem_of_getElem? h, hg⟩
theorem zNst_in {w : Cond} (i : Nat) (h : lw_tbl[i]? = some w) (hg : zNw w = true) : w ∈ zNst := List.mem_filter.mpr ⟨List.mem_of_getElem? h, hg⟩
theorem zNst_warm {w : Cond} {s U : State} (hw : w ∈ zNst) (hW : s.WarmedH U.vm) (h : va_Nw w s) : va_Nw w U := by
  have hn := (List.mem_filter.mp hw).2
  cases w with
  | fieldLinkNest a i b n d h9 => exact va_Nw.warmF hW h
  | methodLinkNest a i x h9 => exact va_Nw.warmM hW h
  | castable C T => exact va_Nw.warmC hW h
  | declares x => exact va_Nw.warmD hW h
  | _ => cases hn
theorem zNst_on {w : Cond} (hw : w ∈ zNst) : w.onTables = true := by
  have hn := (List.mem_filter.mp hw).2
  cases w <;> first | rfl | cases hn
def zwM (M : zM) : List Cond := Cond.code M.2.2.2.1 M.2.1 M.2.2.1 M.2.2.2.2 :: zWs
theorem zWs_good {w : Cond} (h : w ∈ zWs) : goodWord w = true := (List.mem_filter.mp h).2
theorem zwM_good (M M' : zM) (h : Cond.code M'.2.2.2.1 M'.2.1 M'.2.2.1 M'.2.2.2.2 ∈ zWs) : GoodIn (zwM M) (zwM M') := by
  intro w hw
  have h9 : w ∈ zWs := by
    rcases List.mem_cons.mp hw with rfl | h1
    · exact h
    · exact h1
  exact ⟨List.mem_cons_of_mem _ h9, good_of_word (zWs_good h9)⟩
def zStrs : List (String × Nat × String × List Int) := [("HopscotchCourt$Reader", 44, "court", [99, 111, 117, 114, 116]), ("HopscotchCourt$Reader", 57, "one", [111, 110, 101]), ("HopscotchCourt$Reader", 62, "two", [116, 119, 111]), ("HopscotchCourt$Reader", 74, "drift", [100, 114, 105, 102, 116]), ("HopscotchCourt$Reader", 88, "player", [112, 108, 97, 121, 101, 114]), ("HopscotchCourt$Reader", 106, "reach", [114, 101, 97, 99, 104]), ("HopscotchCourt$Reader", 112, "balance", [98, 97, 108, 97, 110, 99, 101]), ("HopscotchCourt$Reader", 114, "target", [116, 97, 114, 103, 101, 116]), ("HopscotchCourt$Reader", 116, "claims", [99, 108, 97, 105, 109, 115]), ("HopscotchCourt$Reader", 138, "owns", [111, 119, 110, 115]), ("HopscotchCourt$Reader", 121, "marker", [109, 97, 114, 107, 101, 114]), ("HopscotchCourtModel", 193, "court", [99, 111, 117, 114, 116]), ("HopscotchCourtModel", 142, "one", [111, 110, 101]), ("HopscotchCourtModel", 144, "two", [116, 119, 111]), ("HopscotchCourtModel", 198, "drift", [100, 114, 105, 102, 116]), ("HopscotchCourtModel", 157, "player", [112, 108, 97, 121, 101, 114]), ("HopscotchCourtModel", 162, "reach", [114, 101, 97, 99, 104]), ("HopscotchCourtModel", 170, "balance", [98, 97, 108, 97, 110, 99, 101]), ("HopscotchCourtModel", 172, "target", [116, 97, 114, 103, 101, 116]), ("HopscotchCourtModel", 174, "claims", [99, 108, 97, 105, 109, 115]), ("HopscotchCourtModel", 176, "owns", [111, 119, 110, 115]), ("HopscotchCourtModel", 181, "marker", [109, 97, 114, 107, 101, 114]), ("HopscotchCourt", 75, "the text is too long", [116, 104, 101, 32, 116, 101, 120, 116, 32, 105, 115, 32, 116, 111, 111, 32, 108, 111, 110, 103]), ("HopscotchCourt", 136, "no such count", [110, 111, 32, 115, 117, 99, 104, 32, 99, 111, 117, 110, 116]), ("HopscotchCourt", 142, "no such number of a player", [110, 111, 32, 115, 117, 99, 104, 32, 110, 117, 109, 98, 101, 114, 32, 111, 102, 32, 97, 32, 112, 108, 97, 121, 101, 114]), ("HopscotchCourt", 170, "no such number of a square", [110, 111, 32, 115, 117, 99, 104, 32, 110, 117, 109, 98, 101, 114, 32, 111, 102, 32, 97, 32, 115, 113, 117, 97, 114, 101]), ("HopscotchCourt", 216, "no such hop", [110, 111, 32, 115, 117, 99, 104, 32, 104, 111, 112]), ("HopscotchCourt", 261, "no such drift", [110, 111, 32, 115, 117, 99, 104, 32, 100, 114, 105, 102, 116]), ("HopscotchCourt", 263, "no such number to set", [110, 111, 32, 115, 117, 99, 104, 32, 110, 117, 109, 98, 101, 114, 32, 116, 111, 32, 115, 101, 116]), ("HopscotchCourt", 271, "no such value", [110, 111, 32, 115, 117, 99, 104, 32, 118, 97, 108, 117, 101]), ("HopscotchCourt", 276, "no change to undo", [110, 111, 32, 99, 104, 97, 110, 103, 101, 32, 116, 111, 32, 117, 110, 100, 111]), ("HopscotchCourt", 284, "nothing is saved there", [110, 111, 116, 104, 105, 110, 103, 32, 105, 115, 32, 115, 97, 118, 101, 100, 32, 116, 104, 101, 114, 101]), ("HopscotchCourt", 290, "no such byte", [110, 111, 32, 115, 117, 99, 104, 32, 98, 121, 116, 101]), ("HopscotchCourt", 296, "no such player", [110, 111, 32, 115, 117, 99, 104, 32, 112, 108, 97, 121, 101, 114]), ("HopscotchCourt", 298, "no such square", [110, 111, 32, 115, 117, 99, 104, 32, 115, 113, 117, 97, 114, 101]), ("HopscotchCourt", 300, "no such row", [110, 111, 32, 115, 117, 99, 104, 32, 114, 111, 119]), ("HopscotchCourt", 302, "no such slot", [110, 111, 32, 115, 117, 99, 104, 32, 115, 108, 111, 116]), ("HopscotchCourt", 304, "no such throw", [110, 111, 32, 115, 117, 99, 104, 32, 116, 104, 114, 111, 119])]

def zStr1 (q : String × Nat × String × List Int) (a : Nat) (A : Nat → Prop) (U : State) : Prop :=
  vk_R q.1 q.2.1 q.2.2.1 a U ∧ va_O "java/lang/String" a A U U.heap ∧ va_OF "java/lang/String" "coder" "B" (.int 0) a A U U.heap ∧ ∃ v : Nat, va_OF "java/lang/String" "value" "[B" (.ref v) a A U U.heap ∧ va_T .byte v q.2.2.2.length (fun j => .int (Int32.ofInt (q.2.2.2.getD j 0))) A U U.heap
theorem zStr1.move {q : String × Nat × String × List Int} {a : Nat} {A : Nat → Prop} {s U : State} {H : Heap} {locs : List Loc} (hW : s.WarmedH U.vm) (hH : U.heap = H) (hS : va_S A s.heap H locs) (h : zStr1 q a A s) : zStr1 q a A U := by
  obtain ⟨h1, h2, h3, v, h4, h5⟩ := h
  subst hH
  exact ⟨vk_R.warm hW h1, (va_O.moved hW.alike h2).kept hS.2.1, (va_OF.moved hW.alike h3).kept hS.2.1, v, (va_OF.moved hW.alike h4).kept hS.2.1, (va_T.moved hW.alike h5).kept hS.2.1⟩
def zE (D : va_G) (Y : zY) (ad : Nat → Nat) (A : Nat → Prop) (U : State) : Prop :=
  va_K D vwCl (ztys Y) U ∧ (∀ w ∈ zNst, va_Nw w U) ∧ vx_Zq Bundle.tN "UNASSIGNED_STACK" Bundle.steD A U U.heap ∧ vx_Zq Bundle.tN "SUPPRESSED_SENTINEL" Bundle.listD A U U.heap ∧
  (∀ (i : Nat) (q : String × Nat × String × List Int), zStrs[i]? = some q → zStr1 q (ad (1000 + i)) A U) ∧
  va_Z "java/lang/String" "COMPACT_STRINGS" "Z" (.int 1) A U U.heap ∧ ∃ t : Nat, va_Z "jdk/internal/util/Preconditions" "SIOOBE_FORMATTER" "Ljava/util/function/BiFunction;" (.ref t) A U U.heap
theorem zE.move {D : va_G} {Y : zY} {ad : Nat → Nat} {A : Nat → Prop} {s U : State} {H : Heap} {locs : List Loc} (hW : s.WarmedH U.vm) (hH : U.heap = H) (hS : va_S A s.heap H locs) (h : zE D Y ad A s) : zE D Y ad A U := by
  obtain ⟨h1, h2, h3, h4, h5, h6, t, h7⟩ := h
  subst hH
  exact ⟨va_K.moved hW.alike h1, fun w hw => zNst_warm hw hW (h2 w hw), (vx_Zq.moved hW.alike h3).kept hS.2.1, (vx_Zq.moved hW.alike h4).kept hS.2.1, fun i q hq => (h5 i q hq).move hW rfl hS, (va_Z.moved hW.alike h6).kept hS.2.1, t, (va_Z.moved hW.alike h7).kept hS.2.1⟩
theorem zE.frame {D : va_G} {Y : zY} {ad : Nat → Nat} {A : Nat → Prop} {U : State} {g : JFrame} {mk : MethodId} {a : Array Value} (h : zE D Y ad A U) : zE D Y ad A (U.calling g mk a) := by
  have hW : U.WarmedH (U.calling g mk a).vm := State.WarmedH.refl U
  exact h.move (H := U.heap) (locs := []) hW rfl va_S.rf
def zAd (ad : Nat → Nat) (A : Nat → Prop) : Prop := (∀ i j : Nat, i < 129 → j < 129 → ad i = ad j → i = j) ∧ ∀ k : Nat, k < 129 → A (ad k)
theorem zAd.D {ad : Nat → Nat} {A : Nat → Prop} (h : zAd ad A) (Y : zY) (W : zWd) : va_D A (zws Y ad W) := by
  have key : ∀ (i : Nat) (p : Nat × va_E), (zws Y ad W)[i]? = some p → i < 129 ∧ p.1 = ad i := by
    intro i p hp
    rcases Nat.lt_or_ge i 129 with q | q
    · rw [zws_at Y ad W q] at hp
      exact ⟨q, by cases hp; rfl⟩
    · rw [List.getElem?_eq_none (by simp [zws]; exact q)] at hp
      cases hp
  refine ⟨fun i j p q hp hq e => ?_, fun k q hq => ?_⟩
  · obtain ⟨h1, h2⟩ := key i p hp
    obtain ⟨h3, h4⟩ := key j q hq
    exact h.1 i j h1 h3 (by rw [← h2, ← h4]; exact e)
  · obtain ⟨h1, h2⟩ := key k q hq
    rw [h2]
    exact h.2 k h1
def zC (M : zM) (d t : Nat) (p : Program) (l : Launch) (R : Room) (s : State) (m : MethodId) (args : Array Value) (meth : Method) (c : Code) (cells slots : Nat) (D : va_G) (Y : zY) (ad : Nat → Nat) (A : Nat → Prop) : Prop :=
  CallFix p m c M.2.1 M.2.2.1 s args (zwM M) M.1 ∧ l.stackTraces = false ∧ meth.locks = false ∧ (∀ x ∈ c.exceptionTable.toList, False) ∧ meth.sig.returnType = M.2.2.2.2 ∧ zE D Y ad A s ∧ zAd ad A ∧ (∀ q : Nat, s.heap.size ≤ q → A q) ∧ d ≤ R.frames ∧ 40 * d ≤ R.locals ∧ cells + t ≤ R.cells ∧ slots + 6 * t ≤ R.slots
/-- from here the machine comes to a point of K, or throws as X says -/
def RR (M : zM) (d t : Nat) (W₀ : zWd) (pc : Nat) (ls st : List Value) (K : zK) (X : zX) : Prop :=
  ∀ (p : Program) (l : Launch) (e : Env) (R : Room) (s : State) (m : MethodId) (args : Array Value) (below : List Frame) (meth : Method) (c : Code) (cells slots : Nat) (Q : State → Prop) (D : va_G) (Y : zY) (ad : Nat → Nat) (A : Nat → Prop),
    zC M d t p l R s m args meth c cells slots D Y ad A →
    (∀ (t' pc' : Nat) (ls' st' : List Value) (W' : zWd) (H' : Heap) (locs' : List Loc) (lsA' : Array Slot) (cells' slots' : Nat), K t' pc' ls' st' W' → va_P D vwCl (zws Y ad W') H' → va_S A s.heap H' locs' → lv_has lsA' M.2.2.1 (zl ad 0 ls') → cells' + t' ≤ cells + t → slots' + 6 * t' ≤ slots + 6 * t → W p l e R s m args below meth c H' locs' cells' slots' Q (F0 m pc' lsA' (zts ad st'))) →
    (∀ (E : String) (pc' : Nat) (st' : List Value) (W' : zWd) (H' : Heap) (locs' : List Loc) (lsA' : Array Slot) (cells' slots' : Nat) (ce : Cell) (q : Addr), X E W' → va_P D vwCl (zws Y ad W') H' → va_S A s.heap H' locs' → cells' ≤ cells + t → slots' ≤ slots + 6 * t → H'[q]? = some ce → ce.vm = .none → s.vm.findClass E = some ce.cls → vx_W p l e R s m args below meth c H' locs' cells' slots' Q (F0 m pc' lsA' st') q) →
    ∀ (H : Heap) (locs : List Loc) (lsA : Array Slot), va_P D vwCl (zws Y ad W₀) H → va_S A s.heap H locs → lv_has lsA M.2.2.1 (zl ad 0 ls) → W p l e R s m args below meth c H locs cells slots Q (F0 m pc lsA (zts ad st))
theorem rr_base {M : zM} {d t : Nat} {W₀ : zWd} {pc : Nat} {ls st : List Value} {K : zK} {X : zX} (h : K t pc ls st W₀) : RR M d t W₀ pc ls st K X := by
  intro p l e R s m args below meth c cells slots Q D Y ad A hC hK hX H locs lsA hP hS hl
  exact hK t pc ls st W₀ H locs lsA cells slots h hP hS hl (by omega) (by omega)
/-- one walk behind another -/
theorem rr_seq {M : zM} {d t : Nat} {W₀ : zWd} {pc : Nat} {ls st : List Value} {K K' : zK} {X : zX} (h : RR M d 0 W₀ pc ls st K' (fun _ _ => False)) (hk : ∀ t' pc' ls' st' W', K' t' pc' ls' st' W' → RR M d t W' pc' ls' st' K X) : RR M d t W₀ pc ls st K X := by
  intro p l e R s m args below meth c cells slots Q D Y ad A hC hK hX H locs lsA hP hS hl
  obtain ⟨h1, h2, h3, h4, h5, h6, h7, h8, h9, h10, h11, h12⟩ := id hC
  refine h p l e R s m args below meth c cells slots Q D Y ad A ⟨h1, h2, h3, h4, h5, h6, h7, h8, h9, h10, by omega, by omega⟩ (fun t' pc' ls' st' W' H' locs' lsA' cells' slots' k hP' hS' hl' hc' hs' => ?_) (fun E pc' st' W' H' locs' lsA' cells' slots' ce q k => k.elim) H locs lsA hP hS hl
  refine W.widen (k := cells) (n := slots) (by omega) (by omega) ?_
  exact hk t' pc' ls' st' W' k p l e R s m args below meth c cells slots Q D Y ad A hC hK hX H' locs' lsA' hP' hS' hl'
section ZA
variable {M : zM} {d t : Nat} {W₀ : zWd} {pc : Nat} {ls st : List Value} {K : zK} {X : zX}
theorem rr_eqW {W₁ : zWd} (e : W₀ = W₁) (k : RR M d t W₁ pc ls st K X) : RR M d t W₀ pc ls st K X := e ▸ k
theorem rr_eqS {st' : List Value} (e : st = st') (k : RR M d t W₀ pc ls st' K X) : RR M d t W₀ pc ls st K X := e ▸ k
theorem rr_eqL {ls' : List Value} (e : ls = ls') (k : RR M d t W₀ pc ls' st K X) : RR M d t W₀ pc ls st K X := e ▸ k
theorem rr_iconst {n : Int} (hd : decode M.2.1 pc = .ok (.iconst n, 1)) (k : RR M d t W₀ (pc + 1) ls (zI n :: st) K X) : RR M d t W₀ pc ls (st) K X := by
  intro p l e R s m args below meth c cells slots Q D Y ad A hC hK hX H locs lsA hP hS hl
  exact lv_iconst hC.1.1 hC.1.2.1 hd rfl (k p l e R s m args below meth c cells slots Q D Y ad A hC hK hX H locs lsA hP hS hl)
theorem rr_bipush {n : Int} (hd : decode M.2.1 pc = .ok (.bipush n, 2)) (k : RR M d t W₀ (pc + 2) ls (zI n :: st) K X) (hv : (Int8.ofInt n).toInt32 = Int32.ofInt n := by decide) : RR M d t W₀ pc ls st K X := by
  intro p l e R s m args below meth c cells slots Q D Y ad A hC hK hX H locs lsA hP hS hl
  exact lv_bipush hC.1.1 hC.1.2.1 hd hv (k p l e R s m args below meth c cells slots Q D Y ad A hC hK hX H locs lsA hP hS hl)
theorem rr_sipush {n : Int} (hd : decode M.2.1 pc = .ok (.sipush n, 3)) (k : RR M d t W₀ (pc + 3) ls (zI n :: st) K X) (hv : (Int16.ofInt n).toInt32 = Int32.ofInt n := by decide) : RR M d t W₀ pc ls st K X := by
  intro p l e R s m args below meth c cells slots Q D Y ad A hC hK hX H locs lsA hP hS hl
  exact lv_sipush hC.1.1 hC.1.2.1 hd hv (k p l e R s m args below meth c cells slots Q D Y ad A hC hK hX H locs lsA hP hS hl)
theorem rr_iload_n {k : Fin 4} {z : Int} (hd : decode M.2.1 pc = .ok (.iload_n k, 1)) (hg : zg ls k = zI z) (kk : RR M d t W₀ (pc + 1) ls (zI z :: st) K X) : RR M d t W₀ pc ls st K X := by
  intro p l e R s m args below meth c cells slots Q D Y ad A hC hK hX H locs lsA hP hS hl
  exact lv_iload_n hC.1.1 hC.1.2.1 hd rfl (zl_at hl hg) (kk p l e R s m args below meth c cells slots Q D Y ad A hC hK hX H locs lsA hP hS hl)
theorem rr_iload {i : Nat} {z : Int} (hd : decode M.2.1 pc = .ok (.iload i, 2)) (hg : zg ls i = zI z) (kk : RR M d t W₀ (pc + 2) ls (zI z :: st) K X) : RR M d t W₀ pc ls st K X := by
  intro p l e R s m args below meth c cells slots Q D Y ad A hC hK hX H locs lsA hP hS hl
  exact lv_iload hC.1.1 hC.1.2.1 hd (zl_at hl hg) (kk p l e R s m args below meth c cells slots Q D Y ad A hC hK hX H locs lsA hP hS hl)
theorem rr_aload_n {k : Fin 4} {r : Nat} (hd : decode M.2.1 pc = .ok (.aload_n k, 1)) (hg : zg ls k = .ref r) (kk : RR M d t W₀ (pc + 1) ls (.ref r :: st) K X) : RR M d t W₀ pc ls st K X := by
  intro p l e R s m args below meth c cells slots Q D Y ad A hC hK hX H locs lsA hP hS hl
  exact lv_aload_n hC.1.1 hC.1.2.1 hd rfl (zl_atR hl hg) (kk p l e R s m args below meth c cells slots Q D Y ad A hC hK hX H locs lsA hP hS hl)
theorem rr_aload {i : Nat} {r : Nat} (hd : decode M.2.1 pc = .ok (.aload i, 2)) (hg : zg ls i = .ref r) (kk : RR M d t W₀ (pc + 2) ls (.ref r :: st) K X) : RR M d t W₀ pc ls st K X := by
  intro p l e R s m args below meth c cells slots Q D Y ad A hC hK hX H locs lsA hP hS hl
  exact lv_aload hC.1.1 hC.1.2.1 hd (zl_atR hl hg) (kk p l e R s m args below meth c cells slots Q D Y ad A hC hK hX H locs lsA hP hS hl)
theorem rr_istore_n {k : Fin 4} {z : Int} (hd : decode M.2.1 pc = .ok (.istore_n k, 1)) (hn : (k : Nat) < M.2.2.1) (kk : RR M d t W₀ (pc + 1) (zs ls k (zI z)) st K X) : RR M d t W₀ pc ls (zI z :: st) K X := by
  intro p l e R s m args below meth c cells slots Q D Y ad A hC hK hX H locs lsA hP hS hl
  exact lv_istore_n hC.1.1 hC.1.2.1 hd rfl hl hn rfl (fun ls' hl' => kk p l e R s m args below meth c cells slots Q D Y ad A hC hK hX H locs ls' hP hS (zl_put (x := zI z) hl'))
theorem rr_istore {i : Nat} {z : Int} (hd : decode M.2.1 pc = .ok (.istore i, 2)) (hn : i < M.2.2.1) (kk : RR M d t W₀ (pc + 2) (zs ls i (zI z)) st K X) : RR M d t W₀ pc ls (zI z :: st) K X := by
  intro p l e R s m args below meth c cells slots Q D Y ad A hC hK hX H locs lsA hP hS hl
  exact lv_istore hC.1.1 hC.1.2.1 hd hl hn rfl (fun ls' hl' => kk p l e R s m args below meth c cells slots Q D Y ad A hC hK hX H locs ls' hP hS (zl_put (x := zI z) hl'))
theorem rr_astore_n {k : Fin 4} {r : Nat} (hd : decode M.2.1 pc = .ok (.astore_n k, 1)) (hn : (k : Nat) < M.2.2.1) (kk : RR M d t W₀ (pc + 1) (zs ls k (.ref r)) st K X) : RR M d t W₀ pc ls (.ref r :: st) K X := by
  intro p l e R s m args below meth c cells slots Q D Y ad A hC hK hX H locs lsA hP hS hl
  exact lv_astore_n hC.1.1 hC.1.2.1 hd rfl hl hn rfl (fun ls' hl' => kk p l e R s m args below meth c cells slots Q D Y ad A hC hK hX H locs ls' hP hS (zl_put (x := .ref r) hl'))
theorem rr_astore {i : Nat} {r : Nat} (hd : decode M.2.1 pc = .ok (.astore i, 2)) (hn : i < M.2.2.1) (kk : RR M d t W₀ (pc + 2) (zs ls i (.ref r)) st K X) : RR M d t W₀ pc ls (.ref r :: st) K X := by
  intro p l e R s m args below meth c cells slots Q D Y ad A hC hK hX H locs lsA hP hS hl
  exact lv_astore hC.1.1 hC.1.2.1 hd hl hn rfl (fun ls' hl' => kk p l e R s m args below meth c cells slots Q D Y ad A hC hK hX H locs ls' hP hS (zl_put (x := .ref r) hl'))
theorem rr_dup_i {z : Int} (hd : decode M.2.1 pc = .ok (.dup, 1)) (k : RR M d t W₀ (pc + 1) ls (zI z :: zI z :: st) K X) : RR M d t W₀ pc ls (zI z :: st) K X := by
  intro p l e R s m args below meth c cells slots Q D Y ad A hC hK hX H locs lsA hP hS hl
  exact lv_dup hC.1.1 hC.1.2.1 hd rfl (k p l e R s m args below meth c cells slots Q D Y ad A hC hK hX H locs lsA hP hS hl)
theorem rr_dup_r {r : Nat} (hd : decode M.2.1 pc = .ok (.dup, 1)) (k : RR M d t W₀ (pc + 1) ls (.ref r :: .ref r :: st) K X) : RR M d t W₀ pc ls (.ref r :: st) K X := by
  intro p l e R s m args below meth c cells slots Q D Y ad A hC hK hX H locs lsA hP hS hl
  exact lv_dup hC.1.1 hC.1.2.1 hd rfl (k p l e R s m args below meth c cells slots Q D Y ad A hC hK hX H locs lsA hP hS hl)
theorem rr_dup2 {r : Nat} {z : Int} (hd : decode M.2.1 pc = .ok (.dup2, 1)) (k : RR M d t W₀ (pc + 1) ls (zI z :: .ref r :: zI z :: .ref r :: st) K X) : RR M d t W₀ pc ls (zI z :: .ref r :: st) K X := by
  intro p l e R s m args below meth c cells slots Q D Y ad A hC hK hX H locs lsA hP hS hl
  exact lv_dup2_11 hC.1.1 hC.1.2.1 hd rfl rfl (k p l e R s m args below meth c cells slots Q D Y ad A hC hK hX H locs lsA hP hS hl)
theorem rr_pop_i {z : Int} (hd : decode M.2.1 pc = .ok (.pop, 1)) (k : RR M d t W₀ (pc + 1) ls (st) K X) : RR M d t W₀ pc ls (zI z :: st) K X := by
  intro p l e R s m args below meth c cells slots Q D Y ad A hC hK hX H locs lsA hP hS hl
  exact lv_pop hC.1.1 hC.1.2.1 hd rfl (k p l e R s m args below meth c cells slots Q D Y ad A hC hK hX H locs lsA hP hS hl)
theorem rr_iadd {a b : Int} (hd : decode M.2.1 pc = .ok (.iadd, 1)) (k : RR M d t W₀ (pc + 1) ls (zI (a + b) :: st) K X) : RR M d t W₀ pc ls (zI b :: zI a :: st) K X := by
  intro p l e R s m args below meth c cells slots Q D Y ad A hC hK hX H locs lsA hP hS hl
  have h9 := k p l e R s m args below meth c cells slots Q D Y ad A hC hK hX H locs lsA hP hS hl
  unfold zI at h9
  rw [Int32.ofInt_add] at h9
  exact lv_iadd hC.1.1 hC.1.2.1 hd h9
theorem rr_isub {a b : Int} (hd : decode M.2.1 pc = .ok (.isub, 1)) (k : RR M d t W₀ (pc + 1) ls (zI (a - b) :: st) K X) : RR M d t W₀ pc ls (zI b :: zI a :: st) K X := by
  intro p l e R s m args below meth c cells slots Q D Y ad A hC hK hX H locs lsA hP hS hl
  have h9 := k p l e R s m args below meth c cells slots Q D Y ad A hC hK hX H locs lsA hP hS hl
  unfold zI at h9
  rw [Int32.ofInt_sub] at h9
  exact lv_isub hC.1.1 hC.1.2.1 hd h9
theorem rr_imul {a b : Int} (hd : decode M.2.1 pc = .ok (.imul, 1)) (k : RR M d t W₀ (pc + 1) ls (zI (a * b) :: st) K X) : RR M d t W₀ pc ls (zI b :: zI a :: st) K X := by
  intro p l e R s m args below meth c cells slots Q D Y ad A hC hK hX H locs lsA hP hS hl
  have h9 := k p l e R s m args below meth c cells slots Q D Y ad A hC hK hX H locs lsA hP hS hl
  unfold zI at h9
  rw [Int32.ofInt_mul] at h9
  exact lv_imul hC.1.1 hC.1.2.1 hd h9
theorem rr_ineg {a : Int} (hd : decode M.2.1 pc = .ok (.ineg, 1)) (k : RR M d t W₀ (pc + 1) ls (zI (-a) :: st) K X) : RR M d t W₀ pc ls (zI a :: st) K X := by
  intro p l e R s m args below meth c cells slots Q D Y ad A hC hK hX H locs lsA hP hS hl
  have h9 := k p l e R s m args below meth c cells slots Q D Y ad A hC hK hX H locs lsA hP hS hl
  unfold zI at h9
  rw [Int32.ofInt_neg] at h9
  exact lv_ineg hC.1.1 hC.1.2.1 hd h9
theorem rr_iinc {i : Nat} {n z : Int} (hd : decode M.2.1 pc = .ok (.iinc i n, 3)) (hg : zg ls i = zI z) (hn : i < M.2.2.1) (kk : RR M d t W₀ (pc + 3) (zs ls i (zI (z + n))) st K X) : RR M d t W₀ pc ls st K X := by
  intro p l e R s m args below meth c cells slots Q D Y ad A hC hK hX H locs lsA hP hS hl
  have h1 := zl_get ad ls 0 i _ hg (Or.inl ⟨_, rfl⟩)
  rw [Nat.zero_add] at h1
  obtain ⟨k9, h2⟩ := List.mem_iff_getElem?.mp h1
  exact lv_iinc (v := Int32.ofInt (z + n)) hC.1.1 hC.1.2.1 hd hl h2 (by rw [Int32.ofInt_add]) hn rfl (fun ls' hl' => kk p l e R s m args below meth c cells slots Q D Y ad A hC hK hX H locs ls' hP hS (zl_put (x := zI (z + n)) hl'))
theorem rr_goto {off : Int} {tgt : Nat} (hd : decode M.2.1 pc = .ok (.goto off, 3)) (ht : (pc : Int) + off = (tgt : Int)) (k : RR M d t W₀ tgt ls st K X) : RR M d t W₀ pc ls st K X := by
  intro p l e R s m args below meth c cells slots Q D Y ad A hC hK hX H locs lsA hP hS hl
  exact lv_goto hC.1.1 hC.1.2.1 hd ht (k p l e R s m args below meth c cells slots Q D Y ad A hC hK hX H locs lsA hP hS hl)
theorem rr_icmp_lt {a b : Int} {off : Int} {tgt : Nat} (hd : decode M.2.1 pc = .ok (.if_icmp .lt off, 3)) (ht : (pc : Int) + off = (tgt : Int)) (ha : zR a) (hb : zR b) (kt : a < b → RR M d t W₀ tgt ls st K X) (kf : b ≤ a → RR M d t W₀ (pc + 3) ls st K X) : RR M d t W₀ pc ls (zI b :: zI a :: st) K X := by
  intro p l e R s m args below meth c cells slots Q D Y ad A hC hK hX H locs lsA hP hS hl
  exact lv_icmp_lt hC.1.1 hC.1.2.1 hd ht (fun h => kt ((zR_lt ha hb).mp h) p l e R s m args below meth c cells slots Q D Y ad A hC hK hX H locs lsA hP hS hl) (fun h => kf (Int.not_lt.mp (fun q => h ((zR_lt ha hb).mpr q))) p l e R s m args below meth c cells slots Q D Y ad A hC hK hX H locs lsA hP hS hl)
theorem rr_if_lt {a : Int} {off : Int} {tgt : Nat} (hd : decode M.2.1 pc = .ok (.ifCond .lt off, 3)) (ht : (pc : Int) + off = (tgt : Int)) (ha : zR a) (kt : a < 0 → RR M d t W₀ tgt ls st K X) (kf : 0 ≤ a → RR M d t W₀ (pc + 3) ls st K X) : RR M d t W₀ pc ls (zI a :: st) K X := by
  intro p l e R s m args below meth c cells slots Q D Y ad A hC hK hX H locs lsA hP hS hl
  have hb : zR 0 := zR_zero
  exact lv_if_lt hC.1.1 hC.1.2.1 hd ht (fun h => kt ((zR_lt ha hb).mp h) p l e R s m args below meth c cells slots Q D Y ad A hC hK hX H locs lsA hP hS hl) (fun h => kf (Int.not_lt.mp (fun q => h ((zR_lt ha hb).mpr q))) p l e R s m args below meth c cells slots Q D Y ad A hC hK hX H locs lsA hP hS hl)
theorem rr_icmp_ge {a b : Int} {off : Int} {tgt : Nat} (hd : decode M.2.1 pc = .ok (.if_icmp .ge off, 3)) (ht : (pc : Int) + off = (tgt : Int)) (ha : zR a) (hb : zR b) (kt : b ≤ a → RR M d t W₀ tgt ls st K X) (kf : a < b → RR M d t W₀ (pc + 3) ls st K X) : RR M d t W₀ pc ls (zI b :: zI a :: st) K X := by
  intro p l e R s m args below meth c cells slots Q D Y ad A hC hK hX H locs lsA hP hS hl
  exact lv_icmp_ge hC.1.1 hC.1.2.1 hd ht (fun h => kt ((zR_le hb ha).mp h) p l e R s m args below meth c cells slots Q D Y ad A hC hK hX H locs lsA hP hS hl) (fun h => kf (Int.not_le.mp (fun q => h ((zR_le hb ha).mpr q))) p l e R s m args below meth c cells slots Q D Y ad A hC hK hX H locs lsA hP hS hl)
theorem rr_if_ge {a : Int} {off : Int} {tgt : Nat} (hd : decode M.2.1 pc = .ok (.ifCond .ge off, 3)) (ht : (pc : Int) + off = (tgt : Int)) (ha : zR a) (kt : 0 ≤ a → RR M d t W₀ tgt ls st K X) (kf : a < 0 → RR M d t W₀ (pc + 3) ls st K X) : RR M d t W₀ pc ls (zI a :: st) K X := by
  intro p l e R s m args below meth c cells slots Q D Y ad A hC hK hX H locs lsA hP hS hl
  have hb : zR 0 := zR_zero
  exact lv_if_ge hC.1.1 hC.1.2.1 hd ht (fun h => kt ((zR_le hb ha).mp h) p l e R s m args below meth c cells slots Q D Y ad A hC hK hX H locs lsA hP hS hl) (fun h => kf (Int.not_le.mp (fun q => h ((zR_le hb ha).mpr q))) p l e R s m args below meth c cells slots Q D Y ad A hC hK hX H locs lsA hP hS hl)
theorem rr_icmp_le {a b : Int} {off : Int} {tgt : Nat} (hd : decode M.2.1 pc = .ok (.if_icmp .le off, 3)) (ht : (pc : Int) + off = (tgt : Int)) (ha : zR a) (hb : zR b) (kt : a ≤ b → RR M d t W₀ tgt ls st K X) (kf : b < a → RR M d t W₀ (pc + 3) ls st K X) : RR M d t W₀ pc ls (zI b :: zI a :: st) K X := by
  intro p l e R s m args below meth c cells slots Q D Y ad A hC hK hX H locs lsA hP hS hl
  exact lv_icmp_le hC.1.1 hC.1.2.1 hd ht (fun h => kt ((zR_le ha hb).mp h) p l e R s m args below meth c cells slots Q D Y ad A hC hK hX H locs lsA hP hS hl) (fun h => kf (Int.not_le.mp (fun q => h ((zR_le ha hb).mpr q))) p l e R s m args below meth c cells slots Q D Y ad A hC hK hX H locs lsA hP hS hl)
theorem rr_if_le {a : Int} {off : Int} {tgt : Nat} (hd : decode M.2.1 pc = .ok (.ifCond .le off, 3)) (ht : (pc : Int) + off = (tgt : Int)) (ha : zR a) (kt : a ≤ 0 → RR M d t W₀ tgt ls st K X) (kf : 0 < a → RR M d t W₀ (pc + 3) ls st K X) : RR M d t W₀ pc ls (zI a :: st) K X := by
  intro p l e R s m args below meth c cells slots Q D Y ad A hC hK hX H locs lsA hP hS hl
  have hb : zR 0 := zR_zero
  exact lv_if_le hC.1.1 hC.1.2.1 hd ht (fun h => kt ((zR_le ha hb).mp h) p l e R s m args below meth c cells slots Q D Y ad A hC hK hX H locs lsA hP hS hl) (fun h => kf (Int.not_le.mp (fun q => h ((zR_le ha hb).mpr q))) p l e R s m args below meth c cells slots Q D Y ad A hC hK hX H locs lsA hP hS hl)
theorem rr_icmp_gt {a b : Int} {off : Int} {tgt : Nat} (hd : decode M.2.1 pc = .ok (.if_icmp .gt off, 3)) (ht : (pc : Int) + off = (tgt : Int)) (ha : zR a) (hb : zR b) (kt : b < a → RR M d t W₀ tgt ls st K X) (kf : a ≤ b → RR M d t W₀ (pc + 3) ls st K X) : RR M d t W₀ pc ls (zI b :: zI a :: st) K X := by
  intro p l e R s m args below meth c cells slots Q D Y ad A hC hK hX H locs lsA hP hS hl
  exact lv_icmp_gt hC.1.1 hC.1.2.1 hd ht (fun h => kt ((zR_lt hb ha).mp h) p l e R s m args below meth c cells slots Q D Y ad A hC hK hX H locs lsA hP hS hl) (fun h => kf (Int.not_lt.mp (fun q => h ((zR_lt hb ha).mpr q))) p l e R s m args below meth c cells slots Q D Y ad A hC hK hX H locs lsA hP hS hl)
theorem rr_if_gt {a : Int} {off : Int} {tgt : Nat} (hd : decode M.2.1 pc = .ok (.ifCond .gt off, 3)) (ht : (pc : Int) + off = (tgt : Int)) (ha : zR a) (kt : 0 < a → RR M d t W₀ tgt ls st K X) (kf : a ≤ 0 → RR M d t W₀ (pc + 3) ls st K X) : RR M d t W₀ pc ls (zI a :: st) K X := by
  intro p l e R s m args below meth c cells slots Q D Y ad A hC hK hX H locs lsA hP hS hl
  have hb : zR 0 := zR_zero
  exact lv_if_gt hC.1.1 hC.1.2.1 hd ht (fun h => kt ((zR_lt hb ha).mp h) p l e R s m args below meth c cells slots Q D Y ad A hC hK hX H locs lsA hP hS hl) (fun h => kf (Int.not_lt.mp (fun q => h ((zR_lt hb ha).mpr q))) p l e R s m args below meth c cells slots Q D Y ad A hC hK hX H locs lsA hP hS hl)
theorem rr_icmp_eq {a b : Int} {off : Int} {tgt : Nat} (hd : decode M.2.1 pc = .ok (.if_icmp .eq off, 3)) (ht : (pc : Int) + off = (tgt : Int)) (ha : zR a) (hb : zR b) (kt : a = b → RR M d t W₀ tgt ls st K X) (kf : a ≠ b → RR M d t W₀ (pc + 3) ls st K X) : RR M d t W₀ pc ls (zI b :: zI a :: st) K X := by
  intro p l e R s m args below meth c cells slots Q D Y ad A hC hK hX H locs lsA hP hS hl
  exact lv_icmp_eq hC.1.1 hC.1.2.1 hd ht (fun h => kt ((zR_eq ha hb).mp h) p l e R s m args below meth c cells slots Q D Y ad A hC hK hX H locs lsA hP hS hl) (fun h => kf (fun q => h ((zR_eq ha hb).mpr q)) p l e R s m args below meth c cells slots Q D Y ad A hC hK hX H locs lsA hP hS hl)
theorem rr_if_eq {a : Int} {off : Int} {tgt : Nat} (hd : decode M.2.1 pc = .ok (.ifCond .eq off, 3)) (ht : (pc : Int) + off = (tgt : Int)) (ha : zR a) (kt : a = 0 → RR M d t W₀ tgt ls st K X) (kf : a ≠ 0 → RR M d t W₀ (pc + 3) ls st K X) : RR M d t W₀ pc ls (zI a :: st) K X := by
  intro p l e R s m args below meth c cells slots Q D Y ad A hC hK hX H locs lsA hP hS hl
  have hb : zR 0 := zR_zero
  exact lv_if_eq hC.1.1 hC.1.2.1 hd ht (fun h => kt ((zR_eq ha hb).mp h) p l e R s m args below meth c cells slots Q D Y ad A hC hK hX H locs lsA hP hS hl) (fun h => kf (fun q => h ((zR_eq ha hb).mpr q)) p l e R s m args below meth c cells slots Q D Y ad A hC hK hX H locs lsA hP hS hl)
theorem rr_icmp_ne {a b : Int} {off : Int} {tgt : Nat} (hd : decode M.2.1 pc = .ok (.if_icmp .ne off, 3)) (ht : (pc : Int) + off = (tgt : Int)) (ha : zR a) (hb : zR b) (kt : a ≠ b → RR M d t W₀ tgt ls st K X) (kf : a = b → RR M d t W₀ (pc + 3) ls st K X) : RR M d t W₀ pc ls (zI b :: zI a :: st) K X := by
  intro p l e R s m args below meth c cells slots Q D Y ad A hC hK hX H locs lsA hP hS hl
  exact lv_icmp_ne hC.1.1 hC.1.2.1 hd ht (fun h => kt (fun q => h ((zR_eq ha hb).mpr q)) p l e R s m args below meth c cells slots Q D Y ad A hC hK hX H locs lsA hP hS hl) (fun h => kf ((zR_eq ha hb).mp h) p l e R s m args below meth c cells slots Q D Y ad A hC hK hX H locs lsA hP hS hl)
theorem rr_if_ne {a : Int} {off : Int} {tgt : Nat} (hd : decode M.2.1 pc = .ok (.ifCond .ne off, 3)) (ht : (pc : Int) + off = (tgt : Int)) (ha : zR a) (kt : a ≠ 0 → RR M d t W₀ tgt ls st K X) (kf : a = 0 → RR M d t W₀ (pc + 3) ls st K X) : RR M d t W₀ pc ls (zI a :: st) K X := by
  intro p l e R s m args below meth c cells slots Q D Y ad A hC hK hX H locs lsA hP hS hl
  have hb : zR 0 := zR_zero
  exact lv_if_ne hC.1.1 hC.1.2.1 hd ht (fun h => kt (fun q => h ((zR_eq ha hb).mpr q)) p l e R s m args below meth c cells slots Q D Y ad A hC hK hX H locs lsA hP hS hl) (fun h => kf ((zR_eq ha hb).mp h) p l e R s m args below meth c cells slots Q D Y ad A hC hK hX H locs lsA hP hS hl)
end ZA
end
section
theorem zts_cat (ad : Nat → Nat) (l : List Value) : ((zts ad l).map fun v => v.category).sum = (l.map fun v => v.category).sum := by
  induction l with
  | nil => rfl
  | cons v t ih =>
    have h9 : (zt ad v).category = v.category := by cases v <;> rfl
    simp [zts, h9, ih]
theorem z_bv (a : Int) : (Int32.ofInt a).toBitVec.toNat = (a % 4294967296).toNat := by
  show (BitVec.ofInt 32 a).toNat = _
  rw [BitVec.toNat_ofInt]
  rfl
theorem z_ext {x y : Int32} (h : x.toBitVec.toNat = y.toBitVec.toNat) : x = y := Int32.toBitVec_inj.mp (BitVec.eq_of_toNat_eq h)
theorem z_and31 {b : Int} (h0 : 0 ≤ b) (h1 : b < 32) : Int32.ofInt b &&& 31 = nI b.toNat := by
  rw [pk_and _ 5 (m := 31) (by decide), z_bv]
  congr 1
  omega
theorem z_smod : ∀ k, k < 32 → ((nI k).toBitVec.smod 32).toNat = k := by decide +kernel
theorem z_shl {a b : Int} (h0 : 0 ≤ b) (h1 : b < 32) : Int32.ofInt a <<< (Int32.ofInt b &&& 31) = Int32.ofInt (a * 2 ^ b.toNat) := by
  rw [z_and31 h0 h1]
  apply z_ext
  rw [pk_shl _ _ b.toNat (z_smod _ (by omega)), z_bv, z_bv]
  have h9 : ((a % 4294967296).toNat : Int) = a % 4294967296 := Int.toNat_of_nonneg (by omega)
  have h8 : (((a % 4294967296).toNat * 2 ^ b.toNat % 2 ^ 32 : Nat) : Int) = (((a * 2 ^ b.toNat) % 4294967296).toNat : Int) := by
    rw [Int.toNat_of_nonneg (by omega), Int.natCast_emod, Int.natCast_mul, h9, Int.natCast_pow]
    show (a % 4294967296 * 2 ^ b.toNat) % 4294967296 = _
    rw [Int.mul_emod, Int.emod_emod_of_dvd _ (Int.dvd_refl _), ← Int.mul_emod]
  exact Int.ofNat.inj h8
theorem z_shr {a b : Int} (ha : zR a) (h0 : 0 ≤ b) (h1 : b < 32) : Int32.ofInt a >>> (Int32.ofInt b &&& 31) = Int32.ofInt (a / 2 ^ b.toNat) := by
  rw [z_and31 h0 h1]
  have h9 := pk_shr (Int32.ofInt a) (nI b.toNat) b.toNat (z_smod _ (by omega))
  rw [zR_toInt ha, Int.shiftRight_eq_div_pow] at h9
  rw [← z_back (Int32.ofInt a >>> nI b.toNat), h9]
  rfl
theorem z_nat {n : Nat} (h : n < 4294967296) : (Int32.ofInt (n : Int)).toBitVec.toNat = n := by
  rw [z_bv]; omega
theorem z_and {m n : Nat} (hm : m < 4294967296) (hn : n < 4294967296) : Int32.ofInt (m : Int) &&& Int32.ofInt (n : Int) = Int32.ofInt ((m &&& n : Nat) : Int) := by
  apply z_ext
  rw [Int32.toBitVec_and, BitVec.toNat_and, z_nat hm, z_nat hn, z_nat (Nat.lt_of_le_of_lt Nat.and_le_left hm)]
theorem z_or {m n : Nat} (hm : m < 4294967296) (hn : n < 4294967296) : Int32.ofInt (m : Int) ||| Int32.ofInt (n : Int) = Int32.ofInt ((m ||| n : Nat) : Int) := by
  apply z_ext
  rw [Int32.toBitVec_or, BitVec.toNat_or, z_nat hm, z_nat hn, z_nat (Nat.or_lt_two_pow (n := 32) hm hn)]
theorem z_not {n : Nat} (hn : n < 4294967296) : Int32.ofInt (n : Int) ^^^ Int32.ofInt (-1) = Int32.ofInt (-1 - (n : Int)) := by
  apply z_ext
  rw [Int32.toBitVec_xor, BitVec.toNat_xor, z_nat hn, z_bv, z_bv]
  apply Nat.eq_of_testBit_eq
  intro i
  have e1 : ((-1 : Int) % 4294967296).toNat = 2 ^ 32 - (0 + 1) := by decide
  have e2 : ((-1 - (n : Int)) % 4294967296).toNat = 2 ^ 32 - (n + 1) := by omega
  rw [e1, e2, Nat.testBit_xor, Nat.testBit_two_pow_sub_succ (by decide), Nat.testBit_two_pow_sub_succ hn]
  by_cases hi : i < 32
  · simp [hi]
  · have : n.testBit i = false := Nat.testBit_lt_two_pow (Nat.lt_of_lt_of_le hn (Nat.pow_le_pow_right (n := 2) (by decide) (by omega : 32 ≤ i)))
    simp [hi, this]
theorem z_andnot {m n : Nat} (hm : m < 4294967296) (hn : n < 4294967296) : Int32.ofInt (m : Int) &&& Int32.ofInt (-1 - (n : Int)) = Int32.ofInt ((m ^^^ (m &&& n) : Nat) : Int) := by
  have hlt : m ^^^ (m &&& n) < 4294967296 := Nat.xor_lt_two_pow (n := 32) hm (Nat.lt_of_le_of_lt Nat.and_le_left hm)
  apply z_ext
  rw [Int32.toBitVec_and, BitVec.toNat_and, z_nat hm, z_bv, z_nat hlt]
  apply Nat.eq_of_testBit_eq
  intro i
  have e2 : ((-1 - (n : Int)) % 4294967296).toNat = 2 ^ 32 - (n + 1) := by omega
  rw [e2, Nat.testBit_and, Nat.testBit_two_pow_sub_succ hn, Nat.testBit_xor, Nat.testBit_and]
  by_cases hi : i < 32
  · cases m.testBit i <;> cases n.testBit i <;> simp [hi]
  · have : m.testBit i = false := Nat.testBit_lt_two_pow (Nat.lt_of_lt_of_le hm (Nat.pow_le_pow_right (n := 2) (by decide) (by omega : 32 ≤ i)))
    simp [hi, this]
theorem z_mask (a : Int) (k : Nat) (hk : k < 32) {m : Int} (hm : m = 2 ^ k - 1) : Int32.ofInt a &&& Int32.ofInt m = Int32.ofInt (a % 2 ^ k) := by
  have hm2 : (Int32.ofInt m).toBitVec.toNat = 2 ^ k - 1 := by
    rw [z_bv, hm]
    have h1 : (2 : Int) ^ k = ((2 ^ k : Nat) : Int) := (Int.natCast_pow 2 k).symm
    have h2 : 2 ^ k < 4294967296 := Nat.pow_lt_pow_right (a := 2) (by decide) hk
    have h3 : 0 < 2 ^ k := Nat.two_pow_pos k
    rw [h1]; omega
  rw [pk_and _ k hm2, z_bv]
  have h1 : (2 : Int) ^ k = ((2 ^ k : Nat) : Int) := (Int.natCast_pow 2 k).symm
  have h3 : 0 < 2 ^ k := Nat.two_pow_pos k
  have hd : ((2 ^ k : Nat) : Int) ∣ 4294967296 := by
    refine ⟨((2 ^ (32 - k) : Nat) : Int), ?_⟩
    rw [← Int.natCast_mul, ← Nat.pow_add, show k + (32 - k) = 32 by omega]
    rfl
  have h5 : (((a % 4294967296).toNat % 2 ^ k : Nat) : Int) = a % 2 ^ k := by
    rw [Int.natCast_emod, Int.toNat_of_nonneg (by omega), Int.emod_emod_of_dvd _ hd, h1]
  show Int32.ofNat _ = _
  rw [← h5]
  rfl
theorem z_i2b (a : Int) : (Int32.ofInt a).toInt8.toInt32 = Int32.ofInt (a.bmod 256) := by
  apply Int32.toInt_inj.mp
  have hb : zR (a.bmod 256) := by
    have h1 := Int.le_bmod (x := a) (m := 256) (by decide)
    have h2 := Int.bmod_lt (x := a) (m := 256) (by decide)
    constructor <;> omega
  rw [zR_toInt hb, Int8.toInt_toInt32, Int32.toInt_toInt8, Int32.toInt_ofInt]
  exact Int.bmod_bmod_of_dvd (by decide)
theorem z_tdiv {a b : Int} (ha : 0 ≤ a) (hb : 0 < b) (ha2 : a < 2147483648) (hb2 : b < 2147483648) : Int32.ofInt a / Int32.ofInt b = Int32.ofInt (a / b) := by
  obtain ⟨m, rfl⟩ := Int.eq_ofNat_of_zero_le ha
  obtain ⟨n, rfl⟩ := Int.eq_ofNat_of_zero_le (Int.le_of_lt hb)
  have h := pk_div (a := m) (d := n) (by omega) (by omega) (by omega)
  exact h
theorem z_trem {a b : Int} (ha : 0 ≤ a) (hb : 0 < b) (ha2 : a < 2147483648) (hb2 : b < 2147483648) : Int32.ofInt a - Int32.ofInt a / Int32.ofInt b * Int32.ofInt b = Int32.ofInt (a % b) := by
  obtain ⟨m, rfl⟩ := Int.eq_ofNat_of_zero_le ha
  obtain ⟨n, rfl⟩ := Int.eq_ofNat_of_zero_le (Int.le_of_lt hb)
  have h := pk_rem (a := m) (d := n) (by omega) (by omega) (by omega)
  exact h
theorem z_ne0 {b : Int} (hb : zR b) (h : b ≠ 0) : ¬ Int32.ofInt b = 0 := fun q => h ((zR_eq hb zR_zero).mp q)
section ZB
variable {M : zM} {d t : Nat} {W₀ : zWd} {pc : Nat} {ls st : List Value} {K : zK} {X : zX}
theorem rr_ishl {a b : Int} (hd : decode M.2.1 pc = .ok (.ishl, 1)) (h0 : 0 ≤ b) (h1 : b < 32) (k : RR M d t W₀ (pc + 1) ls (zI (a * 2 ^ b.toNat) :: st) K X) : RR M d t W₀ pc ls (zI b :: zI a :: st) K X := by
  intro p l e R s m args below meth c cells slots Q D Y ad A hC hK hX H locs lsA hP hS hl
  have h9 := k p l e R s m args below meth c cells slots Q D Y ad A hC hK hX H locs lsA hP hS hl
  unfold zI at h9
  rw [← z_shl h0 h1] at h9
  exact lv_ishl hC.1.1 hC.1.2.1 hd h9
theorem rr_ishr {a b : Int} (hd : decode M.2.1 pc = .ok (.ishr, 1)) (ha : zR a) (h0 : 0 ≤ b) (h1 : b < 32) (k : RR M d t W₀ (pc + 1) ls (zI (a / 2 ^ b.toNat) :: st) K X) : RR M d t W₀ pc ls (zI b :: zI a :: st) K X := by
  intro p l e R s m args below meth c cells slots Q D Y ad A hC hK hX H locs lsA hP hS hl
  have h9 := k p l e R s m args below meth c cells slots Q D Y ad A hC hK hX H locs lsA hP hS hl
  unfold zI at h9
  rw [← z_shr ha h0 h1] at h9
  exact lv_ishr hC.1.1 hC.1.2.1 hd h9
theorem rr_iand {m n : Nat} (hd : decode M.2.1 pc = .ok (.iand, 1)) (hm : m < 4294967296) (hn : n < 4294967296) (k : RR M d t W₀ (pc + 1) ls (zI ((m &&& n : Nat) : Int) :: st) K X) : RR M d t W₀ pc ls (zI (n : Int) :: zI (m : Int) :: st) K X := by
  intro p l e R s m args below meth c cells slots Q D Y ad A hC hK hX H locs lsA hP hS hl
  have h9 := k p l e R s m args below meth c cells slots Q D Y ad A hC hK hX H locs lsA hP hS hl
  unfold zI at h9
  rw [← z_and hm hn] at h9
  exact lv_iand hC.1.1 hC.1.2.1 hd h9
theorem rr_iandm {a b : Int} (j : Nat) (hd : decode M.2.1 pc = .ok (.iand, 1)) (hj : j < 32) (hb : b = 2 ^ j - 1) (k : RR M d t W₀ (pc + 1) ls (zI (a % 2 ^ j) :: st) K X) : RR M d t W₀ pc ls (zI b :: zI a :: st) K X := by
  intro p l e R s m args below meth c cells slots Q D Y ad A hC hK hX H locs lsA hP hS hl
  have h9 := k p l e R s m args below meth c cells slots Q D Y ad A hC hK hX H locs lsA hP hS hl
  unfold zI at h9
  rw [← z_mask a j hj hb] at h9
  exact lv_iand hC.1.1 hC.1.2.1 hd h9
theorem rr_iandn {m n : Nat} (hd : decode M.2.1 pc = .ok (.iand, 1)) (hm : m < 4294967296) (hn : n < 4294967296) (k : RR M d t W₀ (pc + 1) ls (zI ((m ^^^ (m &&& n) : Nat) : Int) :: st) K X) : RR M d t W₀ pc ls (zI (-1 - (n : Int)) :: zI (m : Int) :: st) K X := by
  intro p l e R s m args below meth c cells slots Q D Y ad A hC hK hX H locs lsA hP hS hl
  have h9 := k p l e R s m args below meth c cells slots Q D Y ad A hC hK hX H locs lsA hP hS hl
  unfold zI at h9
  rw [← z_andnot hm hn] at h9
  exact lv_iand hC.1.1 hC.1.2.1 hd h9
theorem rr_ior {m n : Nat} (hd : decode M.2.1 pc = .ok (.ior, 1)) (hm : m < 4294967296) (hn : n < 4294967296) (k : RR M d t W₀ (pc + 1) ls (zI ((m ||| n : Nat) : Int) :: st) K X) : RR M d t W₀ pc ls (zI (n : Int) :: zI (m : Int) :: st) K X := by
  intro p l e R s m args below meth c cells slots Q D Y ad A hC hK hX H locs lsA hP hS hl
  have h9 := k p l e R s m args below meth c cells slots Q D Y ad A hC hK hX H locs lsA hP hS hl
  unfold zI at h9
  rw [← z_or hm hn] at h9
  exact lv_ior hC.1.1 hC.1.2.1 hd h9
theorem rr_inot {n : Nat} (hd : decode M.2.1 pc = .ok (.ixor, 1)) (hn : n < 4294967296) (k : RR M d t W₀ (pc + 1) ls (zI (-1 - (n : Int)) :: st) K X) : RR M d t W₀ pc ls (zI (-1) :: zI (n : Int) :: st) K X := by
  intro p l e R s m args below meth c cells slots Q D Y ad A hC hK hX H locs lsA hP hS hl
  have h9 := k p l e R s m args below meth c cells slots Q D Y ad A hC hK hX H locs lsA hP hS hl
  unfold zI at h9
  rw [← z_not hn] at h9
  exact lv_ixor hC.1.1 hC.1.2.1 hd h9
theorem rr_i2b {a : Int} (hd : decode M.2.1 pc = .ok (.i2b, 1)) (k : RR M d t W₀ (pc + 1) ls (zI (a.bmod 256) :: st) K X) : RR M d t W₀ pc ls (zI a :: st) K X := by
  intro p l e R s m args below meth c cells slots Q D Y ad A hC hK hX H locs lsA hP hS hl
  exact lv_i2b hC.1.1 hC.1.2.1 hd (z_i2b a) (k p l e R s m args below meth c cells slots Q D Y ad A hC hK hX H locs lsA hP hS hl)
theorem rr_idiv {a b : Int} (hd : decode M.2.1 pc = .ok (.idiv, 1)) (ha : 0 ≤ a) (hb : 0 < b) (ha2 : a < 2147483648) (hb2 : b < 2147483648) (k : RR M d t W₀ (pc + 1) ls (zI (a / b) :: st) K X) : RR M d t W₀ pc ls (zI b :: zI a :: st) K X := by
  intro p l e R s m args below meth c cells slots Q D Y ad A hC hK hX H locs lsA hP hS hl
  have h9 := k p l e R s m args below meth c cells slots Q D Y ad A hC hK hX H locs lsA hP hS hl
  unfold zI at h9
  rw [← z_tdiv ha hb ha2 hb2] at h9
  exact lv_idiv hC.1.1 hC.1.2.1 hd (z_ne0 ⟨by omega, hb2⟩ (by omega)) h9
/-- any int by a number that isn't 0: something comes -/
theorem rr_idivx {a b : Int} (hd : decode M.2.1 pc = .ok (.idiv, 1)) (hb : b ≠ 0) (hb2 : zR b) (k : ∀ q : Int, zR q → RR M d t W₀ (pc + 1) ls (zI q :: st) K X) : RR M d t W₀ pc ls (zI b :: zI a :: st) K X := by
  intro p l e R s m args below meth c cells slots Q D Y ad A hC hK hX H locs lsA hP hS hl
  have h9 := k (Int32.ofInt a / Int32.ofInt b).toInt (zR_of _) p l e R s m args below meth c cells slots Q D Y ad A hC hK hX H locs lsA hP hS hl
  unfold zI at h9
  rw [z_back] at h9
  exact lv_idiv hC.1.1 hC.1.2.1 hd (z_ne0 hb2 hb) h9
theorem rr_irem {a b : Int} (hd : decode M.2.1 pc = .ok (.irem, 1)) (ha : 0 ≤ a) (hb : 0 < b) (ha2 : a < 2147483648) (hb2 : b < 2147483648) (k : RR M d t W₀ (pc + 1) ls (zI (a % b) :: st) K X) : RR M d t W₀ pc ls (zI b :: zI a :: st) K X := by
  intro p l e R s m args below meth c cells slots Q D Y ad A hC hK hX H locs lsA hP hS hl
  have h9 := k p l e R s m args below meth c cells slots Q D Y ad A hC hK hX H locs lsA hP hS hl
  unfold zI at h9
  rw [← z_trem ha hb ha2 hb2] at h9
  exact lv_irem hC.1.1 hC.1.2.1 hd (z_ne0 ⟨by omega, hb2⟩ (by omega)) h9
theorem rr_tabI {dflt lo hi : Int} {offs : Array Int} {len : Nat} {a off : Int} {tgt : Nat} (hd : decode M.2.1 pc = .ok (.tableswitch dflt lo hi offs, len)) (ha : zR a) (h1 : lo ≤ a) (h2 : a ≤ hi) (ho : offs[(a - lo).toNat]? = some off) (ht : (pc : Int) + off = (tgt : Int)) (k : RR M d t W₀ tgt ls st K X) : RR M d t W₀ pc ls (zI a :: st) K X := by
  intro p l e R s m args below meth c cells slots Q D Y ad A hC hK hX H locs lsA hP hS hl
  exact lv_tableIn hC.1.1 hC.1.2.1 hd (by rw [zR_toInt ha]; omega) (by rw [zR_toInt ha]; omega) (by rw [zR_toInt ha]; exact ho) ht (k p l e R s m args below meth c cells slots Q D Y ad A hC hK hX H locs lsA hP hS hl)
theorem rr_tabO {dflt lo hi : Int} {offs : Array Int} {len : Nat} {a : Int} {tgt : Nat} (hd : decode M.2.1 pc = .ok (.tableswitch dflt lo hi offs, len)) (ha : zR a) (h : a < lo ∨ hi < a) (ht : (pc : Int) + dflt = (tgt : Int)) (k : RR M d t W₀ tgt ls st K X) : RR M d t W₀ pc ls (zI a :: st) K X := by
  intro p l e R s m args below meth c cells slots Q D Y ad A hC hK hX H locs lsA hP hS hl
  exact lv_tableOut hC.1.1 hC.1.2.1 hd (by rw [zR_toInt ha]; exact h) ht (k p l e R s m args below meth c cells slots Q D Y ad A hC hK hX H locs lsA hP hS hl)
theorem rr_ldc {index : Nat} {n : Int} (hd : decode M.2.1 pc = .ok (.ldc index, 2)) (hw : Cond.constant M.1 index (Int32.ofInt n) ∈ zWs) (k : RR M d t W₀ (pc + 2) ls (zI n :: st) K X) : RR M d t W₀ pc ls st K X := by
  intro p l e R s m args below meth c cells slots Q D Y ad A hC hK hX H locs lsA hP hS hl
  exact lv_ldc hC.1.1 hC.1.2.1 hC.1.2.2.2.1 (hC.1.2.2.2.2 _ (List.mem_cons_of_mem _ hw)) hd (k p l e R s m args below meth c cells slots Q D Y ad A hC hK hX H locs lsA hP hS hl)
theorem rr_ldcs {index : Nat} (i : Nat) {text : String} {codes : List Int} (hd : decode M.2.1 pc = .ok (.ldc index, 2)) (hi : zStrs[i]? = some (M.1, index, text, codes)) (k : RR M d t W₀ (pc + 2) ls (.ref (1000 + i) :: st) K X) : RR M d t W₀ pc ls st K X := by
  intro p l e R s m args below meth c cells slots Q D Y ad A hC hK hX H locs lsA hP hS hl
  obtain ⟨h1, h2, h3, h4, h5, h6, h7⟩ := id hC
  exact va_ldcS h1.1 h1.2.1 h1.2.2.2.1 (h6.2.2.2.2.1 i _ hi).1 hd (k p l e R s m args below meth c cells slots Q D Y ad A hC hK hX H locs lsA hP hS hl)
end ZB
end
section
/-- a link of the pool of 'own': field j of the objects of kind ci -/
def zFl (own : String) (index ci j : Nat) : Prop := ∃ (C : String) (T : u_T), vwCl[ci]? = some (C, T, znf ci) ∧ ci < 8 ∧ j < znf ci ∧ (∀ w ∈ u_ws C T (znf ci), w ∈ zWs) ∧ (∃ ty0 : Nat → FieldType, ∀ k, k < znf ci → parseFieldDescriptor (T k).2.2.1 = some (ty0 k)) ∧ (∀ a, a < znf ci → ∀ b, b < znf ci → a ≠ b → (T a).2.1 ≠ (T b).2.1) ∧
  (Cond.fieldLink own index (T j).1 (T j).2.1 (T j).2.2.1 ∈ zWs ∨ ∃ host, Cond.fieldLinkNest own index (T j).1 (T j).2.1 (T j).2.2.1 host ∈ zNst)
/-- it holds an int that may be written -/
def zFp (ci j : Nat) : Prop := ∀ (C : String) (T : u_T), vwCl[ci]? = some (C, T, znf ci) → (T j).2.2.2 = false ∧ (T j).2.2.1 = "I"
theorem zfv_i {ad : Nat → Nat} {W : zWd} {k j : Nat} (h : zr k j = none) : zfv ad W k j = zt ad (zI (W k j)) := by
  simp only [zfv, h]; rfl
theorem zfv_r {ad : Nat → Nat} {W : zWd} {k j r : Nat} (h : zr k j = some r) : zfv ad W k j = zt ad (.ref r) := by
  simp only [zfv, h]; rfl
theorem zfs_at {ad : Nat → Nat} {W : zWd} {k n j : Nat} (h : j < n) : ((List.range n).map (zfv ad W k))[j]? = some (zfv ad W k j) := by
  simp [h]
section ZC
variable {M : zM} {d t : Nat} {W₀ : zWd} {pc : Nat} {ls st : List Value} {K : zK} {X : zX}
theorem rr_get {index ci j k : Nat} {v : Value} (hd : decode M.2.1 pc = .ok (.getfield index, 3)) (hf : zFl M.1 index ci j) (hk : zk k = (ci, 0)) (hv : ∀ ad, zfv ad W₀ k j = zt ad v) (kk : RR M d t W₀ (pc + 3) ls (v :: st) K X) : RR M d t W₀ pc ls (.ref k :: st) K X := by
  intro p l e R s m args below meth c cells slots Q D Y ad A hC hK hX H locs lsA hP hS hl
  obtain ⟨C, T, hcl, hci, hj, hws, -, -, hlk⟩ := hf
  obtain ⟨⟨h1, h2, h3, h4, h5⟩, -, -, -, -, ⟨h6, h7, -⟩, -⟩ := id hC
  have hk9 := zk_lt hk (by omega)
  have hin : ∀ w ∈ u_ws C T (znf ci), w ∈ zwM M := fun w hw => List.mem_cons_of_mem _ (hws w hw)
  have he := zws_at Y ad W₀ hk9
  rw [zc_obj Y ad W₀ hk hci] at he
  have h9 := kk p l e R s m args below meth c cells slots Q D Y ad A hC hK hX H locs lsA hP hS hl
  have hvv : ((List.range (znf ci)).map (zfv ad W₀ k))[j]? = some (zt ad v) := by rw [zfs_at hj, hv ad]
  rcases hlk with hw | ⟨host, hw⟩
  · exact va_get h1 h2 h5 hin h4 h6 hP k he hcl j hj (h5 _ (List.mem_cons_of_mem _ hw)) (fun _ h => h) hvv hd h9
  · exact va_getN h1 h2 h5 hin h4 h6 hP k he hcl j hj (va_Nw.use (zNst_on hw) (h7 _ hw)) (fun _ h => h) hvv hd h9
theorem rr_getI {index ci j k : Nat} {ji : Int} (hd : decode M.2.1 pc = .ok (.getfield index, 3)) (hf : zFl M.1 index ci j) (hk : zk k = (ci, 0)) (hr : zr k j = none) (hji : (j : Int) = ji) (kk : RR M d t W₀ (pc + 3) ls (zI (W₀ k ji) :: st) K X) : RR M d t W₀ pc ls (.ref k :: st) K X := by
  subst hji
  exact rr_get hd hf hk (fun _ => zfv_i hr) kk
theorem rr_getR {index ci j k r : Nat} (hd : decode M.2.1 pc = .ok (.getfield index, 3)) (hf : zFl M.1 index ci j) (hk : zk k = (ci, 0)) (hr : zr k j = some r) (kk : RR M d t W₀ (pc + 3) ls (.ref r :: st) K X) : RR M d t W₀ pc ls (.ref k :: st) K X :=
  rr_get hd hf hk (fun _ => zfv_r hr) kk
theorem rr_put {index ci j k : Nat} {v ji : Int} (hd : decode M.2.1 pc = .ok (.putfield index, 3)) (hf : zFl M.1 index ci j) (hp : zFp ci j) (hk : zk k = (ci, 0)) (hr : zr k j = none) (hji : (j : Int) = ji) (kk : RR M d t (zup W₀ k ji v) (pc + 3) ls st K X) : RR M d t W₀ pc ls (zI v :: .ref k :: st) K X := by
  subst hji
  intro p l e R s m args below meth c cells slots Q D Y ad A hC hK hX H locs lsA hP hS hl
  obtain ⟨C, T, hcl, hci, hj, hws, ⟨ty0, hty⟩, hnm, hlk⟩ := hf
  obtain ⟨hfin, hd9⟩ := hp C T hcl
  obtain ⟨⟨h1, h2, h3, h4, h5⟩, -, -, -, -, ⟨h6, h7, -⟩, hAd, -⟩ := id hC
  have hk9 := zk_lt hk (by omega)
  have hin : ∀ w ∈ u_ws C T (znf ci), w ∈ zwM M := fun w hw => List.mem_cons_of_mem _ (hws w hw)
  have he := zws_at Y ad W₀ hk9
  rw [zc_obj Y ad W₀ hk hci] at he
  have hset := zws_set Y ad W₀ (zup W₀ k j v) hk9 _ (zc_putF Y ad W₀ hk hci hj hr v) zup_other
  have hdd : parseFieldDescriptor (T j).2.2.1 = some .int := by rw [hd9]; rfl
  have kk9 : ∀ (H1 : Heap) (locs1 : List Loc), va_P D vwCl ((zws Y ad W₀).set k (ad k, .inr (ci, ((List.range (znf ci)).map (zfv ad W₀ k)).set j (zI v)))) H1 → va_D A ((zws Y ad W₀).set k (ad k, .inr (ci, ((List.range (znf ci)).map (zfv ad W₀ k)).set j (zI v)))) → va_S A s.heap H1 locs1 → W p l e R s m args below meth c H1 locs1 cells slots Q (F0 m (pc + 3) lsA (zts ad st)) := by
    intro H1 locs1 hP1 _ hS1
    rw [hset] at hP1
    exact kk p l e R s m args below meth c cells slots Q D Y ad A hC hK hX H1 locs1 lsA hP1 hS1 hl
  rcases hlk with hw | ⟨host, hw⟩
  · exact va_put h1 h2 h5 hin ty0 hty hnm h4 h6 hP (hAd.D Y W₀) hS k he hcl j hj (h5 _ (List.mem_cons_of_mem _ hw)) (fun _ h => h) hfin hdd rfl rfl (by simpa using hj) hd kk9
  · exact va_putN h1 h2 h5 hin ty0 hty hnm h4 h6 hP (hAd.D Y W₀) hS k he hcl j hj (va_Nw.use (zNst_on hw) (h7 _ hw)) (fun _ h => h) hfin hdd rfl rfl (by simpa using hj) hd kk9
theorem z_rd (W : zWd) (k : Nat) {i : Int} {n : Nat} (h0 : 0 ≤ i) (h1 : i < n) (hn : n < 2147483648) : Int32.ofInt (W k ((Int32.ofInt i).toNatClampNeg : Nat)) = Int32.ofInt (W k i) := by
  rw [z_clamp h0 (by omega), show ((i.toNat : Nat) : Int) = i by omega]
theorem rr_iald {k n : Nat} {i : Int} (hd : decode M.2.1 pc = .ok (.iaload, 1)) (hk : zk k = (10, n)) (h0 : 0 ≤ i) (h1 : i < n) (kk : RR M d t W₀ (pc + 1) ls (zI (W₀ k i) :: st) K X) : RR M d t W₀ pc ls (zI i :: .ref k :: st) K X := by
  intro p l e R s m args below meth c cells slots Q D Y ad A hC hK hX H locs lsA hP hS hl
  obtain ⟨⟨g1, g2, g3, g4, g5⟩, -, -, -, -, ⟨h6, h7, -⟩, hAd, -⟩ := id hC
  have he := zws_at Y ad W₀ (zk_lt hk (by omega))
  rw [zc_int Y ad W₀ hk] at he
  refine va_iald g1 g2 h6 hP k 0 he rfl (z_in h0 h1 (zk_len hk)) hd ?_
  rw [z_rd W₀ k h0 h1 (zk_len hk)]
  exact kk p l e R s m args below meth c cells slots Q D Y ad A hC hK hX H locs lsA hP hS hl
theorem rr_bald {k n : Nat} {i : Int} (hd : decode M.2.1 pc = .ok (.baload, 1)) (hk : zk k = (11, n)) (h0 : 0 ≤ i) (h1 : i < n) (kk : RR M d t W₀ (pc + 1) ls (zI (W₀ k i) :: st) K X) : RR M d t W₀ pc ls (zI i :: .ref k :: st) K X := by
  intro p l e R s m args below meth c cells slots Q D Y ad A hC hK hX H locs lsA hP hS hl
  obtain ⟨⟨g1, g2, g3, g4, g5⟩, -, -, -, -, ⟨h6, h7, -⟩, hAd, -⟩ := id hC
  have he := zws_at Y ad W₀ (zk_lt hk (by omega))
  rw [zc_byte Y ad W₀ hk] at he
  refine va_bald g1 g2 h6 hP k 1 he rfl (z_in h0 h1 (zk_len hk)) hd ?_
  rw [z_rd W₀ k h0 h1 (zk_len hk)]
  exact kk p l e R s m args below meth c cells slots Q D Y ad A hC hK hX H locs lsA hP hS hl
theorem rr_zald {k n : Nat} {i : Int} (hd : decode M.2.1 pc = .ok (.baload, 1)) (hk : zk k = (12, n)) (h0 : 0 ≤ i) (h1 : i < n) (kk : RR M d t W₀ (pc + 1) ls (zI (W₀ k i) :: st) K X) : RR M d t W₀ pc ls (zI i :: .ref k :: st) K X := by
  intro p l e R s m args below meth c cells slots Q D Y ad A hC hK hX H locs lsA hP hS hl
  obtain ⟨⟨g1, g2, g3, g4, g5⟩, -, -, -, -, ⟨h6, h7, -⟩, hAd, -⟩ := id hC
  have he := zws_at Y ad W₀ (zk_lt hk (by omega))
  rw [zc_bool Y ad W₀ hk] at he
  refine va_zald g1 g2 h6 hP k 2 he rfl (z_in h0 h1 (zk_len hk)) hd ?_
  rw [z_rd W₀ k h0 h1 (zk_len hk)]
  exact kk p l e R s m args below meth c cells slots Q D Y ad A hC hK hX H locs lsA hP hS hl
theorem rr_iast {k n : Nat} {i v : Int} (hd : decode M.2.1 pc = .ok (.iastore, 1)) (hk : zk k = (10, n)) (h0 : 0 ≤ i) (h1 : i < n) (kk : RR M d t (zup W₀ k i v) (pc + 1) ls st K X) : RR M d t W₀ pc ls (zI v :: zI i :: .ref k :: st) K X := by
  intro p l e R s m args below meth c cells slots Q D Y ad A hC hK hX H locs lsA hP hS hl
  obtain ⟨⟨g1, g2, g3, g4, g5⟩, -, -, -, -, ⟨h6, h7, -⟩, hAd, -⟩ := id hC
  have hk9 := zk_lt hk (by omega)
  have he := zws_at Y ad W₀ hk9
  rw [zc_int Y ad W₀ hk] at he
  have hset := zws_set Y ad W₀ (zup W₀ k i v) hk9 _ (zc_putA Y ad W₀ hk h0 h1 (v := v)) zup_other
  refine va_iast g1 g2 h6 hP (hAd.D Y W₀) hS k 0 he rfl (z_in h0 h1 (zk_len hk)) hd (fun H1 locs1 hP1 _ hS1 => ?_)
  rw [hset] at hP1
  exact kk p l e R s m args below meth c cells slots Q D Y ad A hC hK hX H1 locs1 lsA hP1 hS1 hl
theorem z_narB {v : Int} (h0 : -128 ≤ v) (h1 : v < 128) : vp_nar .byte (Int32.ofInt v) = Int32.ofInt v := by
  rw [vp_nar_byte, z_i2b]
  congr 1
  rw [Int.bmod_def]
  omega
theorem rr_bast {k n : Nat} {i v : Int} (hd : decode M.2.1 pc = .ok (.bastore, 1)) (hk : zk k = (11, n)) (h0 : 0 ≤ i) (h1 : i < n) (hv0 : -128 ≤ v) (hv1 : v < 128) (kk : RR M d t (zup W₀ k i v) (pc + 1) ls st K X) : RR M d t W₀ pc ls (zI v :: zI i :: .ref k :: st) K X := by
  intro p l e R s m args below meth c cells slots Q D Y ad A hC hK hX H locs lsA hP hS hl
  obtain ⟨⟨g1, g2, g3, g4, g5⟩, -, -, -, -, ⟨h6, h7, -⟩, hAd, -⟩ := id hC
  have hk9 := zk_lt hk (by omega)
  have he := zws_at Y ad W₀ hk9
  rw [zc_byte Y ad W₀ hk] at he
  have hset := zws_set Y ad W₀ (zup W₀ k i v) hk9 _ (zc_putB Y ad W₀ hk h0 h1 (v := v)) zup_other
  refine va_bast g1 g2 h6 hP (hAd.D Y W₀) hS k 1 he rfl (z_in h0 h1 (zk_len hk)) hd (fun H1 locs1 hP1 _ hS1 => ?_)
  rw [z_narB hv0 hv1, hset] at hP1
  exact kk p l e R s m args below meth c cells slots Q D Y ad A hC hK hX H1 locs1 lsA hP1 hS1 hl
theorem rr_zast1 {k n : Nat} {i : Int} (hd : decode M.2.1 pc = .ok (.bastore, 1)) (hk : zk k = (12, n)) (h0 : 0 ≤ i) (h1 : i < n) (kk : RR M d t (zup W₀ k i 1) (pc + 1) ls st K X) : RR M d t W₀ pc ls (zI 1 :: zI i :: .ref k :: st) K X := by
  intro p l e R s m args below meth c cells slots Q D Y ad A hC hK hX H locs lsA hP hS hl
  obtain ⟨⟨g1, g2, g3, g4, g5⟩, -, -, -, -, ⟨h6, h7, -⟩, hAd, -⟩ := id hC
  have hk9 := zk_lt hk (by omega)
  have he := zws_at Y ad W₀ hk9
  rw [zc_bool Y ad W₀ hk] at he
  have hset := zws_set Y ad W₀ (zup W₀ k i 1) hk9 _ (zc_putZ Y ad W₀ hk h0 h1 (v := 1)) zup_other
  refine va_zast g1 g2 h6 hP (hAd.D Y W₀) hS k 2 he rfl (z_in h0 h1 (zk_len hk)) hd (fun H1 locs1 hP1 _ hS1 => ?_)
  rw [show vp_nar .boolean (Int32.ofInt 1) = Int32.ofInt 1 from rfl, hset] at hP1
  exact kk p l e R s m args below meth c cells slots Q D Y ad A hC hK hX H1 locs1 lsA hP1 hS1 hl
theorem rr_aald {k n r : Nat} {i : Int} (hd : decode M.2.1 pc = .ok (.aaload, 1)) (hk : zk k = (13, n)) (h0 : 0 ≤ i) (h1 : i < n) (hr : zr k i.toNat = some r) (kk : RR M d t W₀ (pc + 1) ls (.ref r :: st) K X) : RR M d t W₀ pc ls (zI i :: .ref k :: st) K X := by
  intro p l e R s m args below meth c cells slots Q D Y ad A hC hK hX H locs lsA hP hS hl
  obtain ⟨⟨g1, g2, g3, g4, g5⟩, -, -, -, -, ⟨h6, h7, -⟩, hAd, -⟩ := id hC
  have he := zws_at Y ad W₀ (zk_lt hk (by omega))
  rw [zc_refs Y ad W₀ hk] at he
  refine va_aldq g1 g2 h6 hP k 3 he rfl (z_in h0 h1 (zk_len hk)) hd ?_
  rw [z_clamp h0 (by have := zk_len hk; omega)]
  show W p l e R s m args below meth c H locs cells slots Q (F0 m (pc + 1) lsA (va_rf ((zr k i.toNat).map ad) :: zts ad st))
  rw [hr]
  exact kk p l e R s m args below meth c cells slots Q D Y ad A hC hK hX H locs lsA hP hS hl
theorem rr_alen {k n ci : Nat} {ni : Int} (hd : decode M.2.1 pc = .ok (.arraylength, 1)) (hk : zk k = (ci, n)) (hci : ci = 10 ∨ ci = 11) (hni : (n : Int) = ni) (kk : RR M d t W₀ (pc + 1) ls (zI ni :: st) K X) : RR M d t W₀ pc ls (.ref k :: st) K X := by
  subst hni
  intro p l e R s m args below meth c cells slots Q D Y ad A hC hK hX H locs lsA hP hS hl
  obtain ⟨⟨g1, g2, g3, g4, g5⟩, -, -, -, -, ⟨h6, h7, -⟩, hAd, -⟩ := id hC
  have he := zws_at Y ad W₀ (zk_lt hk (by omega))
  have h9 := kk p l e R s m args below meth c cells slots Q D Y ad A hC hK hX H locs lsA hP hS hl
  rcases hci with rfl | rfl
  · rw [zc_int Y ad W₀ hk] at he
    exact va_alen g1 g2 h6 hP k 0 he rfl (v := Int32.ofInt n) rfl hd h9
  · rw [zc_byte Y ad W₀ hk] at he
    exact va_alen g1 g2 h6 hP k 1 he rfl (v := Int32.ofInt n) rfl hd h9
end ZC
end
section
/-! a method's contract over worlds: from the world W₀ and these arguments it returns as Q says, or throws as X says; t: how many things of the exceptions may be made -/
def zEQ (D : va_G) (Y : zY) (ad : Nat → Nat) (A : Nat → Prop) (Q : Option Value → zWd → Prop) : Array Value → State → Outcome → State → Prop := fun _ st oc tt => (∃ (r : Option Value) (W' : zWd), oc = .returned (r.map (zt ad)) ∧ Q r W' ∧ va_P D vwCl (zws Y ad W') tt.heap) ∧ va_F A st tt
def zEX (D : va_G) (Y : zY) (ad : Nat → Nat) (A : Nat → Prop) (X : zX) : String → State → State → Prop := fun E st tt => (∃ W' : zWd, X E W' ∧ va_P D vwCl (zws Y ad W') tt.heap) ∧ va_F A st tt
def zEP (D : va_G) (Y : zY) (ad : Nat → Nat) (A : Nat → Prop) (W₀ : zWd) (args : List Value) : Array Value → State → Prop := va_Pc (zts ad args) (fun U => va_P D vwCl (zws Y ad W₀) U.heap ∧ zE D Y ad A U ∧ (∀ q : Nat, U.heap.size ≤ q → A q))
def zRm (d t : Nat) : Room := { frames := d, cells := t, slots := 6 * t, locals := 40 * d }
def Ev (M : zM) (d t : Nat) (W₀ : zWd) (args : List Value) (Q : Option Value → zWd → Prop) (X : zX) : Prop :=
  ∀ (l : Launch) (D : va_G) (Y : zY) (ad : Nat → Nat) (A : Nat → Prop), l.stackTraces = false → zAd ad A → vx_Met l M.2.2.2.1 (zwM M) (zRm d t) (zEP D Y ad A W₀ args) (zEQ D Y ad A Q) (zEX D Y ad A X) t (6 * t) A
/-- how 'throw new E("..")' stands at pc -/
def zThrow (M : zM) (pc : Nat) (E : String) : Prop := ∃ (ik is ic i : Nat) (text : String) (codes : List Int) (names : List String), decode M.2.1 pc = .ok (.new ik, 3) ∧ decode M.2.1 (pc + 3) = .ok (.dup, 1) ∧ decode M.2.1 (pc + 4) = .ok (.ldc is, 2) ∧ decode M.2.1 (pc + 6) = .ok (.invokespecial ic, 3) ∧ decode M.2.1 (pc + 9) = .ok (.athrow, 1) ∧
  Bundle.fit E = true ∧ (∀ n ∈ names, Bundle.fit n = true) ∧ names.length ≤ 3 ∧ Cond.classLink M.1 ik E ∈ zWs ∧ Cond.initialized E ∈ zWs ∧ zStrs[i]? = some (M.1, is, text, codes) ∧ (∀ w ∈ vx_atS M.1 ic E names, w ∈ zWs ∨ w ∈ zNst)
def zThrowW (M : zM) (pc : Nat) (E : String) : Prop := ∃ (ik is ic i : Nat) (text : String) (codes : List Int) (names : List String), decode M.2.1 pc = .ok (.new ik, 3) ∧ decode M.2.1 (pc + 3) = .ok (.dup, 1) ∧ decode M.2.1 (pc + 4) = .ok (.ldc_w is, 3) ∧ decode M.2.1 (pc + 7) = .ok (.invokespecial ic, 3) ∧ decode M.2.1 (pc + 10) = .ok (.athrow, 1) ∧
  Bundle.fit E = true ∧ (∀ n ∈ names, Bundle.fit n = true) ∧ names.length ≤ 3 ∧ Cond.classLink M.1 ik E ∈ zWs ∧ Cond.initialized E ∈ zWs ∧ zStrs[i]? = some (M.1, is, text, codes) ∧ (∀ w ∈ vx_atS M.1 ic E names, w ∈ zWs ∨ w ∈ zNst)
/-- the ends of a method -/
def zEnd (M : zM) (Q : Option Value → zWd → Prop) (X : zX) : zK := fun t' pc _ st W' =>
  (M.2.2.2.2 = none ∧ decode M.2.1 pc = .ok (.return_, 1) ∧ st = [] ∧ Q none W') ∨
  (∃ (ty : FieldType) (z : Int), M.2.2.2.2 = some ty ∧ decode M.2.1 pc = .ok (.ireturn, 1) ∧ st = [zI z] ∧ narrow ty (zI z) = zI z ∧ Q (some (zI z)) W') ∨
  (∃ (C : String) (k : Nat), M.2.2.2.2 = some (.object C) ∧ decode M.2.1 pc = .ok (.areturn, 1) ∧ st = [.ref k] ∧ Q (some (.ref k)) W') ∨
  (∃ E : String, (zThrow M pc E ∨ zThrowW M pc E) ∧ st = [] ∧ 1 ≤ t' ∧ X E W')
theorem zThrow_hat {own : String} {ic : Nat} {E : String} {names : List String} {M : zM} {args : Array Value} {s : State} (hts : ∀ w ∈ zwM M, w.before args s = true) (hn : ∀ w ∈ zNst, va_Nw w s) (h : ∀ w ∈ vx_atS own ic E names, w ∈ zWs ∨ w ∈ zNst) :
    (∀ w ∈ vx_atS own ic E names, w.before args s = true) ∧ ∀ w ∈ vx_atS own ic E names, vx_ot w = true := by
  refine ⟨fun w hw => ?_, fun w hw => ?_⟩
  · rcases h w hw with q | q
    · exact hts w (List.mem_cons_of_mem _ q)
    · exact va_Nw.use (zNst_on q) (hn w q)
  · rcases h w hw with q | q
    · simp [vx_ot, zWs_good q]
    · simp [vx_ot, zNst_on q]
theorem zKept {D : va_G} {Y : zY} {ad : Nat → Nat} {W₀ : zWd} {H H1 : Heap} (h : va_P D vwCl (zws Y ad W₀) H) (hk : ∀ q : Nat, q < H.size → H1[q]? = H[q]?) : va_P D vwCl (zws Y ad W₀) H1 := fun k q hq => (h k q hq).kept (hk q.1 (h k q hq).lt)
set_option maxHeartbeats 1000000 in
/-- a body's walk gives the contract -/
theorem ev_of {M : zM} {d t : Nat} {W₀ : zWd} {args ls : List Value} {Q : Option Value → zWd → Prop} {X : zX} (hy : plainName M.2.2.2.1.cls = true) (hy2 : M.1 = M.2.2.2.1.cls) (hl0 : ∀ ad, lv_args 0 (zts ad args) = zl ad 0 ls) (hn : ∀ ad, (lg_sl (zts ad args)).length ≤ M.2.2.1) (hd : t = 0 ∨ 7 ≤ d)
    (h : RR M d t W₀ 0 ls [] (zEnd M Q X) X) : Ev M d t W₀ args Q X := by
  intro l D Y ad A hst hAd
  refine vx_ofW (cc := M.2.1) (maxL := M.2.2.1) (ret := M.2.2.2.2) hy rfl ?_
  intro p e s m a below meth c s₁ B hml hh hv
  obtain ⟨rfl, hP, hE, hA⟩ := hv
  have hts := atoms_spec (ws := zwM M) B.pre
  have hown : s.vm.findClass M.1 = some m.cls := by rw [hy2]; exact findClass_of_methodNamed B.named
  have hlocks := B.notSynchronized
  have hx := B.exec
  have hb := B.bytes
  have hC : zC M d t p l (headSpec (zwM M) (zRm d t)).room s m (zts ad args).toArray meth c 0 0 D Y ad A :=
    ⟨⟨hx, hb, hml, hown, hts⟩, hst, hlocks, hh, B.returns, hE, hAd, hA, Nat.le_refl _, Nat.le_refl _, by show 0 + t ≤ t; omega, by show 0 + 6 * t ≤ 6 * t; omega⟩
  have hl := lv_entry (zts ad args) (n := M.2.2.1) (hn ad)
  rw [hl0 ad] at hl
  rw [lg_entry_eq]
  refine h p l e _ s m (zts ad args).toArray below meth c 0 0 _ D Y ad A hC ?_ ?_ s.heap [] _ hP va_S.rf hl
  · intro t' pc' ls' st' W' H' locs' lsA' cells' slots' hk hP' hS' hl' hc' hs'
    rcases hk with ⟨hr, hdg, rfl, hq⟩ | ⟨ty, z, hr, hdg, rfl, hnr, hq⟩ | ⟨C, k, hr, hdg, rfl, hq⟩ | ⟨E, hth, rfl, ht1, hq⟩
    · refine W.widen (k := t) (n := 6 * t) (by omega) (by omega) (vx_ret ?_)
      exact W.vret hx hb (B.returns.trans hr) (fun tt htt hW => ⟨⟨none, W', rfl, hq, by rw [htt]; exact hP'⟩, hS'.F htt⟩) hS'.2.2 hdg hlocks
    · refine W.widen (k := t) (n := 6 * t) (by omega) (by omega) (vx_ret ?_)
      exact W.zret hx hb (B.returns.trans hr) hnr (fun tt htt hW => ⟨⟨some (zI z), W', rfl, hq, by rw [htt]; exact hP'⟩, hS'.F htt⟩) hS'.2.2 hdg hlocks
    · refine W.widen (k := t) (n := 6 * t) (by omega) (by omega) (vx_ret ?_)
      exact W.aret hx hb (B.returns.trans hr) (Or.inl ⟨C, rfl⟩) (Or.inr ⟨ad k, rfl⟩) (fun tt htt hW => ⟨⟨some (.ref k), W', rfl, hq, by rw [htt]; exact hP'⟩, hS'.F htt⟩) hS'.2.2 hdg hlocks
    · have hd7 : 7 ≤ d := by omega
      rcases hth with hth | hth
      · obtain ⟨ik, is, ic, i, text, codes, names, g0, g3, g4, g6, g9, f1, f2, f3, w1, w2, hi, hat⟩ := hth
        obtain ⟨hat1, hat2⟩ := zThrow_hat (M := M) hts hE.2.1 hat
        refine vx_throwS (cls := E) (names := names) (text := text) (sa := ad (1000 + i)) hx hb hst hown f1 f2 (hts _ (List.mem_cons_of_mem _ w1)) (hts _ (List.mem_cons_of_mem _ w2)) (hE.2.2.2.2.1 i _ hi).1 hat1 ?_ hE.2.2.1 hE.2.2.2.1 hS' (hl'.1.trans hml.symm) g0 g3 g4 g6 g9 (fun x hx => (hh x hx).elim) (by show names.length + 3 < d; omega) (by show _ ≤ 40 * d; simp [zts]; omega) (by show cells' + 1 ≤ t; omega) (by show slots' + 6 ≤ 6 * t; omega) hlocks ?_ hS'.2.2 (by omega) (by omega)
        · intro w hw
          rcases List.mem_cons.mp hw with rfl | hw
          · rfl
          · rcases List.mem_cons.mp hw with rfl | hw
            · rfl
            · exact hat2 w hw
        · intro tt hal hsz hkeep
          exact ⟨⟨W', hq, zKept hP' hkeep⟩, ⟨Nat.le_trans hS'.1 hsz, fun q hq1 hq2 => by rw [hkeep q (Nat.lt_of_lt_of_le hq1 hS'.1)]; exact hS'.2.1 q hq1 hq2⟩⟩
      · obtain ⟨ik, is, ic, i, text, codes, names, g0, g3, g4, g6, g9, f1, f2, f3, w1, w2, hi, hat⟩ := hth
        obtain ⟨hat1, hat2⟩ := zThrow_hat (M := M) hts hE.2.1 hat
        refine vx_throwSW (cls := E) (names := names) (text := text) (sa := ad (1000 + i)) hx hb hst hown f1 f2 (hts _ (List.mem_cons_of_mem _ w1)) (hts _ (List.mem_cons_of_mem _ w2)) (hE.2.2.2.2.1 i _ hi).1 hat1 ?_ hE.2.2.1 hE.2.2.2.1 hS' (hl'.1.trans hml.symm) g0 g3 g4 g6 g9 (fun x hx => (hh x hx).elim) (by show names.length + 3 < d; omega) (by show _ ≤ 40 * d; simp [zts]; omega) (by show cells' + 1 ≤ t; omega) (by show slots' + 6 ≤ 6 * t; omega) hlocks ?_ hS'.2.2 (by omega) (by omega)
        · intro w hw
          rcases List.mem_cons.mp hw with rfl | hw
          · rfl
          · rcases List.mem_cons.mp hw with rfl | hw
            · rfl
            · exact hat2 w hw
        · intro tt hal hsz hkeep
          exact ⟨⟨W', hq, zKept hP' hkeep⟩, ⟨Nat.le_trans hS'.1 hsz, fun q hq1 hq2 => by rw [hkeep q (Nat.lt_of_lt_of_le hq1 hS'.1)]; exact hS'.2.1 q hq1 hq2⟩⟩
  · intro E pc' st' W' H' locs' lsA' cells' slots' ce q hXE hP' hS' hc' hs' hce hcv hcl
    exact vx_out (fun x hx => (hh x hx).elim) hlocks hce hcv hcl (fun tt htt hal => ⟨⟨W', hXE, by rw [htt]; exact hP'⟩, hS'.F htt⟩) hS'.2.2 (by omega) (by omega)
theorem zts_app (ad : Nat → Nat) (a b : List Value) : zts ad (a ++ b) = zts ad a ++ zts ad b := by
  induction a with
  | nil => rfl
  | cons v t ih => simp [zts, ih]
theorem zts_rev (ad : Nat → Nat) (a : List Value) : zts ad a.reverse = (zts ad a).reverse := by
  induction a with
  | nil => rfl
  | cons v t ih => simp [zts, zts_app, ih]
theorem zts_len (ad : Nat → Nat) (a : List Value) : (zts ad a).length = a.length := by
  induction a with
  | nil => rfl
  | cons v t ih => simp [zts, ih]
/-- what a call asks of the tables, but its link -/
def zCm (M' : zM) (n : Nat) : Prop := Cond.code M'.2.2.2.1 M'.2.1 M'.2.2.1 M'.2.2.2.2 ∈ zWs ∧ Cond.initialized M'.1 ∈ zWs ∧ M'.2.2.2.1.cls = M'.1 ∧ M'.2.2.2.1.cls ≠ "java/lang/invoke/MethodHandle" ∧ M'.2.2.2.1.cls ≠ "java/lang/invoke/VarHandle" ∧ (parseMethodDescriptor M'.2.2.2.1.desc).map (fun d => d.parameters.length) = some n
def zVm (M' : zM) : Prop := Cond.instanceMethod M'.2.2.2.1 ∈ zWs ∧ Cond.selects M'.1 M'.2.2.2.1 M'.2.2.2.1 ∈ zWs
theorem zBlind {D : va_G} {Y : zY} {ad : Nat → Nat} {A : Nat → Prop} {W₀ : zWd} {args : List Value} : FrameBlind (zEP D Y ad A W₀ args) := fun a U g mk h => ⟨h.1, h.2.1, h.2.2.1.frame, h.2.2.2⟩
theorem zE_warm {D : va_G} {Y : zY} {ad : Nat → Nat} {A : Nat → Prop} {W₀ : zWd} {args : List Value} {s U : State} {H : Heap} {locs : List Loc} (hU : U.heap = H) (hW : s.WarmedH U.vm) (hS : va_S A s.heap H locs) (hE : zE D Y ad A s) (hP : va_P D vwCl (zws Y ad W₀) H) (hA : ∀ q : Nat, s.heap.size ≤ q → A q) : zEP D Y ad A W₀ args (zts ad args).toArray U :=
  ⟨rfl, by rw [hU]; exact hP, zE.move hW hU hS hE, fun q hq => hA q (Nat.le_trans hS.1 (by rw [← hU]; exact hq))⟩
/-- the caller goes on behind a call -/
theorem z_go {M : zM} {d t t' : Nat} {pc : Nat} {ls st st0 : List Value} {K : zK} {X : zX} {p : Program} {l : Launch} {e : Env} {R : Room} {s : State} {m : MethodId} {args : Array Value} {below : List Frame} {meth : Method} {c : Code} {cells slots : Nat} {Q : State → Prop} {D : va_G} {Y : zY} {ad : Nat → Nat} {A : Nat → Prop} {H : Heap} {locs : List Loc} {lsA : Array Slot} {a : Array Value} (htt : t' ≤ t)
    (hC : zC M d t p l R s m args meth c cells slots D Y ad A)
    (hK : ∀ (t' pc' : Nat) (ls' st' : List Value) (W' : zWd) (H' : Heap) (locs' : List Loc) (lsA' : Array Slot) (cells' slots' : Nat), K t' pc' ls' st' W' → va_P D vwCl (zws Y ad W') H' → va_S A s.heap H' locs' → lv_has lsA' M.2.2.1 (zl ad 0 ls') → cells' + t' ≤ cells + t → slots' + 6 * t' ≤ slots + 6 * t → W p l e R s m args below meth c H' locs' cells' slots' Q (F0 m pc' lsA' (zts ad st')))
    (hX : ∀ (E : String) (pc' : Nat) (st' : List Value) (W' : zWd) (H' : Heap) (locs' : List Loc) (lsA' : Array Slot) (cells' slots' : Nat) (ce : Cell) (q : Addr), X E W' → va_P D vwCl (zws Y ad W') H' → va_S A s.heap H' locs' → cells' ≤ cells + t → slots' ≤ slots + 6 * t → H'[q]? = some ce → ce.vm = .none → s.vm.findClass E = some ce.cls → vx_W p l e R s m args below meth c H' locs' cells' slots' Q (F0 m pc' lsA' st') q)
    (hS : va_S A s.heap H locs) (hl : lv_has lsA M.2.2.1 (zl ad 0 ls))
    (hr : vx_Run p l e R s m args below meth c H locs cells slots t' (6 * t') (F0 m pc lsA st0) (zts ad st) (zEQ D Y ad A (fun r W' => RR M d (t - t') W' (pc + 3) ls (r.toList ++ st) K X) a) (zEX D Y ad A X) A) :
    W p l e R s m args below meth c H locs cells slots Q (F0 m pc lsA st0) := by
  intro T hT X0
  rcases hr T hT X0 with ⟨v, st₀, t9, T', L, h0, X', hL, e1, e2, ⟨⟨r, W', hv9, hq, hb9⟩, hF⟩, st9⟩ | ⟨q, st₀, t9, T', L, E, ce, h0, X', hL, e1, e2, ⟨⟨W', hXE, hb9⟩, hF⟩, hce, hcv, hcl, st9⟩
  · cases hv9
    obtain ⟨k1, k2, k3⟩ := vx_keep h0 e1 hS (fun q _ h => h) (fun q h => h) hL hF
    obtain ⟨c1, c2, c3, c4, c5, c6, c7, c8, c9, c10, c11, c12⟩ := id hC
    have h9 := hq p l e R s m args below meth c (cells + t') (slots + 6 * t') Q D Y ad A ⟨c1, c2, c3, c4, c5, c6, c7, c8, c9, c10, by omega, by omega⟩ (fun t2 pc' ls' st' W' H' locs' lsA' cells' slots' k1 k2 k3 k4 k5 k6 => hK t2 pc' ls' st' W' H' locs' lsA' cells' slots' k1 k2 k3 k4 (by omega) (by omega)) (fun E pc' st' W' H' locs' lsA' cells' slots' ce q k1 k2 k3 k4 k5 => hX E pc' st' W' H' locs' lsA' cells' slots' ce q k1 k2 k3 (by omega) (by omega)) T'.heap (locs ++ L) lsA (by rw [e1]; exact hb9) k3 hl
    have e9 : zts ad (r.toList ++ st) = (r.map (zt ad)).toList ++ zts ad st := by cases r <;> rfl
    rw [e9] at h9
    obtain ⟨t2, a1, b1⟩ := h9 T' rfl X'
    exact ⟨t2, st9 t2 a1, b1⟩
  · obtain ⟨k1, k2, k3⟩ := vx_keep h0 e1 hS (fun q _ h => h) (fun q h => h) hL hF
    obtain ⟨t2, a1, b1⟩ := hX E pc (zts ad st) W' T'.heap (locs ++ L) lsA (cells + t') (slots + 6 * t') ce q hXE (by rw [e1]; exact hb9) k3 (by omega) (by omega) (by rw [e1]; exact hce) hcv hcl T' rfl X'
    exact ⟨t2, st9.trans a1, b1⟩
section ZD
variable {M M' : zM} {d d' t t' n : Nat} {W₀ : zWd} {pc : Nat} {ls st : List Value} {K : zK} {X : zX} {index ci k : Nat} {As : List Value}
theorem z_callB {R : Room} {s : State} {args : Array Value} (hts : ∀ w ∈ zwM M, w.before args s = true) (hcm : zCm M' n) (hl : Cond.methodLink M.1 index M'.2.2.2.1 ∈ zWs) (h1 : d' + 1 ≤ R.frames) (h2 : 8 + (M'.2.2.1 + 11) + 40 * d' ≤ R.locals) : CallB R s args M.1 index M'.2.2.2.1 M'.2.1 M'.2.2.1 M'.2.2.2.2 (zwM M') (zRm d' t') t' (6 * t') n := by
  obtain ⟨w1, w2, w3, w4, w5, w6⟩ := hcm
  exact callB_of n hts (zwM_good M M' w1) rfl rfl rfl (by rw [w3]; exact hts _ (List.mem_cons_of_mem _ w2)) (hts _ (List.mem_cons_of_mem _ hl)) ⟨w4, w5, w6⟩ ⟨h1, h2⟩
theorem rr_inv {T : u_T} {N : Nat} (hd : decode M.2.1 pc = .ok (.invokevirtual index, 3)) (hl : Cond.methodLink M.1 index M'.2.2.2.1 ∈ zWs) (hcm : zCm M' n) (hvm : zVm M') (hk : zk k = (ci, 0)) (hci : ci < 8) (hcl : vwCl[ci]? = some (M'.1, T, N)) (hdd : d' + 1 ≤ d) (htt : t' ≤ t) (hlo : M'.2.2.1 ≤ 21) (hst : (st.map fun v => v.category).sum ≤ 8) (hn : As.length = n)
    (hE : Ev M' d' t' W₀ (.ref k :: As) (fun r W' => RR M d (t - t') W' (pc + 3) ls (r.toList ++ st) K X) X) : RR M d t W₀ pc ls (As.reverse ++ .ref k :: st) K X := by
  intro p l e R s m args below meth c cells slots Q D Y ad A hC hK hX H locs lsA hP hS hlv
  obtain ⟨⟨h1, h2, h3, h4, h5⟩, c2, c3, c4, c5, c6, c7, c8, c9, c10, c11, c12⟩ := id hC
  have hk9 := zk_lt hk (by omega)
  have he := zws_at Y ad W₀ hk9
  rw [zc_obj Y ad W₀ hk hci] at he
  refine z_go htt hC hK hX hS hlv (a := (Value.ref (ad k) :: zts ad As).toArray) (st := st) ?_
  refine vx_runV (C := M'.1) (n := n) (bytes := M'.2.1) (maxL := M'.2.2.1) (ret := M'.2.2.2.2) (As := zts ad As) (b := ad k) ⟨h1, h2, h3, h4, h5⟩ (hE l D Y ad A c2 c7) ⟨z_callB h5 hcm hl (by omega) (by omega), h5 _ (List.mem_cons_of_mem _ hvm.1), h5 _ (List.mem_cons_of_mem _ hvm.2)⟩ ⟨zBlind, va_recv c6.1 hP hcl he, fun U hU hW => ?_⟩ rfl (by rw [zts_len]; exact hn) hlv.1 ?_ (lv_room (by rw [zts_cat]; exact hst)) hd ⟨by omega, by omega⟩
  · exact zE_warm (args := .ref k :: As) hU hW hS c6 hP c8
  · show zts ad (As.reverse ++ .ref k :: st) = _
    rw [zts_app, zts_rev]; rfl
theorem rr_sta (hd : decode M.2.1 pc = .ok (.invokestatic index, 3)) (hl : Cond.methodLink M.1 index M'.2.2.2.1 ∈ zWs) (hcm : zCm M' n) (hvm : Cond.static M'.2.2.2.1 ∈ zWs) (hdd : d' + 1 ≤ d) (htt : t' ≤ t) (hlo : M'.2.2.1 ≤ 21) (hst : (st.map fun v => v.category).sum ≤ 8) (hn : As.length = n)
    (hE : Ev M' d' t' W₀ As (fun r W' => RR M d (t - t') W' (pc + 3) ls (r.toList ++ st) K X) X) : RR M d t W₀ pc ls (As.reverse ++ st) K X := by
  intro p l e R s m args below meth c cells slots Q D Y ad A hC hK hX H locs lsA hP hS hlv
  obtain ⟨⟨h1, h2, h3, h4, h5⟩, c2, c3, c4, c5, c6, c7, c8, c9, c10, c11, c12⟩ := id hC
  refine z_go htt hC hK hX hS hlv (a := (zts ad As).toArray) (st := st) ?_
  refine vx_runS (n := n) (bytes := M'.2.1) (maxL := M'.2.2.1) (ret := M'.2.2.2.2) (As := zts ad As) ⟨h1, h2, h3, h4, h5⟩ (hE l D Y ad A c2 c7) ⟨z_callB h5 hcm hl (by omega) (by omega), h5 _ (List.mem_cons_of_mem _ hvm)⟩ ⟨zBlind, fun U hU hW => ?_⟩ rfl (by rw [zts_len]; exact hn) hlv.1 ?_ (lv_room (by rw [zts_cat]; exact hst)) hd ⟨by omega, by omega⟩
  · exact zE_warm (args := As) hU hW hS c6 hP c8
  · show zts ad (As.reverse ++ st) = _
    rw [zts_app, zts_rev]
theorem rr_inv0 {T : u_T} {N : Nat} (hd : decode M.2.1 pc = .ok (.invokevirtual index, 3)) (hl : Cond.methodLink M.1 index M'.2.2.2.1 ∈ zWs) (hcm : zCm M' n) (hvm : zVm M') (hk : zk k = (ci, 0)) (hci : ci < 8) (hcl : vwCl[ci]? = some (M'.1, T, N)) (hdd : d' + 1 ≤ d) (hlo : M'.2.2.1 ≤ 21) (hst : (st.map fun v => v.category).sum ≤ 8) (hn : As.length = n)
    (hE : Ev M' d' 0 W₀ (.ref k :: As) (fun r W' => RR M d t W' (pc + 3) ls (r.toList ++ st) K X) X) : RR M d t W₀ pc ls (As.reverse ++ .ref k :: st) K X :=
  rr_inv hd hl hcm hvm hk hci hcl hdd (Nat.zero_le _) hlo hst hn hE
theorem rr_sta0 (hd : decode M.2.1 pc = .ok (.invokestatic index, 3)) (hl : Cond.methodLink M.1 index M'.2.2.2.1 ∈ zWs) (hcm : zCm M' n) (hvm : Cond.static M'.2.2.2.1 ∈ zWs) (hdd : d' + 1 ≤ d) (hlo : M'.2.2.1 ≤ 21) (hst : (st.map fun v => v.category).sum ≤ 8) (hn : As.length = n)
    (hE : Ev M' d' 0 W₀ As (fun r W' => RR M d t W' (pc + 3) ls (r.toList ++ st) K X) X) : RR M d t W₀ pc ls (As.reverse ++ st) K X :=
  rr_sta hd hl hcm hvm hdd (Nat.zero_le _) hlo hst hn hE
/-- a contract without throws, as the library's Met -/
theorem z_met {l : Launch} {D : va_G} {Y : zY} {ad : Nat → Nat} {A : Nat → Prop} {args : List Value} {Q : Option Value → zWd → Prop} {mc ms : Nat} (h : vx_Met l M'.2.2.2.1 (zwM M') (zRm d' t') (zEP D Y ad A W₀ args) (zEQ D Y ad A Q) (zEX D Y ad A (fun _ _ => False)) mc ms A) : Met l M'.2.2.2.1 (zwM M') (zRm d' t') (zEP D Y ad A W₀ args) (zEQ D Y ad A Q) mc ms A := by
  intro p e h1 h2 h3 s m args below h4 h5 h6 h7
  obtain ⟨n9, o, g1, g2, g3, g4⟩ := h p e h1 h2 h3 s m args below h4 h5 h6 h7
  refine ⟨n9, o, g1, g2, g3, ?_⟩
  rcases g4 with g4 | ⟨q, -, E, ce, L, ⟨⟨W', hf, -⟩, -⟩, -⟩
  · exact g4
  · exact hf.elim
theorem z_run {p : Program} {l : Launch} {e : Env} {R : Room} {s : State} {m : MethodId} {args : Array Value} {below : List Frame} {meth : Method} {c : Code} {H : Heap} {locs : List Loc} {cells slots mc ms : Nat} {g : JFrame} {rest : List Value} {Qa : State → Outcome → State → Prop} {XC : String → State → State → Prop} {free : Addr → Prop} (h : va_Run p l e R s m args below meth c H locs cells slots mc ms g rest Qa free) : vx_Run p l e R s m args below meth c H locs cells slots mc ms g rest Qa XC free := by
  intro T hT X0
  exact Or.inl (h T hT X0)
theorem rr_invN {T : u_T} {N : Nat} {host : String} (hd : decode M.2.1 pc = .ok (.invokevirtual index, 3)) (hl : Cond.methodLinkNest M.1 index M'.2.2.2.1 host ∈ zNst) (hcm : zCm M' n) (hvm : zVm M') (hk : zk k = (ci, 0)) (hci : ci < 8) (hcl : vwCl[ci]? = some (M'.1, T, N)) (hdd : d' + 1 ≤ d) (hlo : M'.2.2.1 ≤ 21) (hst : (st.map fun v => v.category).sum ≤ 8) (hn : As.length = n)
    (hE : Ev M' d' 0 W₀ (.ref k :: As) (fun r W' => RR M d t W' (pc + 3) ls (r.toList ++ st) K X) (fun _ _ => False)) : RR M d t W₀ pc ls (As.reverse ++ .ref k :: st) K X := by
  intro p l e R s m args below meth c cells slots Q D Y ad A hC hK hX H locs lsA hP hS hlv
  obtain ⟨⟨h1, h2, h3, h4, h5⟩, c2, c3, c4, c5, c6, c7, c8, c9, c10, c11, c12⟩ := id hC
  have hk9 := zk_lt hk (by omega)
  have he := zws_at Y ad W₀ hk9
  rw [zc_obj Y ad W₀ hk hci] at he
  obtain ⟨w1, w2, w3, w4, w5, w6⟩ := hcm
  refine z_go (t' := 0) (Nat.zero_le _) hC hK hX hS hlv (a := (Value.ref (ad k) :: zts ad As).toArray) (st := st) (z_run ?_)
  refine va_runVN (C := M'.1) (n := n) (bytes := M'.2.1) (maxL := M'.2.2.1) (ret := M'.2.2.2.2) (As := zts ad As) (b := ad k) ⟨h1, h2, h3, h4, h5⟩ (z_met (hE l D Y ad A c2 c7)) ⟨va_cnB n h5 (zwM_good M M' w1) rfl rfl rfl (c6.2.1 _ hl) (by rw [w3]; exact h5 _ (List.mem_cons_of_mem _ w2)) ⟨w4, w5, w6⟩ ⟨by show d' + 1 ≤ _; omega, by show 8 + (_ + 11) + 40 * d' ≤ _; omega⟩, h5 _ (List.mem_cons_of_mem _ hvm.1), h5 _ (List.mem_cons_of_mem _ hvm.2)⟩ ⟨zBlind, va_recv c6.1 hP hcl he, fun U hU hW => ?_⟩ rfl (by rw [zts_len]; exact hn) hlv.1 ?_ (lv_room (by rw [zts_cat]; exact hst)) hd ⟨by omega, by omega⟩
  · exact zE_warm (args := .ref k :: As) hU hW hS c6 hP c8
  · show zts ad (As.reverse ++ .ref k :: st) = _
    rw [zts_app, zts_rev]; rfl
theorem rr_staN {host : String} (hd : decode M.2.1 pc = .ok (.invokestatic index, 3)) (hl : Cond.methodLinkNest M.1 index M'.2.2.2.1 host ∈ zNst) (hcm : zCm M' n) (hvm : Cond.static M'.2.2.2.1 ∈ zWs) (hdd : d' + 1 ≤ d) (hlo : M'.2.2.1 ≤ 21) (hst : (st.map fun v => v.category).sum ≤ 8) (hn : As.length = n)
    (hE : Ev M' d' 0 W₀ As (fun r W' => RR M d t W' (pc + 3) ls (r.toList ++ st) K X) (fun _ _ => False)) : RR M d t W₀ pc ls (As.reverse ++ st) K X := by
  intro p l e R s m args below meth c cells slots Q D Y ad A hC hK hX H locs lsA hP hS hlv
  obtain ⟨⟨h1, h2, h3, h4, h5⟩, c2, c3, c4, c5, c6, c7, c8, c9, c10, c11, c12⟩ := id hC
  obtain ⟨w1, w2, w3, w4, w5, w6⟩ := hcm
  refine z_go (t' := 0) (Nat.zero_le _) hC hK hX hS hlv (a := (zts ad As).toArray) (st := st) (z_run ?_)
  refine va_runSN (n := n) (bytes := M'.2.1) (maxL := M'.2.2.1) (ret := M'.2.2.2.2) (As := zts ad As) ⟨h1, h2, h3, h4, h5⟩ (z_met (hE l D Y ad A c2 c7)) ⟨va_cnB n h5 (zwM_good M M' w1) rfl rfl rfl (c6.2.1 _ hl) (by rw [w3]; exact h5 _ (List.mem_cons_of_mem _ w2)) ⟨w4, w5, w6⟩ ⟨by show d' + 1 ≤ _; omega, by show 8 + (_ + 11) + 40 * d' ≤ _; omega⟩, h5 _ (List.mem_cons_of_mem _ hvm), trivial⟩ ⟨zBlind, fun U hU hW => ?_⟩ rfl (by rw [zts_len]; exact hn) hlv.1 ?_ (lv_room (by rw [zts_cat]; exact hst)) hd ⟨by omega, by omega⟩
  · exact zE_warm (args := As) hU hW hS c6 hP c8
  · show zts ad (As.reverse ++ st) = _
    rw [zts_app, zts_rev]
end ZD
end
section
def zcpy (W : zWd) (k0 k1 : Nat) (n : Int) : zWd := fun k i => if k = k1 ∧ 0 ≤ i ∧ i < n then W k0 i else W k i
theorem zcpy_k {W : zWd} {k0 k1 k : Nat} {n i : Int} (h : k ≠ k1) : zcpy W k0 k1 n k i = W k i := by simp [zcpy, h]
theorem zcpy_in {W : zWd} {k0 k1 : Nat} {n i : Int} (h0 : 0 ≤ i) (h1 : i < n) : zcpy W k0 k1 n k1 i = W k0 i := by simp [zcpy, h0, h1]
theorem zcpy_other {W : zWd} {k0 k1 : Nat} {n : Int} : ∀ k', k' ≠ k1 → zcpy W k0 k1 n k' = W k' := fun k' h => by funext i'; exact zcpy_k h
theorem z_cpyf (W : zWd) (k0 k1 n : Nat) : va_cpy (fun j : Nat => Int32.ofInt (W k0 j)) (fun j : Nat => Int32.ofInt (W k1 j)) (Int32.ofInt 0).toNatClampNeg (Int32.ofInt 0).toNatClampNeg n = fun j : Nat => Int32.ofInt (zcpy W k0 k1 n k1 j) := by
  funext j
  rw [show (Int32.ofInt 0).toNatClampNeg = 0 from rfl]
  unfold va_cpy zcpy
  by_cases hj : j < n
  · rw [if_pos ⟨Nat.zero_le _, by omega⟩, if_pos ⟨rfl, by omega, by omega⟩]
    simp
  · rw [if_neg (by omega), if_neg (by omega)]
theorem z_fitB {v : Int} (h0 : -128 ≤ v) (h1 : v < 128) : fits .byte (.int (Int32.ofInt v)) = true := by
  have h := fits_narrow_byte (Int32.ofInt v)
  have e : narrow .byte (.int (Int32.ofInt v)) = .int (vp_nar .byte (Int32.ofInt v)) := rfl
  rw [e, z_narB h0 h1] at h
  exact h
theorem z_nfw : nativeFrameWords "java/lang/System" "arraycopy" 5 ≤ 20 := by decide +kernel
section ZF
variable {M : zM} {d t : Nat} {W₀ : zWd} {pc : Nat} {ls st : List Value} {K : zK} {X : zX} {index : Nat}
theorem rr_copyI {k0 k1 n : Nat} {ni : Int} (hd : decode M.2.1 pc = .ok (.invokestatic index, 3)) (hl : Cond.methodLink M.1 index arraycopyName ∈ zWs) (hw : Cond.native arraycopyName ∈ zWs ∧ Cond.static arraycopyName ∈ zWs ∧ Cond.initialized "java/lang/System" ∈ zWs) (hk0 : zk k0 = (10, n)) (hk1 : zk k1 = (10, n)) (hdd : 1 ≤ d) (hst : (st.map fun v => v.category).sum ≤ 8) (hni : (n : Int) = ni) (k : RR M d t (zcpy W₀ k0 k1 ni) (pc + 3) ls st K X) : RR M d t W₀ pc ls (zI ni :: zI 0 :: .ref k1 :: zI 0 :: .ref k0 :: st) K X := by
  subst hni
  intro p l e R s m args below meth c cells slots Q D Y ad A hC hK hX H locs lsA hP hS hlv
  obtain ⟨⟨h1, h2, h3, h4, h5⟩, c2, c3, c4, c5, c6, c7, c8, c9, c10, c11, c12⟩ := id hC
  have e0 := zws_at Y ad W₀ (zk_lt hk0 (by omega))
  have hk9 := zk_lt hk1 (by omega)
  have e1 := zws_at Y ad W₀ hk9
  have hn := zk_len hk0
  rw [zc_int Y ad W₀ hk0] at e0
  rw [zc_int Y ad W₀ hk1] at e1
  have hcl : (Int32.ofInt (n : Int)).toNatClampNeg = n := by rw [z_clamp (by omega) (by omega)]; omega
  have hset := zws_set Y ad W₀ (zcpy W₀ k0 k1 n) hk9 (.inl (Y.1, n, .inl (fun j : Nat => Int32.ofInt (zcpy W₀ k0 k1 n k1 j)))) (zc_int Y ad _ hk1).symm zcpy_other
  refine va_copyi h1 h2 (h3.trans hlv.1.symm) h4 (h5 _ (List.mem_cons_of_mem _ hl)) (h5 _ (List.mem_cons_of_mem _ hw.1)) (h5 _ (List.mem_cons_of_mem _ hw.2.1)) (h5 _ (List.mem_cons_of_mem _ hw.2.2)) c6.1 hP (c7.D Y W₀) hS k0 k1 0 0 e0 e1 rfl rfl rfl (by decide) (by decide) (fun q => ?_) ?_ ?_ (fun i _ => rfl) (by omega) ?_ hd (fun H1 locs1 hP1 _ hS1 => ?_)
  · exact absurd ((zR_lt ⟨by omega, by omega⟩ zR_zero).mp q) (by omega)
  · rw [hcl]; show 0 + n ≤ n; omega
  · rw [hcl]; show 0 + n ≤ n; omega
  · have := z_nfw; rw [zts_cat ad st]; omega
  · rw [hcl, z_cpyf, hset] at hP1
    exact k p l e R s m args below meth c cells slots Q D Y ad A hC hK hX H1 locs1 lsA hP1 hS1 hlv
theorem rr_copyB {k0 k1 n : Nat} {ni : Int} (hd : decode M.2.1 pc = .ok (.invokestatic index, 3)) (hl : Cond.methodLink M.1 index arraycopyName ∈ zWs) (hw : Cond.native arraycopyName ∈ zWs ∧ Cond.static arraycopyName ∈ zWs ∧ Cond.initialized "java/lang/System" ∈ zWs) (hk0 : zk k0 = (11, n)) (hk1 : zk k1 = (11, n)) (hb : ∀ i : Int, 0 ≤ i → i < n → -128 ≤ W₀ k0 i ∧ W₀ k0 i < 128) (hdd : 1 ≤ d) (hst : (st.map fun v => v.category).sum ≤ 8) (hni : (n : Int) = ni) (k : RR M d t (zcpy W₀ k0 k1 ni) (pc + 3) ls st K X) : RR M d t W₀ pc ls (zI ni :: zI 0 :: .ref k1 :: zI 0 :: .ref k0 :: st) K X := by
  subst hni
  intro p l e R s m args below meth c cells slots Q D Y ad A hC hK hX H locs lsA hP hS hlv
  obtain ⟨⟨h1, h2, h3, h4, h5⟩, c2, c3, c4, c5, c6, c7, c8, c9, c10, c11, c12⟩ := id hC
  have e0 := zws_at Y ad W₀ (zk_lt hk0 (by omega))
  have hk9 := zk_lt hk1 (by omega)
  have e1 := zws_at Y ad W₀ hk9
  have hn := zk_len hk0
  rw [zc_byte Y ad W₀ hk0] at e0
  rw [zc_byte Y ad W₀ hk1] at e1
  have hcl : (Int32.ofInt (n : Int)).toNatClampNeg = n := by rw [z_clamp (by omega) (by omega)]; omega
  have hset := zws_set Y ad W₀ (zcpy W₀ k0 k1 n) hk9 (.inl (Y.2.1, n, .inl (fun j : Nat => Int32.ofInt (zcpy W₀ k0 k1 n k1 j)))) (zc_byte Y ad _ hk1).symm zcpy_other
  refine va_copyi h1 h2 (h3.trans hlv.1.symm) h4 (h5 _ (List.mem_cons_of_mem _ hl)) (h5 _ (List.mem_cons_of_mem _ hw.1)) (h5 _ (List.mem_cons_of_mem _ hw.2.1)) (h5 _ (List.mem_cons_of_mem _ hw.2.2)) c6.1 hP (c7.D Y W₀) hS k0 k1 1 1 e0 e1 rfl rfl rfl (by decide) (by decide) (fun q => ?_) ?_ ?_ (fun i hi => ?_) (by omega) ?_ hd (fun H1 locs1 hP1 _ hS1 => ?_)
  · exact absurd ((zR_lt ⟨by omega, by omega⟩ zR_zero).mp q) (by omega)
  · rw [hcl]; show 0 + n ≤ n; omega
  · rw [hcl]; show 0 + n ≤ n; omega
  · rw [hcl] at hi
    show fits .byte (.int (Int32.ofInt (W₀ k0 ((0 + i : Nat) : Int)))) = true
    exact z_fitB (hb _ (by omega) (by omega)).1 (hb _ (by omega) (by omega)).2
  · have := z_nfw; rw [zts_cat ad st]; omega
  · rw [hcl, z_cpyf, hset] at hP1
    exact k p l e R s m args below meth c cells slots Q D Y ad A hC hK hX H1 locs1 lsA hP1 hS1 hlv
theorem rr_max {a b : Int} (hd : decode M.2.1 pc = .ok (.invokestatic index, 3)) (hl : Cond.methodLink M.1 index Lib.Math.max.name ∈ zWs) (hw : Cond.static Lib.Math.max.name ∈ zWs ∧ Cond.initialized "java/lang/Math" ∈ zWs ∧ Cond.code Lib.Math.max.name Lib.Math.max.code 2 (some .int) ∈ zWs) (ha : zR a) (hb : zR b) (hdd : 1 ≤ d) (hst : (st.map fun v => v.category).sum ≤ 8) (k : RR M d t W₀ (pc + 3) ls (zI (if a < b then b else a) :: st) K X) : RR M d t W₀ pc ls (zI b :: zI a :: st) K X := by
  intro p l e R s m args below meth c cells slots Q D Y ad A hC hK hX H locs lsA hP hS hlv
  obtain ⟨⟨h1, h2, h3, h4, h5⟩, c2, c3, c4, c5, c6, c7, c8, c9, c10, c11, c12⟩ := id hC
  refine va_mmax h1 h2 (h3.trans hlv.1.symm) h4 (h5 _ (List.mem_cons_of_mem _ hl)) (h5 _ (List.mem_cons_of_mem _ hw.1)) (h5 _ (List.mem_cons_of_mem _ hw.2.1)) (h5 _ (List.mem_cons_of_mem _ hw.2.2)) (by omega) ?_ (by omega) (by omega) hd ?_
  · rw [zts_cat ad st]; omega
  · have h9 := k p l e R s m args below meth c cells slots Q D Y ad A hC hK hX H locs lsA hP hS hlv
    have e9 : (if Int32.ofInt a < Int32.ofInt b then Int32.ofInt b else Int32.ofInt a) = Int32.ofInt (if a < b then b else a) := by
      by_cases q : a < b
      · rw [if_pos q, if_pos ((zR_lt ha hb).mpr q)]
      · rw [if_neg q, if_neg (fun z => q ((zR_lt ha hb).mp z))]
    rw [e9]
    exact h9
theorem rr_min {a b : Int} (hd : decode M.2.1 pc = .ok (.invokestatic index, 3)) (hl : Cond.methodLink M.1 index Lib.Math.min.name ∈ zWs) (hw : Cond.static Lib.Math.min.name ∈ zWs ∧ Cond.initialized "java/lang/Math" ∈ zWs ∧ Cond.code Lib.Math.min.name Lib.Math.min.code 2 (some .int) ∈ zWs) (ha : zR a) (hb : zR b) (hdd : 1 ≤ d) (hst : (st.map fun v => v.category).sum ≤ 8) (k : RR M d t W₀ (pc + 3) ls (zI (if b < a then b else a) :: st) K X) : RR M d t W₀ pc ls (zI b :: zI a :: st) K X := by
  intro p l e R s m args below meth c cells slots Q D Y ad A hC hK hX H locs lsA hP hS hlv
  obtain ⟨⟨h1, h2, h3, h4, h5⟩, c2, c3, c4, c5, c6, c7, c8, c9, c10, c11, c12⟩ := id hC
  refine va_mmin h1 h2 (h3.trans hlv.1.symm) h4 (h5 _ (List.mem_cons_of_mem _ hl)) (h5 _ (List.mem_cons_of_mem _ hw.1)) (h5 _ (List.mem_cons_of_mem _ hw.2.1)) (h5 _ (List.mem_cons_of_mem _ hw.2.2)) (by omega) ?_ (by omega) (by omega) hd ?_
  · rw [zts_cat ad st]; omega
  · have h9 := k p l e R s m args below meth c cells slots Q D Y ad A hC hK hX H locs lsA hP hS hlv
    have e9 : (if Int32.ofInt b < Int32.ofInt a then Int32.ofInt b else Int32.ofInt a) = Int32.ofInt (if b < a then b else a) := by
      by_cases q : b < a
      · rw [if_pos q, if_pos ((zR_lt hb ha).mpr q)]
      · rw [if_neg q, if_neg (fun z => q ((zR_lt hb ha).mp z))]
    rw [e9]
    exact h9
end ZF
end
section
/-! by program (wip/whole/gen/links.py): the methods, and what the tables say of fields and calls -/
theorem zWs_sub {ws : List Cond} (ps : List Nat) (hp : ws = ps.filterMap (fun i => lw_tbl[i]?)) (h : ws.all goodWord = true) : ∀ w ∈ ws, w ∈ zWs := by
  intro w hw
  have h1 := List.all_eq_true.mp h w hw
  rw [hp] at hw
  obtain ⟨i, -, hi⟩ := List.mem_filterMap.mp hw
  exact List.mem_filter.mpr ⟨List.mem_of_getElem? hi, h1⟩
theorem uwX0 : ∀ w ∈ u_ws RX0 TX0 15, w ∈ zWs := zWs_sub [210, 212, 214, 216, 218, 220, 222, 224, 226, 228, 230, 232, 234, 236, 238] (by decide +kernel) (by decide +kernel)
theorem uwX1 : ∀ w ∈ u_ws RX1 TX1 2, w ∈ zWs := zWs_sub [298, 300] (by decide +kernel) (by decide +kernel)
theorem uwX2 : ∀ w ∈ u_ws RX2 TX2 3, w ∈ zWs := zWs_sub [316, 318, 320] (by decide +kernel) (by decide +kernel)
theorem uwX3 : ∀ w ∈ u_ws RX3 TX3 7, w ∈ zWs := zWs_sub [339, 341, 343, 345, 347, 349, 351] (by decide +kernel) (by decide +kernel)
theorem uwX4 : ∀ w ∈ u_ws RX4 TX4 11, w ∈ zWs := zWs_sub [271, 273, 275, 277, 279, 281, 283, 285, 287, 289, 291] (by decide +kernel) (by decide +kernel)
theorem uwX5 : ∀ w ∈ u_ws RX5 TX5 2, w ∈ zWs := zWs_sub [365, 367] (by decide +kernel) (by decide +kernel)
theorem uwX6 : ∀ w ∈ u_ws RX6 TX6 8, w ∈ zWs := zWs_sub [394, 396, 398, 400, 402, 404, 406, 408] (by decide +kernel) (by decide +kernel)
theorem uwX7 : ∀ w ∈ u_ws RX7 TX7 27, w ∈ zWs := zWs_sub [1144, 1146, 1148, 1150, 1152, 1154, 1156, 1158, 1160, 1162, 1164, 1166, 1168, 1170, 1172, 1174, 1176, 1178, 1180, 1182, 1184, 1186, 1188, 1190, 1192, 1194, 1196] (by decide +kernel) (by decide +kernel)
theorem fp_0_0 : zFp 0 0 := fun C T h => by cases h; exact ⟨rfl, rfl⟩
theorem fp_0_1 : zFp 0 1 := fun C T h => by cases h; exact ⟨rfl, rfl⟩
theorem fp_0_2 : zFp 0 2 := fun C T h => by cases h; exact ⟨rfl, rfl⟩
theorem fp_0_3 : zFp 0 3 := fun C T h => by cases h; exact ⟨rfl, rfl⟩
theorem fp_0_4 : zFp 0 4 := fun C T h => by cases h; exact ⟨rfl, rfl⟩
theorem fp_0_5 : zFp 0 5 := fun C T h => by cases h; exact ⟨rfl, rfl⟩
theorem fp_0_6 : zFp 0 6 := fun C T h => by cases h; exact ⟨rfl, rfl⟩
theorem fp_0_7 : zFp 0 7 := fun C T h => by cases h; exact ⟨rfl, rfl⟩
theorem fp_2_1 : zFp 2 1 := fun C T h => by cases h; exact ⟨rfl, rfl⟩
theorem fp_2_2 : zFp 2 2 := fun C T h => by cases h; exact ⟨rfl, rfl⟩
theorem fp_3_1 : zFp 3 1 := fun C T h => by cases h; exact ⟨rfl, rfl⟩
theorem fp_3_2 : zFp 3 2 := fun C T h => by cases h; exact ⟨rfl, rfl⟩
theorem fp_3_3 : zFp 3 3 := fun C T h => by cases h; exact ⟨rfl, rfl⟩
theorem fp_3_4 : zFp 3 4 := fun C T h => by cases h; exact ⟨rfl, rfl⟩
theorem fp_3_5 : zFp 3 5 := fun C T h => by cases h; exact ⟨rfl, rfl⟩
theorem fp_3_6 : zFp 3 6 := fun C T h => by cases h; exact ⟨rfl, rfl⟩
theorem fp_4_1 : zFp 4 1 := fun C T h => by cases h; exact ⟨rfl, rfl⟩
theorem fp_4_2 : zFp 4 2 := fun C T h => by cases h; exact ⟨rfl, rfl⟩
theorem fp_4_4 : zFp 4 4 := fun C T h => by cases h; exact ⟨rfl, rfl⟩
theorem fp_4_5 : zFp 4 5 := fun C T h => by cases h; exact ⟨rfl, rfl⟩
theorem fp_4_6 : zFp 4 6 := fun C T h => by cases h; exact ⟨rfl, rfl⟩
theorem fp_4_7 : zFp 4 7 := fun C T h => by cases h; exact ⟨rfl, rfl⟩
theorem fp_5_1 : zFp 5 1 := fun C T h => by cases h; exact ⟨rfl, rfl⟩
theorem fp_7_6 : zFp 7 6 := fun C T h => by cases h; exact ⟨rfl, rfl⟩
theorem fp_7_7 : zFp 7 7 := fun C T h => by cases h; exact ⟨rfl, rfl⟩
theorem fp_7_9 : zFp 7 9 := fun C T h => by cases h; exact ⟨rfl, rfl⟩
theorem fp_7_10 : zFp 7 10 := fun C T h => by cases h; exact ⟨rfl, rfl⟩
theorem fp_7_11 : zFp 7 11 := fun C T h => by cases h; exact ⟨rfl, rfl⟩
theorem fp_7_12 : zFp 7 12 := fun C T h => by cases h; exact ⟨rfl, rfl⟩
theorem fp_7_13 : zFp 7 13 := fun C T h => by cases h; exact ⟨rfl, rfl⟩
theorem fp_7_14 : zFp 7 14 := fun C T h => by cases h; exact ⟨rfl, rfl⟩
theorem fp_7_15 : zFp 7 15 := fun C T h => by cases h; exact ⟨rfl, rfl⟩
theorem fp_7_16 : zFp 7 16 := fun C T h => by cases h; exact ⟨rfl, rfl⟩
theorem fp_7_20 : zFp 7 20 := fun C T h => by cases h; exact ⟨rfl, rfl⟩
theorem fp_7_21 : zFp 7 21 := fun C T h => by cases h; exact ⟨rfl, rfl⟩
theorem fp_7_22 : zFp 7 22 := fun C T h => by cases h; exact ⟨rfl, rfl⟩
theorem fp_7_23 : zFp 7 23 := fun C T h => by cases h; exact ⟨rfl, rfl⟩
theorem fp_7_24 : zFp 7 24 := fun C T h => by cases h; exact ⟨rfl, rfl⟩
theorem fp_7_26 : zFp 7 26 := fun C T h => by cases h; exact ⟨rfl, rfl⟩
theorem fX0_15 : zFl RX0 15 0 9 := ⟨RX0, TX0, rfl, by decide, by decide, uwX0, ⟨tyX0, tyX0_ok⟩, nmX0, Or.inl (zWs_in 196 (by decide +kernel) rfl)⟩
theorem fX0_18 : zFl RX0 18 0 10 := ⟨RX0, TX0, rfl, by decide, by decide, uwX0, ⟨tyX0, tyX0_ok⟩, nmX0, Or.inl (zWs_in 199 (by decide +kernel) rfl)⟩
theorem fX0_21 : zFl RX0 21 0 11 := ⟨RX0, TX0, rfl, by decide, by decide, uwX0, ⟨tyX0, tyX0_ok⟩, nmX0, Or.inl (zWs_in 203 (by decide +kernel) rfl)⟩
theorem fX0_24 : zFl RX0 24 0 12 := ⟨RX0, TX0, rfl, by decide, by decide, uwX0, ⟨tyX0, tyX0_ok⟩, nmX0, Or.inl (zWs_in 205 (by decide +kernel) rfl)⟩
theorem fX0_27 : zFl RX0 27 0 13 := ⟨RX0, TX0, rfl, by decide, by decide, uwX0, ⟨tyX0, tyX0_ok⟩, nmX0, Or.inl (zWs_in 206 (by decide +kernel) rfl)⟩
theorem fX0_31 : zFl RX0 31 0 14 := ⟨RX0, TX0, rfl, by decide, by decide, uwX0, ⟨tyX0, tyX0_ok⟩, nmX0, Or.inl (zWs_in 208 (by decide +kernel) rfl)⟩
theorem fX0_37 : zFl RX0 37 0 0 := ⟨RX0, TX0, rfl, by decide, by decide, uwX0, ⟨tyX0, tyX0_ok⟩, nmX0, Or.inl (zWs_in 168 (by decide +kernel) rfl)⟩
theorem fX0_41 : zFl RX0 41 0 1 := ⟨RX0, TX0, rfl, by decide, by decide, uwX0, ⟨tyX0, tyX0_ok⟩, nmX0, Or.inl (zWs_in 171 (by decide +kernel) rfl)⟩
theorem fX0_44 : zFl RX0 44 0 2 := ⟨RX0, TX0, rfl, by decide, by decide, uwX0, ⟨tyX0, tyX0_ok⟩, nmX0, Or.inl (zWs_in 177 (by decide +kernel) rfl)⟩
theorem fX0_47 : zFl RX0 47 0 3 := ⟨RX0, TX0, rfl, by decide, by decide, uwX0, ⟨tyX0, tyX0_ok⟩, nmX0, Or.inl (zWs_in 180 (by decide +kernel) rfl)⟩
theorem fX0_50 : zFl RX0 50 0 4 := ⟨RX0, TX0, rfl, by decide, by decide, uwX0, ⟨tyX0, tyX0_ok⟩, nmX0, Or.inl (zWs_in 183 (by decide +kernel) rfl)⟩
theorem fX0_53 : zFl RX0 53 0 5 := ⟨RX0, TX0, rfl, by decide, by decide, uwX0, ⟨tyX0, tyX0_ok⟩, nmX0, Or.inl (zWs_in 186 (by decide +kernel) rfl)⟩
theorem fX0_56 : zFl RX0 56 0 6 := ⟨RX0, TX0, rfl, by decide, by decide, uwX0, ⟨tyX0, tyX0_ok⟩, nmX0, Or.inl (zWs_in 188 (by decide +kernel) rfl)⟩
theorem fX0_59 : zFl RX0 59 0 7 := ⟨RX0, TX0, rfl, by decide, by decide, uwX0, ⟨tyX0, tyX0_ok⟩, nmX0, Or.inl (zWs_in 191 (by decide +kernel) rfl)⟩
theorem fX0_9 : zFl RX0 9 0 8 := ⟨RX0, TX0, rfl, by decide, by decide, uwX0, ⟨tyX0, tyX0_ok⟩, nmX0, Or.inl (zWs_in 194 (by decide +kernel) rfl)⟩
theorem fX1_14 : zFl RX1 14 1 0 := ⟨RX1, TX1, rfl, by decide, by decide, uwX1, ⟨tyX1, tyX1_ok⟩, nmX1, Or.inl (zWs_in 294 (by decide +kernel) rfl)⟩
theorem fX1_20 : zFl RX1 20 1 1 := ⟨RX1, TX1, rfl, by decide, by decide, uwX1, ⟨tyX1, tyX1_ok⟩, nmX1, Or.inl (zWs_in 296 (by decide +kernel) rfl)⟩
theorem fX2_11 : zFl RX2 11 2 0 := ⟨RX2, TX2, rfl, by decide, by decide, uwX2, ⟨tyX2, tyX2_ok⟩, nmX2, Or.inl (zWs_in 312 (by decide +kernel) rfl)⟩
theorem fX2_18 : zFl RX2 18 2 1 := ⟨RX2, TX2, rfl, by decide, by decide, uwX2, ⟨tyX2, tyX2_ok⟩, nmX2, Or.inl (zWs_in 313 (by decide +kernel) rfl)⟩
theorem fX2_26 : zFl RX2 26 2 2 := ⟨RX2, TX2, rfl, by decide, by decide, uwX2, ⟨tyX2, tyX2_ok⟩, nmX2, Or.inl (zWs_in 314 (by decide +kernel) rfl)⟩
theorem fX3_15 : zFl RX3 15 3 6 := ⟨RX3, TX3, rfl, by decide, by decide, uwX3, ⟨tyX3, tyX3_ok⟩, nmX3, Or.inl (zWs_in 337 (by decide +kernel) rfl)⟩
theorem fX3_158 : zFl RX3 158 3 5 := ⟨RX3, TX3, rfl, by decide, by decide, uwX3, ⟨tyX3, tyX3_ok⟩, nmX3, Or.inl (zWs_in 336 (by decide +kernel) rfl)⟩
theorem fX3_19 : zFl RX3 19 3 1 := ⟨RX3, TX3, rfl, by decide, by decide, uwX3, ⟨tyX3, tyX3_ok⟩, nmX3, Or.inl (zWs_in 331 (by decide +kernel) rfl)⟩
theorem fX3_50 : zFl RX3 50 3 2 := ⟨RX3, TX3, rfl, by decide, by decide, uwX3, ⟨tyX3, tyX3_ok⟩, nmX3, Or.inl (zWs_in 332 (by decide +kernel) rfl)⟩
theorem fX3_71 : zFl RX3 71 3 3 := ⟨RX3, TX3, rfl, by decide, by decide, uwX3, ⟨tyX3, tyX3_ok⟩, nmX3, Or.inl (zWs_in 333 (by decide +kernel) rfl)⟩
theorem fX3_83 : zFl RX3 83 3 4 := ⟨RX3, TX3, rfl, by decide, by decide, uwX3, ⟨tyX3, tyX3_ok⟩, nmX3, Or.inl (zWs_in 334 (by decide +kernel) rfl)⟩
theorem fX3_9 : zFl RX3 9 3 0 := ⟨RX3, TX3, rfl, by decide, by decide, uwX3, ⟨tyX3, tyX3_ok⟩, nmX3, Or.inl (zWs_in 329 (by decide +kernel) rfl)⟩
theorem fX4_15 : zFl RX4 15 4 8 := ⟨RX4, TX4, rfl, by decide, by decide, uwX4, ⟨tyX4, tyX4_ok⟩, nmX4, Or.inl (zWs_in 268 (by decide +kernel) rfl)⟩
theorem fX4_18 : zFl RX4 18 4 9 := ⟨RX4, TX4, rfl, by decide, by decide, uwX4, ⟨tyX4, tyX4_ok⟩, nmX4, Or.inl (zWs_in 269 (by decide +kernel) rfl)⟩
theorem fX4_21 : zFl RX4 21 4 10 := ⟨RX4, TX4, rfl, by decide, by decide, uwX4, ⟨tyX4, tyX4_ok⟩, nmX4, Or.inl (zWs_in 270 (by decide +kernel) rfl)⟩
theorem fX4_24 : zFl RX4 24 4 0 := ⟨RX4, TX4, rfl, by decide, by decide, uwX4, ⟨tyX4, tyX4_ok⟩, nmX4, Or.inl (zWs_in 255 (by decide +kernel) rfl)⟩
theorem fX4_28 : zFl RX4 28 4 1 := ⟨RX4, TX4, rfl, by decide, by decide, uwX4, ⟨tyX4, tyX4_ok⟩, nmX4, Or.inl (zWs_in 256 (by decide +kernel) rfl)⟩
theorem fX4_32 : zFl RX4 32 4 2 := ⟨RX4, TX4, rfl, by decide, by decide, uwX4, ⟨tyX4, tyX4_ok⟩, nmX4, Or.inl (zWs_in 258 (by decide +kernel) rfl)⟩
theorem fX4_40 : zFl RX4 40 4 6 := ⟨RX4, TX4, rfl, by decide, by decide, uwX4, ⟨tyX4, tyX4_ok⟩, nmX4, Or.inl (zWs_in 266 (by decide +kernel) rfl)⟩
theorem fX4_47 : zFl RX4 47 4 7 := ⟨RX4, TX4, rfl, by decide, by decide, uwX4, ⟨tyX4, tyX4_ok⟩, nmX4, Or.inl (zWs_in 267 (by decide +kernel) rfl)⟩
theorem fX4_52 : zFl RX4 52 4 4 := ⟨RX4, TX4, rfl, by decide, by decide, uwX4, ⟨tyX4, tyX4_ok⟩, nmX4, Or.inl (zWs_in 264 (by decide +kernel) rfl)⟩
theorem fX4_58 : zFl RX4 58 4 5 := ⟨RX4, TX4, rfl, by decide, by decide, uwX4, ⟨tyX4, tyX4_ok⟩, nmX4, Or.inl (zWs_in 265 (by decide +kernel) rfl)⟩
theorem fX4_9 : zFl RX4 9 4 3 := ⟨RX4, TX4, rfl, by decide, by decide, uwX4, ⟨tyX4, tyX4_ok⟩, nmX4, Or.inl (zWs_in 261 (by decide +kernel) rfl)⟩
theorem fX5_15 : zFl RX5 15 5 1 := ⟨RX5, TX5, rfl, by decide, by decide, uwX5, ⟨tyX5, tyX5_ok⟩, nmX5, Or.inl (zWs_in 363 (by decide +kernel) rfl)⟩
theorem fX5_9 : zFl RX5 9 5 0 := ⟨RX5, TX5, rfl, by decide, by decide, uwX5, ⟨tyX5, tyX5_ok⟩, nmX5, Or.inl (zWs_in 361 (by decide +kernel) rfl)⟩
theorem fX6_12 : zFl RX6 12 6 0 := ⟨RX6, TX6, rfl, by decide, by decide, uwX6, ⟨tyX6, tyX6_ok⟩, nmX6, Or.inl (zWs_in 386 (by decide +kernel) rfl)⟩
theorem fX6_16 : zFl RX6 16 6 1 := ⟨RX6, TX6, rfl, by decide, by decide, uwX6, ⟨tyX6, tyX6_ok⟩, nmX6, Or.inl (zWs_in 387 (by decide +kernel) rfl)⟩
theorem fX6_22 : zFl RX6 22 6 2 := ⟨RX6, TX6, rfl, by decide, by decide, uwX6, ⟨tyX6, tyX6_ok⟩, nmX6, Or.inl (zWs_in 388 (by decide +kernel) rfl)⟩
theorem fX6_29 : zFl RX6 29 6 3 := ⟨RX6, TX6, rfl, by decide, by decide, uwX6, ⟨tyX6, tyX6_ok⟩, nmX6, Or.inl (zWs_in 389 (by decide +kernel) rfl)⟩
theorem fX6_33 : zFl RX6 33 6 4 := ⟨RX6, TX6, rfl, by decide, by decide, uwX6, ⟨tyX6, tyX6_ok⟩, nmX6, Or.inl (zWs_in 390 (by decide +kernel) rfl)⟩
theorem fX6_37 : zFl RX6 37 6 5 := ⟨RX6, TX6, rfl, by decide, by decide, uwX6, ⟨tyX6, tyX6_ok⟩, nmX6, Or.inl (zWs_in 391 (by decide +kernel) rfl)⟩
theorem fX6_44 : zFl RX6 44 6 6 := ⟨RX6, TX6, rfl, by decide, by decide, uwX6, ⟨tyX6, tyX6_ok⟩, nmX6, Or.inl (zWs_in 392 (by decide +kernel) rfl)⟩
theorem fX6_51 : zFl RX6 51 6 7 := ⟨RX6, TX6, rfl, by decide, by decide, uwX6, ⟨tyX6, tyX6_ok⟩, nmX6, Or.inl (zWs_in 393 (by decide +kernel) rfl)⟩
theorem fX7_113 : zFl RX7 113 7 14 := ⟨RX7, TX7, rfl, by decide, by decide, uwX7, ⟨tyX7, tyX7_ok⟩, nmX7, Or.inl (zWs_in 1131 (by decide +kernel) rfl)⟩
theorem fX7_126 : zFl RX7 126 7 15 := ⟨RX7, TX7, rfl, by decide, by decide, uwX7, ⟨tyX7, tyX7_ok⟩, nmX7, Or.inl (zWs_in 1132 (by decide +kernel) rfl)⟩
theorem fX7_13 : zFl RX7 13 7 1 := ⟨RX7, TX7, rfl, by decide, by decide, uwX7, ⟨tyX7, tyX7_ok⟩, nmX7, Or.inl (zWs_in 1118 (by decide +kernel) rfl)⟩
theorem fX7_16 : zFl RX7 16 7 2 := ⟨RX7, TX7, rfl, by decide, by decide, uwX7, ⟨tyX7, tyX7_ok⟩, nmX7, Or.inl (zWs_in 1119 (by decide +kernel) rfl)⟩
theorem fX7_19 : zFl RX7 19 7 3 := ⟨RX7, TX7, rfl, by decide, by decide, uwX7, ⟨tyX7, tyX7_ok⟩, nmX7, Or.inl (zWs_in 1120 (by decide +kernel) rfl)⟩
theorem fX7_22 : zFl RX7 22 7 4 := ⟨RX7, TX7, rfl, by decide, by decide, uwX7, ⟨tyX7, tyX7_ok⟩, nmX7, Or.inl (zWs_in 1121 (by decide +kernel) rfl)⟩
theorem fX7_234 : zFl RX7 234 7 20 := ⟨RX7, TX7, rfl, by decide, by decide, uwX7, ⟨tyX7, tyX7_ok⟩, nmX7, Or.inl (zWs_in 1137 (by decide +kernel) rfl)⟩
theorem fX7_25 : zFl RX7 25 7 5 := ⟨RX7, TX7, rfl, by decide, by decide, uwX7, ⟨tyX7, tyX7_ok⟩, nmX7, Or.inl (zWs_in 1122 (by decide +kernel) rfl)⟩
theorem fX7_260 : zFl RX7 260 7 21 := ⟨RX7, TX7, rfl, by decide, by decide, uwX7, ⟨tyX7, tyX7_ok⟩, nmX7, Or.inl (zWs_in 1138 (by decide +kernel) rfl)⟩
theorem fX7_29 : zFl RX7 29 7 8 := ⟨RX7, TX7, rfl, by decide, by decide, uwX7, ⟨tyX7, tyX7_ok⟩, nmX7, Or.inl (zWs_in 1125 (by decide +kernel) rfl)⟩
theorem fX7_315 : zFl RX7 315 7 22 := ⟨RX7, TX7, rfl, by decide, by decide, uwX7, ⟨tyX7, tyX7_ok⟩, nmX7, Or.inl (zWs_in 1139 (by decide +kernel) rfl)⟩
theorem fX7_32 : zFl RX7 32 7 16 := ⟨RX7, TX7, rfl, by decide, by decide, uwX7, ⟨tyX7, tyX7_ok⟩, nmX7, Or.inl (zWs_in 1133 (by decide +kernel) rfl)⟩
theorem fX7_324 : zFl RX7 324 7 23 := ⟨RX7, TX7, rfl, by decide, by decide, uwX7, ⟨tyX7, tyX7_ok⟩, nmX7, Or.inl (zWs_in 1140 (by decide +kernel) rfl)⟩
theorem fX7_330 : zFl RX7 330 7 24 := ⟨RX7, TX7, rfl, by decide, by decide, uwX7, ⟨tyX7, tyX7_ok⟩, nmX7, Or.inl (zWs_in 1141 (by decide +kernel) rfl)⟩
theorem fX7_346 : zFl RX7 346 7 26 := ⟨RX7, TX7, rfl, by decide, by decide, uwX7, ⟨tyX7, tyX7_ok⟩, nmX7, Or.inl (zWs_in 1143 (by decide +kernel) rfl)⟩
theorem fX7_36 : zFl RX7 36 7 17 := ⟨RX7, TX7, rfl, by decide, by decide, uwX7, ⟨tyX7, tyX7_ok⟩, nmX7, Or.inl (zWs_in 1134 (by decide +kernel) rfl)⟩
theorem fX7_39 : zFl RX7 39 7 18 := ⟨RX7, TX7, rfl, by decide, by decide, uwX7, ⟨tyX7, tyX7_ok⟩, nmX7, Or.inl (zWs_in 1135 (by decide +kernel) rfl)⟩
theorem fX7_42 : zFl RX7 42 7 19 := ⟨RX7, TX7, rfl, by decide, by decide, uwX7, ⟨tyX7, tyX7_ok⟩, nmX7, Or.inl (zWs_in 1136 (by decide +kernel) rfl)⟩
theorem fX7_45 : zFl RX7 45 7 25 := ⟨RX7, TX7, rfl, by decide, by decide, uwX7, ⟨tyX7, tyX7_ok⟩, nmX7, Or.inl (zWs_in 1142 (by decide +kernel) rfl)⟩
theorem fX7_59 : zFl RX7 59 7 7 := ⟨RX7, TX7, rfl, by decide, by decide, uwX7, ⟨tyX7, tyX7_ok⟩, nmX7, Or.inl (zWs_in 1124 (by decide +kernel) rfl)⟩
theorem fX7_62 : zFl RX7 62 7 6 := ⟨RX7, TX7, rfl, by decide, by decide, uwX7, ⟨tyX7, tyX7_ok⟩, nmX7, Or.inl (zWs_in 1123 (by decide +kernel) rfl)⟩
theorem fX7_7 : zFl RX7 7 7 0 := ⟨RX7, TX7, rfl, by decide, by decide, uwX7, ⟨tyX7, tyX7_ok⟩, nmX7, Or.inl (zWs_in 1117 (by decide +kernel) rfl)⟩
theorem fX7_81 : zFl RX7 81 7 9 := ⟨RX7, TX7, rfl, by decide, by decide, uwX7, ⟨tyX7, tyX7_ok⟩, nmX7, Or.inl (zWs_in 1126 (by decide +kernel) rfl)⟩
theorem fX7_88 : zFl RX7 88 7 11 := ⟨RX7, TX7, rfl, by decide, by decide, uwX7, ⟨tyX7, tyX7_ok⟩, nmX7, Or.inl (zWs_in 1128 (by decide +kernel) rfl)⟩
theorem fX7_91 : zFl RX7 91 7 10 := ⟨RX7, TX7, rfl, by decide, by decide, uwX7, ⟨tyX7, tyX7_ok⟩, nmX7, Or.inl (zWs_in 1127 (by decide +kernel) rfl)⟩
theorem fX7_94 : zFl RX7 94 7 13 := ⟨RX7, TX7, rfl, by decide, by decide, uwX7, ⟨tyX7, tyX7_ok⟩, nmX7, Or.inl (zWs_in 1130 (by decide +kernel) rfl)⟩
theorem fX7_97 : zFl RX7 97 7 12 := ⟨RX7, TX7, rfl, by decide, by decide, uwX7, ⟨tyX7, tyX7_ok⟩, nmX7, Or.inl (zWs_in 1129 (by decide +kernel) rfl)⟩
theorem fX1_101 : zFl RX1 101 0 6 := ⟨RX0, TX0, rfl, by decide, by decide, uwX0, ⟨tyX0, tyX0_ok⟩, nmX0, Or.inr ⟨"HopscotchCourt", zNst_in 190 (by decide +kernel) rfl⟩⟩
theorem fX1_33 : zFl RX1 33 0 1 := ⟨RX0, TX0, rfl, by decide, by decide, uwX0, ⟨tyX0, tyX0_ok⟩, nmX0, Or.inr ⟨"HopscotchCourt", zNst_in 175 (by decide +kernel) rfl⟩⟩
theorem fX1_44 : zFl RX1 44 0 2 := ⟨RX0, TX0, rfl, by decide, by decide, uwX0, ⟨tyX0, tyX0_ok⟩, nmX0, Or.inr ⟨"HopscotchCourt", zNst_in 179 (by decide +kernel) rfl⟩⟩
theorem fX1_51 : zFl RX1 51 0 4 := ⟨RX0, TX0, rfl, by decide, by decide, uwX0, ⟨tyX0, tyX0_ok⟩, nmX0, Or.inr ⟨"HopscotchCourt", zNst_in 185 (by decide +kernel) rfl⟩⟩
theorem fX1_80 : zFl RX1 80 0 7 := ⟨RX0, TX0, rfl, by decide, by decide, uwX0, ⟨tyX0, tyX0_ok⟩, nmX0, Or.inr ⟨"HopscotchCourt", zNst_in 193 (by decide +kernel) rfl⟩⟩
theorem fX1_90 : zFl RX1 90 4 2 := ⟨RX4, TX4, rfl, by decide, by decide, uwX4, ⟨tyX4, tyX4_ok⟩, nmX4, Or.inr ⟨"HopscotchCourt", zNst_in 259 (by decide +kernel) rfl⟩⟩
theorem fX1_93 : zFl RX1 93 4 3 := ⟨RX4, TX4, rfl, by decide, by decide, uwX4, ⟨tyX4, tyX4_ok⟩, nmX4, Or.inr ⟨"HopscotchCourt", zNst_in 262 (by decide +kernel) rfl⟩⟩
theorem fX3_127 : zFl RX3 127 0 1 := ⟨RX0, TX0, rfl, by decide, by decide, uwX0, ⟨tyX0, tyX0_ok⟩, nmX0, Or.inr ⟨"HopscotchCourt", zNst_in 176 (by decide +kernel) rfl⟩⟩
theorem fX3_140 : zFl RX3 140 0 10 := ⟨RX0, TX0, rfl, by decide, by decide, uwX0, ⟨tyX0, tyX0_ok⟩, nmX0, Or.inr ⟨"HopscotchCourt", zNst_in 202 (by decide +kernel) rfl⟩⟩
theorem fX3_86 : zFl RX3 86 0 3 := ⟨RX0, TX0, rfl, by decide, by decide, uwX0, ⟨tyX0, tyX0_ok⟩, nmX0, Or.inr ⟨"HopscotchCourt", zNst_in 182 (by decide +kernel) rfl⟩⟩
theorem fX4_35 : zFl RX4 35 0 1 := ⟨RX0, TX0, rfl, by decide, by decide, uwX0, ⟨tyX0, tyX0_ok⟩, nmX0, Or.inr ⟨"HopscotchCourt", zNst_in 173 (by decide +kernel) rfl⟩⟩
theorem fX4_50 : zFl RX4 50 0 0 := ⟨RX0, TX0, rfl, by decide, by decide, uwX0, ⟨tyX0, tyX0_ok⟩, nmX0, Or.inr ⟨"HopscotchCourt", zNst_in 169 (by decide +kernel) rfl⟩⟩
theorem fX4_55 : zFl RX4 55 0 9 := ⟨RX0, TX0, rfl, by decide, by decide, uwX0, ⟨tyX0, tyX0_ok⟩, nmX0, Or.inr ⟨"HopscotchCourt", zNst_in 197 (by decide +kernel) rfl⟩⟩
theorem fX5_25 : zFl RX5 25 0 1 := ⟨RX0, TX0, rfl, by decide, by decide, uwX0, ⟨tyX0, tyX0_ok⟩, nmX0, Or.inr ⟨"HopscotchCourt", zNst_in 172 (by decide +kernel) rfl⟩⟩
theorem fX5_38 : zFl RX5 38 0 10 := ⟨RX0, TX0, rfl, by decide, by decide, uwX0, ⟨tyX0, tyX0_ok⟩, nmX0, Or.inr ⟨"HopscotchCourt", zNst_in 200 (by decide +kernel) rfl⟩⟩
theorem fX5_46 : zFl RX5 46 0 14 := ⟨RX0, TX0, rfl, by decide, by decide, uwX0, ⟨tyX0, tyX0_ok⟩, nmX0, Or.inr ⟨"HopscotchCourt", zNst_in 209 (by decide +kernel) rfl⟩⟩
theorem fX5_49 : zFl RX5 49 0 13 := ⟨RX0, TX0, rfl, by decide, by decide, uwX0, ⟨tyX0, tyX0_ok⟩, nmX0, Or.inr ⟨"HopscotchCourt", zNst_in 207 (by decide +kernel) rfl⟩⟩
theorem fX6_100 : zFl RX6 100 3 6 := ⟨RX3, TX3, rfl, by decide, by decide, uwX3, ⟨tyX3, tyX3_ok⟩, nmX3, Or.inr ⟨"HopscotchCourt", zNst_in 338 (by decide +kernel) rfl⟩⟩
theorem fX6_103 : zFl RX6 103 0 0 := ⟨RX0, TX0, rfl, by decide, by decide, uwX0, ⟨tyX0, tyX0_ok⟩, nmX0, Or.inr ⟨"HopscotchCourt", zNst_in 170 (by decide +kernel) rfl⟩⟩
theorem fX6_106 : zFl RX6 106 0 2 := ⟨RX0, TX0, rfl, by decide, by decide, uwX0, ⟨tyX0, tyX0_ok⟩, nmX0, Or.inr ⟨"HopscotchCourt", zNst_in 178 (by decide +kernel) rfl⟩⟩
theorem fX6_109 : zFl RX6 109 0 3 := ⟨RX0, TX0, rfl, by decide, by decide, uwX0, ⟨tyX0, tyX0_ok⟩, nmX0, Or.inr ⟨"HopscotchCourt", zNst_in 181 (by decide +kernel) rfl⟩⟩
theorem fX6_112 : zFl RX6 112 0 4 := ⟨RX0, TX0, rfl, by decide, by decide, uwX0, ⟨tyX0, tyX0_ok⟩, nmX0, Or.inr ⟨"HopscotchCourt", zNst_in 184 (by decide +kernel) rfl⟩⟩
theorem fX6_115 : zFl RX6 115 0 5 := ⟨RX0, TX0, rfl, by decide, by decide, uwX0, ⟨tyX0, tyX0_ok⟩, nmX0, Or.inr ⟨"HopscotchCourt", zNst_in 187 (by decide +kernel) rfl⟩⟩
theorem fX6_125 : zFl RX6 125 0 6 := ⟨RX0, TX0, rfl, by decide, by decide, uwX0, ⟨tyX0, tyX0_ok⟩, nmX0, Or.inr ⟨"HopscotchCourt", zNst_in 189 (by decide +kernel) rfl⟩⟩
theorem fX6_128 : zFl RX6 128 0 7 := ⟨RX0, TX0, rfl, by decide, by decide, uwX0, ⟨tyX0, tyX0_ok⟩, nmX0, Or.inr ⟨"HopscotchCourt", zNst_in 192 (by decide +kernel) rfl⟩⟩
theorem fX6_154 : zFl RX6 154 0 9 := ⟨RX0, TX0, rfl, by decide, by decide, uwX0, ⟨tyX0, tyX0_ok⟩, nmX0, Or.inr ⟨"HopscotchCourt", zNst_in 198 (by decide +kernel) rfl⟩⟩
theorem fX6_161 : zFl RX6 161 0 10 := ⟨RX0, TX0, rfl, by decide, by decide, uwX0, ⟨tyX0, tyX0_ok⟩, nmX0, Or.inr ⟨"HopscotchCourt", zNst_in 201 (by decide +kernel) rfl⟩⟩
theorem fX6_167 : zFl RX6 167 0 11 := ⟨RX0, TX0, rfl, by decide, by decide, uwX0, ⟨tyX0, tyX0_ok⟩, nmX0, Or.inr ⟨"HopscotchCourt", zNst_in 204 (by decide +kernel) rfl⟩⟩
theorem fX6_175 : zFl RX6 175 0 8 := ⟨RX0, TX0, rfl, by decide, by decide, uwX0, ⟨tyX0, tyX0_ok⟩, nmX0, Or.inr ⟨"HopscotchCourt", zNst_in 195 (by decide +kernel) rfl⟩⟩
theorem fX6_209 : zFl RX6 209 4 1 := ⟨RX4, TX4, rfl, by decide, by decide, uwX4, ⟨tyX4, tyX4_ok⟩, nmX4, Or.inr ⟨"HopscotchCourt", zNst_in 257 (by decide +kernel) rfl⟩⟩
theorem fX6_219 : zFl RX6 219 4 2 := ⟨RX4, TX4, rfl, by decide, by decide, uwX4, ⟨tyX4, tyX4_ok⟩, nmX4, Or.inr ⟨"HopscotchCourt", zNst_in 260 (by decide +kernel) rfl⟩⟩
theorem fX6_220 : zFl RX6 220 4 3 := ⟨RX4, TX4, rfl, by decide, by decide, uwX4, ⟨tyX4, tyX4_ok⟩, nmX4, Or.inr ⟨"HopscotchCourt", zNst_in 263 (by decide +kernel) rfl⟩⟩
theorem fX6_235 : zFl RX6 235 1 0 := ⟨RX1, TX1, rfl, by decide, by decide, uwX1, ⟨tyX1, tyX1_ok⟩, nmX1, Or.inr ⟨"HopscotchCourt", zNst_in 295 (by decide +kernel) rfl⟩⟩
theorem fX6_239 : zFl RX6 239 1 1 := ⟨RX1, TX1, rfl, by decide, by decide, uwX1, ⟨tyX1, tyX1_ok⟩, nmX1, Or.inr ⟨"HopscotchCourt", zNst_in 297 (by decide +kernel) rfl⟩⟩
theorem fX6_273 : zFl RX6 273 2 2 := ⟨RX2, TX2, rfl, by decide, by decide, uwX2, ⟨tyX2, tyX2_ok⟩, nmX2, Or.inr ⟨"HopscotchCourt", zNst_in 315 (by decide +kernel) rfl⟩⟩
theorem fX6_289 : zFl RX6 289 5 1 := ⟨RX5, TX5, rfl, by decide, by decide, uwX5, ⟨tyX5, tyX5_ok⟩, nmX5, Or.inr ⟨"HopscotchCourt", zNst_in 364 (by decide +kernel) rfl⟩⟩
theorem fX6_292 : zFl RX6 292 5 0 := ⟨RX5, TX5, rfl, by decide, by decide, uwX5, ⟨tyX5, tyX5_ok⟩, nmX5, Or.inr ⟨"HopscotchCourt", zNst_in 362 (by decide +kernel) rfl⟩⟩
theorem fX6_69 : zFl RX6 69 3 1 := ⟨RX3, TX3, rfl, by decide, by decide, uwX3, ⟨tyX3, tyX3_ok⟩, nmX3, Or.inr ⟨"HopscotchCourt", zNst_in 330 (by decide +kernel) rfl⟩⟩
theorem fX6_87 : zFl RX6 87 3 5 := ⟨RX3, TX3, rfl, by decide, by decide, uwX3, ⟨tyX3, tyX3_ok⟩, nmX3, Or.inr ⟨"HopscotchCourt", zNst_in 335 (by decide +kernel) rfl⟩⟩
theorem fX6_97 : zFl RX6 97 0 1 := ⟨RX0, TX0, rfl, by decide, by decide, uwX0, ⟨tyX0, tyX0_ok⟩, nmX0, Or.inr ⟨"HopscotchCourt", zNst_in 174 (by decide +kernel) rfl⟩⟩
abbrev MX0_init : zM := (RX0, cX0_init, 1, yX0_init, none)
theorem kX0_init : zCm MX0_init 0 := ⟨zWs_in 162 (by decide +kernel) rfl, zWs_in 130 (by decide +kernel) rfl, rfl, by decide, by decide, by decide +kernel⟩
abbrev MX0_wipe : zM := (RX0, cX0_wipe, 2, yX0_wipe, none)
theorem kX0_wipe : zCm MX0_wipe 0 := ⟨zWs_in 167 (by decide +kernel) rfl, zWs_in 130 (by decide +kernel) rfl, rfl, by decide, by decide, by decide +kernel⟩
theorem vX0_wipe : zVm MX0_wipe := ⟨zWs_in 166 (by decide +kernel) rfl, zWs_in 0 (by decide +kernel) rfl⟩
abbrev MX0_copyFrom : zM := (RX0, cX0_copyFrom, 2, yX0_copyFrom, none)
theorem kX0_copyFrom : zCm MX0_copyFrom 1 := ⟨zWs_in 575 (by decide +kernel) rfl, zWs_in 130 (by decide +kernel) rfl, rfl, by decide, by decide, by decide +kernel⟩
theorem vX0_copyFrom : zVm MX0_copyFrom := ⟨zWs_in 574 (by decide +kernel) rfl, zWs_in 26 (by decide +kernel) rfl⟩
abbrev MX0_addRow : zM := (RX0, cX0_addRow, 3, yX0_addRow, none)
theorem kX0_addRow : zCm MX0_addRow 1 := ⟨zWs_in 373 (by decide +kernel) rfl, zWs_in 130 (by decide +kernel) rfl, rfl, by decide, by decide, by decide +kernel⟩
theorem vX0_addRow : zVm MX0_addRow := ⟨zWs_in 372 (by decide +kernel) rfl, zWs_in 1 (by decide +kernel) rfl⟩
abbrev MX0_addPlayer : zM := (RX0, cX0_addPlayer, 3, yX0_addPlayer, none)
theorem kX0_addPlayer : zCm MX0_addPlayer 0 := ⟨zWs_in 377 (by decide +kernel) rfl, zWs_in 130 (by decide +kernel) rfl, rfl, by decide, by decide, by decide +kernel⟩
theorem vX0_addPlayer : zVm MX0_addPlayer := ⟨zWs_in 376 (by decide +kernel) rfl, zWs_in 2 (by decide +kernel) rfl⟩
abbrev MX0_addLetter : zM := (RX0, cX0_addLetter, 3, yX0_addLetter, none)
theorem kX0_addLetter : zCm MX0_addLetter 1 := ⟨zWs_in 385 (by decide +kernel) rfl, zWs_in 130 (by decide +kernel) rfl, rfl, by decide, by decide, by decide +kernel⟩
theorem vX0_addLetter : zVm MX0_addLetter := ⟨zWs_in 384 (by decide +kernel) rfl, zWs_in 4 (by decide +kernel) rfl⟩
abbrev MX0_hasSameName : zM := (RX0, cX0_hasSameName, 4, yX0_hasSameName, (some FieldType.boolean))
theorem kX0_hasSameName : zCm MX0_hasSameName 2 := ⟨zWs_in 526 (by decide +kernel) rfl, zWs_in 130 (by decide +kernel) rfl, rfl, by decide, by decide, by decide +kernel⟩
theorem vX0_hasSameName : zVm MX0_hasSameName := ⟨zWs_in 525 (by decide +kernel) rfl, zWs_in 17 (by decide +kernel) rfl⟩
abbrev MX0_get : zM := (RX0, cX0_get, 3, yX0_get, (some FieldType.int))
theorem kX0_get : zCm MX0_get 2 := ⟨zWs_in 559 (by decide +kernel) rfl, zWs_in 130 (by decide +kernel) rfl, rfl, by decide, by decide, by decide +kernel⟩
theorem vX0_get : zVm MX0_get := ⟨zWs_in 558 (by decide +kernel) rfl, zWs_in 22 (by decide +kernel) rfl⟩
abbrev MX0_put : zM := (RX0, cX0_put, 4, yX0_put, none)
theorem kX0_put : zCm MX0_put 3 := ⟨zWs_in 381 (by decide +kernel) rfl, zWs_in 130 (by decide +kernel) rfl, rfl, by decide, by decide, by decide +kernel⟩
theorem vX0_put : zVm MX0_put := ⟨zWs_in 380 (by decide +kernel) rfl, zWs_in 3 (by decide +kernel) rfl⟩
abbrev MX0_widthOf : zM := (RX0, cX0_widthOf, 2, yX0_widthOf, (some FieldType.int))
theorem kX0_widthOf : zCm MX0_widthOf 1 := ⟨zWs_in 616 (by decide +kernel) rfl, zWs_in 130 (by decide +kernel) rfl, rfl, by decide, by decide, by decide +kernel⟩
theorem vX0_widthOf : zVm MX0_widthOf := ⟨zWs_in 615 (by decide +kernel) rfl, zWs_in 32 (by decide +kernel) rfl⟩
abbrev MX0_sideOf : zM := (RX0, cX0_sideOf, 2, yX0_sideOf, (some FieldType.int))
theorem kX0_sideOf : zCm MX0_sideOf 1 := ⟨zWs_in 604 (by decide +kernel) rfl, zWs_in 130 (by decide +kernel) rfl, rfl, by decide, by decide, by decide +kernel⟩
theorem vX0_sideOf : zVm MX0_sideOf := ⟨zWs_in 603 (by decide +kernel) rfl, zWs_in 29 (by decide +kernel) rfl⟩
abbrev MX0_squaresOf : zM := (RX0, cX0_squaresOf, 4, yX0_squaresOf, (some FieldType.int))
theorem kX0_squaresOf : zCm MX0_squaresOf 1 := ⟨zWs_in 642 (by decide +kernel) rfl, zWs_in 130 (by decide +kernel) rfl, rfl, by decide, by decide, by decide +kernel⟩
theorem vX0_squaresOf : zVm MX0_squaresOf := ⟨zWs_in 641 (by decide +kernel) rfl, zWs_in 38 (by decide +kernel) rfl⟩
abbrev MX0_ownedSquares : zM := (RX0, cX0_ownedSquares, 1, yX0_ownedSquares, (some FieldType.int))
theorem kX0_ownedSquares : zCm MX0_ownedSquares 0 := ⟨zWs_in 823 (by decide +kernel) rfl, zWs_in 130 (by decide +kernel) rfl, rfl, by decide, by decide, by decide +kernel⟩
theorem vX0_ownedSquares : zVm MX0_ownedSquares := ⟨zWs_in 822 (by decide +kernel) rfl, zWs_in 54 (by decide +kernel) rfl⟩
abbrev MX0_richest : zM := (RX0, cX0_richest, 5, yX0_richest, (some FieldType.int))
theorem kX0_richest : zCm MX0_richest 0 := ⟨zWs_in 831 (by decide +kernel) rfl, zWs_in 130 (by decide +kernel) rfl, rfl, by decide, by decide, by decide +kernel⟩
theorem vX0_richest : zVm MX0_richest := ⟨zWs_in 830 (by decide +kernel) rfl, zWs_in 56 (by decide +kernel) rfl⟩
abbrev MX0_lyingMarkers : zM := (RX0, cX0_lyingMarkers, 3, yX0_lyingMarkers, (some FieldType.int))
theorem kX0_lyingMarkers : zCm MX0_lyingMarkers 0 := ⟨zWs_in 827 (by decide +kernel) rfl, zWs_in 130 (by decide +kernel) rfl, rfl, by decide, by decide, by decide +kernel⟩
theorem vX0_lyingMarkers : zVm MX0_lyingMarkers := ⟨zWs_in 826 (by decide +kernel) rfl, zWs_in 55 (by decide +kernel) rfl⟩
abbrev MX0_markersOn : zM := (RX0, cX0_markersOn, 4, yX0_markersOn, (some FieldType.int))
theorem kX0_markersOn : zCm MX0_markersOn 1 := ⟨zWs_in 895 (by decide +kernel) rfl, zWs_in 130 (by decide +kernel) rfl, rfl, by decide, by decide, by decide +kernel⟩
theorem vX0_markersOn : zVm MX0_markersOn := ⟨zWs_in 894 (by decide +kernel) rfl, zWs_in 59 (by decide +kernel) rfl⟩
abbrev MX0_markedSquares : zM := (RX0, cX0_markedSquares, 5, yX0_markedSquares, (some FieldType.int))
theorem kX0_markedSquares : zCm MX0_markedSquares 1 := ⟨zWs_in 634 (by decide +kernel) rfl, zWs_in 130 (by decide +kernel) rfl, rfl, by decide, by decide, by decide +kernel⟩
theorem vX0_markedSquares : zVm MX0_markedSquares := ⟨zWs_in 633 (by decide +kernel) rfl, zWs_in 36 (by decide +kernel) rfl⟩
abbrev MX0_isForbidden : zM := (RX0, cX0_isForbidden, 3, yX0_isForbidden, (some FieldType.boolean))
theorem kX0_isForbidden : zCm MX0_isForbidden 2 := ⟨zWs_in 563 (by decide +kernel) rfl, zWs_in 130 (by decide +kernel) rfl, rfl, by decide, by decide, by decide +kernel⟩
theorem vX0_isForbidden : zVm MX0_isForbidden := ⟨zWs_in 562 (by decide +kernel) rfl, zWs_in 23 (by decide +kernel) rfl⟩
abbrev MX0_usableSet : zM := (RX0, cX0_usableSet, 3, yX0_usableSet, (some FieldType.int))
theorem kX0_usableSet : zCm MX0_usableSet 2 := ⟨zWs_in 638 (by decide +kernel) rfl, zWs_in 130 (by decide +kernel) rfl, rfl, by decide, by decide, by decide +kernel⟩
theorem vX0_usableSet : zVm MX0_usableSet := ⟨zWs_in 637 (by decide +kernel) rfl, zWs_in 37 (by decide +kernel) rfl⟩
abbrev MX0_footingOf : zM := (RX0, cX0_footingOf, 6, yX0_footingOf, (some FieldType.int))
theorem kX0_footingOf : zCm MX0_footingOf 3 := ⟨zWs_in 651 (by decide +kernel) rfl, zWs_in 130 (by decide +kernel) rfl, rfl, by decide, by decide, by decide +kernel⟩
theorem vX0_footingOf : zVm MX0_footingOf := ⟨zWs_in 650 (by decide +kernel) rfl, zWs_in 40 (by decide +kernel) rfl⟩
abbrev MX0_firstAllowed : zM := (RX0, cX0_firstAllowed, 4, yX0_firstAllowed, (some FieldType.int))
theorem kX0_firstAllowed : zCm MX0_firstAllowed 2 := ⟨zWs_in 567 (by decide +kernel) rfl, zWs_in 130 (by decide +kernel) rfl, rfl, by decide, by decide, by decide +kernel⟩
theorem vX0_firstAllowed : zVm MX0_firstAllowed := ⟨zWs_in 566 (by decide +kernel) rfl, zWs_in 24 (by decide +kernel) rfl⟩
abbrev MX0_mendTargets : zM := (RX0, cX0_mendTargets, 4, yX0_mendTargets, none)
theorem kX0_mendTargets : zCm MX0_mendTargets 0 := ⟨zWs_in 555 (by decide +kernel) rfl, zWs_in 130 (by decide +kernel) rfl, rfl, by decide, by decide, by decide +kernel⟩
theorem vX0_mendTargets : zVm MX0_mendTargets := ⟨zWs_in 554 (by decide +kernel) rfl, zWs_in 21 (by decide +kernel) rfl⟩
abbrev MX0_faultOfThrow : zM := (RX0, cX0_faultOfThrow, 7, yX0_faultOfThrow, (some FieldType.int))
theorem kX0_faultOfThrow : zCm MX0_faultOfThrow 3 := ⟨zWs_in 612 (by decide +kernel) rfl, zWs_in 130 (by decide +kernel) rfl, rfl, by decide, by decide, by decide +kernel⟩
theorem vX0_faultOfThrow : zVm MX0_faultOfThrow := ⟨zWs_in 611 (by decide +kernel) rfl, zWs_in 31 (by decide +kernel) rfl⟩
abbrev MX0_leastPower : zM := (RX0, cX0_leastPower, 2, yX0_leastPower, (some FieldType.int))
theorem kX0_leastPower : zCm MX0_leastPower 1 := ⟨zWs_in 597 (by decide +kernel) rfl, zWs_in 130 (by decide +kernel) rfl, rfl, by decide, by decide, by decide +kernel⟩
theorem vX0_leastPower : zVm MX0_leastPower := ⟨zWs_in 596 (by decide +kernel) rfl, zWs_in 28 (by decide +kernel) rfl⟩
abbrev MX0_addLandings : zM := (RX0, cX0_addLandings, 4, yX0_addLandings, none)
theorem kX0_addLandings : zCm MX0_addLandings 2 := ⟨zWs_in 684 (by decide +kernel) rfl, zWs_in 130 (by decide +kernel) rfl, rfl, by decide, by decide, by decide +kernel⟩
theorem vX0_addLandings : zVm MX0_addLandings := ⟨zWs_in 683 (by decide +kernel) rfl, zWs_in 45 (by decide +kernel) rfl⟩
abbrev MX0_moveTargetOn : zM := (RX0, cX0_moveTargetOn, 3, yX0_moveTargetOn, none)
theorem kX0_moveTargetOn : zCm MX0_moveTargetOn 1 := ⟨zWs_in 688 (by decide +kernel) rfl, zWs_in 130 (by decide +kernel) rfl, rfl, by decide, by decide, by decide +kernel⟩
theorem vX0_moveTargetOn : zVm MX0_moveTargetOn := ⟨zWs_in 687 (by decide +kernel) rfl, zWs_in 46 (by decide +kernel) rfl⟩
abbrev MX0_endTurn : zM := (RX0, cX0_endTurn, 2, yX0_endTurn, none)
theorem kX0_endTurn : zCm MX0_endTurn 1 := ⟨zWs_in 693 (by decide +kernel) rfl, zWs_in 130 (by decide +kernel) rfl, rfl, by decide, by decide, by decide +kernel⟩
theorem vX0_endTurn : zVm MX0_endTurn := ⟨zWs_in 692 (by decide +kernel) rfl, zWs_in 47 (by decide +kernel) rfl⟩
abbrev MX1_init : zM := (RX1, cX1_init, 1, yX1_init, none)
theorem kX1_init : zCm MX1_init 0 := ⟨zWs_in 247 (by decide +kernel) rfl, zWs_in 131 (by decide +kernel) rfl, rfl, by decide, by decide, by decide +kernel⟩
abbrev MX1_ownWay : zM := (RX1, cX1_ownWay, 5, yX1_ownWay, (some (FieldType.object "HopscotchCourt$Way")))
theorem kX1_ownWay : zCm MX1_ownWay 3 := ⟨zWs_in 957 (by decide +kernel) rfl, zWs_in 131 (by decide +kernel) rfl, rfl, by decide, by decide, by decide +kernel⟩
theorem vX1_ownWay : zVm MX1_ownWay := ⟨zWs_in 956 (by decide +kernel) rfl, zWs_in 61 (by decide +kernel) rfl⟩
abbrev MX1_hasBothWays : zM := (RX1, cX1_hasBothWays, 5, yX1_hasBothWays, (some FieldType.boolean))
theorem kX1_hasBothWays : zCm MX1_hasBothWays 4 := ⟨zWs_in 976 (by decide +kernel) rfl, zWs_in 131 (by decide +kernel) rfl, rfl, by decide, by decide, by decide +kernel⟩
theorem vX1_hasBothWays : zVm MX1_hasBothWays := ⟨zWs_in 975 (by decide +kernel) rfl, zWs_in 62 (by decide +kernel) rfl⟩
abbrev MX1_faultOfHops : zM := (RX1, cX1_faultOfHops, 5, yX1_faultOfHops, (some FieldType.int))
theorem kX1_faultOfHops : zCm MX1_faultOfHops 2 := ⟨zWs_in 621 (by decide +kernel) rfl, zWs_in 131 (by decide +kernel) rfl, rfl, by decide, by decide, by decide +kernel⟩
theorem vX1_faultOfHops : zVm MX1_faultOfHops := ⟨zWs_in 620 (by decide +kernel) rfl, zWs_in 33 (by decide +kernel) rfl⟩
abbrev MX1_playableSquares : zM := (RX1, cX1_playableSquares, 6, yX1_playableSquares, (some FieldType.int))
theorem kX1_playableSquares : zCm MX1_playableSquares 2 := ⟨zWs_in 987 (by decide +kernel) rfl, zWs_in 131 (by decide +kernel) rfl, rfl, by decide, by decide, by decide +kernel⟩
theorem vX1_playableSquares : zVm MX1_playableSquares := ⟨zWs_in 986 (by decide +kernel) rfl, zWs_in 63 (by decide +kernel) rfl⟩
abbrev MX1_playableByOthers : zM := (RX1, cX1_playableByOthers, 5, yX1_playableByOthers, (some FieldType.int))
theorem kX1_playableByOthers : zCm MX1_playableByOthers 2 := ⟨zWs_in 1000 (by decide +kernel) rfl, zWs_in 131 (by decide +kernel) rfl, rfl, by decide, by decide, by decide +kernel⟩
theorem vX1_playableByOthers : zVm MX1_playableByOthers := ⟨zWs_in 999 (by decide +kernel) rfl, zWs_in 64 (by decide +kernel) rfl⟩
abbrev MX1_playTurn : zM := (RX1, cX1_playTurn, 6, yX1_playTurn, (some FieldType.int))
theorem kX1_playTurn : zCm MX1_playTurn 3 := ⟨zWs_in 608 (by decide +kernel) rfl, zWs_in 131 (by decide +kernel) rfl, rfl, by decide, by decide, by decide +kernel⟩
theorem vX1_playTurn : zVm MX1_playTurn := ⟨zWs_in 607 (by decide +kernel) rfl, zWs_in 30 (by decide +kernel) rfl⟩
abbrev MX1_hopOutAndBack : zM := (RX1, cX1_hopOutAndBack, 3, yX1_hopOutAndBack, none)
theorem kX1_hopOutAndBack : zCm MX1_hopOutAndBack 2 := ⟨zWs_in 675 (by decide +kernel) rfl, zWs_in 131 (by decide +kernel) rfl, rfl, by decide, by decide, by decide +kernel⟩
theorem vX1_hopOutAndBack : zVm MX1_hopOutAndBack := ⟨zWs_in 674 (by decide +kernel) rfl, zWs_in 44 (by decide +kernel) rfl⟩
abbrev MX1_makeHops : zM := (RX1, cX1_makeHops, 5, yX1_makeHops, none)
theorem kX1_makeHops : zCm MX1_makeHops 3 := ⟨zWs_in 678 (by decide +kernel) rfl, zWs_in 131 (by decide +kernel) rfl, rfl, by decide, by decide, by decide +kernel⟩
theorem sX1_makeHops : Cond.static MX1_makeHops.2.2.2.1 ∈ zWs := zWs_in 677 (by decide +kernel) rfl
abbrev MX1_playUntilCrown : zM := (RX1, cX1_playUntilCrown, 9, yX1_playUntilCrown, (some FieldType.int))
theorem kX1_playUntilCrown : zCm MX1_playUntilCrown 2 := ⟨zWs_in 592 (by decide +kernel) rfl, zWs_in 131 (by decide +kernel) rfl, rfl, by decide, by decide, by decide +kernel⟩
theorem vX1_playUntilCrown : zVm MX1_playUntilCrown := ⟨zWs_in 591 (by decide +kernel) rfl, zWs_in 27 (by decide +kernel) rfl⟩
abbrev MX2_init : zM := (RX2, cX2_init, 2, yX2_init, none)
theorem kX2_init : zCm MX2_init 0 := ⟨zWs_in 307 (by decide +kernel) rfl, zWs_in 133 (by decide +kernel) rfl, rfl, by decide, by decide, by decide +kernel⟩
abbrev MX2_keep : zM := (RX2, cX2_keep, 2, yX2_keep, none)
theorem kX2_keep : zCm MX2_keep 1 := ⟨zWs_in 571 (by decide +kernel) rfl, zWs_in 133 (by decide +kernel) rfl, rfl, by decide, by decide, by decide +kernel⟩
theorem vX2_keep : zVm MX2_keep := ⟨zWs_in 570 (by decide +kernel) rfl, zWs_in 25 (by decide +kernel) rfl⟩
abbrev MX2_bringBack : zM := (RX2, cX2_bringBack, 2, yX2_bringBack, none)
theorem kX2_bringBack : zCm MX2_bringBack 1 := ⟨zWs_in 1071 (by decide +kernel) rfl, zWs_in 133 (by decide +kernel) rfl, rfl, by decide, by decide, by decide +kernel⟩
theorem vX2_bringBack : zVm MX2_bringBack := ⟨zWs_in 1070 (by decide +kernel) rfl, zWs_in 65 (by decide +kernel) rfl⟩
abbrev MX3_init : zM := (RX3, cX3_init, 1, yX3_init, none)
theorem kX3_init : zCm MX3_init 0 := ⟨zWs_in 327 (by decide +kernel) rfl, zWs_in 134 (by decide +kernel) rfl, rfl, by decide, by decide, by decide +kernel⟩
abbrev MX3_bytesIn : zM := (RX3, cX3_bytesIn, 3, yX3_bytesIn, (some FieldType.int))
theorem kX3_bytesIn : zCm MX3_bytesIn 1 := ⟨zWs_in 740 (by decide +kernel) rfl, zWs_in 134 (by decide +kernel) rfl, rfl, by decide, by decide, by decide +kernel⟩
theorem sX3_bytesIn : Cond.static MX3_bytesIn.2.2.2.1 ∈ zWs := zWs_in 739 (by decide +kernel) rfl
abbrev MX3_addBytes : zM := (RX3, cX3_addBytes, 4, yX3_addBytes, none)
theorem kX3_addBytes : zCm MX3_addBytes 1 := ⟨zWs_in 811 (by decide +kernel) rfl, zWs_in 134 (by decide +kernel) rfl, rfl, by decide, by decide, by decide +kernel⟩
theorem vX3_addBytes : zVm MX3_addBytes := ⟨zWs_in 810 (by decide +kernel) rfl, zWs_in 53 (by decide +kernel) rfl⟩
abbrev MX3_readCourt : zM := (RX3, cX3_readCourt, 3, yX3_readCourt, (some FieldType.boolean))
theorem kX3_readCourt : zCm MX3_readCourt 1 := ⟨zWs_in 418 (by decide +kernel) rfl, zWs_in 134 (by decide +kernel) rfl, rfl, by decide, by decide, by decide +kernel⟩
theorem vX3_readCourt : zVm MX3_readCourt := ⟨zWs_in 417 (by decide +kernel) rfl, zWs_in 5 (by decide +kernel) rfl⟩
abbrev MX3_readRows : zM := (RX3, cX3_readRows, 4, yX3_readRows, (some FieldType.boolean))
theorem kX3_readRows : zCm MX3_readRows 1 := ⟨zWs_in 427 (by decide +kernel) rfl, zWs_in 134 (by decide +kernel) rfl, rfl, by decide, by decide, by decide +kernel⟩
theorem vX3_readRows : zVm MX3_readRows := ⟨zWs_in 426 (by decide +kernel) rfl, zWs_in 7 (by decide +kernel) rfl⟩
abbrev MX3_readDrift : zM := (RX3, cX3_readDrift, 3, yX3_readDrift, (some FieldType.boolean))
theorem kX3_readDrift : zCm MX3_readDrift 1 := ⟨zWs_in 503 (by decide +kernel) rfl, zWs_in 134 (by decide +kernel) rfl, rfl, by decide, by decide, by decide +kernel⟩
theorem vX3_readDrift : zVm MX3_readDrift := ⟨zWs_in 502 (by decide +kernel) rfl, zWs_in 13 (by decide +kernel) rfl⟩
abbrev MX3_readPlayers : zM := (RX3, cX3_readPlayers, 3, yX3_readPlayers, (some FieldType.boolean))
theorem kX3_readPlayers : zCm MX3_readPlayers 1 := ⟨zWs_in 515 (by decide +kernel) rfl, zWs_in 134 (by decide +kernel) rfl, rfl, by decide, by decide, by decide +kernel⟩
theorem vX3_readPlayers : zVm MX3_readPlayers := ⟨zWs_in 514 (by decide +kernel) rfl, zWs_in 15 (by decide +kernel) rfl⟩
abbrev MX3_readName : zM := (RX3, cX3_readName, 4, yX3_readName, (some FieldType.boolean))
theorem kX3_readName : zCm MX3_readName 2 := ⟨zWs_in 521 (by decide +kernel) rfl, zWs_in 134 (by decide +kernel) rfl, rfl, by decide, by decide, by decide +kernel⟩
theorem vX3_readName : zVm MX3_readName := ⟨zWs_in 520 (by decide +kernel) rfl, zWs_in 16 (by decide +kernel) rfl⟩
abbrev MX3_readParts : zM := (RX3, cX3_readParts, 3, yX3_readParts, (some FieldType.boolean))
theorem kX3_readParts : zCm MX3_readParts 2 := ⟨zWs_in 530 (by decide +kernel) rfl, zWs_in 134 (by decide +kernel) rfl, rfl, by decide, by decide, by decide +kernel⟩
theorem vX3_readParts : zVm MX3_readParts := ⟨zWs_in 529 (by decide +kernel) rfl, zWs_in 18 (by decide +kernel) rfl⟩
abbrev MX3_readPart : zM := (RX3, cX3_readPart, 5, yX3_readPart, (some FieldType.boolean))
theorem kX3_readPart : zCm MX3_readPart 4 := ⟨zWs_in 535 (by decide +kernel) rfl, zWs_in 134 (by decide +kernel) rfl, rfl, by decide, by decide, by decide +kernel⟩
theorem vX3_readPart : zVm MX3_readPart := ⟨zWs_in 534 (by decide +kernel) rfl, zWs_in 19 (by decide +kernel) rfl⟩
abbrev MX3_readOwned : zM := (RX3, cX3_readOwned, 5, yX3_readOwned, (some FieldType.boolean))
theorem kX3_readOwned : zCm MX3_readOwned 2 := ⟨zWs_in 549 (by decide +kernel) rfl, zWs_in 134 (by decide +kernel) rfl, rfl, by decide, by decide, by decide +kernel⟩
theorem vX3_readOwned : zVm MX3_readOwned := ⟨zWs_in 548 (by decide +kernel) rfl, zWs_in 20 (by decide +kernel) rfl⟩
abbrev MX3_readNumber : zM := (RX3, cX3_readNumber, 4, yX3_readNumber, (some FieldType.boolean))
theorem kX3_readNumber : zCm MX3_readNumber 2 := ⟨zWs_in 508 (by decide +kernel) rfl, zWs_in 134 (by decide +kernel) rfl, rfl, by decide, by decide, by decide +kernel⟩
theorem vX3_readNumber : zVm MX3_readNumber := ⟨zWs_in 507 (by decide +kernel) rfl, zWs_in 14 (by decide +kernel) rfl⟩
abbrev MX3_readSemicolon : zM := (RX3, cX3_readSemicolon, 1, yX3_readSemicolon, (some FieldType.boolean))
theorem kX3_readSemicolon : zCm MX3_readSemicolon 0 := ⟨zWs_in 494 (by decide +kernel) rfl, zWs_in 134 (by decide +kernel) rfl, rfl, by decide, by decide, by decide +kernel⟩
theorem vX3_readSemicolon : zVm MX3_readSemicolon := ⟨zWs_in 493 (by decide +kernel) rfl, zWs_in 11 (by decide +kernel) rfl⟩
abbrev MX3_takeSign : zM := (RX3, cX3_takeSign, 2, yX3_takeSign, (some FieldType.boolean))
theorem kX3_takeSign : zCm MX3_takeSign 1 := ⟨zWs_in 498 (by decide +kernel) rfl, zWs_in 134 (by decide +kernel) rfl, rfl, by decide, by decide, by decide +kernel⟩
theorem vX3_takeSign : zVm MX3_takeSign := ⟨zWs_in 497 (by decide +kernel) rfl, zWs_in 12 (by decide +kernel) rfl⟩
abbrev MX3_takeWord : zM := (RX3, cX3_takeWord, 2, yX3_takeWord, (some FieldType.boolean))
theorem kX3_takeWord : zCm MX3_takeWord 1 := ⟨zWs_in 432 (by decide +kernel) rfl, zWs_in 134 (by decide +kernel) rfl, rfl, by decide, by decide, by decide +kernel⟩
theorem vX3_takeWord : zVm MX3_takeWord := ⟨zWs_in 431 (by decide +kernel) rfl, zWs_in 8 (by decide +kernel) rfl⟩
abbrev MX3_nextIsWord : zM := (RX3, cX3_nextIsWord, 3, yX3_nextIsWord, (some FieldType.boolean))
theorem kX3_nextIsWord : zCm MX3_nextIsWord 1 := ⟨zWs_in 436 (by decide +kernel) rfl, zWs_in 134 (by decide +kernel) rfl, rfl, by decide, by decide, by decide +kernel⟩
theorem vX3_nextIsWord : zVm MX3_nextIsWord := ⟨zWs_in 435 (by decide +kernel) rfl, zWs_in 9 (by decide +kernel) rfl⟩
abbrev MX3_moveTo : zM := (RX3, cX3_moveTo, 2, yX3_moveTo, none)
theorem kX3_moveTo : zCm MX3_moveTo 1 := ⟨zWs_in 423 (by decide +kernel) rfl, zWs_in 134 (by decide +kernel) rfl, rfl, by decide, by decide, by decide +kernel⟩
theorem vX3_moveTo : zVm MX3_moveTo := ⟨zWs_in 422 (by decide +kernel) rfl, zWs_in 6 (by decide +kernel) rfl⟩
abbrev MX3_fail : zM := (RX3, cX3_fail, 3, yX3_fail, (some FieldType.boolean))
theorem kX3_fail : zCm MX3_fail 2 := ⟨zWs_in 488 (by decide +kernel) rfl, zWs_in 134 (by decide +kernel) rfl, rfl, by decide, by decide, by decide +kernel⟩
theorem vX3_fail : zVm MX3_fail := ⟨zWs_in 487 (by decide +kernel) rfl, zWs_in 10 (by decide +kernel) rfl⟩
abbrev MX4_init : zM := (RX4, cX4_init, 2, yX4_init, none)
theorem kX4_init : zCm MX4_init 1 := ⟨zWs_in 253 (by decide +kernel) rfl, zWs_in 132 (by decide +kernel) rfl, rfl, by decide, by decide, by decide +kernel⟩
abbrev MX4_seek : zM := (RX4, cX4_seek, 5, yX4_seek, (some FieldType.boolean))
theorem kX4_seek : zCm MX4_seek 4 := ⟨zWs_in 625 (by decide +kernel) rfl, zWs_in 132 (by decide +kernel) rfl, rfl, by decide, by decide, by decide +kernel⟩
theorem vX4_seek : zVm MX4_seek := ⟨zWs_in 624 (by decide +kernel) rfl, zWs_in 34 (by decide +kernel) rfl⟩
abbrev MX4_rowAt : zM := (RX4, cX4_rowAt, 2, yX4_rowAt, (some FieldType.int))
theorem kX4_rowAt : zCm MX4_rowAt 1 := ⟨zWs_in 647 (by decide +kernel) rfl, zWs_in 132 (by decide +kernel) rfl, rfl, by decide, by decide, by decide +kernel⟩
theorem vX4_rowAt : zVm MX4_rowAt := ⟨zWs_in 646 (by decide +kernel) rfl, zWs_in 39 (by decide +kernel) rfl⟩
abbrev MX4_layFootings : zM := (RX4, cX4_layFootings, 8, yX4_layFootings, none)
theorem kX4_layFootings : zCm MX4_layFootings 3 := ⟨zWs_in 630 (by decide +kernel) rfl, zWs_in 132 (by decide +kernel) rfl, rfl, by decide, by decide, by decide +kernel⟩
theorem vX4_layFootings : zVm MX4_layFootings := ⟨zWs_in 629 (by decide +kernel) rfl, zWs_in 35 (by decide +kernel) rfl⟩
abbrev MX4_reckon : zM := (RX4, cX4_reckon, 3, yX4_reckon, none)
theorem kX4_reckon : zCm MX4_reckon 0 := ⟨zWs_in 661 (by decide +kernel) rfl, zWs_in 132 (by decide +kernel) rfl, rfl, by decide, by decide, by decide +kernel⟩
theorem vX4_reckon : zVm MX4_reckon := ⟨zWs_in 660 (by decide +kernel) rfl, zWs_in 41 (by decide +kernel) rfl⟩
abbrev MX4_reckonFrom : zM := (RX4, cX4_reckonFrom, 8, yX4_reckonFrom, none)
theorem kX4_reckonFrom : zCm MX4_reckonFrom 2 := ⟨zWs_in 665 (by decide +kernel) rfl, zWs_in 132 (by decide +kernel) rfl, rfl, by decide, by decide, by decide +kernel⟩
theorem vX4_reckonFrom : zVm MX4_reckonFrom := ⟨zWs_in 664 (by decide +kernel) rfl, zWs_in 42 (by decide +kernel) rfl⟩
abbrev MX4_follow : zM := (RX4, cX4_follow, 3, yX4_follow, none)
theorem kX4_follow : zCm MX4_follow 0 := ⟨zWs_in 671 (by decide +kernel) rfl, zWs_in 132 (by decide +kernel) rfl, rfl, by decide, by decide, by decide +kernel⟩
theorem vX4_follow : zVm MX4_follow := ⟨zWs_in 670 (by decide +kernel) rfl, zWs_in 43 (by decide +kernel) rfl⟩
abbrev MX5_init : zM := (RX5, cX5_init, 1, yX5_init, none)
theorem kX5_init : zCm MX5_init 0 := ⟨zWs_in 359 (by decide +kernel) rfl, zWs_in 135 (by decide +kernel) rfl, rfl, by decide, by decide, by decide +kernel⟩
abbrev MX5_write : zM := (RX5, cX5_write, 4, yX5_write, none)
theorem kX5_write : zCm MX5_write 1 := ⟨zWs_in 715 (by decide +kernel) rfl, zWs_in 135 (by decide +kernel) rfl, rfl, by decide, by decide, by decide +kernel⟩
theorem vX5_write : zVm MX5_write := ⟨zWs_in 714 (by decide +kernel) rfl, zWs_in 48 (by decide +kernel) rfl⟩
abbrev MX5_addName : zM := (RX5, cX5_addName, 4, yX5_addName, none)
theorem kX5_addName : zCm MX5_addName 2 := ⟨zWs_in 729 (by decide +kernel) rfl, zWs_in 135 (by decide +kernel) rfl, rfl, by decide, by decide, by decide +kernel⟩
theorem vX5_addName : zVm MX5_addName := ⟨zWs_in 728 (by decide +kernel) rfl, zWs_in 51 (by decide +kernel) rfl⟩
abbrev MX5_addNumber : zM := (RX5, cX5_addNumber, 2, yX5_addNumber, none)
theorem kX5_addNumber : zCm MX5_addNumber 1 := ⟨zWs_in 725 (by decide +kernel) rfl, zWs_in 135 (by decide +kernel) rfl, rfl, by decide, by decide, by decide +kernel⟩
theorem vX5_addNumber : zVm MX5_addNumber := ⟨zWs_in 724 (by decide +kernel) rfl, zWs_in 50 (by decide +kernel) rfl⟩
abbrev MX5_add : zM := (RX5, cX5_add, 2, yX5_add, none)
theorem kX5_add : zCm MX5_add 1 := ⟨zWs_in 721 (by decide +kernel) rfl, zWs_in 135 (by decide +kernel) rfl, rfl, by decide, by decide, by decide +kernel⟩
theorem vX5_add : zVm MX5_add := ⟨zWs_in 720 (by decide +kernel) rfl, zWs_in 49 (by decide +kernel) rfl⟩
abbrev MX6_init : zM := (RX6, cX6_init, 2, yX6_init, none)
theorem kX6_init : zCm MX6_init 0 := ⟨zWs_in 154 (by decide +kernel) rfl, zWs_in 129 (by decide +kernel) rfl, rfl, by decide, by decide, by decide +kernel⟩
abbrev MX6_append : zM := (RX6, cX6_append, 7, yX6_append, (some FieldType.int))
theorem kX6_append : zCm MX6_append 5 := ⟨zWs_in 737 (by decide +kernel) rfl, zWs_in 129 (by decide +kernel) rfl, rfl, by decide, by decide, by decide +kernel⟩
theorem vX6_append : zVm MX6_append := ⟨zWs_in 735 (by decide +kernel) rfl, zWs_in 736 (by decide +kernel) rfl⟩
abbrev MX6_load : zM := (RX6, cX6_load, 2, yX6_load, (some FieldType.int))
theorem kX6_load : zCm MX6_load 0 := ⟨zWs_in 414 (by decide +kernel) rfl, zWs_in 129 (by decide +kernel) rfl, rfl, by decide, by decide, by decide +kernel⟩
theorem vX6_load : zVm MX6_load := ⟨zWs_in 412 (by decide +kernel) rfl, zWs_in 413 (by decide +kernel) rfl⟩
abbrev MX6_errorPosition : zM := (RX6, cX6_errorPosition, 1, yX6_errorPosition, (some FieldType.int))
theorem kX6_errorPosition : zCm MX6_errorPosition 0 := ⟨zWs_in 584 (by decide +kernel) rfl, zWs_in 129 (by decide +kernel) rfl, rfl, by decide, by decide, by decide +kernel⟩
theorem vX6_errorPosition : zVm MX6_errorPosition := ⟨zWs_in 582 (by decide +kernel) rfl, zWs_in 583 (by decide +kernel) rfl⟩
abbrev MX6_count : zM := (RX6, cX6_count, 2, yX6_count, (some FieldType.int))
theorem kX6_count : zCm MX6_count 1 := ⟨zWs_in 819 (by decide +kernel) rfl, zWs_in 129 (by decide +kernel) rfl, rfl, by decide, by decide, by decide +kernel⟩
theorem vX6_count : zVm MX6_count := ⟨zWs_in 817 (by decide +kernel) rfl, zWs_in 818 (by decide +kernel) rfl⟩
abbrev MX6_player : zM := (RX6, cX6_player, 3, yX6_player, (some FieldType.int))
theorem kX6_player : zCm MX6_player 2 := ⟨zWs_in 855 (by decide +kernel) rfl, zWs_in 129 (by decide +kernel) rfl, rfl, by decide, by decide, by decide +kernel⟩
theorem vX6_player : zVm MX6_player := ⟨zWs_in 853 (by decide +kernel) rfl, zWs_in 854 (by decide +kernel) rfl⟩
abbrev MX6_square : zM := (RX6, cX6_square, 3, yX6_square, (some FieldType.int))
theorem kX6_square : zCm MX6_square 2 := ⟨zWs_in 885 (by decide +kernel) rfl, zWs_in 129 (by decide +kernel) rfl, rfl, by decide, by decide, by decide +kernel⟩
theorem vX6_square : zVm MX6_square := ⟨zWs_in 883 (by decide +kernel) rfl, zWs_in 884 (by decide +kernel) rfl⟩
abbrev MX6_row : zM := (RX6, cX6_row, 2, yX6_row, (some FieldType.int))
theorem kX6_row : zCm MX6_row 1 := ⟨zWs_in 903 (by decide +kernel) rfl, zWs_in 129 (by decide +kernel) rfl, rfl, by decide, by decide, by decide +kernel⟩
theorem vX6_row : zVm MX6_row := ⟨zWs_in 901 (by decide +kernel) rfl, zWs_in 902 (by decide +kernel) rfl⟩
abbrev MX6_footing : zM := (RX6, cX6_footing, 4, yX6_footing, (some FieldType.int))
theorem kX6_footing : zCm MX6_footing 2 := ⟨zWs_in 916 (by decide +kernel) rfl, zWs_in 129 (by decide +kernel) rfl, rfl, by decide, by decide, by decide +kernel⟩
theorem vX6_footing : zVm MX6_footing := ⟨zWs_in 914 (by decide +kernel) rfl, zWs_in 915 (by decide +kernel) rfl⟩
abbrev MX6_throwFault : zM := (RX6, cX6_throwFault, 4, yX6_throwFault, (some FieldType.int))
theorem kX6_throwFault : zCm MX6_throwFault 3 := ⟨zWs_in 926 (by decide +kernel) rfl, zWs_in 129 (by decide +kernel) rfl, rfl, by decide, by decide, by decide +kernel⟩
theorem vX6_throwFault : zVm MX6_throwFault := ⟨zWs_in 924 (by decide +kernel) rfl, zWs_in 925 (by decide +kernel) rfl⟩
abbrev MX6_bestThrow : zM := (RX6, cX6_bestThrow, 3, yX6_bestThrow, (some FieldType.int))
theorem kX6_bestThrow : zCm MX6_bestThrow 1 := ⟨zWs_in 938 (by decide +kernel) rfl, zWs_in 129 (by decide +kernel) rfl, rfl, by decide, by decide, by decide +kernel⟩
theorem vX6_bestThrow : zVm MX6_bestThrow := ⟨zWs_in 936 (by decide +kernel) rfl, zWs_in 937 (by decide +kernel) rfl⟩
abbrev MX6_hopFault : zM := (RX6, cX6_hopFault, 2, yX6_hopFault, (some FieldType.int))
theorem kX6_hopFault : zCm MX6_hopFault 1 := ⟨zWs_in 946 (by decide +kernel) rfl, zWs_in 129 (by decide +kernel) rfl, rfl, by decide, by decide, by decide +kernel⟩
theorem vX6_hopFault : zVm MX6_hopFault := ⟨zWs_in 944 (by decide +kernel) rfl, zWs_in 945 (by decide +kernel) rfl⟩
abbrev MX6_cost : zM := (RX6, cX6_cost, 4, yX6_cost, (some FieldType.int))
theorem kX6_cost : zCm MX6_cost 2 := ⟨zWs_in 953 (by decide +kernel) rfl, zWs_in 129 (by decide +kernel) rfl, rfl, by decide, by decide, by decide +kernel⟩
theorem vX6_cost : zVm MX6_cost := ⟨zWs_in 951 (by decide +kernel) rfl, zWs_in 952 (by decide +kernel) rfl⟩
abbrev MX6_place : zM := (RX6, cX6_place, 6, yX6_place, (some FieldType.int))
theorem kX6_place : zCm MX6_place 3 := ⟨zWs_in 964 (by decide +kernel) rfl, zWs_in 129 (by decide +kernel) rfl, rfl, by decide, by decide, by decide +kernel⟩
theorem vX6_place : zVm MX6_place := ⟨zWs_in 962 (by decide +kernel) rfl, zWs_in 963 (by decide +kernel) rfl⟩
abbrev MX6_leastReach : zM := (RX6, cX6_leastReach, 4, yX6_leastReach, (some FieldType.int))
theorem kX6_leastReach : zCm MX6_leastReach 1 := ⟨zWs_in 972 (by decide +kernel) rfl, zWs_in 129 (by decide +kernel) rfl, rfl, by decide, by decide, by decide +kernel⟩
theorem vX6_leastReach : zVm MX6_leastReach := ⟨zWs_in 970 (by decide +kernel) rfl, zWs_in 971 (by decide +kernel) rfl⟩
abbrev MX6_playable : zM := (RX6, cX6_playable, 2, yX6_playable, (some FieldType.int))
theorem kX6_playable : zCm MX6_playable 1 := ⟨zWs_in 983 (by decide +kernel) rfl, zWs_in 129 (by decide +kernel) rfl, rfl, by decide, by decide, by decide +kernel⟩
theorem vX6_playable : zVm MX6_playable := ⟨zWs_in 981 (by decide +kernel) rfl, zWs_in 982 (by decide +kernel) rfl⟩
abbrev MX6_bestClaim : zM := (RX6, cX6_bestClaim, 6, yX6_bestClaim, (some FieldType.int))
theorem kX6_bestClaim : zCm MX6_bestClaim 1 := ⟨zWs_in 996 (by decide +kernel) rfl, zWs_in 129 (by decide +kernel) rfl, rfl, by decide, by decide, by decide +kernel⟩
theorem vX6_bestClaim : zVm MX6_bestClaim := ⟨zWs_in 994 (by decide +kernel) rfl, zWs_in 995 (by decide +kernel) rfl⟩
abbrev MX6_turnsToCrown : zM := (RX6, cX6_turnsToCrown, 2, yX6_turnsToCrown, (some FieldType.int))
theorem kX6_turnsToCrown : zCm MX6_turnsToCrown 1 := ⟨zWs_in 1008 (by decide +kernel) rfl, zWs_in 129 (by decide +kernel) rfl, rfl, by decide, by decide, by decide +kernel⟩
theorem vX6_turnsToCrown : zVm MX6_turnsToCrown := ⟨zWs_in 1006 (by decide +kernel) rfl, zWs_in 1007 (by decide +kernel) rfl⟩
abbrev MX6_firstThrough : zM := (RX6, cX6_firstThrough, 1, yX6_firstThrough, (some FieldType.int))
theorem kX6_firstThrough : zCm MX6_firstThrough 0 := ⟨zWs_in 588 (by decide +kernel) rfl, zWs_in 129 (by decide +kernel) rfl, rfl, by decide, by decide, by decide +kernel⟩
theorem vX6_firstThrough : zVm MX6_firstThrough := ⟨zWs_in 586 (by decide +kernel) rfl, zWs_in 587 (by decide +kernel) rfl⟩
abbrev MX6_meanCost : zM := (RX6, cX6_meanCost, 4, yX6_meanCost, (some FieldType.double))
theorem kX6_meanCost : zCm MX6_meanCost 0 := ⟨zWs_in 697 (by decide +kernel) rfl, zWs_in 129 (by decide +kernel) rfl, rfl, by decide, by decide, by decide +kernel⟩
theorem vX6_meanCost : zVm MX6_meanCost := ⟨zWs_in 695 (by decide +kernel) rfl, zWs_in 696 (by decide +kernel) rfl⟩
abbrev MX6_success : zM := (RX6, cX6_success, 1, yX6_success, (some FieldType.float))
theorem kX6_success : zCm MX6_success 0 := ⟨zWs_in 702 (by decide +kernel) rfl, zWs_in 129 (by decide +kernel) rfl, rfl, by decide, by decide, by decide +kernel⟩
theorem vX6_success : zVm MX6_success := ⟨zWs_in 700 (by decide +kernel) rfl, zWs_in 701 (by decide +kernel) rfl⟩
abbrev MX6_turn : zM := (RX6, cX6_turn, 3, yX6_turn, (some FieldType.int))
theorem kX6_turn : zCm MX6_turn 2 := ⟨zWs_in 1015 (by decide +kernel) rfl, zWs_in 129 (by decide +kernel) rfl, rfl, by decide, by decide, by decide +kernel⟩
theorem vX6_turn : zVm MX6_turn := ⟨zWs_in 1013 (by decide +kernel) rfl, zWs_in 1014 (by decide +kernel) rfl⟩
abbrev MX6_pass : zM := (RX6, cX6_pass, 1, yX6_pass, (some FieldType.int))
theorem kX6_pass : zCm MX6_pass 0 := ⟨zWs_in 706 (by decide +kernel) rfl, zWs_in 129 (by decide +kernel) rfl, rfl, by decide, by decide, by decide +kernel⟩
theorem vX6_pass : zVm MX6_pass := ⟨zWs_in 704 (by decide +kernel) rfl, zWs_in 705 (by decide +kernel) rfl⟩
abbrev MX6_claim : zM := (RX6, cX6_claim, 4, yX6_claim, (some FieldType.int))
theorem kX6_claim : zCm MX6_claim 2 := ⟨zWs_in 1023 (by decide +kernel) rfl, zWs_in 129 (by decide +kernel) rfl, rfl, by decide, by decide, by decide +kernel⟩
theorem vX6_claim : zVm MX6_claim := ⟨zWs_in 1021 (by decide +kernel) rfl, zWs_in 1022 (by decide +kernel) rfl⟩
abbrev MX6_release : zM := (RX6, cX6_release, 3, yX6_release, (some FieldType.int))
theorem kX6_release : zCm MX6_release 1 := ⟨zWs_in 1033 (by decide +kernel) rfl, zWs_in 129 (by decide +kernel) rfl, rfl, by decide, by decide, by decide +kernel⟩
theorem vX6_release : zVm MX6_release := ⟨zWs_in 1031 (by decide +kernel) rfl, zWs_in 1032 (by decide +kernel) rfl⟩
abbrev MX6_setDrift : zM := (RX6, cX6_setDrift, 3, yX6_setDrift, (some FieldType.int))
theorem kX6_setDrift : zCm MX6_setDrift 1 := ⟨zWs_in 1040 (by decide +kernel) rfl, zWs_in 129 (by decide +kernel) rfl, rfl, by decide, by decide, by decide +kernel⟩
theorem vX6_setDrift : zVm MX6_setDrift := ⟨zWs_in 1038 (by decide +kernel) rfl, zWs_in 1039 (by decide +kernel) rfl⟩
abbrev MX6_setPlayer : zM := (RX6, cX6_setPlayer, 5, yX6_setPlayer, (some FieldType.int))
theorem kX6_setPlayer : zCm MX6_setPlayer 3 := ⟨zWs_in 1048 (by decide +kernel) rfl, zWs_in 129 (by decide +kernel) rfl, rfl, by decide, by decide, by decide +kernel⟩
theorem vX6_setPlayer : zVm MX6_setPlayer := ⟨zWs_in 1046 (by decide +kernel) rfl, zWs_in 1047 (by decide +kernel) rfl⟩
abbrev MX6_mark : zM := (RX6, cX6_mark, 4, yX6_mark, (some FieldType.int))
theorem kX6_mark : zCm MX6_mark 2 := ⟨zWs_in 1059 (by decide +kernel) rfl, zWs_in 129 (by decide +kernel) rfl, rfl, by decide, by decide, by decide +kernel⟩
theorem vX6_mark : zVm MX6_mark := ⟨zWs_in 1057 (by decide +kernel) rfl, zWs_in 1058 (by decide +kernel) rfl⟩
abbrev MX6_undo : zM := (RX6, cX6_undo, 1, yX6_undo, (some FieldType.int))
theorem kX6_undo : zCm MX6_undo 0 := ⟨zWs_in 1066 (by decide +kernel) rfl, zWs_in 129 (by decide +kernel) rfl, rfl, by decide, by decide, by decide +kernel⟩
theorem vX6_undo : zVm MX6_undo := ⟨zWs_in 1064 (by decide +kernel) rfl, zWs_in 1065 (by decide +kernel) rfl⟩
abbrev MX6_save : zM := (RX6, cX6_save, 2, yX6_save, none)
theorem kX6_save : zCm MX6_save 1 := ⟨zWs_in 1078 (by decide +kernel) rfl, zWs_in 129 (by decide +kernel) rfl, rfl, by decide, by decide, by decide +kernel⟩
theorem vX6_save : zVm MX6_save := ⟨zWs_in 1076 (by decide +kernel) rfl, zWs_in 1077 (by decide +kernel) rfl⟩
abbrev MX6_restore : zM := (RX6, cX6_restore, 2, yX6_restore, (some FieldType.int))
theorem kX6_restore : zCm MX6_restore 1 := ⟨zWs_in 1089 (by decide +kernel) rfl, zWs_in 129 (by decide +kernel) rfl, rfl, by decide, by decide, by decide +kernel⟩
theorem vX6_restore : zVm MX6_restore := ⟨zWs_in 1087 (by decide +kernel) rfl, zWs_in 1088 (by decide +kernel) rfl⟩
abbrev MX6_writeCourt : zM := (RX6, cX6_writeCourt, 1, yX6_writeCourt, (some FieldType.int))
theorem kX6_writeCourt : zCm MX6_writeCourt 0 := ⟨zWs_in 711 (by decide +kernel) rfl, zWs_in 129 (by decide +kernel) rfl, rfl, by decide, by decide, by decide +kernel⟩
theorem vX6_writeCourt : zVm MX6_writeCourt := ⟨zWs_in 709 (by decide +kernel) rfl, zWs_in 710 (by decide +kernel) rfl⟩
abbrev MX6_writtenByte : zM := (RX6, cX6_writtenByte, 2, yX6_writtenByte, (some FieldType.int))
theorem kX6_writtenByte : zCm MX6_writtenByte 1 := ⟨zWs_in 1097 (by decide +kernel) rfl, zWs_in 129 (by decide +kernel) rfl, rfl, by decide, by decide, by decide +kernel⟩
theorem vX6_writtenByte : zVm MX6_writtenByte := ⟨zWs_in 1095 (by decide +kernel) rfl, zWs_in 1096 (by decide +kernel) rfl⟩
abbrev MX6_checkPlayer : zM := (RX6, cX6_checkPlayer, 2, yX6_checkPlayer, none)
theorem kX6_checkPlayer : zCm MX6_checkPlayer 1 := ⟨zWs_in 859 (by decide +kernel) rfl, zWs_in 129 (by decide +kernel) rfl, rfl, by decide, by decide, by decide +kernel⟩
theorem vX6_checkPlayer : zVm MX6_checkPlayer := ⟨zWs_in 858 (by decide +kernel) rfl, zWs_in 57 (by decide +kernel) rfl⟩
abbrev MX6_checkSquare : zM := (RX6, cX6_checkSquare, 2, yX6_checkSquare, none)
theorem kX6_checkSquare : zCm MX6_checkSquare 1 := ⟨zWs_in 889 (by decide +kernel) rfl, zWs_in 129 (by decide +kernel) rfl, rfl, by decide, by decide, by decide +kernel⟩
theorem vX6_checkSquare : zVm MX6_checkSquare := ⟨zWs_in 888 (by decide +kernel) rfl, zWs_in 58 (by decide +kernel) rfl⟩
abbrev MX6_checkRow : zM := (RX6, cX6_checkRow, 2, yX6_checkRow, none)
theorem kX6_checkRow : zCm MX6_checkRow 1 := ⟨zWs_in 907 (by decide +kernel) rfl, zWs_in 129 (by decide +kernel) rfl, rfl, by decide, by decide, by decide +kernel⟩
theorem vX6_checkRow : zVm MX6_checkRow := ⟨zWs_in 906 (by decide +kernel) rfl, zWs_in 60 (by decide +kernel) rfl⟩
abbrev MX6_checkSlot : zM := (RX6, cX6_checkSlot, 1, yX6_checkSlot, none)
theorem kX6_checkSlot : zCm MX6_checkSlot 1 := ⟨zWs_in 1081 (by decide +kernel) rfl, zWs_in 129 (by decide +kernel) rfl, rfl, by decide, by decide, by decide +kernel⟩
theorem sX6_checkSlot : Cond.static MX6_checkSlot.2.2.2.1 ∈ zWs := zWs_in 1080 (by decide +kernel) rfl
abbrev MX6_checkThrow : zM := (RX6, cX6_checkThrow, 2, yX6_checkThrow, none)
theorem kX6_checkThrow : zCm MX6_checkThrow 2 := ⟨zWs_in 929 (by decide +kernel) rfl, zWs_in 129 (by decide +kernel) rfl, rfl, by decide, by decide, by decide +kernel⟩
theorem sX6_checkThrow : Cond.static MX6_checkThrow.2.2.2.1 ∈ zWs := zWs_in 928 (by decide +kernel) rfl
abbrev MX6_lowestOf : zM := (RX6, cX6_lowestOf, 1, yX6_lowestOf, (some FieldType.int))
theorem kX6_lowestOf : zCm MX6_lowestOf 1 := ⟨zWs_in 538 (by decide +kernel) rfl, zWs_in 129 (by decide +kernel) rfl, rfl, by decide, by decide, by decide +kernel⟩
theorem sX6_lowestOf : Cond.static MX6_lowestOf.2.2.2.1 ∈ zWs := zWs_in 537 (by decide +kernel) rfl
abbrev MX6_highestOf : zM := (RX6, cX6_highestOf, 2, yX6_highestOf, (some FieldType.int))
theorem kX6_highestOf : zCm MX6_highestOf 2 := ⟨zWs_in 541 (by decide +kernel) rfl, zWs_in 129 (by decide +kernel) rfl, rfl, by decide, by decide, by decide +kernel⟩
theorem sX6_highestOf : Cond.static MX6_highestOf.2.2.2.1 ∈ zWs := zWs_in 540 (by decide +kernel) rfl
abbrev MX7_init : zM := (RX7, cX7_init, 2, yX7_init, none)
theorem kX7_init : zCm MX7_init 0 := ⟨zWs_in 1103 (by decide +kernel) rfl, zWs_in 136 (by decide +kernel) rfl, rfl, by decide, by decide, by decide +kernel⟩
abbrev MX7_begins : zM := (RX7, cX7_begins, 2, yX7_begins, none)
theorem kX7_begins : zCm MX7_begins 0 := ⟨zWs_in 1108 (by decide +kernel) rfl, zWs_in 136 (by decide +kernel) rfl, rfl, by decide, by decide, by decide +kernel⟩
theorem vX7_begins : zVm MX7_begins := ⟨zWs_in 1107 (by decide +kernel) rfl, zWs_in 66 (by decide +kernel) rfl⟩
abbrev MX7_beginsPlayer : zM := (RX7, cX7_beginsPlayer, 3, yX7_beginsPlayer, none)
theorem kX7_beginsPlayer : zCm MX7_beginsPlayer 1 := ⟨zWs_in 1112 (by decide +kernel) rfl, zWs_in 136 (by decide +kernel) rfl, rfl, by decide, by decide, by decide +kernel⟩
theorem vX7_beginsPlayer : zVm MX7_beginsPlayer := ⟨zWs_in 1111 (by decide +kernel) rfl, zWs_in 67 (by decide +kernel) rfl⟩
abbrev MX7_thrown : zM := (RX7, cX7_thrown, 1, yX7_thrown, (some FieldType.int))
theorem kX7_thrown : zCm MX7_thrown 0 := ⟨zWs_in 1202 (by decide +kernel) rfl, zWs_in 136 (by decide +kernel) rfl, rfl, by decide, by decide, by decide +kernel⟩
theorem vX7_thrown : zVm MX7_thrown := ⟨zWs_in 1200 (by decide +kernel) rfl, zWs_in 1201 (by decide +kernel) rfl⟩
abbrev MX7_isIn : zM := (RX7, cX7_isIn, 3, yX7_isIn, (some FieldType.boolean))
theorem kX7_isIn : zCm MX7_isIn 3 := ⟨zWs_in 1216 (by decide +kernel) rfl, zWs_in 136 (by decide +kernel) rfl, rfl, by decide, by decide, by decide +kernel⟩
theorem sX7_isIn : Cond.static MX7_isIn.2.2.2.1 ∈ zWs := zWs_in 1215 (by decide +kernel) rfl
abbrev MX7_copies : zM := (RX7, cX7_copies, 5, yX7_copies, none)
theorem kX7_copies : zCm MX7_copies 4 := ⟨zWs_in 1209 (by decide +kernel) rfl, zWs_in 136 (by decide +kernel) rfl, rfl, by decide, by decide, by decide +kernel⟩
theorem sX7_copies : Cond.static MX7_copies.2.2.2.1 ∈ zWs := zWs_in 1208 (by decide +kernel) rfl
abbrev MX7_keeps : zM := (RX7, cX7_keeps, 3, yX7_keeps, none)
theorem kX7_keeps : zCm MX7_keeps 1 := ⟨zWs_in 1224 (by decide +kernel) rfl, zWs_in 136 (by decide +kernel) rfl, rfl, by decide, by decide, by decide +kernel⟩
theorem vX7_keeps : zVm MX7_keeps := ⟨zWs_in 1223 (by decide +kernel) rfl, zWs_in 69 (by decide +kernel) rfl⟩
abbrev MX7_undo : zM := (RX7, cX7_undo, 1, yX7_undo, (some FieldType.int))
theorem kX7_undo : zCm MX7_undo 0 := ⟨zWs_in 1206 (by decide +kernel) rfl, zWs_in 136 (by decide +kernel) rfl, rfl, by decide, by decide, by decide +kernel⟩
theorem vX7_undo : zVm MX7_undo := ⟨zWs_in 1204 (by decide +kernel) rfl, zWs_in 1205 (by decide +kernel) rfl⟩
abbrev MX7_save : zM := (RX7, cX7_save, 2, yX7_save, none)
theorem kX7_save : zCm MX7_save 1 := ⟨zWs_in 1213 (by decide +kernel) rfl, zWs_in 136 (by decide +kernel) rfl, rfl, by decide, by decide, by decide +kernel⟩
theorem vX7_save : zVm MX7_save := ⟨zWs_in 1211 (by decide +kernel) rfl, zWs_in 1212 (by decide +kernel) rfl⟩
abbrev MX7_restore : zM := (RX7, cX7_restore, 2, yX7_restore, (some FieldType.int))
theorem kX7_restore : zCm MX7_restore 1 := ⟨zWs_in 1220 (by decide +kernel) rfl, zWs_in 136 (by decide +kernel) rfl, rfl, by decide, by decide, by decide +kernel⟩
theorem vX7_restore : zVm MX7_restore := ⟨zWs_in 1218 (by decide +kernel) rfl, zWs_in 1219 (by decide +kernel) rfl⟩
abbrev MX7_byteOf : zM := (RX7, cX7_byteOf, 7, yX7_byteOf, (some FieldType.int))
theorem kX7_byteOf : zCm MX7_byteOf 6 := ⟨zWs_in 1231 (by decide +kernel) rfl, zWs_in 136 (by decide +kernel) rfl, rfl, by decide, by decide, by decide +kernel⟩
theorem sX7_byteOf : Cond.static MX7_byteOf.2.2.2.1 ∈ zWs := zWs_in 1230 (by decide +kernel) rfl
abbrev MX7_append : zM := (RX7, cX7_append, 9, yX7_append, (some FieldType.int))
theorem kX7_append : zCm MX7_append 5 := ⟨zWs_in 1228 (by decide +kernel) rfl, zWs_in 136 (by decide +kernel) rfl, rfl, by decide, by decide, by decide +kernel⟩
theorem vX7_append : zVm MX7_append := ⟨zWs_in 1226 (by decide +kernel) rfl, zWs_in 1227 (by decide +kernel) rfl⟩
abbrev MX7_see : zM := (RX7, cX7_see, 2, yX7_see, (some FieldType.int))
theorem kX7_see : zCm MX7_see 1 := ⟨zWs_in 1243 (by decide +kernel) rfl, zWs_in 136 (by decide +kernel) rfl, rfl, by decide, by decide, by decide +kernel⟩
theorem vX7_see : zVm MX7_see := ⟨zWs_in 1242 (by decide +kernel) rfl, zWs_in 71 (by decide +kernel) rfl⟩
abbrev MX7_isLetter : zM := (RX7, cX7_isLetter, 2, yX7_isLetter, (some FieldType.boolean))
theorem kX7_isLetter : zCm MX7_isLetter 1 := ⟨zWs_in 1247 (by decide +kernel) rfl, zWs_in 136 (by decide +kernel) rfl, rfl, by decide, by decide, by decide +kernel⟩
theorem vX7_isLetter : zVm MX7_isLetter := ⟨zWs_in 1246 (by decide +kernel) rfl, zWs_in 72 (by decide +kernel) rfl⟩
abbrev MX7_isDigit : zM := (RX7, cX7_isDigit, 2, yX7_isDigit, (some FieldType.boolean))
theorem kX7_isDigit : zCm MX7_isDigit 1 := ⟨zWs_in 1251 (by decide +kernel) rfl, zWs_in 136 (by decide +kernel) rfl, rfl, by decide, by decide, by decide +kernel⟩
theorem vX7_isDigit : zVm MX7_isDigit := ⟨zWs_in 1250 (by decide +kernel) rfl, zWs_in 73 (by decide +kernel) rfl⟩
abbrev MX7_next : zM := (RX7, cX7_next, 1, yX7_next, none)
theorem kX7_next : zCm MX7_next 0 := ⟨zWs_in 1239 (by decide +kernel) rfl, zWs_in 136 (by decide +kernel) rfl, rfl, by decide, by decide, by decide +kernel⟩
theorem vX7_next : zVm MX7_next := ⟨zWs_in 1238 (by decide +kernel) rfl, zWs_in 70 (by decide +kernel) rfl⟩
abbrev MX7_isWord : zM := (RX7, cX7_isWord, 3, yX7_isWord, (some FieldType.boolean))
theorem kX7_isWord : zCm MX7_isWord 1 := ⟨zWs_in 1257 (by decide +kernel) rfl, zWs_in 136 (by decide +kernel) rfl, rfl, by decide, by decide, by decide +kernel⟩
theorem vX7_isWord : zVm MX7_isWord := ⟨zWs_in 1256 (by decide +kernel) rfl, zWs_in 74 (by decide +kernel) rfl⟩
abbrev MX7_isSign : zM := (RX7, cX7_isSign, 2, yX7_isSign, (some FieldType.boolean))
theorem kX7_isSign : zCm MX7_isSign 1 := ⟨zWs_in 1281 (by decide +kernel) rfl, zWs_in 136 (by decide +kernel) rfl, rfl, by decide, by decide, by decide +kernel⟩
theorem vX7_isSign : zVm MX7_isSign := ⟨zWs_in 1280 (by decide +kernel) rfl, zWs_in 79 (by decide +kernel) rfl⟩
abbrev MX7_fails : zM := (RX7, cX7_fails, 2, yX7_fails, none)
theorem kX7_fails : zCm MX7_fails 1 := ⟨zWs_in 1267 (by decide +kernel) rfl, zWs_in 136 (by decide +kernel) rfl, rfl, by decide, by decide, by decide +kernel⟩
theorem vX7_fails : zVm MX7_fails := ⟨zWs_in 1266 (by decide +kernel) rfl, zWs_in 76 (by decide +kernel) rfl⟩
abbrev MX7_must : zM := (RX7, cX7_must, 2, yX7_must, none)
theorem kX7_must : zCm MX7_must 1 := ⟨zWs_in 1263 (by decide +kernel) rfl, zWs_in 136 (by decide +kernel) rfl, rfl, by decide, by decide, by decide +kernel⟩
theorem vX7_must : zVm MX7_must := ⟨zWs_in 1262 (by decide +kernel) rfl, zWs_in 75 (by decide +kernel) rfl⟩
abbrev MX7_stands : zM := (RX7, cX7_stands, 3, yX7_stands, (some FieldType.int))
theorem kX7_stands : zCm MX7_stands 2 := ⟨zWs_in 1294 (by decide +kernel) rfl, zWs_in 136 (by decide +kernel) rfl, rfl, by decide, by decide, by decide +kernel⟩
theorem vX7_stands : zVm MX7_stands := ⟨zWs_in 1293 (by decide +kernel) rfl, zWs_in 82 (by decide +kernel) rfl⟩
abbrev MX7_takes : zM := (RX7, cX7_takes, 4, yX7_takes, (some FieldType.int))
theorem kX7_takes : zCm MX7_takes 2 := ⟨zWs_in 1290 (by decide +kernel) rfl, zWs_in 136 (by decide +kernel) rfl, rfl, by decide, by decide, by decide +kernel⟩
theorem vX7_takes : zVm MX7_takes := ⟨zWs_in 1289 (by decide +kernel) rfl, zWs_in 81 (by decide +kernel) rfl⟩
abbrev MX7_isTaken : zM := (RX7, cX7_isTaken, 3, yX7_isTaken, (some FieldType.boolean))
theorem kX7_isTaken : zCm MX7_isTaken 1 := ⟨zWs_in 1286 (by decide +kernel) rfl, zWs_in 136 (by decide +kernel) rfl, rfl, by decide, by decide, by decide +kernel⟩
theorem vX7_isTaken : zVm MX7_isTaken := ⟨zWs_in 1285 (by decide +kernel) rfl, zWs_in 80 (by decide +kernel) rfl⟩
abbrev MX7_isRow : zM := (RX7, cX7_isRow, 1, yX7_isRow, (some FieldType.boolean))
theorem kX7_isRow : zCm MX7_isRow 0 := ⟨zWs_in 1275 (by decide +kernel) rfl, zWs_in 136 (by decide +kernel) rfl, rfl, by decide, by decide, by decide +kernel⟩
theorem vX7_isRow : zVm MX7_isRow := ⟨zWs_in 1274 (by decide +kernel) rfl, zWs_in 78 (by decide +kernel) rfl⟩
abbrev MX7_readsRow : zM := (RX7, cX7_readsRow, 2, yX7_readsRow, none)
theorem kX7_readsRow : zCm MX7_readsRow 0 := ⟨zWs_in 1271 (by decide +kernel) rfl, zWs_in 136 (by decide +kernel) rfl, rfl, by decide, by decide, by decide +kernel⟩
theorem vX7_readsRow : zVm MX7_readsRow := ⟨zWs_in 1270 (by decide +kernel) rfl, zWs_in 77 (by decide +kernel) rfl⟩
abbrev MX7_isName : zM := (RX7, cX7_isName, 3, yX7_isName, (some FieldType.boolean))
theorem kX7_isName : zCm MX7_isName 1 := ⟨zWs_in 1303 (by decide +kernel) rfl, zWs_in 136 (by decide +kernel) rfl, rfl, by decide, by decide, by decide +kernel⟩
theorem vX7_isName : zVm MX7_isName := ⟨zWs_in 1302 (by decide +kernel) rfl, zWs_in 84 (by decide +kernel) rfl⟩
abbrev MX7_readsPlayer : zM := (RX7, cX7_readsPlayer, 3, yX7_readsPlayer, none)
theorem kX7_readsPlayer : zCm MX7_readsPlayer 0 := ⟨zWs_in 1298 (by decide +kernel) rfl, zWs_in 136 (by decide +kernel) rfl, rfl, by decide, by decide, by decide +kernel⟩
theorem vX7_readsPlayer : zVm MX7_readsPlayer := ⟨zWs_in 1297 (by decide +kernel) rfl, zWs_in 83 (by decide +kernel) rfl⟩
abbrev MX7_readsOwned : zM := (RX7, cX7_readsOwned, 3, yX7_readsOwned, none)
theorem kX7_readsOwned : zCm MX7_readsOwned 1 := ⟨zWs_in 1316 (by decide +kernel) rfl, zWs_in 136 (by decide +kernel) rfl, rfl, by decide, by decide, by decide +kernel⟩
theorem vX7_readsOwned : zVm MX7_readsOwned := ⟨zWs_in 1315 (by decide +kernel) rfl, zWs_in 86 (by decide +kernel) rfl⟩
abbrev MX7_load : zM := (RX7, cX7_load, 3, yX7_load, (some FieldType.int))
theorem kX7_load : zCm MX7_load 0 := ⟨zWs_in 1235 (by decide +kernel) rfl, zWs_in 136 (by decide +kernel) rfl, rfl, by decide, by decide, by decide +kernel⟩
theorem vX7_load : zVm MX7_load := ⟨zWs_in 1233 (by decide +kernel) rfl, zWs_in 1234 (by decide +kernel) rfl⟩
abbrev MX7_errorPosition : zM := (RX7, cX7_errorPosition, 1, yX7_errorPosition, (some FieldType.int))
theorem kX7_errorPosition : zCm MX7_errorPosition 0 := ⟨zWs_in 1353 (by decide +kernel) rfl, zWs_in 136 (by decide +kernel) rfl, rfl, by decide, by decide, by decide +kernel⟩
theorem vX7_errorPosition : zVm MX7_errorPosition := ⟨zWs_in 1351 (by decide +kernel) rfl, zWs_in 1352 (by decide +kernel) rfl⟩
abbrev MX7_squares : zM := (RX7, cX7_squares, 1, yX7_squares, (some FieldType.int))
theorem kX7_squares : zCm MX7_squares 0 := ⟨zWs_in 1345 (by decide +kernel) rfl, zWs_in 136 (by decide +kernel) rfl, rfl, by decide, by decide, by decide +kernel⟩
theorem vX7_squares : zVm MX7_squares := ⟨zWs_in 1344 (by decide +kernel) rfl, zWs_in 93 (by decide +kernel) rfl⟩
abbrev MX7_players : zM := (RX7, cX7_players, 1, yX7_players, (some FieldType.int))
theorem kX7_players : zCm MX7_players 0 := ⟨zWs_in 1329 (by decide +kernel) rfl, zWs_in 136 (by decide +kernel) rfl, rfl, by decide, by decide, by decide +kernel⟩
theorem vX7_players : zVm MX7_players := ⟨zWs_in 1328 (by decide +kernel) rfl, zWs_in 89 (by decide +kernel) rfl⟩
abbrev MX7_of : zM := (RX7, cX7_of, 3, yX7_of, (some FieldType.int))
theorem kX7_of : zCm MX7_of 2 := ⟨zWs_in 1307 (by decide +kernel) rfl, zWs_in 136 (by decide +kernel) rfl, rfl, by decide, by decide, by decide +kernel⟩
theorem vX7_of : zVm MX7_of := ⟨zWs_in 1306 (by decide +kernel) rfl, zWs_in 85 (by decide +kernel) rfl⟩
abbrev MX7_sets : zM := (RX7, cX7_sets, 4, yX7_sets, none)
theorem kX7_sets : zCm MX7_sets 3 := ⟨zWs_in 1116 (by decide +kernel) rfl, zWs_in 136 (by decide +kernel) rfl, rfl, by decide, by decide, by decide +kernel⟩
theorem vX7_sets : zVm MX7_sets := ⟨zWs_in 1115 (by decide +kernel) rfl, zWs_in 68 (by decide +kernel) rfl⟩
abbrev MX7_ownerOf : zM := (RX7, cX7_ownerOf, 2, yX7_ownerOf, (some FieldType.int))
theorem kX7_ownerOf : zCm MX7_ownerOf 1 := ⟨zWs_in 1320 (by decide +kernel) rfl, zWs_in 136 (by decide +kernel) rfl, rfl, by decide, by decide, by decide +kernel⟩
theorem vX7_ownerOf : zVm MX7_ownerOf := ⟨zWs_in 1319 (by decide +kernel) rfl, zWs_in 87 (by decide +kernel) rfl⟩
abbrev MX7_owns : zM := (RX7, cX7_owns, 3, yX7_owns, none)
theorem kX7_owns : zCm MX7_owns 2 := ⟨zWs_in 1324 (by decide +kernel) rfl, zWs_in 136 (by decide +kernel) rfl, rfl, by decide, by decide, by decide +kernel⟩
theorem vX7_owns : zVm MX7_owns := ⟨zWs_in 1323 (by decide +kernel) rfl, zWs_in 88 (by decide +kernel) rfl⟩
abbrev MX7_isPlayer : zM := (RX7, cX7_isPlayer, 2, yX7_isPlayer, (some FieldType.boolean))
theorem kX7_isPlayer : zCm MX7_isPlayer 1 := ⟨zWs_in 1384 (by decide +kernel) rfl, zWs_in 136 (by decide +kernel) rfl, rfl, by decide, by decide, by decide +kernel⟩
theorem vX7_isPlayer : zVm MX7_isPlayer := ⟨zWs_in 1383 (by decide +kernel) rfl, zWs_in 99 (by decide +kernel) rfl⟩
abbrev MX7_isSquare : zM := (RX7, cX7_isSquare, 2, yX7_isSquare, (some FieldType.boolean))
theorem kX7_isSquare : zCm MX7_isSquare 1 := ⟨zWs_in 1392 (by decide +kernel) rfl, zWs_in 136 (by decide +kernel) rfl, rfl, by decide, by decide, by decide +kernel⟩
theorem vX7_isSquare : zVm MX7_isSquare := ⟨zWs_in 1391 (by decide +kernel) rfl, zWs_in 100 (by decide +kernel) rfl⟩
abbrev MX7_firstOf : zM := (RX7, cX7_firstOf, 4, yX7_firstOf, (some FieldType.int))
theorem kX7_firstOf : zCm MX7_firstOf 1 := ⟨zWs_in 1400 (by decide +kernel) rfl, zWs_in 136 (by decide +kernel) rfl, rfl, by decide, by decide, by decide +kernel⟩
theorem vX7_firstOf : zVm MX7_firstOf := ⟨zWs_in 1399 (by decide +kernel) rfl, zWs_in 102 (by decide +kernel) rfl⟩
abbrev MX7_rowOf : zM := (RX7, cX7_rowOf, 3, yX7_rowOf, (some FieldType.int))
theorem kX7_rowOf : zCm MX7_rowOf 1 := ⟨zWs_in 1396 (by decide +kernel) rfl, zWs_in 136 (by decide +kernel) rfl, rfl, by decide, by decide, by decide +kernel⟩
theorem vX7_rowOf : zVm MX7_rowOf := ⟨zWs_in 1395 (by decide +kernel) rfl, zWs_in 101 (by decide +kernel) rfl⟩
abbrev MX7_isForbidden : zM := (RX7, cX7_isForbidden, 3, yX7_isForbidden, (some FieldType.boolean))
theorem kX7_isForbidden : zCm MX7_isForbidden 2 := ⟨zWs_in 1349 (by decide +kernel) rfl, zWs_in 136 (by decide +kernel) rfl, rfl, by decide, by decide, by decide +kernel⟩
theorem vX7_isForbidden : zVm MX7_isForbidden := ⟨zWs_in 1348 (by decide +kernel) rfl, zWs_in 94 (by decide +kernel) rfl⟩
abbrev MX7_openFrom : zM := (RX7, cX7_openFrom, 4, yX7_openFrom, (some FieldType.int))
theorem kX7_openFrom : zCm MX7_openFrom 2 := ⟨zWs_in 1341 (by decide +kernel) rfl, zWs_in 136 (by decide +kernel) rfl, rfl, by decide, by decide, by decide +kernel⟩
theorem vX7_openFrom : zVm MX7_openFrom := ⟨zWs_in 1340 (by decide +kernel) rfl, zWs_in 92 (by decide +kernel) rfl⟩
abbrev MX7_openRound : zM := (RX7, cX7_openRound, 4, yX7_openRound, (some FieldType.int))
theorem kX7_openRound : zCm MX7_openRound 2 := ⟨zWs_in 1337 (by decide +kernel) rfl, zWs_in 136 (by decide +kernel) rfl, rfl, by decide, by decide, by decide +kernel⟩
theorem vX7_openRound : zVm MX7_openRound := ⟨zWs_in 1336 (by decide +kernel) rfl, zWs_in 91 (by decide +kernel) rfl⟩
abbrev MX7_putsRight : zM := (RX7, cX7_putsRight, 2, yX7_putsRight, none)
theorem kX7_putsRight : zCm MX7_putsRight 1 := ⟨zWs_in 1333 (by decide +kernel) rfl, zWs_in 136 (by decide +kernel) rfl, rfl, by decide, by decide, by decide +kernel⟩
theorem vX7_putsRight : zVm MX7_putsRight := ⟨zWs_in 1332 (by decide +kernel) rfl, zWs_in 90 (by decide +kernel) rfl⟩
abbrev MX7_isMarked : zM := (RX7, cX7_isMarked, 4, yX7_isMarked, (some FieldType.boolean))
theorem kX7_isMarked : zCm MX7_isMarked 2 := ⟨zWs_in 1428 (by decide +kernel) rfl, zWs_in 136 (by decide +kernel) rfl, rfl, by decide, by decide, by decide +kernel⟩
theorem vX7_isMarked : zVm MX7_isMarked := ⟨zWs_in 1427 (by decide +kernel) rfl, zWs_in 107 (by decide +kernel) rfl⟩
abbrev MX7_isUsable : zM := (RX7, cX7_isUsable, 4, yX7_isUsable, (some FieldType.boolean))
theorem kX7_isUsable : zCm MX7_isUsable 3 := ⟨zWs_in 1424 (by decide +kernel) rfl, zWs_in 136 (by decide +kernel) rfl, rfl, by decide, by decide, by decide +kernel⟩
theorem vX7_isUsable : zVm MX7_isUsable := ⟨zWs_in 1423 (by decide +kernel) rfl, zWs_in 106 (by decide +kernel) rfl⟩
abbrev MX7_footingOf : zM := (RX7, cX7_footingOf, 8, yX7_footingOf, (some FieldType.int))
theorem kX7_footingOf : zCm MX7_footingOf 3 := ⟨zWs_in 1420 (by decide +kernel) rfl, zWs_in 136 (by decide +kernel) rfl, rfl, by decide, by decide, by decide +kernel⟩
theorem vX7_footingOf : zVm MX7_footingOf := ⟨zWs_in 1419 (by decide +kernel) rfl, zWs_in 105 (by decide +kernel) rfl⟩
abbrev MX7_last : zM := (RX7, cX7_last, 1, yX7_last, (some FieldType.int))
theorem kX7_last : zCm MX7_last 0 := ⟨zWs_in 1467 (by decide +kernel) rfl, zWs_in 136 (by decide +kernel) rfl, rfl, by decide, by decide, by decide +kernel⟩
theorem vX7_last : zVm MX7_last := ⟨zWs_in 1466 (by decide +kernel) rfl, zWs_in 113 (by decide +kernel) rfl⟩
abbrev MX7_rowAt : zM := (RX7, cX7_rowAt, 3, yX7_rowAt, (some FieldType.int))
theorem kX7_rowAt : zCm MX7_rowAt 2 := ⟨zWs_in 1471 (by decide +kernel) rfl, zWs_in 136 (by decide +kernel) rfl, rfl, by decide, by decide, by decide +kernel⟩
theorem vX7_rowAt : zVm MX7_rowAt := ⟨zWs_in 1470 (by decide +kernel) rfl, zWs_in 114 (by decide +kernel) rfl⟩
abbrev MX7_runAt : zM := (RX7, cX7_runAt, 3, yX7_runAt, (some FieldType.int))
theorem kX7_runAt : zCm MX7_runAt 2 := ⟨zWs_in 1484 (by decide +kernel) rfl, zWs_in 136 (by decide +kernel) rfl, rfl, by decide, by decide, by decide +kernel⟩
theorem vX7_runAt : zVm MX7_runAt := ⟨zWs_in 1483 (by decide +kernel) rfl, zWs_in 117 (by decide +kernel) rfl⟩
abbrev MX7_mayHop : zM := (RX7, cX7_mayHop, 5, yX7_mayHop, (some FieldType.boolean))
theorem kX7_mayHop : zCm MX7_mayHop 4 := ⟨zWs_in 1480 (by decide +kernel) rfl, zWs_in 136 (by decide +kernel) rfl, rfl, by decide, by decide, by decide +kernel⟩
theorem vX7_mayHop : zVm MX7_mayHop := ⟨zWs_in 1479 (by decide +kernel) rfl, zWs_in 116 (by decide +kernel) rfl⟩
abbrev MX7_leastBy : zM := (RX7, cX7_leastBy, 5, yX7_leastBy, (some FieldType.int))
theorem kX7_leastBy : zCm MX7_leastBy 4 := ⟨zWs_in 1476 (by decide +kernel) rfl, zWs_in 136 (by decide +kernel) rfl, rfl, by decide, by decide, by decide +kernel⟩
theorem vX7_leastBy : zVm MX7_leastBy := ⟨zWs_in 1475 (by decide +kernel) rfl, zWs_in 115 (by decide +kernel) rfl⟩
abbrev MX7_lays : zM := (RX7, cX7_lays, 9, yX7_lays, (some FieldType.int))
theorem kX7_lays : zCm MX7_lays 4 := ⟨zWs_in 1463 (by decide +kernel) rfl, zWs_in 136 (by decide +kernel) rfl, rfl, by decide, by decide, by decide +kernel⟩
theorem vX7_lays : zVm MX7_lays := ⟨zWs_in 1462 (by decide +kernel) rfl, zWs_in 112 (by decide +kernel) rfl⟩
abbrev MX7_faultWith : zM := (RX7, cX7_faultWith, 4, yX7_faultWith, (some FieldType.int))
theorem kX7_faultWith : zCm MX7_faultWith 3 := ⟨zWs_in 1459 (by decide +kernel) rfl, zWs_in 136 (by decide +kernel) rfl, rfl, by decide, by decide, by decide +kernel⟩
theorem vX7_faultWith : zVm MX7_faultWith := ⟨zWs_in 1458 (by decide +kernel) rfl, zWs_in 111 (by decide +kernel) rfl⟩
abbrev MX7_hopFaultOf : zM := (RX7, cX7_hopFaultOf, 2, yX7_hopFaultOf, (some FieldType.int))
theorem kX7_hopFaultOf : zCm MX7_hopFaultOf 1 := ⟨zWs_in 1455 (by decide +kernel) rfl, zWs_in 136 (by decide +kernel) rfl, rfl, by decide, by decide, by decide +kernel⟩
theorem vX7_hopFaultOf : zVm MX7_hopFaultOf := ⟨zWs_in 1454 (by decide +kernel) rfl, zWs_in 110 (by decide +kernel) rfl⟩
abbrev MX7_owned : zM := (RX7, cX7_owned, 4, yX7_owned, (some FieldType.int))
theorem kX7_owned : zCm MX7_owned 1 := ⟨zWs_in 1365 (by decide +kernel) rfl, zWs_in 136 (by decide +kernel) rfl, rfl, by decide, by decide, by decide +kernel⟩
theorem vX7_owned : zVm MX7_owned := ⟨zWs_in 1364 (by decide +kernel) rfl, zWs_in 96 (by decide +kernel) rfl⟩
abbrev MX7_bits : zM := (RX7, cX7_bits, 3, yX7_bits, (some FieldType.int))
theorem kX7_bits : zCm MX7_bits 1 := ⟨zWs_in 1368 (by decide +kernel) rfl, zWs_in 136 (by decide +kernel) rfl, rfl, by decide, by decide, by decide +kernel⟩
theorem sX7_bits : Cond.static MX7_bits.2.2.2.1 ∈ zWs := zWs_in 1367 (by decide +kernel) rfl
abbrev MX7_ownedAll : zM := (RX7, cX7_ownedAll, 3, yX7_ownedAll, (some FieldType.int))
theorem kX7_ownedAll : zCm MX7_ownedAll 0 := ⟨zWs_in 1361 (by decide +kernel) rfl, zWs_in 136 (by decide +kernel) rfl, rfl, by decide, by decide, by decide +kernel⟩
theorem vX7_ownedAll : zVm MX7_ownedAll := ⟨zWs_in 1360 (by decide +kernel) rfl, zWs_in 95 (by decide +kernel) rfl⟩
abbrev MX7_markers : zM := (RX7, cX7_markers, 3, yX7_markers, (some FieldType.int))
theorem kX7_markers : zCm MX7_markers 0 := ⟨zWs_in 1372 (by decide +kernel) rfl, zWs_in 136 (by decide +kernel) rfl, rfl, by decide, by decide, by decide +kernel⟩
theorem vX7_markers : zVm MX7_markers := ⟨zWs_in 1371 (by decide +kernel) rfl, zWs_in 97 (by decide +kernel) rfl⟩
abbrev MX7_richest : zM := (RX7, cX7_richest, 5, yX7_richest, (some FieldType.int))
theorem kX7_richest : zCm MX7_richest 0 := ⟨zWs_in 1376 (by decide +kernel) rfl, zWs_in 136 (by decide +kernel) rfl, rfl, by decide, by decide, by decide +kernel⟩
theorem vX7_richest : zVm MX7_richest := ⟨zWs_in 1375 (by decide +kernel) rfl, zWs_in 98 (by decide +kernel) rfl⟩
abbrev MX7_count : zM := (RX7, cX7_count, 2, yX7_count, (some FieldType.int))
theorem kX7_count : zCm MX7_count 1 := ⟨zWs_in 1357 (by decide +kernel) rfl, zWs_in 136 (by decide +kernel) rfl, rfl, by decide, by decide, by decide +kernel⟩
theorem vX7_count : zVm MX7_count := ⟨zWs_in 1355 (by decide +kernel) rfl, zWs_in 1356 (by decide +kernel) rfl⟩
abbrev MX7_player : zM := (RX7, cX7_player, 3, yX7_player, (some FieldType.int))
theorem kX7_player : zCm MX7_player 2 := ⟨zWs_in 1380 (by decide +kernel) rfl, zWs_in 136 (by decide +kernel) rfl, rfl, by decide, by decide, by decide +kernel⟩
theorem vX7_player : zVm MX7_player := ⟨zWs_in 1378 (by decide +kernel) rfl, zWs_in 1379 (by decide +kernel) rfl⟩
abbrev MX7_markersOn : zM := (RX7, cX7_markersOn, 4, yX7_markersOn, (some FieldType.int))
theorem kX7_markersOn : zCm MX7_markersOn 1 := ⟨zWs_in 1404 (by decide +kernel) rfl, zWs_in 136 (by decide +kernel) rfl, rfl, by decide, by decide, by decide +kernel⟩
theorem vX7_markersOn : zVm MX7_markersOn := ⟨zWs_in 1403 (by decide +kernel) rfl, zWs_in 103 (by decide +kernel) rfl⟩
abbrev MX7_square : zM := (RX7, cX7_square, 3, yX7_square, (some FieldType.int))
theorem kX7_square : zCm MX7_square 2 := ⟨zWs_in 1388 (by decide +kernel) rfl, zWs_in 136 (by decide +kernel) rfl, rfl, by decide, by decide, by decide +kernel⟩
theorem vX7_square : zVm MX7_square := ⟨zWs_in 1386 (by decide +kernel) rfl, zWs_in 1387 (by decide +kernel) rfl⟩
abbrev MX7_isRowOf : zM := (RX7, cX7_isRowOf, 2, yX7_isRowOf, (some FieldType.boolean))
theorem kX7_isRowOf : zCm MX7_isRowOf 1 := ⟨zWs_in 1412 (by decide +kernel) rfl, zWs_in 136 (by decide +kernel) rfl, rfl, by decide, by decide, by decide +kernel⟩
theorem vX7_isRowOf : zVm MX7_isRowOf := ⟨zWs_in 1411 (by decide +kernel) rfl, zWs_in 104 (by decide +kernel) rfl⟩
abbrev MX7_row : zM := (RX7, cX7_row, 2, yX7_row, (some FieldType.int))
theorem kX7_row : zCm MX7_row 1 := ⟨zWs_in 1408 (by decide +kernel) rfl, zWs_in 136 (by decide +kernel) rfl, rfl, by decide, by decide, by decide +kernel⟩
theorem vX7_row : zVm MX7_row := ⟨zWs_in 1406 (by decide +kernel) rfl, zWs_in 1407 (by decide +kernel) rfl⟩
abbrev MX7_footing : zM := (RX7, cX7_footing, 3, yX7_footing, (some FieldType.int))
theorem kX7_footing : zCm MX7_footing 2 := ⟨zWs_in 1416 (by decide +kernel) rfl, zWs_in 136 (by decide +kernel) rfl, rfl, by decide, by decide, by decide +kernel⟩
theorem vX7_footing : zVm MX7_footing := ⟨zWs_in 1414 (by decide +kernel) rfl, zWs_in 1415 (by decide +kernel) rfl⟩
abbrev MX7_faultOf : zM := (RX7, cX7_faultOf, 7, yX7_faultOf, (some FieldType.int))
theorem kX7_faultOf : zCm MX7_faultOf 3 := ⟨zWs_in 1439 (by decide +kernel) rfl, zWs_in 136 (by decide +kernel) rfl, rfl, by decide, by decide, by decide +kernel⟩
theorem vX7_faultOf : zVm MX7_faultOf := ⟨zWs_in 1438 (by decide +kernel) rfl, zWs_in 108 (by decide +kernel) rfl⟩
abbrev MX7_isThrow : zM := (RX7, cX7_isThrow, 2, yX7_isThrow, (some FieldType.boolean))
theorem kX7_isThrow : zCm MX7_isThrow 2 := ⟨zWs_in 1435 (by decide +kernel) rfl, zWs_in 136 (by decide +kernel) rfl, rfl, by decide, by decide, by decide +kernel⟩
theorem sX7_isThrow : Cond.static MX7_isThrow.2.2.2.1 ∈ zWs := zWs_in 1434 (by decide +kernel) rfl
abbrev MX7_throwFault : zM := (RX7, cX7_throwFault, 4, yX7_throwFault, (some FieldType.int))
theorem kX7_throwFault : zCm MX7_throwFault 3 := ⟨zWs_in 1432 (by decide +kernel) rfl, zWs_in 136 (by decide +kernel) rfl, rfl, by decide, by decide, by decide +kernel⟩
theorem vX7_throwFault : zVm MX7_throwFault := ⟨zWs_in 1430 (by decide +kernel) rfl, zWs_in 1431 (by decide +kernel) rfl⟩
abbrev MX7_bestOf : zM := (RX7, cX7_bestOf, 5, yX7_bestOf, (some FieldType.int))
theorem kX7_bestOf : zCm MX7_bestOf 1 := ⟨zWs_in 1447 (by decide +kernel) rfl, zWs_in 136 (by decide +kernel) rfl, rfl, by decide, by decide, by decide +kernel⟩
theorem vX7_bestOf : zVm MX7_bestOf := ⟨zWs_in 1446 (by decide +kernel) rfl, zWs_in 109 (by decide +kernel) rfl⟩
abbrev MX7_bestThrow : zM := (RX7, cX7_bestThrow, 2, yX7_bestThrow, (some FieldType.int))
theorem kX7_bestThrow : zCm MX7_bestThrow 1 := ⟨zWs_in 1443 (by decide +kernel) rfl, zWs_in 136 (by decide +kernel) rfl, rfl, by decide, by decide, by decide +kernel⟩
theorem vX7_bestThrow : zVm MX7_bestThrow := ⟨zWs_in 1441 (by decide +kernel) rfl, zWs_in 1442 (by decide +kernel) rfl⟩
abbrev MX7_hopFault : zM := (RX7, cX7_hopFault, 2, yX7_hopFault, (some FieldType.int))
theorem kX7_hopFault : zCm MX7_hopFault 1 := ⟨zWs_in 1451 (by decide +kernel) rfl, zWs_in 136 (by decide +kernel) rfl, rfl, by decide, by decide, by decide +kernel⟩
theorem vX7_hopFault : zVm MX7_hopFault := ⟨zWs_in 1449 (by decide +kernel) rfl, zWs_in 1450 (by decide +kernel) rfl⟩
abbrev MX7_costOf : zM := (RX7, cX7_costOf, 3, yX7_costOf, (some FieldType.int))
theorem kX7_costOf : zCm MX7_costOf 2 := ⟨zWs_in 1492 (by decide +kernel) rfl, zWs_in 136 (by decide +kernel) rfl, rfl, by decide, by decide, by decide +kernel⟩
theorem vX7_costOf : zVm MX7_costOf := ⟨zWs_in 1491 (by decide +kernel) rfl, zWs_in 118 (by decide +kernel) rfl⟩
abbrev MX7_cost : zM := (RX7, cX7_cost, 3, yX7_cost, (some FieldType.int))
theorem kX7_cost : zCm MX7_cost 2 := ⟨zWs_in 1488 (by decide +kernel) rfl, zWs_in 136 (by decide +kernel) rfl, rfl, by decide, by decide, by decide +kernel⟩
theorem vX7_cost : zVm MX7_cost := ⟨zWs_in 1486 (by decide +kernel) rfl, zWs_in 1487 (by decide +kernel) rfl⟩
abbrev MX7_place : zM := (RX7, cX7_place, 5, yX7_place, (some FieldType.int))
theorem kX7_place : zCm MX7_place 3 := ⟨zWs_in 1496 (by decide +kernel) rfl, zWs_in 136 (by decide +kernel) rfl, rfl, by decide, by decide, by decide +kernel⟩
theorem vX7_place : zVm MX7_place := ⟨zWs_in 1494 (by decide +kernel) rfl, zWs_in 1495 (by decide +kernel) rfl⟩
abbrev MX7_leastReach : zM := (RX7, cX7_leastReach, 3, yX7_leastReach, (some FieldType.int))
theorem kX7_leastReach : zCm MX7_leastReach 1 := ⟨zWs_in 1500 (by decide +kernel) rfl, zWs_in 136 (by decide +kernel) rfl, rfl, by decide, by decide, by decide +kernel⟩
theorem vX7_leastReach : zVm MX7_leastReach := ⟨zWs_in 1498 (by decide +kernel) rfl, zWs_in 1499 (by decide +kernel) rfl⟩
abbrev MX7_playableOf : zM := (RX7, cX7_playableOf, 4, yX7_playableOf, (some FieldType.int))
theorem kX7_playableOf : zCm MX7_playableOf 1 := ⟨zWs_in 1508 (by decide +kernel) rfl, zWs_in 136 (by decide +kernel) rfl, rfl, by decide, by decide, by decide +kernel⟩
theorem vX7_playableOf : zVm MX7_playableOf := ⟨zWs_in 1507 (by decide +kernel) rfl, zWs_in 119 (by decide +kernel) rfl⟩
abbrev MX7_playable : zM := (RX7, cX7_playable, 2, yX7_playable, (some FieldType.int))
theorem kX7_playable : zCm MX7_playable 1 := ⟨zWs_in 1504 (by decide +kernel) rfl, zWs_in 136 (by decide +kernel) rfl, rfl, by decide, by decide, by decide +kernel⟩
theorem vX7_playable : zVm MX7_playable := ⟨zWs_in 1502 (by decide +kernel) rfl, zWs_in 1503 (by decide +kernel) rfl⟩
abbrev MX7_bestClaim : zM := (RX7, cX7_bestClaim, 7, yX7_bestClaim, (some FieldType.int))
theorem kX7_bestClaim : zCm MX7_bestClaim 1 := ⟨zWs_in 1512 (by decide +kernel) rfl, zWs_in 136 (by decide +kernel) rfl, rfl, by decide, by decide, by decide +kernel⟩
theorem vX7_bestClaim : zVm MX7_bestClaim := ⟨zWs_in 1510 (by decide +kernel) rfl, zWs_in 1511 (by decide +kernel) rfl⟩
abbrev MX7_plays : zM := (RX7, cX7_plays, 6, yX7_plays, (some FieldType.int))
theorem kX7_plays : zCm MX7_plays 1 := ⟨zWs_in 1520 (by decide +kernel) rfl, zWs_in 136 (by decide +kernel) rfl, rfl, by decide, by decide, by decide +kernel⟩
theorem vX7_plays : zVm MX7_plays := ⟨zWs_in 1519 (by decide +kernel) rfl, zWs_in 120 (by decide +kernel) rfl⟩
abbrev MX7_turnsToCrown : zM := (RX7, cX7_turnsToCrown, 2, yX7_turnsToCrown, (some FieldType.int))
theorem kX7_turnsToCrown : zCm MX7_turnsToCrown 1 := ⟨zWs_in 1516 (by decide +kernel) rfl, zWs_in 136 (by decide +kernel) rfl, rfl, by decide, by decide, by decide +kernel⟩
theorem vX7_turnsToCrown : zVm MX7_turnsToCrown := ⟨zWs_in 1514 (by decide +kernel) rfl, zWs_in 1515 (by decide +kernel) rfl⟩
abbrev MX7_firstThrough : zM := (RX7, cX7_firstThrough, 1, yX7_firstThrough, (some FieldType.int))
theorem kX7_firstThrough : zCm MX7_firstThrough 0 := ⟨zWs_in 1541 (by decide +kernel) rfl, zWs_in 136 (by decide +kernel) rfl, rfl, by decide, by decide, by decide +kernel⟩
theorem vX7_firstThrough : zVm MX7_firstThrough := ⟨zWs_in 1539 (by decide +kernel) rfl, zWs_in 1540 (by decide +kernel) rfl⟩
abbrev MX7_meanCost : zM := (RX7, cX7_meanCost, 4, yX7_meanCost, (some FieldType.double))
theorem kX7_meanCost : zCm MX7_meanCost 0 := ⟨zWs_in 1545 (by decide +kernel) rfl, zWs_in 136 (by decide +kernel) rfl, rfl, by decide, by decide, by decide +kernel⟩
theorem vX7_meanCost : zVm MX7_meanCost := ⟨zWs_in 1543 (by decide +kernel) rfl, zWs_in 1544 (by decide +kernel) rfl⟩
abbrev MX7_success : zM := (RX7, cX7_success, 1, yX7_success, (some FieldType.float))
theorem kX7_success : zCm MX7_success 0 := ⟨zWs_in 1549 (by decide +kernel) rfl, zWs_in 136 (by decide +kernel) rfl, rfl, by decide, by decide, by decide +kernel⟩
theorem vX7_success : zVm MX7_success := ⟨zWs_in 1547 (by decide +kernel) rfl, zWs_in 1548 (by decide +kernel) rfl⟩
abbrev MX7_hops : zM := (RX7, cX7_hops, 8, yX7_hops, none)
theorem kX7_hops : zCm MX7_hops 3 := ⟨zWs_in 1529 (by decide +kernel) rfl, zWs_in 136 (by decide +kernel) rfl, rfl, by decide, by decide, by decide +kernel⟩
theorem vX7_hops : zVm MX7_hops := ⟨zWs_in 1528 (by decide +kernel) rfl, zWs_in 122 (by decide +kernel) rfl⟩
abbrev MX7_goesThrough : zM := (RX7, cX7_goesThrough, 4, yX7_goesThrough, none)
theorem kX7_goesThrough : zCm MX7_goesThrough 1 := ⟨zWs_in 1533 (by decide +kernel) rfl, zWs_in 136 (by decide +kernel) rfl, rfl, by decide, by decide, by decide +kernel⟩
theorem vX7_goesThrough : zVm MX7_goesThrough := ⟨zWs_in 1532 (by decide +kernel) rfl, zWs_in 123 (by decide +kernel) rfl⟩
abbrev MX7_ends : zM := (RX7, cX7_ends, 3, yX7_ends, none)
theorem kX7_ends : zCm MX7_ends 2 := ⟨zWs_in 1537 (by decide +kernel) rfl, zWs_in 136 (by decide +kernel) rfl, rfl, by decide, by decide, by decide +kernel⟩
theorem vX7_ends : zVm MX7_ends := ⟨zWs_in 1536 (by decide +kernel) rfl, zWs_in 124 (by decide +kernel) rfl⟩
abbrev MX7_turns : zM := (RX7, cX7_turns, 6, yX7_turns, (some FieldType.int))
theorem kX7_turns : zCm MX7_turns 2 := ⟨zWs_in 1525 (by decide +kernel) rfl, zWs_in 136 (by decide +kernel) rfl, rfl, by decide, by decide, by decide +kernel⟩
theorem vX7_turns : zVm MX7_turns := ⟨zWs_in 1524 (by decide +kernel) rfl, zWs_in 121 (by decide +kernel) rfl⟩
abbrev MX7_turn : zM := (RX7, cX7_turn, 3, yX7_turn, (some FieldType.int))
theorem kX7_turn : zCm MX7_turn 2 := ⟨zWs_in 1553 (by decide +kernel) rfl, zWs_in 136 (by decide +kernel) rfl, rfl, by decide, by decide, by decide +kernel⟩
theorem vX7_turn : zVm MX7_turn := ⟨zWs_in 1551 (by decide +kernel) rfl, zWs_in 1552 (by decide +kernel) rfl⟩
abbrev MX7_pass : zM := (RX7, cX7_pass, 1, yX7_pass, (some FieldType.int))
theorem kX7_pass : zCm MX7_pass 0 := ⟨zWs_in 1557 (by decide +kernel) rfl, zWs_in 136 (by decide +kernel) rfl, rfl, by decide, by decide, by decide +kernel⟩
theorem vX7_pass : zVm MX7_pass := ⟨zWs_in 1555 (by decide +kernel) rfl, zWs_in 1556 (by decide +kernel) rfl⟩
abbrev MX7_claim : zM := (RX7, cX7_claim, 4, yX7_claim, (some FieldType.int))
theorem kX7_claim : zCm MX7_claim 2 := ⟨zWs_in 1561 (by decide +kernel) rfl, zWs_in 136 (by decide +kernel) rfl, rfl, by decide, by decide, by decide +kernel⟩
theorem vX7_claim : zVm MX7_claim := ⟨zWs_in 1559 (by decide +kernel) rfl, zWs_in 1560 (by decide +kernel) rfl⟩
abbrev MX7_release : zM := (RX7, cX7_release, 4, yX7_release, (some FieldType.int))
theorem kX7_release : zCm MX7_release 1 := ⟨zWs_in 1565 (by decide +kernel) rfl, zWs_in 136 (by decide +kernel) rfl, rfl, by decide, by decide, by decide +kernel⟩
theorem vX7_release : zVm MX7_release := ⟨zWs_in 1563 (by decide +kernel) rfl, zWs_in 1564 (by decide +kernel) rfl⟩
abbrev MX7_setDrift : zM := (RX7, cX7_setDrift, 3, yX7_setDrift, (some FieldType.int))
theorem kX7_setDrift : zCm MX7_setDrift 1 := ⟨zWs_in 1569 (by decide +kernel) rfl, zWs_in 136 (by decide +kernel) rfl, rfl, by decide, by decide, by decide +kernel⟩
theorem vX7_setDrift : zVm MX7_setDrift := ⟨zWs_in 1567 (by decide +kernel) rfl, zWs_in 1568 (by decide +kernel) rfl⟩
abbrev MX7_mayBe : zM := (RX7, cX7_mayBe, 3, yX7_mayBe, (some FieldType.boolean))
theorem kX7_mayBe : zCm MX7_mayBe 2 := ⟨zWs_in 1577 (by decide +kernel) rfl, zWs_in 136 (by decide +kernel) rfl, rfl, by decide, by decide, by decide +kernel⟩
theorem vX7_mayBe : zVm MX7_mayBe := ⟨zWs_in 1576 (by decide +kernel) rfl, zWs_in 125 (by decide +kernel) rfl⟩
abbrev MX7_setPlayer : zM := (RX7, cX7_setPlayer, 5, yX7_setPlayer, (some FieldType.int))
theorem kX7_setPlayer : zCm MX7_setPlayer 3 := ⟨zWs_in 1573 (by decide +kernel) rfl, zWs_in 136 (by decide +kernel) rfl, rfl, by decide, by decide, by decide +kernel⟩
theorem vX7_setPlayer : zVm MX7_setPlayer := ⟨zWs_in 1571 (by decide +kernel) rfl, zWs_in 1572 (by decide +kernel) rfl⟩
abbrev MX7_mark : zM := (RX7, cX7_mark, 4, yX7_mark, (some FieldType.int))
theorem kX7_mark : zCm MX7_mark 2 := ⟨zWs_in 1581 (by decide +kernel) rfl, zWs_in 136 (by decide +kernel) rfl, rfl, by decide, by decide, by decide +kernel⟩
theorem vX7_mark : zVm MX7_mark := ⟨zWs_in 1579 (by decide +kernel) rfl, zWs_in 1580 (by decide +kernel) rfl⟩
abbrev MX7_says : zM := (RX7, cX7_says, 2, yX7_says, none)
theorem kX7_says : zCm MX7_says 1 := ⟨zWs_in 1589 (by decide +kernel) rfl, zWs_in 136 (by decide +kernel) rfl, rfl, by decide, by decide, by decide +kernel⟩
theorem vX7_says : zVm MX7_says := ⟨zWs_in 1588 (by decide +kernel) rfl, zWs_in 126 (by decide +kernel) rfl⟩
abbrev MX7_saysSquare : zM := (RX7, cX7_saysSquare, 4, yX7_saysSquare, none)
theorem kX7_saysSquare : zCm MX7_saysSquare 1 := ⟨zWs_in 1593 (by decide +kernel) rfl, zWs_in 136 (by decide +kernel) rfl, rfl, by decide, by decide, by decide +kernel⟩
theorem vX7_saysSquare : zVm MX7_saysSquare := ⟨zWs_in 1592 (by decide +kernel) rfl, zWs_in 127 (by decide +kernel) rfl⟩
abbrev MX7_writeCourt : zM := (RX7, cX7_writeCourt, 2, yX7_writeCourt, (some FieldType.int))
theorem kX7_writeCourt : zCm MX7_writeCourt 0 := ⟨zWs_in 1585 (by decide +kernel) rfl, zWs_in 136 (by decide +kernel) rfl, rfl, by decide, by decide, by decide +kernel⟩
theorem vX7_writeCourt : zVm MX7_writeCourt := ⟨zWs_in 1583 (by decide +kernel) rfl, zWs_in 1584 (by decide +kernel) rfl⟩
abbrev MX7_writtenByte : zM := (RX7, cX7_writtenByte, 2, yX7_writtenByte, (some FieldType.int))
theorem kX7_writtenByte : zCm MX7_writtenByte 1 := ⟨zWs_in 1597 (by decide +kernel) rfl, zWs_in 136 (by decide +kernel) rfl, rfl, by decide, by decide, by decide +kernel⟩
theorem vX7_writtenByte : zVm MX7_writtenByte := ⟨zWs_in 1595 (by decide +kernel) rfl, zWs_in 1596 (by decide +kernel) rfl⟩
abbrev MJ6_bitCount_0f7a4 : zM := (RJ6, cJ6_bitCount_0f7a4, 1, yJ6_bitCount_0f7a4, (some FieldType.int))
theorem kJ6_bitCount_0f7a4 : zCm MJ6_bitCount_0f7a4 1 := ⟨zWs_in 654 (by decide +kernel) rfl, zWs_in 147 (by decide +kernel) rfl, rfl, by decide, by decide, by decide +kernel⟩
theorem sJ6_bitCount_0f7a4 : Cond.static MJ6_bitCount_0f7a4.2.2.2.1 ∈ zWs := zWs_in 653 (by decide +kernel) rfl
abbrev MJ0_length_8abf5 : zM := (RJ0, cJ0_length_8abf5, 1, yJ0_length_8abf5, (some FieldType.int))
theorem kJ0_length_8abf5 : zCm MJ0_length_8abf5 0 := ⟨zWs_in 440 (by decide +kernel) rfl, zWs_in 141 (by decide +kernel) rfl, rfl, by decide, by decide, by decide +kernel⟩
theorem vJ0_length_8abf5 : zVm MJ0_length_8abf5 := ⟨zWs_in 438 (by decide +kernel) rfl, zWs_in 439 (by decide +kernel) rfl⟩
abbrev MJ0_charAt_5068e : zM := (RJ0, cJ0_charAt_5068e, 2, yJ0_charAt_5068e, (some FieldType.char))
theorem kJ0_charAt_5068e : zCm MJ0_charAt_5068e 1 := ⟨zWs_in 450 (by decide +kernel) rfl, zWs_in 141 (by decide +kernel) rfl, rfl, by decide, by decide, by decide +kernel⟩
theorem vJ0_charAt_5068e : zVm MJ0_charAt_5068e := ⟨zWs_in 448 (by decide +kernel) rfl, zWs_in 449 (by decide +kernel) rfl⟩
abbrev MJ0_coder_7d493 : zM := (RJ0, cJ0_coder_7d493, 1, yJ0_coder_7d493, (some FieldType.byte))
theorem kJ0_coder_7d493 : zCm MJ0_coder_7d493 0 := ⟨zWs_in 444 (by decide +kernel) rfl, zWs_in 141 (by decide +kernel) rfl, rfl, by decide, by decide, by decide +kernel⟩
theorem vJ0_coder_7d493 : zVm MJ0_coder_7d493 := ⟨zWs_in 442 (by decide +kernel) rfl, zWs_in 443 (by decide +kernel) rfl⟩
abbrev MJ0_isLatin1_aae02 : zM := (RJ0, cJ0_isLatin1_aae02, 1, yJ0_isLatin1_aae02, (some FieldType.boolean))
theorem kJ0_isLatin1_aae02 : zCm MJ0_isLatin1_aae02 0 := ⟨zWs_in 454 (by decide +kernel) rfl, zWs_in 141 (by decide +kernel) rfl, rfl, by decide, by decide, by decide +kernel⟩
theorem vJ0_isLatin1_aae02 : zVm MJ0_isLatin1_aae02 := ⟨zWs_in 452 (by decide +kernel) rfl, zWs_in 453 (by decide +kernel) rfl⟩
abbrev MJ0_checkIndex_df160 : zM := (RJ0, cJ0_checkIndex_df160, 2, yJ0_checkIndex_df160, none)
theorem kJ0_checkIndex_df160 : zCm MJ0_checkIndex_df160 2 := ⟨zWs_in 460 (by decide +kernel) rfl, zWs_in 141 (by decide +kernel) rfl, rfl, by decide, by decide, by decide +kernel⟩
theorem sJ0_checkIndex_df160 : Cond.static MJ0_checkIndex_df160.2.2.2.1 ∈ zWs := zWs_in 459 (by decide +kernel) rfl
abbrev MJ1_charAt_3b067 : zM := (RJ1, cJ1_charAt_3b067, 2, yJ1_charAt_3b067, (some FieldType.char))
theorem kJ1_charAt_3b067 : zCm MJ1_charAt_3b067 2 := ⟨zWs_in 457 (by decide +kernel) rfl, zWs_in 142 (by decide +kernel) rfl, rfl, by decide, by decide, by decide +kernel⟩
theorem sJ1_charAt_3b067 : Cond.static MJ1_charAt_3b067.2.2.2.1 ∈ zWs := zWs_in 456 (by decide +kernel) rfl
abbrev MJ3_checkIndex_8e157 : zM := (RJ3, cJ3_checkIndex_8e157, 3, yJ3_checkIndex_8e157, (some FieldType.int))
theorem kJ3_checkIndex_8e157 : zCm MJ3_checkIndex_8e157 3 := ⟨zWs_in 465 (by decide +kernel) rfl, zWs_in 143 (by decide +kernel) rfl, rfl, by decide, by decide, by decide +kernel⟩
theorem sJ3_checkIndex_8e157 : Cond.static MJ3_checkIndex_8e157.2.2.2.1 ∈ zWs := zWs_in 464 (by decide +kernel) rfl
theorem lX0_100 : Cond.methodLink RX0 100 Lib.Math.min.name ∈ zWs := zWs_in 689 (by decide +kernel) rfl
theorem lX0_34 : Cond.methodLink RX0 34 yX0_wipe ∈ zWs := zWs_in 164 (by decide +kernel) rfl
theorem lX0_62 : Cond.methodLink RX0 62 arraycopyName ∈ zWs := zWs_in 576 (by decide +kernel) rfl
theorem lX0_68 : Cond.methodLink RX0 68 yX0_put ∈ zWs := zWs_in 378 (by decide +kernel) rfl
theorem lX0_72 : Cond.methodLink RX0 72 yX0_squaresOf ∈ zWs := zWs_in 639 (by decide +kernel) rfl
theorem lX0_76 : Cond.methodLink RX0 76 yJ6_bitCount_0f7a4 ∈ zWs := zWs_in 652 (by decide +kernel) rfl
theorem lX0_81 : Cond.methodLink RX0 81 yX0_get ∈ zWs := zWs_in 556 (by decide +kernel) rfl
theorem lX0_85 : Cond.methodLink RX0 85 yX0_isForbidden ∈ zWs := zWs_in 560 (by decide +kernel) rfl
theorem lX0_89 : Cond.methodLink RX0 89 yX0_firstAllowed ∈ zWs := zWs_in 564 (by decide +kernel) rfl
theorem lX0_92 : Cond.methodLink RX0 92 yX0_widthOf ∈ zWs := zWs_in 613 (by decide +kernel) rfl
theorem lX0_95 : Cond.methodLink RX0 95 Lib.Math.max.name ∈ zWs := zWs_in 598 (by decide +kernel) rfl
theorem lX1_110 : Cond.methodLink RX1 110 yX1_playTurn ∈ zWs := zWs_in 605 (by decide +kernel) rfl
theorem lX1_41 : Cond.methodLink RX1 41 yX1_hasBothWays ∈ zWs := zWs_in 989 (by decide +kernel) rfl
theorem lX1_47 : Cond.methodLink RX1 47 yX1_playableSquares ∈ zWs := zWs_in 1001 (by decide +kernel) rfl
theorem lX1_62 : Cond.methodLink RX1 62 yX1_faultOfHops ∈ zWs := zWs_in 618 (by decide +kernel) rfl
theorem lX1_65 : Cond.methodLink RX1 65 yX1_hopOutAndBack ∈ zWs := zWs_in 672 (by decide +kernel) rfl
theorem lX1_73 : Cond.methodLink RX1 73 yX1_makeHops ∈ zWs := zWs_in 676 (by decide +kernel) rfl
theorem lX2_29 : Cond.methodLink RX2 29 Lib.Math.min.name ∈ zWs := zWs_in 579 (by decide +kernel) rfl
theorem lX3_108 : Cond.methodLink RX3 108 yX3_readPart ∈ zWs := zWs_in 532 (by decide +kernel) rfl
theorem lX3_118 : Cond.methodLink RX3 118 yX3_readOwned ∈ zWs := zWs_in 546 (by decide +kernel) rfl
theorem lX3_144 : Cond.methodLink RX3 144 Lib.Math.min.name ∈ zWs := zWs_in 509 (by decide +kernel) rfl
theorem lX3_149 : Cond.methodLink RX3 149 yJ0_length_8abf5 ∈ zWs := zWs_in 437 (by decide +kernel) rfl
theorem lX3_154 : Cond.methodLink RX3 154 yJ0_charAt_5068e ∈ zWs := zWs_in 447 (by decide +kernel) rfl
theorem lX3_27 : Cond.methodLink RX3 27 yX3_moveTo ∈ zWs := zWs_in 420 (by decide +kernel) rfl
theorem lX3_31 : Cond.methodLink RX3 31 yX3_readRows ∈ zWs := zWs_in 424 (by decide +kernel) rfl
theorem lX3_35 : Cond.methodLink RX3 35 yX3_readDrift ∈ zWs := zWs_in 500 (by decide +kernel) rfl
theorem lX3_38 : Cond.methodLink RX3 38 yX3_readPlayers ∈ zWs := zWs_in 512 (by decide +kernel) rfl
theorem lX3_46 : Cond.methodLink RX3 46 yX3_takeWord ∈ zWs := zWs_in 429 (by decide +kernel) rfl
theorem lX3_53 : Cond.methodLink RX3 53 yX3_fail ∈ zWs := zWs_in 485 (by decide +kernel) rfl
theorem lX3_59 : Cond.methodLink RX3 59 yX3_nextIsWord ∈ zWs := zWs_in 433 (by decide +kernel) rfl
theorem lX3_64 : Cond.methodLink RX3 64 yX3_readSemicolon ∈ zWs := zWs_in 491 (by decide +kernel) rfl
theorem lX3_76 : Cond.methodLink RX3 76 yX3_takeSign ∈ zWs := zWs_in 495 (by decide +kernel) rfl
theorem lX3_80 : Cond.methodLink RX3 80 yX3_readNumber ∈ zWs := zWs_in 505 (by decide +kernel) rfl
theorem lX3_93 : Cond.methodLink RX3 93 yX3_readName ∈ zWs := zWs_in 518 (by decide +kernel) rfl
theorem lX3_97 : Cond.methodLink RX3 97 yX3_readParts ∈ zWs := zWs_in 527 (by decide +kernel) rfl
theorem lX4_61 : Cond.methodLink RX4 61 yX4_layFootings ∈ zWs := zWs_in 627 (by decide +kernel) rfl
theorem lX4_65 : Cond.methodLink RX4 65 yX4_reckon ∈ zWs := zWs_in 658 (by decide +kernel) rfl
theorem lX4_69 : Cond.methodLink RX4 69 yX4_follow ∈ zWs := zWs_in 668 (by decide +kernel) rfl
theorem lX4_82 : Cond.methodLink RX4 82 yX4_rowAt ∈ zWs := zWs_in 644 (by decide +kernel) rfl
theorem lX4_89 : Cond.methodLink RX4 89 yX4_reckonFrom ∈ zWs := zWs_in 662 (by decide +kernel) rfl
theorem lX4_93 : Cond.methodLink RX4 93 Lib.Math.min.name ∈ zWs := zWs_in 667 (by decide +kernel) rfl
theorem lX5_31 : Cond.methodLink RX5 31 yX5_add ∈ zWs := zWs_in 718 (by decide +kernel) rfl
theorem lX5_35 : Cond.methodLink RX5 35 yX5_addNumber ∈ zWs := zWs_in 722 (by decide +kernel) rfl
theorem lX5_42 : Cond.methodLink RX5 42 yX5_addName ∈ zWs := zWs_in 726 (by decide +kernel) rfl
theorem lX6_139 : Cond.methodLink RX6 139 yX6_checkPlayer ∈ zWs := zWs_in 856 (by decide +kernel) rfl
theorem lX6_151 : Cond.methodLink RX6 151 yX6_checkSquare ∈ zWs := zWs_in 886 (by decide +kernel) rfl
theorem lX6_172 : Cond.methodLink RX6 172 yX6_checkRow ∈ zWs := zWs_in 904 (by decide +kernel) rfl
theorem lX6_191 : Cond.methodLink RX6 191 yX6_checkThrow ∈ zWs := zWs_in 927 (by decide +kernel) rfl
theorem lX6_256 : Cond.methodLink RX6 256 yJ6_bitCount_0f7a4 ∈ zWs := zWs_in 1026 (by decide +kernel) rfl
theorem lX6_265 : Cond.methodLink RX6 265 yX6_lowestOf ∈ zWs := zWs_in 1050 (by decide +kernel) rfl
theorem lX6_268 : Cond.methodLink RX6 268 yX6_highestOf ∈ zWs := zWs_in 1051 (by decide +kernel) rfl
theorem lX6_281 : Cond.methodLink RX6 281 yX6_checkSlot ∈ zWs := zWs_in 1079 (by decide +kernel) rfl
theorem lL_101 : Cond.methodLink RL 101 yX7_init ∈ zWs := zWs_in 1101 (by decide +kernel) rfl
theorem lL_102 : Cond.methodLink RL 102 yL_append ∈ zWs := zWs_in 730 (by decide +kernel) rfl
theorem lL_107 : Cond.methodLink RL 107 yX7_append ∈ zWs := zWs_in 1225 (by decide +kernel) rfl
theorem lL_108 : Cond.methodLink RL 108 yX7_thrown ∈ zWs := zWs_in 1199 (by decide +kernel) rfl
theorem lL_111 : Cond.methodLink RL 111 yX6_load ∈ zWs := zWs_in 411 (by decide +kernel) rfl
theorem lL_114 : Cond.methodLink RL 114 yX7_load ∈ zWs := zWs_in 1232 (by decide +kernel) rfl
theorem lL_115 : Cond.methodLink RL 115 yX6_errorPosition ∈ zWs := zWs_in 581 (by decide +kernel) rfl
theorem lL_118 : Cond.methodLink RL 118 yX7_errorPosition ∈ zWs := zWs_in 1350 (by decide +kernel) rfl
theorem lL_119 : Cond.methodLink RL 119 yL_count ∈ zWs := zWs_in 812 (by decide +kernel) rfl
theorem lL_122 : Cond.methodLink RL 122 yX7_count ∈ zWs := zWs_in 1354 (by decide +kernel) rfl
theorem lL_123 : Cond.methodLink RL 123 yL_player ∈ zWs := zWs_in 848 (by decide +kernel) rfl
theorem lL_126 : Cond.methodLink RL 126 yX7_player ∈ zWs := zWs_in 1377 (by decide +kernel) rfl
theorem lL_127 : Cond.methodLink RL 127 yL_square ∈ zWs := zWs_in 879 (by decide +kernel) rfl
theorem lL_129 : Cond.methodLink RL 129 yX7_square ∈ zWs := zWs_in 1385 (by decide +kernel) rfl
theorem lL_130 : Cond.methodLink RL 130 yL_row ∈ zWs := zWs_in 897 (by decide +kernel) rfl
theorem lL_132 : Cond.methodLink RL 132 yX7_row ∈ zWs := zWs_in 1405 (by decide +kernel) rfl
theorem lL_133 : Cond.methodLink RL 133 yL_footing ∈ zWs := zWs_in 910 (by decide +kernel) rfl
theorem lL_135 : Cond.methodLink RL 135 yX7_footing ∈ zWs := zWs_in 1413 (by decide +kernel) rfl
theorem lL_136 : Cond.methodLink RL 136 yL_throwFault ∈ zWs := zWs_in 920 (by decide +kernel) rfl
theorem lL_139 : Cond.methodLink RL 139 yX7_throwFault ∈ zWs := zWs_in 1429 (by decide +kernel) rfl
theorem lL_140 : Cond.methodLink RL 140 yL_bestThrow ∈ zWs := zWs_in 932 (by decide +kernel) rfl
theorem lL_142 : Cond.methodLink RL 142 yX7_bestThrow ∈ zWs := zWs_in 1440 (by decide +kernel) rfl
theorem lL_143 : Cond.methodLink RL 143 yL_hopFault ∈ zWs := zWs_in 940 (by decide +kernel) rfl
theorem lL_145 : Cond.methodLink RL 145 yX7_hopFault ∈ zWs := zWs_in 1448 (by decide +kernel) rfl
theorem lL_146 : Cond.methodLink RL 146 yL_cost ∈ zWs := zWs_in 947 (by decide +kernel) rfl
theorem lL_149 : Cond.methodLink RL 149 yX7_cost ∈ zWs := zWs_in 1485 (by decide +kernel) rfl
theorem lL_15 : Cond.methodLink RL 15 yX6_count ∈ zWs := zWs_in 816 (by decide +kernel) rfl
theorem lL_150 : Cond.methodLink RL 150 yL_place ∈ zWs := zWs_in 958 (by decide +kernel) rfl
theorem lL_153 : Cond.methodLink RL 153 yX7_place ∈ zWs := zWs_in 1493 (by decide +kernel) rfl
theorem lL_154 : Cond.methodLink RL 154 yL_leastReach ∈ zWs := zWs_in 966 (by decide +kernel) rfl
theorem lL_156 : Cond.methodLink RL 156 yX7_leastReach ∈ zWs := zWs_in 1497 (by decide +kernel) rfl
theorem lL_157 : Cond.methodLink RL 157 yL_playable ∈ zWs := zWs_in 977 (by decide +kernel) rfl
theorem lL_159 : Cond.methodLink RL 159 yX7_playable ∈ zWs := zWs_in 1501 (by decide +kernel) rfl
theorem lL_160 : Cond.methodLink RL 160 yL_bestClaim ∈ zWs := zWs_in 990 (by decide +kernel) rfl
theorem lL_162 : Cond.methodLink RL 162 yX7_bestClaim ∈ zWs := zWs_in 1509 (by decide +kernel) rfl
theorem lL_163 : Cond.methodLink RL 163 yL_turnsToCrown ∈ zWs := zWs_in 1002 (by decide +kernel) rfl
theorem lL_165 : Cond.methodLink RL 165 yX7_turnsToCrown ∈ zWs := zWs_in 1513 (by decide +kernel) rfl
theorem lL_166 : Cond.methodLink RL 166 yX6_firstThrough ∈ zWs := zWs_in 585 (by decide +kernel) rfl
theorem lL_169 : Cond.methodLink RL 169 yX7_firstThrough ∈ zWs := zWs_in 1538 (by decide +kernel) rfl
theorem lL_170 : Cond.methodLink RL 170 yX6_meanCost ∈ zWs := zWs_in 694 (by decide +kernel) rfl
theorem lL_174 : Cond.methodLink RL 174 yX7_meanCost ∈ zWs := zWs_in 1542 (by decide +kernel) rfl
theorem lL_175 : Cond.methodLink RL 175 yX6_success ∈ zWs := zWs_in 699 (by decide +kernel) rfl
theorem lL_179 : Cond.methodLink RL 179 yX7_success ∈ zWs := zWs_in 1546 (by decide +kernel) rfl
theorem lL_180 : Cond.methodLink RL 180 yL_turn ∈ zWs := zWs_in 1009 (by decide +kernel) rfl
theorem lL_182 : Cond.methodLink RL 182 yX7_turn ∈ zWs := zWs_in 1550 (by decide +kernel) rfl
theorem lL_183 : Cond.methodLink RL 183 yX6_pass ∈ zWs := zWs_in 703 (by decide +kernel) rfl
theorem lL_186 : Cond.methodLink RL 186 yX7_pass ∈ zWs := zWs_in 1554 (by decide +kernel) rfl
theorem lL_187 : Cond.methodLink RL 187 yL_claim ∈ zWs := zWs_in 1017 (by decide +kernel) rfl
theorem lL_189 : Cond.methodLink RL 189 yX7_claim ∈ zWs := zWs_in 1558 (by decide +kernel) rfl
theorem lL_190 : Cond.methodLink RL 190 yL_release ∈ zWs := zWs_in 1027 (by decide +kernel) rfl
theorem lL_192 : Cond.methodLink RL 192 yX7_release ∈ zWs := zWs_in 1562 (by decide +kernel) rfl
theorem lL_193 : Cond.methodLink RL 193 yL_setDrift ∈ zWs := zWs_in 1034 (by decide +kernel) rfl
theorem lL_195 : Cond.methodLink RL 195 yX7_setDrift ∈ zWs := zWs_in 1566 (by decide +kernel) rfl
theorem lL_196 : Cond.methodLink RL 196 yL_setPlayer ∈ zWs := zWs_in 1042 (by decide +kernel) rfl
theorem lL_198 : Cond.methodLink RL 198 yX7_setPlayer ∈ zWs := zWs_in 1570 (by decide +kernel) rfl
theorem lL_199 : Cond.methodLink RL 199 yL_mark ∈ zWs := zWs_in 1053 (by decide +kernel) rfl
theorem lL_201 : Cond.methodLink RL 201 yX7_mark ∈ zWs := zWs_in 1578 (by decide +kernel) rfl
theorem lL_202 : Cond.methodLink RL 202 yL_undo ∈ zWs := zWs_in 1060 (by decide +kernel) rfl
theorem lL_205 : Cond.methodLink RL 205 yX7_undo ∈ zWs := zWs_in 1203 (by decide +kernel) rfl
theorem lL_206 : Cond.methodLink RL 206 yL_save ∈ zWs := zWs_in 1072 (by decide +kernel) rfl
theorem lL_209 : Cond.methodLink RL 209 yX7_save ∈ zWs := zWs_in 1210 (by decide +kernel) rfl
theorem lL_21 : Cond.methodLink RL 21 yX6_player ∈ zWs := zWs_in 852 (by decide +kernel) rfl
theorem lL_210 : Cond.methodLink RL 210 yL_restore ∈ zWs := zWs_in 1083 (by decide +kernel) rfl
theorem lL_212 : Cond.methodLink RL 212 yX7_restore ∈ zWs := zWs_in 1217 (by decide +kernel) rfl
theorem lL_213 : Cond.methodLink RL 213 yX6_writeCourt ∈ zWs := zWs_in 708 (by decide +kernel) rfl
theorem lL_216 : Cond.methodLink RL 216 yX7_writeCourt ∈ zWs := zWs_in 1582 (by decide +kernel) rfl
theorem lL_217 : Cond.methodLink RL 217 yL_writtenByte ∈ zWs := zWs_in 1091 (by decide +kernel) rfl
theorem lL_219 : Cond.methodLink RL 219 yX7_writtenByte ∈ zWs := zWs_in 1594 (by decide +kernel) rfl
theorem lL_27 : Cond.methodLink RL 27 yX6_square ∈ zWs := zWs_in 882 (by decide +kernel) rfl
theorem lL_30 : Cond.methodLink RL 30 yX6_row ∈ zWs := zWs_in 900 (by decide +kernel) rfl
theorem lL_33 : Cond.methodLink RL 33 yX6_footing ∈ zWs := zWs_in 913 (by decide +kernel) rfl
theorem lL_36 : Cond.methodLink RL 36 yX6_throwFault ∈ zWs := zWs_in 923 (by decide +kernel) rfl
theorem lL_40 : Cond.methodLink RL 40 yX6_bestThrow ∈ zWs := zWs_in 935 (by decide +kernel) rfl
theorem lL_43 : Cond.methodLink RL 43 yX6_hopFault ∈ zWs := zWs_in 943 (by decide +kernel) rfl
theorem lL_46 : Cond.methodLink RL 46 yX6_cost ∈ zWs := zWs_in 950 (by decide +kernel) rfl
theorem lL_50 : Cond.methodLink RL 50 yX6_place ∈ zWs := zWs_in 961 (by decide +kernel) rfl
theorem lL_54 : Cond.methodLink RL 54 yX6_leastReach ∈ zWs := zWs_in 969 (by decide +kernel) rfl
theorem lL_57 : Cond.methodLink RL 57 yX6_playable ∈ zWs := zWs_in 980 (by decide +kernel) rfl
theorem lL_60 : Cond.methodLink RL 60 yX6_bestClaim ∈ zWs := zWs_in 993 (by decide +kernel) rfl
theorem lL_63 : Cond.methodLink RL 63 yX6_turnsToCrown ∈ zWs := zWs_in 1005 (by decide +kernel) rfl
theorem lL_66 : Cond.methodLink RL 66 yX6_turn ∈ zWs := zWs_in 1012 (by decide +kernel) rfl
theorem lL_69 : Cond.methodLink RL 69 yX6_claim ∈ zWs := zWs_in 1020 (by decide +kernel) rfl
theorem lL_7 : Cond.methodLink RL 7 yX6_append ∈ zWs := zWs_in 734 (by decide +kernel) rfl
theorem lL_72 : Cond.methodLink RL 72 yX6_release ∈ zWs := zWs_in 1030 (by decide +kernel) rfl
theorem lL_75 : Cond.methodLink RL 75 yX6_setDrift ∈ zWs := zWs_in 1037 (by decide +kernel) rfl
theorem lL_78 : Cond.methodLink RL 78 yX6_setPlayer ∈ zWs := zWs_in 1045 (by decide +kernel) rfl
theorem lL_81 : Cond.methodLink RL 81 yX6_mark ∈ zWs := zWs_in 1056 (by decide +kernel) rfl
theorem lL_84 : Cond.methodLink RL 84 yX6_undo ∈ zWs := zWs_in 1063 (by decide +kernel) rfl
theorem lL_88 : Cond.methodLink RL 88 yX6_save ∈ zWs := zWs_in 1075 (by decide +kernel) rfl
theorem lL_92 : Cond.methodLink RL 92 yX6_restore ∈ zWs := zWs_in 1086 (by decide +kernel) rfl
theorem lL_95 : Cond.methodLink RL 95 yX6_writtenByte ∈ zWs := zWs_in 1094 (by decide +kernel) rfl
theorem lL_98 : Cond.methodLink RL 98 yX6_init ∈ zWs := zWs_in 152 (by decide +kernel) rfl
theorem lX7_100 : Cond.methodLink RX7 100 yX7_isLetter ∈ zWs := zWs_in 1244 (by decide +kernel) rfl
theorem lX7_104 : Cond.methodLink RX7 104 yX7_isDigit ∈ zWs := zWs_in 1248 (by decide +kernel) rfl
theorem lX7_107 : Cond.methodLink RX7 107 Lib.Math.min.name ∈ zWs := zWs_in 1252 (by decide +kernel) rfl
theorem lX7_116 : Cond.methodLink RX7 116 yJ0_length_8abf5 ∈ zWs := zWs_in 1258 (by decide +kernel) rfl
theorem lX7_122 : Cond.methodLink RX7 122 yJ0_charAt_5068e ∈ zWs := zWs_in 1259 (by decide +kernel) rfl
theorem lX7_129 : Cond.methodLink RX7 129 yX7_fails ∈ zWs := zWs_in 1264 (by decide +kernel) rfl
theorem lX7_132 : Cond.methodLink RX7 132 yX7_next ∈ zWs := zWs_in 1236 (by decide +kernel) rfl
theorem lX7_135 : Cond.methodLink RX7 135 yX7_stands ∈ zWs := zWs_in 1291 (by decide +kernel) rfl
theorem lX7_138 : Cond.methodLink RX7 138 yX7_isWord ∈ zWs := zWs_in 1254 (by decide +kernel) rfl
theorem lX7_146 : Cond.methodLink RX7 146 yX7_isRow ∈ zWs := zWs_in 1272 (by decide +kernel) rfl
theorem lX7_150 : Cond.methodLink RX7 150 yX7_must ∈ zWs := zWs_in 1260 (by decide +kernel) rfl
theorem lX7_154 : Cond.methodLink RX7 154 yX7_of ∈ zWs := zWs_in 1304 (by decide +kernel) rfl
theorem lX7_159 : Cond.methodLink RX7 159 yX7_isName ∈ zWs := zWs_in 1300 (by decide +kernel) rfl
theorem lX7_164 : Cond.methodLink RX7 164 yX7_isTaken ∈ zWs := zWs_in 1283 (by decide +kernel) rfl
theorem lX7_167 : Cond.methodLink RX7 167 yX7_takes ∈ zWs := zWs_in 1287 (by decide +kernel) rfl
theorem lX7_178 : Cond.methodLink RX7 178 yX7_readsOwned ∈ zWs := zWs_in 1313 (by decide +kernel) rfl
theorem lX7_183 : Cond.methodLink RX7 183 yX7_isSign ∈ zWs := zWs_in 1278 (by decide +kernel) rfl
theorem lX7_187 : Cond.methodLink RX7 187 yX7_ownerOf ∈ zWs := zWs_in 1317 (by decide +kernel) rfl
theorem lX7_190 : Cond.methodLink RX7 190 yX7_owns ∈ zWs := zWs_in 1321 (by decide +kernel) rfl
theorem lX7_195 : Cond.methodLink RX7 195 yX7_readsRow ∈ zWs := zWs_in 1268 (by decide +kernel) rfl
theorem lX7_200 : Cond.methodLink RX7 200 yX7_readsPlayer ∈ zWs := zWs_in 1295 (by decide +kernel) rfl
theorem lX7_203 : Cond.methodLink RX7 203 yX7_players ∈ zWs := zWs_in 1326 (by decide +kernel) rfl
theorem lX7_206 : Cond.methodLink RX7 206 yX7_putsRight ∈ zWs := zWs_in 1330 (by decide +kernel) rfl
theorem lX7_209 : Cond.methodLink RX7 209 yX7_squares ∈ zWs := zWs_in 1342 (by decide +kernel) rfl
theorem lX7_212 : Cond.methodLink RX7 212 yX7_firstOf ∈ zWs := zWs_in 1397 (by decide +kernel) rfl
theorem lX7_215 : Cond.methodLink RX7 215 yX7_isForbidden ∈ zWs := zWs_in 1346 (by decide +kernel) rfl
theorem lX7_219 : Cond.methodLink RX7 219 yX7_openFrom ∈ zWs := zWs_in 1338 (by decide +kernel) rfl
theorem lX7_222 : Cond.methodLink RX7 222 yX7_openRound ∈ zWs := zWs_in 1334 (by decide +kernel) rfl
theorem lX7_225 : Cond.methodLink RX7 225 yX7_isMarked ∈ zWs := zWs_in 1425 (by decide +kernel) rfl
theorem lX7_228 : Cond.methodLink RX7 228 yX7_isUsable ∈ zWs := zWs_in 1421 (by decide +kernel) rfl
theorem lX7_231 : Cond.methodLink RX7 231 yX7_last ∈ zWs := zWs_in 1464 (by decide +kernel) rfl
theorem lX7_237 : Cond.methodLink RX7 237 yX7_runAt ∈ zWs := zWs_in 1481 (by decide +kernel) rfl
theorem lX7_240 : Cond.methodLink RX7 240 yX7_mayHop ∈ zWs := zWs_in 1477 (by decide +kernel) rfl
theorem lX7_245 : Cond.methodLink RX7 245 yX7_rowOf ∈ zWs := zWs_in 1393 (by decide +kernel) rfl
theorem lX7_248 : Cond.methodLink RX7 248 yX7_rowAt ∈ zWs := zWs_in 1468 (by decide +kernel) rfl
theorem lX7_252 : Cond.methodLink RX7 252 yX7_footingOf ∈ zWs := zWs_in 1417 (by decide +kernel) rfl
theorem lX7_256 : Cond.methodLink RX7 256 yX7_leastBy ∈ zWs := zWs_in 1473 (by decide +kernel) rfl
theorem lX7_263 : Cond.methodLink RX7 263 yX7_lays ∈ zWs := zWs_in 1460 (by decide +kernel) rfl
theorem lX7_267 : Cond.methodLink RX7 267 yX7_faultWith ∈ zWs := zWs_in 1456 (by decide +kernel) rfl
theorem lX7_270 : Cond.methodLink RX7 270 yX7_owned ∈ zWs := zWs_in 1362 (by decide +kernel) rfl
theorem lX7_273 : Cond.methodLink RX7 273 yX7_bits ∈ zWs := zWs_in 1366 (by decide +kernel) rfl
theorem lX7_276 : Cond.methodLink RX7 276 yX7_ownedAll ∈ zWs := zWs_in 1358 (by decide +kernel) rfl
theorem lX7_279 : Cond.methodLink RX7 279 yX7_markers ∈ zWs := zWs_in 1369 (by decide +kernel) rfl
theorem lX7_282 : Cond.methodLink RX7 282 yX7_richest ∈ zWs := zWs_in 1373 (by decide +kernel) rfl
theorem lX7_285 : Cond.methodLink RX7 285 yX7_isPlayer ∈ zWs := zWs_in 1381 (by decide +kernel) rfl
theorem lX7_288 : Cond.methodLink RX7 288 yX7_isSquare ∈ zWs := zWs_in 1389 (by decide +kernel) rfl
theorem lX7_291 : Cond.methodLink RX7 291 yX7_markersOn ∈ zWs := zWs_in 1401 (by decide +kernel) rfl
theorem lX7_294 : Cond.methodLink RX7 294 yX7_isRowOf ∈ zWs := zWs_in 1409 (by decide +kernel) rfl
theorem lX7_297 : Cond.methodLink RX7 297 yX7_isThrow ∈ zWs := zWs_in 1433 (by decide +kernel) rfl
theorem lX7_300 : Cond.methodLink RX7 300 yX7_faultOf ∈ zWs := zWs_in 1436 (by decide +kernel) rfl
theorem lX7_303 : Cond.methodLink RX7 303 yX7_bestOf ∈ zWs := zWs_in 1444 (by decide +kernel) rfl
theorem lX7_306 : Cond.methodLink RX7 306 yX7_hopFaultOf ∈ zWs := zWs_in 1452 (by decide +kernel) rfl
theorem lX7_309 : Cond.methodLink RX7 309 yX7_costOf ∈ zWs := zWs_in 1489 (by decide +kernel) rfl
theorem lX7_312 : Cond.methodLink RX7 312 yX7_playableOf ∈ zWs := zWs_in 1505 (by decide +kernel) rfl
theorem lX7_318 : Cond.methodLink RX7 318 Lib.Math.max.name ∈ zWs := zWs_in 1521 (by decide +kernel) rfl
theorem lX7_321 : Cond.methodLink RX7 321 yX7_turns ∈ zWs := zWs_in 1522 (by decide +kernel) rfl
theorem lX7_327 : Cond.methodLink RX7 327 yX7_plays ∈ zWs := zWs_in 1517 (by decide +kernel) rfl
theorem lX7_333 : Cond.methodLink RX7 333 yX7_hops ∈ zWs := zWs_in 1526 (by decide +kernel) rfl
theorem lX7_337 : Cond.methodLink RX7 337 yX7_goesThrough ∈ zWs := zWs_in 1530 (by decide +kernel) rfl
theorem lX7_340 : Cond.methodLink RX7 340 yX7_ends ∈ zWs := zWs_in 1534 (by decide +kernel) rfl
theorem lX7_343 : Cond.methodLink RX7 343 yX7_mayBe ∈ zWs := zWs_in 1574 (by decide +kernel) rfl
theorem lX7_349 : Cond.methodLink RX7 349 yX7_says ∈ zWs := zWs_in 1586 (by decide +kernel) rfl
theorem lX7_352 : Cond.methodLink RX7 352 yX7_saysSquare ∈ zWs := zWs_in 1590 (by decide +kernel) rfl
theorem lX7_48 : Cond.methodLink RX7 48 yX7_begins ∈ zWs := zWs_in 1105 (by decide +kernel) rfl
theorem lX7_51 : Cond.methodLink RX7 51 yX7_beginsPlayer ∈ zWs := zWs_in 1109 (by decide +kernel) rfl
theorem lX7_55 : Cond.methodLink RX7 55 yX7_sets ∈ zWs := zWs_in 1113 (by decide +kernel) rfl
theorem lX7_65 : Cond.methodLink RX7 65 yX7_copies ∈ zWs := zWs_in 1207 (by decide +kernel) rfl
theorem lX7_69 : Cond.methodLink RX7 69 yX7_isIn ∈ zWs := zWs_in 1214 (by decide +kernel) rfl
theorem lX7_73 : Cond.methodLink RX7 73 yX7_keeps ∈ zWs := zWs_in 1221 (by decide +kernel) rfl
theorem lX7_77 : Cond.methodLink RX7 77 yX7_byteOf ∈ zWs := zWs_in 1229 (by decide +kernel) rfl
theorem lX7_84 : Cond.methodLink RX7 84 yX7_see ∈ zWs := zWs_in 1240 (by decide +kernel) rfl
theorem lJ0_1059 : Cond.methodLink RJ0 1059 yJ3_checkIndex_8e157 ∈ zWs := zWs_in 463 (by decide +kernel) rfl
theorem lJ0_335 : Cond.methodLink RJ0 335 yJ0_coder_7d493 ∈ zWs := zWs_in 441 (by decide +kernel) rfl
theorem lJ0_492 : Cond.methodLink RJ0 492 yJ0_isLatin1_aae02 ∈ zWs := zWs_in 451 (by decide +kernel) rfl
theorem lJ0_495 : Cond.methodLink RJ0 495 yJ1_charAt_3b067 ∈ zWs := zWs_in 455 (by decide +kernel) rfl
theorem lJ0_498 : Cond.methodLink RJ0 498 yJ2_charAt_3b067 ∈ zWs := zWs_in 466 (by decide +kernel) rfl
theorem lJ1_9 : Cond.methodLink RJ1 9 yJ0_checkIndex_df160 ∈ zWs := zWs_in 458 (by decide +kernel) rfl
theorem lX1_104 : Cond.methodLinkNest RX1 104 yX0_leastPower "HopscotchCourt" ∈ zNst := zNst_in 594 (by decide +kernel) rfl
theorem lX1_107 : Cond.methodLinkNest RX1 107 yX0_sideOf "HopscotchCourt" ∈ zNst := zNst_in 601 (by decide +kernel) rfl
theorem lX1_11 : Cond.methodLinkNest RX1 11 yX4_init "HopscotchCourt" ∈ zNst := zNst_in 251 (by decide +kernel) rfl
theorem lX1_23 : Cond.methodLinkNest RX1 23 yX0_get "HopscotchCourt" ∈ zNst := zNst_in 593 (by decide +kernel) rfl
theorem lX1_29 : Cond.methodLinkNest RX1 29 yX4_seek "HopscotchCourt" ∈ zNst := zNst_in 622 (by decide +kernel) rfl
theorem lX1_37 : Cond.methodLinkNest RX1 37 yX0_isForbidden "HopscotchCourt" ∈ zNst := zNst_in 988 (by decide +kernel) rfl
theorem lX1_54 : Cond.methodLinkNest RX1 54 yX0_faultOfThrow "HopscotchCourt" ∈ zNst := zNst_in 609 (by decide +kernel) rfl
theorem lX1_58 : Cond.methodLinkNest RX1 58 yX0_put "HopscotchCourt" ∈ zNst := zNst_in 617 (by decide +kernel) rfl
theorem lX1_69 : Cond.methodLinkNest RX1 69 yX0_endTurn "HopscotchCourt" ∈ zNst := zNst_in 690 (by decide +kernel) rfl
theorem lX1_77 : Cond.methodLinkNest RX1 77 yX0_moveTargetOn "HopscotchCourt" ∈ zNst := zNst_in 685 (by decide +kernel) rfl
theorem lX1_83 : Cond.methodLinkNest RX1 83 yX0_markedSquares "HopscotchCourt" ∈ zNst := zNst_in 679 (by decide +kernel) rfl
theorem lX1_87 : Cond.methodLinkNest RX1 87 yX0_usableSet "HopscotchCourt" ∈ zNst := zNst_in 680 (by decide +kernel) rfl
theorem lX1_97 : Cond.methodLinkNest RX1 97 yX0_addLandings "HopscotchCourt" ∈ zNst := zNst_in 681 (by decide +kernel) rfl
theorem lX2_17 : Cond.methodLinkNest RX2 17 yX0_init "HopscotchCourt" ∈ zNst := zNst_in 311 (by decide +kernel) rfl
theorem lX2_22 : Cond.methodLinkNest RX2 22 yX0_copyFrom "HopscotchCourt" ∈ zNst := zNst_in 572 (by decide +kernel) rfl
theorem lX3_100 : Cond.methodLinkNest RX3 100 yX0_addLetter "HopscotchCourt" ∈ zNst := zNst_in 522 (by decide +kernel) rfl
theorem lX3_103 : Cond.methodLinkNest RX3 103 yX0_hasSameName "HopscotchCourt" ∈ zNst := zNst_in 523 (by decide +kernel) rfl
theorem lX3_123 : Cond.methodLinkNest RX3 123 yX6_lowestOf "HopscotchCourt" ∈ zNst := zNst_in 536 (by decide +kernel) rfl
theorem lX3_130 : Cond.methodLinkNest RX3 130 yX6_highestOf "HopscotchCourt" ∈ zNst := zNst_in 539 (by decide +kernel) rfl
theorem lX3_134 : Cond.methodLinkNest RX3 134 yX0_put "HopscotchCourt" ∈ zNst := zNst_in 542 (by decide +kernel) rfl
theorem lX3_22 : Cond.methodLinkNest RX3 22 yX0_wipe "HopscotchCourt" ∈ zNst := zNst_in 419 (by decide +kernel) rfl
theorem lX3_41 : Cond.methodLinkNest RX3 41 yX0_mendTargets "HopscotchCourt" ∈ zNst := zNst_in 552 (by decide +kernel) rfl
theorem lX3_68 : Cond.methodLinkNest RX3 68 yX0_addRow "HopscotchCourt" ∈ zNst := zNst_in 499 (by decide +kernel) rfl
theorem lX3_90 : Cond.methodLinkNest RX3 90 yX0_addPlayer "HopscotchCourt" ∈ zNst := zNst_in 517 (by decide +kernel) rfl
theorem lX4_43 : Cond.methodLinkNest RX4 43 yX0_get "HopscotchCourt" ∈ zNst := zNst_in 626 (by decide +kernel) rfl
theorem lX4_72 : Cond.methodLinkNest RX4 72 yX0_markedSquares "HopscotchCourt" ∈ zNst := zNst_in 631 (by decide +kernel) rfl
theorem lX4_76 : Cond.methodLinkNest RX4 76 yX0_usableSet "HopscotchCourt" ∈ zNst := zNst_in 635 (by decide +kernel) rfl
theorem lX4_79 : Cond.methodLinkNest RX4 79 yX0_squaresOf "HopscotchCourt" ∈ zNst := zNst_in 643 (by decide +kernel) rfl
theorem lX4_85 : Cond.methodLinkNest RX4 85 yX0_footingOf "HopscotchCourt" ∈ zNst := zNst_in 648 (by decide +kernel) rfl
theorem lX5_19 : Cond.methodLinkNest RX5 19 yX0_markedSquares "HopscotchCourt" ∈ zNst := zNst_in 716 (by decide +kernel) rfl
theorem lX5_28 : Cond.methodLinkNest RX5 28 yX0_sideOf "HopscotchCourt" ∈ zNst := zNst_in 717 (by decide +kernel) rfl
theorem lX6_11 : Cond.methodLinkNest RX6 11 yX0_init "HopscotchCourt" ∈ zNst := zNst_in 160 (by decide +kernel) rfl
theorem lX6_118 : Cond.methodLinkNest RX6 118 yX0_ownedSquares "HopscotchCourt" ∈ zNst := zNst_in 820 (by decide +kernel) rfl
theorem lX6_122 : Cond.methodLinkNest RX6 122 yX0_lyingMarkers "HopscotchCourt" ∈ zNst := zNst_in 824 (by decide +kernel) rfl
theorem lX6_131 : Cond.methodLinkNest RX6 131 yX0_richest "HopscotchCourt" ∈ zNst := zNst_in 828 (by decide +kernel) rfl
theorem lX6_144 : Cond.methodLinkNest RX6 144 yX0_squaresOf "HopscotchCourt" ∈ zNst := zNst_in 877 (by decide +kernel) rfl
theorem lX6_147 : Cond.methodLinkNest RX6 147 yX0_get "HopscotchCourt" ∈ zNst := zNst_in 878 (by decide +kernel) rfl
theorem lX6_158 : Cond.methodLinkNest RX6 158 yX0_sideOf "HopscotchCourt" ∈ zNst := zNst_in 891 (by decide +kernel) rfl
theorem lX6_164 : Cond.methodLinkNest RX6 164 yX0_markersOn "HopscotchCourt" ∈ zNst := zNst_in 892 (by decide +kernel) rfl
theorem lX6_178 : Cond.methodLinkNest RX6 178 yX0_widthOf "HopscotchCourt" ∈ zNst := zNst_in 909 (by decide +kernel) rfl
theorem lX6_181 : Cond.methodLinkNest RX6 181 yX0_markedSquares "HopscotchCourt" ∈ zNst := zNst_in 917 (by decide +kernel) rfl
theorem lX6_184 : Cond.methodLinkNest RX6 184 yX0_usableSet "HopscotchCourt" ∈ zNst := zNst_in 918 (by decide +kernel) rfl
theorem lX6_187 : Cond.methodLinkNest RX6 187 yX0_footingOf "HopscotchCourt" ∈ zNst := zNst_in 919 (by decide +kernel) rfl
theorem lX6_195 : Cond.methodLinkNest RX6 195 yX0_faultOfThrow "HopscotchCourt" ∈ zNst := zNst_in 931 (by decide +kernel) rfl
theorem lX6_198 : Cond.methodLinkNest RX6 198 yX0_leastPower "HopscotchCourt" ∈ zNst := zNst_in 939 (by decide +kernel) rfl
theorem lX6_201 : Cond.methodLinkNest RX6 201 yX1_faultOfHops "HopscotchCourt" ∈ zNst := zNst_in 698 (by decide +kernel) rfl
theorem lX6_205 : Cond.methodLinkNest RX6 205 yX1_ownWay "HopscotchCourt" ∈ zNst := zNst_in 954 (by decide +kernel) rfl
theorem lX6_21 : Cond.methodLinkNest RX6 21 yX1_init "HopscotchCourt" ∈ zNst := zNst_in 245 (by decide +kernel) rfl
theorem lX6_222 : Cond.methodLinkNest RX6 222 yX1_hasBothWays "HopscotchCourt" ∈ zNst := zNst_in 973 (by decide +kernel) rfl
theorem lX6_226 : Cond.methodLinkNest RX6 226 yX1_playableSquares "HopscotchCourt" ∈ zNst := zNst_in 984 (by decide +kernel) rfl
theorem lX6_229 : Cond.methodLinkNest RX6 229 yX1_playableByOthers "HopscotchCourt" ∈ zNst := zNst_in 997 (by decide +kernel) rfl
theorem lX6_232 : Cond.methodLinkNest RX6 232 yX1_playUntilCrown "HopscotchCourt" ∈ zNst := zNst_in 589 (by decide +kernel) rfl
theorem lX6_242 : Cond.methodLinkNest RX6 242 yX1_playTurn "HopscotchCourt" ∈ zNst := zNst_in 1016 (by decide +kernel) rfl
theorem lX6_246 : Cond.methodLinkNest RX6 246 yX0_endTurn "HopscotchCourt" ∈ zNst := zNst_in 707 (by decide +kernel) rfl
theorem lX6_249 : Cond.methodLinkNest RX6 249 yX0_put "HopscotchCourt" ∈ zNst := zNst_in 1024 (by decide +kernel) rfl
theorem lX6_253 : Cond.methodLinkNest RX6 253 yX0_mendTargets "HopscotchCourt" ∈ zNst := zNst_in 1025 (by decide +kernel) rfl
theorem lX6_278 : Cond.methodLinkNest RX6 278 yX2_bringBack "HopscotchCourt" ∈ zNst := zNst_in 1068 (by decide +kernel) rfl
theorem lX6_28 : Cond.methodLinkNest RX6 28 yX2_init "HopscotchCourt" ∈ zNst := zNst_in 305 (by decide +kernel) rfl
theorem lX6_286 : Cond.methodLinkNest RX6 286 yX5_write "HopscotchCourt" ∈ zNst := zNst_in 712 (by decide +kernel) rfl
theorem lX6_43 : Cond.methodLinkNest RX6 43 yX3_init "HopscotchCourt" ∈ zNst := zNst_in 325 (by decide +kernel) rfl
theorem lX6_50 : Cond.methodLinkNest RX6 50 yX5_init "HopscotchCourt" ∈ zNst := zNst_in 357 (by decide +kernel) rfl
theorem lX6_55 : Cond.methodLinkNest RX6 55 yX0_addRow "HopscotchCourt" ∈ zNst := zNst_in 370 (by decide +kernel) rfl
theorem lX6_59 : Cond.methodLinkNest RX6 59 yX0_addPlayer "HopscotchCourt" ∈ zNst := zNst_in 374 (by decide +kernel) rfl
theorem lX6_62 : Cond.methodLinkNest RX6 62 yX0_addLetter "HopscotchCourt" ∈ zNst := zNst_in 382 (by decide +kernel) rfl
theorem lX6_65 : Cond.methodLinkNest RX6 65 yX3_bytesIn "HopscotchCourt" ∈ zNst := zNst_in 738 (by decide +kernel) rfl
theorem lX6_80 : Cond.methodLinkNest RX6 80 yX3_addBytes "HopscotchCourt" ∈ zNst := zNst_in 808 (by decide +kernel) rfl
theorem lX6_83 : Cond.methodLinkNest RX6 83 yX3_readCourt "HopscotchCourt" ∈ zNst := zNst_in 415 (by decide +kernel) rfl
theorem lX6_90 : Cond.methodLinkNest RX6 90 yX2_keep "HopscotchCourt" ∈ zNst := zNst_in 568 (by decide +kernel) rfl
theorem lX6_94 : Cond.methodLinkNest RX6 94 yX0_copyFrom "HopscotchCourt" ∈ zNst := zNst_in 580 (by decide +kernel) rfl
theorem cJ6_k265 : Cond.constant RJ6 265 (Int32.ofInt 1431655765) ∈ zWs := zWs_in 655 (by decide +kernel) rfl
theorem cJ6_k266 : Cond.constant RJ6 266 (Int32.ofInt 858993459) ∈ zWs := zWs_in 656 (by decide +kernel) rfl
theorem cJ6_k267 : Cond.constant RJ6 267 (Int32.ofInt 252645135) ∈ zWs := zWs_in 657 (by decide +kernel) rfl
theorem cX4_k68 : Cond.constant RX4 68 (Int32.ofInt 1000000) ∈ zWs := zWs_in 666 (by decide +kernel) rfl
theorem cX7_k244 : Cond.constant RX7 244 (Int32.ofInt 1000000) ∈ zWs := zWs_in 1472 (by decide +kernel) rfl
theorem z_ac : Cond.native arraycopyName ∈ zWs ∧ Cond.static arraycopyName ∈ zWs ∧ Cond.initialized "java/lang/System" ∈ zWs := ⟨zWs_in 578 (by decide +kernel) rfl, zWs_in 577 (by decide +kernel) rfl, zWs_in 146 (by decide +kernel) rfl⟩
theorem z_mmax : Cond.static Lib.Math.max.name ∈ zWs ∧ Cond.initialized "java/lang/Math" ∈ zWs ∧ Cond.code Lib.Math.max.name Lib.Math.max.code 2 (some .int) ∈ zWs := ⟨zWs_in 599 (by decide +kernel) rfl, zWs_in 145 (by decide +kernel) rfl, zWs_in 600 (by decide +kernel) rfl⟩
theorem z_mmin : Cond.static Lib.Math.min.name ∈ zWs ∧ Cond.initialized "java/lang/Math" ∈ zWs ∧ Cond.code Lib.Math.min.name Lib.Math.min.code 2 (some .int) ∈ zWs := ⟨zWs_in 510 (by decide +kernel) rfl, zWs_in 145 (by decide +kernel) rfl, zWs_in 511 (by decide +kernel) rfl⟩
end
section
/-! the ids: by program (wip/whole/gen/ids.py) -/
theorem zk_96 : zk 96 = (6, 0) := by decide
theorem zr_96_0 : zr 96 0 = some 0 := by decide
theorem zr_96_1 : zr 96 1 = some 8 := by decide
theorem zr_96_2 : zr 96 2 = some 97 := by decide
theorem zr_96_3 : zr 96 3 = some 108 := by decide
theorem zr_96_4 : zr 96 4 = some 110 := by decide
theorem zr_96_5 : zr 96 5 = some 111 := by decide
theorem zr_96_6 : zr 96 6 = some 112 := by decide
theorem zr_96_7 : zr 96 7 = some 114 := by decide
theorem zk_97 : zk 97 = (1, 0) := by decide
theorem zr_97_0 : zr 97 0 = some 98 := by decide
theorem zr_97_1 : zr 97 1 = some 103 := by decide
theorem zk_98 : zk 98 = (4, 0) := by decide
theorem zr_98_0 : zr 98 0 = none := by decide
theorem zr_98_1 : zr 98 1 = none := by decide
theorem zr_98_2 : zr 98 2 = none := by decide
theorem zr_98_3 : zr 98 3 = some 99 := by decide
theorem zr_98_4 : zr 98 4 = none := by decide
theorem zr_98_5 : zr 98 5 = none := by decide
theorem zr_98_6 : zr 98 6 = none := by decide
theorem zr_98_7 : zr 98 7 = none := by decide
theorem zr_98_8 : zr 98 8 = some 100 := by decide
theorem zr_98_9 : zr 98 9 = some 101 := by decide
theorem zr_98_10 : zr 98 10 = some 102 := by decide
theorem zk_99 : zk 99 = (10, 11) := by decide
theorem zk_100 : zk 100 = (10, 12) := by decide
theorem zk_101 : zk 101 = (10, 120) := by decide
theorem zk_102 : zk 102 = (10, 120) := by decide
theorem zk_103 : zk 103 = (4, 0) := by decide
theorem zr_103_0 : zr 103 0 = none := by decide
theorem zr_103_1 : zr 103 1 = none := by decide
theorem zr_103_2 : zr 103 2 = none := by decide
theorem zr_103_3 : zr 103 3 = some 104 := by decide
theorem zr_103_4 : zr 103 4 = none := by decide
theorem zr_103_5 : zr 103 5 = none := by decide
theorem zr_103_6 : zr 103 6 = none := by decide
theorem zr_103_7 : zr 103 7 = none := by decide
theorem zr_103_8 : zr 103 8 = some 105 := by decide
theorem zr_103_9 : zr 103 9 = some 106 := by decide
theorem zr_103_10 : zr 103 10 = some 107 := by decide
theorem zk_104 : zk 104 = (10, 11) := by decide
theorem zk_105 : zk 105 = (10, 12) := by decide
theorem zk_106 : zk 106 = (10, 120) := by decide
theorem zk_107 : zk 107 = (10, 120) := by decide
theorem zk_108 : zk 108 = (2, 0) := by decide
theorem zr_108_0 : zr 108 0 = some 109 := by decide
theorem zr_108_1 : zr 108 1 = none := by decide
theorem zr_108_2 : zr 108 2 = none := by decide
theorem zk_109 : zk 109 = (13, 8) := by decide
theorem zk_110 : zk 110 = (13, 2) := by decide
theorem zk_111 : zk 111 = (12, 2) := by decide
theorem zk_112 : zk 112 = (3, 0) := by decide
theorem zr_112_0 : zr 112 0 = some 113 := by decide
theorem zr_112_1 : zr 112 1 = none := by decide
theorem zr_112_2 : zr 112 2 = none := by decide
theorem zr_112_3 : zr 112 3 = none := by decide
theorem zr_112_4 : zr 112 4 = none := by decide
theorem zr_112_5 : zr 112 5 = none := by decide
theorem zr_112_6 : zr 112 6 = none := by decide
theorem zk_113 : zk 113 = (11, 600) := by decide
theorem zk_114 : zk 114 = (5, 0) := by decide
theorem zr_114_0 : zr 114 0 = some 115 := by decide
theorem zr_114_1 : zr 114 1 = none := by decide
theorem zk_115 : zk 115 = (11, 300) := by decide
theorem zk_116 : zk 116 = (7, 0) := by decide
theorem zr_116_0 : zr 116 0 = some 117 := by decide
theorem zr_116_1 : zr 116 1 = some 118 := by decide
theorem zr_116_2 : zr 116 2 = some 119 := by decide
theorem zr_116_3 : zr 116 3 = some 120 := by decide
theorem zr_116_4 : zr 116 4 = some 121 := by decide
theorem zr_116_5 : zr 116 5 = some 122 := by decide
theorem zr_116_6 : zr 116 6 = none := by decide
theorem zr_116_7 : zr 116 7 = none := by decide
theorem zr_116_8 : zr 116 8 = some 123 := by decide
theorem zr_116_9 : zr 116 9 = none := by decide
theorem zr_116_10 : zr 116 10 = none := by decide
theorem zr_116_11 : zr 116 11 = none := by decide
theorem zr_116_12 : zr 116 12 = none := by decide
theorem zr_116_13 : zr 116 13 = none := by decide
theorem zr_116_14 : zr 116 14 = none := by decide
theorem zr_116_15 : zr 116 15 = none := by decide
theorem zr_116_16 : zr 116 16 = none := by decide
theorem zr_116_17 : zr 116 17 = some 124 := by decide
theorem zr_116_18 : zr 116 18 = some 125 := by decide
theorem zr_116_19 : zr 116 19 = some 126 := by decide
theorem zr_116_20 : zr 116 20 = none := by decide
theorem zr_116_21 : zr 116 21 = none := by decide
theorem zr_116_22 : zr 116 22 = none := by decide
theorem zr_116_23 : zr 116 23 = none := by decide
theorem zr_116_24 : zr 116 24 = none := by decide
theorem zr_116_25 : zr 116 25 = some 127 := by decide
theorem zr_116_26 : zr 116 26 = none := by decide
theorem zk_117 : zk 117 = (10, 160) := by decide
theorem zk_118 : zk 118 = (10, 160) := by decide
theorem zk_119 : zk 119 = (10, 160) := by decide
theorem zk_120 : zk 120 = (10, 1280) := by decide
theorem zk_121 : zk 121 = (10, 320) := by decide
theorem zk_122 : zk 122 = (12, 2) := by decide
theorem zk_123 : zk 123 = (10, 600) := by decide
theorem zk_124 : zk 124 = (10, 120) := by decide
theorem zk_125 : zk 125 = (10, 12) := by decide
theorem zk_126 : zk 126 = (10, 12) := by decide
theorem zk_127 : zk 127 = (10, 400) := by decide
theorem zk_128 : zk 128 = (14, 1) := by decide
def zCt (c : Nat) : Prop := ∃ i : Nat, i < 12 ∧ c = 8 * i
theorem zCt.k {c : Nat} (h : zCt c) : zk c = (0, 0) := by obtain ⟨i, hi, rfl⟩ := h; exact (show ∀ i, i < 12 → (fun c => zk c = (0, 0)) (8 * i) by decide) i hi
theorem zCt.i0 {c : Nat} (h : zCt c) : zr c 0 = none := by obtain ⟨i, hi, rfl⟩ := h; exact (show ∀ i, i < 12 → (fun c => zr c 0 = none) (8 * i) by decide) i hi
theorem zCt.i1 {c : Nat} (h : zCt c) : zr c 1 = none := by obtain ⟨i, hi, rfl⟩ := h; exact (show ∀ i, i < 12 → (fun c => zr c 1 = none) (8 * i) by decide) i hi
theorem zCt.i2 {c : Nat} (h : zCt c) : zr c 2 = none := by obtain ⟨i, hi, rfl⟩ := h; exact (show ∀ i, i < 12 → (fun c => zr c 2 = none) (8 * i) by decide) i hi
theorem zCt.i3 {c : Nat} (h : zCt c) : zr c 3 = none := by obtain ⟨i, hi, rfl⟩ := h; exact (show ∀ i, i < 12 → (fun c => zr c 3 = none) (8 * i) by decide) i hi
theorem zCt.i4 {c : Nat} (h : zCt c) : zr c 4 = none := by obtain ⟨i, hi, rfl⟩ := h; exact (show ∀ i, i < 12 → (fun c => zr c 4 = none) (8 * i) by decide) i hi
theorem zCt.i5 {c : Nat} (h : zCt c) : zr c 5 = none := by obtain ⟨i, hi, rfl⟩ := h; exact (show ∀ i, i < 12 → (fun c => zr c 5 = none) (8 * i) by decide) i hi
theorem zCt.i6 {c : Nat} (h : zCt c) : zr c 6 = none := by obtain ⟨i, hi, rfl⟩ := h; exact (show ∀ i, i < 12 → (fun c => zr c 6 = none) (8 * i) by decide) i hi
theorem zCt.i7 {c : Nat} (h : zCt c) : zr c 7 = none := by obtain ⟨i, hi, rfl⟩ := h; exact (show ∀ i, i < 12 → (fun c => zr c 7 = none) (8 * i) by decide) i hi
theorem zCt.r8 {c : Nat} (h : zCt c) : zr c 8 = some (c + 1) := by obtain ⟨i, hi, rfl⟩ := h; exact (show ∀ i, i < 12 → (fun c => zr c 8 = some (c + 1)) (8 * i) by decide) i hi
theorem zCt.r9 {c : Nat} (h : zCt c) : zr c 9 = some (c + 2) := by obtain ⟨i, hi, rfl⟩ := h; exact (show ∀ i, i < 12 → (fun c => zr c 9 = some (c + 2)) (8 * i) by decide) i hi
theorem zCt.r10 {c : Nat} (h : zCt c) : zr c 10 = some (c + 3) := by obtain ⟨i, hi, rfl⟩ := h; exact (show ∀ i, i < 12 → (fun c => zr c 10 = some (c + 3)) (8 * i) by decide) i hi
theorem zCt.r11 {c : Nat} (h : zCt c) : zr c 11 = some (c + 4) := by obtain ⟨i, hi, rfl⟩ := h; exact (show ∀ i, i < 12 → (fun c => zr c 11 = some (c + 4)) (8 * i) by decide) i hi
theorem zCt.r12 {c : Nat} (h : zCt c) : zr c 12 = some (c + 5) := by obtain ⟨i, hi, rfl⟩ := h; exact (show ∀ i, i < 12 → (fun c => zr c 12 = some (c + 5)) (8 * i) by decide) i hi
theorem zCt.r13 {c : Nat} (h : zCt c) : zr c 13 = some (c + 6) := by obtain ⟨i, hi, rfl⟩ := h; exact (show ∀ i, i < 12 → (fun c => zr c 13 = some (c + 6)) (8 * i) by decide) i hi
theorem zCt.r14 {c : Nat} (h : zCt c) : zr c 14 = some (c + 7) := by obtain ⟨i, hi, rfl⟩ := h; exact (show ∀ i, i < 12 → (fun c => zr c 14 = some (c + 7)) (8 * i) by decide) i hi
theorem zCt.a1 {c : Nat} (h : zCt c) : zk (c + 1) = (10, 11) := by obtain ⟨i, hi, rfl⟩ := h; exact (show ∀ i, i < 12 → (fun c => zk (c + 1) = (10, 11)) (8 * i) by decide) i hi
theorem zCt.a2 {c : Nat} (h : zCt c) : zk (c + 2) = (10, 21) := by obtain ⟨i, hi, rfl⟩ := h; exact (show ∀ i, i < 12 → (fun c => zk (c + 2) = (10, 21)) (8 * i) by decide) i hi
theorem zCt.a3 {c : Nat} (h : zCt c) : zk (c + 3) = (10, 21) := by obtain ⟨i, hi, rfl⟩ := h; exact (show ∀ i, i < 12 → (fun c => zk (c + 3) = (10, 21)) (8 * i) by decide) i hi
theorem zCt.a4 {c : Nat} (h : zCt c) : zk (c + 4) = (10, 21) := by obtain ⟨i, hi, rfl⟩ := h; exact (show ∀ i, i < 12 → (fun c => zk (c + 4) = (10, 21)) (8 * i) by decide) i hi
theorem zCt.a5 {c : Nat} (h : zCt c) : zk (c + 5) = (10, 60) := by obtain ⟨i, hi, rfl⟩ := h; exact (show ∀ i, i < 12 → (fun c => zk (c + 5) = (10, 60)) (8 * i) by decide) i hi
theorem zCt.a6 {c : Nat} (h : zCt c) : zk (c + 6) = (11, 48) := by obtain ⟨i, hi, rfl⟩ := h; exact (show ∀ i, i < 12 → (fun c => zk (c + 6) = (11, 48)) (8 * i) by decide) i hi
theorem zCt.a7 {c : Nat} (h : zCt c) : zk (c + 7) = (10, 6) := by obtain ⟨i, hi, rfl⟩ := h; exact (show ∀ i, i < 12 → (fun c => zk (c + 7) = (10, 6)) (8 * i) by decide) i hi
def zWy (w : Nat) : Prop := w = 98 ∨ w = 103
theorem zWy.k {c : Nat} (h : zWy c) : zk c = (4, 0) := by rcases h with rfl | rfl <;> decide
theorem zWy.i0 {c : Nat} (h : zWy c) : zr c 0 = none := by rcases h with rfl | rfl <;> decide
theorem zWy.i1 {c : Nat} (h : zWy c) : zr c 1 = none := by rcases h with rfl | rfl <;> decide
theorem zWy.i2 {c : Nat} (h : zWy c) : zr c 2 = none := by rcases h with rfl | rfl <;> decide
theorem zWy.r3 {c : Nat} (h : zWy c) : zr c 3 = some (c + 1) := by rcases h with rfl | rfl <;> decide
theorem zWy.i4 {c : Nat} (h : zWy c) : zr c 4 = none := by rcases h with rfl | rfl <;> decide
theorem zWy.i5 {c : Nat} (h : zWy c) : zr c 5 = none := by rcases h with rfl | rfl <;> decide
theorem zWy.i6 {c : Nat} (h : zWy c) : zr c 6 = none := by rcases h with rfl | rfl <;> decide
theorem zWy.i7 {c : Nat} (h : zWy c) : zr c 7 = none := by rcases h with rfl | rfl <;> decide
theorem zWy.r8 {c : Nat} (h : zWy c) : zr c 8 = some (c + 2) := by rcases h with rfl | rfl <;> decide
theorem zWy.r9 {c : Nat} (h : zWy c) : zr c 9 = some (c + 3) := by rcases h with rfl | rfl <;> decide
theorem zWy.r10 {c : Nat} (h : zWy c) : zr c 10 = some (c + 4) := by rcases h with rfl | rfl <;> decide
theorem zWy.a1 {c : Nat} (h : zWy c) : zk (c + 1) = (10, 11) := by rcases h with rfl | rfl <;> decide
theorem zWy.a2 {c : Nat} (h : zWy c) : zk (c + 2) = (10, 12) := by rcases h with rfl | rfl <;> decide
theorem zWy.a3 {c : Nat} (h : zWy c) : zk (c + 3) = (10, 120) := by rcases h with rfl | rfl <;> decide
theorem zWy.a4 {c : Nat} (h : zWy c) : zk (c + 4) = (10, 120) := by rcases h with rfl | rfl <;> decide
theorem zCt_0 : zCt 0 := ⟨0, by decide, rfl⟩
theorem zCt_8 : zCt 8 := ⟨1, by decide, rfl⟩
theorem zr_109 {i : Int} (h0 : 0 ≤ i) (h1 : i < 8) : zr 109 i.toNat = some (16 + 8 * i.toNat) := (show ∀ j, j < 8 → zr 109 j = some (16 + 8 * j) by decide) _ (by omega)
theorem zr_110 {i : Int} (h0 : 0 ≤ i) (h1 : i < 2) : zr 110 i.toNat = some (80 + 8 * i.toNat) := (show ∀ j, j < 2 → zr 110 j = some (80 + 8 * j) by decide) _ (by omega)
theorem zCt_h {i : Int} (h0 : 0 ≤ i) (h1 : i < 8) : zCt (16 + 8 * i.toNat) := ⟨2 + i.toNat, by omega, by omega⟩
theorem zCt_s {i : Int} (h0 : 0 ≤ i) (h1 : i < 2) : zCt (80 + 8 * i.toNat) := ⟨10 + i.toNat, by omega, by omega⟩
theorem zCt.lt {c : Nat} (h : zCt c) : c + 7 < 96 := by obtain ⟨i, hi, rfl⟩ := h; omega
section ZG
variable {M : zM} {d t : Nat} {W₀ W₁ : zWd} {pc : Nat} {ls st : List Value} {Q : Option Value → zWd → Prop} {X : zX}
theorem rr_reti {z z' : Int} {ty : FieldType} (hd : decode M.2.1 pc = .ok (.ireturn, 1)) (hr : M.2.2.2.2 = some ty) (hn : narrow ty (zI z) = zI z) (hz : z = z') (hW : W₀ = W₁) (h : Q (some (zI z')) W₁) : RR M d t W₀ pc ls [zI z] (zEnd M Q X) X :=
  rr_base (Or.inr (Or.inl ⟨ty, z, hr, hd, rfl, hn, by rw [hz, hW]; exact h⟩))
theorem rr_retv (hd : decode M.2.1 pc = .ok (.return_, 1)) (hr : M.2.2.2.2 = none) (hW : W₀ = W₁) (h : Q none W₁) : RR M d t W₀ pc ls [] (zEnd M Q X) X :=
  rr_base (Or.inl ⟨hr, hd, rfl, by rw [hW]; exact h⟩)
theorem rr_reta {C : String} {k : Nat} (hd : decode M.2.1 pc = .ok (.areturn, 1)) (hr : M.2.2.2.2 = some (.object C)) (hW : W₀ = W₁) (h : Q (some (.ref k)) W₁) : RR M d t W₀ pc ls [.ref k] (zEnd M Q X) X :=
  rr_base (Or.inr (Or.inr (Or.inl ⟨C, k, hr, hd, rfl, by rw [hW]; exact h⟩)))
theorem rr_thr {E : String} (ht : 1 ≤ t) (hth : zThrow M pc E ∨ zThrowW M pc E) (h : X E W₀) : RR M d t W₀ pc ls [] (zEnd M Q X) X :=
  rr_base (Or.inr (Or.inr (Or.inr ⟨E, hth, rfl, ht, h⟩)))
end ZG
end
section
/-! THE MEANING: what a court is, as the row of 160 numbers that the reference keeps (a : Int → Int) -/
theorem rr_ishl1 {M : zM} {d t : Nat} {W₀ : zWd} {pc : Nat} {ls st : List Value} {K : zK} {X : zX} {b : Int} (hd : decode M.2.1 pc = .ok (.ishl, 1)) (h0 : 0 ≤ b) (h1 : b < 32) (k : RR M d t W₀ (pc + 1) ls (zI ((2 ^ b.toNat : Nat) : Int) :: st) K X) : RR M d t W₀ pc ls (zI b :: zI 1 :: st) K X := by
  refine rr_ishl hd h0 h1 ?_
  rw [Int.one_mul, show (2 : Int) ^ b.toNat = ((2 ^ b.toNat : Nat) : Int) from (Int.natCast_pow 2 _).symm]
  exact k
def iup (a : Int → Int) (i v : Int) : Int → Int := fun j => if j = i then v else a j
theorem iup_s {a : Int → Int} {i v : Int} : iup a i v i = v := by simp [iup]
theorem iup_n {a : Int → Int} {i j v : Int} (h : j ≠ i) : iup a i v j = a j := by simp [iup, h]
def zst (W : zWd) (k : Nat) (f : Int → Int) : zWd := fun k' => if k' = k then f else W k'
theorem zst_s {W : zWd} {k : Nat} {f : Int → Int} : zst W k f k = f := by simp [zst]
theorem zst_n {W : zWd} {k k' : Nat} {f : Int → Int} (h : k' ≠ k) : zst W k f k' = W k' := by simp [zst, h]
theorem zst_st {W : zWd} {k : Nat} {f g : Int → Int} : zst (zst W k f) k g = zst W k g := by
  funext k'; by_cases h : k' = k <;> simp [zst, h]
theorem zst_id {W : zWd} {k : Nat} : zst W k (W k) = W := by
  funext k'; by_cases h : k' = k <;> simp [zst, h]
theorem zup_st {W : zWd} {k : Nat} {i v : Int} : zup W k i v = zst W k (iup (W k) i v) := by
  funext k' i'; by_cases h : k' = k <;> by_cases h2 : i' = i <;> simp [zst, zup, iup, h, h2]
def aF (a : Int → Int) : Nat → Int
  | 0 => 1
  | r + 1 => aF a r + a (8 + (r : Int))
def aO (a : Int → Int) (s : Int) : Int := a (18 + 2 * (s - 1)) - 1
def aL (a : Int → Int) (s : Int) : Int := a (18 + 2 * (s - 1) + 1)
def aP (a : Int → Int) (p w : Int) : Int := a (58 + 17 * p + w)
abbrev aForb (a : Int → Int) (p s : Int) : Prop := aO a s ≠ -1 ∧ aO a s ≠ p
def aRf (a : Int → Int) (s : Int) : Nat → Nat → Nat
  | 0, r => r
  | n + 1, r => if aF a r + a (8 + (r : Int)) ≤ s then aRf a s n (r + 1) else r
def aR (a : Int → Int) (s : Int) : Nat := aRf a s 10 0
def aOpn (a : Int → Int) (p : Int) : Nat → Int → Int
  | 0, _ => 0
  | n + 1, s => if aForb a p s then aOpn a p n (s + 1) else s
def aOpen (a : Int → Int) (p s : Int) : Int := aOpn a p (a 1 + 1 - s).toNat s
/-- the numbers in their ranges; T: a bound on all that is counted -/
def zWfP (T : Int) (a : Int → Int) (p : Int) : Prop :=
  1 ≤ aP a p 0 ∧ aP a p 0 ≤ 4 ∧ 1 ≤ aP a p 1 ∧ aP a p 1 ≤ 9 ∧ 0 ≤ aP a p 2 ∧ aP a p 2 ≤ a 1 ∧ 0 ≤ aP a p 3 ∧ aP a p 3 ≤ 9 ∧ 0 ≤ aP a p 4 ∧ aP a p 4 ≤ T ∧ 0 ≤ aP a p 5 ∧ aP a p 5 ≤ a 1 ∧ 0 ≤ aP a p 6 ∧ aP a p 6 ≤ T ∧ 0 ≤ aP a p 7 ∧ aP a p 7 ≤ T ∧ 0 ≤ aP a p 8 ∧ aP a p 8 ≤ 5
def zWf (T : Int) (a : Int → Int) : Prop :=
  2 ≤ a 0 ∧ a 0 ≤ 10 ∧ (∀ r : Int, 0 ≤ r → r < a 0 → 1 ≤ a (8 + r) ∧ a (8 + r) ≤ 2) ∧ a 1 = aF a (a 0).toNat - 1 ∧ 2 ≤ a 2 ∧ a 2 ≤ 6 ∧ -9 ≤ a 3 ∧ a 3 ≤ 9 ∧ 0 ≤ a 4 ∧ a 4 < a 2 ∧ 0 ≤ a 5 ∧ a 5 ≤ T ∧ 0 ≤ a 6 ∧ a 6 ≤ T ∧ 0 ≤ a 7 ∧ a 7 ≤ T ∧
  (∀ s : Int, 1 ≤ s → s ≤ a 1 → -1 ≤ aO a s ∧ aO a s < a 2 ∧ 0 ≤ aL a s ∧ aL a s ≤ T) ∧ (∀ p : Int, 0 ≤ p → p < a 2 → zWfP T a p) ∧ T ≤ 100000000
/-- the name's letters: len of them, then zeros -/
def zNam (a : Int → Int) (p len : Int) : Prop := 0 ≤ len ∧ len ≤ 8 ∧ (∀ k : Int, 0 ≤ k → k < len → 1 ≤ aP a p (9 + k) ∧ aP a p (9 + k) ≤ 127) ∧ ∀ k : Int, len ≤ k → k < 8 → aP a p (9 + k) = 0
/-- the court at c holds what a says -/
def zCRP (W : zWd) (c : Nat) (a : Int → Int) (p : Int) : Prop :=
  W (c + 5) (p * 10 + 0) = aP a p 0 ∧ W (c + 5) (p * 10 + 1) = aP a p 1 ∧ W (c + 5) (p * 10 + 2) = aP a p 2 ∧ W (c + 5) (p * 10 + 3) = aP a p 3 ∧ W (c + 5) (p * 10 + 4) = aP a p 4 ∧ W (c + 5) (p * 10 + 5) = (if aP a p 5 = 0 then -1 else aP a p 5) ∧ W (c + 5) (p * 10 + 7) = aP a p 6 ∧ W (c + 5) (p * 10 + 8) = aP a p 7 ∧ W (c + 5) (p * 10 + 9) = aP a p 8 ∧
  zNam a p (W (c + 7) p) ∧ ∀ k : Int, 0 ≤ k → k < W (c + 7) p → W (c + 6) (p * 8 + k) = aP a p (9 + k)
def zCR (W : zWd) (c : Nat) (a : Int → Int) : Prop :=
  W c 0 = a 0 ∧ W c 1 = a 1 ∧ W c 2 = a 2 ∧ W c 3 = a 3 ∧ W c 4 = a 4 ∧ W c 5 = a 5 ∧ W c 6 = a 6 ∧ W c 7 = a 7 ∧
  (∀ r : Nat, r ≤ 10 → (r : Int) ≤ a 0 → W (c + 1) r = aF a r) ∧ (∀ s : Int, 1 ≤ s → s ≤ 20 → s ≤ a 1 → W (c + 2) s = aR a s ∧ W (c + 3) s = aO a s ∧ W (c + 4) s = aL a s) ∧
  (∀ p : Int, 0 ≤ p → p < a 2 → zCRP W c a p) ∧ ∀ i : Int, 0 ≤ i → i < 48 → -128 ≤ W (c + 6) i ∧ W (c + 6) i < 128
theorem aF_mono {T : Int} {a : Int → Int} (h : zWf T a) : ∀ (n r : Nat), ((r + n : Nat) : Int) ≤ a 0 → aF a r + n ≤ aF a (r + n) ∧ aF a (r + n) ≤ aF a r + 2 * n := by
  intro n
  induction n with
  | zero => intro r _; simp
  | succ n ih =>
    intro r hr
    obtain ⟨h1, h2⟩ := ih r (by omega)
    have h3 := h.2.2.1 ((r + n : Nat) : Int) (by omega) (by omega)
    show aF a r + ((n + 1 : Nat) : Int) ≤ aF a (r + n) + a (8 + ((r + n : Nat) : Int)) ∧ aF a (r + n) + a (8 + ((r + n : Nat) : Int)) ≤ aF a r + 2 * ((n + 1 : Nat) : Int)
    omega
theorem aF_lo {T : Int} {a : Int → Int} (h : zWf T a) {r : Nat} (hr : (r : Int) ≤ a 0) : 1 + (r : Int) ≤ aF a r ∧ aF a r ≤ 1 + 2 * r := by
  have h1 := aF_mono h r 0 (by omega)
  rw [Nat.zero_add] at h1
  exact h1
theorem aF_le {T : Int} {a : Int → Int} (h : zWf T a) {r : Nat} (hr : (r : Int) ≤ a 0) : aF a r ≤ a 1 + 1 := by
  have h1 := aF_mono h ((a 0).toNat - r) r (by omega)
  rw [show r + ((a 0).toNat - r) = (a 0).toNat by have := h.1; omega] at h1
  have := h.2.2.2.1
  omega
theorem zWf.sq {T : Int} {a : Int → Int} (h : zWf T a) : 2 ≤ a 1 ∧ a 1 ≤ 20 := by
  have h0 := h.1
  have h00 := h.2.1
  have h1 := aF_lo h (r := (a 0).toNat) (by omega)
  have h2 := h.2.2.2.1
  omega
theorem aF_step {a : Int → Int} (r : Nat) : aF a (r + 1) = aF a r + a (8 + (r : Int)) := rfl
theorem aRf_spec {a : Int → Int} {s : Int} : ∀ (n r : Nat), aF a r ≤ s → s < aF a (r + n) → r ≤ aRf a s n r ∧ aRf a s n r < r + n ∧ aF a (aRf a s n r) ≤ s ∧ s < aF a (aRf a s n r + 1) := by
  intro n
  induction n with
  | zero => intro r h1 h2; rw [Nat.add_zero] at h2; omega
  | succ n ih =>
    intro r h1 h2
    unfold aRf
    by_cases q : aF a r + a (8 + (r : Int)) ≤ s
    · rw [if_pos q]
      have h3 := ih (r + 1) q (by rw [show r + 1 + n = r + (n + 1) by omega]; exact h2)
      omega
    · rw [if_neg q]
      refine ⟨Nat.le_refl _, by omega, h1, ?_⟩
      show s < aF a r + a (8 + (r : Int))
      omega
theorem aR_spec {T : Int} {a : Int → Int} (h : zWf T a) {s : Int} (h1 : 1 ≤ s) (h2 : s ≤ a 1) : ((aR a s : Nat) : Int) < a 0 ∧ aF a (aR a s) ≤ s ∧ s < aF a (aR a s + 1) := by
  have hs := h.2.2.2.1
  have hn := h.1
  have hn2 := h.2.1
  -- the fuel is ten, the rows may be fewer: the search ends in time
  have key : ∀ (m n r : Nat), m ≤ n → aF a r ≤ s → s < aF a (r + m) → r ≤ aRf a s n r ∧ aRf a s n r < r + m ∧ aF a (aRf a s n r) ≤ s ∧ s < aF a (aRf a s n r + 1) := by
    intro m
    induction m with
    | zero => intro n r _ h1 h2; rw [Nat.add_zero] at h2; omega
    | succ m ih =>
      intro n r hmn h1 h2
      cases n with
      | zero => omega
      | succ n =>
        unfold aRf
        by_cases q : aF a r + a (8 + (r : Int)) ≤ s
        · rw [if_pos q]
          have h3 := ih n (r + 1) (by omega) q (by rw [show r + 1 + m = r + (m + 1) by omega]; exact h2)
          omega
        · rw [if_neg q]
          refine ⟨Nat.le_refl _, by omega, h1, ?_⟩
          show s < aF a r + a (8 + (r : Int))
          omega
  have h3 := key (a 0).toNat 10 0 (by omega) (by show 1 ≤ s; exact h1) (by rw [Nat.zero_add]; omega)
  exact ⟨by show ((aRf a s 10 0 : Nat) : Int) < a 0; omega, h3.2.2.1, h3.2.2.2⟩
theorem aR_uniq {T : Int} {a : Int → Int} (h : zWf T a) {s : Int} {r r' : Nat} (hr : (r : Int) < a 0) (hr' : (r' : Int) < a 0) (h1 : aF a r ≤ s) (h2 : s < aF a (r + 1)) (h3 : aF a r' ≤ s) (h4 : s < aF a (r' + 1)) : r = r' := by
  rcases Nat.lt_trichotomy r r' with q | q | q
  · have h5 := (aF_mono h (r' - (r + 1)) (r + 1) (by omega)).1
    rw [show r + 1 + (r' - (r + 1)) = r' by omega] at h5
    omega
  · exact q
  · have h5 := (aF_mono h (r - (r' + 1)) (r' + 1) (by omega)).1
    rw [show r' + 1 + (r - (r' + 1)) = r by omega] at h5
    omega
/-! sets of squares -/
def zSet (P : Nat → Bool) : Nat → Nat
  | 0 => 0
  | n + 1 => if P (n + 1) then zSet P n ||| 2 ^ (n + 1) else zSet P n
theorem zSet_bit (P : Nat → Bool) : ∀ (n i : Nat), (zSet P n).testBit i = (decide (1 ≤ i ∧ i ≤ n) && P i) := by
  intro n
  induction n with
  | zero => intro i; simp [zSet]; omega
  | succ n ih =>
    intro i
    unfold zSet
    by_cases hp : P (n + 1)
    · rw [if_pos hp, Nat.testBit_or, ih, Nat.testBit_two_pow]
      by_cases hi : n + 1 = i
      · subst hi; simp [hp]
      · have : (1 ≤ i ∧ i ≤ n + 1) ↔ (1 ≤ i ∧ i ≤ n) := by omega
        simp [hi, this]
    · rw [if_neg hp, ih]
      by_cases hi : n + 1 = i
      · subst hi; simp [hp]
      · have : (1 ≤ i ∧ i ≤ n + 1) ↔ (1 ≤ i ∧ i ≤ n) := by omega
        simp [this]
theorem zSet_lt (P : Nat → Bool) : ∀ n, zSet P n < 2 ^ (n + 1) := by
  intro n
  induction n with
  | zero => simp [zSet]
  | succ n ih =>
    have h1 : 2 ^ (n + 1) < 2 ^ (n + 1 + 1) := Nat.pow_lt_pow_right (by decide) (by omega)
    unfold zSet
    split
    · exact Nat.or_lt_two_pow (by omega) h1
    · omega
/-- the markers of all but w -/
def zMks (a : Int → Int) (w : Int) : Nat → Nat
  | 0 => 0
  | q + 1 => if (q : Int) ≠ w ∧ aP a q 5 ≠ 0 then zMks a w q ||| 2 ^ (aP a q 5).toNat else zMks a w q
theorem zMks_bit {a : Int → Int} {w : Int} : ∀ (n : Nat), (∀ q : Int, 0 ≤ q → q < n → 0 ≤ aP a q 5) → ∀ i : Nat, (zMks a w n).testBit i = true ↔ ∃ q : Int, 0 ≤ q ∧ q < n ∧ q ≠ w ∧ aP a q 5 ≠ 0 ∧ aP a q 5 = i := by
  intro n
  induction n with
  | zero => intro _ i; simp [zMks]; omega
  | succ n ih =>
    intro hp i
    have ih := ih (fun q h1 h2 => hp q h1 (by omega)) i
    have h0 := hp n (by omega) (by omega)
    unfold zMks
    by_cases hc : (n : Int) ≠ w ∧ aP a n 5 ≠ 0
    · rw [if_pos hc, Nat.testBit_or, Nat.testBit_two_pow, Bool.or_eq_true, ih]
      constructor
      · rintro (⟨q, h1, h2, h3⟩ | h)
        · exact ⟨q, h1, by omega, h3⟩
        · have h := of_decide_eq_true h
          exact ⟨n, by omega, by omega, hc.1, hc.2, by omega⟩
      · rintro ⟨q, h1, h2, h3, h4, h5⟩
        by_cases hq : q = n
        · subst hq; exact Or.inr (decide_eq_true (by omega))
        · exact Or.inl ⟨q, h1, by omega, h3, h4, h5⟩
    · rw [if_neg hc, ih]
      constructor
      · rintro ⟨q, h1, h2, h3⟩
        exact ⟨q, h1, by omega, h3⟩
      · rintro ⟨q, h1, h2, h3, h4, h5⟩
        by_cases hq : q = n
        · subst hq; exact absurd ⟨h3, h4⟩ hc
        · exact ⟨q, h1, by omega, h3, h4, h5⟩
theorem zMks_lt {a : Int → Int} {w : Int} : ∀ (n : Nat), (∀ q : Int, 0 ≤ q → q < n → aP a q 5 ≤ 20) → zMks a w n < 2 ^ 21 := by
  intro n
  induction n with
  | zero => intro _; simp [zMks]
  | succ n ih =>
    intro hp
    have ih := ih (fun q h1 h2 => hp q h1 (by omega))
    have h0 := hp n (by omega) (by omega)
    unfold zMks
    split
    · exact Nat.or_lt_two_pow ih (Nat.pow_lt_pow_right (by decide) (by omega))
    · exact ih
end
section
/-! Integer.bitCount -/
section ZH
variable {M : zM} {d t : Nat} {W₀ : zWd} {pc : Nat} {ls st : List Value} {K : zK} {X : zX}
theorem z_ush : ∀ k, k < 32 → (((nI k).toUInt32 &&& Int32.toUInt32 31).toBitVec % 32).toNat = k := by decide +kernel
theorem rr_iushr {n k : Nat} (hd : decode M.2.1 pc = .ok (.iushr, 1)) (hn : n < 4294967296) (hk : k < 32) (kk : RR M d t W₀ (pc + 1) ls (zI ((n / 2 ^ k : Nat) : Int) :: st) K X) : RR M d t W₀ pc ls (zI (k : Int) :: zI (n : Int) :: st) K X := by
  intro p l e R s m args below meth c cells slots Q D Y ad A hC hK hX H locs lsA hP hS hl
  have h9 := kk p l e R s m args below meth c cells slots Q D Y ad A hC hK hX H locs lsA hP hS hl
  have e9 := pk_ushrN hn (nI k) k (z_ush k hk)
  unfold zI at h9
  rw [show Int32.ofInt ((n / 2 ^ k : Nat) : Int) = nI (n / 2 ^ k) from rfl, ← e9] at h9
  exact lv_iushr hC.1.1 hC.1.2.1 hd rfl h9
theorem rr_ldcw {index : Nat} {n : Int} (hd : decode M.2.1 pc = .ok (.ldc_w index, 3)) (hw : Cond.constant M.1 index (Int32.ofInt n) ∈ zWs) (k : RR M d t W₀ (pc + 3) ls (zI n :: st) K X) : RR M d t W₀ pc ls st K X := by
  intro p l e R s m args below meth c cells slots Q D Y ad A hC hK hX H locs lsA hP hS hl
  exact lv_ldcw hC.1.1 hC.1.2.1 hC.1.2.2.2.1 (hC.1.2.2.2.2 _ (List.mem_cons_of_mem _ hw)) hd (k p l e R s m args below meth c cells slots Q D Y ad A hC hK hX H locs lsA hP hS hl)
end ZH
def zb1 (n : Nat) : Nat := n - (n / 2 &&& 1431655765)
def zb2 (n : Nat) : Nat := (n &&& 858993459) + (n / 4 &&& 858993459)
def zb3 (n : Nat) : Nat := (n + n / 16) &&& 252645135
def zPc (n : Nat) : Nat := (zb3 (zb2 (zb1 n)) + zb3 (zb2 (zb1 n)) / 256 + (zb3 (zb2 (zb1 n)) + zb3 (zb2 (zb1 n)) / 256) / 65536) &&& 63
theorem zb1_le (n : Nat) : (n / 2 &&& 1431655765) ≤ n := Nat.le_trans Nat.and_le_left (Nat.div_le_self _ _)
theorem zb2_lt (n : Nat) : zb2 n ≤ 1717986918 := by
  have h1 : n &&& 858993459 ≤ 858993459 := Nat.and_le_right
  have h2 : n / 4 &&& 858993459 ≤ 858993459 := Nat.and_le_right
  unfold zb2; omega
theorem zb3_lt (n : Nat) : zb3 n ≤ 252645135 := Nat.and_le_right
theorem z_sub {m n : Nat} (h : n ≤ m) : (m : Int) - (n : Int) = ((m - n : Nat) : Int) := by omega

theorem dJ6_bitCount_0f7a4_0 : decode cJ6_bitCount_0f7a4 0 = .ok (.iload_n 0, 1) := by decide +kernel
theorem dJ6_bitCount_0f7a4_1 : decode cJ6_bitCount_0f7a4 1 = .ok (.iload_n 0, 1) := by decide +kernel
theorem dJ6_bitCount_0f7a4_2 : decode cJ6_bitCount_0f7a4 2 = .ok (.iconst 1, 1) := by decide +kernel
theorem dJ6_bitCount_0f7a4_3 : decode cJ6_bitCount_0f7a4 3 = .ok (.iushr, 1) := by decide +kernel
theorem dJ6_bitCount_0f7a4_4 : decode cJ6_bitCount_0f7a4 4 = .ok (.ldc_w 265, 3) := by decide +kernel
theorem dJ6_bitCount_0f7a4_7 : decode cJ6_bitCount_0f7a4 7 = .ok (.iand, 1) := by decide +kernel
theorem dJ6_bitCount_0f7a4_8 : decode cJ6_bitCount_0f7a4 8 = .ok (.isub, 1) := by decide +kernel
theorem dJ6_bitCount_0f7a4_9 : decode cJ6_bitCount_0f7a4 9 = .ok (.istore_n 0, 1) := by decide +kernel
theorem dJ6_bitCount_0f7a4_10 : decode cJ6_bitCount_0f7a4 10 = .ok (.iload_n 0, 1) := by decide +kernel
theorem dJ6_bitCount_0f7a4_11 : decode cJ6_bitCount_0f7a4 11 = .ok (.ldc_w 266, 3) := by decide +kernel
theorem dJ6_bitCount_0f7a4_14 : decode cJ6_bitCount_0f7a4 14 = .ok (.iand, 1) := by decide +kernel
theorem dJ6_bitCount_0f7a4_15 : decode cJ6_bitCount_0f7a4 15 = .ok (.iload_n 0, 1) := by decide +kernel
theorem dJ6_bitCount_0f7a4_16 : decode cJ6_bitCount_0f7a4 16 = .ok (.iconst 2, 1) := by decide +kernel
theorem dJ6_bitCount_0f7a4_17 : decode cJ6_bitCount_0f7a4 17 = .ok (.iushr, 1) := by decide +kernel
theorem dJ6_bitCount_0f7a4_18 : decode cJ6_bitCount_0f7a4 18 = .ok (.ldc_w 266, 3) := by decide +kernel
theorem dJ6_bitCount_0f7a4_21 : decode cJ6_bitCount_0f7a4 21 = .ok (.iand, 1) := by decide +kernel
theorem dJ6_bitCount_0f7a4_22 : decode cJ6_bitCount_0f7a4 22 = .ok (.iadd, 1) := by decide +kernel
theorem dJ6_bitCount_0f7a4_23 : decode cJ6_bitCount_0f7a4 23 = .ok (.istore_n 0, 1) := by decide +kernel
theorem dJ6_bitCount_0f7a4_24 : decode cJ6_bitCount_0f7a4 24 = .ok (.iload_n 0, 1) := by decide +kernel
theorem dJ6_bitCount_0f7a4_25 : decode cJ6_bitCount_0f7a4 25 = .ok (.iload_n 0, 1) := by decide +kernel
theorem dJ6_bitCount_0f7a4_26 : decode cJ6_bitCount_0f7a4 26 = .ok (.iconst 4, 1) := by decide +kernel
theorem dJ6_bitCount_0f7a4_27 : decode cJ6_bitCount_0f7a4 27 = .ok (.iushr, 1) := by decide +kernel
theorem dJ6_bitCount_0f7a4_28 : decode cJ6_bitCount_0f7a4 28 = .ok (.iadd, 1) := by decide +kernel
theorem dJ6_bitCount_0f7a4_29 : decode cJ6_bitCount_0f7a4 29 = .ok (.ldc_w 267, 3) := by decide +kernel
theorem dJ6_bitCount_0f7a4_32 : decode cJ6_bitCount_0f7a4 32 = .ok (.iand, 1) := by decide +kernel
theorem dJ6_bitCount_0f7a4_33 : decode cJ6_bitCount_0f7a4 33 = .ok (.istore_n 0, 1) := by decide +kernel
theorem dJ6_bitCount_0f7a4_34 : decode cJ6_bitCount_0f7a4 34 = .ok (.iload_n 0, 1) := by decide +kernel
theorem dJ6_bitCount_0f7a4_35 : decode cJ6_bitCount_0f7a4 35 = .ok (.iload_n 0, 1) := by decide +kernel
theorem dJ6_bitCount_0f7a4_36 : decode cJ6_bitCount_0f7a4 36 = .ok (.bipush 8, 2) := by decide +kernel
theorem dJ6_bitCount_0f7a4_38 : decode cJ6_bitCount_0f7a4 38 = .ok (.iushr, 1) := by decide +kernel
theorem dJ6_bitCount_0f7a4_39 : decode cJ6_bitCount_0f7a4 39 = .ok (.iadd, 1) := by decide +kernel
theorem dJ6_bitCount_0f7a4_40 : decode cJ6_bitCount_0f7a4 40 = .ok (.istore_n 0, 1) := by decide +kernel
theorem dJ6_bitCount_0f7a4_41 : decode cJ6_bitCount_0f7a4 41 = .ok (.iload_n 0, 1) := by decide +kernel
theorem dJ6_bitCount_0f7a4_42 : decode cJ6_bitCount_0f7a4 42 = .ok (.iload_n 0, 1) := by decide +kernel
theorem dJ6_bitCount_0f7a4_43 : decode cJ6_bitCount_0f7a4 43 = .ok (.bipush 16, 2) := by decide +kernel
theorem dJ6_bitCount_0f7a4_45 : decode cJ6_bitCount_0f7a4 45 = .ok (.iushr, 1) := by decide +kernel
theorem dJ6_bitCount_0f7a4_46 : decode cJ6_bitCount_0f7a4 46 = .ok (.iadd, 1) := by decide +kernel
theorem dJ6_bitCount_0f7a4_47 : decode cJ6_bitCount_0f7a4 47 = .ok (.istore_n 0, 1) := by decide +kernel
theorem dJ6_bitCount_0f7a4_48 : decode cJ6_bitCount_0f7a4 48 = .ok (.iload_n 0, 1) := by decide +kernel
theorem dJ6_bitCount_0f7a4_49 : decode cJ6_bitCount_0f7a4 49 = .ok (.bipush 63, 2) := by decide +kernel
theorem dJ6_bitCount_0f7a4_51 : decode cJ6_bitCount_0f7a4 51 = .ok (.iand, 1) := by decide +kernel
theorem dJ6_bitCount_0f7a4_52 : decode cJ6_bitCount_0f7a4 52 = .ok (.ireturn, 1) := by decide +kernel
set_option maxRecDepth 4000 in
theorem eJ6_bitCount {W : zWd} {n : Nat} {Q : Option Value → zWd → Prop} {X : zX} (hn : n < 2097152) (hq : Q (some (zI (zPc n : Nat))) W) : Ev MJ6_bitCount_0f7a4 0 0 W [zI (n : Int)] Q X := by
  refine ev_of (ls := [zI (n : Int)]) (by decide) rfl (fun _ => rfl) (fun _ => Nat.le_of_ble_eq_true rfl) (Or.inl rfl) ?_
  unfold zPc at hq
  refine rr_iload_n (pc := 0) dJ6_bitCount_0f7a4_0 rfl ?_
  refine rr_iload_n (pc := 1) dJ6_bitCount_0f7a4_1 rfl ?_
  refine rr_iconst (n := 1) dJ6_bitCount_0f7a4_2 ?_
  refine rr_iushr (pc := 3) (k := 1) dJ6_bitCount_0f7a4_3 (by omega) (by decide) ?_
  refine rr_ldcw (pc := 4) dJ6_bitCount_0f7a4_4 cJ6_k265 ?_
  refine rr_iand (pc := 7) (n := 1431655765) dJ6_bitCount_0f7a4_7 (by omega) (by decide) ?_
  refine rr_isub (pc := 8) dJ6_bitCount_0f7a4_8 ?_
  rw [z_sub (zb1_le n)]
  show RR _ _ _ _ _ _ (zI ((zb1 n : Nat) : Int) :: []) _ _
  refine rr_istore_n (pc := 9) dJ6_bitCount_0f7a4_9 (by decide) ?_
  have h1 : zb1 n ≤ n := Nat.sub_le _ _
  generalize zb1 n = x1 at h1 hq ⊢
  refine rr_iload_n (pc := 10) dJ6_bitCount_0f7a4_10 rfl ?_
  refine rr_ldcw (pc := 11) dJ6_bitCount_0f7a4_11 cJ6_k266 ?_
  refine rr_iand (pc := 14) (n := 858993459) dJ6_bitCount_0f7a4_14 (by omega) (by decide) ?_
  refine rr_iload_n (pc := 15) dJ6_bitCount_0f7a4_15 rfl ?_
  refine rr_iconst (n := 2) dJ6_bitCount_0f7a4_16 ?_
  refine rr_iushr (pc := 17) (k := 2) dJ6_bitCount_0f7a4_17 (by omega) (by decide) ?_
  refine rr_ldcw (pc := 18) dJ6_bitCount_0f7a4_18 cJ6_k266 ?_
  refine rr_iand (pc := 21) (n := 858993459) dJ6_bitCount_0f7a4_21 (by omega) (by decide) ?_
  refine rr_iadd (pc := 22) dJ6_bitCount_0f7a4_22 ?_
  rw [← Int.natCast_add]
  show RR _ _ _ _ _ _ (zI ((zb2 x1 : Nat) : Int) :: []) _ _
  refine rr_istore_n (pc := 23) dJ6_bitCount_0f7a4_23 (by decide) ?_
  have h2 := zb2_lt x1
  generalize zb2 x1 = x2 at h2 hq ⊢
  refine rr_iload_n (pc := 24) dJ6_bitCount_0f7a4_24 rfl ?_
  refine rr_iload_n (pc := 25) dJ6_bitCount_0f7a4_25 rfl ?_
  refine rr_iconst (n := 4) dJ6_bitCount_0f7a4_26 ?_
  refine rr_iushr (pc := 27) (k := 4) dJ6_bitCount_0f7a4_27 (by omega) (by decide) ?_
  refine rr_iadd (pc := 28) dJ6_bitCount_0f7a4_28 ?_
  rw [← Int.natCast_add]
  refine rr_ldcw (pc := 29) dJ6_bitCount_0f7a4_29 cJ6_k267 ?_
  refine rr_iand (pc := 32) (n := 252645135) dJ6_bitCount_0f7a4_32 (by omega) (by decide) ?_
  show RR _ _ _ _ _ _ (zI ((zb3 x2 : Nat) : Int) :: []) _ _
  refine rr_istore_n (pc := 33) dJ6_bitCount_0f7a4_33 (by decide) ?_
  have h3 := zb3_lt x2
  generalize zb3 x2 = x3 at h3 hq ⊢
  refine rr_iload_n (pc := 34) dJ6_bitCount_0f7a4_34 rfl ?_
  refine rr_iload_n (pc := 35) dJ6_bitCount_0f7a4_35 rfl ?_
  refine rr_bipush (n := 8) dJ6_bitCount_0f7a4_36 ?_
  refine rr_iushr (pc := 38) (k := 8) dJ6_bitCount_0f7a4_38 (by omega) (by decide) ?_
  refine rr_iadd (pc := 39) dJ6_bitCount_0f7a4_39 ?_
  rw [← Int.natCast_add]
  generalize hx4 : x3 + x3 / 2 ^ 8 = x4
  have h4 : x4 ≤ 300000000 := by omega
  refine rr_istore_n (pc := 40) dJ6_bitCount_0f7a4_40 (by decide) ?_
  refine rr_iload_n (pc := 41) dJ6_bitCount_0f7a4_41 rfl ?_
  refine rr_iload_n (pc := 42) dJ6_bitCount_0f7a4_42 rfl ?_
  refine rr_bipush (n := 16) dJ6_bitCount_0f7a4_43 ?_
  refine rr_iushr (pc := 45) (k := 16) dJ6_bitCount_0f7a4_45 (by omega) (by decide) ?_
  refine rr_iadd (pc := 46) dJ6_bitCount_0f7a4_46 ?_
  rw [← Int.natCast_add]
  refine rr_istore_n (pc := 47) dJ6_bitCount_0f7a4_47 (by decide) ?_
  refine rr_iload_n (pc := 48) dJ6_bitCount_0f7a4_48 rfl ?_
  refine rr_bipush (n := 63) dJ6_bitCount_0f7a4_49 ?_
  refine rr_iand (pc := 51) (n := 63) dJ6_bitCount_0f7a4_51 (by omega) (by decide) ?_
  refine rr_reti (pc := 52) dJ6_bitCount_0f7a4_52 rfl rfl ?_ rfl hq
  rw [← hx4]
/-! it counts -/
def zBits (n : Nat) : Nat → Nat
  | 0 => 0
  | k + 1 => zBits n k + n / 2 ^ k % 2
theorem z_and8 {x y m k : Nat} (hx : x < 256) (hm : m < 256) : (x + 256 * y) &&& (m + 256 * k) = (x &&& m) + 256 * (y &&& k) := by
  apply Nat.eq_of_testBit_eq
  intro i
  have hxm : x &&& m < 2 ^ 8 := Nat.and_lt_two_pow _ hm
  rw [Nat.testBit_and, show x + 256 * y = 2 ^ 8 * y + x by omega, show m + 256 * k = 2 ^ 8 * k + m by omega, show (x &&& m) + 256 * (y &&& k) = 2 ^ 8 * (y &&& k) + (x &&& m) by omega,
    Nat.testBit_two_pow_mul_add _ hx, Nat.testBit_two_pow_mul_add _ hm, Nat.testBit_two_pow_mul_add _ hxm]
  by_cases h : i < 8
  · simp [h]
  · simp [h]
theorem z_and24 {x y z m k l j : Nat} (hx : x < 256) (hy : y < 256) (hz : z < 256) (hm : m < 256) (hk : k < 256) (hl : l < 256) : (x + 256 * (y + 256 * z)) &&& (m + 256 * (k + 256 * (l + 256 * j))) = (x &&& m) + 256 * ((y &&& k) + 256 * (z &&& l)) := by
  have e : z &&& (l + 256 * j) = z &&& l := by
    have h := z_and8 (x := z) (y := 0) (m := l) (k := j) hz hl
    rw [Nat.mul_zero, Nat.add_zero, Nat.zero_and, Nat.mul_zero, Nat.add_zero] at h
    exact h
  rw [z_and8 hx hm, z_and8 hy hk, e]
def zt1 (b : Nat) : Nat := b - (b / 2 &&& 85)
def zt2 (b : Nat) : Nat := (b &&& 51) + (b / 4 &&& 51)
def zt3 (b : Nat) : Nat := (b + b / 16) % 16
theorem zt1_a : ∀ b, b < 256 → ∀ z, z < 2 → (b / 2 + 128 * z) &&& 85 = b / 2 &&& 85 := by decide +kernel
theorem zt2_a : ∀ b, b < 256 → ∀ z, z < 4 → (b / 4 + 64 * z) &&& 51 = b / 4 &&& 51 := by decide +kernel
theorem zt3_a : ∀ b, b < 256 → ∀ z, z < 16 → b ≤ 68 → z ≤ 4 → (b + b / 16 + 16 * z) &&& 15 = zt3 b := by decide +kernel
theorem zt_b : ∀ b, b < 256 → (b / 2 &&& 85) ≤ b ∧ zt1 b < 256 ∧ zt2 (zt1 b) ≤ 68 ∧ zt2 (zt1 b) % 16 ≤ 4 ∧ zt3 (zt2 (zt1 b)) ≤ 8 ∧ zt3 (zt2 (zt1 b)) = zBits b 8 := by decide +kernel
theorem zb1_b {x y z : Nat} (hx : x < 256) (hy : y < 256) (hz : z < 256) : zb1 (x + 256 * (y + 256 * z)) = zt1 x + 256 * (zt1 y + 256 * zt1 z) := by
  have h1 : (x + 256 * (y + 256 * z)) / 2 = (x / 2 + 128 * (y % 2)) + 256 * ((y / 2 + 128 * (z % 2)) + 256 * (z / 2)) := by omega
  have hbx := (zt_b x hx).1
  have hby := (zt_b y hy).1
  have hbz := (zt_b z hz).1
  unfold zb1
  rw [h1, show 1431655765 = 85 + 256 * (85 + 256 * (85 + 256 * 85)) by rfl, z_and24 (by omega) (by omega) (by omega) (by omega) (by omega) (by omega), zt1_a x hx _ (by omega), zt1_a y hy _ (by omega)]
  unfold zt1
  omega
theorem zb2_b {x y z : Nat} (hx : x < 256) (hy : y < 256) (hz : z < 256) : zb2 (x + 256 * (y + 256 * z)) = zt2 x + 256 * (zt2 y + 256 * zt2 z) := by
  have h1 : (x + 256 * (y + 256 * z)) / 4 = (x / 4 + 64 * (y % 4)) + 256 * ((y / 4 + 64 * (z % 4)) + 256 * (z / 4)) := by omega
  unfold zb2
  rw [h1, show 858993459 = 51 + 256 * (51 + 256 * (51 + 256 * 51)) by rfl, z_and24 hx hy hz (by omega) (by omega) (by omega), z_and24 (by omega) (by omega) (by omega) (by omega) (by omega) (by omega), zt2_a x hx _ (by omega), zt2_a y hy _ (by omega)]
  unfold zt2
  omega
theorem zb3_b {x y z : Nat} (hx : x ≤ 68) (hy : y ≤ 68) (hz : z ≤ 68) (hy2 : y % 16 ≤ 4) (hz2 : z % 16 ≤ 4) : zb3 (x + 256 * (y + 256 * z)) = zt3 x + 256 * (zt3 y + 256 * zt3 z) := by
  have h1 : (x + 256 * (y + 256 * z)) + (x + 256 * (y + 256 * z)) / 16 = (x + x / 16 + 16 * (y % 16)) + 256 * ((y + y / 16 + 16 * (z % 16)) + 256 * (z + z / 16 + 16 * 0)) := by omega
  unfold zb3
  rw [h1, show 252645135 = 15 + 256 * (15 + 256 * (15 + 256 * 15)) by rfl, z_and24 (by omega) (by omega) (by omega) (by omega) (by omega) (by omega), zt3_a x (by omega) _ (by omega) hx hy2, zt3_a y (by omega) _ (by omega) hy hz2, zt3_a z (by omega) _ (by omega) hz (by omega)]
theorem zBits_add (x y : Nat) (hx : x < 256) : ∀ k, zBits (x + 256 * y) (8 + k) = zBits x 8 + zBits y k := by
  intro k
  induction k with
  | zero =>
    have h : ∀ j, j ≤ 8 → zBits (x + 256 * y) j = zBits x j := by
      intro j
      induction j with
      | zero => intro _; rfl
      | succ j ih =>
        intro hj
        have e : (x + 256 * y) / 2 ^ j % 2 = x / 2 ^ j % 2 := by
          have : ∀ j, j < 8 → ∃ q, 256 = 2 ^ j * (2 * q) := by
            intro j hj
            exact ⟨2 ^ (7 - j), by rw [← Nat.mul_assoc, Nat.mul_comm (2 ^ j) 2, ← Nat.pow_succ', ← Nat.pow_add, show j + 1 + (7 - j) = 8 by omega]⟩
          obtain ⟨q, hq⟩ := this j (by omega)
          rw [hq, Nat.mul_assoc, Nat.mul_assoc, Nat.add_mul_div_left _ _ (Nat.two_pow_pos j)]
          omega
        show zBits (x + 256 * y) j + _ = zBits x j + _
        rw [ih (by omega), e]
    rw [Nat.add_zero, h 8 (Nat.le_refl _)]; rfl
  | succ k ih =>
    show zBits (x + 256 * y) (8 + k) + (x + 256 * y) / 2 ^ (8 + k) % 2 = zBits x 8 + (zBits y k + y / 2 ^ k % 2)
    rw [ih, Nat.pow_add, ← Nat.div_div_eq_div_mul, show (x + 256 * y) / 2 ^ 8 = y by omega]
    omega
theorem zPc_bits {n : Nat} (hn : n < 16777216) : zPc n = zBits n 24 := by
  obtain ⟨x, y, z, hx, hy, hz, rfl⟩ : ∃ x y z, x < 256 ∧ y < 256 ∧ z < 256 ∧ n = x + 256 * (y + 256 * z) := ⟨n % 256, n / 256 % 256, n / 65536, by omega, by omega, by omega, by omega⟩
  obtain ⟨-, b1, b2, b3, b4, b5⟩ := zt_b x hx
  obtain ⟨-, c1, c2, c3, c4, c5⟩ := zt_b y hy
  obtain ⟨-, d1, d2, d3, d4, d5⟩ := zt_b z hz
  have e : zBits (x + 256 * (y + 256 * z)) 24 = zBits x 8 + (zBits y 8 + zBits z 8) := by
    rw [show 24 = 8 + (8 + 8) by rfl, zBits_add x _ hx, zBits_add y _ hy]
  unfold zPc
  rw [zb1_b hx hy hz, zb2_b b1 c1 d1, zb3_b b2 c2 d2 c3 d3, e, ← b5, ← c5, ← d5]
  generalize zt3 (zt2 (zt1 x)) = u at b4 ⊢
  generalize zt3 (zt2 (zt1 y)) = v at c4 ⊢
  generalize zt3 (zt2 (zt1 z)) = w at d4 ⊢
  rw [show (63 : Nat) = 2 ^ 6 - 1 by rfl, Nat.and_two_pow_sub_one_eq_mod]
  clear e b1 b2 b3 c1 c2 c3 d1 d2 d3 hn
  have h4 : (u + 256 * (v + 256 * w)) / 256 = v + 256 * w := by omega
  rw [h4]
  have h5 : (u + 256 * (v + 256 * w) + (v + 256 * w)) / 65536 = w := by omega
  rw [h5]
  omega
theorem zBits_hi {n k : Nat} (h : n < 2 ^ k) : ∀ j, zBits n (k + j) = zBits n k := by
  intro j
  induction j with
  | zero => rfl
  | succ j ih =>
    show zBits n (k + j) + n / 2 ^ (k + j) % 2 = _
    rw [ih, Nat.div_eq_of_lt (Nat.lt_of_lt_of_le h (Nat.pow_le_pow_right (by decide) (by omega)))]
    omega
theorem zPc_21 {n : Nat} (hn : n < 2097152) : zPc n = zBits n 21 := by
  rw [zPc_bits (by omega)]
  exact zBits_hi (k := 21) hn 3
end
section
/-! counts, and what a change does to a court -/
def zCnt (P : Nat → Bool) : Nat → Nat
  | 0 => 0
  | n + 1 => zCnt P n + (if P n then 1 else 0)
def zSet0 (P : Nat → Bool) : Nat → Nat
  | 0 => 0
  | n + 1 => if P n then zSet0 P n ||| 2 ^ n else zSet0 P n
theorem zSet0_lt (P : Nat → Bool) : ∀ n, zSet0 P n < 2 ^ n := by
  intro n
  induction n with
  | zero => exact Nat.one_pos
  | succ n ih =>
    have h1 : 2 ^ n < 2 ^ (n + 1) := Nat.pow_lt_pow_right (by decide) (by omega)
    unfold zSet0
    split
    · exact Nat.or_lt_two_pow (by omega) h1
    · omega
theorem z_p32 {k : Nat} (h : k < 32) : 2 ^ k < 4294967296 := Nat.pow_lt_pow_right (a := 2) (by decide) h
theorem zSet_32 (P : Nat → Bool) {n : Nat} (h : n ≤ 20) : zSet P n < 2097152 := Nat.lt_of_lt_of_le (zSet_lt P n) (Nat.pow_le_pow_right (n := 2) (by decide) (show n + 1 ≤ 21 by omega))
theorem zSet0_32 (P : Nat → Bool) {n : Nat} (h : n ≤ 6) : zSet0 P n < 64 := Nat.lt_of_lt_of_le (zSet0_lt P n) (Nat.pow_le_pow_right (n := 2) (by decide) h)
/-- how many squares q owns -/
def aNown (a : Int → Int) (q : Int) : Nat := zBits (zSet (fun s => decide (aO a s = q)) (a 1).toNat) 21
def aRich (a : Int → Int) : Nat → Int × Int
  | 0 => (-1, 0)
  | q + 1 => if (aRich a q).2 < (aNown a q : Int) then ((q : Int), (aNown a q : Int)) else aRich a q
def aUset (a : Int → Int) (q : Int) (m : Nat) : Nat := (zSet (fun s => decide (aO a s = -1)) (a 1).toNat ||| zSet (fun s => decide (aO a s = q)) (a 1).toNat) ^^^ ((zSet (fun s => decide (aO a s = -1)) (a 1).toNat ||| zSet (fun s => decide (aO a s = q)) (a 1).toNat) &&& m)
theorem aUset_bit {a : Int → Int} {q : Int} {m i : Nat} (h : 0 ≤ a 1) : (aUset a q m).testBit i = true ↔ 1 ≤ i ∧ (i : Int) ≤ a 1 ∧ ¬ aForb a q i ∧ m.testBit i = false := by
  unfold aUset
  rw [Nat.testBit_xor, Nat.testBit_and, Nat.testBit_or, zSet_bit, zSet_bit]
  by_cases h1 : 1 ≤ i ∧ i ≤ (a 1).toNat
  · have h2 : (i : Int) ≤ a 1 := by omega
    by_cases e1 : aO a i = -1 <;> by_cases e2 : aO a i = q <;> cases hm : m.testBit i <;> simp [h1, h2, e1, e2, aForb]
  · have h2 : ¬ (1 ≤ i ∧ (i : Int) ≤ a 1) := by omega
    simp [h1]
    intro g1 g2
    exact absurd ⟨g1, g2⟩ h2
theorem aUset_lt {a : Int → Int} {q : Int} {m : Nat} (h : a 1 ≤ 20) : aUset a q m < 2097152 := by
  have h1 := zSet_32 (fun s => decide (aO a s = -1)) (n := (a 1).toNat) (by omega)
  have h2 := zSet_32 (fun s => decide (aO a s = q)) (n := (a 1).toNat) (by omega)
  have h3 := Nat.or_lt_two_pow (n := 21) h1 h2
  exact Nat.xor_lt_two_pow (n := 21) h3 (Nat.lt_of_le_of_lt Nat.and_le_left h3)
def zFo (f : Nat) (w : Int) (u o : Nat → Bool) : Int :=
  if ¬ (u f = true) ∧ ¬ (w = 2 ∧ u (f + 1) = true) then 0 else if (w = 2 ∧ u f = true ∧ u (f + 1) = true) ∨ (u f = true ∧ o f = true) ∨ (w = 2 ∧ u (f + 1) = true ∧ o (f + 1) = true) then 2 else 1
theorem z_row1 (f u : Nat) : 2 ^ f &&& u = if u.testBit f then 2 ^ f else 0 := by
  apply Nat.eq_of_testBit_eq
  intro i
  rw [Nat.testBit_and, Nat.testBit_two_pow]
  by_cases h : f = i
  · subst h; by_cases hu : u.testBit f <;> simp [hu]
  · by_cases hu : u.testBit f <;> simp [h, hu, Nat.testBit_two_pow]
theorem z_row2 (f u : Nat) : (2 ^ f ||| 2 ^ (f + 1)) &&& u = (if u.testBit f then 2 ^ f else 0) ||| (if u.testBit (f + 1) then 2 ^ (f + 1) else 0) := by
  rw [Nat.and_or_distrib_right, z_row1, z_row1]
theorem z_sum : ∀ f, f < 21 → 2 ^ f ||| 2 ^ (f + 1) = 3 * 2 ^ f ∧ zPc (2 ^ f) = 1 ∧ (f < 20 → zPc (2 ^ f ||| 2 ^ (f + 1)) = 2) := by decide +kernel
theorem z_or0 {x y : Nat} : x ||| y = 0 ↔ x = 0 ∧ y = 0 := by
  constructor
  · intro h
    have h1 : x ≤ x ||| y := Nat.left_le_or
    have h2 : y ≤ x ||| y := Nat.right_le_or
    omega
  · rintro ⟨rfl, rfl⟩; rfl
/-- what a throw comes to -/
def aFault (a : Int → Int) (q power side : Int) : Int :=
  if power + a 3 < 0 ∨ a 0 ≤ (power + a 3) / 10 then 1 else if (power + a 3) % 10 = 0 then 2 else if aF a ((power + a 3) / 10).toNat + (if a (8 + (power + a 3) / 10) = 2 then side else 0) = aP a q 2 then 0 else 3
/-- landings -/
def aLd (P : Int → Bool) : Nat → Int → (Int → Int) → (Int → Int)
  | 0, _, a => a
  | n + 1, s, a => aLd P n (s + 1) (if P s then iup a (18 + 2 * (s - 1) + 1) (a (18 + 2 * (s - 1) + 1) + 1) else a)
def aLand (a : Int → Int) (row : Int) (P : Int → Bool) : Int → Int :=
  if row < 0 ∨ a 0 ≤ row then a else aLd P (a (8 + row)).toNat (aF a row.toNat) a
/-- the target moves on -/
def aMove (a : Int → Int) (p : Int) : Int → Int :=
  if aOpen a p (aP a p 2 + 1) = 0 then
    (let a1 := iup a (58 + 17 * p + 4) (aP a p 4 + 1)
     let a2 := iup a1 (58 + 17 * p + 3) (if aP a p 3 + 1 < 9 then aP a p 3 + 1 else 9)
     iup a2 (58 + 17 * p + 2) (aOpen a p 1))
  else iup a (58 + 17 * p + 2) (aOpen a p (aP a p 2 + 1))
/-- a turn's end -/
def aEnd (a : Int → Int) (p fault : Int) : Int → Int :=
  let a1 := iup a (58 + 17 * p + 6) (aP a p 6 + 1)
  let a2 := iup a1 (58 + 17 * p + 8) fault
  let a3 := iup a2 5 (a 5 + 1)
  iup a3 4 ((p + 1) % a 2)
def aFlt (a : Int → Int) (p fault : Int) : Int → Int := if fault = 0 then a else iup a (58 + 17 * p + 7) (aP a p 7 + 1)
/-- targets that are forbidden become others -/
def aMendT (a : Int → Int) (p : Int) : Int :=
  if aP a p 2 = 0 ∨ aForb a p (aP a p 2) then (if aOpen a p (aP a p 2 + 1) = 0 then aOpen a p 1 else aOpen a p (aP a p 2 + 1)) else aP a p 2
def aMendN (a : Int → Int) : Nat → (Int → Int)
  | 0 => a
  | p + 1 => iup (aMendN a p) (58 + 17 * (p : Int) + 2) (aMendT a p)
def aMend (a : Int → Int) : Int → Int := aMendN a (a 2).toNat
/-! what doesn't change -/
theorem aF_cg {a a' : Int → Int} (h : ∀ j : Int, 8 ≤ j → j < 18 → a' j = a j) : ∀ r : Nat, r ≤ 10 → aF a' r = aF a r := by
  intro r
  induction r with
  | zero => intro _; rfl
  | succ r ih => intro hr; rw [aF_step, aF_step, ih (by omega), h _ (by omega) (by omega)]
theorem aRf_cg {a a' : Int → Int} (h : ∀ j : Int, 8 ≤ j → j < 18 → a' j = a j) (s : Int) : ∀ n r : Nat, r + n ≤ 10 → aRf a' s n r = aRf a s n r := by
  intro n
  induction n with
  | zero => intro r _; rfl
  | succ n ih =>
    intro r hr
    unfold aRf
    rw [aF_cg h r (by omega), h _ (by omega) (by omega), ih (r + 1) (by omega)]
theorem aR_cg {a a' : Int → Int} (h : ∀ j : Int, 8 ≤ j → j < 18 → a' j = a j) (s : Int) : aR a' s = aR a s := aRf_cg h s 10 0 (by omega)
/-- a player's number: place j in the court's row, place w in the reference's -/
def zPj (j w v v' : Int) : Prop := (0 ≤ j ∧ j ≤ 4 ∧ w = j ∧ v = v') ∨ (j = 5 ∧ w = 5 ∧ v = if v' = 0 then -1 else v') ∨ (j = 7 ∧ w = 6 ∧ v = v') ∨ (j = 8 ∧ w = 7 ∧ v = v') ∨ (j = 9 ∧ w = 8 ∧ v = v')
theorem CR_P {W : zWd} {c : Nat} {a : Int → Int} {p j w v v' : Int} (h : zCR W c a) (hp0 : 0 ≤ p) (hj : zPj j w v v') : zCR (zup W (c + 5) (p * 10 + j) v) c (iup a (58 + 17 * p + w) v') := by
  obtain ⟨r0, r1, r2, r3, r4, r5, r6, r7, rF, rS, rP, rB⟩ := h
  have hjw : 0 ≤ w ∧ w ≤ 8 ∧ 0 ≤ j ∧ j ≤ 9 := by unfold zPj at hj; omega
  have n5 : ∀ (k : Nat) (i : Int), k ≠ c + 5 → zup W (c + 5) (p * 10 + j) v k i = W k i := fun k i hk => zup_k hk
  have na : ∀ i : Int, i < 58 → iup a (58 + 17 * p + w) v' i = a i := fun i hi => iup_n (by omega)
  have nF : ∀ i : Int, 8 ≤ i → i < 18 → iup a (58 + 17 * p + w) v' i = a i := fun i _ hi => na i (by omega)
  refine ⟨?_, ?_, ?_, ?_, ?_, ?_, ?_, ?_, ?_, ?_, ?_, ?_⟩
  · rw [n5 _ _ (by omega), na _ (by omega)]; exact r0
  · rw [n5 _ _ (by omega), na _ (by omega)]; exact r1
  · rw [n5 _ _ (by omega), na _ (by omega)]; exact r2
  · rw [n5 _ _ (by omega), na _ (by omega)]; exact r3
  · rw [n5 _ _ (by omega), na _ (by omega)]; exact r4
  · rw [n5 _ _ (by omega), na _ (by omega)]; exact r5
  · rw [n5 _ _ (by omega), na _ (by omega)]; exact r6
  · rw [n5 _ _ (by omega), na _ (by omega)]; exact r7
  · intro r hr10 hr
    rw [na _ (by omega)] at hr
    rw [n5 _ _ (by omega), aF_cg nF r hr10]; exact rF r hr10 hr
  · intro s h1 h20 h2
    rw [na _ (by omega)] at h2
    obtain ⟨s1, s2, s3⟩ := rS s h1 h20 h2
    refine ⟨?_, ?_, ?_⟩
    · rw [n5 _ _ (by omega), aR_cg nF]; exact s1
    · rw [n5 _ _ (by omega)]; unfold aO; rw [na _ (by omega)]; exact s2
    · rw [n5 _ _ (by omega)]; unfold aL; rw [na _ (by omega)]; exact s3
  · intro p' hp0' hp'
    rw [na _ (by omega)] at hp'
    obtain ⟨q0, q1, q2, q3, q4, q5, q7, q8, q9, ⟨g1, g2, g3, g4⟩, g5⟩ := rP p' hp0' hp'
    have e7 : zup W (c + 5) (p * 10 + j) v (c + 7) p' = W (c + 7) p' := n5 _ _ (by omega)
    have eN : ∀ k : Int, 0 ≤ k → k < 8 → aP (iup a (58 + 17 * p + w) v') p' (9 + k) = aP a p' (9 + k) := fun k hk hk8 => by unfold aP; exact iup_n (by omega)
    refine ⟨?_, ?_, ?_, ?_, ?_, ?_, ?_, ?_, ?_, ⟨?_, ?_, ?_, ?_⟩, ?_⟩
    all_goals first
      | (rw [e7]; assumption)
      | (intro k hk0 hk1; rw [e7] at hk1; rw [eN k hk0 (by omega)]; exact g3 k hk0 hk1)
      | (intro k hk0 hk1; rw [e7] at hk0; rw [eN k (by omega) hk1]; exact g4 k hk0 hk1)
      | (intro k hk0 hk1; rw [e7] at hk1; rw [eN k hk0 (by omega), n5 _ _ (by omega)]; exact g5 k hk0 hk1)
      | skip
    all_goals
      unfold zPj at hj
      by_cases hpp : p' = p
      · subst hpp
        unfold aP at *
        simp only [zup, iup, if_true]
        (repeat' split) <;> omega
      · have ea : ∀ k : Int, 0 ≤ k → k ≤ 8 → aP (iup a (58 + 17 * p + w) v') p' k = aP a p' k := fun k h1 h2 => by unfold aP; exact iup_n (by omega)
        rw [zup_i (by omega), ea _ (by omega) (by omega)]
        assumption
  · intro i hi0 hi1
    rw [n5 _ _ (by omega)]; exact rB i hi0 hi1
/-- a number of the court: places 3 to 7 -/
theorem CR_0 {W : zWd} {c : Nat} {a : Int → Int} {j v : Int} (h : zCR W c a) (hj : 3 ≤ j ∧ j ≤ 7) : zCR (zup W c j v) c (iup a j v) := by
  obtain ⟨r0, r1, r2, r3, r4, r5, r6, r7, rF, rS, rP, rB⟩ := h
  have n5 : ∀ (k : Nat) (i : Int), k ≠ c → zup W c j v k i = W k i := fun k i hk => zup_k hk
  have na : ∀ i : Int, i < 3 ∨ 7 < i → iup a j v i = a i := fun i hi => iup_n (by omega)
  have nF : ∀ i : Int, 8 ≤ i → i < 18 → iup a j v i = a i := fun i _ hi => na i (by omega)
  have e : ∀ i : Int, W c i = a i → zup W c j v c i = iup a j v i := fun i hi => by
    by_cases q : i = j
    · subst q; rw [zup_s, iup_s]
    · rw [zup_i q, iup_n q]; exact hi
  refine ⟨e _ r0, e _ r1, e _ r2, e _ r3, e _ r4, e _ r5, e _ r6, e _ r7, ?_, ?_, ?_, ?_⟩
  · intro r hr10 hr
    rw [na _ (by omega)] at hr
    rw [n5 _ _ (by omega), aF_cg nF r hr10]; exact rF r hr10 hr
  · intro s h1 h20 h2
    rw [na _ (by omega)] at h2
    obtain ⟨s1, s2, s3⟩ := rS s h1 h20 h2
    refine ⟨?_, ?_, ?_⟩
    · rw [n5 _ _ (by omega), aR_cg nF]; exact s1
    · rw [n5 _ _ (by omega)]; unfold aO; rw [na _ (by omega)]; exact s2
    · rw [n5 _ _ (by omega)]; unfold aL; rw [na _ (by omega)]; exact s3
  · intro p' hp0' hp'
    rw [na _ (by omega)] at hp'
    have h9 := rP p' hp0' hp'
    have e9 : ∀ w : Int, 0 ≤ w → aP (iup a j v) p' w = aP a p' w := fun w hw => by unfold aP; exact na _ (by omega)
    have ek : ∀ k : Int, 0 ≤ k → aP (iup a j v) p' (9 + k) = aP a p' (9 + k) := fun k hk => e9 _ (by omega)
    obtain ⟨q0, q1, q2, q3, q4, q5, q7, q8, q9, ⟨g1, g2, g3, g4⟩, g5⟩ := h9
    refine ⟨?_, ?_, ?_, ?_, ?_, ?_, ?_, ?_, ?_, ⟨?_, ?_, ?_, ?_⟩, ?_⟩
    all_goals first
      | (rw [n5 _ _ (by omega), e9 _ (by omega)]; assumption)
      | (rw [n5 _ _ (by omega)]; assumption)
      | (intro k hk0 hk1; rw [n5 _ _ (by omega)] at hk1; rw [ek k hk0]; exact g3 k hk0 hk1)
      | (intro k hk0 hk1; rw [n5 _ _ (by omega)] at hk0; rw [ek k (by omega)]; exact g4 k hk0 hk1)
      | (intro k hk0 hk1; rw [n5 _ _ (by omega)] at hk1; rw [ek k hk0, n5 _ _ (by omega)]; exact g5 k hk0 hk1)
  · intro i hi0 hi1
    rw [n5 _ _ (by omega)]; exact rB i hi0 hi1
/-- an owner, or the landings of a square -/
theorem CR_S {W : zWd} {c : Nat} {a : Int → Int} {s v : Int} {o : Nat} (h : zCR W c a) (h1 : 1 ≤ s) (h20 : s ≤ 20) (ho : o = 0 ∨ o = 1) : zCR (zup W (c + 3 + o) s v) c (iup a (18 + 2 * (s - 1) + o) (if o = 0 then v + 1 else v)) := by
  obtain ⟨r0, r1, r2, r3, r4, r5, r6, r7, rF, rS, rP, rB⟩ := h
  have n5 : ∀ (k : Nat) (i : Int), k ≠ c + 3 + o → zup W (c + 3 + o) s v k i = W k i := fun k i hk => zup_k hk
  have na : ∀ i : Int, i < 18 ∨ 58 ≤ i → iup a (18 + 2 * (s - 1) + o) (if o = 0 then v + 1 else v) i = a i := fun i hi => iup_n (by omega)
  have nF : ∀ i : Int, 8 ≤ i → i < 18 → iup a (18 + 2 * (s - 1) + o) (if o = 0 then v + 1 else v) i = a i := fun i _ hi => na i (by omega)
  refine ⟨?_, ?_, ?_, ?_, ?_, ?_, ?_, ?_, ?_, ?_, ?_, ?_⟩
  · rw [n5 _ _ (by omega), na _ (by omega)]; exact r0
  · rw [n5 _ _ (by omega), na _ (by omega)]; exact r1
  · rw [n5 _ _ (by omega), na _ (by omega)]; exact r2
  · rw [n5 _ _ (by omega), na _ (by omega)]; exact r3
  · rw [n5 _ _ (by omega), na _ (by omega)]; exact r4
  · rw [n5 _ _ (by omega), na _ (by omega)]; exact r5
  · rw [n5 _ _ (by omega), na _ (by omega)]; exact r6
  · rw [n5 _ _ (by omega), na _ (by omega)]; exact r7
  · intro r hr10 hr
    rw [na _ (by omega)] at hr
    rw [n5 _ _ (by omega), aF_cg nF r hr10]; exact rF r hr10 hr
  · intro s' h1' h20' h2'
    rw [na _ (by omega)] at h2'
    obtain ⟨s1, s2, s3⟩ := rS s' h1' h20' h2'
    refine ⟨?_, ?_, ?_⟩
    · rw [n5 _ _ (by omega), aR_cg nF]; exact s1
    · rcases ho with rfl | rfl
      · by_cases q : s' = s
        · subst q
          show zup W (c + 3) s' v (c + 3) s' = iup a (18 + 2 * (s' - 1) + 0) (v + 1) (18 + 2 * (s' - 1)) - 1
          rw [zup_s, Int.add_zero, iup_s]; omega
        · show zup W (c + 3) s v (c + 3) s' = iup a (18 + 2 * (s - 1) + 0) (v + 1) (18 + 2 * (s' - 1)) - 1
          rw [zup_i q, iup_n (by omega)]; exact s2
      · rw [n5 _ _ (by omega)]; unfold aO; rw [iup_n (by omega)]; exact s2
    · rcases ho with rfl | rfl
      · rw [n5 _ _ (by omega)]; unfold aL; rw [iup_n (by omega)]; exact s3
      · by_cases q : s' = s
        · subst q
          show zup W (c + 4) s' v (c + 4) s' = iup a (18 + 2 * (s' - 1) + 1) v (18 + 2 * (s' - 1) + 1)
          rw [zup_s, iup_s]
        · show zup W (c + 4) s v (c + 4) s' = iup a (18 + 2 * (s - 1) + 1) v (18 + 2 * (s' - 1) + 1)
          rw [zup_i q, iup_n (by omega)]; exact s3
  · intro p' hp0' hp'
    rw [na _ (by omega)] at hp'
    have h9 := rP p' hp0' hp'
    have e9 : ∀ w : Int, 0 ≤ w → aP (iup a (18 + 2 * (s - 1) + o) (if o = 0 then v + 1 else v)) p' w = aP a p' w := fun w hw => by unfold aP; exact na _ (by omega)
    have ek : ∀ k : Int, 0 ≤ k → aP (iup a (18 + 2 * (s - 1) + o) (if o = 0 then v + 1 else v)) p' (9 + k) = aP a p' (9 + k) := fun k hk => e9 _ (by omega)
    obtain ⟨q0, q1, q2, q3, q4, q5, q7, q8, q9, ⟨g1, g2, g3, g4⟩, g5⟩ := h9
    refine ⟨?_, ?_, ?_, ?_, ?_, ?_, ?_, ?_, ?_, ⟨?_, ?_, ?_, ?_⟩, ?_⟩
    all_goals first
      | (rw [n5 _ _ (by omega), e9 _ (by omega)]; assumption)
      | (rw [n5 _ _ (by omega)]; assumption)
      | (intro k hk0 hk1; rw [n5 _ _ (by omega)] at hk1; rw [ek k hk0]; exact g3 k hk0 hk1)
      | (intro k hk0 hk1; rw [n5 _ _ (by omega)] at hk0; rw [ek k (by omega)]; exact g4 k hk0 hk1)
      | (intro k hk0 hk1; rw [n5 _ _ (by omega)] at hk1; rw [ek k hk0, n5 _ _ (by omega)]; exact g5 k hk0 hk1)
  · intro i hi0 hi1
    rw [n5 _ _ (by omega)]; exact rB i hi0 hi1
/-- only what lies at the court matters -/
theorem CR_off {W W' : zWd} {c : Nat} {a : Int → Int} (h : zCR W c a) (hW : ∀ k : Nat, c ≤ k → k < c + 8 → W' k = W k) : zCR W' c a := by
  obtain ⟨r0, r1, r2, r3, r4, r5, r6, r7, rF, rS, rP, rB⟩ := h
  have e0 := hW c (by omega) (by omega)
  have e1 := hW (c + 1) (by omega) (by omega)
  have e2 := hW (c + 2) (by omega) (by omega)
  have e3 := hW (c + 3) (by omega) (by omega)
  have e4 := hW (c + 4) (by omega) (by omega)
  have e5 := hW (c + 5) (by omega) (by omega)
  have e6 := hW (c + 6) (by omega) (by omega)
  have e7 := hW (c + 7) (by omega) (by omega)
  unfold zCR zCRP
  rw [e0, e1, e2, e3, e4, e5, e6, e7]
  exact ⟨r0, r1, r2, r3, r4, r5, r6, r7, rF, rS, rP, rB⟩
end
section
/-! ranges are kept -/
def zWr (T : Int) (a : Int → Int) (w v : Int) : Prop :=
  (w = 0 ∧ 1 ≤ v ∧ v ≤ 4) ∨ (w = 1 ∧ 1 ≤ v ∧ v ≤ 9) ∨ (w = 2 ∧ 0 ≤ v ∧ v ≤ a 1) ∨ (w = 3 ∧ 0 ≤ v ∧ v ≤ 9) ∨ (w = 4 ∧ 0 ≤ v ∧ v ≤ T) ∨ (w = 5 ∧ 0 ≤ v ∧ v ≤ a 1) ∨ (w = 6 ∧ 0 ≤ v ∧ v ≤ T) ∨ (w = 7 ∧ 0 ≤ v ∧ v ≤ T) ∨ (w = 8 ∧ 0 ≤ v ∧ v ≤ 5)
theorem WF_P {T : Int} {a : Int → Int} {p w v : Int} (h : zWf T a) (hp0 : 0 ≤ p) (hv : zWr T a w v) : zWf T (iup a (58 + 17 * p + w) v) := by
  obtain ⟨w0, w0', wW, w1, w2, w2', w3, w3', w4, w4', w5, w5', w6, w6', w7, w7', wS, wP, wT⟩ := h
  have hw : 0 ≤ w ∧ w ≤ 8 := by unfold zWr at hv; omega
  have na : ∀ i : Int, i < 58 → iup a (58 + 17 * p + w) v i = a i := fun i hi => iup_n (by omega)
  have nF : ∀ i : Int, 8 ≤ i → i < 18 → iup a (58 + 17 * p + w) v i = a i := fun i _ hi => na i (by omega)
  have wq : a 1 ≤ 20 := (zWf.sq ⟨w0, w0', wW, w1, w2, w2', w3, w3', w4, w4', w5, w5', w6, w6', w7, w7', wS, wP, wT⟩).2
  unfold zWf
  rw [na 0 (by omega), na 1 (by omega), na 2 (by omega), na 3 (by omega), na 4 (by omega), na 5 (by omega), na 6 (by omega), na 7 (by omega), aF_cg nF _ (by omega)]
  refine ⟨w0, w0', ?_, w1, w2, w2', w3, w3', w4, w4', w5, w5', w6, w6', w7, w7', ?_, ?_, wT⟩
  · intro r h1 h2
    rw [na _ (by omega)]; exact wW r h1 h2
  · intro s h1 h2
    unfold aO aL
    rw [na _ (by omega), na _ (by omega)]; exact wS s h1 h2
  · intro p' h1 h2
    have h9 := wP p' h1 h2
    unfold zWfP at h9 ⊢
    rw [na 1 (by omega)]
    unfold zWr at hv
    by_cases hpp : p' = p
    · subst hpp
      unfold aP at h9 ⊢
      simp only [iup]
      refine ⟨?_, ?_, ?_, ?_, ?_, ?_, ?_, ?_, ?_, ?_, ?_, ?_, ?_, ?_, ?_, ?_, ?_, ?_⟩
      all_goals (split <;> omega)
    · have ea : ∀ k : Int, 0 ≤ k → k ≤ 8 → aP (iup a (58 + 17 * p + w) v) p' k = aP a p' k := fun k h1 h2 => by unfold aP; exact iup_n (by omega)
      rw [ea 0 (by omega) (by omega), ea 1 (by omega) (by omega), ea 2 (by omega) (by omega), ea 3 (by omega) (by omega), ea 4 (by omega) (by omega), ea 5 (by omega) (by omega), ea 6 (by omega) (by omega), ea 7 (by omega) (by omega), ea 8 (by omega) (by omega)]
      exact h9
theorem WF_0 {T : Int} {a : Int → Int} {j v : Int} (h : zWf T a) (hv : (j = 3 ∧ -9 ≤ v ∧ v ≤ 9) ∨ (j = 4 ∧ 0 ≤ v ∧ v < a 2) ∨ ((j = 5 ∨ j = 6 ∨ j = 7) ∧ 0 ≤ v ∧ v ≤ T)) : zWf T (iup a j v) := by
  obtain ⟨w0, w0', wW, w1, w2, w2', w3, w3', w4, w4', w5, w5', w6, w6', w7, w7', wS, wP, wT⟩ := h
  have na : ∀ i : Int, i < 3 ∨ 7 < i → iup a j v i = a i := fun i hi => iup_n (by omega)
  have nF : ∀ i : Int, 8 ≤ i → i < 18 → iup a j v i = a i := fun i _ hi => na i (by omega)
  unfold zWf
  rw [na 0 (by omega), na 1 (by omega), na 2 (by omega), aF_cg nF _ (by omega)]
  refine ⟨w0, w0', ?_, w1, w2, w2', ?_, ?_, ?_, ?_, ?_, ?_, ?_, ?_, ?_, ?_, ?_, ?_, wT⟩
  · intro r h1 h2
    rw [na _ (by omega)]; exact wW r h1 h2
  iterate 10 (unfold iup; split <;> omega)
  · intro s h1 h2
    unfold aO aL
    rw [na _ (by omega), na _ (by omega)]; exact wS s h1 h2
  · intro p' h1 h2
    have h9 := wP p' h1 h2
    have ea : ∀ k : Int, 0 ≤ k → aP (iup a j v) p' k = aP a p' k := fun k hk => by unfold aP; exact na _ (by omega)
    unfold zWfP at h9 ⊢
    rw [na 1 (by omega), ea 0 (by omega), ea 1 (by omega), ea 2 (by omega), ea 3 (by omega), ea 4 (by omega), ea 5 (by omega), ea 6 (by omega), ea 7 (by omega), ea 8 (by omega)]
    exact h9
theorem WF_S {T : Int} {a : Int → Int} {s v : Int} {o : Nat} (h : zWf T a) (h1 : 1 ≤ s) (h20 : s ≤ 20) (hv : (o = 0 ∧ 0 ≤ v ∧ v ≤ a 2) ∨ (o = 1 ∧ 0 ≤ v ∧ v ≤ T)) : zWf T (iup a (18 + 2 * (s - 1) + o) v) := by
  obtain ⟨w0, w0', wW, w1, w2, w2', w3, w3', w4, w4', w5, w5', w6, w6', w7, w7', wS, wP, wT⟩ := h
  have na : ∀ i : Int, i < 18 ∨ 58 ≤ i → iup a (18 + 2 * (s - 1) + o) v i = a i := fun i hi => iup_n (by omega)
  have nF : ∀ i : Int, 8 ≤ i → i < 18 → iup a (18 + 2 * (s - 1) + o) v i = a i := fun i _ hi => na i (by omega)
  unfold zWf
  rw [na 0 (by omega), na 1 (by omega), na 2 (by omega), na 3 (by omega), na 4 (by omega), na 5 (by omega), na 6 (by omega), na 7 (by omega), aF_cg nF _ (by omega)]
  refine ⟨w0, w0', ?_, w1, w2, w2', w3, w3', w4, w4', w5, w5', w6, w6', w7, w7', ?_, ?_, wT⟩
  · intro r h1 h2
    rw [na _ (by omega)]; exact wW r h1 h2
  · intro s' h1' h2'
    have h9 := wS s' h1' h2'
    unfold aO aL at h9 ⊢
    simp only [iup]
    refine ⟨?_, ?_, ?_, ?_⟩
    all_goals (split <;> omega)
  · intro p' h1 h2
    have h9 := wP p' h1 h2
    have ea : ∀ k : Int, 0 ≤ k → aP (iup a (18 + 2 * (s - 1) + o) v) p' k = aP a p' k := fun k hk => by unfold aP; exact na _ (by omega)
    unfold zWfP at h9 ⊢
    rw [na 1 (by omega), ea 0 (by omega), ea 1 (by omega), ea 2 (by omega), ea 3 (by omega), ea 4 (by omega), ea 5 (by omega), ea 6 (by omega), ea 7 (by omega), ea 8 (by omega)]
    exact h9
theorem zWf.mono {T T' : Int} {a : Int → Int} (h : zWf T a) (hT : T ≤ T') (hT2 : T' ≤ 100000000) : zWf T' a := by
  obtain ⟨w0, w0', wW, w1, w2, w2', w3, w3', w4, w4', w5, w5', w6, w6', w7, w7', wS, wP, wT⟩ := h
  refine ⟨w0, w0', wW, w1, w2, w2', w3, w3', w4, w4', w5, by omega, w6, by omega, w7, by omega, fun s h1 h2 => ?_, fun p h1 h2 => ?_, hT2⟩
  · have := wS s h1 h2; omega
  · have := wP p h1 h2; unfold zWfP at this ⊢; omega
/-! squares that are free for a player -/
theorem aOpn_cg {a a' : Int → Int} {p : Int} : ∀ (n : Nat) (s : Int), (∀ s' : Int, s ≤ s' → s' < s + n → aO a' s' = aO a s') → aOpn a' p n s = aOpn a p n s := by
  intro n
  induction n with
  | zero => intro s _; rfl
  | succ n ih =>
    intro s h
    have h0 := h s (by omega) (by omega)
    have h1 := ih (s + 1) (fun s' g1 g2 => h s' (by omega) (by omega))
    unfold aOpn aForb
    rw [h0, h1]
theorem aOpen_cg {a a' : Int → Int} {p s : Int} (h1 : a' 1 = a 1) (h : ∀ s' : Int, s ≤ s' → s' ≤ a 1 → aO a' s' = aO a s') : aOpen a' p s = aOpen a p s := by
  unfold aOpen
  rw [h1]
  exact aOpn_cg _ _ (fun s' g1 g2 => h s' g1 (by omega))
theorem aOpn_in {a : Int → Int} {p : Int} : ∀ (n : Nat) (s : Int), aOpn a p n s = 0 ∧ (∀ s' : Int, s ≤ s' → s' < s + n → aForb a p s') ∨ (s ≤ aOpn a p n s ∧ aOpn a p n s < s + n ∧ ¬ aForb a p (aOpn a p n s) ∧ ∀ s' : Int, s ≤ s' → s' < aOpn a p n s → aForb a p s') := by
  intro n
  induction n with
  | zero => intro s; exact Or.inl ⟨rfl, fun s' h1 h2 => by omega⟩
  | succ n ih =>
    intro s
    unfold aOpn
    by_cases h : aForb a p s
    · rw [if_pos h]
      rcases ih (s + 1) with ⟨g1, g2⟩ | ⟨g1, g2, g3, g4⟩
      · refine Or.inl ⟨g1, fun s' h1 h2 => ?_⟩
        by_cases q : s' = s
        · subst q; exact h
        · exact g2 s' (by omega) (by omega)
      · refine Or.inr ⟨by omega, by omega, g3, fun s' h1 h2 => ?_⟩
        by_cases q : s' = s
        · subst q; exact h
        · exact g4 s' (by omega) h2
    · rw [if_neg h]
      exact Or.inr ⟨by omega, by omega, h, fun s' h1 h2 => by omega⟩
theorem aOpen_in {a : Int → Int} {p s : Int} (hs : 1 ≤ s) : aOpen a p s = 0 ∧ (∀ s' : Int, s ≤ s' → s' ≤ a 1 → aForb a p s') ∨ (s ≤ aOpen a p s ∧ aOpen a p s ≤ a 1 ∧ ¬ aForb a p (aOpen a p s) ∧ ∀ s' : Int, s ≤ s' → s' < aOpen a p s → aForb a p s') := by
  rcases aOpn_in (a := a) (p := p) (a 1 + 1 - s).toNat s with ⟨h1, h2⟩ | ⟨h1, h2, h3, h4⟩
  · exact Or.inl ⟨h1, fun s' g1 g2 => h2 s' g1 (by omega)⟩
  · refine Or.inr ⟨h1, ?_, h3, h4⟩
    show aOpn a p (a 1 + 1 - s).toNat s ≤ a 1
    omega
theorem aOpen_rng {a : Int → Int} {p s : Int} (hs : 1 ≤ s) (ha : 0 ≤ a 1) : 0 ≤ aOpen a p s ∧ aOpen a p s ≤ a 1 := by
  rcases aOpen_in (a := a) (p := p) hs with h | h <;> omega
theorem aOpen_step {a : Int → Int} {p s : Int} (h : s ≤ a 1) : aOpen a p s = if aForb a p s then aOpen a p (s + 1) else s := by
  unfold aOpen
  rw [show (a 1 + 1 - s).toNat = (a 1 + 1 - (s + 1)).toNat + 1 by omega]
  rfl
theorem aOpen_end {a : Int → Int} {p s : Int} (h : a 1 < s) : aOpen a p s = 0 := by
  unfold aOpen
  rw [show (a 1 + 1 - s).toNat = 0 by omega]
  rfl
/-! a row's footing out of sets -/
def zRow (f : Nat) (w : Int) : Nat := if w = 2 then 2 ^ f ||| 2 ^ (f + 1) else 2 ^ f
theorem zRow_sub {f : Nat} {w : Int} (hw : 1 ≤ w ∧ w ≤ 2) (hf : f < 21) : ((2 ^ ((f : Int) + w).toNat : Nat) : Int) - ((2 ^ f : Nat) : Int) = (zRow f w : Nat) := by
  unfold zRow
  have h9 := (z_sum f hf).1
  by_cases h : w = 2
  · subst h
    rw [if_pos rfl, h9, show ((f : Int) + 2).toNat = f + 1 + 1 by omega, Nat.pow_succ, Nat.pow_succ]
    omega
  · rw [if_neg h, show ((f : Int) + w).toNat = f + 1 by omega, Nat.pow_succ]
    omega
theorem zRow_lt {f : Nat} {w : Int} (hf : f < 20) : zRow f w < 2097152 := by
  unfold zRow
  have h1 : 2 ^ f < 2 ^ 21 := Nat.pow_lt_pow_right (by decide) (by omega)
  have h2 : 2 ^ (f + 1) < 2 ^ 21 := Nat.pow_lt_pow_right (by decide) (by omega)
  split
  · exact Nat.or_lt_two_pow h1 h2
  · exact h1
theorem zFo_spec {f u o : Nat} {w : Int} (hw : 1 ≤ w ∧ w ≤ 2) (hf : f < 21) (hf2 : w = 2 → f < 20) : zFo f w (fun i => u.testBit i) (fun i => o.testBit i) = if zRow f w &&& u = 0 then 0 else if zPc (zRow f w &&& u) = 2 ∨ zRow f w &&& u &&& o ≠ 0 then 2 else 1 := by
  have p1 : 2 ^ f ≠ 0 := by have := Nat.two_pow_pos f; omega
  have p2 : 2 ^ (f + 1) ≠ 0 := by have := Nat.two_pow_pos (f + 1); omega
  obtain ⟨-, c1, c2⟩ := z_sum f hf
  have e1 : ∀ x : Nat, 2 ^ f &&& x = if x.testBit f then 2 ^ f else 0 := fun x => z_row1 f x
  unfold zFo zRow
  by_cases h : w = 2
  · subst h
    have c3 := (z_sum (f + 1) (by have := hf2 rfl; omega)).2.1
    have c2 := c2 (hf2 rfl)
    have q9 : ¬ (2 ^ f ||| 2 ^ (f + 1) = 0) := fun q => p1 (z_or0.mp q).1
    rw [if_pos rfl, z_row2]
    cases hu : u.testBit f <;> cases hu2 : u.testBit (f + 1) <;> cases ho : o.testBit f <;> cases ho2 : o.testBit (f + 1) <;> simp [p1, p2, q9, c1, c2, c3, z_row1, z_row2, Nat.and_or_distrib_right, hu, hu2, ho, ho2]
  · rw [if_neg h, z_row1]
    cases hu : u.testBit f <;> cases ho : o.testBit f <;> simp [h, p1, c1, z_row1, hu, ho]
end
section
theorem dX0_get_0 : decode cX0_get 0 = .ok (.aload_n 0, 1) := by decide +kernel
theorem dX0_get_1 : decode cX0_get 1 = .ok (.getfield 24, 3) := by decide +kernel
theorem dX0_get_4 : decode cX0_get 4 = .ok (.iload_n 1, 1) := by decide +kernel
theorem dX0_get_5 : decode cX0_get 5 = .ok (.bipush 10, 2) := by decide +kernel
theorem dX0_get_7 : decode cX0_get 7 = .ok (.imul, 1) := by decide +kernel
theorem dX0_get_8 : decode cX0_get 8 = .ok (.iload_n 2, 1) := by decide +kernel
theorem dX0_get_9 : decode cX0_get 9 = .ok (.iadd, 1) := by decide +kernel
theorem dX0_get_10 : decode cX0_get 10 = .ok (.iaload, 1) := by decide +kernel
theorem dX0_get_11 : decode cX0_get 11 = .ok (.ireturn, 1) := by decide +kernel
theorem eX0_get {c : Nat} {W : zWd} {p w : Int} {Q : Option Value → zWd → Prop} {X : zX} (hc : zCt c) (hp0 : 0 ≤ p) (hp1 : p < 6) (hw0 : 0 ≤ w) (hw1 : w < 10) (hq : Q (some (zI (W (c + 5) (p * 10 + w)))) W) : Ev MX0_get 0 0 W [.ref c, zI p, zI w] Q X := by
  refine ev_of (ls := [.ref c, zI p, zI w]) (by decide) rfl (fun _ => rfl) (fun _ => Nat.le_of_ble_eq_true rfl) (Or.inl rfl) ?_
  refine rr_aload_n (pc := 0) dX0_get_0 rfl ?_
  refine rr_getR (pc := 1) dX0_get_1 fX0_24 hc.k hc.r12 ?_
  refine rr_iload_n (pc := 4) dX0_get_4 rfl ?_
  refine rr_bipush (n := (10)) dX0_get_5 ?_
  refine rr_imul (pc := 7) dX0_get_7 ?_
  refine rr_iload_n (pc := 8) dX0_get_8 rfl ?_
  refine rr_iadd (pc := 9) dX0_get_9 ?_
  refine rr_iald (pc := 10) dX0_get_10 hc.a5 (by omega) (by omega) ?_
  exact rr_reti (pc := 11) dX0_get_11 rfl rfl rfl rfl (hq)
theorem dX0_put_0 : decode cX0_put 0 = .ok (.aload_n 0, 1) := by decide +kernel
theorem dX0_put_1 : decode cX0_put 1 = .ok (.getfield 24, 3) := by decide +kernel
theorem dX0_put_4 : decode cX0_put 4 = .ok (.iload_n 1, 1) := by decide +kernel
theorem dX0_put_5 : decode cX0_put 5 = .ok (.bipush 10, 2) := by decide +kernel
theorem dX0_put_7 : decode cX0_put 7 = .ok (.imul, 1) := by decide +kernel
theorem dX0_put_8 : decode cX0_put 8 = .ok (.iload_n 2, 1) := by decide +kernel
theorem dX0_put_9 : decode cX0_put 9 = .ok (.iadd, 1) := by decide +kernel
theorem dX0_put_10 : decode cX0_put 10 = .ok (.iload_n 3, 1) := by decide +kernel
theorem dX0_put_11 : decode cX0_put 11 = .ok (.iastore, 1) := by decide +kernel
theorem dX0_put_12 : decode cX0_put 12 = .ok (.return_, 1) := by decide +kernel
theorem eX0_put {c : Nat} {W : zWd} {p w v : Int} {Q : Option Value → zWd → Prop} {X : zX} (hc : zCt c) (hp0 : 0 ≤ p) (hp1 : p < 6) (hw0 : 0 ≤ w) (hw1 : w < 10) (hq : Q none (zup W (c + 5) (p * 10 + w) v)) : Ev MX0_put 0 0 W [.ref c, zI p, zI w, zI v] Q X := by
  refine ev_of (ls := [.ref c, zI p, zI w, zI v]) (by decide) rfl (fun _ => rfl) (fun _ => Nat.le_of_ble_eq_true rfl) (Or.inl rfl) ?_
  refine rr_aload_n (pc := 0) dX0_put_0 rfl ?_
  refine rr_getR (pc := 1) dX0_put_1 fX0_24 hc.k hc.r12 ?_
  refine rr_iload_n (pc := 4) dX0_put_4 rfl ?_
  refine rr_bipush (n := (10)) dX0_put_5 ?_
  refine rr_imul (pc := 7) dX0_put_7 ?_
  refine rr_iload_n (pc := 8) dX0_put_8 rfl ?_
  refine rr_iadd (pc := 9) dX0_put_9 ?_
  refine rr_iload_n (pc := 10) dX0_put_10 rfl ?_
  refine rr_iast (pc := 11) dX0_put_11 hc.a5 (by omega) (by omega) ?_
  exact rr_retv (pc := 12) dX0_put_12 rfl rfl (hq)
theorem dX0_widthOf_0 : decode cX0_widthOf 0 = .ok (.aload_n 0, 1) := by decide +kernel
theorem dX0_widthOf_1 : decode cX0_widthOf 1 = .ok (.getfield 9, 3) := by decide +kernel
theorem dX0_widthOf_4 : decode cX0_widthOf 4 = .ok (.iload_n 1, 1) := by decide +kernel
theorem dX0_widthOf_5 : decode cX0_widthOf 5 = .ok (.iconst 1, 1) := by decide +kernel
theorem dX0_widthOf_6 : decode cX0_widthOf 6 = .ok (.iadd, 1) := by decide +kernel
theorem dX0_widthOf_7 : decode cX0_widthOf 7 = .ok (.iaload, 1) := by decide +kernel
theorem dX0_widthOf_8 : decode cX0_widthOf 8 = .ok (.aload_n 0, 1) := by decide +kernel
theorem dX0_widthOf_9 : decode cX0_widthOf 9 = .ok (.getfield 9, 3) := by decide +kernel
theorem dX0_widthOf_12 : decode cX0_widthOf 12 = .ok (.iload_n 1, 1) := by decide +kernel
theorem dX0_widthOf_13 : decode cX0_widthOf 13 = .ok (.iaload, 1) := by decide +kernel
theorem dX0_widthOf_14 : decode cX0_widthOf 14 = .ok (.isub, 1) := by decide +kernel
theorem dX0_widthOf_15 : decode cX0_widthOf 15 = .ok (.ireturn, 1) := by decide +kernel
theorem eX0_widthOf {c : Nat} {W : zWd} {r : Int} {Q : Option Value → zWd → Prop} {X : zX} (hc : zCt c) (h0 : 0 ≤ r) (h1 : r < 10) (hq : Q (some (zI (W (c + 1) (r + 1) - W (c + 1) r))) W) : Ev MX0_widthOf 0 0 W [.ref c, zI r] Q X := by
  refine ev_of (ls := [.ref c, zI r]) (by decide) rfl (fun _ => rfl) (fun _ => Nat.le_of_ble_eq_true rfl) (Or.inl rfl) ?_
  refine rr_aload_n (pc := 0) dX0_widthOf_0 rfl ?_
  refine rr_getR (pc := 1) dX0_widthOf_1 fX0_9 hc.k hc.r8 ?_
  refine rr_iload_n (pc := 4) dX0_widthOf_4 rfl ?_
  refine rr_iconst (n := 1) dX0_widthOf_5 ?_
  refine rr_iadd (pc := 6) dX0_widthOf_6 ?_
  refine rr_iald (pc := 7) dX0_widthOf_7 hc.a1 (by omega) (by omega) ?_
  refine rr_aload_n (pc := 8) dX0_widthOf_8 rfl ?_
  refine rr_getR (pc := 9) dX0_widthOf_9 fX0_9 hc.k hc.r8 ?_
  refine rr_iload_n (pc := 12) dX0_widthOf_12 rfl ?_
  refine rr_iald (pc := 13) dX0_widthOf_13 hc.a1 (by omega) (by omega) ?_
  refine rr_isub (pc := 14) dX0_widthOf_14 ?_
  exact rr_reti (pc := 15) dX0_widthOf_15 rfl rfl rfl rfl (hq)
theorem dX0_sideOf_0 : decode cX0_sideOf 0 = .ok (.iload_n 1, 1) := by decide +kernel
theorem dX0_sideOf_1 : decode cX0_sideOf 1 = .ok (.aload_n 0, 1) := by decide +kernel
theorem dX0_sideOf_2 : decode cX0_sideOf 2 = .ok (.getfield 9, 3) := by decide +kernel
theorem dX0_sideOf_5 : decode cX0_sideOf 5 = .ok (.aload_n 0, 1) := by decide +kernel
theorem dX0_sideOf_6 : decode cX0_sideOf 6 = .ok (.getfield 15, 3) := by decide +kernel
theorem dX0_sideOf_9 : decode cX0_sideOf 9 = .ok (.iload_n 1, 1) := by decide +kernel
theorem dX0_sideOf_10 : decode cX0_sideOf 10 = .ok (.iaload, 1) := by decide +kernel
theorem dX0_sideOf_11 : decode cX0_sideOf 11 = .ok (.iaload, 1) := by decide +kernel
theorem dX0_sideOf_12 : decode cX0_sideOf 12 = .ok (.isub, 1) := by decide +kernel
theorem dX0_sideOf_13 : decode cX0_sideOf 13 = .ok (.ireturn, 1) := by decide +kernel
theorem eX0_sideOf {c : Nat} {W : zWd} {a : Int → Int} {T : Int} {s : Int} {Q : Option Value → zWd → Prop} {X : zX} (hc : zCt c) (hR : zCR W c a) (hw : zWf T a) (h0 : 1 ≤ s) (h1 : s ≤ a 1) (hq : Q (some (zI (s - aF a (aR a s)))) W) : Ev MX0_sideOf 0 0 W [.ref c, zI s] Q X := by
  refine ev_of (ls := [.ref c, zI s]) (by decide) rfl (fun _ => rfl) (fun _ => Nat.le_of_ble_eq_true rfl) (Or.inl rfl) ?_
  obtain ⟨r0, r1, r2, r3, r4, r5, r6, r7, rF, rS, rP, rB⟩ := id hR
  obtain ⟨w0, w0', wW, w1, w2, w2', w3, w3', w4, w4', w5, w5', w6, w6', w7, w7', wS, wP, wT⟩ := id hw
  have wq := zWf.sq hw
  have hr := aR_spec hw h0 h1
  have hs1 := (rS s h0 (by omega) h1).1
  refine rr_iload_n (pc := 0) dX0_sideOf_0 rfl ?_
  refine rr_aload_n (pc := 1) dX0_sideOf_1 rfl ?_
  refine rr_getR (pc := 2) dX0_sideOf_2 fX0_9 hc.k hc.r8 ?_
  refine rr_aload_n (pc := 5) dX0_sideOf_5 rfl ?_
  refine rr_getR (pc := 6) dX0_sideOf_6 fX0_15 hc.k hc.r9 ?_
  refine rr_iload_n (pc := 9) dX0_sideOf_9 rfl ?_
  refine rr_iald (pc := 10) dX0_sideOf_10 hc.a2 (by omega) (by omega) ?_
  refine rr_iald (pc := 11) dX0_sideOf_11 hc.a1 (by omega) (by omega) ?_
  refine rr_isub (pc := 12) dX0_sideOf_12 ?_
  exact rr_reti (pc := 13) dX0_sideOf_13 rfl rfl (by rw [hs1, rF _ (by omega) (by omega)]) rfl (hq)
theorem ite_zI {P : Prop} [Decidable P] {Q : Option Value → zWd → Prop} {W : zWd} {x y : Int} (h : P) (hq : Q (some (zI (if P then x else y))) W) : Q (some (zI x)) W := by rw [if_pos h] at hq; exact hq
theorem ite_zI2 {P : Prop} [Decidable P] {Q : Option Value → zWd → Prop} {W : zWd} {x y : Int} (h : ¬ P) (hq : Q (some (zI (if P then x else y))) W) : Q (some (zI y)) W := by rw [if_neg h] at hq; exact hq
theorem dX0_isForbidden_0 : decode cX0_isForbidden 0 = .ok (.aload_n 0, 1) := by decide +kernel
theorem dX0_isForbidden_1 : decode cX0_isForbidden 1 = .ok (.getfield 18, 3) := by decide +kernel
theorem dX0_isForbidden_4 : decode cX0_isForbidden 4 = .ok (.iload_n 2, 1) := by decide +kernel
theorem dX0_isForbidden_5 : decode cX0_isForbidden 5 = .ok (.iaload, 1) := by decide +kernel
theorem dX0_isForbidden_6 : decode cX0_isForbidden 6 = .ok (.iconst (-1), 1) := by decide +kernel
theorem dX0_isForbidden_7 : decode cX0_isForbidden 7 = .ok (.if_icmp .eq 17, 3) := by decide +kernel
theorem dX0_isForbidden_10 : decode cX0_isForbidden 10 = .ok (.aload_n 0, 1) := by decide +kernel
theorem dX0_isForbidden_11 : decode cX0_isForbidden 11 = .ok (.getfield 18, 3) := by decide +kernel
theorem dX0_isForbidden_14 : decode cX0_isForbidden 14 = .ok (.iload_n 2, 1) := by decide +kernel
theorem dX0_isForbidden_15 : decode cX0_isForbidden 15 = .ok (.iaload, 1) := by decide +kernel
theorem dX0_isForbidden_16 : decode cX0_isForbidden 16 = .ok (.iload_n 1, 1) := by decide +kernel
theorem dX0_isForbidden_17 : decode cX0_isForbidden 17 = .ok (.if_icmp .eq 7, 3) := by decide +kernel
theorem dX0_isForbidden_20 : decode cX0_isForbidden 20 = .ok (.iconst 1, 1) := by decide +kernel
theorem dX0_isForbidden_21 : decode cX0_isForbidden 21 = .ok (.goto 4, 3) := by decide +kernel
theorem dX0_isForbidden_24 : decode cX0_isForbidden 24 = .ok (.iconst 0, 1) := by decide +kernel
theorem dX0_isForbidden_25 : decode cX0_isForbidden 25 = .ok (.ireturn, 1) := by decide +kernel
theorem eX0_isForbidden {c : Nat} {W : zWd} {a : Int → Int} {T : Int} {q s : Int} {Q : Option Value → zWd → Prop} {X : zX} (hc : zCt c) (hR : zCR W c a) (hw : zWf T a) (h0 : 1 ≤ s) (h1 : s ≤ a 1) (hq0 : zR q) (hq : Q (some (zI (if aForb a q s then 1 else 0))) W) : Ev MX0_isForbidden 0 0 W [.ref c, zI q, zI s] Q X := by
  refine ev_of (ls := [.ref c, zI q, zI s]) (by decide) rfl (fun _ => rfl) (fun _ => Nat.le_of_ble_eq_true rfl) (Or.inl rfl) ?_
  obtain ⟨r0, r1, r2, r3, r4, r5, r6, r7, rF, rS, rP, rB⟩ := id hR
  obtain ⟨w0, w0', wW, w1, w2, w2', w3, w3', w4, w4', w5, w5', w6, w6', w7, w7', wS, wP, wT⟩ := id hw
  have wq := zWf.sq hw
  have hs3 := (rS s h0 (by omega) h1).2.1
  have hs4 := wS s h0 h1
  unfold zR at hq0
  refine rr_aload_n (pc := 0) dX0_isForbidden_0 rfl ?_
  refine rr_getR (pc := 1) dX0_isForbidden_1 fX0_18 hc.k hc.r10 ?_
  refine rr_iload_n (pc := 4) dX0_isForbidden_4 rfl ?_
  refine rr_iald (pc := 5) dX0_isForbidden_5 hc.a3 (by omega) (by omega) ?_
  refine rr_iconst (n := (-1)) dX0_isForbidden_6 ?_
  refine rr_icmp_eq (pc := 7) (tgt := 24) dX0_isForbidden_7 (by decide) (by unfold zR; omega) (by unfold zR; omega) (fun h7 => ?_) (fun h7 => ?_)
  · refine rr_iconst (n := 0) dX0_isForbidden_24 ?_
    exact rr_reti (pc := 25) dX0_isForbidden_25 rfl rfl rfl rfl ((by first | exact ite_zI (P := aForb a q s) (by unfold aForb; omega) hq | exact ite_zI2 (P := aForb a q s) (by unfold aForb; omega) hq))
  · refine rr_aload_n (pc := 10) dX0_isForbidden_10 rfl ?_
    refine rr_getR (pc := 11) dX0_isForbidden_11 fX0_18 hc.k hc.r10 ?_
    refine rr_iload_n (pc := 14) dX0_isForbidden_14 rfl ?_
    refine rr_iald (pc := 15) dX0_isForbidden_15 hc.a3 (by omega) (by omega) ?_
    refine rr_iload_n (pc := 16) dX0_isForbidden_16 rfl ?_
    refine rr_icmp_eq (pc := 17) (tgt := 24) dX0_isForbidden_17 (by decide) (by unfold zR; omega) (by unfold zR; omega) (fun h17 => ?_) (fun h17 => ?_)
    · refine rr_iconst (n := 0) dX0_isForbidden_24 ?_
      exact rr_reti (pc := 25) dX0_isForbidden_25 rfl rfl rfl rfl ((by first | exact ite_zI (P := aForb a q s) (by unfold aForb; omega) hq | exact ite_zI2 (P := aForb a q s) (by unfold aForb; omega) hq))
    · refine rr_iconst (n := 1) dX0_isForbidden_20 ?_
      refine rr_goto (pc := 21) (tgt := 25) dX0_isForbidden_21 (by decide) ?_
      exact rr_reti (pc := 25) dX0_isForbidden_25 rfl rfl rfl rfl ((by first | exact ite_zI (P := aForb a q s) (by unfold aForb; omega) hq | exact ite_zI2 (P := aForb a q s) (by unfold aForb; omega) hq))
theorem dX0_squaresOf_0 : decode cX0_squaresOf 0 = .ok (.iconst 0, 1) := by decide +kernel
theorem dX0_squaresOf_1 : decode cX0_squaresOf 1 = .ok (.istore_n 2, 1) := by decide +kernel
theorem dX0_squaresOf_2 : decode cX0_squaresOf 2 = .ok (.iconst 1, 1) := by decide +kernel
theorem dX0_squaresOf_3 : decode cX0_squaresOf 3 = .ok (.istore_n 3, 1) := by decide +kernel
theorem dX0_squaresOf_4 : decode cX0_squaresOf 4 = .ok (.iload_n 3, 1) := by decide +kernel
theorem dX0_squaresOf_5 : decode cX0_squaresOf 5 = .ok (.aload_n 0, 1) := by decide +kernel
theorem dX0_squaresOf_6 : decode cX0_squaresOf 6 = .ok (.getfield 41, 3) := by decide +kernel
theorem dX0_squaresOf_9 : decode cX0_squaresOf 9 = .ok (.if_icmp .gt 25, 3) := by decide +kernel
theorem dX0_squaresOf_12 : decode cX0_squaresOf 12 = .ok (.aload_n 0, 1) := by decide +kernel
theorem dX0_squaresOf_13 : decode cX0_squaresOf 13 = .ok (.getfield 18, 3) := by decide +kernel
theorem dX0_squaresOf_16 : decode cX0_squaresOf 16 = .ok (.iload_n 3, 1) := by decide +kernel
theorem dX0_squaresOf_17 : decode cX0_squaresOf 17 = .ok (.iaload, 1) := by decide +kernel
theorem dX0_squaresOf_18 : decode cX0_squaresOf 18 = .ok (.iload_n 1, 1) := by decide +kernel
theorem dX0_squaresOf_19 : decode cX0_squaresOf 19 = .ok (.if_icmp .ne 9, 3) := by decide +kernel
theorem dX0_squaresOf_22 : decode cX0_squaresOf 22 = .ok (.iload_n 2, 1) := by decide +kernel
theorem dX0_squaresOf_23 : decode cX0_squaresOf 23 = .ok (.iconst 1, 1) := by decide +kernel
theorem dX0_squaresOf_24 : decode cX0_squaresOf 24 = .ok (.iload_n 3, 1) := by decide +kernel
theorem dX0_squaresOf_25 : decode cX0_squaresOf 25 = .ok (.ishl, 1) := by decide +kernel
theorem dX0_squaresOf_26 : decode cX0_squaresOf 26 = .ok (.ior, 1) := by decide +kernel
theorem dX0_squaresOf_27 : decode cX0_squaresOf 27 = .ok (.istore_n 2, 1) := by decide +kernel
theorem dX0_squaresOf_28 : decode cX0_squaresOf 28 = .ok (.iinc 3 1, 3) := by decide +kernel
theorem dX0_squaresOf_31 : decode cX0_squaresOf 31 = .ok (.goto (-27), 3) := by decide +kernel
theorem dX0_squaresOf_34 : decode cX0_squaresOf 34 = .ok (.iload_n 2, 1) := by decide +kernel
theorem dX0_squaresOf_35 : decode cX0_squaresOf 35 = .ok (.ireturn, 1) := by decide +kernel
theorem eX0_squaresOf {c : Nat} {W : zWd} {a : Int → Int} {T : Int} {o : Int} {Q : Option Value → zWd → Prop} {X : zX} (hc : zCt c) (hR : zCR W c a) (hw : zWf T a) (ho : zR o) (hq : Q (some (zI (zSet (fun s => decide (aO a s = o)) (a 1).toNat : Nat))) W) : Ev MX0_squaresOf 0 0 W [.ref c, zI o] Q X := by
  refine ev_of (ls := [.ref c, zI o, .null, .null]) (by decide) rfl (fun _ => rfl) (fun _ => Nat.le_of_ble_eq_true rfl) (Or.inl rfl) ?_
  obtain ⟨r0, r1, r2, r3, r4, r5, r6, r7, rF, rS, rP, rB⟩ := id hR
  obtain ⟨w0, w0', wW, w1, w2, w2', w3, w3', w4, w4', w5, w5', w6, w6', w7, w7', wS, wP, wT⟩ := id hw
  have wq := zWf.sq hw
  have loop : ∀ (n : Nat) (i : Int), 1 ≤ i → i ≤ a 1 + 1 → (a 1 + 1 - i).toNat < n → RR MX0_squaresOf 0 0 W 4 [.ref c, zI o, zI (zSet (fun s => decide (aO a s = o)) (i - 1).toNat : Nat), zI i] [] (zEnd MX0_squaresOf Q X) X := by
    intro n
    induction n with
    | zero => intro i _ _ hm9; omega
    | succ n ih =>
      intro i h1 h2 hm9
      refine rr_iload_n (pc := 4) dX0_squaresOf_4 rfl ?_
      refine rr_aload_n (pc := 5) dX0_squaresOf_5 rfl ?_
      refine rr_getI (pc := 6) (ji := 1) dX0_squaresOf_6 fX0_41 hc.k hc.i1 rfl ?_
      refine rr_icmp_gt (pc := 9) (tgt := 34) dX0_squaresOf_9 (by decide) (by unfold zR; omega) (by unfold zR; omega) (fun h9 => ?_) (fun h9 => ?_)
      · refine rr_iload_n (pc := 34) dX0_squaresOf_34 rfl ?_
        exact rr_reti (pc := 35) dX0_squaresOf_35 rfl rfl (by rw [show (i - 1).toNat = (a 1).toNat by omega]) rfl (hq)
      · have hs3 := (rS i h1 (by omega) (by omega)).2.1
        have hs4 := wS i h1 (by omega)
        refine rr_aload_n (pc := 12) dX0_squaresOf_12 rfl ?_
        refine rr_getR (pc := 13) dX0_squaresOf_13 fX0_18 hc.k hc.r10 ?_
        refine rr_iload_n (pc := 16) dX0_squaresOf_16 rfl ?_
        refine rr_iald (pc := 17) dX0_squaresOf_17 hc.a3 (by omega) (by omega) ?_
        refine rr_eqS (congrArg (fun z => [zI z]) hs3) ?_
        refine rr_iload_n (pc := 18) dX0_squaresOf_18 rfl ?_
        refine rr_icmp_ne (pc := 19) (tgt := 28) dX0_squaresOf_19 (by decide) (by unfold zR; omega) ho (fun h19 => ?_) (fun h19 => ?_)
        · refine rr_iinc (pc := 28) dX0_squaresOf_28 rfl (by decide) ?_
          refine rr_goto (pc := 31) (tgt := 4) dX0_squaresOf_31 (by decide) ?_
          have e9 : (i + 1 - 1).toNat = (i - 1).toNat + 1 := by omega
          have g9 := ih (i + 1) (by omega) (by omega) (by omega)
          rw [e9] at g9
          unfold zSet at g9
          rw [show (((i - 1).toNat + 1 : Nat) : Int) = i by omega, show (i - 1).toNat + 1 = i.toNat by omega] at g9
          revert g9
          first | rw [if_pos (decide_eq_true h19)] | rw [if_neg (fun z => h19 (of_decide_eq_true z))]
          exact fun g9 => g9
        · refine rr_iload_n (pc := 22) dX0_squaresOf_22 rfl ?_
          refine rr_iconst (n := 1) dX0_squaresOf_23 ?_
          refine rr_iload_n (pc := 24) dX0_squaresOf_24 rfl ?_
          refine rr_ishl1 (pc := 25) dX0_squaresOf_25 (by omega) (by omega) ?_
          refine rr_ior (pc := 26) dX0_squaresOf_26 (Nat.lt_trans (zSet_32 _ (by omega)) (by decide)) (z_p32 (by omega)) ?_
          refine rr_istore_n (pc := 27) dX0_squaresOf_27 (by decide) ?_
          refine rr_iinc (pc := 28) dX0_squaresOf_28 rfl (by decide) ?_
          refine rr_goto (pc := 31) (tgt := 4) dX0_squaresOf_31 (by decide) ?_
          have e9 : (i + 1 - 1).toNat = (i - 1).toNat + 1 := by omega
          have g9 := ih (i + 1) (by omega) (by omega) (by omega)
          rw [e9] at g9
          unfold zSet at g9
          rw [show (((i - 1).toNat + 1 : Nat) : Int) = i by omega, show (i - 1).toNat + 1 = i.toNat by omega] at g9
          revert g9
          first | rw [if_pos (decide_eq_true h19)] | rw [if_neg (fun z => h19 (of_decide_eq_true z))]
          exact fun g9 => g9
  refine rr_iconst (n := 0) dX0_squaresOf_0 ?_
  refine rr_istore_n (pc := 1) dX0_squaresOf_1 (by decide) ?_
  refine rr_iconst (n := 1) dX0_squaresOf_2 ?_
  refine rr_istore_n (pc := 3) dX0_squaresOf_3 (by decide) ?_
  exact loop _ 1 (by omega) (by omega) (Nat.lt_succ_self _)
theorem dX0_ownedSquares_0 : decode cX0_ownedSquares 0 = .ok (.aload_n 0, 1) := by decide +kernel
theorem dX0_ownedSquares_1 : decode cX0_ownedSquares 1 = .ok (.getfield 41, 3) := by decide +kernel
theorem dX0_ownedSquares_4 : decode cX0_ownedSquares 4 = .ok (.aload_n 0, 1) := by decide +kernel
theorem dX0_ownedSquares_5 : decode cX0_ownedSquares 5 = .ok (.iconst (-1), 1) := by decide +kernel
theorem dX0_ownedSquares_6 : decode cX0_ownedSquares 6 = .ok (.invokevirtual 72, 3) := by decide +kernel
theorem dX0_ownedSquares_9 : decode cX0_ownedSquares 9 = .ok (.invokestatic 76, 3) := by decide +kernel
theorem dX0_ownedSquares_12 : decode cX0_ownedSquares 12 = .ok (.isub, 1) := by decide +kernel
theorem dX0_ownedSquares_13 : decode cX0_ownedSquares 13 = .ok (.ireturn, 1) := by decide +kernel
theorem eX0_ownedSquares {c : Nat} {W : zWd} {a : Int → Int} {T : Int}  {Q : Option Value → zWd → Prop} {X : zX} (hc : zCt c) (hR : zCR W c a) (hw : zWf T a) (hq : Q (some (zI (a 1 - (aNown a (-1) : Nat)))) W) : Ev MX0_ownedSquares 2 0 W [.ref c] Q X := by
  refine ev_of (ls := [.ref c]) (by decide) rfl (fun _ => rfl) (fun _ => Nat.le_of_ble_eq_true rfl) (Or.inl rfl) ?_
  obtain ⟨r0, r1, r2, r3, r4, r5, r6, r7, rF, rS, rP, rB⟩ := id hR
  obtain ⟨w0, w0', wW, w1, w2, w2', w3, w3', w4, w4', w5, w5', w6, w6', w7, w7', wS, wP, wT⟩ := id hw
  have wq := zWf.sq hw
  refine rr_aload_n (pc := 0) dX0_ownedSquares_0 rfl ?_
  refine rr_getI (pc := 1) (ji := 1) dX0_ownedSquares_1 fX0_41 hc.k hc.i1 rfl ?_
  refine rr_aload_n (pc := 4) dX0_ownedSquares_4 rfl ?_
  refine rr_iconst (n := (-1)) dX0_ownedSquares_5 ?_
  refine rr_inv0 (M' := MX0_squaresOf) (k := c) (As := [_]) (pc := 6) dX0_ownedSquares_6 lX0_72 kX0_squaresOf vX0_squaresOf hc.k (by decide) rfl (by decide) (by decide) (Nat.le_of_ble_eq_true rfl) rfl (eX0_squaresOf hc hR hw (by unfold zR; omega) ?_)
  refine rr_sta0 (M' := MJ6_bitCount_0f7a4) (As := [_]) (pc := 9) dX0_ownedSquares_9 lX0_76 kJ6_bitCount_0f7a4 sJ6_bitCount_0f7a4 (by decide) (by decide) (Nat.le_of_ble_eq_true rfl) rfl (eJ6_bitCount (zSet_32 _ (by omega)) ?_)
  rw [zPc_21 (zSet_32 _ (by omega))]
  refine rr_isub (pc := 12) dX0_ownedSquares_12 ?_
  exact rr_reti (pc := 13) dX0_ownedSquares_13 rfl rfl (by rw [r1]; rfl) rfl (hq)
theorem zBits_le (n : Nat) : ∀ k, zBits n k ≤ k := by
  intro k
  induction k with
  | zero => exact Nat.le_refl _
  | succ k ih => show zBits n k + n / 2 ^ k % 2 ≤ k + 1; omega
theorem aNown_le (a : Int → Int) (q : Int) (h : a 1 ≤ 20) : aNown a q ≤ 21 := zBits_le _ 21
theorem aRich_le {a : Int → Int} (h : a 1 ≤ 20) : ∀ n : Nat, -1 ≤ (aRich a n).1 ∧ (aRich a n).1 < n ∧ 0 ≤ (aRich a n).2 ∧ (aRich a n).2 ≤ 21 := by
  intro n
  induction n with
  | zero => show (-1 : Int) ≤ -1 ∧ (-1 : Int) < 0 ∧ (0 : Int) ≤ 0 ∧ (0 : Int) ≤ 21; omega
  | succ n ih =>
    unfold aRich
    have h9 := aNown_le a n h
    split
    · show -1 ≤ (n : Int) ∧ (n : Int) < ((n + 1 : Nat) : Int) ∧ 0 ≤ (aNown a n : Int) ∧ (aNown a n : Int) ≤ 21
      omega
    · omega
theorem dX0_richest_0 : decode cX0_richest 0 = .ok (.iconst (-1), 1) := by decide +kernel
theorem dX0_richest_1 : decode cX0_richest 1 = .ok (.istore_n 1, 1) := by decide +kernel
theorem dX0_richest_2 : decode cX0_richest 2 = .ok (.iconst 0, 1) := by decide +kernel
theorem dX0_richest_3 : decode cX0_richest 3 = .ok (.istore_n 2, 1) := by decide +kernel
theorem dX0_richest_4 : decode cX0_richest 4 = .ok (.iconst 0, 1) := by decide +kernel
theorem dX0_richest_5 : decode cX0_richest 5 = .ok (.istore_n 3, 1) := by decide +kernel
theorem dX0_richest_6 : decode cX0_richest 6 = .ok (.iload_n 3, 1) := by decide +kernel
theorem dX0_richest_7 : decode cX0_richest 7 = .ok (.aload_n 0, 1) := by decide +kernel
theorem dX0_richest_8 : decode cX0_richest 8 = .ok (.getfield 44, 3) := by decide +kernel
theorem dX0_richest_11 : decode cX0_richest 11 = .ok (.if_icmp .ge 30, 3) := by decide +kernel
theorem dX0_richest_14 : decode cX0_richest 14 = .ok (.aload_n 0, 1) := by decide +kernel
theorem dX0_richest_15 : decode cX0_richest 15 = .ok (.iload_n 3, 1) := by decide +kernel
theorem dX0_richest_16 : decode cX0_richest 16 = .ok (.invokevirtual 72, 3) := by decide +kernel
theorem dX0_richest_19 : decode cX0_richest 19 = .ok (.invokestatic 76, 3) := by decide +kernel
theorem dX0_richest_22 : decode cX0_richest 22 = .ok (.istore 4, 2) := by decide +kernel
theorem dX0_richest_24 : decode cX0_richest 24 = .ok (.iload 4, 2) := by decide +kernel
theorem dX0_richest_26 : decode cX0_richest 26 = .ok (.iload_n 2, 1) := by decide +kernel
theorem dX0_richest_27 : decode cX0_richest 27 = .ok (.if_icmp .le 8, 3) := by decide +kernel
theorem dX0_richest_30 : decode cX0_richest 30 = .ok (.iload_n 3, 1) := by decide +kernel
theorem dX0_richest_31 : decode cX0_richest 31 = .ok (.istore_n 1, 1) := by decide +kernel
theorem dX0_richest_32 : decode cX0_richest 32 = .ok (.iload 4, 2) := by decide +kernel
theorem dX0_richest_34 : decode cX0_richest 34 = .ok (.istore_n 2, 1) := by decide +kernel
theorem dX0_richest_35 : decode cX0_richest 35 = .ok (.iinc 3 1, 3) := by decide +kernel
theorem dX0_richest_38 : decode cX0_richest 38 = .ok (.goto (-32), 3) := by decide +kernel
theorem dX0_richest_41 : decode cX0_richest 41 = .ok (.iload_n 1, 1) := by decide +kernel
theorem dX0_richest_42 : decode cX0_richest 42 = .ok (.ireturn, 1) := by decide +kernel
theorem eX0_richest {c : Nat} {W : zWd} {a : Int → Int} {T : Int}  {Q : Option Value → zWd → Prop} {X : zX} (hc : zCt c) (hR : zCR W c a) (hw : zWf T a) (hq : Q (some (zI (aRich a (a 2).toNat).1)) W) : Ev MX0_richest 3 0 W [.ref c] Q X := by
  refine ev_of (ls := [.ref c, .null, .null, .null, .null]) (by decide) rfl (fun _ => rfl) (fun _ => Nat.le_of_ble_eq_true rfl) (Or.inl rfl) ?_
  obtain ⟨r0, r1, r2, r3, r4, r5, r6, r7, rF, rS, rP, rB⟩ := id hR
  obtain ⟨w0, w0', wW, w1, w2, w2', w3, w3', w4, w4', w5, w5', w6, w6', w7, w7', wS, wP, wT⟩ := id hw
  have wq := zWf.sq hw
  have loop : ∀ (n : Nat) (i : Int) (v4 : Value), 0 ≤ i → i ≤ a 2 → (a 2 - i).toNat < n → RR MX0_richest 3 0 W 6 [.ref c, zI (aRich a i.toNat).1, zI (aRich a i.toNat).2, zI i, v4] [] (zEnd MX0_richest Q X) X := by
    intro n
    induction n with
    | zero => intro i v4 _ _ hm9; omega
    | succ n ih =>
      intro i v4 h1 h2 hm9
      refine rr_iload_n (pc := 6) dX0_richest_6 rfl ?_
      refine rr_aload_n (pc := 7) dX0_richest_7 rfl ?_
      refine rr_getI (pc := 8) (ji := 2) dX0_richest_8 fX0_44 hc.k hc.i2 rfl ?_
      refine rr_icmp_ge (pc := 11) (tgt := 41) dX0_richest_11 (by decide) (by unfold zR; omega) (by unfold zR; omega) (fun h11 => ?_) (fun h11 => ?_)
      · refine rr_iload_n (pc := 41) dX0_richest_41 rfl ?_
        exact rr_reti (pc := 42) dX0_richest_42 rfl rfl (by rw [show i = a 2 by omega]) rfl (hq)
      · refine rr_aload_n (pc := 14) dX0_richest_14 rfl ?_
        refine rr_iload_n (pc := 15) dX0_richest_15 rfl ?_
        refine rr_inv0 (M' := MX0_squaresOf) (k := c) (As := [_]) (pc := 16) dX0_richest_16 lX0_72 kX0_squaresOf vX0_squaresOf hc.k (by decide) rfl (by decide) (by decide) (Nat.le_of_ble_eq_true rfl) rfl (eX0_squaresOf hc hR hw (by unfold zR; omega) ?_)
        refine rr_sta0 (M' := MJ6_bitCount_0f7a4) (As := [_]) (pc := 19) dX0_richest_19 lX0_76 kJ6_bitCount_0f7a4 sJ6_bitCount_0f7a4 (by decide) (by decide) (Nat.le_of_ble_eq_true rfl) rfl (eJ6_bitCount (zSet_32 _ (by omega)) ?_)
        rw [zPc_21 (zSet_32 _ (by omega))]
        show RR _ _ _ _ _ _ (zI (aNown a i : Nat) :: []) _ _
        have hb9 := aNown_le a i (by omega)
        have hb8 := aRich_le (a := a) (by omega) i.toNat
        refine rr_istore (pc := 22) dX0_richest_22 (by decide) ?_
        refine rr_iload (pc := 24) dX0_richest_24 rfl ?_
        refine rr_iload_n (pc := 26) dX0_richest_26 rfl ?_
        refine rr_icmp_le (pc := 27) (tgt := 35) dX0_richest_27 (by decide) (by unfold zR; omega) (by unfold zR; omega) (fun h27 => ?_) (fun h27 => ?_)
        · refine rr_iinc (pc := 35) dX0_richest_35 rfl (by decide) ?_
          refine rr_goto (pc := 38) (tgt := 6) dX0_richest_38 (by decide) ?_
          have g9 := ih (i + 1) (zI (aNown a i : Nat)) (by omega) (by omega) (by omega)
          rw [show (i + 1).toNat = i.toNat + 1 by omega] at g9
          unfold aRich at g9
          rw [show ((i.toNat : Nat) : Int) = i by omega] at g9
          revert g9
          first | rw [if_pos h27] | rw [if_neg (by omega)]
          exact fun g9 => g9
        · refine rr_iload_n (pc := 30) dX0_richest_30 rfl ?_
          refine rr_istore_n (pc := 31) dX0_richest_31 (by decide) ?_
          refine rr_iload (pc := 32) dX0_richest_32 rfl ?_
          refine rr_istore_n (pc := 34) dX0_richest_34 (by decide) ?_
          refine rr_iinc (pc := 35) dX0_richest_35 rfl (by decide) ?_
          refine rr_goto (pc := 38) (tgt := 6) dX0_richest_38 (by decide) ?_
          have g9 := ih (i + 1) (zI (aNown a i : Nat)) (by omega) (by omega) (by omega)
          rw [show (i + 1).toNat = i.toNat + 1 by omega] at g9
          unfold aRich at g9
          rw [show ((i.toNat : Nat) : Int) = i by omega] at g9
          revert g9
          first | rw [if_pos h27] | rw [if_neg (by omega)]
          exact fun g9 => g9
  refine rr_iconst (n := (-1)) dX0_richest_0 ?_
  refine rr_istore_n (pc := 1) dX0_richest_1 (by decide) ?_
  refine rr_iconst (n := 0) dX0_richest_2 ?_
  refine rr_istore_n (pc := 3) dX0_richest_3 (by decide) ?_
  refine rr_iconst (n := 0) dX0_richest_4 ?_
  refine rr_istore_n (pc := 5) dX0_richest_5 (by decide) ?_
  exact loop _ 0 .null (by omega) (by omega) (Nat.lt_succ_self _)
theorem dX0_lyingMarkers_0 : decode cX0_lyingMarkers 0 = .ok (.iconst 0, 1) := by decide +kernel
theorem dX0_lyingMarkers_1 : decode cX0_lyingMarkers 1 = .ok (.istore_n 1, 1) := by decide +kernel
theorem dX0_lyingMarkers_2 : decode cX0_lyingMarkers 2 = .ok (.iconst 0, 1) := by decide +kernel
theorem dX0_lyingMarkers_3 : decode cX0_lyingMarkers 3 = .ok (.istore_n 2, 1) := by decide +kernel
theorem dX0_lyingMarkers_4 : decode cX0_lyingMarkers 4 = .ok (.iload_n 2, 1) := by decide +kernel
theorem dX0_lyingMarkers_5 : decode cX0_lyingMarkers 5 = .ok (.aload_n 0, 1) := by decide +kernel
theorem dX0_lyingMarkers_6 : decode cX0_lyingMarkers 6 = .ok (.getfield 44, 3) := by decide +kernel
theorem dX0_lyingMarkers_9 : decode cX0_lyingMarkers 9 = .ok (.if_icmp .ge 22, 3) := by decide +kernel
theorem dX0_lyingMarkers_12 : decode cX0_lyingMarkers 12 = .ok (.aload_n 0, 1) := by decide +kernel
theorem dX0_lyingMarkers_13 : decode cX0_lyingMarkers 13 = .ok (.iload_n 2, 1) := by decide +kernel
theorem dX0_lyingMarkers_14 : decode cX0_lyingMarkers 14 = .ok (.iconst 5, 1) := by decide +kernel
theorem dX0_lyingMarkers_15 : decode cX0_lyingMarkers 15 = .ok (.invokevirtual 81, 3) := by decide +kernel
theorem dX0_lyingMarkers_18 : decode cX0_lyingMarkers 18 = .ok (.iconst (-1), 1) := by decide +kernel
theorem dX0_lyingMarkers_19 : decode cX0_lyingMarkers 19 = .ok (.if_icmp .eq 6, 3) := by decide +kernel
theorem dX0_lyingMarkers_22 : decode cX0_lyingMarkers 22 = .ok (.iinc 1 1, 3) := by decide +kernel
theorem dX0_lyingMarkers_25 : decode cX0_lyingMarkers 25 = .ok (.iinc 2 1, 3) := by decide +kernel
theorem dX0_lyingMarkers_28 : decode cX0_lyingMarkers 28 = .ok (.goto (-24), 3) := by decide +kernel
theorem dX0_lyingMarkers_31 : decode cX0_lyingMarkers 31 = .ok (.iload_n 1, 1) := by decide +kernel
theorem dX0_lyingMarkers_32 : decode cX0_lyingMarkers 32 = .ok (.ireturn, 1) := by decide +kernel
theorem eX0_lyingMarkers {c : Nat} {W : zWd} {a : Int → Int} {T : Int}  {Q : Option Value → zWd → Prop} {X : zX} (hc : zCt c) (hR : zCR W c a) (hw : zWf T a) (hq : Q (some (zI (zCnt (fun q : Nat => decide (aP a q 5 ≠ 0)) (a 2).toNat : Nat))) W) : Ev MX0_lyingMarkers 1 0 W [.ref c] Q X := by
  refine ev_of (ls := [.ref c, .null, .null]) (by decide) rfl (fun _ => rfl) (fun _ => Nat.le_of_ble_eq_true rfl) (Or.inl rfl) ?_
  obtain ⟨r0, r1, r2, r3, r4, r5, r6, r7, rF, rS, rP, rB⟩ := id hR
  obtain ⟨w0, w0', wW, w1, w2, w2', w3, w3', w4, w4', w5, w5', w6, w6', w7, w7', wS, wP, wT⟩ := id hw
  have wq := zWf.sq hw
  have loop : ∀ (n : Nat) (i : Int), 0 ≤ i → i ≤ a 2 → (a 2 - i).toNat < n → RR MX0_lyingMarkers 1 0 W 4 [.ref c, zI (zCnt (fun q : Nat => decide (aP a q 5 ≠ 0)) i.toNat : Nat), zI i] [] (zEnd MX0_lyingMarkers Q X) X := by
    intro n
    induction n with
    | zero => intro i _ _ hm9; omega
    | succ n ih =>
      intro i h1 h2 hm9
      refine rr_iload_n (pc := 4) dX0_lyingMarkers_4 rfl ?_
      refine rr_aload_n (pc := 5) dX0_lyingMarkers_5 rfl ?_
      refine rr_getI (pc := 6) (ji := 2) dX0_lyingMarkers_6 fX0_44 hc.k hc.i2 rfl ?_
      refine rr_icmp_ge (pc := 9) (tgt := 31) dX0_lyingMarkers_9 (by decide) (by unfold zR; omega) (by unfold zR; omega) (fun h9 => ?_) (fun h9 => ?_)
      · refine rr_iload_n (pc := 31) dX0_lyingMarkers_31 rfl ?_
        exact rr_reti (pc := 32) dX0_lyingMarkers_32 rfl rfl (by rw [show i = a 2 by omega]) rfl (hq)
      · refine rr_aload_n (pc := 12) dX0_lyingMarkers_12 rfl ?_
        refine rr_iload_n (pc := 13) dX0_lyingMarkers_13 rfl ?_
        refine rr_iconst (n := 5) dX0_lyingMarkers_14 ?_
        refine rr_inv0 (M' := MX0_get) (k := c) (As := [_, _]) (pc := 15) dX0_lyingMarkers_15 lX0_81 kX0_get vX0_get hc.k (by decide) rfl (by decide) (by decide) (Nat.le_of_ble_eq_true rfl) rfl (eX0_get hc (by omega) (by omega) (by omega) (by omega) ?_)
        have hm := (rP i h1 (by omega)).2.2.2.2.2.1
        have hm2 := wP i h1 (by omega)
        unfold zWfP at hm2
        refine rr_eqS (congrArg (fun z => [zI z]) hm) ?_
        refine rr_iconst (n := (-1)) dX0_lyingMarkers_18 ?_
        refine rr_icmp_eq (pc := 19) (tgt := 25) dX0_lyingMarkers_19 (by decide) (by unfold zR; (try split) <;> omega) (by unfold zR; (try split) <;> omega) (fun h19 => ?_) (fun h19 => ?_)
        · refine rr_iinc (pc := 25) dX0_lyingMarkers_25 rfl (by decide) ?_
          refine rr_goto (pc := 28) (tgt := 4) dX0_lyingMarkers_28 (by decide) ?_
          have g9 := ih (i + 1) (by omega) (by omega) (by omega)
          rw [show (i + 1).toNat = i.toNat + 1 by omega] at g9
          unfold zCnt at g9
          rw [show ((i.toNat : Nat) : Int) = i by omega] at g9
          revert g9
          by_cases e5 : aP a i 5 = 0
          · rw [if_pos e5] at h19
            first | exact absurd rfl h19 | (rw [if_neg (fun z => absurd e5 (of_decide_eq_true z))]; exact fun g9 => g9)
          · rw [if_neg e5] at h19
            first | (exfalso; omega) | (rw [if_pos (decide_eq_true e5)]; exact fun g9 => g9)
        · refine rr_iinc (pc := 22) dX0_lyingMarkers_22 rfl (by decide) ?_
          refine rr_iinc (pc := 25) dX0_lyingMarkers_25 rfl (by decide) ?_
          refine rr_goto (pc := 28) (tgt := 4) dX0_lyingMarkers_28 (by decide) ?_
          have g9 := ih (i + 1) (by omega) (by omega) (by omega)
          rw [show (i + 1).toNat = i.toNat + 1 by omega] at g9
          unfold zCnt at g9
          rw [show ((i.toNat : Nat) : Int) = i by omega] at g9
          revert g9
          by_cases e5 : aP a i 5 = 0
          · rw [if_pos e5] at h19
            first | exact absurd rfl h19 | (rw [if_neg (fun z => absurd e5 (of_decide_eq_true z))]; exact fun g9 => g9)
          · rw [if_neg e5] at h19
            first | (exfalso; omega) | (rw [if_pos (decide_eq_true e5)]; exact fun g9 => g9)
  refine rr_iconst (n := 0) dX0_lyingMarkers_0 ?_
  refine rr_istore_n (pc := 1) dX0_lyingMarkers_1 (by decide) ?_
  refine rr_iconst (n := 0) dX0_lyingMarkers_2 ?_
  refine rr_istore_n (pc := 3) dX0_lyingMarkers_3 (by decide) ?_
  exact loop _ 0 (by omega) (by omega) (Nat.lt_succ_self _)
theorem dX0_markersOn_0 : decode cX0_markersOn 0 = .ok (.iconst 0, 1) := by decide +kernel
theorem dX0_markersOn_1 : decode cX0_markersOn 1 = .ok (.istore_n 2, 1) := by decide +kernel
theorem dX0_markersOn_2 : decode cX0_markersOn 2 = .ok (.iconst 0, 1) := by decide +kernel
theorem dX0_markersOn_3 : decode cX0_markersOn 3 = .ok (.istore_n 3, 1) := by decide +kernel
theorem dX0_markersOn_4 : decode cX0_markersOn 4 = .ok (.iload_n 3, 1) := by decide +kernel
theorem dX0_markersOn_5 : decode cX0_markersOn 5 = .ok (.aload_n 0, 1) := by decide +kernel
theorem dX0_markersOn_6 : decode cX0_markersOn 6 = .ok (.getfield 44, 3) := by decide +kernel
theorem dX0_markersOn_9 : decode cX0_markersOn 9 = .ok (.if_icmp .ge 25, 3) := by decide +kernel
theorem dX0_markersOn_12 : decode cX0_markersOn 12 = .ok (.aload_n 0, 1) := by decide +kernel
theorem dX0_markersOn_13 : decode cX0_markersOn 13 = .ok (.iload_n 3, 1) := by decide +kernel
theorem dX0_markersOn_14 : decode cX0_markersOn 14 = .ok (.iconst 5, 1) := by decide +kernel
theorem dX0_markersOn_15 : decode cX0_markersOn 15 = .ok (.invokevirtual 81, 3) := by decide +kernel
theorem dX0_markersOn_18 : decode cX0_markersOn 18 = .ok (.iload_n 1, 1) := by decide +kernel
theorem dX0_markersOn_19 : decode cX0_markersOn 19 = .ok (.if_icmp .ne 9, 3) := by decide +kernel
theorem dX0_markersOn_22 : decode cX0_markersOn 22 = .ok (.iload_n 2, 1) := by decide +kernel
theorem dX0_markersOn_23 : decode cX0_markersOn 23 = .ok (.iconst 1, 1) := by decide +kernel
theorem dX0_markersOn_24 : decode cX0_markersOn 24 = .ok (.iload_n 3, 1) := by decide +kernel
theorem dX0_markersOn_25 : decode cX0_markersOn 25 = .ok (.ishl, 1) := by decide +kernel
theorem dX0_markersOn_26 : decode cX0_markersOn 26 = .ok (.ior, 1) := by decide +kernel
theorem dX0_markersOn_27 : decode cX0_markersOn 27 = .ok (.istore_n 2, 1) := by decide +kernel
theorem dX0_markersOn_28 : decode cX0_markersOn 28 = .ok (.iinc 3 1, 3) := by decide +kernel
theorem dX0_markersOn_31 : decode cX0_markersOn 31 = .ok (.goto (-27), 3) := by decide +kernel
theorem dX0_markersOn_34 : decode cX0_markersOn 34 = .ok (.iload_n 2, 1) := by decide +kernel
theorem dX0_markersOn_35 : decode cX0_markersOn 35 = .ok (.ireturn, 1) := by decide +kernel
theorem eX0_markersOn {c : Nat} {W : zWd} {a : Int → Int} {T : Int} {s : Int} {Q : Option Value → zWd → Prop} {X : zX} (hc : zCt c) (hR : zCR W c a) (hw : zWf T a) (h0 : 1 ≤ s) (hs1 : s ≤ a 1) (hq : Q (some (zI (zSet0 (fun q : Nat => decide (aP a q 5 = s)) (a 2).toNat : Nat))) W) : Ev MX0_markersOn 1 0 W [.ref c, zI s] Q X := by
  refine ev_of (ls := [.ref c, zI s, .null, .null]) (by decide) rfl (fun _ => rfl) (fun _ => Nat.le_of_ble_eq_true rfl) (Or.inl rfl) ?_
  obtain ⟨r0, r1, r2, r3, r4, r5, r6, r7, rF, rS, rP, rB⟩ := id hR
  obtain ⟨w0, w0', wW, w1, w2, w2', w3, w3', w4, w4', w5, w5', w6, w6', w7, w7', wS, wP, wT⟩ := id hw
  have wq := zWf.sq hw
  have loop : ∀ (n : Nat) (i : Int), 0 ≤ i → i ≤ a 2 → (a 2 - i).toNat < n → RR MX0_markersOn 1 0 W 4 [.ref c, zI s, zI (zSet0 (fun q : Nat => decide (aP a q 5 = s)) i.toNat : Nat), zI i] [] (zEnd MX0_markersOn Q X) X := by
    intro n
    induction n with
    | zero => intro i _ _ hm9; omega
    | succ n ih =>
      intro i h1 h2 hm9
      refine rr_iload_n (pc := 4) dX0_markersOn_4 rfl ?_
      refine rr_aload_n (pc := 5) dX0_markersOn_5 rfl ?_
      refine rr_getI (pc := 6) (ji := 2) dX0_markersOn_6 fX0_44 hc.k hc.i2 rfl ?_
      refine rr_icmp_ge (pc := 9) (tgt := 34) dX0_markersOn_9 (by decide) (by unfold zR; omega) (by unfold zR; omega) (fun h9 => ?_) (fun h9 => ?_)
      · refine rr_iload_n (pc := 34) dX0_markersOn_34 rfl ?_
        exact rr_reti (pc := 35) dX0_markersOn_35 rfl rfl (by rw [show i = a 2 by omega]) rfl (hq)
      · refine rr_aload_n (pc := 12) dX0_markersOn_12 rfl ?_
        refine rr_iload_n (pc := 13) dX0_markersOn_13 rfl ?_
        refine rr_iconst (n := 5) dX0_markersOn_14 ?_
        refine rr_inv0 (M' := MX0_get) (k := c) (As := [_, _]) (pc := 15) dX0_markersOn_15 lX0_81 kX0_get vX0_get hc.k (by decide) rfl (by decide) (by decide) (Nat.le_of_ble_eq_true rfl) rfl (eX0_get hc (by omega) (by omega) (by omega) (by omega) ?_)
        have hm := (rP i h1 (by omega)).2.2.2.2.2.1
        have hm2 := wP i h1 (by omega)
        unfold zWfP at hm2
        refine rr_eqS (congrArg (fun z => [zI z]) hm) ?_
        refine rr_iload_n (pc := 18) dX0_markersOn_18 rfl ?_
        refine rr_icmp_ne (pc := 19) (tgt := 28) dX0_markersOn_19 (by decide) (by unfold zR; (try split) <;> omega) (by unfold zR; (try split) <;> omega) (fun h19 => ?_) (fun h19 => ?_)
        · refine rr_iinc (pc := 28) dX0_markersOn_28 rfl (by decide) ?_
          refine rr_goto (pc := 31) (tgt := 4) dX0_markersOn_31 (by decide) ?_
          have g9 := ih (i + 1) (by omega) (by omega) (by omega)
          rw [show (i + 1).toNat = i.toNat + 1 by omega] at g9
          unfold zSet0 at g9
          rw [show ((i.toNat : Nat) : Int) = i by omega] at g9
          revert g9
          by_cases e5 : aP a i 5 = s
          · rw [if_neg (show ¬ aP a i 5 = 0 by omega)] at h19
            first | exact absurd e5 h19 | (rw [if_pos (decide_eq_true e5)]; exact fun g9 => g9)
          · have e6 : (if aP a i 5 = 0 then -1 else aP a i 5) ≠ s := by split <;> omega
            first | exact absurd h19 e6 | (rw [if_neg (fun z => e5 (of_decide_eq_true z))]; exact fun g9 => g9)
        · refine rr_iload_n (pc := 22) dX0_markersOn_22 rfl ?_
          refine rr_iconst (n := 1) dX0_markersOn_23 ?_
          refine rr_iload_n (pc := 24) dX0_markersOn_24 rfl ?_
          refine rr_ishl1 (pc := 25) dX0_markersOn_25 (by omega) (by omega) ?_
          refine rr_ior (pc := 26) dX0_markersOn_26 (Nat.lt_trans (zSet0_32 _ (by omega)) (by decide)) (z_p32 (by omega)) ?_
          refine rr_istore_n (pc := 27) dX0_markersOn_27 (by decide) ?_
          refine rr_iinc (pc := 28) dX0_markersOn_28 rfl (by decide) ?_
          refine rr_goto (pc := 31) (tgt := 4) dX0_markersOn_31 (by decide) ?_
          have g9 := ih (i + 1) (by omega) (by omega) (by omega)
          rw [show (i + 1).toNat = i.toNat + 1 by omega] at g9
          unfold zSet0 at g9
          rw [show ((i.toNat : Nat) : Int) = i by omega] at g9
          revert g9
          by_cases e5 : aP a i 5 = s
          · rw [if_neg (show ¬ aP a i 5 = 0 by omega)] at h19
            first | exact absurd e5 h19 | (rw [if_pos (decide_eq_true e5)]; exact fun g9 => g9)
          · have e6 : (if aP a i 5 = 0 then -1 else aP a i 5) ≠ s := by split <;> omega
            first | exact absurd h19 e6 | (rw [if_neg (fun z => e5 (of_decide_eq_true z))]; exact fun g9 => g9)
  refine rr_iconst (n := 0) dX0_markersOn_0 ?_
  refine rr_istore_n (pc := 1) dX0_markersOn_1 (by decide) ?_
  refine rr_iconst (n := 0) dX0_markersOn_2 ?_
  refine rr_istore_n (pc := 3) dX0_markersOn_3 (by decide) ?_
  exact loop _ 0 (by omega) (by omega) (Nat.lt_succ_self _)
theorem dX0_markedSquares_0 : decode cX0_markedSquares 0 = .ok (.iconst 0, 1) := by decide +kernel
theorem dX0_markedSquares_1 : decode cX0_markedSquares 1 = .ok (.istore_n 2, 1) := by decide +kernel
theorem dX0_markedSquares_2 : decode cX0_markedSquares 2 = .ok (.iconst 0, 1) := by decide +kernel
theorem dX0_markedSquares_3 : decode cX0_markedSquares 3 = .ok (.istore_n 3, 1) := by decide +kernel
theorem dX0_markedSquares_4 : decode cX0_markedSquares 4 = .ok (.iload_n 3, 1) := by decide +kernel
theorem dX0_markedSquares_5 : decode cX0_markedSquares 5 = .ok (.aload_n 0, 1) := by decide +kernel
theorem dX0_markedSquares_6 : decode cX0_markedSquares 6 = .ok (.getfield 44, 3) := by decide +kernel
theorem dX0_markedSquares_9 : decode cX0_markedSquares 9 = .ok (.if_icmp .ge 35, 3) := by decide +kernel
theorem dX0_markedSquares_12 : decode cX0_markedSquares 12 = .ok (.aload_n 0, 1) := by decide +kernel
theorem dX0_markedSquares_13 : decode cX0_markedSquares 13 = .ok (.iload_n 3, 1) := by decide +kernel
theorem dX0_markedSquares_14 : decode cX0_markedSquares 14 = .ok (.iconst 5, 1) := by decide +kernel
theorem dX0_markedSquares_15 : decode cX0_markedSquares 15 = .ok (.invokevirtual 81, 3) := by decide +kernel
theorem dX0_markedSquares_18 : decode cX0_markedSquares 18 = .ok (.istore 4, 2) := by decide +kernel
theorem dX0_markedSquares_20 : decode cX0_markedSquares 20 = .ok (.iload_n 3, 1) := by decide +kernel
theorem dX0_markedSquares_21 : decode cX0_markedSquares 21 = .ok (.iload_n 1, 1) := by decide +kernel
theorem dX0_markedSquares_22 : decode cX0_markedSquares 22 = .ok (.if_icmp .eq 16, 3) := by decide +kernel
theorem dX0_markedSquares_25 : decode cX0_markedSquares 25 = .ok (.iload 4, 2) := by decide +kernel
theorem dX0_markedSquares_27 : decode cX0_markedSquares 27 = .ok (.iconst (-1), 1) := by decide +kernel
theorem dX0_markedSquares_28 : decode cX0_markedSquares 28 = .ok (.if_icmp .eq 10, 3) := by decide +kernel
theorem dX0_markedSquares_31 : decode cX0_markedSquares 31 = .ok (.iload_n 2, 1) := by decide +kernel
theorem dX0_markedSquares_32 : decode cX0_markedSquares 32 = .ok (.iconst 1, 1) := by decide +kernel
theorem dX0_markedSquares_33 : decode cX0_markedSquares 33 = .ok (.iload 4, 2) := by decide +kernel
theorem dX0_markedSquares_35 : decode cX0_markedSquares 35 = .ok (.ishl, 1) := by decide +kernel
theorem dX0_markedSquares_36 : decode cX0_markedSquares 36 = .ok (.ior, 1) := by decide +kernel
theorem dX0_markedSquares_37 : decode cX0_markedSquares 37 = .ok (.istore_n 2, 1) := by decide +kernel
theorem dX0_markedSquares_38 : decode cX0_markedSquares 38 = .ok (.iinc 3 1, 3) := by decide +kernel
theorem dX0_markedSquares_41 : decode cX0_markedSquares 41 = .ok (.goto (-37), 3) := by decide +kernel
theorem dX0_markedSquares_44 : decode cX0_markedSquares 44 = .ok (.iload_n 2, 1) := by decide +kernel
theorem dX0_markedSquares_45 : decode cX0_markedSquares 45 = .ok (.ireturn, 1) := by decide +kernel
theorem eX0_markedSquares {c : Nat} {W : zWd} {a : Int → Int} {T : Int} {w : Int} {Q : Option Value → zWd → Prop} {X : zX} (hc : zCt c) (hR : zCR W c a) (hw : zWf T a) (hw9 : zR w) (hq : Q (some (zI (zMks a w (a 2).toNat : Nat))) W) : Ev MX0_markedSquares 1 0 W [.ref c, zI w] Q X := by
  refine ev_of (ls := [.ref c, zI w, .null, .null, .null]) (by decide) rfl (fun _ => rfl) (fun _ => Nat.le_of_ble_eq_true rfl) (Or.inl rfl) ?_
  obtain ⟨r0, r1, r2, r3, r4, r5, r6, r7, rF, rS, rP, rB⟩ := id hR
  obtain ⟨w0, w0', wW, w1, w2, w2', w3, w3', w4, w4', w5, w5', w6, w6', w7, w7', wS, wP, wT⟩ := id hw
  have wq := zWf.sq hw
  have loop : ∀ (n : Nat) (i : Int) (v4 : Value), 0 ≤ i → i ≤ a 2 → (a 2 - i).toNat < n → RR MX0_markedSquares 1 0 W 4 [.ref c, zI w, zI (zMks a w i.toNat : Nat), zI i, v4] [] (zEnd MX0_markedSquares Q X) X := by
    intro n
    induction n with
    | zero => intro i v4 _ _ hm9; omega
    | succ n ih =>
      intro i v4 h1 h2 hm9
      refine rr_iload_n (pc := 4) dX0_markedSquares_4 rfl ?_
      refine rr_aload_n (pc := 5) dX0_markedSquares_5 rfl ?_
      refine rr_getI (pc := 6) (ji := 2) dX0_markedSquares_6 fX0_44 hc.k hc.i2 rfl ?_
      refine rr_icmp_ge (pc := 9) (tgt := 44) dX0_markedSquares_9 (by decide) (by unfold zR; omega) (by unfold zR; omega) (fun h9 => ?_) (fun h9 => ?_)
      · refine rr_iload_n (pc := 44) dX0_markedSquares_44 rfl ?_
        exact rr_reti (pc := 45) dX0_markedSquares_45 rfl rfl (by rw [show i = a 2 by omega]) rfl (hq)
      · refine rr_aload_n (pc := 12) dX0_markedSquares_12 rfl ?_
        refine rr_iload_n (pc := 13) dX0_markedSquares_13 rfl ?_
        refine rr_iconst (n := 5) dX0_markedSquares_14 ?_
        refine rr_inv0 (M' := MX0_get) (k := c) (As := [_, _]) (pc := 15) dX0_markedSquares_15 lX0_81 kX0_get vX0_get hc.k (by decide) rfl (by decide) (by decide) (Nat.le_of_ble_eq_true rfl) rfl (eX0_get hc (by omega) (by omega) (by omega) (by omega) ?_)
        have hm := (rP i h1 (by omega)).2.2.2.2.2.1
        have hm2 := wP i h1 (by omega)
        unfold zWfP at hm2
        refine rr_eqS (congrArg (fun z => [zI z]) hm) ?_
        refine rr_istore (pc := 18) dX0_markedSquares_18 (by decide) ?_
        refine rr_iload_n (pc := 20) dX0_markedSquares_20 rfl ?_
        refine rr_iload_n (pc := 21) dX0_markedSquares_21 rfl ?_
        refine rr_icmp_eq (pc := 22) (tgt := 38) dX0_markedSquares_22 (by decide) (by unfold zR; omega) hw9 (fun h22 => ?_) (fun h22 => ?_)
        · refine rr_iinc (pc := 38) dX0_markedSquares_38 rfl (by decide) ?_
          refine rr_goto (pc := 41) (tgt := 4) dX0_markedSquares_41 (by decide) ?_
          have g9 := ih (i + 1) (zI (if aP a i 5 = 0 then -1 else aP a i 5)) (by omega) (by omega) (by omega)
          rw [show (i + 1).toNat = i.toNat + 1 by omega] at g9
          unfold zMks at g9
          rw [show ((i.toNat : Nat) : Int) = i by omega] at g9
          revert g9
          by_cases e5 : aP a i 5 = 0
          · rw [if_neg (show ¬ (i ≠ w ∧ aP a i 5 ≠ 0) by omega)]
            first | (rw [if_pos e5] at h28; exact absurd rfl h28) | exact fun g9 => g9
          · by_cases e6 : i = w
            · rw [if_neg (show ¬ (i ≠ w ∧ aP a i 5 ≠ 0) by omega)]
              first | exact absurd e6 h22 | exact fun g9 => g9
            · rw [if_pos (show i ≠ w ∧ aP a i 5 ≠ 0 by omega)]
              first | exact absurd h22 e6 | (rw [if_neg e5] at h28; exfalso; omega) | (rw [if_neg e5]; exact fun g9 => g9)
        · refine rr_iload (pc := 25) dX0_markedSquares_25 rfl ?_
          refine rr_iconst (n := (-1)) dX0_markedSquares_27 ?_
          refine rr_icmp_eq (pc := 28) (tgt := 38) dX0_markedSquares_28 (by decide) (by unfold zR; (try split) <;> omega) (by unfold zR; (try split) <;> omega) (fun h28 => ?_) (fun h28 => ?_)
          · refine rr_iinc (pc := 38) dX0_markedSquares_38 rfl (by decide) ?_
            refine rr_goto (pc := 41) (tgt := 4) dX0_markedSquares_41 (by decide) ?_
            have g9 := ih (i + 1) (zI (if aP a i 5 = 0 then -1 else aP a i 5)) (by omega) (by omega) (by omega)
            rw [show (i + 1).toNat = i.toNat + 1 by omega] at g9
            unfold zMks at g9
            rw [show ((i.toNat : Nat) : Int) = i by omega] at g9
            revert g9
            by_cases e5 : aP a i 5 = 0
            · rw [if_neg (show ¬ (i ≠ w ∧ aP a i 5 ≠ 0) by omega)]
              first | (rw [if_pos e5] at h28; exact absurd rfl h28) | exact fun g9 => g9
            · by_cases e6 : i = w
              · rw [if_neg (show ¬ (i ≠ w ∧ aP a i 5 ≠ 0) by omega)]
                first | exact absurd e6 h22 | exact fun g9 => g9
              · rw [if_pos (show i ≠ w ∧ aP a i 5 ≠ 0 by omega)]
                first | exact absurd h22 e6 | (rw [if_neg e5] at h28; exfalso; omega) | (rw [if_neg e5]; exact fun g9 => g9)
          · refine rr_iload_n (pc := 31) dX0_markedSquares_31 rfl ?_
            refine rr_iconst (n := 1) dX0_markedSquares_32 ?_
            refine rr_iload (pc := 33) dX0_markedSquares_33 rfl ?_
            refine rr_eqS (congrArg (fun z => zI z :: zI 1 :: zI (zMks a w i.toNat : Nat) :: []) (if_neg (show ¬ aP a i 5 = 0 by split at h28 <;> omega))) ?_
            refine rr_ishl1 (pc := 35) dX0_markedSquares_35 (by omega) (by omega) ?_
            refine rr_ior (pc := 36) dX0_markedSquares_36 (Nat.lt_trans (zMks_lt _ (fun q a1 a2 => by have := wP q a1 (by omega); unfold zWfP at this; omega)) (by decide)) (z_p32 (by omega)) ?_
            refine rr_istore_n (pc := 37) dX0_markedSquares_37 (by decide) ?_
            refine rr_iinc (pc := 38) dX0_markedSquares_38 rfl (by decide) ?_
            refine rr_goto (pc := 41) (tgt := 4) dX0_markedSquares_41 (by decide) ?_
            have g9 := ih (i + 1) (zI (if aP a i 5 = 0 then -1 else aP a i 5)) (by omega) (by omega) (by omega)
            rw [show (i + 1).toNat = i.toNat + 1 by omega] at g9
            unfold zMks at g9
            rw [show ((i.toNat : Nat) : Int) = i by omega] at g9
            revert g9
            by_cases e5 : aP a i 5 = 0
            · rw [if_neg (show ¬ (i ≠ w ∧ aP a i 5 ≠ 0) by omega)]
              first | (rw [if_pos e5] at h28; exact absurd rfl h28) | exact fun g9 => g9
            · by_cases e6 : i = w
              · rw [if_neg (show ¬ (i ≠ w ∧ aP a i 5 ≠ 0) by omega)]
                first | exact absurd e6 h22 | exact fun g9 => g9
              · rw [if_pos (show i ≠ w ∧ aP a i 5 ≠ 0 by omega)]
                first | exact absurd h22 e6 | (rw [if_neg e5] at h28; exfalso; omega) | (rw [if_neg e5]; exact fun g9 => g9)
  refine rr_iconst (n := 0) dX0_markedSquares_0 ?_
  refine rr_istore_n (pc := 1) dX0_markedSquares_1 (by decide) ?_
  refine rr_iconst (n := 0) dX0_markedSquares_2 ?_
  refine rr_istore_n (pc := 3) dX0_markedSquares_3 (by decide) ?_
  exact loop _ 0 .null (by omega) (by omega) (Nat.lt_succ_self _)
theorem dX0_usableSet_0 : decode cX0_usableSet 0 = .ok (.aload_n 0, 1) := by decide +kernel
theorem dX0_usableSet_1 : decode cX0_usableSet 1 = .ok (.iconst (-1), 1) := by decide +kernel
theorem dX0_usableSet_2 : decode cX0_usableSet 2 = .ok (.invokevirtual 72, 3) := by decide +kernel
theorem dX0_usableSet_5 : decode cX0_usableSet 5 = .ok (.aload_n 0, 1) := by decide +kernel
theorem dX0_usableSet_6 : decode cX0_usableSet 6 = .ok (.iload_n 1, 1) := by decide +kernel
theorem dX0_usableSet_7 : decode cX0_usableSet 7 = .ok (.invokevirtual 72, 3) := by decide +kernel
theorem dX0_usableSet_10 : decode cX0_usableSet 10 = .ok (.ior, 1) := by decide +kernel
theorem dX0_usableSet_11 : decode cX0_usableSet 11 = .ok (.iload_n 2, 1) := by decide +kernel
theorem dX0_usableSet_12 : decode cX0_usableSet 12 = .ok (.iconst (-1), 1) := by decide +kernel
theorem dX0_usableSet_13 : decode cX0_usableSet 13 = .ok (.ixor, 1) := by decide +kernel
theorem dX0_usableSet_14 : decode cX0_usableSet 14 = .ok (.iand, 1) := by decide +kernel
theorem dX0_usableSet_15 : decode cX0_usableSet 15 = .ok (.ireturn, 1) := by decide +kernel
theorem eX0_usableSet {c : Nat} {W : zWd} {a : Int → Int} {T : Int} {q : Int} {m : Nat} {Q : Option Value → zWd → Prop} {X : zX} (hc : zCt c) (hR : zCR W c a) (hw : zWf T a) (hq0 : zR q) (hm : m < 2097152) (hq : Q (some (zI (aUset a q m : Nat))) W) : Ev MX0_usableSet 1 0 W [.ref c, zI q, zI (m : Int)] Q X := by
  refine ev_of (ls := [.ref c, zI q, zI (m : Int)]) (by decide) rfl (fun _ => rfl) (fun _ => Nat.le_of_ble_eq_true rfl) (Or.inl rfl) ?_
  obtain ⟨r0, r1, r2, r3, r4, r5, r6, r7, rF, rS, rP, rB⟩ := id hR
  obtain ⟨w0, w0', wW, w1, w2, w2', w3, w3', w4, w4', w5, w5', w6, w6', w7, w7', wS, wP, wT⟩ := id hw
  have wq := zWf.sq hw
  refine rr_aload_n (pc := 0) dX0_usableSet_0 rfl ?_
  refine rr_iconst (n := (-1)) dX0_usableSet_1 ?_
  refine rr_inv0 (M' := MX0_squaresOf) (k := c) (As := [_]) (pc := 2) dX0_usableSet_2 lX0_72 kX0_squaresOf vX0_squaresOf hc.k (by decide) rfl (by decide) (by decide) (Nat.le_of_ble_eq_true rfl) rfl (eX0_squaresOf hc hR hw (by unfold zR; omega) ?_)
  refine rr_aload_n (pc := 5) dX0_usableSet_5 rfl ?_
  refine rr_iload_n (pc := 6) dX0_usableSet_6 rfl ?_
  refine rr_inv0 (M' := MX0_squaresOf) (k := c) (As := [_]) (pc := 7) dX0_usableSet_7 lX0_72 kX0_squaresOf vX0_squaresOf hc.k (by decide) rfl (by decide) (by decide) (Nat.le_of_ble_eq_true rfl) rfl (eX0_squaresOf hc hR hw hq0 ?_)
  refine rr_ior (pc := 10) dX0_usableSet_10 (Nat.lt_trans (zSet_32 _ (by omega)) (by decide)) (Nat.lt_trans (zSet_32 _ (by omega)) (by decide)) ?_
  refine rr_iload_n (pc := 11) dX0_usableSet_11 rfl ?_
  refine rr_iconst (n := (-1)) dX0_usableSet_12 ?_
  refine rr_inot (pc := 13) dX0_usableSet_13 (by omega) ?_
  refine rr_iandn (pc := 14) dX0_usableSet_14 (Nat.lt_trans (Nat.or_lt_two_pow (n := 21) (zSet_32 _ (by omega)) (zSet_32 _ (by omega))) (by decide)) (by omega) ?_
  exact rr_reti (pc := 15) dX0_usableSet_15 rfl rfl rfl rfl (hq)
end
section
theorem dX0_footingOf_0 : decode cX0_footingOf 0 = .ok (.iconst 1, 1) := by decide +kernel
theorem dX0_footingOf_1 : decode cX0_footingOf 1 = .ok (.aload_n 0, 1) := by decide +kernel
theorem dX0_footingOf_2 : decode cX0_footingOf 2 = .ok (.getfield 9, 3) := by decide +kernel
theorem dX0_footingOf_5 : decode cX0_footingOf 5 = .ok (.iload_n 1, 1) := by decide +kernel
theorem dX0_footingOf_6 : decode cX0_footingOf 6 = .ok (.iconst 1, 1) := by decide +kernel
theorem dX0_footingOf_7 : decode cX0_footingOf 7 = .ok (.iadd, 1) := by decide +kernel
theorem dX0_footingOf_8 : decode cX0_footingOf 8 = .ok (.iaload, 1) := by decide +kernel
theorem dX0_footingOf_9 : decode cX0_footingOf 9 = .ok (.ishl, 1) := by decide +kernel
theorem dX0_footingOf_10 : decode cX0_footingOf 10 = .ok (.iconst 1, 1) := by decide +kernel
theorem dX0_footingOf_11 : decode cX0_footingOf 11 = .ok (.aload_n 0, 1) := by decide +kernel
theorem dX0_footingOf_12 : decode cX0_footingOf 12 = .ok (.getfield 9, 3) := by decide +kernel
theorem dX0_footingOf_15 : decode cX0_footingOf 15 = .ok (.iload_n 1, 1) := by decide +kernel
theorem dX0_footingOf_16 : decode cX0_footingOf 16 = .ok (.iaload, 1) := by decide +kernel
theorem dX0_footingOf_17 : decode cX0_footingOf 17 = .ok (.ishl, 1) := by decide +kernel
theorem dX0_footingOf_18 : decode cX0_footingOf 18 = .ok (.isub, 1) := by decide +kernel
theorem dX0_footingOf_19 : decode cX0_footingOf 19 = .ok (.istore 4, 2) := by decide +kernel
theorem dX0_footingOf_21 : decode cX0_footingOf 21 = .ok (.iload 4, 2) := by decide +kernel
theorem dX0_footingOf_23 : decode cX0_footingOf 23 = .ok (.iload_n 2, 1) := by decide +kernel
theorem dX0_footingOf_24 : decode cX0_footingOf 24 = .ok (.iand, 1) := by decide +kernel
theorem dX0_footingOf_25 : decode cX0_footingOf 25 = .ok (.istore 5, 2) := by decide +kernel
theorem dX0_footingOf_27 : decode cX0_footingOf 27 = .ok (.iload 5, 2) := by decide +kernel
theorem dX0_footingOf_29 : decode cX0_footingOf 29 = .ok (.ifCond .ne 5, 3) := by decide +kernel
theorem dX0_footingOf_32 : decode cX0_footingOf 32 = .ok (.iconst 0, 1) := by decide +kernel
theorem dX0_footingOf_33 : decode cX0_footingOf 33 = .ok (.ireturn, 1) := by decide +kernel
theorem dX0_footingOf_34 : decode cX0_footingOf 34 = .ok (.iload 5, 2) := by decide +kernel
theorem dX0_footingOf_36 : decode cX0_footingOf 36 = .ok (.invokestatic 76, 3) := by decide +kernel
theorem dX0_footingOf_39 : decode cX0_footingOf 39 = .ok (.iconst 2, 1) := by decide +kernel
theorem dX0_footingOf_40 : decode cX0_footingOf 40 = .ok (.if_icmp .eq 10, 3) := by decide +kernel
theorem dX0_footingOf_43 : decode cX0_footingOf 43 = .ok (.iload 5, 2) := by decide +kernel
theorem dX0_footingOf_45 : decode cX0_footingOf 45 = .ok (.iload_n 3, 1) := by decide +kernel
theorem dX0_footingOf_46 : decode cX0_footingOf 46 = .ok (.iand, 1) := by decide +kernel
theorem dX0_footingOf_47 : decode cX0_footingOf 47 = .ok (.ifCond .eq 7, 3) := by decide +kernel
theorem dX0_footingOf_50 : decode cX0_footingOf 50 = .ok (.iconst 2, 1) := by decide +kernel
theorem dX0_footingOf_51 : decode cX0_footingOf 51 = .ok (.goto 4, 3) := by decide +kernel
theorem dX0_footingOf_54 : decode cX0_footingOf 54 = .ok (.iconst 1, 1) := by decide +kernel
theorem dX0_footingOf_55 : decode cX0_footingOf 55 = .ok (.ireturn, 1) := by decide +kernel
theorem eX0_footingOf {c : Nat} {W : zWd} {a : Int → Int} {T : Int} {r : Int} {u o : Nat} {Q : Option Value → zWd → Prop} {X : zX} (hc : zCt c) (hR : zCR W c a) (hw : zWf T a) (h0 : 0 ≤ r) (h1 : r < a 0) (hu : u < 2097152) (ho : o < 2097152) (hq : Q (some (zI (zFo (aF a r.toNat).toNat (a (8 + r)) (fun i => u.testBit i) (fun i => o.testBit i)))) W) : Ev MX0_footingOf 1 0 W [.ref c, zI r, zI (u : Int), zI (o : Int)] Q X := by
  refine ev_of (ls := [.ref c, zI r, zI (u : Int), zI (o : Int), .null, .null]) (by decide) rfl (fun _ => rfl) (fun _ => Nat.le_of_ble_eq_true rfl) (Or.inl rfl) ?_
  obtain ⟨r0, r1, r2, r3, r4, r5, r6, r7, rF, rS, rP, rB⟩ := id hR
  obtain ⟨w0, w0', wW, w1, w2, w2', w3, w3', w4, w4', w5, w5', w6, w6', w7, w7', wS, wP, wT⟩ := id hw
  have wq := zWf.sq hw
  have e0 : W (c + 1) r = aF a r.toNat := by
    have h9 := rF r.toNat (by omega) (by omega)
    rw [show ((r.toNat : Nat) : Int) = r by omega] at h9; exact h9
  have e1 : W (c + 1) (r + 1) = aF a (r.toNat + 1) := by
    have h9 := rF (r.toNat + 1) (by omega) (by omega)
    rw [show ((r.toNat + 1 : Nat) : Int) = r + 1 by omega] at h9; exact h9
  have hf := aF_lo hw (r := r.toNat) (by omega)
  have hf1 := aF_lo hw (r := r.toNat + 1) (by omega)
  have hf2 := aF_le hw (r := r.toNat + 1) (by omega)
  have hst := aF_step (a := a) r.toNat
  rw [show ((r.toNat : Nat) : Int) = r by omega] at hst
  have hww := wW r h0 h1
  have hs := zFo_spec (f := (aF a r.toNat).toNat) (u := u) (o := o) hww (by omega) (by omega)
  refine rr_iconst (n := 1) dX0_footingOf_0 ?_
  refine rr_aload_n (pc := 1) dX0_footingOf_1 rfl ?_
  refine rr_getR (pc := 2) dX0_footingOf_2 fX0_9 hc.k hc.r8 ?_
  refine rr_iload_n (pc := 5) dX0_footingOf_5 rfl ?_
  refine rr_iconst (n := 1) dX0_footingOf_6 ?_
  refine rr_iadd (pc := 7) dX0_footingOf_7 ?_
  refine rr_iald (pc := 8) dX0_footingOf_8 hc.a1 (by omega) (by omega) ?_
  rw [e1]
  refine rr_ishl1 (pc := 9) dX0_footingOf_9 (by omega) (by omega) ?_
  refine rr_iconst (n := 1) dX0_footingOf_10 ?_
  refine rr_aload_n (pc := 11) dX0_footingOf_11 rfl ?_
  refine rr_getR (pc := 12) dX0_footingOf_12 fX0_9 hc.k hc.r8 ?_
  refine rr_iload_n (pc := 15) dX0_footingOf_15 rfl ?_
  refine rr_iald (pc := 16) dX0_footingOf_16 hc.a1 (by omega) (by omega) ?_
  rw [e0]
  refine rr_ishl1 (pc := 17) dX0_footingOf_17 (by omega) (by omega) ?_
  refine rr_isub (pc := 18) dX0_footingOf_18 ?_
  rw [show aF a (r.toNat + 1) = ((aF a r.toNat).toNat : Int) + a (8 + r) by rw [aF_step, show ((r.toNat : Nat) : Int) = r by omega]; omega, zRow_sub (by omega) (by omega)]
  refine rr_istore (pc := 19) dX0_footingOf_19 (by decide) ?_
  refine rr_iload (pc := 21) dX0_footingOf_21 rfl ?_
  refine rr_iload_n (pc := 23) dX0_footingOf_23 rfl ?_
  refine rr_iand (pc := 24) (m := zRow (aF a r.toNat).toNat (a (8 + r))) (n := u) dX0_footingOf_24 (Nat.lt_trans (zRow_lt (by omega)) (by decide)) (by omega) ?_
  have hx : zRow (aF a r.toNat).toNat (a (8 + r)) &&& u < 2097152 := Nat.lt_of_le_of_lt Nat.and_le_right hu
  generalize hX : zRow (aF a r.toNat).toNat (a (8 + r)) &&& u = x at hx hs ⊢
  refine rr_istore (pc := 25) dX0_footingOf_25 (by decide) ?_
  refine rr_iload (pc := 27) dX0_footingOf_27 rfl ?_
  refine rr_if_ne (pc := 29) (tgt := 34) dX0_footingOf_29 (by decide) (by unfold zR; omega) (fun h29 => ?_) (fun h29 => ?_)
  · refine rr_iload (pc := 34) dX0_footingOf_34 rfl ?_
    refine rr_sta0 (M' := MJ6_bitCount_0f7a4) (As := [_]) (pc := 36) dX0_footingOf_36 lX0_76 kJ6_bitCount_0f7a4 sJ6_bitCount_0f7a4 (by decide) (by decide) (Nat.le_of_ble_eq_true rfl) rfl (eJ6_bitCount hx ?_)
    have hpc : zPc x ≤ 63 := Nat.and_le_right
    refine rr_iconst (n := 2) dX0_footingOf_39 ?_
    refine rr_icmp_eq (pc := 40) (tgt := 50) dX0_footingOf_40 (by decide) (by unfold zR; omega) (by unfold zR; omega) (fun h40 => ?_) (fun h40 => ?_)
    · refine rr_iconst (n := 2) dX0_footingOf_50 ?_
      refine rr_goto (pc := 51) (tgt := 55) dX0_footingOf_51 (by decide) ?_
      exact rr_reti (pc := 55) dX0_footingOf_55 rfl rfl (by rw [hs, if_neg (by omega)]; first | rw [if_pos (Or.inl (by omega))] | rw [if_pos (Or.inr (by omega))] | rw [if_neg (by omega)]) rfl (hq)
    · refine rr_iload (pc := 43) dX0_footingOf_43 rfl ?_
      refine rr_iload_n (pc := 45) dX0_footingOf_45 rfl ?_
      have hxo : x &&& o < 2097152 := Nat.lt_of_le_of_lt Nat.and_le_left hx
      refine rr_iand (pc := 46) dX0_footingOf_46 (by omega) (by omega) ?_
      refine rr_if_eq (pc := 47) (tgt := 54) dX0_footingOf_47 (by decide) (by unfold zR; omega) (fun h47 => ?_) (fun h47 => ?_)
      · refine rr_iconst (n := 1) dX0_footingOf_54 ?_
        exact rr_reti (pc := 55) dX0_footingOf_55 rfl rfl (by rw [hs, if_neg (by omega)]; first | rw [if_pos (Or.inl (by omega))] | rw [if_pos (Or.inr (by omega))] | rw [if_neg (by omega)]) rfl (hq)
      · refine rr_iconst (n := 2) dX0_footingOf_50 ?_
        refine rr_goto (pc := 51) (tgt := 55) dX0_footingOf_51 (by decide) ?_
        exact rr_reti (pc := 55) dX0_footingOf_55 rfl rfl (by rw [hs, if_neg (by omega)]; first | rw [if_pos (Or.inl (by omega))] | rw [if_pos (Or.inr (by omega))] | rw [if_neg (by omega)]) rfl (hq)
  · refine rr_iconst (n := 0) dX0_footingOf_32 ?_
    exact rr_reti (pc := 33) dX0_footingOf_33 rfl rfl (by rw [hs, if_pos (by omega)]) rfl (hq)
theorem dX0_firstAllowed_0 : decode cX0_firstAllowed 0 = .ok (.iload_n 2, 1) := by decide +kernel
theorem dX0_firstAllowed_1 : decode cX0_firstAllowed 1 = .ok (.istore_n 3, 1) := by decide +kernel
theorem dX0_firstAllowed_2 : decode cX0_firstAllowed 2 = .ok (.iload_n 3, 1) := by decide +kernel
theorem dX0_firstAllowed_3 : decode cX0_firstAllowed 3 = .ok (.aload_n 0, 1) := by decide +kernel
theorem dX0_firstAllowed_4 : decode cX0_firstAllowed 4 = .ok (.getfield 41, 3) := by decide +kernel
theorem dX0_firstAllowed_7 : decode cX0_firstAllowed 7 = .ok (.if_icmp .gt 20, 3) := by decide +kernel
theorem dX0_firstAllowed_10 : decode cX0_firstAllowed 10 = .ok (.aload_n 0, 1) := by decide +kernel
theorem dX0_firstAllowed_11 : decode cX0_firstAllowed 11 = .ok (.iload_n 1, 1) := by decide +kernel
theorem dX0_firstAllowed_12 : decode cX0_firstAllowed 12 = .ok (.iload_n 3, 1) := by decide +kernel
theorem dX0_firstAllowed_13 : decode cX0_firstAllowed 13 = .ok (.invokevirtual 85, 3) := by decide +kernel
theorem dX0_firstAllowed_16 : decode cX0_firstAllowed 16 = .ok (.ifCond .ne 5, 3) := by decide +kernel
theorem dX0_firstAllowed_19 : decode cX0_firstAllowed 19 = .ok (.iload_n 3, 1) := by decide +kernel
theorem dX0_firstAllowed_20 : decode cX0_firstAllowed 20 = .ok (.ireturn, 1) := by decide +kernel
theorem dX0_firstAllowed_21 : decode cX0_firstAllowed 21 = .ok (.iinc 3 1, 3) := by decide +kernel
theorem dX0_firstAllowed_24 : decode cX0_firstAllowed 24 = .ok (.goto (-22), 3) := by decide +kernel
theorem dX0_firstAllowed_27 : decode cX0_firstAllowed 27 = .ok (.iconst 0, 1) := by decide +kernel
theorem dX0_firstAllowed_28 : decode cX0_firstAllowed 28 = .ok (.ireturn, 1) := by decide +kernel
theorem eX0_firstAllowed {c : Nat} {W : zWd} {a : Int → Int} {T : Int} {q s : Int} {Q : Option Value → zWd → Prop} {X : zX} (hc : zCt c) (hR : zCR W c a) (hw : zWf T a) (h0 : 1 ≤ s) (hs1 : s ≤ a 1 + 1) (hq0 : zR q) (hq : Q (some (zI (aOpen a q s))) W) : Ev MX0_firstAllowed 1 0 W [.ref c, zI q, zI s] Q X := by
  refine ev_of (ls := [.ref c, zI q, zI s, .null]) (by decide) rfl (fun _ => rfl) (fun _ => Nat.le_of_ble_eq_true rfl) (Or.inl rfl) ?_
  obtain ⟨r0, r1, r2, r3, r4, r5, r6, r7, rF, rS, rP, rB⟩ := id hR
  obtain ⟨w0, w0', wW, w1, w2, w2', w3, w3', w4, w4', w5, w5', w6, w6', w7, w7', wS, wP, wT⟩ := id hw
  have wq := zWf.sq hw
  have loop : ∀ (n : Nat) (i : Int), s ≤ i → i ≤ a 1 + 1 → aOpen a q s = aOpen a q i → (a 1 + 1 - i).toNat < n → RR MX0_firstAllowed 1 0 W 2 [.ref c, zI q, zI s, zI i] [] (zEnd MX0_firstAllowed Q X) X := by
    intro n
    induction n with
    | zero => intro i _ _ _ hm9; omega
    | succ n ih =>
      intro i h1 h2 h3 hm9
      refine rr_iload_n (pc := 2) dX0_firstAllowed_2 rfl ?_
      refine rr_aload_n (pc := 3) dX0_firstAllowed_3 rfl ?_
      refine rr_getI (pc := 4) (ji := 1) dX0_firstAllowed_4 fX0_41 hc.k hc.i1 rfl ?_
      refine rr_icmp_gt (pc := 7) (tgt := 27) dX0_firstAllowed_7 (by decide) (by unfold zR; omega) (by unfold zR; omega) (fun h7 => ?_) (fun h7 => ?_)
      · refine rr_iconst (n := 0) dX0_firstAllowed_27 ?_
        exact rr_reti (pc := 28) dX0_firstAllowed_28 rfl rfl (by rw [h3, aOpen_end (by omega)]) rfl (hq)
      · refine rr_aload_n (pc := 10) dX0_firstAllowed_10 rfl ?_
        refine rr_iload_n (pc := 11) dX0_firstAllowed_11 rfl ?_
        refine rr_iload_n (pc := 12) dX0_firstAllowed_12 rfl ?_
        refine rr_inv0 (M' := MX0_isForbidden) (k := c) (As := [_, _]) (pc := 13) dX0_firstAllowed_13 lX0_85 kX0_isForbidden vX0_isForbidden hc.k (by decide) rfl (by decide) (by decide) (Nat.le_of_ble_eq_true rfl) rfl (eX0_isForbidden hc hR hw (by omega) (by omega) hq0 ?_)
        refine rr_if_ne (pc := 16) (tgt := 21) dX0_firstAllowed_16 (by decide) (by split <;> (unfold zR; omega)) (fun h16 => ?_) (fun h16 => ?_)
        · refine rr_iinc (pc := 21) dX0_firstAllowed_21 rfl (by decide) ?_
          refine rr_goto (pc := 24) (tgt := 2) dX0_firstAllowed_24 (by decide) ?_
          rw [aOpen_step (show i ≤ a 1 by omega)] at h3
          have hfo : aForb a q i := by by_cases z : aForb a q i; exact z; rw [if_neg z] at h16; exact absurd rfl h16
          rw [if_pos hfo] at h3
          exact ih (i + 1) (by omega) (by omega) h3 (by omega)
        · refine rr_iload_n (pc := 19) dX0_firstAllowed_19 rfl ?_
          exact rr_reti (pc := 20) dX0_firstAllowed_20 rfl rfl (by rw [h3, aOpen_step (show i ≤ a 1 by omega)]; split at h16 <;> first | (rw [if_neg (by assumption)]) | exact absurd h16 (by decide)) rfl (hq)
  refine rr_iload_n (pc := 0) dX0_firstAllowed_0 rfl ?_
  refine rr_istore_n (pc := 1) dX0_firstAllowed_1 (by decide) ?_
  exact loop _ s (by omega) (by omega) rfl (Nat.lt_succ_self _)
theorem dX0_leastPower_0 : decode cX0_leastPower 0 = .ok (.iconst 0, 1) := by decide +kernel
theorem dX0_leastPower_1 : decode cX0_leastPower 1 = .ok (.bipush 10, 2) := by decide +kernel
theorem dX0_leastPower_3 : decode cX0_leastPower 3 = .ok (.aload_n 0, 1) := by decide +kernel
theorem dX0_leastPower_4 : decode cX0_leastPower 4 = .ok (.getfield 15, 3) := by decide +kernel
theorem dX0_leastPower_7 : decode cX0_leastPower 7 = .ok (.iload_n 1, 1) := by decide +kernel
theorem dX0_leastPower_8 : decode cX0_leastPower 8 = .ok (.iaload, 1) := by decide +kernel
theorem dX0_leastPower_9 : decode cX0_leastPower 9 = .ok (.imul, 1) := by decide +kernel
theorem dX0_leastPower_10 : decode cX0_leastPower 10 = .ok (.iconst 1, 1) := by decide +kernel
theorem dX0_leastPower_11 : decode cX0_leastPower 11 = .ok (.iadd, 1) := by decide +kernel
theorem dX0_leastPower_12 : decode cX0_leastPower 12 = .ok (.aload_n 0, 1) := by decide +kernel
theorem dX0_leastPower_13 : decode cX0_leastPower 13 = .ok (.getfield 47, 3) := by decide +kernel
theorem dX0_leastPower_16 : decode cX0_leastPower 16 = .ok (.isub, 1) := by decide +kernel
theorem dX0_leastPower_17 : decode cX0_leastPower 17 = .ok (.invokestatic 95, 3) := by decide +kernel
theorem dX0_leastPower_20 : decode cX0_leastPower 20 = .ok (.ireturn, 1) := by decide +kernel
theorem eX0_leastPower {c : Nat} {W : zWd} {a : Int → Int} {T : Int} {s : Int} {Q : Option Value → zWd → Prop} {X : zX} (hc : zCt c) (hR : zCR W c a) (hw : zWf T a) (h0 : 1 ≤ s) (h1 : s ≤ a 1) (hq : Q (some (zI (if 0 < 10 * (aR a s : Int) + 1 - a 3 then 10 * (aR a s : Int) + 1 - a 3 else 0))) W) : Ev MX0_leastPower 1 0 W [.ref c, zI s] Q X := by
  refine ev_of (ls := [.ref c, zI s]) (by decide) rfl (fun _ => rfl) (fun _ => Nat.le_of_ble_eq_true rfl) (Or.inl rfl) ?_
  obtain ⟨r0, r1, r2, r3, r4, r5, r6, r7, rF, rS, rP, rB⟩ := id hR
  obtain ⟨w0, w0', wW, w1, w2, w2', w3, w3', w4, w4', w5, w5', w6, w6', w7, w7', wS, wP, wT⟩ := id hw
  have wq := zWf.sq hw
  have hr := aR_spec hw h0 h1
  have hs1 := (rS s h0 (by omega) h1).1
  refine rr_iconst (n := 0) dX0_leastPower_0 ?_
  refine rr_bipush (n := (10)) dX0_leastPower_1 ?_
  refine rr_aload_n (pc := 3) dX0_leastPower_3 rfl ?_
  refine rr_getR (pc := 4) dX0_leastPower_4 fX0_15 hc.k hc.r9 ?_
  refine rr_iload_n (pc := 7) dX0_leastPower_7 rfl ?_
  refine rr_iald (pc := 8) dX0_leastPower_8 hc.a2 (by omega) (by omega) ?_
  rw [hs1]
  refine rr_imul (pc := 9) dX0_leastPower_9 ?_
  refine rr_iconst (n := 1) dX0_leastPower_10 ?_
  refine rr_iadd (pc := 11) dX0_leastPower_11 ?_
  refine rr_aload_n (pc := 12) dX0_leastPower_12 rfl ?_
  refine rr_getI (pc := 13) (ji := 3) dX0_leastPower_13 fX0_47 hc.k hc.i3 rfl ?_
  rw [r3]
  refine rr_isub (pc := 16) dX0_leastPower_16 ?_
  refine rr_max (pc := 17) dX0_leastPower_17 lX0_95 z_mmax (by unfold zR; omega) (by unfold zR; omega) (by decide) (Nat.le_of_ble_eq_true rfl) ?_
  exact rr_reti (pc := 20) dX0_leastPower_20 rfl rfl rfl rfl (hq)
theorem dX0_faultOfThrow_0 : decode cX0_faultOfThrow 0 = .ok (.iload_n 2, 1) := by decide +kernel
theorem dX0_faultOfThrow_1 : decode cX0_faultOfThrow 1 = .ok (.aload_n 0, 1) := by decide +kernel
theorem dX0_faultOfThrow_2 : decode cX0_faultOfThrow 2 = .ok (.getfield 47, 3) := by decide +kernel
theorem dX0_faultOfThrow_5 : decode cX0_faultOfThrow 5 = .ok (.iadd, 1) := by decide +kernel
theorem dX0_faultOfThrow_6 : decode cX0_faultOfThrow 6 = .ok (.istore 4, 2) := by decide +kernel
theorem dX0_faultOfThrow_8 : decode cX0_faultOfThrow 8 = .ok (.iload 4, 2) := by decide +kernel
theorem dX0_faultOfThrow_10 : decode cX0_faultOfThrow 10 = .ok (.bipush 10, 2) := by decide +kernel
theorem dX0_faultOfThrow_12 : decode cX0_faultOfThrow 12 = .ok (.idiv, 1) := by decide +kernel
theorem dX0_faultOfThrow_13 : decode cX0_faultOfThrow 13 = .ok (.istore 5, 2) := by decide +kernel
theorem dX0_faultOfThrow_15 : decode cX0_faultOfThrow 15 = .ok (.iload 4, 2) := by decide +kernel
theorem dX0_faultOfThrow_17 : decode cX0_faultOfThrow 17 = .ok (.ifCond .lt 12, 3) := by decide +kernel
theorem dX0_faultOfThrow_20 : decode cX0_faultOfThrow 20 = .ok (.iload 5, 2) := by decide +kernel
theorem dX0_faultOfThrow_22 : decode cX0_faultOfThrow 22 = .ok (.aload_n 0, 1) := by decide +kernel
theorem dX0_faultOfThrow_23 : decode cX0_faultOfThrow 23 = .ok (.getfield 37, 3) := by decide +kernel
theorem dX0_faultOfThrow_26 : decode cX0_faultOfThrow 26 = .ok (.if_icmp .lt 5, 3) := by decide +kernel
theorem dX0_faultOfThrow_29 : decode cX0_faultOfThrow 29 = .ok (.iconst 1, 1) := by decide +kernel
theorem dX0_faultOfThrow_30 : decode cX0_faultOfThrow 30 = .ok (.ireturn, 1) := by decide +kernel
theorem dX0_faultOfThrow_31 : decode cX0_faultOfThrow 31 = .ok (.iload 4, 2) := by decide +kernel
theorem dX0_faultOfThrow_33 : decode cX0_faultOfThrow 33 = .ok (.bipush 10, 2) := by decide +kernel
theorem dX0_faultOfThrow_35 : decode cX0_faultOfThrow 35 = .ok (.irem, 1) := by decide +kernel
theorem dX0_faultOfThrow_36 : decode cX0_faultOfThrow 36 = .ok (.ifCond .ne 5, 3) := by decide +kernel
theorem dX0_faultOfThrow_39 : decode cX0_faultOfThrow 39 = .ok (.iconst 2, 1) := by decide +kernel
theorem dX0_faultOfThrow_40 : decode cX0_faultOfThrow 40 = .ok (.ireturn, 1) := by decide +kernel
theorem dX0_faultOfThrow_41 : decode cX0_faultOfThrow 41 = .ok (.aload_n 0, 1) := by decide +kernel
theorem dX0_faultOfThrow_42 : decode cX0_faultOfThrow 42 = .ok (.getfield 9, 3) := by decide +kernel
theorem dX0_faultOfThrow_45 : decode cX0_faultOfThrow 45 = .ok (.iload 5, 2) := by decide +kernel
theorem dX0_faultOfThrow_47 : decode cX0_faultOfThrow 47 = .ok (.iaload, 1) := by decide +kernel
theorem dX0_faultOfThrow_48 : decode cX0_faultOfThrow 48 = .ok (.aload_n 0, 1) := by decide +kernel
theorem dX0_faultOfThrow_49 : decode cX0_faultOfThrow 49 = .ok (.iload 5, 2) := by decide +kernel
theorem dX0_faultOfThrow_51 : decode cX0_faultOfThrow 51 = .ok (.invokevirtual 92, 3) := by decide +kernel
theorem dX0_faultOfThrow_54 : decode cX0_faultOfThrow 54 = .ok (.iconst 2, 1) := by decide +kernel
theorem dX0_faultOfThrow_55 : decode cX0_faultOfThrow 55 = .ok (.if_icmp .ne 7, 3) := by decide +kernel
theorem dX0_faultOfThrow_58 : decode cX0_faultOfThrow 58 = .ok (.iload_n 3, 1) := by decide +kernel
theorem dX0_faultOfThrow_59 : decode cX0_faultOfThrow 59 = .ok (.goto 4, 3) := by decide +kernel
theorem dX0_faultOfThrow_62 : decode cX0_faultOfThrow 62 = .ok (.iconst 0, 1) := by decide +kernel
theorem dX0_faultOfThrow_63 : decode cX0_faultOfThrow 63 = .ok (.iadd, 1) := by decide +kernel
theorem dX0_faultOfThrow_64 : decode cX0_faultOfThrow 64 = .ok (.istore 6, 2) := by decide +kernel
theorem dX0_faultOfThrow_66 : decode cX0_faultOfThrow 66 = .ok (.iload 6, 2) := by decide +kernel
theorem dX0_faultOfThrow_68 : decode cX0_faultOfThrow 68 = .ok (.aload_n 0, 1) := by decide +kernel
theorem dX0_faultOfThrow_69 : decode cX0_faultOfThrow 69 = .ok (.iload_n 1, 1) := by decide +kernel
theorem dX0_faultOfThrow_70 : decode cX0_faultOfThrow 70 = .ok (.iconst 2, 1) := by decide +kernel
theorem dX0_faultOfThrow_71 : decode cX0_faultOfThrow 71 = .ok (.invokevirtual 81, 3) := by decide +kernel
theorem dX0_faultOfThrow_74 : decode cX0_faultOfThrow 74 = .ok (.if_icmp .ne 7, 3) := by decide +kernel
theorem dX0_faultOfThrow_77 : decode cX0_faultOfThrow 77 = .ok (.iconst 0, 1) := by decide +kernel
theorem dX0_faultOfThrow_78 : decode cX0_faultOfThrow 78 = .ok (.goto 4, 3) := by decide +kernel
theorem dX0_faultOfThrow_81 : decode cX0_faultOfThrow 81 = .ok (.iconst 3, 1) := by decide +kernel
theorem dX0_faultOfThrow_82 : decode cX0_faultOfThrow 82 = .ok (.ireturn, 1) := by decide +kernel
theorem eX0_faultOfThrow {c : Nat} {W : zWd} {a : Int → Int} {T : Int} {q pw sd : Int} {Q : Option Value → zWd → Prop} {X : zX} (hc : zCt c) (hR : zCR W c a) (hw : zWf T a) (hq1 : 0 ≤ q) (hq2 : q < a 2) (hp0 : 0 ≤ pw) (hp1 : pw ≤ 199) (hd0 : 0 ≤ sd) (hd1 : sd ≤ 1) (hq : Q (some (zI (aFault a q pw sd))) W) : Ev MX0_faultOfThrow 1 0 W [.ref c, zI q, zI pw, zI sd] Q X := by
  refine ev_of (ls := [.ref c, zI q, zI pw, zI sd, .null, .null, .null]) (by decide) rfl (fun _ => rfl) (fun _ => Nat.le_of_ble_eq_true rfl) (Or.inl rfl) ?_
  obtain ⟨r0, r1, r2, r3, r4, r5, r6, r7, rF, rS, rP, rB⟩ := id hR
  obtain ⟨w0, w0', wW, w1, w2, w2', w3, w3', w4, w4', w5, w5', w6, w6', w7, w7', wS, wP, wT⟩ := id hw
  have wq := zWf.sq hw
  refine rr_iload_n (pc := 0) dX0_faultOfThrow_0 rfl ?_
  refine rr_aload_n (pc := 1) dX0_faultOfThrow_1 rfl ?_
  refine rr_getI (pc := 2) (ji := 3) dX0_faultOfThrow_2 fX0_47 hc.k hc.i3 rfl ?_
  rw [r3]
  refine rr_iadd (pc := 5) dX0_faultOfThrow_5 ?_
  refine rr_istore (pc := 6) dX0_faultOfThrow_6 (by decide) ?_
  refine rr_iload (pc := 8) dX0_faultOfThrow_8 rfl ?_
  refine rr_bipush (n := (10)) dX0_faultOfThrow_10 ?_
  by_cases hneg : pw + a 3 < 0
  · refine rr_idivx (pc := 12) dX0_faultOfThrow_12 (by decide) (by unfold zR; omega) (fun z hz => ?_)
    refine rr_istore (pc := 13) dX0_faultOfThrow_13 (by decide) ?_
    refine rr_iload (pc := 15) dX0_faultOfThrow_15 rfl ?_
    refine rr_if_lt (pc := 17) (tgt := 29) dX0_faultOfThrow_17 (by decide) (by unfold zR; omega) (fun h17 => ?_) (fun h17 => ?_)
    · refine rr_iconst (n := 1) dX0_faultOfThrow_29 ?_
      exact rr_reti (pc := 30) dX0_faultOfThrow_30 rfl rfl (by unfold aFault; rw [if_pos (Or.inl hneg)]) rfl hq
    · omega
  refine rr_idiv (pc := 12) dX0_faultOfThrow_12 (by omega) (by omega) (by omega) (by omega) ?_
  refine rr_istore (pc := 13) dX0_faultOfThrow_13 (by decide) ?_
  refine rr_iload (pc := 15) dX0_faultOfThrow_15 rfl ?_
  refine rr_if_lt (pc := 17) (tgt := 29) dX0_faultOfThrow_17 (by decide) (by unfold zR; omega) (fun h17 => ?_) (fun h17 => ?_)
  · omega
  · refine rr_iload (pc := 20) dX0_faultOfThrow_20 rfl ?_
    refine rr_aload_n (pc := 22) dX0_faultOfThrow_22 rfl ?_
    refine rr_getI (pc := 23) (ji := 0) dX0_faultOfThrow_23 fX0_37 hc.k hc.i0 rfl ?_
    rw [r0]
    refine rr_icmp_lt (pc := 26) (tgt := 31) dX0_faultOfThrow_26 (by decide) (by unfold zR; omega) (by unfold zR; omega) (fun h26 => ?_) (fun h26 => ?_)
    · refine rr_iload (pc := 31) dX0_faultOfThrow_31 rfl ?_
      refine rr_bipush (n := (10)) dX0_faultOfThrow_33 ?_
      refine rr_irem (pc := 35) dX0_faultOfThrow_35 (by omega) (by omega) (by omega) (by omega) ?_
      refine rr_if_ne (pc := 36) (tgt := 41) dX0_faultOfThrow_36 (by decide) (by unfold zR; omega) (fun h36 => ?_) (fun h36 => ?_)
      · have hdiv : 0 ≤ (pw + a 3) / 10 ∧ (pw + a 3) / 10 < a 0 := by omega
        have e0 : W (c + 1) ((pw + a 3) / 10) = aF a ((pw + a 3) / 10).toNat := by
          have h9 := rF ((pw + a 3) / 10).toNat (by omega) (by omega)
          rw [show ((((pw + a 3) / 10).toNat : Nat) : Int) = (pw + a 3) / 10 by omega] at h9; exact h9
        have e1 : W (c + 1) ((pw + a 3) / 10 + 1) = aF a ((pw + a 3) / 10).toNat + a (8 + (pw + a 3) / 10) := by
          have h9 := rF (((pw + a 3) / 10).toNat + 1) (by omega) (by omega)
          rw [show ((((pw + a 3) / 10).toNat + 1 : Nat) : Int) = (pw + a 3) / 10 + 1 by omega, aF_step, show ((((pw + a 3) / 10).toNat : Nat) : Int) = (pw + a 3) / 10 by omega] at h9; exact h9
        have hf := aF_lo hw (r := ((pw + a 3) / 10).toNat) (by omega)
        have hww := wW _ hdiv.1 hdiv.2
        refine rr_aload_n (pc := 41) dX0_faultOfThrow_41 rfl ?_
        refine rr_getR (pc := 42) dX0_faultOfThrow_42 fX0_9 hc.k hc.r8 ?_
        refine rr_iload (pc := 45) dX0_faultOfThrow_45 rfl ?_
        refine rr_iald (pc := 47) dX0_faultOfThrow_47 hc.a1 (by omega) (by omega) ?_
        rw [e0]
        refine rr_aload_n (pc := 48) dX0_faultOfThrow_48 rfl ?_
        refine rr_iload (pc := 49) dX0_faultOfThrow_49 rfl ?_
        refine rr_inv0 (M' := MX0_widthOf) (k := c) (As := [_]) (pc := 51) dX0_faultOfThrow_51 lX0_92 kX0_widthOf vX0_widthOf hc.k (by decide) rfl (by decide) (by decide) (Nat.le_of_ble_eq_true rfl) rfl (eX0_widthOf hc (by omega) (by omega) ?_)
        rw [e1, e0]
        refine rr_iconst (n := 2) dX0_faultOfThrow_54 ?_
        refine rr_icmp_ne (pc := 55) (tgt := 62) dX0_faultOfThrow_55 (by decide) (by unfold zR; omega) (by unfold zR; omega) (fun h55 => ?_) (fun h55 => ?_)
        · refine rr_iconst (n := 0) dX0_faultOfThrow_62 ?_
          refine rr_iadd (pc := 63) dX0_faultOfThrow_63 ?_
          refine rr_istore (pc := 64) dX0_faultOfThrow_64 (by decide) ?_
          refine rr_iload (pc := 66) dX0_faultOfThrow_66 rfl ?_
          refine rr_aload_n (pc := 68) dX0_faultOfThrow_68 rfl ?_
          refine rr_iload_n (pc := 69) dX0_faultOfThrow_69 rfl ?_
          refine rr_iconst (n := 2) dX0_faultOfThrow_70 ?_
          refine rr_inv0 (M' := MX0_get) (k := c) (As := [_, _]) (pc := 71) dX0_faultOfThrow_71 lX0_81 kX0_get vX0_get hc.k (by decide) rfl (by decide) (by decide) (Nat.le_of_ble_eq_true rfl) rfl (eX0_get hc (by omega) (by omega) (by omega) (by omega) ?_)
          have hm := (rP q hq1 hq2).2.2.1
          have hm2 := wP q hq1 hq2
          unfold zWfP at hm2
          rw [hm]
          refine rr_icmp_ne (pc := 74) (tgt := 81) dX0_faultOfThrow_74 (by decide) (by unfold zR; omega) (by unfold zR; omega) (fun h74 => ?_) (fun h74 => ?_)
          · refine rr_iconst (n := 3) dX0_faultOfThrow_81 ?_
            exact rr_reti (pc := 82) dX0_faultOfThrow_82 rfl rfl (by unfold aFault; rw [if_neg (by omega), if_neg (by omega)]; first | (rw [if_pos (show a (8 + (pw + a 3) / 10) = 2 by omega), if_pos (by omega)]) | (rw [if_pos (show a (8 + (pw + a 3) / 10) = 2 by omega), if_neg (by omega)]) | (rw [if_neg (show ¬ a (8 + (pw + a 3) / 10) = 2 by omega), if_pos (by omega)]) | (rw [if_neg (show ¬ a (8 + (pw + a 3) / 10) = 2 by omega), if_neg (by omega)])) rfl (hq)
          · refine rr_iconst (n := 0) dX0_faultOfThrow_77 ?_
            refine rr_goto (pc := 78) (tgt := 82) dX0_faultOfThrow_78 (by decide) ?_
            exact rr_reti (pc := 82) dX0_faultOfThrow_82 rfl rfl (by unfold aFault; rw [if_neg (by omega), if_neg (by omega)]; first | (rw [if_pos (show a (8 + (pw + a 3) / 10) = 2 by omega), if_pos (by omega)]) | (rw [if_pos (show a (8 + (pw + a 3) / 10) = 2 by omega), if_neg (by omega)]) | (rw [if_neg (show ¬ a (8 + (pw + a 3) / 10) = 2 by omega), if_pos (by omega)]) | (rw [if_neg (show ¬ a (8 + (pw + a 3) / 10) = 2 by omega), if_neg (by omega)])) rfl (hq)
        · refine rr_iload_n (pc := 58) dX0_faultOfThrow_58 rfl ?_
          refine rr_goto (pc := 59) (tgt := 63) dX0_faultOfThrow_59 (by decide) ?_
          refine rr_iadd (pc := 63) dX0_faultOfThrow_63 ?_
          refine rr_istore (pc := 64) dX0_faultOfThrow_64 (by decide) ?_
          refine rr_iload (pc := 66) dX0_faultOfThrow_66 rfl ?_
          refine rr_aload_n (pc := 68) dX0_faultOfThrow_68 rfl ?_
          refine rr_iload_n (pc := 69) dX0_faultOfThrow_69 rfl ?_
          refine rr_iconst (n := 2) dX0_faultOfThrow_70 ?_
          refine rr_inv0 (M' := MX0_get) (k := c) (As := [_, _]) (pc := 71) dX0_faultOfThrow_71 lX0_81 kX0_get vX0_get hc.k (by decide) rfl (by decide) (by decide) (Nat.le_of_ble_eq_true rfl) rfl (eX0_get hc (by omega) (by omega) (by omega) (by omega) ?_)
          have hm := (rP q hq1 hq2).2.2.1
          have hm2 := wP q hq1 hq2
          unfold zWfP at hm2
          rw [hm]
          refine rr_icmp_ne (pc := 74) (tgt := 81) dX0_faultOfThrow_74 (by decide) (by unfold zR; omega) (by unfold zR; omega) (fun h74 => ?_) (fun h74 => ?_)
          · refine rr_iconst (n := 3) dX0_faultOfThrow_81 ?_
            exact rr_reti (pc := 82) dX0_faultOfThrow_82 rfl rfl (by unfold aFault; rw [if_neg (by omega), if_neg (by omega)]; first | (rw [if_pos (show a (8 + (pw + a 3) / 10) = 2 by omega), if_pos (by omega)]) | (rw [if_pos (show a (8 + (pw + a 3) / 10) = 2 by omega), if_neg (by omega)]) | (rw [if_neg (show ¬ a (8 + (pw + a 3) / 10) = 2 by omega), if_pos (by omega)]) | (rw [if_neg (show ¬ a (8 + (pw + a 3) / 10) = 2 by omega), if_neg (by omega)])) rfl (hq)
          · refine rr_iconst (n := 0) dX0_faultOfThrow_77 ?_
            refine rr_goto (pc := 78) (tgt := 82) dX0_faultOfThrow_78 (by decide) ?_
            exact rr_reti (pc := 82) dX0_faultOfThrow_82 rfl rfl (by unfold aFault; rw [if_neg (by omega), if_neg (by omega)]; first | (rw [if_pos (show a (8 + (pw + a 3) / 10) = 2 by omega), if_pos (by omega)]) | (rw [if_pos (show a (8 + (pw + a 3) / 10) = 2 by omega), if_neg (by omega)]) | (rw [if_neg (show ¬ a (8 + (pw + a 3) / 10) = 2 by omega), if_pos (by omega)]) | (rw [if_neg (show ¬ a (8 + (pw + a 3) / 10) = 2 by omega), if_neg (by omega)])) rfl (hq)
      · refine rr_iconst (n := 2) dX0_faultOfThrow_39 ?_
        exact rr_reti (pc := 40) dX0_faultOfThrow_40 rfl rfl (by unfold aFault; rw [if_neg (by omega), if_pos (by omega)]) rfl (hq)
    · refine rr_iconst (n := 1) dX0_faultOfThrow_29 ?_
      exact rr_reti (pc := 30) dX0_faultOfThrow_30 rfl rfl (by unfold aFault; rw [if_pos (Or.inr (by omega))]) rfl (hq)
end
section
def zOff (c : Nat) (W W' : zWd) : Prop := ∀ k : Nat, (k < c ∨ c + 8 ≤ k) → W' k = W k
theorem zOff.rf {c : Nat} {W : zWd} : zOff c W W := fun _ _ => rfl
theorem zOff.up {c n : Nat} {W W' : zWd} {i v : Int} (h : zOff c W W') (hn : c ≤ n ∧ n < c + 8) : zOff c W (zup W' n i v) := fun k hk => by
  rw [← h k hk]; exact zup_other k (by omega)
theorem zOff.tr {c : Nat} {W W' W'' : zWd} (h : zOff c W W') (h2 : zOff c W' W'') : zOff c W W'' := fun k hk => (h2 k hk).trans (h k hk)
theorem z_bit {u : Nat} {i : Int} : ((u : Int) / 2 ^ i.toNat % 2 ^ 1 = 1) ↔ u.testBit i.toNat = true := by
  rw [Nat.testBit_eq_decide_div_mod_eq, decide_eq_true_eq]
  have h1 : (u : Int) / 2 ^ i.toNat = ((u / 2 ^ i.toNat : Nat) : Int) := by
    rw [Int.natCast_ediv, Int.natCast_pow]; rfl
  rw [h1]
  omega
/-- places ahead of the players stay -/
theorem zLow {a a' : Int → Int} (h : ∀ j : Int, j < 18 → a' j = a j) : a' 0 = a 0 ∧ a' 1 = a 1 ∧ a' 2 = a 2 ∧ ∀ r : Nat, r ≤ 10 → aF a' r = aF a r :=
  ⟨h _ (by omega), h _ (by omega), h _ (by omega), aF_cg (fun j _ hj => h j hj)⟩
theorem aLd_low (P : Int → Bool) : ∀ (n : Nat) (s : Int) (a : Int → Int) (j : Int), 1 ≤ s → j < 18 → aLd P n s a j = a j := by
  intro n
  induction n with
  | zero => intro s a j _ _; rfl
  | succ n ih =>
    intro s a j hs hj
    unfold aLd
    rw [ih _ _ j (by omega) hj]
    split
    · exact iup_n (by omega)
    · rfl

theorem dX0_addLandings_0 : decode cX0_addLandings 0 = .ok (.iload_n 1, 1) := by decide +kernel
theorem dX0_addLandings_1 : decode cX0_addLandings 1 = .ok (.ifCond .lt 11, 3) := by decide +kernel
theorem dX0_addLandings_4 : decode cX0_addLandings 4 = .ok (.iload_n 1, 1) := by decide +kernel
theorem dX0_addLandings_5 : decode cX0_addLandings 5 = .ok (.aload_n 0, 1) := by decide +kernel
theorem dX0_addLandings_6 : decode cX0_addLandings 6 = .ok (.getfield 37, 3) := by decide +kernel
theorem dX0_addLandings_9 : decode cX0_addLandings 9 = .ok (.if_icmp .lt 4, 3) := by decide +kernel
theorem dX0_addLandings_12 : decode cX0_addLandings 12 = .ok (.return_, 1) := by decide +kernel
theorem dX0_addLandings_13 : decode cX0_addLandings 13 = .ok (.aload_n 0, 1) := by decide +kernel
theorem dX0_addLandings_14 : decode cX0_addLandings 14 = .ok (.getfield 9, 3) := by decide +kernel
theorem dX0_addLandings_17 : decode cX0_addLandings 17 = .ok (.iload_n 1, 1) := by decide +kernel
theorem dX0_addLandings_18 : decode cX0_addLandings 18 = .ok (.iaload, 1) := by decide +kernel
theorem dX0_addLandings_19 : decode cX0_addLandings 19 = .ok (.istore_n 3, 1) := by decide +kernel
theorem dX0_addLandings_20 : decode cX0_addLandings 20 = .ok (.iload_n 3, 1) := by decide +kernel
theorem dX0_addLandings_21 : decode cX0_addLandings 21 = .ok (.aload_n 0, 1) := by decide +kernel
theorem dX0_addLandings_22 : decode cX0_addLandings 22 = .ok (.getfield 9, 3) := by decide +kernel
theorem dX0_addLandings_25 : decode cX0_addLandings 25 = .ok (.iload_n 1, 1) := by decide +kernel
theorem dX0_addLandings_26 : decode cX0_addLandings 26 = .ok (.iconst 1, 1) := by decide +kernel
theorem dX0_addLandings_27 : decode cX0_addLandings 27 = .ok (.iadd, 1) := by decide +kernel
theorem dX0_addLandings_28 : decode cX0_addLandings 28 = .ok (.iaload, 1) := by decide +kernel
theorem dX0_addLandings_29 : decode cX0_addLandings 29 = .ok (.if_icmp .ge 28, 3) := by decide +kernel
theorem dX0_addLandings_32 : decode cX0_addLandings 32 = .ok (.iload_n 2, 1) := by decide +kernel
theorem dX0_addLandings_33 : decode cX0_addLandings 33 = .ok (.iload_n 3, 1) := by decide +kernel
theorem dX0_addLandings_34 : decode cX0_addLandings 34 = .ok (.ishr, 1) := by decide +kernel
theorem dX0_addLandings_35 : decode cX0_addLandings 35 = .ok (.iconst 1, 1) := by decide +kernel
theorem dX0_addLandings_36 : decode cX0_addLandings 36 = .ok (.iand, 1) := by decide +kernel
theorem dX0_addLandings_37 : decode cX0_addLandings 37 = .ok (.iconst 1, 1) := by decide +kernel
theorem dX0_addLandings_38 : decode cX0_addLandings 38 = .ok (.if_icmp .ne 13, 3) := by decide +kernel
theorem dX0_addLandings_41 : decode cX0_addLandings 41 = .ok (.aload_n 0, 1) := by decide +kernel
theorem dX0_addLandings_42 : decode cX0_addLandings 42 = .ok (.getfield 21, 3) := by decide +kernel
theorem dX0_addLandings_45 : decode cX0_addLandings 45 = .ok (.iload_n 3, 1) := by decide +kernel
theorem dX0_addLandings_46 : decode cX0_addLandings 46 = .ok (.dup2, 1) := by decide +kernel
theorem dX0_addLandings_47 : decode cX0_addLandings 47 = .ok (.iaload, 1) := by decide +kernel
theorem dX0_addLandings_48 : decode cX0_addLandings 48 = .ok (.iconst 1, 1) := by decide +kernel
theorem dX0_addLandings_49 : decode cX0_addLandings 49 = .ok (.iadd, 1) := by decide +kernel
theorem dX0_addLandings_50 : decode cX0_addLandings 50 = .ok (.iastore, 1) := by decide +kernel
theorem dX0_addLandings_51 : decode cX0_addLandings 51 = .ok (.iinc 3 1, 3) := by decide +kernel
theorem dX0_addLandings_54 : decode cX0_addLandings 54 = .ok (.goto (-34), 3) := by decide +kernel
theorem dX0_addLandings_57 : decode cX0_addLandings 57 = .ok (.return_, 1) := by decide +kernel
theorem eX0_addLandings {c : Nat} {W : zWd} {a : Int → Int} {T : Int} {r : Int} {u : Nat} {Q : Option Value → zWd → Prop} {X : zX} (hc : zCt c) (hR : zCR W c a) (hw : zWf T a) (hr9 : zR r) (hu : u < 2097152) (hq : ∀ W' : zWd, zOff c W W' → zCR W' c (aLand a r (fun s => u.testBit s.toNat)) → Q none W') : Ev MX0_addLandings 0 0 W [.ref c, zI r, zI (u : Int)] Q X := by
  refine ev_of (ls := [.ref c, zI r, zI (u : Int), .null]) (by decide) rfl (fun _ => rfl) (fun _ => Nat.le_of_ble_eq_true rfl) (Or.inl rfl) ?_
  obtain ⟨r0, r1, r2, r3, r4, r5, r6, r7, rF, rS, rP, rB⟩ := id hR
  obtain ⟨w0, w0', wW, w1, w2, w2', w3, w3', w4, w4', w5, w5', w6, w6', w7, w7', wS, wP, wT⟩ := id hw
  have wq := zWf.sq hw
  unfold zR at hr9
  by_cases hr : r < 0 ∨ a 0 ≤ r
  · have hLn : aLand a r (fun s => u.testBit s.toNat) = a := if_pos hr
    rw [hLn] at hq
    refine rr_iload_n (pc := 0) dX0_addLandings_0 rfl ?_
    refine rr_if_lt (pc := 1) (tgt := 12) dX0_addLandings_1 (by decide) (by unfold zR; omega) (fun h1 => ?_) (fun h1 => ?_)
    · exact rr_retv (pc := 12) dX0_addLandings_12 rfl rfl ((hq W zOff.rf hR))
    · refine rr_iload_n (pc := 4) dX0_addLandings_4 rfl ?_
      refine rr_aload_n (pc := 5) dX0_addLandings_5 rfl ?_
      refine rr_getI (pc := 6) (ji := 0) dX0_addLandings_6 fX0_37 hc.k hc.i0 rfl ?_
      rw [r0]
      refine rr_icmp_lt (pc := 9) (tgt := 13) dX0_addLandings_9 (by decide) (by unfold zR; omega) (by unfold zR; omega) (fun h9 => ?_) (fun h9 => ?_)
      · omega
      · exact rr_retv (pc := 12) dX0_addLandings_12 rfl rfl ((hq W zOff.rf hR))
  have e0 : W (c + 1) r = aF a r.toNat := by
    have h9 := rF r.toNat (by omega) (by omega)
    rw [show ((r.toNat : Nat) : Int) = r by omega] at h9; exact h9
  have hf := aF_lo hw (r := r.toNat) (by omega)
  have hf2 := aF_le hw (r := r.toNat + 1) (by omega)
  have hst := aF_step (a := a) r.toNat
  rw [show ((r.toNat : Nat) : Int) = r by omega] at hst
  have hww := wW r (by omega) (by omega)
  have loop : ∀ (n : Nat) (i : Int) (Wi : zWd) (ai : Int → Int), aF a r.toNat ≤ i → i ≤ aF a (r.toNat + 1) → zOff c W Wi → zCR Wi c ai → (∀ j : Int, j < 18 → ai j = a j) → aLd (fun s => u.testBit s.toNat) (aF a (r.toNat + 1) - i).toNat i ai = aLand a r (fun s => u.testBit s.toNat) → (aF a (r.toNat + 1) - i).toNat < n → RR MX0_addLandings 0 0 Wi 20 [.ref c, zI r, zI (u : Int), zI i] [] (zEnd MX0_addLandings Q X) X := by
    intro n
    induction n with
    | zero => intro i Wi ai _ _ _ _ _ _ hm9; omega
    | succ n ih =>
      intro i Wi ai h1 h2 hO hC hA hL hm9
      refine rr_iload_n (pc := 20) dX0_addLandings_20 rfl ?_
      refine rr_aload_n (pc := 21) dX0_addLandings_21 rfl ?_
      refine rr_getR (pc := 22) dX0_addLandings_22 fX0_9 hc.k hc.r8 ?_
      refine rr_iload_n (pc := 25) dX0_addLandings_25 rfl ?_
      refine rr_iconst (n := 1) dX0_addLandings_26 ?_
      refine rr_iadd (pc := 27) dX0_addLandings_27 ?_
      obtain ⟨l0, l1, l2, lF⟩ := zLow hA
      have g1 : Wi (c + 1) (r + 1) = aF a (r.toNat + 1) := by
        have h9 := hC.2.2.2.2.2.2.2.2.1 (r.toNat + 1) (by omega) (by omega)
        rw [show ((r.toNat + 1 : Nat) : Int) = r + 1 by omega, lF _ (by omega)] at h9; exact h9
      refine rr_iald (pc := 28) dX0_addLandings_28 hc.a1 (by omega) (by omega) ?_
      rw [g1]
      refine rr_icmp_ge (pc := 29) (tgt := 57) dX0_addLandings_29 (by decide) (by unfold zR; omega) (by unfold zR; omega) (fun h29 => ?_) (fun h29 => ?_)
      · exact rr_retv (pc := 57) dX0_addLandings_57 rfl rfl ((by rw [show (aF a (r.toNat + 1) - i).toNat = 0 by omega] at hL; exact hq Wi hO (by rw [← hL]; exact hC)))
      · refine rr_iload_n (pc := 32) dX0_addLandings_32 rfl ?_
        refine rr_iload_n (pc := 33) dX0_addLandings_33 rfl ?_
        refine rr_ishr (pc := 34) dX0_addLandings_34 (by unfold zR; omega) (by omega) (by omega) ?_
        refine rr_iconst (n := 1) dX0_addLandings_35 ?_
        refine rr_iandm (pc := 36) 1 dX0_addLandings_36 (by decide) rfl ?_
        refine rr_iconst (n := 1) dX0_addLandings_37 ?_
        refine rr_icmp_ne (pc := 38) (tgt := 51) dX0_addLandings_38 (by decide) (by unfold zR; omega) (by unfold zR; omega) (fun h38 => ?_) (fun h38 => ?_)
        · rw [show (aF a (r.toNat + 1) - i).toNat = (aF a (r.toNat + 1) - (i + 1)).toNat + 1 by omega] at hL
          unfold aLd at hL
          have hL9 := hL
          rw [if_neg (fun z => h38 (z_bit.mpr z))] at hL9
          refine rr_iinc (pc := 51) dX0_addLandings_51 rfl (by decide) ?_
          refine rr_goto (pc := 54) (tgt := 20) dX0_addLandings_54 (by decide) ?_
          exact ih (i + 1) _ _ (by omega) (by omega) hO hC hA hL9 (by omega)
        · rw [show (aF a (r.toNat + 1) - i).toNat = (aF a (r.toNat + 1) - (i + 1)).toNat + 1 by omega] at hL
          unfold aLd at hL
          have hL9 := hL
          rw [if_pos (z_bit.mp h38)] at hL9
          refine rr_aload_n (pc := 41) dX0_addLandings_41 rfl ?_
          refine rr_getR (pc := 42) dX0_addLandings_42 fX0_21 hc.k hc.r11 ?_
          refine rr_iload_n (pc := 45) dX0_addLandings_45 rfl ?_
          refine rr_dup2 (pc := 46) dX0_addLandings_46 ?_
          refine rr_iald (pc := 47) dX0_addLandings_47 hc.a4 (by omega) (by omega) ?_
          have hC9 := CR_S (o := 1) (v := Wi (c + 4) i + 1) hC (show 1 ≤ i by omega) (by omega) (Or.inr rfl)
          rw [if_neg (by decide), (hC.2.2.2.2.2.2.2.2.2.1 i (by omega) (by omega) (by omega)).2.2] at hC9
          rw [(hC.2.2.2.2.2.2.2.2.2.1 i (by omega) (by omega) (by omega)).2.2]
          refine rr_iconst (n := 1) dX0_addLandings_48 ?_
          refine rr_iadd (pc := 49) dX0_addLandings_49 ?_
          refine rr_iast (pc := 50) dX0_addLandings_50 hc.a4 (by omega) (by omega) ?_
          refine rr_iinc (pc := 51) dX0_addLandings_51 rfl (by decide) ?_
          refine rr_goto (pc := 54) (tgt := 20) dX0_addLandings_54 (by decide) ?_
          exact ih (i + 1) _ _ (by omega) (by omega) (hO.up (by omega)) hC9 (fun j hj => by rw [iup_n (by omega)]; exact hA j hj) hL9 (by omega)
  refine rr_iload_n (pc := 0) dX0_addLandings_0 rfl ?_
  refine rr_if_lt (pc := 1) (tgt := 12) dX0_addLandings_1 (by decide) (by unfold zR; omega) (fun h1 => ?_) (fun h1 => ?_)
  · omega
  · refine rr_iload_n (pc := 4) dX0_addLandings_4 rfl ?_
    refine rr_aload_n (pc := 5) dX0_addLandings_5 rfl ?_
    refine rr_getI (pc := 6) (ji := 0) dX0_addLandings_6 fX0_37 hc.k hc.i0 rfl ?_
    rw [r0]
    refine rr_icmp_lt (pc := 9) (tgt := 13) dX0_addLandings_9 (by decide) (by unfold zR; omega) (by unfold zR; omega) (fun h9 => ?_) (fun h9 => ?_)
    · refine rr_aload_n (pc := 13) dX0_addLandings_13 rfl ?_
      refine rr_getR (pc := 14) dX0_addLandings_14 fX0_9 hc.k hc.r8 ?_
      refine rr_iload_n (pc := 17) dX0_addLandings_17 rfl ?_
      refine rr_iald (pc := 18) dX0_addLandings_18 hc.a1 (by omega) (by omega) ?_
      rw [e0]
      refine rr_istore_n (pc := 19) dX0_addLandings_19 (by decide) ?_
      exact loop _ (aF a r.toNat) W a (by omega) (by omega) zOff.rf hR (fun _ _ => rfl) (by unfold aLand; rw [if_neg hr, show (aF a (r.toNat + 1) - aF a r.toNat).toNat = (a (8 + r)).toNat by omega]) (Nat.lt_succ_self _)
    · omega
theorem aP_up {a : Int → Int} {p q w v x : Int} (h : 17 * q + x ≠ 17 * p + w) : aP (iup a (58 + 17 * p + w) v) q x = aP a q x := by
  unfold aP; exact iup_n (by omega)
theorem aO_upP {a : Int → Int} {p w v s : Int} (hp : 0 ≤ p) (hw : 0 ≤ w) (hs : s ≤ 20) : aO (iup a (58 + 17 * p + w) v) s = aO a s := by
  unfold aO; rw [iup_n (by omega)]
theorem aOpen_upP {a : Int → Int} {p w v q s : Int} (hp : 0 ≤ p) (hw : 0 ≤ w) (h20 : a 1 ≤ 20) : aOpen (iup a (58 + 17 * p + w) v) q s = aOpen a q s :=
  aOpen_cg (iup_n (by omega)) (fun s' _ h => aO_upP hp hw (by omega))
theorem dX0_moveTargetOn_0 : decode cX0_moveTargetOn 0 = .ok (.aload_n 0, 1) := by decide +kernel
theorem dX0_moveTargetOn_1 : decode cX0_moveTargetOn 1 = .ok (.iload_n 1, 1) := by decide +kernel
theorem dX0_moveTargetOn_2 : decode cX0_moveTargetOn 2 = .ok (.aload_n 0, 1) := by decide +kernel
theorem dX0_moveTargetOn_3 : decode cX0_moveTargetOn 3 = .ok (.iload_n 1, 1) := by decide +kernel
theorem dX0_moveTargetOn_4 : decode cX0_moveTargetOn 4 = .ok (.iconst 2, 1) := by decide +kernel
theorem dX0_moveTargetOn_5 : decode cX0_moveTargetOn 5 = .ok (.invokevirtual 81, 3) := by decide +kernel
theorem dX0_moveTargetOn_8 : decode cX0_moveTargetOn 8 = .ok (.iconst 1, 1) := by decide +kernel
theorem dX0_moveTargetOn_9 : decode cX0_moveTargetOn 9 = .ok (.iadd, 1) := by decide +kernel
theorem dX0_moveTargetOn_10 : decode cX0_moveTargetOn 10 = .ok (.invokevirtual 89, 3) := by decide +kernel
theorem dX0_moveTargetOn_13 : decode cX0_moveTargetOn 13 = .ok (.istore_n 2, 1) := by decide +kernel
theorem dX0_moveTargetOn_14 : decode cX0_moveTargetOn 14 = .ok (.iload_n 2, 1) := by decide +kernel
theorem dX0_moveTargetOn_15 : decode cX0_moveTargetOn 15 = .ok (.ifCond .ne 43, 3) := by decide +kernel
theorem dX0_moveTargetOn_18 : decode cX0_moveTargetOn 18 = .ok (.aload_n 0, 1) := by decide +kernel
theorem dX0_moveTargetOn_19 : decode cX0_moveTargetOn 19 = .ok (.iload_n 1, 1) := by decide +kernel
theorem dX0_moveTargetOn_20 : decode cX0_moveTargetOn 20 = .ok (.iconst 4, 1) := by decide +kernel
theorem dX0_moveTargetOn_21 : decode cX0_moveTargetOn 21 = .ok (.aload_n 0, 1) := by decide +kernel
theorem dX0_moveTargetOn_22 : decode cX0_moveTargetOn 22 = .ok (.iload_n 1, 1) := by decide +kernel
theorem dX0_moveTargetOn_23 : decode cX0_moveTargetOn 23 = .ok (.iconst 4, 1) := by decide +kernel
theorem dX0_moveTargetOn_24 : decode cX0_moveTargetOn 24 = .ok (.invokevirtual 81, 3) := by decide +kernel
theorem dX0_moveTargetOn_27 : decode cX0_moveTargetOn 27 = .ok (.iconst 1, 1) := by decide +kernel
theorem dX0_moveTargetOn_28 : decode cX0_moveTargetOn 28 = .ok (.iadd, 1) := by decide +kernel
theorem dX0_moveTargetOn_29 : decode cX0_moveTargetOn 29 = .ok (.invokevirtual 68, 3) := by decide +kernel
theorem dX0_moveTargetOn_32 : decode cX0_moveTargetOn 32 = .ok (.aload_n 0, 1) := by decide +kernel
theorem dX0_moveTargetOn_33 : decode cX0_moveTargetOn 33 = .ok (.iload_n 1, 1) := by decide +kernel
theorem dX0_moveTargetOn_34 : decode cX0_moveTargetOn 34 = .ok (.iconst 3, 1) := by decide +kernel
theorem dX0_moveTargetOn_35 : decode cX0_moveTargetOn 35 = .ok (.bipush 9, 2) := by decide +kernel
theorem dX0_moveTargetOn_37 : decode cX0_moveTargetOn 37 = .ok (.aload_n 0, 1) := by decide +kernel
theorem dX0_moveTargetOn_38 : decode cX0_moveTargetOn 38 = .ok (.iload_n 1, 1) := by decide +kernel
theorem dX0_moveTargetOn_39 : decode cX0_moveTargetOn 39 = .ok (.iconst 3, 1) := by decide +kernel
theorem dX0_moveTargetOn_40 : decode cX0_moveTargetOn 40 = .ok (.invokevirtual 81, 3) := by decide +kernel
theorem dX0_moveTargetOn_43 : decode cX0_moveTargetOn 43 = .ok (.iconst 1, 1) := by decide +kernel
theorem dX0_moveTargetOn_44 : decode cX0_moveTargetOn 44 = .ok (.iadd, 1) := by decide +kernel
theorem dX0_moveTargetOn_45 : decode cX0_moveTargetOn 45 = .ok (.invokestatic 100, 3) := by decide +kernel
theorem dX0_moveTargetOn_48 : decode cX0_moveTargetOn 48 = .ok (.invokevirtual 68, 3) := by decide +kernel
theorem dX0_moveTargetOn_51 : decode cX0_moveTargetOn 51 = .ok (.aload_n 0, 1) := by decide +kernel
theorem dX0_moveTargetOn_52 : decode cX0_moveTargetOn 52 = .ok (.iload_n 1, 1) := by decide +kernel
theorem dX0_moveTargetOn_53 : decode cX0_moveTargetOn 53 = .ok (.iconst 1, 1) := by decide +kernel
theorem dX0_moveTargetOn_54 : decode cX0_moveTargetOn 54 = .ok (.invokevirtual 89, 3) := by decide +kernel
theorem dX0_moveTargetOn_57 : decode cX0_moveTargetOn 57 = .ok (.istore_n 2, 1) := by decide +kernel
theorem dX0_moveTargetOn_58 : decode cX0_moveTargetOn 58 = .ok (.aload_n 0, 1) := by decide +kernel
theorem dX0_moveTargetOn_59 : decode cX0_moveTargetOn 59 = .ok (.iload_n 1, 1) := by decide +kernel
theorem dX0_moveTargetOn_60 : decode cX0_moveTargetOn 60 = .ok (.iconst 2, 1) := by decide +kernel
theorem dX0_moveTargetOn_61 : decode cX0_moveTargetOn 61 = .ok (.iload_n 2, 1) := by decide +kernel
theorem dX0_moveTargetOn_62 : decode cX0_moveTargetOn 62 = .ok (.invokevirtual 68, 3) := by decide +kernel
theorem dX0_moveTargetOn_65 : decode cX0_moveTargetOn 65 = .ok (.return_, 1) := by decide +kernel
theorem eX0_moveTargetOn {c : Nat} {W : zWd} {a : Int → Int} {T : Int} {q : Int} {Q : Option Value → zWd → Prop} {X : zX} (hc : zCt c) (hR : zCR W c a) (hw : zWf T a) (hT : T + 1 ≤ 100000000) (hq1 : 0 ≤ q) (hq2 : q < a 2) (hq : ∀ W' : zWd, zOff c W W' → zCR W' c (aMove a q) → Q none W') : Ev MX0_moveTargetOn 2 0 W [.ref c, zI q] Q X := by
  refine ev_of (ls := [.ref c, zI q, .null]) (by decide) rfl (fun _ => rfl) (fun _ => Nat.le_of_ble_eq_true rfl) (Or.inl rfl) ?_
  obtain ⟨r0, r1, r2, r3, r4, r5, r6, r7, rF, rS, rP, rB⟩ := id hR
  obtain ⟨w0, w0', wW, w1, w2, w2', w3, w3', w4, w4', w5, w5', w6, w6', w7, w7', wS, wP, wT⟩ := id hw
  have wq := zWf.sq hw
  have hm := rP q hq1 hq2
  have hm2 := wP q hq1 hq2
  unfold zWfP at hm2
  have ho := aOpen_rng (a := a) (p := q) (s := aP a q 2 + 1) (by omega) (by omega)
  refine rr_aload_n (pc := 0) dX0_moveTargetOn_0 rfl ?_
  refine rr_iload_n (pc := 1) dX0_moveTargetOn_1 rfl ?_
  refine rr_aload_n (pc := 2) dX0_moveTargetOn_2 rfl ?_
  refine rr_iload_n (pc := 3) dX0_moveTargetOn_3 rfl ?_
  refine rr_iconst (n := 2) dX0_moveTargetOn_4 ?_
  refine rr_inv0 (M' := MX0_get) (k := c) (As := [_, _]) (pc := 5) dX0_moveTargetOn_5 lX0_81 kX0_get vX0_get hc.k (by decide) rfl (by decide) (by decide) (Nat.le_of_ble_eq_true rfl) rfl (eX0_get hc (by omega) (by omega) (by omega) (by omega) ?_)
  rw [hm.2.2.1]
  refine rr_iconst (n := 1) dX0_moveTargetOn_8 ?_
  refine rr_iadd (pc := 9) dX0_moveTargetOn_9 ?_
  refine rr_inv0 (M' := MX0_firstAllowed) (k := c) (As := [_, _]) (pc := 10) dX0_moveTargetOn_10 lX0_89 kX0_firstAllowed vX0_firstAllowed hc.k (by decide) rfl (by decide) (by decide) (Nat.le_of_ble_eq_true rfl) rfl (eX0_firstAllowed hc hR hw (by omega) (by omega) (by unfold zR; omega) ?_)
  refine rr_istore_n (pc := 13) dX0_moveTargetOn_13 (by decide) ?_
  refine rr_iload_n (pc := 14) dX0_moveTargetOn_14 rfl ?_
  refine rr_if_ne (pc := 15) (tgt := 58) dX0_moveTargetOn_15 (by decide) (by unfold zR; omega) (fun h15 => ?_) (fun h15 => ?_)
  · refine rr_aload_n (pc := 58) dX0_moveTargetOn_58 rfl ?_
    refine rr_iload_n (pc := 59) dX0_moveTargetOn_59 rfl ?_
    refine rr_iconst (n := 2) dX0_moveTargetOn_60 ?_
    refine rr_iload_n (pc := 61) dX0_moveTargetOn_61 rfl ?_
    refine rr_inv0 (M' := MX0_put) (k := c) (As := [_, _, _]) (pc := 62) dX0_moveTargetOn_62 lX0_68 kX0_put vX0_put hc.k (by decide) rfl (by decide) (by decide) (Nat.le_of_ble_eq_true rfl) rfl (eX0_put hc (by omega) (by omega) (by omega) (by omega) ?_)
    exact rr_retv (pc := 65) dX0_moveTargetOn_65 rfl rfl (hq _ (zOff.rf.up (by omega)) (by rw [show aMove a q = _ from if_neg h15]; exact CR_P hR hq1 (by unfold zPj; omega)))
  · refine rr_aload_n (pc := 18) dX0_moveTargetOn_18 rfl ?_
    refine rr_iload_n (pc := 19) dX0_moveTargetOn_19 rfl ?_
    refine rr_iconst (n := 4) dX0_moveTargetOn_20 ?_
    refine rr_aload_n (pc := 21) dX0_moveTargetOn_21 rfl ?_
    refine rr_iload_n (pc := 22) dX0_moveTargetOn_22 rfl ?_
    refine rr_iconst (n := 4) dX0_moveTargetOn_23 ?_
    refine rr_inv0 (M' := MX0_get) (k := c) (As := [_, _]) (pc := 24) dX0_moveTargetOn_24 lX0_81 kX0_get vX0_get hc.k (by decide) rfl (by decide) (by decide) (Nat.le_of_ble_eq_true rfl) rfl (eX0_get hc (by omega) (by omega) (by omega) (by omega) ?_)
    rw [hm.2.2.2.2.1]
    refine rr_iconst (n := 1) dX0_moveTargetOn_27 ?_
    refine rr_iadd (pc := 28) dX0_moveTargetOn_28 ?_
    refine rr_inv0 (M' := MX0_put) (k := c) (As := [_, _, _]) (pc := 29) dX0_moveTargetOn_29 lX0_68 kX0_put vX0_put hc.k (by decide) rfl (by decide) (by decide) (Nat.le_of_ble_eq_true rfl) rfl (eX0_put hc (by omega) (by omega) (by omega) (by omega) ?_)
    have c1 := CR_P (j := 4) (w := 4) (v := aP a q 4 + 1) (v' := aP a q 4 + 1) hR hq1 (by unfold zPj; omega)
    have o1 : zOff c W (zup W (c + 5) (q * 10 + 4) (aP a q 4 + 1)) := zOff.rf.up (by omega)
    have f1 := WF_P (w := 4) (v := aP a q 4 + 1) (p := q) (hw.mono (T' := T + 1) (by omega) hT) hq1 (by unfold zWr; omega)
    generalize zup W (c + 5) (q * 10 + 4) (aP a q 4 + 1) = W1 at c1 o1 ⊢
    have hm1 := (c1.2.2.2.2.2.2.2.2.2.2.1 q hq1 (by rw [iup_n (by omega)]; exact hq2)).2.2.2.1
    rw [aP_up (by omega)] at hm1
    refine rr_aload_n (pc := 32) dX0_moveTargetOn_32 rfl ?_
    refine rr_iload_n (pc := 33) dX0_moveTargetOn_33 rfl ?_
    refine rr_iconst (n := 3) dX0_moveTargetOn_34 ?_
    refine rr_bipush (n := (9)) dX0_moveTargetOn_35 ?_
    refine rr_aload_n (pc := 37) dX0_moveTargetOn_37 rfl ?_
    refine rr_iload_n (pc := 38) dX0_moveTargetOn_38 rfl ?_
    refine rr_iconst (n := 3) dX0_moveTargetOn_39 ?_
    refine rr_inv0 (M' := MX0_get) (k := c) (As := [_, _]) (pc := 40) dX0_moveTargetOn_40 lX0_81 kX0_get vX0_get hc.k (by decide) rfl (by decide) (by decide) (Nat.le_of_ble_eq_true rfl) rfl (eX0_get hc (by omega) (by omega) (by omega) (by omega) ?_)
    rw [hm1]
    refine rr_iconst (n := 1) dX0_moveTargetOn_43 ?_
    refine rr_iadd (pc := 44) dX0_moveTargetOn_44 ?_
    refine rr_min (pc := 45) dX0_moveTargetOn_45 lX0_100 z_mmin (by unfold zR; omega) (by unfold zR; omega) (by decide) (Nat.le_of_ble_eq_true rfl) ?_
    refine rr_inv0 (M' := MX0_put) (k := c) (As := [_, _, _]) (pc := 48) dX0_moveTargetOn_48 lX0_68 kX0_put vX0_put hc.k (by decide) rfl (by decide) (by decide) (Nat.le_of_ble_eq_true rfl) rfl (eX0_put hc (by omega) (by omega) (by omega) (by omega) ?_)
    have c2 := CR_P (j := 3) (w := 3) (v := if aP a q 3 + 1 < 9 then aP a q 3 + 1 else 9) (v' := if aP a q 3 + 1 < 9 then aP a q 3 + 1 else 9) c1 hq1 (by unfold zPj; omega)
    have o2 := o1.tr (zOff.rf.up (n := c + 5) (i := q * 10 + 3) (v := if aP a q 3 + 1 < 9 then aP a q 3 + 1 else 9) (by omega))
    have f2 := WF_P (w := 3) (v := if aP a q 3 + 1 < 9 then aP a q 3 + 1 else 9) (p := q) f1 hq1 (by unfold zWr; split <;> omega)
    generalize zup W1 (c + 5) (q * 10 + 3) (if aP a q 3 + 1 < 9 then aP a q 3 + 1 else 9) = W2 at c2 o2 ⊢
    refine rr_aload_n (pc := 51) dX0_moveTargetOn_51 rfl ?_
    refine rr_iload_n (pc := 52) dX0_moveTargetOn_52 rfl ?_
    refine rr_iconst (n := 1) dX0_moveTargetOn_53 ?_
    refine rr_inv0 (M' := MX0_firstAllowed) (k := c) (As := [_, _]) (pc := 54) dX0_moveTargetOn_54 lX0_89 kX0_firstAllowed vX0_firstAllowed hc.k (by decide) rfl (by decide) (by decide) (Nat.le_of_ble_eq_true rfl) rfl (eX0_firstAllowed hc c2 f2 (by omega) (by rw [iup_n (by omega), iup_n (by omega)]; omega) (by unfold zR; omega) ?_)
    rw [aOpen_upP hq1 (by omega) (by rw [iup_n (by omega)]; omega), aOpen_upP hq1 (by omega) (by omega)]
    refine rr_istore_n (pc := 57) dX0_moveTargetOn_57 (by decide) ?_
    refine rr_aload_n (pc := 58) dX0_moveTargetOn_58 rfl ?_
    refine rr_iload_n (pc := 59) dX0_moveTargetOn_59 rfl ?_
    refine rr_iconst (n := 2) dX0_moveTargetOn_60 ?_
    refine rr_iload_n (pc := 61) dX0_moveTargetOn_61 rfl ?_
    refine rr_inv0 (M' := MX0_put) (k := c) (As := [_, _, _]) (pc := 62) dX0_moveTargetOn_62 lX0_68 kX0_put vX0_put hc.k (by decide) rfl (by decide) (by decide) (Nat.le_of_ble_eq_true rfl) rfl (eX0_put hc (by omega) (by omega) (by omega) (by omega) ?_)
    exact rr_retv (pc := 65) dX0_moveTargetOn_65 rfl rfl (hq _ (o2.up (by omega)) (by rw [show aMove a q = _ from if_pos h15]; exact CR_P c2 hq1 (by unfold zPj; omega)))
theorem aEnd_eq {a : Int → Int} {x : Int → Int} {fault p : Int} (hp : p = a 4) (h0 : 0 ≤ p) (hp2 : p < a 2)
    (h : x = iup (aFlt (iup (iup (iup a 5 (a 5 + 1)) (58 + 17 * p + 6) (aP a p 6 + 1)) (58 + 17 * p + 8) fault) p fault) 4 (if p + 1 < a 2 then p + 1 else 0)) : x = aEnd (aFlt a p fault) p fault := by
  have hm : (p + 1) % a 2 = if p + 1 < a 2 then p + 1 else 0 := by
    by_cases q : p + 1 < a 2
    · rw [if_pos q, Int.emod_eq_of_lt (by omega) q]
    · rw [if_neg q, show p + 1 = a 2 by omega, Int.emod_self]
  have h2 : aFlt a p fault 2 = a 2 := by unfold aFlt; split; rfl; exact iup_n (by omega)
  subst h
  unfold aEnd
  rw [h2, hm]
  funext j
  unfold aFlt aP
  by_cases hf : fault = 0
  · simp only [if_pos hf, iup]
    (repeat' split) <;> first | rfl | omega
  · simp only [if_neg hf, iup]
    (repeat' split) <;> first | rfl | omega | (simp at *; omega)
theorem dX0_endTurn_0 : decode cX0_endTurn 0 = .ok (.aload_n 0, 1) := by decide +kernel
theorem dX0_endTurn_1 : decode cX0_endTurn 1 = .ok (.dup, 1) := by decide +kernel
theorem dX0_endTurn_2 : decode cX0_endTurn 2 = .ok (.getfield 53, 3) := by decide +kernel
theorem dX0_endTurn_5 : decode cX0_endTurn 5 = .ok (.iconst 1, 1) := by decide +kernel
theorem dX0_endTurn_6 : decode cX0_endTurn 6 = .ok (.iadd, 1) := by decide +kernel
theorem dX0_endTurn_7 : decode cX0_endTurn 7 = .ok (.putfield 53, 3) := by decide +kernel
theorem dX0_endTurn_10 : decode cX0_endTurn 10 = .ok (.aload_n 0, 1) := by decide +kernel
theorem dX0_endTurn_11 : decode cX0_endTurn 11 = .ok (.aload_n 0, 1) := by decide +kernel
theorem dX0_endTurn_12 : decode cX0_endTurn 12 = .ok (.getfield 50, 3) := by decide +kernel
theorem dX0_endTurn_15 : decode cX0_endTurn 15 = .ok (.bipush 7, 2) := by decide +kernel
theorem dX0_endTurn_17 : decode cX0_endTurn 17 = .ok (.aload_n 0, 1) := by decide +kernel
theorem dX0_endTurn_18 : decode cX0_endTurn 18 = .ok (.aload_n 0, 1) := by decide +kernel
theorem dX0_endTurn_19 : decode cX0_endTurn 19 = .ok (.getfield 50, 3) := by decide +kernel
theorem dX0_endTurn_22 : decode cX0_endTurn 22 = .ok (.bipush 7, 2) := by decide +kernel
theorem dX0_endTurn_24 : decode cX0_endTurn 24 = .ok (.invokevirtual 81, 3) := by decide +kernel
theorem dX0_endTurn_27 : decode cX0_endTurn 27 = .ok (.iconst 1, 1) := by decide +kernel
theorem dX0_endTurn_28 : decode cX0_endTurn 28 = .ok (.iadd, 1) := by decide +kernel
theorem dX0_endTurn_29 : decode cX0_endTurn 29 = .ok (.invokevirtual 68, 3) := by decide +kernel
theorem dX0_endTurn_32 : decode cX0_endTurn 32 = .ok (.aload_n 0, 1) := by decide +kernel
theorem dX0_endTurn_33 : decode cX0_endTurn 33 = .ok (.aload_n 0, 1) := by decide +kernel
theorem dX0_endTurn_34 : decode cX0_endTurn 34 = .ok (.getfield 50, 3) := by decide +kernel
theorem dX0_endTurn_37 : decode cX0_endTurn 37 = .ok (.bipush 9, 2) := by decide +kernel
theorem dX0_endTurn_39 : decode cX0_endTurn 39 = .ok (.iload_n 1, 1) := by decide +kernel
theorem dX0_endTurn_40 : decode cX0_endTurn 40 = .ok (.invokevirtual 68, 3) := by decide +kernel
theorem dX0_endTurn_43 : decode cX0_endTurn 43 = .ok (.iload_n 1, 1) := by decide +kernel
theorem dX0_endTurn_44 : decode cX0_endTurn 44 = .ok (.ifCond .eq 25, 3) := by decide +kernel
theorem dX0_endTurn_47 : decode cX0_endTurn 47 = .ok (.aload_n 0, 1) := by decide +kernel
theorem dX0_endTurn_48 : decode cX0_endTurn 48 = .ok (.aload_n 0, 1) := by decide +kernel
theorem dX0_endTurn_49 : decode cX0_endTurn 49 = .ok (.getfield 50, 3) := by decide +kernel
theorem dX0_endTurn_52 : decode cX0_endTurn 52 = .ok (.bipush 8, 2) := by decide +kernel
theorem dX0_endTurn_54 : decode cX0_endTurn 54 = .ok (.aload_n 0, 1) := by decide +kernel
theorem dX0_endTurn_55 : decode cX0_endTurn 55 = .ok (.aload_n 0, 1) := by decide +kernel
theorem dX0_endTurn_56 : decode cX0_endTurn 56 = .ok (.getfield 50, 3) := by decide +kernel
theorem dX0_endTurn_59 : decode cX0_endTurn 59 = .ok (.bipush 8, 2) := by decide +kernel
theorem dX0_endTurn_61 : decode cX0_endTurn 61 = .ok (.invokevirtual 81, 3) := by decide +kernel
theorem dX0_endTurn_64 : decode cX0_endTurn 64 = .ok (.iconst 1, 1) := by decide +kernel
theorem dX0_endTurn_65 : decode cX0_endTurn 65 = .ok (.iadd, 1) := by decide +kernel
theorem dX0_endTurn_66 : decode cX0_endTurn 66 = .ok (.invokevirtual 68, 3) := by decide +kernel
theorem dX0_endTurn_69 : decode cX0_endTurn 69 = .ok (.aload_n 0, 1) := by decide +kernel
theorem dX0_endTurn_70 : decode cX0_endTurn 70 = .ok (.aload_n 0, 1) := by decide +kernel
theorem dX0_endTurn_71 : decode cX0_endTurn 71 = .ok (.getfield 50, 3) := by decide +kernel
theorem dX0_endTurn_74 : decode cX0_endTurn 74 = .ok (.iconst 1, 1) := by decide +kernel
theorem dX0_endTurn_75 : decode cX0_endTurn 75 = .ok (.iadd, 1) := by decide +kernel
theorem dX0_endTurn_76 : decode cX0_endTurn 76 = .ok (.aload_n 0, 1) := by decide +kernel
theorem dX0_endTurn_77 : decode cX0_endTurn 77 = .ok (.getfield 44, 3) := by decide +kernel
theorem dX0_endTurn_80 : decode cX0_endTurn 80 = .ok (.if_icmp .ge 12, 3) := by decide +kernel
theorem dX0_endTurn_83 : decode cX0_endTurn 83 = .ok (.aload_n 0, 1) := by decide +kernel
theorem dX0_endTurn_84 : decode cX0_endTurn 84 = .ok (.getfield 50, 3) := by decide +kernel
theorem dX0_endTurn_87 : decode cX0_endTurn 87 = .ok (.iconst 1, 1) := by decide +kernel
theorem dX0_endTurn_88 : decode cX0_endTurn 88 = .ok (.iadd, 1) := by decide +kernel
theorem dX0_endTurn_89 : decode cX0_endTurn 89 = .ok (.goto 4, 3) := by decide +kernel
theorem dX0_endTurn_92 : decode cX0_endTurn 92 = .ok (.iconst 0, 1) := by decide +kernel
theorem dX0_endTurn_93 : decode cX0_endTurn 93 = .ok (.putfield 50, 3) := by decide +kernel
theorem dX0_endTurn_96 : decode cX0_endTurn 96 = .ok (.return_, 1) := by decide +kernel
theorem eX0_endTurn {c : Nat} {W : zWd} {a : Int → Int} {T : Int} {f : Int} {Q : Option Value → zWd → Prop} {X : zX} (hc : zCt c) (hR : zCR W c a) (hw : zWf T a) (hf0 : 0 ≤ f) (hf5 : f ≤ 5) (hq : ∀ W' : zWd, zOff c W W' → zCR W' c (aEnd (aFlt a (a 4) f) (a 4) f) → Q none W') : Ev MX0_endTurn 1 0 W [.ref c, zI f] Q X := by
  refine ev_of (ls := [.ref c, zI f]) (by decide) rfl (fun _ => rfl) (fun _ => Nat.le_of_ble_eq_true rfl) (Or.inl rfl) ?_
  obtain ⟨r0, r1, r2, r3, r4, r5, r6, r7, rF, rS, rP, rB⟩ := id hR
  obtain ⟨w0, w0', wW, w1, w2, w2', w3, w3', w4, w4', w5, w5', w6, w6', w7, w7', wS, wP, wT⟩ := id hw
  have wq := zWf.sq hw
  have hm2 := wP (a 4) w4 w4'
  unfold zWfP at hm2
  refine rr_aload_n (pc := 0) dX0_endTurn_0 rfl ?_
  refine rr_dup_r (pc := 1) dX0_endTurn_1 ?_
  refine rr_getI (pc := 2) (ji := 5) dX0_endTurn_2 fX0_53 hc.k hc.i5 rfl ?_
  rw [r5]
  refine rr_iconst (n := 1) dX0_endTurn_5 ?_
  refine rr_iadd (pc := 6) dX0_endTurn_6 ?_
  refine rr_put (pc := 7) (ji := 5) dX0_endTurn_7 fX0_53 fp_0_5 hc.k hc.i5 rfl ?_
  have c0 := CR_0 (j := 5) (v := a 5 + 1) hR (by omega)
  have o0 : zOff c W (zup W c 5 (a 5 + 1)) := zOff.rf.up (by omega)
  generalize zup W c 5 (a 5 + 1) = W0 at c0 o0 ⊢
  have t0 : iup a 5 (a 5 + 1) 4 = a 4 := iup_n (by omega)
  refine rr_aload_n (pc := 10) dX0_endTurn_10 rfl ?_
  refine rr_aload_n (pc := 11) dX0_endTurn_11 rfl ?_
  refine rr_getI (pc := 12) (ji := 4) dX0_endTurn_12 fX0_50 hc.k hc.i4 rfl ?_
  rw [c0.2.2.2.2.1, t0]
  refine rr_bipush (n := (7)) dX0_endTurn_15 ?_
  refine rr_aload_n (pc := 17) dX0_endTurn_17 rfl ?_
  refine rr_aload_n (pc := 18) dX0_endTurn_18 rfl ?_
  refine rr_getI (pc := 19) (ji := 4) dX0_endTurn_19 fX0_50 hc.k hc.i4 rfl ?_
  rw [c0.2.2.2.2.1, t0]
  refine rr_bipush (n := (7)) dX0_endTurn_22 ?_
  refine rr_inv0 (M' := MX0_get) (k := c) (As := [_, _]) (pc := 24) dX0_endTurn_24 lX0_81 kX0_get vX0_get hc.k (by decide) rfl (by decide) (by decide) (Nat.le_of_ble_eq_true rfl) rfl (eX0_get hc (by omega) (by omega) (by omega) (by omega) ?_)
  rw [(c0.2.2.2.2.2.2.2.2.2.2.1 (a 4) w4 (by rw [iup_n (by omega)]; exact w4')).2.2.2.2.2.2.1, show aP (iup a 5 (a 5 + 1)) (a 4) 6 = aP a (a 4) 6 from iup_n (by omega)]
  refine rr_iconst (n := 1) dX0_endTurn_27 ?_
  refine rr_iadd (pc := 28) dX0_endTurn_28 ?_
  refine rr_inv0 (M' := MX0_put) (k := c) (As := [_, _, _]) (pc := 29) dX0_endTurn_29 lX0_68 kX0_put vX0_put hc.k (by decide) rfl (by decide) (by decide) (Nat.le_of_ble_eq_true rfl) rfl (eX0_put hc (by omega) (by omega) (by omega) (by omega) ?_)
  have c1 := CR_P (j := 7) (w := 6) (v := aP a (a 4) 6 + 1) (v' := aP a (a 4) 6 + 1) c0 w4 (by unfold zPj; omega)
  have o1 := o0.tr (zOff.rf.up (n := c + 5) (i := a 4 * 10 + 7) (v := aP a (a 4) 6 + 1) (by omega))
  generalize zup W0 (c + 5) (a 4 * 10 + 7) (aP a (a 4) 6 + 1) = W1 at c1 o1 ⊢
  have t1 : iup (iup a 5 (a 5 + 1)) (58 + 17 * a 4 + 6) (aP a (a 4) 6 + 1) 4 = a 4 := by rw [iup_n (by omega)]; exact t0
  refine rr_aload_n (pc := 32) dX0_endTurn_32 rfl ?_
  refine rr_aload_n (pc := 33) dX0_endTurn_33 rfl ?_
  refine rr_getI (pc := 34) (ji := 4) dX0_endTurn_34 fX0_50 hc.k hc.i4 rfl ?_
  rw [c1.2.2.2.2.1, t1]
  refine rr_bipush (n := (9)) dX0_endTurn_37 ?_
  refine rr_iload_n (pc := 39) dX0_endTurn_39 rfl ?_
  refine rr_inv0 (M' := MX0_put) (k := c) (As := [_, _, _]) (pc := 40) dX0_endTurn_40 lX0_68 kX0_put vX0_put hc.k (by decide) rfl (by decide) (by decide) (Nat.le_of_ble_eq_true rfl) rfl (eX0_put hc (by omega) (by omega) (by omega) (by omega) ?_)
  have c2 := CR_P (j := 9) (w := 8) (v := f) (v' := f) c1 w4 (by unfold zPj; omega)
  have o2 := o1.tr (zOff.rf.up (n := c + 5) (i := a 4 * 10 + 9) (v := f) (by omega))
  generalize zup W1 (c + 5) (a 4 * 10 + 9) (f) = W2 at c2 o2 ⊢
  have t2 : iup (iup (iup a 5 (a 5 + 1)) (58 + 17 * a 4 + 6) (aP a (a 4) 6 + 1)) (58 + 17 * a 4 + 8) f 4 = a 4 := by rw [iup_n (by omega)]; exact t1
  refine rr_iload_n (pc := 43) dX0_endTurn_43 rfl ?_
  refine rr_if_eq (pc := 44) (tgt := 69) dX0_endTurn_44 (by decide) (by unfold zR; omega) (fun h44 => ?_) (fun h44 => ?_)
  · have c3 := c2
    rw [show iup (iup (iup a 5 (a 5 + 1)) (58 + 17 * a 4 + 6) (aP a (a 4) 6 + 1)) (58 + 17 * a 4 + 8) f = aFlt (iup (iup (iup a 5 (a 5 + 1)) (58 + 17 * a 4 + 6) (aP a (a 4) 6 + 1)) (58 + 17 * a 4 + 8) f) (a 4) f from (if_pos h44).symm] at c3
    have o3 := o2
    generalize W2 = W3 at c3 o3 ⊢
    have t3 : aFlt (iup (iup (iup a 5 (a 5 + 1)) (58 + 17 * a 4 + 6) (aP a (a 4) 6 + 1)) (58 + 17 * a 4 + 8) f) (a 4) f 4 = a 4 := by unfold aFlt; rw [if_pos h44]; exact t2
    have u3 : aFlt (iup (iup (iup a 5 (a 5 + 1)) (58 + 17 * a 4 + 6) (aP a (a 4) 6 + 1)) (58 + 17 * a 4 + 8) f) (a 4) f 2 = a 2 := by unfold aFlt; rw [if_pos h44, iup_n (by omega), iup_n (by omega), iup_n (by omega)]
    refine rr_aload_n (pc := 69) dX0_endTurn_69 rfl ?_
    refine rr_aload_n (pc := 70) dX0_endTurn_70 rfl ?_
    refine rr_getI (pc := 71) (ji := 4) dX0_endTurn_71 fX0_50 hc.k hc.i4 rfl ?_
    rw [c3.2.2.2.2.1, t3]
    refine rr_iconst (n := 1) dX0_endTurn_74 ?_
    refine rr_iadd (pc := 75) dX0_endTurn_75 ?_
    refine rr_aload_n (pc := 76) dX0_endTurn_76 rfl ?_
    refine rr_getI (pc := 77) (ji := 2) dX0_endTurn_77 fX0_44 hc.k hc.i2 rfl ?_
    rw [c3.2.2.1, u3]
    refine rr_icmp_ge (pc := 80) (tgt := 92) dX0_endTurn_80 (by decide) (by unfold zR; omega) (by unfold zR; omega) (fun h80 => ?_) (fun h80 => ?_)
    · refine rr_iconst (n := 0) dX0_endTurn_92 ?_
      refine rr_put (pc := 93) (ji := 4) dX0_endTurn_93 fX0_50 fp_0_4 hc.k hc.i4 rfl ?_
      exact rr_retv (pc := 96) dX0_endTurn_96 rfl rfl (hq _ (o3.up (by omega)) (by rw [← aEnd_eq (x := iup _ 4 0) rfl w4 w4' (by rw [if_neg (by omega)])]; exact CR_0 c3 (by omega)))
    · refine rr_aload_n (pc := 83) dX0_endTurn_83 rfl ?_
      refine rr_getI (pc := 84) (ji := 4) dX0_endTurn_84 fX0_50 hc.k hc.i4 rfl ?_
      rw [c3.2.2.2.2.1, t3]
      refine rr_iconst (n := 1) dX0_endTurn_87 ?_
      refine rr_iadd (pc := 88) dX0_endTurn_88 ?_
      refine rr_goto (pc := 89) (tgt := 93) dX0_endTurn_89 (by decide) ?_
      refine rr_put (pc := 93) (ji := 4) dX0_endTurn_93 fX0_50 fp_0_4 hc.k hc.i4 rfl ?_
      exact rr_retv (pc := 96) dX0_endTurn_96 rfl rfl (hq _ (o3.up (by omega)) (by rw [← aEnd_eq (x := iup _ 4 (a 4 + 1)) rfl w4 w4' (by rw [if_pos (by omega)])]; exact CR_0 c3 (by omega)))
  · refine rr_aload_n (pc := 47) dX0_endTurn_47 rfl ?_
    refine rr_aload_n (pc := 48) dX0_endTurn_48 rfl ?_
    refine rr_getI (pc := 49) (ji := 4) dX0_endTurn_49 fX0_50 hc.k hc.i4 rfl ?_
    rw [c2.2.2.2.2.1, t2]
    refine rr_bipush (n := (8)) dX0_endTurn_52 ?_
    refine rr_aload_n (pc := 54) dX0_endTurn_54 rfl ?_
    refine rr_aload_n (pc := 55) dX0_endTurn_55 rfl ?_
    refine rr_getI (pc := 56) (ji := 4) dX0_endTurn_56 fX0_50 hc.k hc.i4 rfl ?_
    rw [c2.2.2.2.2.1, t2]
    refine rr_bipush (n := (8)) dX0_endTurn_59 ?_
    refine rr_inv0 (M' := MX0_get) (k := c) (As := [_, _]) (pc := 61) dX0_endTurn_61 lX0_81 kX0_get vX0_get hc.k (by decide) rfl (by decide) (by decide) (Nat.le_of_ble_eq_true rfl) rfl (eX0_get hc (by omega) (by omega) (by omega) (by omega) ?_)
    rw [(c2.2.2.2.2.2.2.2.2.2.2.1 (a 4) w4 (by rw [iup_n (by omega), iup_n (by omega), iup_n (by omega)]; exact w4')).2.2.2.2.2.2.2.1]
    refine rr_iconst (n := 1) dX0_endTurn_64 ?_
    refine rr_iadd (pc := 65) dX0_endTurn_65 ?_
    refine rr_inv0 (M' := MX0_put) (k := c) (As := [_, _, _]) (pc := 66) dX0_endTurn_66 lX0_68 kX0_put vX0_put hc.k (by decide) rfl (by decide) (by decide) (Nat.le_of_ble_eq_true rfl) rfl (eX0_put hc (by omega) (by omega) (by omega) (by omega) ?_)
    have c3 := CR_P (j := 8) (w := 7) (v := aP (iup (iup (iup a 5 (a 5 + 1)) (58 + 17 * a 4 + 6) (aP a (a 4) 6 + 1)) (58 + 17 * a 4 + 8) f) (a 4) 7 + 1) (v' := aP (iup (iup (iup a 5 (a 5 + 1)) (58 + 17 * a 4 + 6) (aP a (a 4) 6 + 1)) (58 + 17 * a 4 + 8) f) (a 4) 7 + 1) c2 w4 (by unfold zPj; omega)
    have o3 := o2.tr (zOff.rf.up (n := c + 5) (i := a 4 * 10 + 8) (v := aP (iup (iup (iup a 5 (a 5 + 1)) (58 + 17 * a 4 + 6) (aP a (a 4) 6 + 1)) (58 + 17 * a 4 + 8) f) (a 4) 7 + 1) (by omega))
    generalize zup W2 (c + 5) (a 4 * 10 + 8) _ = W3 at c3 o3 ⊢
    rw [show iup (iup (iup (iup a 5 (a 5 + 1)) (58 + 17 * a 4 + 6) (aP a (a 4) 6 + 1)) (58 + 17 * a 4 + 8) f) (58 + 17 * a 4 + 7) _ = aFlt (iup (iup (iup a 5 (a 5 + 1)) (58 + 17 * a 4 + 6) (aP a (a 4) 6 + 1)) (58 + 17 * a 4 + 8) f) (a 4) f from (if_neg h44).symm] at c3
    have t3 : aFlt (iup (iup (iup a 5 (a 5 + 1)) (58 + 17 * a 4 + 6) (aP a (a 4) 6 + 1)) (58 + 17 * a 4 + 8) f) (a 4) f 4 = a 4 := by unfold aFlt; rw [if_neg h44, iup_n (by omega)]; exact t2
    have u3 : aFlt (iup (iup (iup a 5 (a 5 + 1)) (58 + 17 * a 4 + 6) (aP a (a 4) 6 + 1)) (58 + 17 * a 4 + 8) f) (a 4) f 2 = a 2 := by unfold aFlt; rw [if_neg h44, iup_n (by omega), iup_n (by omega), iup_n (by omega), iup_n (by omega)]
    refine rr_aload_n (pc := 69) dX0_endTurn_69 rfl ?_
    refine rr_aload_n (pc := 70) dX0_endTurn_70 rfl ?_
    refine rr_getI (pc := 71) (ji := 4) dX0_endTurn_71 fX0_50 hc.k hc.i4 rfl ?_
    rw [c3.2.2.2.2.1, t3]
    refine rr_iconst (n := 1) dX0_endTurn_74 ?_
    refine rr_iadd (pc := 75) dX0_endTurn_75 ?_
    refine rr_aload_n (pc := 76) dX0_endTurn_76 rfl ?_
    refine rr_getI (pc := 77) (ji := 2) dX0_endTurn_77 fX0_44 hc.k hc.i2 rfl ?_
    rw [c3.2.2.1, u3]
    refine rr_icmp_ge (pc := 80) (tgt := 92) dX0_endTurn_80 (by decide) (by unfold zR; omega) (by unfold zR; omega) (fun h80 => ?_) (fun h80 => ?_)
    · refine rr_iconst (n := 0) dX0_endTurn_92 ?_
      refine rr_put (pc := 93) (ji := 4) dX0_endTurn_93 fX0_50 fp_0_4 hc.k hc.i4 rfl ?_
      exact rr_retv (pc := 96) dX0_endTurn_96 rfl rfl (hq _ (o3.up (by omega)) (by rw [← aEnd_eq (x := iup _ 4 0) rfl w4 w4' (by rw [if_neg (by omega)])]; exact CR_0 c3 (by omega)))
    · refine rr_aload_n (pc := 83) dX0_endTurn_83 rfl ?_
      refine rr_getI (pc := 84) (ji := 4) dX0_endTurn_84 fX0_50 hc.k hc.i4 rfl ?_
      rw [c3.2.2.2.2.1, t3]
      refine rr_iconst (n := 1) dX0_endTurn_87 ?_
      refine rr_iadd (pc := 88) dX0_endTurn_88 ?_
      refine rr_goto (pc := 89) (tgt := 93) dX0_endTurn_89 (by decide) ?_
      refine rr_put (pc := 93) (ji := 4) dX0_endTurn_93 fX0_50 fp_0_4 hc.k hc.i4 rfl ?_
      exact rr_retv (pc := 96) dX0_endTurn_96 rfl rfl (hq _ (o3.up (by omega)) (by rw [← aEnd_eq (x := iup _ 4 (a 4 + 1)) rfl w4 w4' (by rw [if_pos (by omega)])]; exact CR_0 c3 (by omega)))
end
section
theorem iup_id {a : Int → Int} {i : Int} : iup a i (a i) = a := by
  funext j; unfold iup; split
  · rename_i h; rw [h]
  · rfl
theorem aMendN_low {a : Int → Int} : ∀ (n : Nat) (j : Int), j < 58 → aMendN a n j = a j := by
  intro n
  induction n with
  | zero => intro j _; rfl
  | succ n ih => intro j hj; show iup (aMendN a n) _ _ j = a j; rw [iup_n (by omega)]; exact ih j hj
theorem aMendN_P {a : Int → Int} {q w : Int} : ∀ (n : Nat), 0 ≤ w → w < 17 → (w ≠ 2 ∨ (n : Int) ≤ q) → aP (aMendN a n) q w = aP a q w := by
  intro n
  induction n with
  | zero => intro _ _ _; rfl
  | succ n ih =>
    intro h1 h2 h3
    show aP (iup (aMendN a n) (58 + 17 * (n : Int) + 2) (aMendT a n)) q w = aP a q w
    rw [aP_up (by omega)]
    exact ih h1 h2 (by omega)
theorem aMendT_rng {a : Int → Int} {q : Int} (h0 : 0 ≤ aP a q 2) (h1 : aP a q 2 ≤ a 1) : 0 ≤ aMendT a q ∧ aMendT a q ≤ a 1 := by
  have g1 := aOpen_rng (a := a) (p := q) (s := aP a q 2 + 1) (by omega) (by omega)
  have g2 := aOpen_rng (a := a) (p := q) (s := 1) (by omega) (by omega)
  unfold aMendT
  (repeat' split) <;> omega
theorem aMendN_wf {T : Int} {a : Int → Int} (hw : zWf T a) : ∀ (n : Nat), (n : Int) ≤ a 2 → zWf T (aMendN a n) := by
  intro n
  induction n with
  | zero => intro _; exact hw
  | succ n ih =>
    intro hn
    have h9 := hw.2.2.2.2.2.2.2.2.2.2.2.2.2.2.2.2.2.1 n (by omega) (by omega)
    unfold zWfP at h9
    have h8 := aMendT_rng (a := a) (q := n) h9.2.2.2.2.1 h9.2.2.2.2.2.1
    exact WF_P (w := 2) (p := n) (ih (by omega)) (by omega) (by unfold zWr; rw [aMendN_low n 1 (by omega)]; omega)
theorem aMendN_O {a : Int → Int} {s : Int} (n : Nat) (hs : s ≤ 20) : aO (aMendN a n) s = aO a s := by
  unfold aO; rw [aMendN_low n _ (by omega)]
theorem aMendN_op {a : Int → Int} {q s : Int} (n : Nat) (h20 : a 1 ≤ 20) : aOpen (aMendN a n) q s = aOpen a q s :=
  aOpen_cg (aMendN_low n 1 (by omega)) (fun s' _ h => aMendN_O n (by omega))
theorem aMendN_s {a : Int → Int} {i v : Int} (h : 0 ≤ i) (hv : v = aMendT a i) : aMendN a (i + 1).toNat = iup (aMendN a i.toNat) (58 + 17 * i + 2) v := by
  rw [show (i + 1).toNat = i.toNat + 1 by omega, hv]
  show iup (aMendN a i.toNat) (58 + 17 * ((i.toNat : Nat) : Int) + 2) (aMendT a ((i.toNat : Nat) : Int)) = _
  rw [show ((i.toNat : Nat) : Int) = i by omega]
theorem dX0_mendTargets_0 : decode cX0_mendTargets 0 = .ok (.iconst 0, 1) := by decide +kernel
theorem dX0_mendTargets_1 : decode cX0_mendTargets 1 = .ok (.istore_n 1, 1) := by decide +kernel
theorem dX0_mendTargets_2 : decode cX0_mendTargets 2 = .ok (.iload_n 1, 1) := by decide +kernel
theorem dX0_mendTargets_3 : decode cX0_mendTargets 3 = .ok (.aload_n 0, 1) := by decide +kernel
theorem dX0_mendTargets_4 : decode cX0_mendTargets 4 = .ok (.getfield 44, 3) := by decide +kernel
theorem dX0_mendTargets_7 : decode cX0_mendTargets 7 = .ok (.if_icmp .ge 58, 3) := by decide +kernel
theorem dX0_mendTargets_10 : decode cX0_mendTargets 10 = .ok (.aload_n 0, 1) := by decide +kernel
theorem dX0_mendTargets_11 : decode cX0_mendTargets 11 = .ok (.iload_n 1, 1) := by decide +kernel
theorem dX0_mendTargets_12 : decode cX0_mendTargets 12 = .ok (.iconst 2, 1) := by decide +kernel
theorem dX0_mendTargets_13 : decode cX0_mendTargets 13 = .ok (.invokevirtual 81, 3) := by decide +kernel
theorem dX0_mendTargets_16 : decode cX0_mendTargets 16 = .ok (.istore_n 2, 1) := by decide +kernel
theorem dX0_mendTargets_17 : decode cX0_mendTargets 17 = .ok (.iload_n 2, 1) := by decide +kernel
theorem dX0_mendTargets_18 : decode cX0_mendTargets 18 = .ok (.ifCond .eq 12, 3) := by decide +kernel
theorem dX0_mendTargets_21 : decode cX0_mendTargets 21 = .ok (.aload_n 0, 1) := by decide +kernel
theorem dX0_mendTargets_22 : decode cX0_mendTargets 22 = .ok (.iload_n 1, 1) := by decide +kernel
theorem dX0_mendTargets_23 : decode cX0_mendTargets 23 = .ok (.iload_n 2, 1) := by decide +kernel
theorem dX0_mendTargets_24 : decode cX0_mendTargets 24 = .ok (.invokevirtual 85, 3) := by decide +kernel
theorem dX0_mendTargets_27 : decode cX0_mendTargets 27 = .ok (.ifCond .eq 32, 3) := by decide +kernel
theorem dX0_mendTargets_30 : decode cX0_mendTargets 30 = .ok (.aload_n 0, 1) := by decide +kernel
theorem dX0_mendTargets_31 : decode cX0_mendTargets 31 = .ok (.iload_n 1, 1) := by decide +kernel
theorem dX0_mendTargets_32 : decode cX0_mendTargets 32 = .ok (.iload_n 2, 1) := by decide +kernel
theorem dX0_mendTargets_33 : decode cX0_mendTargets 33 = .ok (.iconst 1, 1) := by decide +kernel
theorem dX0_mendTargets_34 : decode cX0_mendTargets 34 = .ok (.iadd, 1) := by decide +kernel
theorem dX0_mendTargets_35 : decode cX0_mendTargets 35 = .ok (.invokevirtual 89, 3) := by decide +kernel
theorem dX0_mendTargets_38 : decode cX0_mendTargets 38 = .ok (.istore_n 3, 1) := by decide +kernel
theorem dX0_mendTargets_39 : decode cX0_mendTargets 39 = .ok (.aload_n 0, 1) := by decide +kernel
theorem dX0_mendTargets_40 : decode cX0_mendTargets 40 = .ok (.iload_n 1, 1) := by decide +kernel
theorem dX0_mendTargets_41 : decode cX0_mendTargets 41 = .ok (.iconst 2, 1) := by decide +kernel
theorem dX0_mendTargets_42 : decode cX0_mendTargets 42 = .ok (.iload_n 3, 1) := by decide +kernel
theorem dX0_mendTargets_43 : decode cX0_mendTargets 43 = .ok (.ifCond .ne 12, 3) := by decide +kernel
theorem dX0_mendTargets_46 : decode cX0_mendTargets 46 = .ok (.aload_n 0, 1) := by decide +kernel
theorem dX0_mendTargets_47 : decode cX0_mendTargets 47 = .ok (.iload_n 1, 1) := by decide +kernel
theorem dX0_mendTargets_48 : decode cX0_mendTargets 48 = .ok (.iconst 1, 1) := by decide +kernel
theorem dX0_mendTargets_49 : decode cX0_mendTargets 49 = .ok (.invokevirtual 89, 3) := by decide +kernel
theorem dX0_mendTargets_52 : decode cX0_mendTargets 52 = .ok (.goto 4, 3) := by decide +kernel
theorem dX0_mendTargets_55 : decode cX0_mendTargets 55 = .ok (.iload_n 3, 1) := by decide +kernel
theorem dX0_mendTargets_56 : decode cX0_mendTargets 56 = .ok (.invokevirtual 68, 3) := by decide +kernel
theorem dX0_mendTargets_59 : decode cX0_mendTargets 59 = .ok (.iinc 1 1, 3) := by decide +kernel
theorem dX0_mendTargets_62 : decode cX0_mendTargets 62 = .ok (.goto (-60), 3) := by decide +kernel
theorem dX0_mendTargets_65 : decode cX0_mendTargets 65 = .ok (.return_, 1) := by decide +kernel
theorem eX0_mendTargets {c : Nat} {W : zWd} {a : Int → Int} {T : Int}  {Q : Option Value → zWd → Prop} {X : zX} (hc : zCt c) (hR : zCR W c a) (hw : zWf T a) (hq : ∀ W' : zWd, zOff c W W' → zCR W' c (aMend a) → Q none W') : Ev MX0_mendTargets 2 0 W [.ref c] Q X := by
  refine ev_of (ls := [.ref c, .null, .null, .null]) (by decide) rfl (fun _ => rfl) (fun _ => Nat.le_of_ble_eq_true rfl) (Or.inl rfl) ?_
  obtain ⟨r0, r1, r2, r3, r4, r5, r6, r7, rF, rS, rP, rB⟩ := id hR
  obtain ⟨w0, w0', wW, w1, w2, w2', w3, w3', w4, w4', w5, w5', w6, w6', w7, w7', wS, wP, wT⟩ := id hw
  have wq := zWf.sq hw
  have loop : ∀ (n : Nat) (i : Int) (Wi : zWd) (v2 v3 : Value), 0 ≤ i → i ≤ a 2 → zOff c W Wi → zCR Wi c (aMendN a i.toNat) → (a 2 - i).toNat < n → RR MX0_mendTargets 2 0 Wi 2 [.ref c, zI i, v2, v3] [] (zEnd MX0_mendTargets Q X) X := by
    intro n
    induction n with
    | zero => intro i Wi v2 v3 _ _ _ _ hm9; omega
    | succ n ih =>
      intro i Wi v2 v3 h1 h2 hO hC hm9
      refine rr_iload_n (pc := 2) dX0_mendTargets_2 rfl ?_
      refine rr_aload_n (pc := 3) dX0_mendTargets_3 rfl ?_
      refine rr_getI (pc := 4) (ji := 2) dX0_mendTargets_4 fX0_44 hc.k hc.i2 rfl ?_
      rw [hC.2.2.1, aMendN_low _ _ (by omega)]
      refine rr_icmp_ge (pc := 7) (tgt := 65) dX0_mendTargets_7 (by decide) (by unfold zR; omega) (by unfold zR; omega) (fun h7 => ?_) (fun h7 => ?_)
      · exact rr_retv (pc := 65) dX0_mendTargets_65 rfl rfl ((hq Wi hO (by show zCR Wi c (aMendN a (a 2).toNat); rw [show a 2 = i by omega]; exact hC)))
      · refine rr_aload_n (pc := 10) dX0_mendTargets_10 rfl ?_
        refine rr_iload_n (pc := 11) dX0_mendTargets_11 rfl ?_
        refine rr_iconst (n := 2) dX0_mendTargets_12 ?_
        have hwn := aMendN_wf hw i.toNat (by omega)
        have l1 := aMendN_low (a := a) i.toNat 1 (by omega)
        have hm := (hC.2.2.2.2.2.2.2.2.2.2.1 i h1 (by rw [aMendN_low _ _ (by omega)]; omega)).2.2.1
        rw [aMendN_P (q := i) (w := 2) i.toNat (by omega) (by omega) (by omega)] at hm
        have hm2 := wP i h1 (by omega)
        unfold zWfP at hm2
        refine rr_inv0 (M' := MX0_get) (k := c) (As := [_, _]) (pc := 13) dX0_mendTargets_13 lX0_81 kX0_get vX0_get hc.k (by decide) rfl (by decide) (by decide) (Nat.le_of_ble_eq_true rfl) rfl (eX0_get hc (by omega) (by omega) (by omega) (by omega) ?_)
        rw [hm]
        refine rr_istore_n (pc := 16) dX0_mendTargets_16 (by decide) ?_
        refine rr_iload_n (pc := 17) dX0_mendTargets_17 rfl ?_
        refine rr_if_eq (pc := 18) (tgt := 30) dX0_mendTargets_18 (by decide) (by unfold zR; omega) (fun h18 => ?_) (fun h18 => ?_)
        · refine rr_aload_n (pc := 30) dX0_mendTargets_30 rfl ?_
          refine rr_iload_n (pc := 31) dX0_mendTargets_31 rfl ?_
          refine rr_iload_n (pc := 32) dX0_mendTargets_32 rfl ?_
          refine rr_iconst (n := 1) dX0_mendTargets_33 ?_
          refine rr_iadd (pc := 34) dX0_mendTargets_34 ?_
          have ho := aOpen_rng (a := a) (p := i) (s := aP a i 2 + 1) (by omega) (by omega)
          refine rr_inv0 (M' := MX0_firstAllowed) (k := c) (As := [_, _]) (pc := 35) dX0_mendTargets_35 lX0_89 kX0_firstAllowed vX0_firstAllowed hc.k (by decide) rfl (by decide) (by decide) (Nat.le_of_ble_eq_true rfl) rfl (eX0_firstAllowed hc hC hwn (by omega) (by omega) (by unfold zR; omega) ?_)
          rw [aMendN_op _ (by omega)]
          refine rr_istore_n (pc := 38) dX0_mendTargets_38 (by decide) ?_
          refine rr_aload_n (pc := 39) dX0_mendTargets_39 rfl ?_
          refine rr_iload_n (pc := 40) dX0_mendTargets_40 rfl ?_
          refine rr_iconst (n := 2) dX0_mendTargets_41 ?_
          refine rr_iload_n (pc := 42) dX0_mendTargets_42 rfl ?_
          refine rr_if_ne (pc := 43) (tgt := 55) dX0_mendTargets_43 (by decide) (by unfold zR; omega) (fun h43 => ?_) (fun h43 => ?_)
          · refine rr_iload_n (pc := 55) dX0_mendTargets_55 rfl ?_
            refine rr_inv0 (M' := MX0_put) (k := c) (As := [_, _, _]) (pc := 56) dX0_mendTargets_56 lX0_68 kX0_put vX0_put hc.k (by decide) rfl (by decide) (by decide) (Nat.le_of_ble_eq_true rfl) rfl (eX0_put hc (by omega) (by omega) (by omega) (by omega) ?_)
            refine rr_iinc (pc := 59) dX0_mendTargets_59 rfl (by decide) ?_
            refine rr_goto (pc := 62) (tgt := 2) dX0_mendTargets_62 (by decide) ?_
            exact ih (i + 1) _ _ _ (by omega) (by omega) (hO.up (by omega)) (by rw [aMendN_s (v := aOpen a i (aP a i 2 + 1)) h1 (by unfold aMendT; rw [if_pos (Or.inl h18), if_neg h43])]; exact CR_P hC h1 (by unfold zPj; omega)) (by omega)
          · refine rr_aload_n (pc := 46) dX0_mendTargets_46 rfl ?_
            refine rr_iload_n (pc := 47) dX0_mendTargets_47 rfl ?_
            refine rr_iconst (n := 1) dX0_mendTargets_48 ?_
            refine rr_inv0 (M' := MX0_firstAllowed) (k := c) (As := [_, _]) (pc := 49) dX0_mendTargets_49 lX0_89 kX0_firstAllowed vX0_firstAllowed hc.k (by decide) rfl (by decide) (by decide) (Nat.le_of_ble_eq_true rfl) rfl (eX0_firstAllowed hc hC hwn (by omega) (by omega) (by unfold zR; omega) ?_)
            rw [aMendN_op _ (by omega)]
            refine rr_goto (pc := 52) (tgt := 56) dX0_mendTargets_52 (by decide) ?_
            refine rr_inv0 (M' := MX0_put) (k := c) (As := [_, _, _]) (pc := 56) dX0_mendTargets_56 lX0_68 kX0_put vX0_put hc.k (by decide) rfl (by decide) (by decide) (Nat.le_of_ble_eq_true rfl) rfl (eX0_put hc (by omega) (by omega) (by omega) (by omega) ?_)
            refine rr_iinc (pc := 59) dX0_mendTargets_59 rfl (by decide) ?_
            refine rr_goto (pc := 62) (tgt := 2) dX0_mendTargets_62 (by decide) ?_
            exact ih (i + 1) _ _ _ (by omega) (by omega) (hO.up (by omega)) (by rw [aMendN_s (v := aOpen a i 1) h1 (by unfold aMendT; rw [if_pos (Or.inl h18), if_pos h43])]; exact CR_P hC h1 (by unfold zPj; omega)) (by omega)
        · refine rr_aload_n (pc := 21) dX0_mendTargets_21 rfl ?_
          refine rr_iload_n (pc := 22) dX0_mendTargets_22 rfl ?_
          refine rr_iload_n (pc := 23) dX0_mendTargets_23 rfl ?_
          refine rr_inv0 (M' := MX0_isForbidden) (k := c) (As := [_, _]) (pc := 24) dX0_mendTargets_24 lX0_85 kX0_isForbidden vX0_isForbidden hc.k (by decide) rfl (by decide) (by decide) (Nat.le_of_ble_eq_true rfl) rfl (eX0_isForbidden hc hC hwn (by omega) (by omega) (by unfold zR; omega) ?_)
          unfold aForb
          rw [aMendN_O _ (by omega)]
          refine rr_if_eq (pc := 27) (tgt := 59) dX0_mendTargets_27 (by decide) (by split <;> (unfold zR; omega)) (fun h27 => ?_) (fun h27 => ?_)
          · refine rr_iinc (pc := 59) dX0_mendTargets_59 rfl (by decide) ?_
            refine rr_goto (pc := 62) (tgt := 2) dX0_mendTargets_62 (by decide) ?_
            have hnf : ¬ aForb a i (aP a i 2) := by unfold aForb; split at h27 <;> first | assumption | exact absurd h27 (by decide)
            exact ih (i + 1) Wi _ _ (by omega) (by omega) hO (by rw [aMendN_s (v := aP a i 2) h1 (by unfold aMendT; rw [if_neg (fun z => z.elim h18 hnf)]), show iup (aMendN a i.toNat) (58 + 17 * i + 2) (aP a i 2) = aMendN a i.toNat from by rw [← aMendN_P (a := a) (q := i) (w := 2) i.toNat (by omega) (by omega) (by omega)]; exact iup_id]; exact hC) (by omega)
          · refine rr_aload_n (pc := 30) dX0_mendTargets_30 rfl ?_
            refine rr_iload_n (pc := 31) dX0_mendTargets_31 rfl ?_
            refine rr_iload_n (pc := 32) dX0_mendTargets_32 rfl ?_
            refine rr_iconst (n := 1) dX0_mendTargets_33 ?_
            refine rr_iadd (pc := 34) dX0_mendTargets_34 ?_
            have ho := aOpen_rng (a := a) (p := i) (s := aP a i 2 + 1) (by omega) (by omega)
            refine rr_inv0 (M' := MX0_firstAllowed) (k := c) (As := [_, _]) (pc := 35) dX0_mendTargets_35 lX0_89 kX0_firstAllowed vX0_firstAllowed hc.k (by decide) rfl (by decide) (by decide) (Nat.le_of_ble_eq_true rfl) rfl (eX0_firstAllowed hc hC hwn (by omega) (by omega) (by unfold zR; omega) ?_)
            rw [aMendN_op _ (by omega)]
            refine rr_istore_n (pc := 38) dX0_mendTargets_38 (by decide) ?_
            refine rr_aload_n (pc := 39) dX0_mendTargets_39 rfl ?_
            refine rr_iload_n (pc := 40) dX0_mendTargets_40 rfl ?_
            refine rr_iconst (n := 2) dX0_mendTargets_41 ?_
            refine rr_iload_n (pc := 42) dX0_mendTargets_42 rfl ?_
            refine rr_if_ne (pc := 43) (tgt := 55) dX0_mendTargets_43 (by decide) (by unfold zR; omega) (fun h43 => ?_) (fun h43 => ?_)
            · refine rr_iload_n (pc := 55) dX0_mendTargets_55 rfl ?_
              refine rr_inv0 (M' := MX0_put) (k := c) (As := [_, _, _]) (pc := 56) dX0_mendTargets_56 lX0_68 kX0_put vX0_put hc.k (by decide) rfl (by decide) (by decide) (Nat.le_of_ble_eq_true rfl) rfl (eX0_put hc (by omega) (by omega) (by omega) (by omega) ?_)
              refine rr_iinc (pc := 59) dX0_mendTargets_59 rfl (by decide) ?_
              refine rr_goto (pc := 62) (tgt := 2) dX0_mendTargets_62 (by decide) ?_
              exact ih (i + 1) _ _ _ (by omega) (by omega) (hO.up (by omega)) (by rw [aMendN_s (v := aOpen a i (aP a i 2 + 1)) h1 (by unfold aMendT; rw [if_pos (Or.inr (by unfold aForb; split at h27 <;> first | assumption | exact absurd rfl h27)), if_neg h43])]; exact CR_P hC h1 (by unfold zPj; omega)) (by omega)
            · refine rr_aload_n (pc := 46) dX0_mendTargets_46 rfl ?_
              refine rr_iload_n (pc := 47) dX0_mendTargets_47 rfl ?_
              refine rr_iconst (n := 1) dX0_mendTargets_48 ?_
              refine rr_inv0 (M' := MX0_firstAllowed) (k := c) (As := [_, _]) (pc := 49) dX0_mendTargets_49 lX0_89 kX0_firstAllowed vX0_firstAllowed hc.k (by decide) rfl (by decide) (by decide) (Nat.le_of_ble_eq_true rfl) rfl (eX0_firstAllowed hc hC hwn (by omega) (by omega) (by unfold zR; omega) ?_)
              rw [aMendN_op _ (by omega)]
              refine rr_goto (pc := 52) (tgt := 56) dX0_mendTargets_52 (by decide) ?_
              refine rr_inv0 (M' := MX0_put) (k := c) (As := [_, _, _]) (pc := 56) dX0_mendTargets_56 lX0_68 kX0_put vX0_put hc.k (by decide) rfl (by decide) (by decide) (Nat.le_of_ble_eq_true rfl) rfl (eX0_put hc (by omega) (by omega) (by omega) (by omega) ?_)
              refine rr_iinc (pc := 59) dX0_mendTargets_59 rfl (by decide) ?_
              refine rr_goto (pc := 62) (tgt := 2) dX0_mendTargets_62 (by decide) ?_
              exact ih (i + 1) _ _ _ (by omega) (by omega) (hO.up (by omega)) (by rw [aMendN_s (v := aOpen a i 1) h1 (by unfold aMendT; rw [if_pos (Or.inr (by unfold aForb; split at h27 <;> first | assumption | exact absurd rfl h27)), if_pos h43])]; exact CR_P hC h1 (by unfold zPj; omega)) (by omega)
  refine rr_iconst (n := 0) dX0_mendTargets_0 ?_
  refine rr_istore_n (pc := 1) dX0_mendTargets_1 (by decide) ?_
  exact loop _ 0 W .null .null (by omega) (by omega) zOff.rf hR (Nat.lt_succ_self _)
theorem CR_cp {W W' : zWd} {c c2 : Nat} {a : Int → Int} (h : zCR W c2 a) (ha : a 2 ≤ 6) (e0 : ∀ j : Int, 0 ≤ j → j < 8 → W' c j = W c2 j) (e1 : ∀ j : Int, 0 ≤ j → j < 11 → W' (c + 1) j = W (c2 + 1) j) (e2 : ∀ j : Int, 0 ≤ j → j < 21 → W' (c + 2) j = W (c2 + 2) j) (e3 : ∀ j : Int, 0 ≤ j → j < 21 → W' (c + 3) j = W (c2 + 3) j) (e4 : ∀ j : Int, 0 ≤ j → j < 21 → W' (c + 4) j = W (c2 + 4) j) (e5 : ∀ j : Int, 0 ≤ j → j < 60 → W' (c + 5) j = W (c2 + 5) j) (e6 : ∀ j : Int, 0 ≤ j → j < 48 → W' (c + 6) j = W (c2 + 6) j) (e7 : ∀ j : Int, 0 ≤ j → j < 6 → W' (c + 7) j = W (c2 + 7) j) : zCR W' c a := by
  obtain ⟨r0, r1, r2, r3, r4, r5, r6, r7, rF, rS, rP, rB⟩ := h
  refine ⟨by rw [e0 0 (by omega) (by omega)]; exact r0, by rw [e0 1 (by omega) (by omega)]; exact r1, by rw [e0 2 (by omega) (by omega)]; exact r2, by rw [e0 3 (by omega) (by omega)]; exact r3, by rw [e0 4 (by omega) (by omega)]; exact r4, by rw [e0 5 (by omega) (by omega)]; exact r5, by rw [e0 6 (by omega) (by omega)]; exact r6, by rw [e0 7 (by omega) (by omega)]; exact r7, ?_, ?_, ?_, ?_⟩
  · intro r h1 h2; rw [e1 r (by omega) (by omega)]; exact rF r h1 h2
  · intro s h1 h20 h2; rw [e2 s (by omega) (by omega), e3 s (by omega) (by omega), e4 s (by omega) (by omega)]; exact rS s h1 h20 h2
  · intro q h1 h2
    obtain ⟨q0, q1, q2, q3, q4, q5, q7, q8, q9, ⟨g1, g2, g3, g4⟩, g5⟩ := rP q h1 h2
    unfold zCRP zNam
    rw [e7 q h1 (by omega), e5 _ (by omega) (by omega), e5 _ (by omega) (by omega), e5 _ (by omega) (by omega), e5 _ (by omega) (by omega), e5 _ (by omega) (by omega), e5 _ (by omega) (by omega), e5 _ (by omega) (by omega), e5 _ (by omega) (by omega), e5 _ (by omega) (by omega)]
    exact ⟨q0, q1, q2, q3, q4, q5, q7, q8, q9, ⟨g1, g2, g3, g4⟩, fun k hk0 hk1 => by rw [e6 _ (by omega) (by omega)]; exact g5 k hk0 hk1⟩
  · intro i h1 h2; rw [e6 i h1 h2]; exact rB i h1 h2
theorem zCt.ne {c c2 : Nat} (h : zCt c) (h2 : zCt c2) (hn : c ≠ c2) : c + 8 ≤ c2 ∨ c2 + 8 ≤ c := by
  obtain ⟨i, hi, rfl⟩ := h
  obtain ⟨j, hj, rfl⟩ := h2
  omega
theorem dX0_copyFrom_0 : decode cX0_copyFrom 0 = .ok (.aload_n 0, 1) := by decide +kernel
theorem dX0_copyFrom_1 : decode cX0_copyFrom 1 = .ok (.aload_n 1, 1) := by decide +kernel
theorem dX0_copyFrom_2 : decode cX0_copyFrom 2 = .ok (.getfield 37, 3) := by decide +kernel
theorem dX0_copyFrom_5 : decode cX0_copyFrom 5 = .ok (.putfield 37, 3) := by decide +kernel
theorem dX0_copyFrom_8 : decode cX0_copyFrom 8 = .ok (.aload_n 0, 1) := by decide +kernel
theorem dX0_copyFrom_9 : decode cX0_copyFrom 9 = .ok (.aload_n 1, 1) := by decide +kernel
theorem dX0_copyFrom_10 : decode cX0_copyFrom 10 = .ok (.getfield 41, 3) := by decide +kernel
theorem dX0_copyFrom_13 : decode cX0_copyFrom 13 = .ok (.putfield 41, 3) := by decide +kernel
theorem dX0_copyFrom_16 : decode cX0_copyFrom 16 = .ok (.aload_n 0, 1) := by decide +kernel
theorem dX0_copyFrom_17 : decode cX0_copyFrom 17 = .ok (.aload_n 1, 1) := by decide +kernel
theorem dX0_copyFrom_18 : decode cX0_copyFrom 18 = .ok (.getfield 44, 3) := by decide +kernel
theorem dX0_copyFrom_21 : decode cX0_copyFrom 21 = .ok (.putfield 44, 3) := by decide +kernel
theorem dX0_copyFrom_24 : decode cX0_copyFrom 24 = .ok (.aload_n 0, 1) := by decide +kernel
theorem dX0_copyFrom_25 : decode cX0_copyFrom 25 = .ok (.aload_n 1, 1) := by decide +kernel
theorem dX0_copyFrom_26 : decode cX0_copyFrom 26 = .ok (.getfield 47, 3) := by decide +kernel
theorem dX0_copyFrom_29 : decode cX0_copyFrom 29 = .ok (.putfield 47, 3) := by decide +kernel
theorem dX0_copyFrom_32 : decode cX0_copyFrom 32 = .ok (.aload_n 0, 1) := by decide +kernel
theorem dX0_copyFrom_33 : decode cX0_copyFrom 33 = .ok (.aload_n 1, 1) := by decide +kernel
theorem dX0_copyFrom_34 : decode cX0_copyFrom 34 = .ok (.getfield 50, 3) := by decide +kernel
theorem dX0_copyFrom_37 : decode cX0_copyFrom 37 = .ok (.putfield 50, 3) := by decide +kernel
theorem dX0_copyFrom_40 : decode cX0_copyFrom 40 = .ok (.aload_n 0, 1) := by decide +kernel
theorem dX0_copyFrom_41 : decode cX0_copyFrom 41 = .ok (.aload_n 1, 1) := by decide +kernel
theorem dX0_copyFrom_42 : decode cX0_copyFrom 42 = .ok (.getfield 53, 3) := by decide +kernel
theorem dX0_copyFrom_45 : decode cX0_copyFrom 45 = .ok (.putfield 53, 3) := by decide +kernel
theorem dX0_copyFrom_48 : decode cX0_copyFrom 48 = .ok (.aload_n 0, 1) := by decide +kernel
theorem dX0_copyFrom_49 : decode cX0_copyFrom 49 = .ok (.aload_n 1, 1) := by decide +kernel
theorem dX0_copyFrom_50 : decode cX0_copyFrom 50 = .ok (.getfield 56, 3) := by decide +kernel
theorem dX0_copyFrom_53 : decode cX0_copyFrom 53 = .ok (.putfield 56, 3) := by decide +kernel
theorem dX0_copyFrom_56 : decode cX0_copyFrom 56 = .ok (.aload_n 0, 1) := by decide +kernel
theorem dX0_copyFrom_57 : decode cX0_copyFrom 57 = .ok (.aload_n 1, 1) := by decide +kernel
theorem dX0_copyFrom_58 : decode cX0_copyFrom 58 = .ok (.getfield 59, 3) := by decide +kernel
theorem dX0_copyFrom_61 : decode cX0_copyFrom 61 = .ok (.putfield 59, 3) := by decide +kernel
theorem dX0_copyFrom_64 : decode cX0_copyFrom 64 = .ok (.aload_n 1, 1) := by decide +kernel
theorem dX0_copyFrom_65 : decode cX0_copyFrom 65 = .ok (.getfield 9, 3) := by decide +kernel
theorem dX0_copyFrom_68 : decode cX0_copyFrom 68 = .ok (.iconst 0, 1) := by decide +kernel
theorem dX0_copyFrom_69 : decode cX0_copyFrom 69 = .ok (.aload_n 0, 1) := by decide +kernel
theorem dX0_copyFrom_70 : decode cX0_copyFrom 70 = .ok (.getfield 9, 3) := by decide +kernel
theorem dX0_copyFrom_73 : decode cX0_copyFrom 73 = .ok (.iconst 0, 1) := by decide +kernel
theorem dX0_copyFrom_74 : decode cX0_copyFrom 74 = .ok (.aload_n 0, 1) := by decide +kernel
theorem dX0_copyFrom_75 : decode cX0_copyFrom 75 = .ok (.getfield 9, 3) := by decide +kernel
theorem dX0_copyFrom_78 : decode cX0_copyFrom 78 = .ok (.arraylength, 1) := by decide +kernel
theorem dX0_copyFrom_79 : decode cX0_copyFrom 79 = .ok (.invokestatic 62, 3) := by decide +kernel
theorem dX0_copyFrom_82 : decode cX0_copyFrom 82 = .ok (.aload_n 1, 1) := by decide +kernel
theorem dX0_copyFrom_83 : decode cX0_copyFrom 83 = .ok (.getfield 15, 3) := by decide +kernel
theorem dX0_copyFrom_86 : decode cX0_copyFrom 86 = .ok (.iconst 0, 1) := by decide +kernel
theorem dX0_copyFrom_87 : decode cX0_copyFrom 87 = .ok (.aload_n 0, 1) := by decide +kernel
theorem dX0_copyFrom_88 : decode cX0_copyFrom 88 = .ok (.getfield 15, 3) := by decide +kernel
theorem dX0_copyFrom_91 : decode cX0_copyFrom 91 = .ok (.iconst 0, 1) := by decide +kernel
theorem dX0_copyFrom_92 : decode cX0_copyFrom 92 = .ok (.aload_n 0, 1) := by decide +kernel
theorem dX0_copyFrom_93 : decode cX0_copyFrom 93 = .ok (.getfield 15, 3) := by decide +kernel
theorem dX0_copyFrom_96 : decode cX0_copyFrom 96 = .ok (.arraylength, 1) := by decide +kernel
theorem dX0_copyFrom_97 : decode cX0_copyFrom 97 = .ok (.invokestatic 62, 3) := by decide +kernel
theorem dX0_copyFrom_100 : decode cX0_copyFrom 100 = .ok (.aload_n 1, 1) := by decide +kernel
theorem dX0_copyFrom_101 : decode cX0_copyFrom 101 = .ok (.getfield 18, 3) := by decide +kernel
theorem dX0_copyFrom_104 : decode cX0_copyFrom 104 = .ok (.iconst 0, 1) := by decide +kernel
theorem dX0_copyFrom_105 : decode cX0_copyFrom 105 = .ok (.aload_n 0, 1) := by decide +kernel
theorem dX0_copyFrom_106 : decode cX0_copyFrom 106 = .ok (.getfield 18, 3) := by decide +kernel
theorem dX0_copyFrom_109 : decode cX0_copyFrom 109 = .ok (.iconst 0, 1) := by decide +kernel
theorem dX0_copyFrom_110 : decode cX0_copyFrom 110 = .ok (.aload_n 0, 1) := by decide +kernel
theorem dX0_copyFrom_111 : decode cX0_copyFrom 111 = .ok (.getfield 18, 3) := by decide +kernel
theorem dX0_copyFrom_114 : decode cX0_copyFrom 114 = .ok (.arraylength, 1) := by decide +kernel
theorem dX0_copyFrom_115 : decode cX0_copyFrom 115 = .ok (.invokestatic 62, 3) := by decide +kernel
theorem dX0_copyFrom_118 : decode cX0_copyFrom 118 = .ok (.aload_n 1, 1) := by decide +kernel
theorem dX0_copyFrom_119 : decode cX0_copyFrom 119 = .ok (.getfield 21, 3) := by decide +kernel
theorem dX0_copyFrom_122 : decode cX0_copyFrom 122 = .ok (.iconst 0, 1) := by decide +kernel
theorem dX0_copyFrom_123 : decode cX0_copyFrom 123 = .ok (.aload_n 0, 1) := by decide +kernel
theorem dX0_copyFrom_124 : decode cX0_copyFrom 124 = .ok (.getfield 21, 3) := by decide +kernel
theorem dX0_copyFrom_127 : decode cX0_copyFrom 127 = .ok (.iconst 0, 1) := by decide +kernel
theorem dX0_copyFrom_128 : decode cX0_copyFrom 128 = .ok (.aload_n 0, 1) := by decide +kernel
theorem dX0_copyFrom_129 : decode cX0_copyFrom 129 = .ok (.getfield 21, 3) := by decide +kernel
theorem dX0_copyFrom_132 : decode cX0_copyFrom 132 = .ok (.arraylength, 1) := by decide +kernel
theorem dX0_copyFrom_133 : decode cX0_copyFrom 133 = .ok (.invokestatic 62, 3) := by decide +kernel
theorem dX0_copyFrom_136 : decode cX0_copyFrom 136 = .ok (.aload_n 1, 1) := by decide +kernel
theorem dX0_copyFrom_137 : decode cX0_copyFrom 137 = .ok (.getfield 24, 3) := by decide +kernel
theorem dX0_copyFrom_140 : decode cX0_copyFrom 140 = .ok (.iconst 0, 1) := by decide +kernel
theorem dX0_copyFrom_141 : decode cX0_copyFrom 141 = .ok (.aload_n 0, 1) := by decide +kernel
theorem dX0_copyFrom_142 : decode cX0_copyFrom 142 = .ok (.getfield 24, 3) := by decide +kernel
theorem dX0_copyFrom_145 : decode cX0_copyFrom 145 = .ok (.iconst 0, 1) := by decide +kernel
theorem dX0_copyFrom_146 : decode cX0_copyFrom 146 = .ok (.aload_n 0, 1) := by decide +kernel
theorem dX0_copyFrom_147 : decode cX0_copyFrom 147 = .ok (.getfield 24, 3) := by decide +kernel
theorem dX0_copyFrom_150 : decode cX0_copyFrom 150 = .ok (.arraylength, 1) := by decide +kernel
theorem dX0_copyFrom_151 : decode cX0_copyFrom 151 = .ok (.invokestatic 62, 3) := by decide +kernel
theorem dX0_copyFrom_154 : decode cX0_copyFrom 154 = .ok (.aload_n 1, 1) := by decide +kernel
theorem dX0_copyFrom_155 : decode cX0_copyFrom 155 = .ok (.getfield 27, 3) := by decide +kernel
theorem dX0_copyFrom_158 : decode cX0_copyFrom 158 = .ok (.iconst 0, 1) := by decide +kernel
theorem dX0_copyFrom_159 : decode cX0_copyFrom 159 = .ok (.aload_n 0, 1) := by decide +kernel
theorem dX0_copyFrom_160 : decode cX0_copyFrom 160 = .ok (.getfield 27, 3) := by decide +kernel
theorem dX0_copyFrom_163 : decode cX0_copyFrom 163 = .ok (.iconst 0, 1) := by decide +kernel
theorem dX0_copyFrom_164 : decode cX0_copyFrom 164 = .ok (.aload_n 0, 1) := by decide +kernel
theorem dX0_copyFrom_165 : decode cX0_copyFrom 165 = .ok (.getfield 27, 3) := by decide +kernel
theorem dX0_copyFrom_168 : decode cX0_copyFrom 168 = .ok (.arraylength, 1) := by decide +kernel
theorem dX0_copyFrom_169 : decode cX0_copyFrom 169 = .ok (.invokestatic 62, 3) := by decide +kernel
theorem dX0_copyFrom_172 : decode cX0_copyFrom 172 = .ok (.aload_n 1, 1) := by decide +kernel
theorem dX0_copyFrom_173 : decode cX0_copyFrom 173 = .ok (.getfield 31, 3) := by decide +kernel
theorem dX0_copyFrom_176 : decode cX0_copyFrom 176 = .ok (.iconst 0, 1) := by decide +kernel
theorem dX0_copyFrom_177 : decode cX0_copyFrom 177 = .ok (.aload_n 0, 1) := by decide +kernel
theorem dX0_copyFrom_178 : decode cX0_copyFrom 178 = .ok (.getfield 31, 3) := by decide +kernel
theorem dX0_copyFrom_181 : decode cX0_copyFrom 181 = .ok (.iconst 0, 1) := by decide +kernel
theorem dX0_copyFrom_182 : decode cX0_copyFrom 182 = .ok (.aload_n 0, 1) := by decide +kernel
theorem dX0_copyFrom_183 : decode cX0_copyFrom 183 = .ok (.getfield 31, 3) := by decide +kernel
theorem dX0_copyFrom_186 : decode cX0_copyFrom 186 = .ok (.arraylength, 1) := by decide +kernel
theorem dX0_copyFrom_187 : decode cX0_copyFrom 187 = .ok (.invokestatic 62, 3) := by decide +kernel
theorem dX0_copyFrom_190 : decode cX0_copyFrom 190 = .ok (.return_, 1) := by decide +kernel
theorem eX0_copyFrom {c c2 : Nat} {W : zWd}  {Q : Option Value → zWd → Prop} {X : zX} (hc : zCt c) (hc2 : zCt c2) (hn : c ≠ c2) (hB : ∀ i : Int, 0 ≤ i → i < 48 → -128 ≤ W (c2 + 6) i ∧ W (c2 + 6) i < 128) (hq : ∀ W' : zWd, zOff c W W' → (∀ a : Int → Int, a 2 ≤ 6 → zCR W c2 a → zCR W' c a) → Q none W') : Ev MX0_copyFrom 1 0 W [.ref c, .ref c2] Q X := by
  refine ev_of (ls := [.ref c, .ref c2]) (by decide) rfl (fun _ => rfl) (fun _ => Nat.le_of_ble_eq_true rfl) (Or.inl rfl) ?_
  have hd := hc.ne hc2 hn
  refine rr_aload_n (pc := 0) dX0_copyFrom_0 rfl ?_
  refine rr_aload_n (pc := 1) dX0_copyFrom_1 rfl ?_
  refine rr_getI (pc := 2) (ji := 0) dX0_copyFrom_2 fX0_37 hc2.k hc2.i0 rfl ?_
  refine rr_put (pc := 5) (ji := 0) dX0_copyFrom_5 fX0_37 fp_0_0 hc.k hc.i0 rfl ?_
  refine rr_aload_n (pc := 8) dX0_copyFrom_8 rfl ?_
  refine rr_aload_n (pc := 9) dX0_copyFrom_9 rfl ?_
  refine rr_getI (pc := 10) (ji := 1) dX0_copyFrom_10 fX0_41 hc2.k hc2.i1 rfl ?_
  refine rr_put (pc := 13) (ji := 1) dX0_copyFrom_13 fX0_41 fp_0_1 hc.k hc.i1 rfl ?_
  refine rr_aload_n (pc := 16) dX0_copyFrom_16 rfl ?_
  refine rr_aload_n (pc := 17) dX0_copyFrom_17 rfl ?_
  refine rr_getI (pc := 18) (ji := 2) dX0_copyFrom_18 fX0_44 hc2.k hc2.i2 rfl ?_
  refine rr_put (pc := 21) (ji := 2) dX0_copyFrom_21 fX0_44 fp_0_2 hc.k hc.i2 rfl ?_
  refine rr_aload_n (pc := 24) dX0_copyFrom_24 rfl ?_
  refine rr_aload_n (pc := 25) dX0_copyFrom_25 rfl ?_
  refine rr_getI (pc := 26) (ji := 3) dX0_copyFrom_26 fX0_47 hc2.k hc2.i3 rfl ?_
  refine rr_put (pc := 29) (ji := 3) dX0_copyFrom_29 fX0_47 fp_0_3 hc.k hc.i3 rfl ?_
  refine rr_aload_n (pc := 32) dX0_copyFrom_32 rfl ?_
  refine rr_aload_n (pc := 33) dX0_copyFrom_33 rfl ?_
  refine rr_getI (pc := 34) (ji := 4) dX0_copyFrom_34 fX0_50 hc2.k hc2.i4 rfl ?_
  refine rr_put (pc := 37) (ji := 4) dX0_copyFrom_37 fX0_50 fp_0_4 hc.k hc.i4 rfl ?_
  refine rr_aload_n (pc := 40) dX0_copyFrom_40 rfl ?_
  refine rr_aload_n (pc := 41) dX0_copyFrom_41 rfl ?_
  refine rr_getI (pc := 42) (ji := 5) dX0_copyFrom_42 fX0_53 hc2.k hc2.i5 rfl ?_
  refine rr_put (pc := 45) (ji := 5) dX0_copyFrom_45 fX0_53 fp_0_5 hc.k hc.i5 rfl ?_
  refine rr_aload_n (pc := 48) dX0_copyFrom_48 rfl ?_
  refine rr_aload_n (pc := 49) dX0_copyFrom_49 rfl ?_
  refine rr_getI (pc := 50) (ji := 6) dX0_copyFrom_50 fX0_56 hc2.k hc2.i6 rfl ?_
  refine rr_put (pc := 53) (ji := 6) dX0_copyFrom_53 fX0_56 fp_0_6 hc.k hc.i6 rfl ?_
  refine rr_aload_n (pc := 56) dX0_copyFrom_56 rfl ?_
  refine rr_aload_n (pc := 57) dX0_copyFrom_57 rfl ?_
  refine rr_getI (pc := 58) (ji := 7) dX0_copyFrom_58 fX0_59 hc2.k hc2.i7 rfl ?_
  refine rr_put (pc := 61) (ji := 7) dX0_copyFrom_61 fX0_59 fp_0_7 hc.k hc.i7 rfl ?_
  refine rr_aload_n (pc := 64) dX0_copyFrom_64 rfl ?_
  refine rr_getR (pc := 65) dX0_copyFrom_65 fX0_9 hc2.k hc2.r8 ?_
  refine rr_iconst (n := 0) dX0_copyFrom_68 ?_
  refine rr_aload_n (pc := 69) dX0_copyFrom_69 rfl ?_
  refine rr_getR (pc := 70) dX0_copyFrom_70 fX0_9 hc.k hc.r8 ?_
  refine rr_iconst (n := 0) dX0_copyFrom_73 ?_
  refine rr_aload_n (pc := 74) dX0_copyFrom_74 rfl ?_
  refine rr_getR (pc := 75) dX0_copyFrom_75 fX0_9 hc.k hc.r8 ?_
  refine rr_alen (pc := 78) (ni := 11) dX0_copyFrom_78 hc.a1 (by decide) rfl ?_
  refine rr_copyI (pc := 79) dX0_copyFrom_79 lX0_62 z_ac hc2.a1 hc.a1 (by decide) (Nat.le_of_ble_eq_true rfl) rfl ?_
  refine rr_aload_n (pc := 82) dX0_copyFrom_82 rfl ?_
  refine rr_getR (pc := 83) dX0_copyFrom_83 fX0_15 hc2.k hc2.r9 ?_
  refine rr_iconst (n := 0) dX0_copyFrom_86 ?_
  refine rr_aload_n (pc := 87) dX0_copyFrom_87 rfl ?_
  refine rr_getR (pc := 88) dX0_copyFrom_88 fX0_15 hc.k hc.r9 ?_
  refine rr_iconst (n := 0) dX0_copyFrom_91 ?_
  refine rr_aload_n (pc := 92) dX0_copyFrom_92 rfl ?_
  refine rr_getR (pc := 93) dX0_copyFrom_93 fX0_15 hc.k hc.r9 ?_
  refine rr_alen (pc := 96) (ni := 21) dX0_copyFrom_96 hc.a2 (by decide) rfl ?_
  refine rr_copyI (pc := 97) dX0_copyFrom_97 lX0_62 z_ac hc2.a2 hc.a2 (by decide) (Nat.le_of_ble_eq_true rfl) rfl ?_
  refine rr_aload_n (pc := 100) dX0_copyFrom_100 rfl ?_
  refine rr_getR (pc := 101) dX0_copyFrom_101 fX0_18 hc2.k hc2.r10 ?_
  refine rr_iconst (n := 0) dX0_copyFrom_104 ?_
  refine rr_aload_n (pc := 105) dX0_copyFrom_105 rfl ?_
  refine rr_getR (pc := 106) dX0_copyFrom_106 fX0_18 hc.k hc.r10 ?_
  refine rr_iconst (n := 0) dX0_copyFrom_109 ?_
  refine rr_aload_n (pc := 110) dX0_copyFrom_110 rfl ?_
  refine rr_getR (pc := 111) dX0_copyFrom_111 fX0_18 hc.k hc.r10 ?_
  refine rr_alen (pc := 114) (ni := 21) dX0_copyFrom_114 hc.a3 (by decide) rfl ?_
  refine rr_copyI (pc := 115) dX0_copyFrom_115 lX0_62 z_ac hc2.a3 hc.a3 (by decide) (Nat.le_of_ble_eq_true rfl) rfl ?_
  refine rr_aload_n (pc := 118) dX0_copyFrom_118 rfl ?_
  refine rr_getR (pc := 119) dX0_copyFrom_119 fX0_21 hc2.k hc2.r11 ?_
  refine rr_iconst (n := 0) dX0_copyFrom_122 ?_
  refine rr_aload_n (pc := 123) dX0_copyFrom_123 rfl ?_
  refine rr_getR (pc := 124) dX0_copyFrom_124 fX0_21 hc.k hc.r11 ?_
  refine rr_iconst (n := 0) dX0_copyFrom_127 ?_
  refine rr_aload_n (pc := 128) dX0_copyFrom_128 rfl ?_
  refine rr_getR (pc := 129) dX0_copyFrom_129 fX0_21 hc.k hc.r11 ?_
  refine rr_alen (pc := 132) (ni := 21) dX0_copyFrom_132 hc.a4 (by decide) rfl ?_
  refine rr_copyI (pc := 133) dX0_copyFrom_133 lX0_62 z_ac hc2.a4 hc.a4 (by decide) (Nat.le_of_ble_eq_true rfl) rfl ?_
  refine rr_aload_n (pc := 136) dX0_copyFrom_136 rfl ?_
  refine rr_getR (pc := 137) dX0_copyFrom_137 fX0_24 hc2.k hc2.r12 ?_
  refine rr_iconst (n := 0) dX0_copyFrom_140 ?_
  refine rr_aload_n (pc := 141) dX0_copyFrom_141 rfl ?_
  refine rr_getR (pc := 142) dX0_copyFrom_142 fX0_24 hc.k hc.r12 ?_
  refine rr_iconst (n := 0) dX0_copyFrom_145 ?_
  refine rr_aload_n (pc := 146) dX0_copyFrom_146 rfl ?_
  refine rr_getR (pc := 147) dX0_copyFrom_147 fX0_24 hc.k hc.r12 ?_
  refine rr_alen (pc := 150) (ni := 60) dX0_copyFrom_150 hc.a5 (by decide) rfl ?_
  refine rr_copyI (pc := 151) dX0_copyFrom_151 lX0_62 z_ac hc2.a5 hc.a5 (by decide) (Nat.le_of_ble_eq_true rfl) rfl ?_
  refine rr_aload_n (pc := 154) dX0_copyFrom_154 rfl ?_
  refine rr_getR (pc := 155) dX0_copyFrom_155 fX0_27 hc2.k hc2.r13 ?_
  refine rr_iconst (n := 0) dX0_copyFrom_158 ?_
  refine rr_aload_n (pc := 159) dX0_copyFrom_159 rfl ?_
  refine rr_getR (pc := 160) dX0_copyFrom_160 fX0_27 hc.k hc.r13 ?_
  refine rr_iconst (n := 0) dX0_copyFrom_163 ?_
  refine rr_aload_n (pc := 164) dX0_copyFrom_164 rfl ?_
  refine rr_getR (pc := 165) dX0_copyFrom_165 fX0_27 hc.k hc.r13 ?_
  refine rr_alen (pc := 168) (ni := 48) dX0_copyFrom_168 hc.a6 (by decide) rfl ?_
  refine rr_copyB (pc := 169) dX0_copyFrom_169 lX0_62 z_ac hc2.a6 hc.a6 (fun i h0 h1 => by simp (disch := omega) only [zcpy_k, zcpy_in, zup_k, zup_i, zup_s]; exact hB i h0 h1) (by decide) (Nat.le_of_ble_eq_true rfl) rfl ?_
  refine rr_aload_n (pc := 172) dX0_copyFrom_172 rfl ?_
  refine rr_getR (pc := 173) dX0_copyFrom_173 fX0_31 hc2.k hc2.r14 ?_
  refine rr_iconst (n := 0) dX0_copyFrom_176 ?_
  refine rr_aload_n (pc := 177) dX0_copyFrom_177 rfl ?_
  refine rr_getR (pc := 178) dX0_copyFrom_178 fX0_31 hc.k hc.r14 ?_
  refine rr_iconst (n := 0) dX0_copyFrom_181 ?_
  refine rr_aload_n (pc := 182) dX0_copyFrom_182 rfl ?_
  refine rr_getR (pc := 183) dX0_copyFrom_183 fX0_31 hc.k hc.r14 ?_
  refine rr_alen (pc := 186) (ni := 6) dX0_copyFrom_186 hc.a7 (by decide) rfl ?_
  refine rr_copyI (pc := 187) dX0_copyFrom_187 lX0_62 z_ac hc2.a7 hc.a7 (by decide) (Nat.le_of_ble_eq_true rfl) rfl ?_
  exact rr_retv (pc := 190) dX0_copyFrom_190 rfl rfl (hq _ (fun k hk => by funext i; simp (disch := omega) only [zcpy_k, zcpy_in, zup_k, zup_i, zup_s]) (fun a ha2 hRa => CR_cp hRa ha2 (fun j h0 h1 => by rcases (show j = 0 ∨ j = 1 ∨ j = 2 ∨ j = 3 ∨ j = 4 ∨ j = 5 ∨ j = 6 ∨ j = 7 by omega) with rfl | rfl | rfl | rfl | rfl | rfl | rfl | rfl <;> simp (disch := omega) only [zcpy_k, zcpy_in, zup_k, zup_i, zup_s]) (fun j h0 h1 => by simp (disch := omega) only [zcpy_k, zcpy_in, zup_k, zup_i, zup_s]) (fun j h0 h1 => by simp (disch := omega) only [zcpy_k, zcpy_in, zup_k, zup_i, zup_s]) (fun j h0 h1 => by simp (disch := omega) only [zcpy_k, zcpy_in, zup_k, zup_i, zup_s]) (fun j h0 h1 => by simp (disch := omega) only [zcpy_k, zcpy_in, zup_k, zup_i, zup_s]) (fun j h0 h1 => by simp (disch := omega) only [zcpy_k, zcpy_in, zup_k, zup_i, zup_s]) (fun j h0 h1 => by simp (disch := omega) only [zcpy_k, zcpy_in, zup_k, zup_i, zup_s]) (fun j h0 h1 => by simp (disch := omega) only [zcpy_k, zcpy_in, zup_k, zup_i, zup_s])))
end
section
/-! WAYS: places 0 .. L, F: the footing of each (2 on ground), at most rc rows a hop, at most bal shaky landings without a rest, must: a place that may not be hopped over -/
def zRn (F : Nat → Int) (to run : Nat) : Nat := if F to = 2 then 0 else run + 1
abbrev zOk (F : Nat → Int) (L must bal k to run : Nat) : Prop := to ≤ L ∧ ¬ (k < must ∧ must < to) ∧ 0 < F to ∧ zRn F to run ≤ bal
def zBy (F : Nat → Int) (L must bal : Nat) (V : Nat → Nat → Int) (k run to : Nat) : Int := if zOk F L must bal k to run then ((to : Int) - k) * ((to : Int) - k) + V to (zRn F to run) else 1000000
def zMn (f : Nat → Int) : Nat → Int
  | 0 => 1000000
  | j + 1 => if f (j + 1) < zMn f j then f (j + 1) else zMn f j
def zAg (f : Nat → Int) : Nat → Nat
  | 0 => 0
  | j + 1 => if f (j + 1) < zMn f j then j + 1 else zAg f j
def zVf (F : Nat → Int) (L must rc bal : Nat) : Nat → Nat → Nat → Int
  | 0, _, _ => 1000000
  | n + 1, k, run => if k = L then 0 else zMn (fun j => zBy F L must bal (zVf F L must rc bal n) k run (k + j)) rc
def zV (F : Nat → Int) (L must rc bal : Nat) (k run : Nat) : Int := zVf F L must rc bal (L + 1 - k) k run
theorem zMn_le (f : Nat → Int) : ∀ n, zMn f n ≤ 1000000 := by
  intro n
  induction n with
  | zero => exact Int.le_refl _
  | succ n ih => unfold zMn; split <;> omega
theorem zMn_low (f : Nat → Int) : ∀ n j, 1 ≤ j → j ≤ n → zMn f n ≤ f j := by
  intro n
  induction n with
  | zero => intro j h1 h2; omega
  | succ n ih =>
    intro j h1 h2
    unfold zMn
    by_cases q : j = n + 1
    · subst q; split <;> omega
    · have := ih j h1 (by omega)
      split <;> omega
theorem zMn_cg {f g : Nat → Int} : ∀ n, (∀ j, 1 ≤ j → j ≤ n → f j = g j) → zMn f n = zMn g n ∧ zAg f n = zAg g n := by
  intro n
  induction n with
  | zero => intro _; exact ⟨rfl, rfl⟩
  | succ n ih =>
    intro h
    obtain ⟨h1, h2⟩ := ih (fun j g1 g2 => h j g1 (by omega))
    have h3 := h (n + 1) (by omega) (by omega)
    unfold zMn zAg
    rw [h1, h2, h3]
    exact ⟨rfl, rfl⟩
/-- the first that attains the least -/
theorem zAg_spec (f : Nat → Int) : ∀ n, zMn f n < 1000000 → 1 ≤ zAg f n ∧ zAg f n ≤ n ∧ f (zAg f n) = zMn f n ∧ ∀ j, 1 ≤ j → j < zAg f n → f j ≠ zMn f n := by
  intro n
  induction n with
  | zero => intro h; exact absurd h (by show ¬ (1000000 : Int) < 1000000; omega)
  | succ n ih =>
    intro h
    unfold zMn at h
    unfold zMn zAg
    by_cases q : f (n + 1) < zMn f n
    · rw [if_pos q, if_pos q]
      refine ⟨by omega, by omega, rfl, fun j h1 h2 => ?_⟩
      have := zMn_low f n j h1 (by omega)
      omega
    · rw [if_neg q] at h
      rw [if_neg q, if_neg q]
      obtain ⟨g1, g2, g3, g4⟩ := ih h
      exact ⟨g1, by omega, g3, g4⟩
theorem zSq {a b : Int} (h1 : 1 ≤ b) (h2 : b ≤ 4) (h : a = b) : 1 ≤ a * a ∧ a * a ≤ 16 := by
  subst h
  rcases (show a = 1 ∨ a = 2 ∨ a = 3 ∨ a = 4 by omega) with rfl | rfl | rfl | rfl <;> decide
section WY
variable {F : Nat → Int} {L must rc bal : Nat}
theorem zMn_nn {f : Nat → Int} : ∀ n, (∀ j, 1 ≤ j → j ≤ n → 0 ≤ f j) → 0 ≤ zMn f n := by
  intro n
  induction n with
  | zero => intro _; show (0 : Int) ≤ 1000000; omega
  | succ n ih =>
    intro h
    have h1 := ih (fun j g1 g2 => h j g1 (by omega))
    have h2 := h (n + 1) (by omega) (by omega)
    unfold zMn; split <;> omega
theorem zBy_nn {V : Nat → Nat → Int} {k run to : Nat} (hV : ∀ k run, 0 ≤ V k run) : 0 ≤ zBy F L must bal V k run to := by
  unfold zBy
  split
  · have h1 := hV to (zRn F to run)
    have h2 : 0 ≤ ((to : Int) - k) * ((to : Int) - k) := by
      rcases Int.le_total 0 ((to : Int) - k) with q | q
      · exact Int.mul_nonneg q q
      · exact Int.mul_nonneg_of_nonpos_of_nonpos q q
    omega
  · omega
theorem zVf_rng : ∀ n k run, 0 ≤ zVf F L must rc bal n k run ∧ zVf F L must rc bal n k run ≤ 1000000 := by
  intro n
  induction n with
  | zero => intro k run; exact ⟨by show (0 : Int) ≤ 1000000; omega, Int.le_refl _⟩
  | succ n ih =>
    intro k run
    unfold zVf
    split
    · omega
    · exact ⟨zMn_nn rc (fun j _ _ => zBy_nn (fun k run => (ih k run).1)), zMn_le _ _⟩
theorem zV_rng (k run : Nat) : 0 ≤ zV F L must rc bal k run ∧ zV F L must rc bal k run ≤ 1000000 := zVf_rng _ k run
theorem zVf_fuel : ∀ n m k run, k ≤ L → L - k < n → L - k < m → zVf F L must rc bal n k run = zVf F L must rc bal m k run := by
  intro n
  induction n with
  | zero => intro m k run _ h _; omega
  | succ n ih =>
    intro m k run hk h1 h2
    cases m with
    | zero => omega
    | succ m =>
      unfold zVf
      by_cases q : k = L
      · rw [if_pos q, if_pos q]
      · rw [if_neg q, if_neg q]
        refine (zMn_cg rc (fun j g1 g2 => ?_)).1
        unfold zBy
        by_cases z : zOk F L must bal k (k + j) run
        · rw [if_pos z, if_pos z, ih m (k + j) _ z.1 (by omega) (by omega)]
        · rw [if_neg z, if_neg z]
theorem zV_goal (run : Nat) : zV F L must rc bal L run = 0 := by
  unfold zV
  rw [show L + 1 - L = 0 + 1 by omega]
  unfold zVf
  rw [if_pos rfl]
theorem zV_eq {k : Nat} (hk : k < L) (run : Nat) : zV F L must rc bal k run = zMn (fun j => zBy F L must bal (zV F L must rc bal) k run (k + j)) rc := by
  unfold zV
  rw [show L + 1 - k = (L - k) + 1 by omega]
  rw [zVf, if_neg (by omega)]
  refine (zMn_cg rc (fun j g1 g2 => ?_)).1
  unfold zBy
  by_cases z : zOk F L must bal k (k + j) run
  · rw [if_pos z, if_pos z, zVf_fuel (L - k) (L + 1 - (k + j)) (k + j) _ z.1 (by omega) (by omega)]
  · rw [if_neg z, if_neg z]
/-- the next place -/
def zNx (F : Nat → Int) (L must rc bal : Nat) (k run : Nat) : Nat := k + zAg (fun j => zBy F L must bal (zV F L must rc bal) k run (k + j)) rc
def zHp (F : Nat → Int) (L must rc bal : Nat) : Nat → Nat → Nat → List Nat
  | 0, _, _ => []
  | n + 1, k, run => if k = L then [] else zNx F L must rc bal k run :: zHp F L must rc bal n (zNx F L must rc bal k run) (zRn F (zNx F L must rc bal k run) run)
/-- the way: the places of its landings; none where there is no way -/
def zWl (F : Nat → Int) (L must rc bal : Nat) : List Nat := if zV F L must rc bal 0 0 < 1000000 then zHp F L must rc bal (L + 1) 0 0 else []
def zWc (F : Nat → Int) (L must rc bal : Nat) : Int := if zV F L must rc bal 0 0 < 1000000 then zV F L must rc bal 0 0 else -1
theorem zNx_spec {k run : Nat} (hk : k < L) (hV : zV F L must rc bal k run < 1000000) :
    k < zNx F L must rc bal k run ∧ zNx F L must rc bal k run ≤ k + rc ∧ zOk F L must bal k (zNx F L must rc bal k run) run ∧ zV F L must rc bal (zNx F L must rc bal k run) (zRn F (zNx F L must rc bal k run) run) < 1000000 ∧
    zBy F L must bal (zV F L must rc bal) k run (zNx F L must rc bal k run) = zV F L must rc bal k run ∧ ∀ to, k < to → to < zNx F L must rc bal k run → zBy F L must bal (zV F L must rc bal) k run to ≠ zV F L must rc bal k run := by
  have e := zV_eq (F := F) (L := L) (must := must) (rc := rc) (bal := bal) hk run
  rw [e] at hV
  obtain ⟨g1, g2, g3, g4⟩ := zAg_spec _ _ hV
  rw [← e] at g3 g4 hV
  have hd : zNx F L must rc bal k run = k + zAg (fun j => zBy F L must bal (zV F L must rc bal) k run (k + j)) rc := rfl
  rw [← hd] at g3
  have hok : zOk F L must bal k (zNx F L must rc bal k run) run := by
    by_cases z : zOk F L must bal k (zNx F L must rc bal k run) run
    · exact z
    · rw [zBy, if_neg z] at g3; omega
  refine ⟨by omega, by omega, hok, ?_, g3, fun to h1 h2 => ?_⟩
  · rw [zBy, if_pos hok] at g3
    have h2 : 0 ≤ (((zNx F L must rc bal k run : Nat) : Int) - k) * (((zNx F L must rc bal k run : Nat) : Int) - k) := Int.mul_nonneg (by omega) (by omega)
    omega
  · have := g4 (to - k) (by omega) (by omega)
    rw [show k + (to - k) = to by omega] at this
    exact this
end WY
end
section
def zWS (W : zWd) (w : Nat) (F : Nat → Int) (L must rc bal : Nat) : Prop :=
  W w 4 = L ∧ W w 5 = must ∧ W w 6 = rc ∧ W w 7 = bal ∧ (∀ k : Nat, k ≤ L → W (w + 2) k = F k) ∧ F 0 = 2 ∧ F L = 2 ∧ (∀ k, k ≤ L → 0 ≤ F k ∧ F k ≤ 2) ∧ 3 ≤ L ∧ L ≤ 11 ∧ must ≤ L ∧ 1 ≤ rc ∧ rc ≤ 4 ∧ 1 ≤ bal ∧ bal ≤ 9
theorem zWS.off {W W' : zWd} {w : Nat} {F : Nat → Int} {L must rc bal : Nat} (h : zWS W w F L must rc bal) (e0 : W' w = W w) (e2 : W' (w + 2) = W (w + 2)) : zWS W' w F L must rc bal := by
  unfold zWS at *; rw [e0, e2]; exact h
def zRa (bk : Int) (L k : Int) : Int := if bk = 0 then k - 1 else L - 1 - k
def zRc (F : Nat → Int) (bal k s : Nat) : Prop := (F k = 2 ∧ s = 0) ∨ (F k = 1 ∧ 1 ≤ s ∧ s ≤ bal ∧ s ≤ k)
/-- beyond the last place nothing comes -/
theorem zMn_cut {f : Nat → Int} {m : Nat} : ∀ n, m ≤ n → (∀ j, m < j → j ≤ n → f j = 1000000) → zMn f n = zMn f m ∧ zAg f n = zAg f m := by
  intro n
  induction n with
  | zero => intro h _; rw [show m = 0 by omega]; exact ⟨rfl, rfl⟩
  | succ n ih =>
    intro h hf
    by_cases q : m = n + 1
    · subst q; exact ⟨rfl, rfl⟩
    · obtain ⟨h1, h2⟩ := ih (by omega) (fun j g1 g2 => hf j g1 (by omega))
      have h3 := hf (n + 1) (by omega) (by omega)
      have h4 := zMn_le f n
      show (if f (n + 1) < zMn f n then f (n + 1) else zMn f n) = zMn f m ∧ (if f (n + 1) < zMn f n then n + 1 else zAg f n) = zAg f m
      rw [if_neg (by omega), if_neg (by omega)]
      exact ⟨h1, h2⟩
theorem dX4_rowAt_0 : decode cX4_rowAt 0 = .ok (.aload_n 0, 1) := by decide +kernel
theorem dX4_rowAt_1 : decode cX4_rowAt 1 = .ok (.getfield 24, 3) := by decide +kernel
theorem dX4_rowAt_4 : decode cX4_rowAt 4 = .ok (.ifCond .eq 14, 3) := by decide +kernel
theorem dX4_rowAt_7 : decode cX4_rowAt 7 = .ok (.aload_n 0, 1) := by decide +kernel
theorem dX4_rowAt_8 : decode cX4_rowAt 8 = .ok (.getfield 52, 3) := by decide +kernel
theorem dX4_rowAt_11 : decode cX4_rowAt 11 = .ok (.iconst 1, 1) := by decide +kernel
theorem dX4_rowAt_12 : decode cX4_rowAt 12 = .ok (.isub, 1) := by decide +kernel
theorem dX4_rowAt_13 : decode cX4_rowAt 13 = .ok (.iload_n 1, 1) := by decide +kernel
theorem dX4_rowAt_14 : decode cX4_rowAt 14 = .ok (.isub, 1) := by decide +kernel
theorem dX4_rowAt_15 : decode cX4_rowAt 15 = .ok (.goto 6, 3) := by decide +kernel
theorem dX4_rowAt_18 : decode cX4_rowAt 18 = .ok (.iload_n 1, 1) := by decide +kernel
theorem dX4_rowAt_19 : decode cX4_rowAt 19 = .ok (.iconst 1, 1) := by decide +kernel
theorem dX4_rowAt_20 : decode cX4_rowAt 20 = .ok (.isub, 1) := by decide +kernel
theorem dX4_rowAt_21 : decode cX4_rowAt 21 = .ok (.ireturn, 1) := by decide +kernel
theorem eX4_rowAt {w : Nat} {W : zWd} {k : Int} {Q : Option Value → zWd → Prop} {X : zX} (hw : zWy w) (hb : zR (W w 0)) (hq : Q (some (zI (zRa (W w 0) (W w 4) k))) W) : Ev MX4_rowAt 0 0 W [.ref w, zI k] Q X := by
  refine ev_of (ls := [.ref w, zI k]) (by decide) rfl (fun _ => rfl) (fun _ => Nat.le_of_ble_eq_true rfl) (Or.inl rfl) ?_
  refine rr_aload_n (pc := 0) dX4_rowAt_0 rfl ?_
  refine rr_getI (pc := 1) (ji := 0) dX4_rowAt_1 fX4_24 hw.k hw.i0 rfl ?_
  refine rr_if_eq (pc := 4) (tgt := 18) dX4_rowAt_4 (by decide) hb (fun h4 => ?_) (fun h4 => ?_)
  · refine rr_iload_n (pc := 18) dX4_rowAt_18 rfl ?_
    refine rr_iconst (n := 1) dX4_rowAt_19 ?_
    refine rr_isub (pc := 20) dX4_rowAt_20 ?_
    exact rr_reti (pc := 21) dX4_rowAt_21 rfl rfl (by unfold zRa; rw [if_pos h4]) rfl (hq)
  · refine rr_aload_n (pc := 7) dX4_rowAt_7 rfl ?_
    refine rr_getI (pc := 8) (ji := 4) dX4_rowAt_8 fX4_52 hw.k hw.i4 rfl ?_
    refine rr_iconst (n := 1) dX4_rowAt_11 ?_
    refine rr_isub (pc := 12) dX4_rowAt_12 ?_
    refine rr_iload_n (pc := 13) dX4_rowAt_13 rfl ?_
    refine rr_isub (pc := 14) dX4_rowAt_14 ?_
    refine rr_goto (pc := 15) (tgt := 21) dX4_rowAt_15 (by decide) ?_
    exact rr_reti (pc := 21) dX4_rowAt_21 rfl rfl (by unfold zRa; rw [if_neg h4]) rfl (hq)
theorem dX4_reckonFrom_0 : decode cX4_reckonFrom 0 = .ok (.iload_n 1, 1) := by decide +kernel
theorem dX4_reckonFrom_1 : decode cX4_reckonFrom 1 = .ok (.bipush 10, 2) := by decide +kernel
theorem dX4_reckonFrom_3 : decode cX4_reckonFrom 3 = .ok (.imul, 1) := by decide +kernel
theorem dX4_reckonFrom_4 : decode cX4_reckonFrom 4 = .ok (.iload_n 2, 1) := by decide +kernel
theorem dX4_reckonFrom_5 : decode cX4_reckonFrom 5 = .ok (.iadd, 1) := by decide +kernel
theorem dX4_reckonFrom_6 : decode cX4_reckonFrom 6 = .ok (.istore_n 3, 1) := by decide +kernel
theorem dX4_reckonFrom_7 : decode cX4_reckonFrom 7 = .ok (.aload_n 0, 1) := by decide +kernel
theorem dX4_reckonFrom_8 : decode cX4_reckonFrom 8 = .ok (.getfield 18, 3) := by decide +kernel
theorem dX4_reckonFrom_11 : decode cX4_reckonFrom 11 = .ok (.iload_n 3, 1) := by decide +kernel
theorem dX4_reckonFrom_12 : decode cX4_reckonFrom 12 = .ok (.ldc 68, 2) := by decide +kernel
theorem dX4_reckonFrom_14 : decode cX4_reckonFrom 14 = .ok (.iastore, 1) := by decide +kernel
theorem dX4_reckonFrom_15 : decode cX4_reckonFrom 15 = .ok (.iload_n 1, 1) := by decide +kernel
theorem dX4_reckonFrom_16 : decode cX4_reckonFrom 16 = .ok (.aload_n 0, 1) := by decide +kernel
theorem dX4_reckonFrom_17 : decode cX4_reckonFrom 17 = .ok (.getfield 40, 3) := by decide +kernel
theorem dX4_reckonFrom_20 : decode cX4_reckonFrom 20 = .ok (.iadd, 1) := by decide +kernel
theorem dX4_reckonFrom_21 : decode cX4_reckonFrom 21 = .ok (.iload_n 1, 1) := by decide +kernel
theorem dX4_reckonFrom_22 : decode cX4_reckonFrom 22 = .ok (.aload_n 0, 1) := by decide +kernel
theorem dX4_reckonFrom_23 : decode cX4_reckonFrom 23 = .ok (.getfield 58, 3) := by decide +kernel
theorem dX4_reckonFrom_26 : decode cX4_reckonFrom 26 = .ok (.if_icmp .ge 10, 3) := by decide +kernel
theorem dX4_reckonFrom_29 : decode cX4_reckonFrom 29 = .ok (.aload_n 0, 1) := by decide +kernel
theorem dX4_reckonFrom_30 : decode cX4_reckonFrom 30 = .ok (.getfield 58, 3) := by decide +kernel
theorem dX4_reckonFrom_33 : decode cX4_reckonFrom 33 = .ok (.goto 7, 3) := by decide +kernel
theorem dX4_reckonFrom_36 : decode cX4_reckonFrom 36 = .ok (.aload_n 0, 1) := by decide +kernel
theorem dX4_reckonFrom_37 : decode cX4_reckonFrom 37 = .ok (.getfield 52, 3) := by decide +kernel
theorem dX4_reckonFrom_40 : decode cX4_reckonFrom 40 = .ok (.invokestatic 93, 3) := by decide +kernel
theorem dX4_reckonFrom_43 : decode cX4_reckonFrom 43 = .ok (.istore 4, 2) := by decide +kernel
theorem dX4_reckonFrom_45 : decode cX4_reckonFrom 45 = .ok (.iload_n 1, 1) := by decide +kernel
theorem dX4_reckonFrom_46 : decode cX4_reckonFrom 46 = .ok (.iconst 1, 1) := by decide +kernel
theorem dX4_reckonFrom_47 : decode cX4_reckonFrom 47 = .ok (.iadd, 1) := by decide +kernel
theorem dX4_reckonFrom_48 : decode cX4_reckonFrom 48 = .ok (.istore 5, 2) := by decide +kernel
theorem dX4_reckonFrom_50 : decode cX4_reckonFrom 50 = .ok (.iload 5, 2) := by decide +kernel
theorem dX4_reckonFrom_52 : decode cX4_reckonFrom 52 = .ok (.iload 4, 2) := by decide +kernel
theorem dX4_reckonFrom_54 : decode cX4_reckonFrom 54 = .ok (.if_icmp .gt 102, 3) := by decide +kernel
theorem dX4_reckonFrom_57 : decode cX4_reckonFrom 57 = .ok (.aload_n 0, 1) := by decide +kernel
theorem dX4_reckonFrom_58 : decode cX4_reckonFrom 58 = .ok (.getfield 15, 3) := by decide +kernel
theorem dX4_reckonFrom_61 : decode cX4_reckonFrom 61 = .ok (.iload 5, 2) := by decide +kernel
theorem dX4_reckonFrom_63 : decode cX4_reckonFrom 63 = .ok (.iaload, 1) := by decide +kernel
theorem dX4_reckonFrom_64 : decode cX4_reckonFrom 64 = .ok (.iconst 2, 1) := by decide +kernel
theorem dX4_reckonFrom_65 : decode cX4_reckonFrom 65 = .ok (.if_icmp .ne 7, 3) := by decide +kernel
theorem dX4_reckonFrom_68 : decode cX4_reckonFrom 68 = .ok (.iconst 0, 1) := by decide +kernel
theorem dX4_reckonFrom_69 : decode cX4_reckonFrom 69 = .ok (.goto 6, 3) := by decide +kernel
theorem dX4_reckonFrom_72 : decode cX4_reckonFrom 72 = .ok (.iload_n 2, 1) := by decide +kernel
theorem dX4_reckonFrom_73 : decode cX4_reckonFrom 73 = .ok (.iconst 1, 1) := by decide +kernel
theorem dX4_reckonFrom_74 : decode cX4_reckonFrom 74 = .ok (.iadd, 1) := by decide +kernel
theorem dX4_reckonFrom_75 : decode cX4_reckonFrom 75 = .ok (.istore 6, 2) := by decide +kernel
theorem dX4_reckonFrom_77 : decode cX4_reckonFrom 77 = .ok (.aload_n 0, 1) := by decide +kernel
theorem dX4_reckonFrom_78 : decode cX4_reckonFrom 78 = .ok (.getfield 15, 3) := by decide +kernel
theorem dX4_reckonFrom_81 : decode cX4_reckonFrom 81 = .ok (.iload 5, 2) := by decide +kernel
theorem dX4_reckonFrom_83 : decode cX4_reckonFrom 83 = .ok (.iaload, 1) := by decide +kernel
theorem dX4_reckonFrom_84 : decode cX4_reckonFrom 84 = .ok (.ifCond .eq 66, 3) := by decide +kernel
theorem dX4_reckonFrom_87 : decode cX4_reckonFrom 87 = .ok (.iload 6, 2) := by decide +kernel
theorem dX4_reckonFrom_89 : decode cX4_reckonFrom 89 = .ok (.aload_n 0, 1) := by decide +kernel
theorem dX4_reckonFrom_90 : decode cX4_reckonFrom 90 = .ok (.getfield 47, 3) := by decide +kernel
theorem dX4_reckonFrom_93 : decode cX4_reckonFrom 93 = .ok (.if_icmp .gt 57, 3) := by decide +kernel
theorem dX4_reckonFrom_96 : decode cX4_reckonFrom 96 = .ok (.iload 5, 2) := by decide +kernel
theorem dX4_reckonFrom_98 : decode cX4_reckonFrom 98 = .ok (.iload_n 1, 1) := by decide +kernel
theorem dX4_reckonFrom_99 : decode cX4_reckonFrom 99 = .ok (.isub, 1) := by decide +kernel
theorem dX4_reckonFrom_100 : decode cX4_reckonFrom 100 = .ok (.iload 5, 2) := by decide +kernel
theorem dX4_reckonFrom_102 : decode cX4_reckonFrom 102 = .ok (.iload_n 1, 1) := by decide +kernel
theorem dX4_reckonFrom_103 : decode cX4_reckonFrom 103 = .ok (.isub, 1) := by decide +kernel
theorem dX4_reckonFrom_104 : decode cX4_reckonFrom 104 = .ok (.imul, 1) := by decide +kernel
theorem dX4_reckonFrom_105 : decode cX4_reckonFrom 105 = .ok (.aload_n 0, 1) := by decide +kernel
theorem dX4_reckonFrom_106 : decode cX4_reckonFrom 106 = .ok (.getfield 18, 3) := by decide +kernel
theorem dX4_reckonFrom_109 : decode cX4_reckonFrom 109 = .ok (.iload 5, 2) := by decide +kernel
theorem dX4_reckonFrom_111 : decode cX4_reckonFrom 111 = .ok (.bipush 10, 2) := by decide +kernel
theorem dX4_reckonFrom_113 : decode cX4_reckonFrom 113 = .ok (.imul, 1) := by decide +kernel
theorem dX4_reckonFrom_114 : decode cX4_reckonFrom 114 = .ok (.iload 6, 2) := by decide +kernel
theorem dX4_reckonFrom_116 : decode cX4_reckonFrom 116 = .ok (.iadd, 1) := by decide +kernel
theorem dX4_reckonFrom_117 : decode cX4_reckonFrom 117 = .ok (.iaload, 1) := by decide +kernel
theorem dX4_reckonFrom_118 : decode cX4_reckonFrom 118 = .ok (.iadd, 1) := by decide +kernel
theorem dX4_reckonFrom_119 : decode cX4_reckonFrom 119 = .ok (.istore 7, 2) := by decide +kernel
theorem dX4_reckonFrom_121 : decode cX4_reckonFrom 121 = .ok (.iload 7, 2) := by decide +kernel
theorem dX4_reckonFrom_123 : decode cX4_reckonFrom 123 = .ok (.aload_n 0, 1) := by decide +kernel
theorem dX4_reckonFrom_124 : decode cX4_reckonFrom 124 = .ok (.getfield 18, 3) := by decide +kernel
theorem dX4_reckonFrom_127 : decode cX4_reckonFrom 127 = .ok (.iload_n 3, 1) := by decide +kernel
theorem dX4_reckonFrom_128 : decode cX4_reckonFrom 128 = .ok (.iaload, 1) := by decide +kernel
theorem dX4_reckonFrom_129 : decode cX4_reckonFrom 129 = .ok (.if_icmp .ge 21, 3) := by decide +kernel
theorem dX4_reckonFrom_132 : decode cX4_reckonFrom 132 = .ok (.aload_n 0, 1) := by decide +kernel
theorem dX4_reckonFrom_133 : decode cX4_reckonFrom 133 = .ok (.getfield 18, 3) := by decide +kernel
theorem dX4_reckonFrom_136 : decode cX4_reckonFrom 136 = .ok (.iload_n 3, 1) := by decide +kernel
theorem dX4_reckonFrom_137 : decode cX4_reckonFrom 137 = .ok (.iload 7, 2) := by decide +kernel
theorem dX4_reckonFrom_139 : decode cX4_reckonFrom 139 = .ok (.iastore, 1) := by decide +kernel
theorem dX4_reckonFrom_140 : decode cX4_reckonFrom 140 = .ok (.aload_n 0, 1) := by decide +kernel
theorem dX4_reckonFrom_141 : decode cX4_reckonFrom 141 = .ok (.getfield 21, 3) := by decide +kernel
theorem dX4_reckonFrom_144 : decode cX4_reckonFrom 144 = .ok (.iload_n 3, 1) := by decide +kernel
theorem dX4_reckonFrom_145 : decode cX4_reckonFrom 145 = .ok (.iload 5, 2) := by decide +kernel
theorem dX4_reckonFrom_147 : decode cX4_reckonFrom 147 = .ok (.iload_n 1, 1) := by decide +kernel
theorem dX4_reckonFrom_148 : decode cX4_reckonFrom 148 = .ok (.isub, 1) := by decide +kernel
theorem dX4_reckonFrom_149 : decode cX4_reckonFrom 149 = .ok (.iastore, 1) := by decide +kernel
theorem dX4_reckonFrom_150 : decode cX4_reckonFrom 150 = .ok (.iinc 5 1, 3) := by decide +kernel
theorem dX4_reckonFrom_153 : decode cX4_reckonFrom 153 = .ok (.goto (-103), 3) := by decide +kernel
theorem dX4_reckonFrom_156 : decode cX4_reckonFrom 156 = .ok (.return_, 1) := by decide +kernel
set_option maxHeartbeats 1000000 in
theorem eX4_reckonFrom {w : Nat} {W : zWd} {F : Nat → Int} {L must rc bal : Nat} {fr sh : Nat} {Q : Option Value → zWd → Prop} {X : zX} (hw : zWy w) (hS : zWS W w F L must rc bal) (hfr : fr < L) (hsh : sh ≤ 9) (hV : ∀ to : Nat, fr < to → zOk F L must bal fr to sh → W (w + 3) ((to : Int) * 10 + (zRn F to sh : Nat)) = zV F L must rc bal to (zRn F to sh)) (hq : ∀ W' : zWd, (∀ k : Nat, k ≠ w + 3 → k ≠ w + 4 → W' k = W k) → (∀ i : Int, i ≠ fr * 10 + sh → W' (w + 3) i = W (w + 3) i ∧ W' (w + 4) i = W (w + 4) i) → W' (w + 3) (fr * 10 + sh) = zV F L must rc bal fr sh → (zV F L must rc bal fr sh < 1000000 → W' (w + 4) (fr * 10 + sh) = (zNx F L must rc bal fr sh : Nat) - fr) → Q none W') : Ev MX4_reckonFrom 1 0 W [.ref w, zI (fr : Int), zI (sh : Int)] Q X := by
  refine ev_of (ls := [.ref w, zI (fr : Int), zI (sh : Int), .null, .null, .null, .null, .null]) (by decide) rfl (fun _ => rfl) (fun _ => Nat.le_of_ble_eq_true rfl) (Or.inl rfl) ?_
  obtain ⟨s1, s2, s3, s4, s5, s6, s7, s8, s9, s10, s11, s12, s13, s14, s15⟩ := id hS
  have hfr0 := s8 fr (by omega)
  obtain ⟨last, hlast⟩ : ∃ last : Int, last = if (if fr < must then (must : Int) else (L : Int)) < fr + rc then (if fr < must then (must : Int) else (L : Int)) else fr + rc := ⟨_, rfl⟩
  have hl1 : (fr : Int) < last ∧ last ≤ fr + rc ∧ last ≤ L ∧ (fr < must → last ≤ must) ∧ ∀ j : Nat, (last : Int) < fr + j → j ≤ rc → (L : Int) < fr + j ∨ (fr < must ∧ must < fr + j) := by
    rw [hlast]
    by_cases g : fr < must
    · rw [if_pos g]
      refine ⟨?_, ?_, ?_, ?_, fun j g1 g2 => ?_⟩
      all_goals (split at * <;> omega)
    · rw [if_neg g]
      refine ⟨?_, ?_, ?_, ?_, fun j g1 g2 => ?_⟩
      all_goals (split at * <;> omega)
  have hfin : ∀ (m : Nat) (Wi : zWd), (m : Int) = last - fr → (∀ k : Nat, k ≠ w + 3 → k ≠ w + 4 → Wi k = W k) → (∀ i : Int, i ≠ fr * 10 + sh → Wi (w + 3) i = W (w + 3) i ∧ Wi (w + 4) i = W (w + 4) i) → Wi (w + 3) (fr * 10 + sh) = zMn (fun j => zBy F L must bal (zV F L must rc bal) fr sh (fr + j)) m → (zMn (fun j => zBy F L must bal (zV F L must rc bal) fr sh (fr + j)) m < 1000000 → Wi (w + 4) (fr * 10 + sh) = (zAg (fun j => zBy F L must bal (zV F L must rc bal) fr sh (fr + j)) m : Nat)) → Q none Wi := by
    intro m Wi hm hO hI hM hA
    obtain ⟨c1, c2⟩ := zMn_cut (f := (fun j => zBy F L must bal (zV F L must rc bal) fr sh (fr + j))) (m := m) rc (by omega) (fun j g1 g2 => by
      show zBy F L must bal (zV F L must rc bal) fr sh (fr + j) = _
      rw [zBy, if_neg (fun z => by have := hl1.2.2.2.2 j (by omega) g2; have z1 := z.1; have z2 := z.2.1; omega)])
    refine hq Wi hO hI (by rw [zV_eq hfr, c1]; exact hM) (fun g => ?_)
    rw [zV_eq hfr, c1] at g
    rw [hA g, zNx, c2]; omega
  have loop : ∀ (n : Nat) (m : Nat) (to : Int) (Wi : zWd) (v6 v7 : Value), to = fr + 1 + m → (m : Int) ≤ last - fr → (∀ k : Nat, k ≠ w + 3 → k ≠ w + 4 → Wi k = W k) → (∀ i : Int, i ≠ fr * 10 + sh → Wi (w + 3) i = W (w + 3) i ∧ Wi (w + 4) i = W (w + 4) i) → Wi (w + 3) (fr * 10 + sh) = zMn (fun j => zBy F L must bal (zV F L must rc bal) fr sh (fr + j)) m → (zMn (fun j => zBy F L must bal (zV F L must rc bal) fr sh (fr + j)) m < 1000000 → Wi (w + 4) (fr * 10 + sh) = (zAg (fun j => zBy F L must bal (zV F L must rc bal) fr sh (fr + j)) m : Nat)) → (last - fr - m).toNat < n → RR MX4_reckonFrom 1 0 Wi 50 [.ref w, zI (fr : Int), zI (sh : Int), zI ((fr : Int) * 10 + sh), zI last, zI to, v6, v7] [] (zEnd MX4_reckonFrom Q X) X := by
    intro n
    induction n with
    | zero => intro m to Wi v6 v7 _ _ _ _ _ _ hm9; omega
    | succ n ih =>
      intro m to Wi v6 v7 hto hmr0 hO hI hM hA hm9
      refine rr_iload (pc := 50) dX4_reckonFrom_50 rfl ?_
      refine rr_iload (pc := 52) dX4_reckonFrom_52 rfl ?_
      refine rr_icmp_gt (pc := 54) (tgt := 156) dX4_reckonFrom_54 (by decide) (by unfold zR; omega) (by unfold zR; omega) (fun h54 => ?_) (fun h54 => ?_)
      · exact rr_retv (pc := 156) dX4_reckonFrom_156 rfl rfl (hfin m Wi (by omega) hO hI hM hA)
      · refine rr_aload_n (pc := 57) dX4_reckonFrom_57 rfl ?_
        refine rr_getR (pc := 58) dX4_reckonFrom_58 fX4_15 hw.k hw.r8 ?_
        refine rr_iload (pc := 61) dX4_reckonFrom_61 rfl ?_
        have eF : Wi (w + 2) to = F (fr + (m + 1)) := by
          rw [hO (w + 2) (by omega) (by omega)]
          have := s5 (fr + (m + 1)) (by omega)
          rw [show ((fr + (m + 1) : Nat) : Int) = to by omega] at this; exact this
        have hFr := s8 (fr + (m + 1)) (by omega)
        have e7 : Wi w 7 = bal := by rw [hO w (by omega) (by omega)]; exact s4
        refine rr_iald (pc := 63) dX4_reckonFrom_63 hw.a2 (by omega) (by omega) ?_
        rw [eF]
        refine rr_iconst (n := 2) dX4_reckonFrom_64 ?_
        refine rr_icmp_ne (pc := 65) (tgt := 72) dX4_reckonFrom_65 (by decide) (by unfold zR; omega) (by unfold zR; omega) (fun h65 => ?_) (fun h65 => ?_)
        · refine rr_iload_n (pc := 72) dX4_reckonFrom_72 rfl ?_
          refine rr_iconst (n := 1) dX4_reckonFrom_73 ?_
          refine rr_iadd (pc := 74) dX4_reckonFrom_74 ?_
          have hrn : zRn F (fr + (m + 1)) sh = sh + 1 := if_neg h65
          refine rr_istore (pc := 75) dX4_reckonFrom_75 (by decide) ?_
          refine rr_aload_n (pc := 77) dX4_reckonFrom_77 rfl ?_
          refine rr_getR (pc := 78) dX4_reckonFrom_78 fX4_15 hw.k hw.r8 ?_
          refine rr_iload (pc := 81) dX4_reckonFrom_81 rfl ?_
          refine rr_iald (pc := 83) dX4_reckonFrom_83 hw.a2 (by omega) (by omega) ?_
          rw [eF]
          refine rr_if_eq (pc := 84) (tgt := 150) dX4_reckonFrom_84 (by decide) (by unfold zR; omega) (fun h84 => ?_) (fun h84 => ?_)
          · have hok : ¬ zOk F L must bal fr (fr + (m + 1)) sh := fun z => by have := z.2.2.1; omega
            have hfv : zBy F L must bal (zV F L must rc bal) fr sh (fr + (m + 1)) = 1000000 := by
              rw [zBy, if_neg hok]
            refine rr_iinc (pc := 150) dX4_reckonFrom_150 rfl (by decide) ?_
            refine rr_goto (pc := 153) (tgt := 50) dX4_reckonFrom_153 (by decide) ?_
            have hle := zMn_le (fun j => zBy F L must bal (zV F L must rc bal) fr sh (fr + j)) m
            exact ih (m + 1) (to + 1) Wi _ _ (by omega) (by omega) hO hI (by rw [zMn, if_neg (by omega)]; exact hM) (by rw [zMn, zAg, if_neg (by omega), if_neg (by omega)]; exact hA) (by omega)
          · refine rr_iload (pc := 87) dX4_reckonFrom_87 rfl ?_
            refine rr_aload_n (pc := 89) dX4_reckonFrom_89 rfl ?_
            refine rr_getI (pc := 90) (ji := 7) dX4_reckonFrom_90 fX4_47 hw.k hw.i7 rfl ?_
            rw [e7]
            refine rr_icmp_gt (pc := 93) (tgt := 150) dX4_reckonFrom_93 (by decide) (by unfold zR; omega) (by unfold zR; omega) (fun h93 => ?_) (fun h93 => ?_)
            · have hok : ¬ zOk F L must bal fr (fr + (m + 1)) sh := fun z => by have := z.2.2.2; omega
              have hfv : zBy F L must bal (zV F L must rc bal) fr sh (fr + (m + 1)) = 1000000 := by
                rw [zBy, if_neg hok]
              refine rr_iinc (pc := 150) dX4_reckonFrom_150 rfl (by decide) ?_
              refine rr_goto (pc := 153) (tgt := 50) dX4_reckonFrom_153 (by decide) ?_
              have hle := zMn_le (fun j => zBy F L must bal (zV F L must rc bal) fr sh (fr + j)) m
              exact ih (m + 1) (to + 1) Wi _ _ (by omega) (by omega) hO hI (by rw [zMn, if_neg (by omega)]; exact hM) (by rw [zMn, zAg, if_neg (by omega), if_neg (by omega)]; exact hA) (by omega)
            · have hok : zOk F L must bal fr (fr + (m + 1)) sh := ⟨by omega, by omega, by omega, by omega⟩
              have hVt := hV (fr + (m + 1)) (by omega) hok
              rw [show ((fr + (m + 1) : Nat) : Int) = to by omega] at hVt
              have hfv : zBy F L must bal (zV F L must rc bal) fr sh (fr + (m + 1)) = (to - fr) * (to - fr) + zV F L must rc bal (fr + (m + 1)) (zRn F (fr + (m + 1)) sh) := by
                rw [zBy, if_pos hok, show ((fr + (m + 1) : Nat) : Int) = to by omega]
              have hVt' : Wi (w + 3) (to * 10 + ((sh : Int) + 1)) = zV F L must rc bal (fr + (m + 1)) (zRn F (fr + (m + 1)) sh) := by
                rw [← hVt, hrn]
                exact (hI _ (by omega)).1
              have hvr := zV_rng (F := F) (L := L) (must := must) (rc := rc) (bal := bal) (fr + (m + 1)) (zRn F (fr + (m + 1)) sh)
              have hsq := zSq (a := to - fr) (b := to - fr) (by omega) (by omega) rfl
              have hmr := zMn_le (fun j => zBy F L must bal (zV F L must rc bal) fr sh (fr + j)) m
              have hmn := zMn_nn (f := (fun j => zBy F L must bal (zV F L must rc bal) fr sh (fr + j))) m (fun j _ _ => zBy_nn (fun k run => (zV_rng k run).1))
              refine rr_iload (pc := 96) dX4_reckonFrom_96 rfl ?_
              refine rr_iload_n (pc := 98) dX4_reckonFrom_98 rfl ?_
              refine rr_isub (pc := 99) dX4_reckonFrom_99 ?_
              refine rr_iload (pc := 100) dX4_reckonFrom_100 rfl ?_
              refine rr_iload_n (pc := 102) dX4_reckonFrom_102 rfl ?_
              refine rr_isub (pc := 103) dX4_reckonFrom_103 ?_
              refine rr_imul (pc := 104) dX4_reckonFrom_104 ?_
              refine rr_aload_n (pc := 105) dX4_reckonFrom_105 rfl ?_
              refine rr_getR (pc := 106) dX4_reckonFrom_106 fX4_18 hw.k hw.r9 ?_
              refine rr_iload (pc := 109) dX4_reckonFrom_109 rfl ?_
              refine rr_bipush (n := (10)) dX4_reckonFrom_111 ?_
              refine rr_imul (pc := 113) dX4_reckonFrom_113 ?_
              refine rr_iload (pc := 114) dX4_reckonFrom_114 rfl ?_
              refine rr_iadd (pc := 116) dX4_reckonFrom_116 ?_
              refine rr_iald (pc := 117) dX4_reckonFrom_117 hw.a3 (by omega) (by omega) ?_
              refine rr_iadd (pc := 118) dX4_reckonFrom_118 ?_
              refine rr_istore (pc := 119) dX4_reckonFrom_119 (by decide) ?_
              refine rr_iload (pc := 121) dX4_reckonFrom_121 rfl ?_
              refine rr_aload_n (pc := 123) dX4_reckonFrom_123 rfl ?_
              refine rr_getR (pc := 124) dX4_reckonFrom_124 fX4_18 hw.k hw.r9 ?_
              refine rr_iload_n (pc := 127) dX4_reckonFrom_127 rfl ?_
              refine rr_iald (pc := 128) dX4_reckonFrom_128 hw.a3 (by omega) (by omega) ?_
              rw [hM]
              refine rr_icmp_ge (pc := 129) (tgt := 150) dX4_reckonFrom_129 (by decide) (by unfold zR; omega) (by unfold zR; omega) (fun h129 => ?_) (fun h129 => ?_)
              · refine rr_iinc (pc := 150) dX4_reckonFrom_150 rfl (by decide) ?_
                refine rr_goto (pc := 153) (tgt := 50) dX4_reckonFrom_153 (by decide) ?_
                have hle := zMn_le (fun j => zBy F L must bal (zV F L must rc bal) fr sh (fr + j)) m
                exact ih (m + 1) (to + 1) Wi _ _ (by omega) (by omega) hO hI (by rw [zMn, if_neg (by rw [hfv, ← hVt']; omega)]; exact hM) (by rw [zMn, zAg, if_neg (by rw [hfv, ← hVt']; omega), if_neg (by rw [hfv, ← hVt']; omega)]; exact hA) (by omega)
              · refine rr_aload_n (pc := 132) dX4_reckonFrom_132 rfl ?_
                refine rr_getR (pc := 133) dX4_reckonFrom_133 fX4_18 hw.k hw.r9 ?_
                refine rr_iload_n (pc := 136) dX4_reckonFrom_136 rfl ?_
                refine rr_iload (pc := 137) dX4_reckonFrom_137 rfl ?_
                refine rr_iast (pc := 139) dX4_reckonFrom_139 hw.a3 (by omega) (by omega) ?_
                refine rr_aload_n (pc := 140) dX4_reckonFrom_140 rfl ?_
                refine rr_getR (pc := 141) dX4_reckonFrom_141 fX4_21 hw.k hw.r10 ?_
                refine rr_iload_n (pc := 144) dX4_reckonFrom_144 rfl ?_
                refine rr_iload (pc := 145) dX4_reckonFrom_145 rfl ?_
                refine rr_iload_n (pc := 147) dX4_reckonFrom_147 rfl ?_
                refine rr_isub (pc := 148) dX4_reckonFrom_148 ?_
                refine rr_iast (pc := 149) dX4_reckonFrom_149 hw.a4 (by omega) (by omega) ?_
                refine rr_iinc (pc := 150) dX4_reckonFrom_150 rfl (by decide) ?_
                refine rr_goto (pc := 153) (tgt := 50) dX4_reckonFrom_153 (by decide) ?_
                exact ih (m + 1) (to + 1) _ _ _ (by omega) (by omega) (fun k g1 g2 => by rw [zup_other k g2, zup_other k g1]; exact hO k g1 g2) (fun i hi => by rw [zup_k (by omega), zup_i hi, zup_i hi, zup_k (by omega)]; exact hI i hi) (by rw [zMn, if_pos (by rw [hfv, ← hVt']; omega), zup_k (by omega), zup_s, hfv, ← hVt']) (fun _ => by rw [zAg, if_pos (by rw [hfv, ← hVt']; omega), zup_s]; omega) (by omega)
        · refine rr_iconst (n := 0) dX4_reckonFrom_68 ?_
          refine rr_goto (pc := 69) (tgt := 75) dX4_reckonFrom_69 (by decide) ?_
          have hrn : zRn F (fr + (m + 1)) sh = 0 := if_pos h65
          refine rr_istore (pc := 75) dX4_reckonFrom_75 (by decide) ?_
          refine rr_aload_n (pc := 77) dX4_reckonFrom_77 rfl ?_
          refine rr_getR (pc := 78) dX4_reckonFrom_78 fX4_15 hw.k hw.r8 ?_
          refine rr_iload (pc := 81) dX4_reckonFrom_81 rfl ?_
          refine rr_iald (pc := 83) dX4_reckonFrom_83 hw.a2 (by omega) (by omega) ?_
          rw [eF]
          refine rr_if_eq (pc := 84) (tgt := 150) dX4_reckonFrom_84 (by decide) (by unfold zR; omega) (fun h84 => ?_) (fun h84 => ?_)
          · have hok : ¬ zOk F L must bal fr (fr + (m + 1)) sh := fun z => by have := z.2.2.1; omega
            have hfv : zBy F L must bal (zV F L must rc bal) fr sh (fr + (m + 1)) = 1000000 := by
              rw [zBy, if_neg hok]
            refine rr_iinc (pc := 150) dX4_reckonFrom_150 rfl (by decide) ?_
            refine rr_goto (pc := 153) (tgt := 50) dX4_reckonFrom_153 (by decide) ?_
            have hle := zMn_le (fun j => zBy F L must bal (zV F L must rc bal) fr sh (fr + j)) m
            exact ih (m + 1) (to + 1) Wi _ _ (by omega) (by omega) hO hI (by rw [zMn, if_neg (by omega)]; exact hM) (by rw [zMn, zAg, if_neg (by omega), if_neg (by omega)]; exact hA) (by omega)
          · refine rr_iload (pc := 87) dX4_reckonFrom_87 rfl ?_
            refine rr_aload_n (pc := 89) dX4_reckonFrom_89 rfl ?_
            refine rr_getI (pc := 90) (ji := 7) dX4_reckonFrom_90 fX4_47 hw.k hw.i7 rfl ?_
            rw [e7]
            refine rr_icmp_gt (pc := 93) (tgt := 150) dX4_reckonFrom_93 (by decide) (by unfold zR; omega) (by unfold zR; omega) (fun h93 => ?_) (fun h93 => ?_)
            · have hok : ¬ zOk F L must bal fr (fr + (m + 1)) sh := fun z => by have := z.2.2.2; omega
              have hfv : zBy F L must bal (zV F L must rc bal) fr sh (fr + (m + 1)) = 1000000 := by
                rw [zBy, if_neg hok]
              refine rr_iinc (pc := 150) dX4_reckonFrom_150 rfl (by decide) ?_
              refine rr_goto (pc := 153) (tgt := 50) dX4_reckonFrom_153 (by decide) ?_
              have hle := zMn_le (fun j => zBy F L must bal (zV F L must rc bal) fr sh (fr + j)) m
              exact ih (m + 1) (to + 1) Wi _ _ (by omega) (by omega) hO hI (by rw [zMn, if_neg (by omega)]; exact hM) (by rw [zMn, zAg, if_neg (by omega), if_neg (by omega)]; exact hA) (by omega)
            · have hok : zOk F L must bal fr (fr + (m + 1)) sh := ⟨by omega, by omega, by omega, by omega⟩
              have hVt := hV (fr + (m + 1)) (by omega) hok
              rw [show ((fr + (m + 1) : Nat) : Int) = to by omega] at hVt
              have hfv : zBy F L must bal (zV F L must rc bal) fr sh (fr + (m + 1)) = (to - fr) * (to - fr) + zV F L must rc bal (fr + (m + 1)) (zRn F (fr + (m + 1)) sh) := by
                rw [zBy, if_pos hok, show ((fr + (m + 1) : Nat) : Int) = to by omega]
              have hVt' : Wi (w + 3) (to * 10 + 0) = zV F L must rc bal (fr + (m + 1)) (zRn F (fr + (m + 1)) sh) := by
                rw [← hVt, hrn]
                exact (hI _ (by omega)).1
              have hvr := zV_rng (F := F) (L := L) (must := must) (rc := rc) (bal := bal) (fr + (m + 1)) (zRn F (fr + (m + 1)) sh)
              have hsq := zSq (a := to - fr) (b := to - fr) (by omega) (by omega) rfl
              have hmr := zMn_le (fun j => zBy F L must bal (zV F L must rc bal) fr sh (fr + j)) m
              have hmn := zMn_nn (f := (fun j => zBy F L must bal (zV F L must rc bal) fr sh (fr + j))) m (fun j _ _ => zBy_nn (fun k run => (zV_rng k run).1))
              refine rr_iload (pc := 96) dX4_reckonFrom_96 rfl ?_
              refine rr_iload_n (pc := 98) dX4_reckonFrom_98 rfl ?_
              refine rr_isub (pc := 99) dX4_reckonFrom_99 ?_
              refine rr_iload (pc := 100) dX4_reckonFrom_100 rfl ?_
              refine rr_iload_n (pc := 102) dX4_reckonFrom_102 rfl ?_
              refine rr_isub (pc := 103) dX4_reckonFrom_103 ?_
              refine rr_imul (pc := 104) dX4_reckonFrom_104 ?_
              refine rr_aload_n (pc := 105) dX4_reckonFrom_105 rfl ?_
              refine rr_getR (pc := 106) dX4_reckonFrom_106 fX4_18 hw.k hw.r9 ?_
              refine rr_iload (pc := 109) dX4_reckonFrom_109 rfl ?_
              refine rr_bipush (n := (10)) dX4_reckonFrom_111 ?_
              refine rr_imul (pc := 113) dX4_reckonFrom_113 ?_
              refine rr_iload (pc := 114) dX4_reckonFrom_114 rfl ?_
              refine rr_iadd (pc := 116) dX4_reckonFrom_116 ?_
              refine rr_iald (pc := 117) dX4_reckonFrom_117 hw.a3 (by omega) (by omega) ?_
              refine rr_iadd (pc := 118) dX4_reckonFrom_118 ?_
              refine rr_istore (pc := 119) dX4_reckonFrom_119 (by decide) ?_
              refine rr_iload (pc := 121) dX4_reckonFrom_121 rfl ?_
              refine rr_aload_n (pc := 123) dX4_reckonFrom_123 rfl ?_
              refine rr_getR (pc := 124) dX4_reckonFrom_124 fX4_18 hw.k hw.r9 ?_
              refine rr_iload_n (pc := 127) dX4_reckonFrom_127 rfl ?_
              refine rr_iald (pc := 128) dX4_reckonFrom_128 hw.a3 (by omega) (by omega) ?_
              rw [hM]
              refine rr_icmp_ge (pc := 129) (tgt := 150) dX4_reckonFrom_129 (by decide) (by unfold zR; omega) (by unfold zR; omega) (fun h129 => ?_) (fun h129 => ?_)
              · refine rr_iinc (pc := 150) dX4_reckonFrom_150 rfl (by decide) ?_
                refine rr_goto (pc := 153) (tgt := 50) dX4_reckonFrom_153 (by decide) ?_
                have hle := zMn_le (fun j => zBy F L must bal (zV F L must rc bal) fr sh (fr + j)) m
                exact ih (m + 1) (to + 1) Wi _ _ (by omega) (by omega) hO hI (by rw [zMn, if_neg (by rw [hfv, ← hVt']; omega)]; exact hM) (by rw [zMn, zAg, if_neg (by rw [hfv, ← hVt']; omega), if_neg (by rw [hfv, ← hVt']; omega)]; exact hA) (by omega)
              · refine rr_aload_n (pc := 132) dX4_reckonFrom_132 rfl ?_
                refine rr_getR (pc := 133) dX4_reckonFrom_133 fX4_18 hw.k hw.r9 ?_
                refine rr_iload_n (pc := 136) dX4_reckonFrom_136 rfl ?_
                refine rr_iload (pc := 137) dX4_reckonFrom_137 rfl ?_
                refine rr_iast (pc := 139) dX4_reckonFrom_139 hw.a3 (by omega) (by omega) ?_
                refine rr_aload_n (pc := 140) dX4_reckonFrom_140 rfl ?_
                refine rr_getR (pc := 141) dX4_reckonFrom_141 fX4_21 hw.k hw.r10 ?_
                refine rr_iload_n (pc := 144) dX4_reckonFrom_144 rfl ?_
                refine rr_iload (pc := 145) dX4_reckonFrom_145 rfl ?_
                refine rr_iload_n (pc := 147) dX4_reckonFrom_147 rfl ?_
                refine rr_isub (pc := 148) dX4_reckonFrom_148 ?_
                refine rr_iast (pc := 149) dX4_reckonFrom_149 hw.a4 (by omega) (by omega) ?_
                refine rr_iinc (pc := 150) dX4_reckonFrom_150 rfl (by decide) ?_
                refine rr_goto (pc := 153) (tgt := 50) dX4_reckonFrom_153 (by decide) ?_
                exact ih (m + 1) (to + 1) _ _ _ (by omega) (by omega) (fun k g1 g2 => by rw [zup_other k g2, zup_other k g1]; exact hO k g1 g2) (fun i hi => by rw [zup_k (by omega), zup_i hi, zup_i hi, zup_k (by omega)]; exact hI i hi) (by rw [zMn, if_pos (by rw [hfv, ← hVt']; omega), zup_k (by omega), zup_s, hfv, ← hVt']) (fun _ => by rw [zAg, if_pos (by rw [hfv, ← hVt']; omega), zup_s]; omega) (by omega)
  refine rr_iload_n (pc := 0) dX4_reckonFrom_0 rfl ?_
  refine rr_bipush (n := (10)) dX4_reckonFrom_1 ?_
  refine rr_imul (pc := 3) dX4_reckonFrom_3 ?_
  refine rr_iload_n (pc := 4) dX4_reckonFrom_4 rfl ?_
  refine rr_iadd (pc := 5) dX4_reckonFrom_5 ?_
  refine rr_istore_n (pc := 6) dX4_reckonFrom_6 (by decide) ?_
  refine rr_aload_n (pc := 7) dX4_reckonFrom_7 rfl ?_
  refine rr_getR (pc := 8) dX4_reckonFrom_8 fX4_18 hw.k hw.r9 ?_
  refine rr_iload_n (pc := 11) dX4_reckonFrom_11 rfl ?_
  refine rr_ldc (pc := 12) dX4_reckonFrom_12 cX4_k68 ?_
  refine rr_iast (pc := 14) dX4_reckonFrom_14 hw.a3 (by omega) (by omega) ?_
  refine rr_iload_n (pc := 15) dX4_reckonFrom_15 rfl ?_
  refine rr_aload_n (pc := 16) dX4_reckonFrom_16 rfl ?_
  refine rr_getI (pc := 17) (ji := 6) dX4_reckonFrom_17 fX4_40 hw.k hw.i6 rfl ?_
  rw [zup_k (by omega), s3]
  refine rr_iadd (pc := 20) dX4_reckonFrom_20 ?_
  refine rr_iload_n (pc := 21) dX4_reckonFrom_21 rfl ?_
  refine rr_aload_n (pc := 22) dX4_reckonFrom_22 rfl ?_
  refine rr_getI (pc := 23) (ji := 5) dX4_reckonFrom_23 fX4_58 hw.k hw.i5 rfl ?_
  rw [zup_k (by omega), s2]
  refine rr_icmp_ge (pc := 26) (tgt := 36) dX4_reckonFrom_26 (by decide) (by unfold zR; omega) (by unfold zR; omega) (fun h26 => ?_) (fun h26 => ?_)
  · refine rr_aload_n (pc := 36) dX4_reckonFrom_36 rfl ?_
    refine rr_getI (pc := 37) (ji := 4) dX4_reckonFrom_37 fX4_52 hw.k hw.i4 rfl ?_
    rw [zup_k (by omega), s1]
    refine rr_min (pc := 40) dX4_reckonFrom_40 lX4_93 z_mmin (by unfold zR; omega) (by unfold zR; omega) (by decide) (Nat.le_of_ble_eq_true rfl) ?_
    rw [show (if (L : Int) < fr + rc then (L : Int) else fr + rc) = last by rw [hlast]; simp only [if_neg (show ¬ fr < must by omega)]]
    refine rr_istore (pc := 43) dX4_reckonFrom_43 (by decide) ?_
    refine rr_iload_n (pc := 45) dX4_reckonFrom_45 rfl ?_
    refine rr_iconst (n := 1) dX4_reckonFrom_46 ?_
    refine rr_iadd (pc := 47) dX4_reckonFrom_47 ?_
    refine rr_istore (pc := 48) dX4_reckonFrom_48 (by decide) ?_
    exact loop _ 0 (fr + 1) _ .null .null (by omega) (by omega) (fun k g1 g2 => zup_other k g1) (fun i hi => ⟨zup_i hi, zup_k (by omega)⟩) (by rw [zup_s]; rfl) (fun g => absurd g (by show ¬ (1000000 : Int) < 1000000; omega)) (Nat.lt_succ_self _)
  · refine rr_aload_n (pc := 29) dX4_reckonFrom_29 rfl ?_
    refine rr_getI (pc := 30) (ji := 5) dX4_reckonFrom_30 fX4_58 hw.k hw.i5 rfl ?_
    rw [zup_k (by omega), s2]
    refine rr_goto (pc := 33) (tgt := 40) dX4_reckonFrom_33 (by decide) ?_
    refine rr_min (pc := 40) dX4_reckonFrom_40 lX4_93 z_mmin (by unfold zR; omega) (by unfold zR; omega) (by decide) (Nat.le_of_ble_eq_true rfl) ?_
    rw [show (if (must : Int) < fr + rc then (must : Int) else fr + rc) = last by rw [hlast]; simp only [if_pos (show fr < must by omega)]]
    refine rr_istore (pc := 43) dX4_reckonFrom_43 (by decide) ?_
    refine rr_iload_n (pc := 45) dX4_reckonFrom_45 rfl ?_
    refine rr_iconst (n := 1) dX4_reckonFrom_46 ?_
    refine rr_iadd (pc := 47) dX4_reckonFrom_47 ?_
    refine rr_istore (pc := 48) dX4_reckonFrom_48 (by decide) ?_
    exact loop _ 0 (fr + 1) _ .null .null (by omega) (by omega) (fun k g1 g2 => zup_other k g1) (fun i hi => ⟨zup_i hi, zup_k (by omega)⟩) (by rw [zup_s]; rfl) (fun g => absurd g (by show ¬ (1000000 : Int) < 1000000; omega)) (Nat.lt_succ_self _)
end
section
/-- the tables are right from the place k0 on -/
def zTb (W : zWd) (w : Nat) (F : Nat → Int) (L must rc bal : Nat) (k0 : Int) : Prop := ∀ k s : Nat, k0 ≤ k → k ≤ L → zRc F bal k s → W (w + 3) ((k : Int) * 10 + s) = zV F L must rc bal k s ∧ (k < L → zV F L must rc bal k s < 1000000 → W (w + 4) ((k : Int) * 10 + s) = (zNx F L must rc bal k s : Nat) - k)
/-- what a hop reads is there -/
theorem zTb.rd {W : zWd} {w : Nat} {F : Nat → Int} {L must rc bal fr sh : Nat} (h : zTb W w F L must rc bal (fr + 1)) (hF : ∀ k, k ≤ L → 0 ≤ F k ∧ F k ≤ 2) (hs : sh ≤ fr) : ∀ to : Nat, fr < to → zOk F L must bal fr to sh → W (w + 3) ((to : Int) * 10 + (zRn F to sh : Nat)) = zV F L must rc bal to (zRn F to sh) := by
  intro to h1 hok
  refine (h to (zRn F to sh) (by omega) hok.1 ?_).1
  have h2 := hF to hok.1
  have h3 := hok.2.2.1
  have h4 := hok.2.2.2
  unfold zRc
  unfold zRn at h4 ⊢
  by_cases q : F to = 2
  · rw [if_pos q]; exact Or.inl ⟨q, rfl⟩
  · rw [if_neg q] at h4 ⊢; exact Or.inr ⟨by omega, by omega, by omega, by omega⟩
/-- one entry more -/
theorem zTb.keep {W W' : zWd} {w : Nat} {F : Nat → Int} {L must rc bal fr sh : Nat} {k0 : Int} (h : zTb W w F L must rc bal k0) (hk : (fr : Int) < k0) (hb : bal ≤ 9) (hsh : sh ≤ 9) (hI : ∀ i : Int, i ≠ fr * 10 + sh → W' (w + 3) i = W (w + 3) i ∧ W' (w + 4) i = W (w + 4) i) : zTb W' w F L must rc bal k0 := by
  intro k s h1 h2 h3
  have hs : s ≤ 9 := by unfold zRc at h3; omega
  obtain ⟨g1, g2⟩ := hI ((k : Int) * 10 + s) (by omega)
  obtain ⟨g3, g4⟩ := h k s h1 h2 h3
  exact ⟨g1.trans g3, fun q1 q2 => g2.trans (g4 q1 q2)⟩
theorem dX4_reckon_0 : decode cX4_reckon 0 = .ok (.aload_n 0, 1) := by decide +kernel
theorem dX4_reckon_1 : decode cX4_reckon 1 = .ok (.getfield 18, 3) := by decide +kernel
theorem dX4_reckon_4 : decode cX4_reckon 4 = .ok (.aload_n 0, 1) := by decide +kernel
theorem dX4_reckon_5 : decode cX4_reckon 5 = .ok (.getfield 52, 3) := by decide +kernel
theorem dX4_reckon_8 : decode cX4_reckon 8 = .ok (.bipush 10, 2) := by decide +kernel
theorem dX4_reckon_10 : decode cX4_reckon 10 = .ok (.imul, 1) := by decide +kernel
theorem dX4_reckon_11 : decode cX4_reckon 11 = .ok (.iconst 0, 1) := by decide +kernel
theorem dX4_reckon_12 : decode cX4_reckon 12 = .ok (.iastore, 1) := by decide +kernel
theorem dX4_reckon_13 : decode cX4_reckon 13 = .ok (.aload_n 0, 1) := by decide +kernel
theorem dX4_reckon_14 : decode cX4_reckon 14 = .ok (.getfield 52, 3) := by decide +kernel
theorem dX4_reckon_17 : decode cX4_reckon 17 = .ok (.iconst 1, 1) := by decide +kernel
theorem dX4_reckon_18 : decode cX4_reckon 18 = .ok (.isub, 1) := by decide +kernel
theorem dX4_reckon_19 : decode cX4_reckon 19 = .ok (.istore_n 1, 1) := by decide +kernel
theorem dX4_reckon_20 : decode cX4_reckon 20 = .ok (.iload_n 1, 1) := by decide +kernel
theorem dX4_reckon_21 : decode cX4_reckon 21 = .ok (.ifCond .lt 65, 3) := by decide +kernel
theorem dX4_reckon_24 : decode cX4_reckon 24 = .ok (.aload_n 0, 1) := by decide +kernel
theorem dX4_reckon_25 : decode cX4_reckon 25 = .ok (.getfield 15, 3) := by decide +kernel
theorem dX4_reckon_28 : decode cX4_reckon 28 = .ok (.iload_n 1, 1) := by decide +kernel
theorem dX4_reckon_29 : decode cX4_reckon 29 = .ok (.iaload, 1) := by decide +kernel
theorem dX4_reckon_30 : decode cX4_reckon 30 = .ok (.iconst 2, 1) := by decide +kernel
theorem dX4_reckon_31 : decode cX4_reckon 31 = .ok (.if_icmp .ne 12, 3) := by decide +kernel
theorem dX4_reckon_34 : decode cX4_reckon 34 = .ok (.aload_n 0, 1) := by decide +kernel
theorem dX4_reckon_35 : decode cX4_reckon 35 = .ok (.iload_n 1, 1) := by decide +kernel
theorem dX4_reckon_36 : decode cX4_reckon 36 = .ok (.iconst 0, 1) := by decide +kernel
theorem dX4_reckon_37 : decode cX4_reckon 37 = .ok (.invokevirtual 89, 3) := by decide +kernel
theorem dX4_reckon_40 : decode cX4_reckon 40 = .ok (.goto 40, 3) := by decide +kernel
theorem dX4_reckon_43 : decode cX4_reckon 43 = .ok (.aload_n 0, 1) := by decide +kernel
theorem dX4_reckon_44 : decode cX4_reckon 44 = .ok (.getfield 15, 3) := by decide +kernel
theorem dX4_reckon_47 : decode cX4_reckon 47 = .ok (.iload_n 1, 1) := by decide +kernel
theorem dX4_reckon_48 : decode cX4_reckon 48 = .ok (.iaload, 1) := by decide +kernel
theorem dX4_reckon_49 : decode cX4_reckon 49 = .ok (.iconst 1, 1) := by decide +kernel
theorem dX4_reckon_50 : decode cX4_reckon 50 = .ok (.if_icmp .ne 30, 3) := by decide +kernel
theorem dX4_reckon_53 : decode cX4_reckon 53 = .ok (.iconst 1, 1) := by decide +kernel
theorem dX4_reckon_54 : decode cX4_reckon 54 = .ok (.istore_n 2, 1) := by decide +kernel
theorem dX4_reckon_55 : decode cX4_reckon 55 = .ok (.iload_n 2, 1) := by decide +kernel
theorem dX4_reckon_56 : decode cX4_reckon 56 = .ok (.aload_n 0, 1) := by decide +kernel
theorem dX4_reckon_57 : decode cX4_reckon 57 = .ok (.getfield 47, 3) := by decide +kernel
theorem dX4_reckon_60 : decode cX4_reckon 60 = .ok (.if_icmp .gt 20, 3) := by decide +kernel
theorem dX4_reckon_63 : decode cX4_reckon 63 = .ok (.iload_n 2, 1) := by decide +kernel
theorem dX4_reckon_64 : decode cX4_reckon 64 = .ok (.iload_n 1, 1) := by decide +kernel
theorem dX4_reckon_65 : decode cX4_reckon 65 = .ok (.if_icmp .gt 15, 3) := by decide +kernel
theorem dX4_reckon_68 : decode cX4_reckon 68 = .ok (.aload_n 0, 1) := by decide +kernel
theorem dX4_reckon_69 : decode cX4_reckon 69 = .ok (.iload_n 1, 1) := by decide +kernel
theorem dX4_reckon_70 : decode cX4_reckon 70 = .ok (.iload_n 2, 1) := by decide +kernel
theorem dX4_reckon_71 : decode cX4_reckon 71 = .ok (.invokevirtual 89, 3) := by decide +kernel
theorem dX4_reckon_74 : decode cX4_reckon 74 = .ok (.iinc 2 1, 3) := by decide +kernel
theorem dX4_reckon_77 : decode cX4_reckon 77 = .ok (.goto (-22), 3) := by decide +kernel
theorem dX4_reckon_80 : decode cX4_reckon 80 = .ok (.iinc 1 (-1), 3) := by decide +kernel
theorem dX4_reckon_83 : decode cX4_reckon 83 = .ok (.goto (-63), 3) := by decide +kernel
theorem dX4_reckon_86 : decode cX4_reckon 86 = .ok (.return_, 1) := by decide +kernel
theorem z_reckon_in {w : Nat} {W : zWd} {F : Nat → Int} {L must rc bal : Nat} {fr : Nat} {Q : Option Value → zWd → Prop} {X : zX} (hw : zWy w) (hS : zWS W w F L must rc bal) (hfr : fr < L) (hend : ∀ (Wj : zWd) (sh : Int), ((bal : Int) < sh ∨ (fr : Int) < sh) → (∀ k : Nat, k ≠ w + 3 → k ≠ w + 4 → Wj k = W k) → zTb Wj w F L must rc bal ((fr : Int) + 1) → (∀ s : Nat, 1 ≤ s → (s : Int) < sh → Wj (w + 3) ((fr : Int) * 10 + s) = zV F L must rc bal fr s ∧ (fr < L → zV F L must rc bal fr s < 1000000 → Wj (w + 4) ((fr : Int) * 10 + s) = (zNx F L must rc bal fr s : Nat) - fr)) → RR MX4_reckon 2 0 Wj 80 [.ref w, zI (fr : Int), zI sh] [] (zEnd MX4_reckon Q X) X) (Wi : zWd) (hO : ∀ k : Nat, k ≠ w + 3 → k ≠ w + 4 → Wi k = W k) (hT : zTb Wi w F L must rc bal ((fr : Int) + 1)) : RR MX4_reckon 2 0 Wi 55 [.ref w, zI (fr : Int), zI 1] [] (zEnd MX4_reckon Q X) X := by
  obtain ⟨s1, s2, s3, s4, s5, s6, s7, s8, s9, s10, s11, s12, s13, s14, s15⟩ := id hS
  have hFr := s8 fr (by omega)
  have loop : ∀ (n : Nat) (sh : Int) (Wj : zWd), 1 ≤ sh → sh ≤ 10 → (∀ k : Nat, k ≠ w + 3 → k ≠ w + 4 → Wj k = W k) → zTb Wj w F L must rc bal ((fr : Int) + 1) → (∀ s : Nat, 1 ≤ s → (s : Int) < sh → Wj (w + 3) ((fr : Int) * 10 + s) = zV F L must rc bal fr s ∧ (fr < L → zV F L must rc bal fr s < 1000000 → Wj (w + 4) ((fr : Int) * 10 + s) = (zNx F L must rc bal fr s : Nat) - fr)) → (11 - sh).toNat < n → RR MX4_reckon 2 0 Wj 55 [.ref w, zI (fr : Int), zI sh] [] (zEnd MX4_reckon Q X) X := by
    intro n
    induction n with
    | zero => intro sh Wj _ _ _ _ _ hm9; omega
    | succ n ih =>
      intro sh Wj k1 k2 hO hT hB hm9
      refine rr_iload_n (pc := 55) dX4_reckon_55 rfl ?_
      refine rr_aload_n (pc := 56) dX4_reckon_56 rfl ?_
      refine rr_getI (pc := 57) (ji := 7) dX4_reckon_57 fX4_47 hw.k hw.i7 rfl ?_
      rw [show Wj w 7 = bal by rw [hO w (by omega) (by omega)]; exact s4]
      refine rr_icmp_gt (pc := 60) (tgt := 80) dX4_reckon_60 (by decide) (by unfold zR; omega) (by unfold zR; omega) (fun h60 => ?_) (fun h60 => ?_)
      · exact hend Wj sh (by omega) hO hT hB
      · refine rr_iload_n (pc := 63) dX4_reckon_63 rfl ?_
        refine rr_iload_n (pc := 64) dX4_reckon_64 rfl ?_
        refine rr_icmp_gt (pc := 65) (tgt := 80) dX4_reckon_65 (by decide) (by unfold zR; omega) (by unfold zR; omega) (fun h65 => ?_) (fun h65 => ?_)
        · exact hend Wj sh (by omega) hO hT hB
        · refine rr_aload_n (pc := 68) dX4_reckon_68 rfl ?_
          refine rr_iload_n (pc := 69) dX4_reckon_69 rfl ?_
          refine rr_iload_n (pc := 70) dX4_reckon_70 rfl ?_
          obtain ⟨shn, rfl⟩ := Int.eq_ofNat_of_zero_le (show 0 ≤ sh by omega)
          refine rr_inv0 (M' := MX4_reckonFrom) (k := w) (As := [_, _]) (pc := 71) dX4_reckon_71 lX4_89 kX4_reckonFrom vX4_reckonFrom hw.k (by decide) rfl (by decide) (by decide) (Nat.le_of_ble_eq_true rfl) rfl (eX4_reckonFrom (fr := fr) (sh := shn) hw (hS.off (hO w (by omega) (by omega)) (hO (w + 2) (by omega) (by omega))) (by omega) (by omega) (zTb.rd (by exact hT) s8 (by omega)) (fun W1 g1 g2 g3 g4 => ?_))
          refine rr_iinc (pc := 74) dX4_reckon_74 rfl (by decide) ?_
          refine rr_goto (pc := 77) (tgt := 55) dX4_reckon_77 (by decide) ?_
          exact ih (shn + 1) W1 (by omega) (by omega) (fun k a1 a2 => (g1 k a1 a2).trans (hO k a1 a2)) (hT.keep (by omega) (by omega) (by omega) g2) (fun s a1 a2 => by
            by_cases q : s = shn
            · subst q; exact ⟨g3, fun _ => g4⟩
            · obtain ⟨q1, q2⟩ := g2 ((fr : Int) * 10 + s) (by omega)
              obtain ⟨q3, q4⟩ := hB s a1 (by omega)
              exact ⟨q1.trans q3, fun z1 z2 => q2.trans (q4 z1 z2)⟩) (by omega)
  exact loop _ 1 Wi (by omega) (by omega) hO hT (fun s a1 a2 => by omega) (Nat.lt_succ_self _)
set_option maxHeartbeats 1000000 in
theorem eX4_reckon {w : Nat} {W : zWd} {F : Nat → Int} {L must rc bal : Nat}  {Q : Option Value → zWd → Prop} {X : zX} (hw : zWy w) (hS : zWS W w F L must rc bal) (hq : ∀ W' : zWd, (∀ k : Nat, k ≠ w + 3 → k ≠ w + 4 → W' k = W k) → zTb W' w F L must rc bal 0 → Q none W') : Ev MX4_reckon 2 0 W [.ref w] Q X := by
  refine ev_of (ls := [.ref w, .null, .null]) (by decide) rfl (fun _ => rfl) (fun _ => Nat.le_of_ble_eq_true rfl) (Or.inl rfl) ?_
  obtain ⟨s1, s2, s3, s4, s5, s6, s7, s8, s9, s10, s11, s12, s13, s14, s15⟩ := id hS
  have loop : ∀ (n : Nat) (fr : Int) (Wi : zWd) (v2 : Value), -1 ≤ fr → fr < L → (∀ k : Nat, k ≠ w + 3 → k ≠ w + 4 → Wi k = W k) → zTb Wi w F L must rc bal (fr + 1) → (fr + 1).toNat < n → RR MX4_reckon 2 0 Wi 20 [.ref w, zI fr, v2] [] (zEnd MX4_reckon Q X) X := by
    intro n
    induction n with
    | zero => intro fr Wi v2 _ _ _ _ hm9; omega
    | succ n ih =>
      intro fr Wi v2 h1 h2 hO hT hm9
      refine rr_iload_n (pc := 20) dX4_reckon_20 rfl ?_
      refine rr_if_lt (pc := 21) (tgt := 86) dX4_reckon_21 (by decide) (by unfold zR; omega) (fun h21 => ?_) (fun h21 => ?_)
      · exact rr_retv (pc := 86) dX4_reckon_86 rfl rfl (hq Wi hO (fun k s a1 a2 a3 => hT k s (by omega) a2 a3))
      · obtain ⟨fr, rfl⟩ := Int.eq_ofNat_of_zero_le (show 0 ≤ fr by omega)
        have eF : Wi (w + 2) fr = F fr := by rw [hO (w + 2) (by omega) (by omega)]; exact s5 fr (by omega)
        have hFr := s8 fr (by omega)
        refine rr_aload_n (pc := 24) dX4_reckon_24 rfl ?_
        refine rr_getR (pc := 25) dX4_reckon_25 fX4_15 hw.k hw.r8 ?_
        refine rr_iload_n (pc := 28) dX4_reckon_28 rfl ?_
        refine rr_iald (pc := 29) dX4_reckon_29 hw.a2 (by omega) (by omega) ?_
        rw [eF]
        refine rr_iconst (n := 2) dX4_reckon_30 ?_
        refine rr_icmp_ne (pc := 31) (tgt := 43) dX4_reckon_31 (by decide) (by unfold zR; omega) (by unfold zR; omega) (fun h31 => ?_) (fun h31 => ?_)
        · refine rr_aload_n (pc := 43) dX4_reckon_43 rfl ?_
          refine rr_getR (pc := 44) dX4_reckon_44 fX4_15 hw.k hw.r8 ?_
          refine rr_iload_n (pc := 47) dX4_reckon_47 rfl ?_
          refine rr_iald (pc := 48) dX4_reckon_48 hw.a2 (by omega) (by omega) ?_
          rw [eF]
          refine rr_iconst (n := 1) dX4_reckon_49 ?_
          refine rr_icmp_ne (pc := 50) (tgt := 80) dX4_reckon_50 (by decide) (by unfold zR; omega) (by unfold zR; omega) (fun h50 => ?_) (fun h50 => ?_)
          · refine rr_iinc (pc := 80) dX4_reckon_80 rfl (by decide) ?_
            refine rr_goto (pc := 83) (tgt := 20) dX4_reckon_83 (by decide) ?_
            exact ih ((fr : Int) + -1) Wi _ (by omega) (by omega) hO (fun k s a1 a2 a3 => by
              by_cases q : k = fr
              · subst q
                rcases a3 with ⟨a3, -⟩ | ⟨a3, -⟩ <;> omega
              · exact hT k s (by omega) a2 a3) (by omega)
          · refine rr_iconst (n := 1) dX4_reckon_53 ?_
            refine rr_istore_n (pc := 54) dX4_reckon_54 (by decide) ?_
            refine z_reckon_in hw hS (by omega) (fun Wj sh hs hO hT hB => ?_) Wi hO hT
            refine rr_iinc (pc := 80) dX4_reckon_80 rfl (by decide) ?_
            refine rr_goto (pc := 83) (tgt := 20) dX4_reckon_83 (by decide) ?_
            exact ih ((fr : Int) + -1) Wj _ (by omega) (by omega) hO (fun k s a1 a2 a3 => by
              by_cases q : k = fr
              · subst q
                rcases a3 with ⟨a3, -⟩ | ⟨-, a3, a4, a5⟩
                · omega
                · exact hB s a3 (by omega)
              · exact hT k s (by omega) a2 a3) (by omega)
        · refine rr_aload_n (pc := 34) dX4_reckon_34 rfl ?_
          refine rr_iload_n (pc := 35) dX4_reckon_35 rfl ?_
          refine rr_iconst (n := 0) dX4_reckon_36 ?_
          refine rr_inv0 (M' := MX4_reckonFrom) (k := w) (As := [_, _]) (pc := 37) dX4_reckon_37 lX4_89 kX4_reckonFrom vX4_reckonFrom hw.k (by decide) rfl (by decide) (by decide) (Nat.le_of_ble_eq_true rfl) rfl (eX4_reckonFrom (fr := fr) (sh := 0) hw (hS.off (hO w (by omega) (by omega)) (hO (w + 2) (by omega) (by omega))) (by omega) (by omega) (zTb.rd (by exact hT) s8 (by omega)) (fun W1 g1 g2 g3 g4 => ?_))
          refine rr_goto (pc := 40) (tgt := 80) dX4_reckon_40 (by decide) ?_
          refine rr_iinc (pc := 80) dX4_reckon_80 rfl (by decide) ?_
          refine rr_goto (pc := 83) (tgt := 20) dX4_reckon_83 (by decide) ?_
          exact ih ((fr : Int) + -1) W1 _ (by omega) (by omega) (fun k a1 a2 => (g1 k a1 a2).trans (hO k a1 a2)) (fun k s a1 a2 a3 => by
            by_cases q : k = fr
            · subst q
              rcases a3 with ⟨-, rfl⟩ | ⟨a3, -⟩
              · exact ⟨g3, fun _ => g4⟩
              · omega
            · exact (hT.keep (by omega) (by omega) (by omega) g2) k s (by omega) a2 a3) (by omega)
  refine rr_aload_n (pc := 0) dX4_reckon_0 rfl ?_
  refine rr_getR (pc := 1) dX4_reckon_1 fX4_18 hw.k hw.r9 ?_
  refine rr_aload_n (pc := 4) dX4_reckon_4 rfl ?_
  refine rr_getI (pc := 5) (ji := 4) dX4_reckon_5 fX4_52 hw.k hw.i4 rfl ?_
  rw [s1]
  refine rr_bipush (n := (10)) dX4_reckon_8 ?_
  refine rr_imul (pc := 10) dX4_reckon_10 ?_
  refine rr_iconst (n := 0) dX4_reckon_11 ?_
  refine rr_iast (pc := 12) dX4_reckon_12 hw.a3 (by omega) (by omega) ?_
  refine rr_aload_n (pc := 13) dX4_reckon_13 rfl ?_
  refine rr_getI (pc := 14) (ji := 4) dX4_reckon_14 fX4_52 hw.k hw.i4 rfl ?_
  rw [zup_k (by omega), s1]
  refine rr_iconst (n := 1) dX4_reckon_17 ?_
  refine rr_isub (pc := 18) dX4_reckon_18 ?_
  refine rr_istore_n (pc := 19) dX4_reckon_19 (by decide) ?_
  exact loop _ ((L : Int) - 1) _ .null (by omega) (by omega) (fun k g1 g2 => zup_other k g1) (fun k s a1 a2 a3 => by
    have hk : k = L := by omega
    subst hk
    rcases a3 with ⟨-, rfl⟩ | ⟨a3, -⟩
    · exact ⟨by rw [show (((k : Nat) : Int) * 10 + ((0 : Nat) : Int)) = (k : Int) * 10 by omega, zup_s, zV_goal], fun z => by omega⟩
    · omega) (Nat.lt_succ_self _)
end
section
theorem zHp_L {F : Nat → Int} {L must rc bal : Nat} (m s : Nat) : zHp F L must rc bal m L s = [] := by
  cases m with
  | zero => rfl
  | succ m => unfold zHp; rw [if_pos rfl]
theorem zHp_s {F : Nat → Int} {L must rc bal k s m : Nat} (h : k < L) : zHp F L must rc bal (m + 1) k s = zNx F L must rc bal k s :: zHp F L must rc bal m (zNx F L must rc bal k s) (zRn F (zNx F L must rc bal k s) s) := by
  rw [zHp, if_neg (by omega)]
theorem zRc_nx {F : Nat → Int} {L must bal k to s : Nat} (hok : zOk F L must bal k to s) (hF : F to ≤ 2) (hs : s ≤ k) (hk : k < to) : zRc F bal to (zRn F to s) := by
  have h3 := hok.2.2.1
  have h4 := hok.2.2.2
  unfold zRc
  unfold zRn at h4 ⊢
  by_cases q : F to = 2
  · rw [if_pos q]; exact Or.inl ⟨q, rfl⟩
  · rw [if_neg q] at h4 ⊢; exact Or.inr ⟨by omega, by omega, by omega, by omega⟩
theorem z_getD_app {l : List Nat} {x i : Nat} (h : i < l.length) : (l ++ [x]).getD i 0 = l.getD i 0 := by
  simp [List.getD, List.getElem?_append_left h]
theorem z_getD_end {l : List Nat} {x : Nat} : (l ++ [x]).getD l.length 0 = x := by
  simp [List.getD]
theorem dX4_follow_0 : decode cX4_follow 0 = .ok (.iconst 0, 1) := by decide +kernel
theorem dX4_follow_1 : decode cX4_follow 1 = .ok (.istore_n 1, 1) := by decide +kernel
theorem dX4_follow_2 : decode cX4_follow 2 = .ok (.iconst 0, 1) := by decide +kernel
theorem dX4_follow_3 : decode cX4_follow 3 = .ok (.istore_n 2, 1) := by decide +kernel
theorem dX4_follow_4 : decode cX4_follow 4 = .ok (.iload_n 1, 1) := by decide +kernel
theorem dX4_follow_5 : decode cX4_follow 5 = .ok (.aload_n 0, 1) := by decide +kernel
theorem dX4_follow_6 : decode cX4_follow 6 = .ok (.getfield 52, 3) := by decide +kernel
theorem dX4_follow_9 : decode cX4_follow 9 = .ok (.if_icmp .ge 74, 3) := by decide +kernel
theorem dX4_follow_12 : decode cX4_follow 12 = .ok (.aload_n 0, 1) := by decide +kernel
theorem dX4_follow_13 : decode cX4_follow 13 = .ok (.getfield 32, 3) := by decide +kernel
theorem dX4_follow_16 : decode cX4_follow 16 = .ok (.aload_n 0, 1) := by decide +kernel
theorem dX4_follow_17 : decode cX4_follow 17 = .ok (.getfield 9, 3) := by decide +kernel
theorem dX4_follow_20 : decode cX4_follow 20 = .ok (.arraylength, 1) := by decide +kernel
theorem dX4_follow_21 : decode cX4_follow 21 = .ok (.if_icmp .ge 62, 3) := by decide +kernel
theorem dX4_follow_24 : decode cX4_follow 24 = .ok (.iload_n 1, 1) := by decide +kernel
theorem dX4_follow_25 : decode cX4_follow 25 = .ok (.aload_n 0, 1) := by decide +kernel
theorem dX4_follow_26 : decode cX4_follow 26 = .ok (.getfield 21, 3) := by decide +kernel
theorem dX4_follow_29 : decode cX4_follow 29 = .ok (.iload_n 1, 1) := by decide +kernel
theorem dX4_follow_30 : decode cX4_follow 30 = .ok (.bipush 10, 2) := by decide +kernel
theorem dX4_follow_32 : decode cX4_follow 32 = .ok (.imul, 1) := by decide +kernel
theorem dX4_follow_33 : decode cX4_follow 33 = .ok (.iload_n 2, 1) := by decide +kernel
theorem dX4_follow_34 : decode cX4_follow 34 = .ok (.iadd, 1) := by decide +kernel
theorem dX4_follow_35 : decode cX4_follow 35 = .ok (.iaload, 1) := by decide +kernel
theorem dX4_follow_36 : decode cX4_follow 36 = .ok (.iadd, 1) := by decide +kernel
theorem dX4_follow_37 : decode cX4_follow 37 = .ok (.istore_n 1, 1) := by decide +kernel
theorem dX4_follow_38 : decode cX4_follow 38 = .ok (.aload_n 0, 1) := by decide +kernel
theorem dX4_follow_39 : decode cX4_follow 39 = .ok (.getfield 15, 3) := by decide +kernel
theorem dX4_follow_42 : decode cX4_follow 42 = .ok (.iload_n 1, 1) := by decide +kernel
theorem dX4_follow_43 : decode cX4_follow 43 = .ok (.iaload, 1) := by decide +kernel
theorem dX4_follow_44 : decode cX4_follow 44 = .ok (.iconst 2, 1) := by decide +kernel
theorem dX4_follow_45 : decode cX4_follow 45 = .ok (.if_icmp .ne 7, 3) := by decide +kernel
theorem dX4_follow_48 : decode cX4_follow 48 = .ok (.iconst 0, 1) := by decide +kernel
theorem dX4_follow_49 : decode cX4_follow 49 = .ok (.goto 6, 3) := by decide +kernel
theorem dX4_follow_52 : decode cX4_follow 52 = .ok (.iload_n 2, 1) := by decide +kernel
theorem dX4_follow_53 : decode cX4_follow 53 = .ok (.iconst 1, 1) := by decide +kernel
theorem dX4_follow_54 : decode cX4_follow 54 = .ok (.iadd, 1) := by decide +kernel
theorem dX4_follow_55 : decode cX4_follow 55 = .ok (.istore_n 2, 1) := by decide +kernel
theorem dX4_follow_56 : decode cX4_follow 56 = .ok (.aload_n 0, 1) := by decide +kernel
theorem dX4_follow_57 : decode cX4_follow 57 = .ok (.getfield 9, 3) := by decide +kernel
theorem dX4_follow_60 : decode cX4_follow 60 = .ok (.aload_n 0, 1) := by decide +kernel
theorem dX4_follow_61 : decode cX4_follow 61 = .ok (.getfield 32, 3) := by decide +kernel
theorem dX4_follow_64 : decode cX4_follow 64 = .ok (.aload_n 0, 1) := by decide +kernel
theorem dX4_follow_65 : decode cX4_follow 65 = .ok (.iload_n 1, 1) := by decide +kernel
theorem dX4_follow_66 : decode cX4_follow 66 = .ok (.invokevirtual 82, 3) := by decide +kernel
theorem dX4_follow_69 : decode cX4_follow 69 = .ok (.iastore, 1) := by decide +kernel
theorem dX4_follow_70 : decode cX4_follow 70 = .ok (.aload_n 0, 1) := by decide +kernel
theorem dX4_follow_71 : decode cX4_follow 71 = .ok (.dup, 1) := by decide +kernel
theorem dX4_follow_72 : decode cX4_follow 72 = .ok (.getfield 32, 3) := by decide +kernel
theorem dX4_follow_75 : decode cX4_follow 75 = .ok (.iconst 1, 1) := by decide +kernel
theorem dX4_follow_76 : decode cX4_follow 76 = .ok (.iadd, 1) := by decide +kernel
theorem dX4_follow_77 : decode cX4_follow 77 = .ok (.putfield 32, 3) := by decide +kernel
theorem dX4_follow_80 : decode cX4_follow 80 = .ok (.goto (-76), 3) := by decide +kernel
theorem dX4_follow_83 : decode cX4_follow 83 = .ok (.return_, 1) := by decide +kernel
set_option maxHeartbeats 1000000 in
theorem eX4_follow {w : Nat} {W : zWd} {F : Nat → Int} {L must rc bal : Nat}  {Q : Option Value → zWd → Prop} {X : zX} (hw : zWy w) (hS : zWS W w F L must rc bal) (hT : zTb W w F L must rc bal 0) (hV0 : zV F L must rc bal 0 0 < 1000000) (h20 : W w 2 = 0) (hb : zR (W w 0)) (hq : ∀ W' : zWd, (∀ j : Int, j ≠ 2 → W' w j = W w j) → (∀ k' : Nat, k' ≠ w → k' ≠ w + 1 → W' k' = W k') → W' w 2 = (zHp F L must rc bal (L + 1) 0 0).length → (∀ i : Nat, i < (zHp F L must rc bal (L + 1) 0 0).length → W' (w + 1) i = zRa (W w 0) L ((zHp F L must rc bal (L + 1) 0 0).getD i 0 : Nat)) → Q none W') : Ev MX4_follow 1 0 W [.ref w] Q X := by
  refine ev_of (ls := [.ref w, .null, .null]) (by decide) rfl (fun _ => rfl) (fun _ => Nat.le_of_ble_eq_true rfl) (Or.inl rfl) ?_
  obtain ⟨s1, s2, s3, s4, s5, s6, s7, s8, s9, s10, s11, s12, s13, s14, s15⟩ := id hS
  have loop : ∀ (n : Nat) (k s : Nat) (pre : List Nat) (mm : Nat) (Wi : zWd), zHp F L must rc bal (L + 1) 0 0 = pre ++ zHp F L must rc bal mm k s → pre.length ≤ k → k ≤ L → L + 1 ≤ mm + k → zV F L must rc bal k s < 1000000 → zRc F bal k s → (∀ j : Int, j ≠ 2 → Wi w j = W w j) → (∀ k' : Nat, k' ≠ w → k' ≠ w + 1 → Wi k' = W k') → Wi w 2 = pre.length → (∀ i : Nat, i < pre.length → Wi (w + 1) i = zRa (W w 0) L (pre.getD i 0 : Nat)) → (L - k) < n → RR MX4_follow 1 0 Wi 4 [.ref w, zI (k : Int), zI (s : Int)] [] (zEnd MX4_follow Q X) X := by
    intro n
    induction n with
    | zero => intro k s pre mm Wi _ _ _ _ _ _ _ _ _ _ hm9; omega
    | succ n ih =>
      intro k s pre mm Wi hl hn hkL hmm hv hr hO0 hO h2 hrows hm9
      refine rr_iload_n (pc := 4) dX4_follow_4 rfl ?_
      refine rr_aload_n (pc := 5) dX4_follow_5 rfl ?_
      refine rr_getI (pc := 6) (ji := 4) dX4_follow_6 fX4_52 hw.k hw.i4 rfl ?_
      rw [hO0 4 (by omega), s1]
      refine rr_icmp_ge (pc := 9) (tgt := 83) dX4_follow_9 (by decide) (by unfold zR; omega) (by unfold zR; omega) (fun h9 => ?_) (fun h9 => ?_)
      · have hkl : k = L := by omega
        exact rr_retv (pc := 83) dX4_follow_83 rfl rfl (hq Wi hO0 hO (by rw [hkl] at hl; rw [h2, hl, zHp_L, List.append_nil]) (fun i hi => by rw [hkl] at hl; rw [hl, zHp_L, List.append_nil] at hi ⊢; exact hrows i hi))
      · refine rr_aload_n (pc := 12) dX4_follow_12 rfl ?_
        refine rr_getI (pc := 13) (ji := 2) dX4_follow_13 fX4_32 hw.k hw.i2 rfl ?_
        rw [h2]
        refine rr_aload_n (pc := 16) dX4_follow_16 rfl ?_
        refine rr_getR (pc := 17) dX4_follow_17 fX4_9 hw.k hw.r3 ?_
        refine rr_alen (pc := 20) (ni := 11) dX4_follow_20 hw.a1 (by decide) rfl ?_
        refine rr_icmp_ge (pc := 21) (tgt := 83) dX4_follow_21 (by decide) (by unfold zR; omega) (by unfold zR; omega) (fun h21 => ?_) (fun h21 => ?_)
        · omega
        · obtain ⟨m, rfl⟩ : ∃ m, mm = m + 1 := ⟨mm - 1, by omega⟩
          obtain ⟨n1, n2, n3, n5, -, -⟩ := zNx_spec (F := F) (L := L) (must := must) (rc := rc) (bal := bal) (k := k) (run := s) (by omega) hv
          have n4 : zNx F L must rc bal k s ≤ L := n3.1
          have n6 := n3.2.2.2
          have n7 := n3.2.2.1
          have hsb : s ≤ 9 := by unfold zRc at hr; omega
          have eF : Wi (w + 2) (zNx F L must rc bal k s : Nat) = F (zNx F L must rc bal k s) := by rw [hO (w + 2) (by omega) (by omega)]; exact s5 _ n4
          have hFr := s8 _ n4
          refine rr_iload_n (pc := 24) dX4_follow_24 rfl ?_
          refine rr_aload_n (pc := 25) dX4_follow_25 rfl ?_
          refine rr_getR (pc := 26) dX4_follow_26 fX4_21 hw.k hw.r10 ?_
          refine rr_iload_n (pc := 29) dX4_follow_29 rfl ?_
          refine rr_bipush (n := (10)) dX4_follow_30 ?_
          refine rr_imul (pc := 32) dX4_follow_32 ?_
          refine rr_iload_n (pc := 33) dX4_follow_33 rfl ?_
          refine rr_iadd (pc := 34) dX4_follow_34 ?_
          refine rr_iald (pc := 35) dX4_follow_35 hw.a4 (by omega) (by omega) ?_
          rw [hO (w + 4) (by omega) (by omega), (hT k s (by omega) (by omega) hr).2 (by omega) hv]
          refine rr_iadd (pc := 36) dX4_follow_36 ?_
          rw [show (k : Int) + (((zNx F L must rc bal k s : Nat) : Int) - k) = (zNx F L must rc bal k s : Nat) by omega]
          refine rr_istore_n (pc := 37) dX4_follow_37 (by decide) ?_
          refine rr_aload_n (pc := 38) dX4_follow_38 rfl ?_
          refine rr_getR (pc := 39) dX4_follow_39 fX4_15 hw.k hw.r8 ?_
          refine rr_iload_n (pc := 42) dX4_follow_42 rfl ?_
          refine rr_iald (pc := 43) dX4_follow_43 hw.a2 (by omega) (by omega) ?_
          rw [eF]
          refine rr_iconst (n := 2) dX4_follow_44 ?_
          refine rr_icmp_ne (pc := 45) (tgt := 52) dX4_follow_45 (by decide) (by unfold zR; omega) (by unfold zR; omega) (fun h45 => ?_) (fun h45 => ?_)
          · have hrn : zRn F (zNx F L must rc bal k s) s = s + 1 := if_neg h45
            refine rr_iload_n (pc := 52) dX4_follow_52 rfl ?_
            refine rr_iconst (n := 1) dX4_follow_53 ?_
            refine rr_iadd (pc := 54) dX4_follow_54 ?_
            refine rr_istore_n (pc := 55) dX4_follow_55 (by decide) ?_
            refine rr_aload_n (pc := 56) dX4_follow_56 rfl ?_
            refine rr_getR (pc := 57) dX4_follow_57 fX4_9 hw.k hw.r3 ?_
            refine rr_aload_n (pc := 60) dX4_follow_60 rfl ?_
            refine rr_getI (pc := 61) (ji := 2) dX4_follow_61 fX4_32 hw.k hw.i2 rfl ?_
            rw [h2]
            refine rr_aload_n (pc := 64) dX4_follow_64 rfl ?_
            refine rr_iload_n (pc := 65) dX4_follow_65 rfl ?_
            refine rr_inv0 (M' := MX4_rowAt) (k := w) (As := [_]) (pc := 66) dX4_follow_66 lX4_82 kX4_rowAt vX4_rowAt hw.k (by decide) rfl (by decide) (by decide) (Nat.le_of_ble_eq_true rfl) rfl (eX4_rowAt hw (by rw [hO0 0 (by omega)]; exact hb) ?_)
            rw [hO0 0 (by omega), hO0 4 (by omega), s1]
            refine rr_iast (pc := 69) dX4_follow_69 hw.a1 (by omega) (by omega) ?_
            refine rr_aload_n (pc := 70) dX4_follow_70 rfl ?_
            refine rr_dup_r (pc := 71) dX4_follow_71 ?_
            refine rr_getI (pc := 72) (ji := 2) dX4_follow_72 fX4_32 hw.k hw.i2 rfl ?_
            rw [zup_k (by omega), h2]
            refine rr_iconst (n := 1) dX4_follow_75 ?_
            refine rr_iadd (pc := 76) dX4_follow_76 ?_
            refine rr_put (pc := 77) (ji := 2) dX4_follow_77 fX4_32 fp_4_2 hw.k hw.i2 rfl ?_
            refine rr_goto (pc := 80) (tgt := 4) dX4_follow_80 (by decide) ?_
            refine rr_eqL (ls' := [.ref w, zI (zNx F L must rc bal k s : Nat), zI (zRn F (zNx F L must rc bal k s) s : Nat)]) (by rw [hrn]; rfl) (ih (zNx F L must rc bal k s) (zRn F (zNx F L must rc bal k s) s) (pre ++ [zNx F L must rc bal k s]) m _ (by rw [hl, zHp_s (by omega), List.append_assoc]; rfl) (by rw [List.length_append, List.length_singleton]; omega) n4 (by omega) n5 (zRc_nx n3 (by omega) (by unfold zRc at hr; omega) n1) (fun j hj => by rw [zup_i hj, zup_k (by omega)]; exact hO0 j hj) (fun k' a1 a2 => by rw [zup_other k' a1, zup_other k' a2]; exact hO k' a1 a2) (by rw [zup_s, List.length_append, List.length_singleton]; omega) (fun i hi => ?_) (by omega))
            rw [zup_k (by omega)]
            rw [List.length_append, List.length_singleton] at hi
            by_cases q : i = pre.length
            · subst q
              rw [zup_s, z_getD_end]
            · rw [zup_i (by omega), z_getD_app (by omega)]
              exact hrows i (by omega)
          · have hrn : zRn F (zNx F L must rc bal k s) s = 0 := if_pos h45
            refine rr_iconst (n := 0) dX4_follow_48 ?_
            refine rr_goto (pc := 49) (tgt := 55) dX4_follow_49 (by decide) ?_
            refine rr_istore_n (pc := 55) dX4_follow_55 (by decide) ?_
            refine rr_aload_n (pc := 56) dX4_follow_56 rfl ?_
            refine rr_getR (pc := 57) dX4_follow_57 fX4_9 hw.k hw.r3 ?_
            refine rr_aload_n (pc := 60) dX4_follow_60 rfl ?_
            refine rr_getI (pc := 61) (ji := 2) dX4_follow_61 fX4_32 hw.k hw.i2 rfl ?_
            rw [h2]
            refine rr_aload_n (pc := 64) dX4_follow_64 rfl ?_
            refine rr_iload_n (pc := 65) dX4_follow_65 rfl ?_
            refine rr_inv0 (M' := MX4_rowAt) (k := w) (As := [_]) (pc := 66) dX4_follow_66 lX4_82 kX4_rowAt vX4_rowAt hw.k (by decide) rfl (by decide) (by decide) (Nat.le_of_ble_eq_true rfl) rfl (eX4_rowAt hw (by rw [hO0 0 (by omega)]; exact hb) ?_)
            rw [hO0 0 (by omega), hO0 4 (by omega), s1]
            refine rr_iast (pc := 69) dX4_follow_69 hw.a1 (by omega) (by omega) ?_
            refine rr_aload_n (pc := 70) dX4_follow_70 rfl ?_
            refine rr_dup_r (pc := 71) dX4_follow_71 ?_
            refine rr_getI (pc := 72) (ji := 2) dX4_follow_72 fX4_32 hw.k hw.i2 rfl ?_
            rw [zup_k (by omega), h2]
            refine rr_iconst (n := 1) dX4_follow_75 ?_
            refine rr_iadd (pc := 76) dX4_follow_76 ?_
            refine rr_put (pc := 77) (ji := 2) dX4_follow_77 fX4_32 fp_4_2 hw.k hw.i2 rfl ?_
            refine rr_goto (pc := 80) (tgt := 4) dX4_follow_80 (by decide) ?_
            refine rr_eqL (ls' := [.ref w, zI (zNx F L must rc bal k s : Nat), zI (zRn F (zNx F L must rc bal k s) s : Nat)]) (by rw [hrn]; rfl) (ih (zNx F L must rc bal k s) (zRn F (zNx F L must rc bal k s) s) (pre ++ [zNx F L must rc bal k s]) m _ (by rw [hl, zHp_s (by omega), List.append_assoc]; rfl) (by rw [List.length_append, List.length_singleton]; omega) n4 (by omega) n5 (zRc_nx n3 (by omega) (by unfold zRc at hr; omega) n1) (fun j hj => by rw [zup_i hj, zup_k (by omega)]; exact hO0 j hj) (fun k' a1 a2 => by rw [zup_other k' a1, zup_other k' a2]; exact hO k' a1 a2) (by rw [zup_s, List.length_append, List.length_singleton]; omega) (fun i hi => ?_) (by omega))
            rw [zup_k (by omega)]
            rw [List.length_append, List.length_singleton] at hi
            by_cases q : i = pre.length
            · subst q
              rw [zup_s, z_getD_end]
            · rw [zup_i (by omega), z_getD_app (by omega)]
              exact hrows i (by omega)
  refine rr_iconst (n := 0) dX4_follow_0 ?_
  refine rr_istore_n (pc := 1) dX4_follow_1 (by decide) ?_
  refine rr_iconst (n := 0) dX4_follow_2 ?_
  refine rr_istore_n (pc := 3) dX4_follow_3 (by decide) ?_
  exact loop _ 0 0 [] (L + 1) W rfl (Nat.le_refl _) (by omega) (by omega) hV0 (Or.inl ⟨s6, rfl⟩) (fun _ _ => rfl) (fun _ _ _ => rfl) (by rw [h20]; rfl) (fun i hi => by cases hi) (Nat.lt_succ_self _)
def aUse (a : Int → Int) (q own : Int) (i : Nat) : Bool := decide ((i : Int) ≠ own) && decide (¬ aForb a q i) && !(zMks a q (a 2).toNat).testBit i
def zFt (a : Int → Int) (q own bk : Int) (k : Nat) : Int :=
  if k = 0 ∨ a 0 + 1 ≤ (k : Int) then 2 else zFo (aF a (zRa bk (a 0 + 1) k).toNat).toNat (a (8 + zRa bk (a 0 + 1) k)) (aUse a q own) (fun i => decide (aO a i = q))
theorem zFo_rng (f : Nat) (w : Int) (u o : Nat → Bool) : 0 ≤ zFo f w u o ∧ zFo f w u o ≤ 2 := by
  unfold zFo; (repeat' split) <;> omega
theorem zFt_rng (a : Int → Int) (q own bk : Int) (k : Nat) : 0 ≤ zFt a q own bk k ∧ zFt a q own bk k ≤ 2 := by
  unfold zFt; split
  · omega
  · exact zFo_rng _ _ _ _
theorem zFo_cg {f : Nat} {w : Int} {u u' o o' : Nat → Bool} (h1 : u f = u' f) (h2 : o f = o' f) (h3 : w = 2 → u (f + 1) = u' (f + 1)) (h4 : w = 2 → o (f + 1) = o' (f + 1)) : zFo f w u o = zFo f w u' o' := by
  unfold zFo
  by_cases h : w = 2
  · rw [h1, h2, h3 h, h4 h]
  · simp [h, h1, h2]
theorem zFo_use {T : Int} {a : Int → Int} {q own : Int} {ob : Nat} {r : Int} (hw : zWf T a) (h0 : 0 ≤ r) (h1 : r < a 0) (hob : ∀ i : Nat, 1 ≤ i → (i : Int) ≤ a 1 → (ob.testBit i = true ↔ (i : Int) = own)) :
    zFo (aF a r.toNat).toNat (a (8 + r)) (fun i => (aUset a q (zMks a q (a 2).toNat ||| ob)).testBit i) (fun i => (zSet (fun s => decide (aO a s = q)) (a 1).toNat).testBit i) = zFo (aF a r.toNat).toNat (a (8 + r)) (aUse a q own) (fun i => decide (aO a i = q)) := by
  have hsq := zWf.sq hw
  have hf := aF_lo hw (r := r.toNat) (by omega)
  have hf2 := aF_le hw (r := r.toNat + 1) (by omega)
  have hst := aF_step (a := a) r.toNat
  rw [show ((r.toNat : Nat) : Int) = r by omega] at hst
  have hww := hw.2.2.1 r h0 h1
  have key : ∀ i : Nat, 1 ≤ i → (i : Int) ≤ a 1 → (aUset a q (zMks a q (a 2).toNat ||| ob)).testBit i = aUse a q own i ∧ (zSet (fun s => decide (aO a s = q)) (a 1).toNat).testBit i = decide (aO a i = q) := by
    intro i g1 g2
    refine ⟨?_, ?_⟩
    · rw [Bool.eq_iff_iff, aUset_bit (by omega), Nat.testBit_or]
      have h9 := hob i g1 g2
      unfold aUse
      by_cases e1 : aO a i = -1 <;> by_cases e2 : aO a i = q <;> cases hb : ob.testBit i <;> cases hm : (zMks a q (a 2).toNat).testBit i <;> simp [hb, g1, g2, aForb, e1, e2] at h9 ⊢ <;> simp_all
    · rw [zSet_bit]
      have : 1 ≤ i ∧ i ≤ (a 1).toNat := by omega
      simp [this]
  obtain ⟨k1, k2⟩ := key (aF a r.toNat).toNat (by omega) (by omega)
  refine zFo_cg k1 k2 (fun h => ?_) (fun h => ?_)
  · exact (key ((aF a r.toNat).toNat + 1) (by omega) (by omega)).1
  · exact (key ((aF a r.toNat).toNat + 1) (by omega) (by omega)).2
theorem dX4_layFootings_0 : decode cX4_layFootings 0 = .ok (.aload_n 0, 1) := by decide +kernel
theorem dX4_layFootings_1 : decode cX4_layFootings 1 = .ok (.getfield 24, 3) := by decide +kernel
theorem dX4_layFootings_4 : decode cX4_layFootings 4 = .ok (.ifCond .eq 7, 3) := by decide +kernel
theorem dX4_layFootings_7 : decode cX4_layFootings 7 = .ok (.iconst 0, 1) := by decide +kernel
theorem dX4_layFootings_8 : decode cX4_layFootings 8 = .ok (.goto 6, 3) := by decide +kernel
theorem dX4_layFootings_11 : decode cX4_layFootings 11 = .ok (.iconst 1, 1) := by decide +kernel
theorem dX4_layFootings_12 : decode cX4_layFootings 12 = .ok (.iload_n 3, 1) := by decide +kernel
theorem dX4_layFootings_13 : decode cX4_layFootings 13 = .ok (.ishl, 1) := by decide +kernel
theorem dX4_layFootings_14 : decode cX4_layFootings 14 = .ok (.istore 4, 2) := by decide +kernel
theorem dX4_layFootings_16 : decode cX4_layFootings 16 = .ok (.aload_n 1, 1) := by decide +kernel
theorem dX4_layFootings_17 : decode cX4_layFootings 17 = .ok (.iload_n 2, 1) := by decide +kernel
theorem dX4_layFootings_18 : decode cX4_layFootings 18 = .ok (.aload_n 1, 1) := by decide +kernel
theorem dX4_layFootings_19 : decode cX4_layFootings 19 = .ok (.iload_n 2, 1) := by decide +kernel
theorem dX4_layFootings_20 : decode cX4_layFootings 20 = .ok (.invokevirtual 72, 3) := by decide +kernel
theorem dX4_layFootings_23 : decode cX4_layFootings 23 = .ok (.iload 4, 2) := by decide +kernel
theorem dX4_layFootings_25 : decode cX4_layFootings 25 = .ok (.ior, 1) := by decide +kernel
theorem dX4_layFootings_26 : decode cX4_layFootings 26 = .ok (.invokevirtual 76, 3) := by decide +kernel
theorem dX4_layFootings_29 : decode cX4_layFootings 29 = .ok (.istore 5, 2) := by decide +kernel
theorem dX4_layFootings_31 : decode cX4_layFootings 31 = .ok (.aload_n 1, 1) := by decide +kernel
theorem dX4_layFootings_32 : decode cX4_layFootings 32 = .ok (.iload_n 2, 1) := by decide +kernel
theorem dX4_layFootings_33 : decode cX4_layFootings 33 = .ok (.invokevirtual 79, 3) := by decide +kernel
theorem dX4_layFootings_36 : decode cX4_layFootings 36 = .ok (.istore 6, 2) := by decide +kernel
theorem dX4_layFootings_38 : decode cX4_layFootings 38 = .ok (.aload_n 0, 1) := by decide +kernel
theorem dX4_layFootings_39 : decode cX4_layFootings 39 = .ok (.getfield 15, 3) := by decide +kernel
theorem dX4_layFootings_42 : decode cX4_layFootings 42 = .ok (.iconst 0, 1) := by decide +kernel
theorem dX4_layFootings_43 : decode cX4_layFootings 43 = .ok (.iconst 2, 1) := by decide +kernel
theorem dX4_layFootings_44 : decode cX4_layFootings 44 = .ok (.iastore, 1) := by decide +kernel
theorem dX4_layFootings_45 : decode cX4_layFootings 45 = .ok (.aload_n 0, 1) := by decide +kernel
theorem dX4_layFootings_46 : decode cX4_layFootings 46 = .ok (.getfield 15, 3) := by decide +kernel
theorem dX4_layFootings_49 : decode cX4_layFootings 49 = .ok (.aload_n 0, 1) := by decide +kernel
theorem dX4_layFootings_50 : decode cX4_layFootings 50 = .ok (.getfield 52, 3) := by decide +kernel
theorem dX4_layFootings_53 : decode cX4_layFootings 53 = .ok (.iconst 2, 1) := by decide +kernel
theorem dX4_layFootings_54 : decode cX4_layFootings 54 = .ok (.iastore, 1) := by decide +kernel
theorem dX4_layFootings_55 : decode cX4_layFootings 55 = .ok (.iconst 1, 1) := by decide +kernel
theorem dX4_layFootings_56 : decode cX4_layFootings 56 = .ok (.istore 7, 2) := by decide +kernel
theorem dX4_layFootings_58 : decode cX4_layFootings 58 = .ok (.iload 7, 2) := by decide +kernel
theorem dX4_layFootings_60 : decode cX4_layFootings 60 = .ok (.aload_n 0, 1) := by decide +kernel
theorem dX4_layFootings_61 : decode cX4_layFootings 61 = .ok (.getfield 52, 3) := by decide +kernel
theorem dX4_layFootings_64 : decode cX4_layFootings 64 = .ok (.if_icmp .ge 30, 3) := by decide +kernel
theorem dX4_layFootings_67 : decode cX4_layFootings 67 = .ok (.aload_n 0, 1) := by decide +kernel
theorem dX4_layFootings_68 : decode cX4_layFootings 68 = .ok (.getfield 15, 3) := by decide +kernel
theorem dX4_layFootings_71 : decode cX4_layFootings 71 = .ok (.iload 7, 2) := by decide +kernel
theorem dX4_layFootings_73 : decode cX4_layFootings 73 = .ok (.aload_n 1, 1) := by decide +kernel
theorem dX4_layFootings_74 : decode cX4_layFootings 74 = .ok (.aload_n 0, 1) := by decide +kernel
theorem dX4_layFootings_75 : decode cX4_layFootings 75 = .ok (.iload 7, 2) := by decide +kernel
theorem dX4_layFootings_77 : decode cX4_layFootings 77 = .ok (.invokevirtual 82, 3) := by decide +kernel
theorem dX4_layFootings_80 : decode cX4_layFootings 80 = .ok (.iload 5, 2) := by decide +kernel
theorem dX4_layFootings_82 : decode cX4_layFootings 82 = .ok (.iload 6, 2) := by decide +kernel
theorem dX4_layFootings_84 : decode cX4_layFootings 84 = .ok (.invokevirtual 85, 3) := by decide +kernel
theorem dX4_layFootings_87 : decode cX4_layFootings 87 = .ok (.iastore, 1) := by decide +kernel
theorem dX4_layFootings_88 : decode cX4_layFootings 88 = .ok (.iinc 7 1, 3) := by decide +kernel
theorem dX4_layFootings_91 : decode cX4_layFootings 91 = .ok (.goto (-33), 3) := by decide +kernel
theorem dX4_layFootings_94 : decode cX4_layFootings 94 = .ok (.return_, 1) := by decide +kernel
set_option maxHeartbeats 1000000 in
theorem eX4_layFootings {w c : Nat} {W : zWd} {a : Int → Int} {T q tg : Int} {Q : Option Value → zWd → Prop} {X : zX} (hw : zWy w) (hc : zCt c) (hR : zCR W c a) (hwf : zWf T a) (hbz : zR (W w 0)) (h4 : W w 4 = a 0 + 1) (hq0 : 0 ≤ q) (hq1 : q < a 2) (ht0 : 1 ≤ tg) (ht1 : tg ≤ a 1) (hq : ∀ W' : zWd, (∀ j : Nat, j ≠ w + 2 → W' j = W j) → (∀ k : Nat, (k : Int) ≤ a 0 + 1 → W' (w + 2) k = zFt a q (if W w 0 = 0 then tg else 0) (W w 0) k) → Q none W') : Ev MX4_layFootings 2 0 W [.ref w, .ref c, zI q, zI tg] Q X := by
  refine ev_of (ls := [.ref w, .ref c, zI q, zI tg, .null, .null, .null, .null]) (by decide) rfl (fun _ => rfl) (fun _ => Nat.le_of_ble_eq_true rfl) (Or.inl rfl) ?_
  obtain ⟨r0, r1, r2, r3, r4, r5, r6, r7, rF, rS, rP, rB⟩ := id hR
  obtain ⟨w0, w0', wW, w1, w2, w2', w3, w3', w4, w4', w5, w5', w6, w6', w7, w7', wS, wP, wT⟩ := id hwf
  have wq := zWf.sq hwf
  have hcw := hc.lt
  have hcd : c + 8 ≤ w := by rcases hw with rfl | rfl <;> omega
  have hm32 := zMks_lt (a := a) (w := q) (a 2).toNat (fun z a1 a2 => by have := wP z a1 (by omega); unfold zWfP at this; omega)
  have main : ∀ ob : Nat, ob < 2097152 → (∀ i : Nat, 1 ≤ i → (i : Int) ≤ a 1 → (ob.testBit i = true ↔ (i : Int) = (if W w 0 = 0 then tg else 0))) → RR MX4_layFootings 2 0 W 16 [.ref w, .ref c, zI q, zI tg, zI (ob : Int), .null, .null, .null] [] (zEnd MX4_layFootings Q X) X := by
    intro ob hob32 hob
    have loop : ∀ (n : Nat) (k : Int) (Wi : zWd), 1 ≤ k → k ≤ a 0 + 1 → (∀ j : Nat, j ≠ w + 2 → Wi j = W j) → (∀ i : Nat, ((i : Int) < k ∨ (i : Int) = a 0 + 1) → Wi (w + 2) i = zFt a q (if W w 0 = 0 then tg else 0) (W w 0) i) → (a 0 + 1 - k).toNat < n → RR MX4_layFootings 2 0 Wi 58 [.ref w, .ref c, zI q, zI tg, zI (ob : Int), zI (aUset a q (zMks a q (a 2).toNat ||| ob) : Nat), zI (zSet (fun s => decide (aO a s = q)) (a 1).toNat : Nat), zI k] [] (zEnd MX4_layFootings Q X) X := by
      intro n
      induction n with
      | zero => intro k Wi _ _ _ _ hm9; omega
      | succ n ih =>
        intro k Wi k1 k2 hO hFo hm9
        refine rr_iload (pc := 58) dX4_layFootings_58 rfl ?_
        refine rr_aload_n (pc := 60) dX4_layFootings_60 rfl ?_
        refine rr_getI (pc := 61) (ji := 4) dX4_layFootings_61 fX4_52 hw.k hw.i4 rfl ?_
        rw [hO w (by omega), h4]
        refine rr_icmp_ge (pc := 64) (tgt := 94) dX4_layFootings_64 (by decide) (by unfold zR; omega) (by unfold zR; omega) (fun h64 => ?_) (fun h64 => ?_)
        · exact rr_retv (pc := 94) dX4_layFootings_94 rfl rfl (hq Wi hO (fun i hi => hFo i (by omega)))
        · refine rr_aload_n (pc := 67) dX4_layFootings_67 rfl ?_
          refine rr_getR (pc := 68) dX4_layFootings_68 fX4_15 hw.k hw.r8 ?_
          refine rr_iload (pc := 71) dX4_layFootings_71 rfl ?_
          refine rr_aload_n (pc := 73) dX4_layFootings_73 rfl ?_
          refine rr_aload_n (pc := 74) dX4_layFootings_74 rfl ?_
          refine rr_iload (pc := 75) dX4_layFootings_75 rfl ?_
          refine rr_inv0 (M' := MX4_rowAt) (k := w) (As := [_]) (pc := 77) dX4_layFootings_77 lX4_82 kX4_rowAt vX4_rowAt hw.k (by decide) rfl (by decide) (by decide) (Nat.le_of_ble_eq_true rfl) rfl (eX4_rowAt hw (by rw [hO w (by omega)]; exact hbz) ?_)
          rw [hO w (by omega), h4]
          have hra : 0 ≤ zRa (W w 0) (a 0 + 1) k ∧ zRa (W w 0) (a 0 + 1) k < a 0 := by unfold zRa; split <;> omega
          refine rr_iload (pc := 80) dX4_layFootings_80 rfl ?_
          refine rr_iload (pc := 82) dX4_layFootings_82 rfl ?_
          refine rr_invN (M' := MX0_footingOf) (k := c) (As := [_, _, _]) (pc := 84) dX4_layFootings_84 lX4_85 kX0_footingOf vX0_footingOf hc.k (by decide) rfl (by decide) (by decide) (Nat.le_of_ble_eq_true rfl) rfl (eX0_footingOf hc (CR_off hR (fun j g1 g2 => hO j (by omega))) hwf hra.1 hra.2 (aUset_lt (by omega)) (zSet_32 _ (by omega)) ?_)
          rw [zFo_use (own := (if W w 0 = 0 then tg else 0)) hwf hra.1 hra.2 hob]
          refine rr_iast (pc := 87) dX4_layFootings_87 hw.a2 (by omega) (by omega) ?_
          refine rr_iinc (pc := 88) dX4_layFootings_88 rfl (by decide) ?_
          refine rr_goto (pc := 91) (tgt := 58) dX4_layFootings_91 (by decide) ?_
          exact ih (k + 1) _ (by omega) (by omega) (fun j hj => by rw [zup_other j hj]; exact hO j hj) (fun i hi => by
            by_cases z : (i : Int) = k
            · rw [z, zup_s]
              unfold zFt
              rw [if_neg (show ¬ (i = 0 ∨ a 0 + 1 ≤ (i : Int)) by omega), z]
            · rw [zup_i (by omega)]
              exact hFo i (by omega)) (by omega)
    refine rr_aload_n (pc := 16) dX4_layFootings_16 rfl ?_
    refine rr_iload_n (pc := 17) dX4_layFootings_17 rfl ?_
    refine rr_aload_n (pc := 18) dX4_layFootings_18 rfl ?_
    refine rr_iload_n (pc := 19) dX4_layFootings_19 rfl ?_
    refine rr_invN (M' := MX0_markedSquares) (k := c) (As := [_]) (pc := 20) dX4_layFootings_20 lX4_72 kX0_markedSquares vX0_markedSquares hc.k (by decide) rfl (by decide) (by decide) (Nat.le_of_ble_eq_true rfl) rfl (eX0_markedSquares hc hR hwf (by unfold zR; omega) ?_)
    refine rr_iload (pc := 23) dX4_layFootings_23 rfl ?_
    refine rr_ior (pc := 25) dX4_layFootings_25 (Nat.lt_trans hm32 (by decide)) (by omega) ?_
    have hor := Nat.or_lt_two_pow (n := 21) hm32 hob32
    refine rr_invN (M' := MX0_usableSet) (k := c) (As := [_, _]) (pc := 26) dX4_layFootings_26 lX4_76 kX0_usableSet vX0_usableSet hc.k (by decide) rfl (by decide) (by decide) (Nat.le_of_ble_eq_true rfl) rfl (eX0_usableSet hc hR hwf (by unfold zR; omega) hor ?_)
    refine rr_istore (pc := 29) dX4_layFootings_29 (by decide) ?_
    refine rr_aload_n (pc := 31) dX4_layFootings_31 rfl ?_
    refine rr_iload_n (pc := 32) dX4_layFootings_32 rfl ?_
    refine rr_invN (M' := MX0_squaresOf) (k := c) (As := [_]) (pc := 33) dX4_layFootings_33 lX4_79 kX0_squaresOf vX0_squaresOf hc.k (by decide) rfl (by decide) (by decide) (Nat.le_of_ble_eq_true rfl) rfl (eX0_squaresOf hc hR hwf (by unfold zR; omega) ?_)
    refine rr_istore (pc := 36) dX4_layFootings_36 (by decide) ?_
    refine rr_aload_n (pc := 38) dX4_layFootings_38 rfl ?_
    refine rr_getR (pc := 39) dX4_layFootings_39 fX4_15 hw.k hw.r8 ?_
    refine rr_iconst (n := 0) dX4_layFootings_42 ?_
    refine rr_iconst (n := 2) dX4_layFootings_43 ?_
    refine rr_iast (pc := 44) dX4_layFootings_44 hw.a2 (by omega) (by omega) ?_
    refine rr_aload_n (pc := 45) dX4_layFootings_45 rfl ?_
    refine rr_getR (pc := 46) dX4_layFootings_46 fX4_15 hw.k hw.r8 ?_
    refine rr_aload_n (pc := 49) dX4_layFootings_49 rfl ?_
    refine rr_getI (pc := 50) (ji := 4) dX4_layFootings_50 fX4_52 hw.k hw.i4 rfl ?_
    rw [zup_k (by omega), h4]
    refine rr_iconst (n := 2) dX4_layFootings_53 ?_
    refine rr_iast (pc := 54) dX4_layFootings_54 hw.a2 (by omega) (by omega) ?_
    refine rr_iconst (n := 1) dX4_layFootings_55 ?_
    refine rr_istore (pc := 56) dX4_layFootings_56 (by decide) ?_
    exact loop _ 1 _ (by omega) (by omega) (fun j hj => by rw [zup_other j hj, zup_other j hj]) (fun i hi => by
      by_cases z : (i : Int) = a 0 + 1
      · rw [z, zup_s]; unfold zFt; rw [if_pos (by omega)]
      · rw [zup_i z, show (i : Int) = 0 by omega, zup_s]; unfold zFt; rw [if_pos (by omega)]) (Nat.lt_succ_self _)
  refine rr_aload_n (pc := 0) dX4_layFootings_0 rfl ?_
  refine rr_getI (pc := 1) (ji := 0) dX4_layFootings_1 fX4_24 hw.k hw.i0 rfl ?_
  refine rr_if_eq (pc := 4) (tgt := 11) dX4_layFootings_4 (by decide) hbz (fun h4 => ?_) (fun h4 => ?_)
  · refine rr_iconst (n := 1) dX4_layFootings_11 ?_
    refine rr_iload_n (pc := 12) dX4_layFootings_12 rfl ?_
    refine rr_ishl1 (pc := 13) dX4_layFootings_13 (by omega) (by omega) ?_
    refine rr_istore (pc := 14) dX4_layFootings_14 (by decide) ?_
    exact main (2 ^ tg.toNat) (Nat.pow_lt_pow_right (a := 2) (n := 21) (by decide) (by omega)) (fun i g1 g2 => by rw [if_pos h4, Nat.testBit_two_pow, decide_eq_true_eq]; omega)
  · refine rr_iconst (n := 0) dX4_layFootings_7 ?_
    refine rr_goto (pc := 8) (tgt := 14) dX4_layFootings_8 (by decide) ?_
    refine rr_istore (pc := 14) dX4_layFootings_14 (by decide) ?_
    exact main 0 (by decide) (fun i g1 g2 => by rw [if_neg h4, Nat.zero_testBit]; exact ⟨fun z => (by cases z), fun z => (by omega)⟩)
end
section
theorem zWS.cg {W W' : zWd} {w : Nat} {F : Nat → Int} {L must rc bal : Nat} (h : zWS W w F L must rc bal) (e0 : ∀ j : Int, 4 ≤ j → j ≤ 7 → W' w j = W w j) (e2 : W' (w + 2) = W (w + 2)) : zWS W' w F L must rc bal := by
  unfold zWS at *; rw [e0 4 (by omega) (by omega), e0 5 (by omega) (by omega), e0 6 (by omega) (by omega), e0 7 (by omega) (by omega), e2]; exact h
def zWF (a : Int → Int) (q tg bk : Int) : Nat → Int := zFt a q (if bk = 0 then tg else 0) bk
def zWm (a : Int → Int) (tg bk : Int) : Nat := if bk = 0 then 0 else (a 0 - 1 - (aR a tg : Nat)).toNat
def aCost (a : Int → Int) (q tg : Int) (rc : Nat) (bk : Int) : Int := if tg < 1 ∨ a 1 < tg then -1 else zWc (zWF a q tg bk) (a 0 + 1).toNat (zWm a tg bk) rc (aP a q 1).toNat
def aWay (a : Int → Int) (q tg : Int) (rc : Nat) (bk : Int) : List Nat := if tg < 1 ∨ a 1 < tg then [] else zWl (zWF a q tg bk) (a 0 + 1).toNat (zWm a tg bk) rc (aP a q 1).toNat
/-- the way w is laid -/
def zLaid (W : zWd) (w : Nat) (a : Int → Int) (q tg : Int) (rc : Nat) (bk : Int) : Prop := W w 1 = aCost a q tg rc bk ∧ W w 2 = (aWay a q tg rc bk).length ∧ ∀ i : Nat, i < (aWay a q tg rc bk).length → W (w + 1) i = zRa bk (a 0 + 1) ((aWay a q tg rc bk).getD i 0 : Nat)
def zOffw (w : Nat) (W W' : zWd) : Prop := ∀ k : Nat, (k < w ∨ w + 5 ≤ k) → W' k = W k
theorem aCost_in {a : Int → Int} {q tg bk : Int} {rc : Nat} (h1 : 1 ≤ tg) (h2 : tg ≤ a 1) : aCost a q tg rc bk = zWc (zWF a q tg bk) (a 0 + 1).toNat (zWm a tg bk) rc (aP a q 1).toNat := if_neg (by omega)
theorem aWay_in {a : Int → Int} {q tg bk : Int} {rc : Nat} (h1 : 1 ≤ tg) (h2 : tg ≤ a 1) : aWay a q tg rc bk = zWl (zWF a q tg bk) (a 0 + 1).toNat (zWm a tg bk) rc (aP a q 1).toNat := if_neg (by omega)
theorem zWc_rng {F : Nat → Int} {L must rc bal : Nat} : -1 ≤ zWc F L must rc bal ∧ zWc F L must rc bal < 1000000 := by
  have := zV_rng (F := F) (L := L) (must := must) (rc := rc) (bal := bal) 0 0
  unfold zWc; split <;> omega
theorem aCost_rng {a : Int → Int} {q tg bk : Int} {rc : Nat} : -1 ≤ aCost a q tg rc bk ∧ aCost a q tg rc bk < 1000000 := by
  unfold aCost; split
  · omega
  · exact zWc_rng
theorem dX4_seek_0 : decode cX4_seek 0 = .ok (.aload_n 0, 1) := by decide +kernel
theorem dX4_seek_1 : decode cX4_seek 1 = .ok (.iconst (-1), 1) := by decide +kernel
theorem dX4_seek_2 : decode cX4_seek 2 = .ok (.putfield 28, 3) := by decide +kernel
theorem dX4_seek_5 : decode cX4_seek 5 = .ok (.aload_n 0, 1) := by decide +kernel
theorem dX4_seek_6 : decode cX4_seek 6 = .ok (.iconst 0, 1) := by decide +kernel
theorem dX4_seek_7 : decode cX4_seek 7 = .ok (.putfield 32, 3) := by decide +kernel
theorem dX4_seek_10 : decode cX4_seek 10 = .ok (.iload_n 3, 1) := by decide +kernel
theorem dX4_seek_11 : decode cX4_seek 11 = .ok (.iconst 1, 1) := by decide +kernel
theorem dX4_seek_12 : decode cX4_seek 12 = .ok (.if_icmp .lt 11, 3) := by decide +kernel
theorem dX4_seek_15 : decode cX4_seek 15 = .ok (.iload_n 3, 1) := by decide +kernel
theorem dX4_seek_16 : decode cX4_seek 16 = .ok (.aload_n 1, 1) := by decide +kernel
theorem dX4_seek_17 : decode cX4_seek 17 = .ok (.getfield 35, 3) := by decide +kernel
theorem dX4_seek_20 : decode cX4_seek 20 = .ok (.if_icmp .le 5, 3) := by decide +kernel
theorem dX4_seek_23 : decode cX4_seek 23 = .ok (.iconst 0, 1) := by decide +kernel
theorem dX4_seek_24 : decode cX4_seek 24 = .ok (.ireturn, 1) := by decide +kernel
theorem dX4_seek_25 : decode cX4_seek 25 = .ok (.aload_n 0, 1) := by decide +kernel
theorem dX4_seek_26 : decode cX4_seek 26 = .ok (.iload 4, 2) := by decide +kernel
theorem dX4_seek_28 : decode cX4_seek 28 = .ok (.putfield 40, 3) := by decide +kernel
theorem dX4_seek_31 : decode cX4_seek 31 = .ok (.aload_n 0, 1) := by decide +kernel
theorem dX4_seek_32 : decode cX4_seek 32 = .ok (.aload_n 1, 1) := by decide +kernel
theorem dX4_seek_33 : decode cX4_seek 33 = .ok (.iload_n 2, 1) := by decide +kernel
theorem dX4_seek_34 : decode cX4_seek 34 = .ok (.iconst 1, 1) := by decide +kernel
theorem dX4_seek_35 : decode cX4_seek 35 = .ok (.invokevirtual 43, 3) := by decide +kernel
theorem dX4_seek_38 : decode cX4_seek 38 = .ok (.putfield 47, 3) := by decide +kernel
theorem dX4_seek_41 : decode cX4_seek 41 = .ok (.aload_n 0, 1) := by decide +kernel
theorem dX4_seek_42 : decode cX4_seek 42 = .ok (.aload_n 1, 1) := by decide +kernel
theorem dX4_seek_43 : decode cX4_seek 43 = .ok (.getfield 50, 3) := by decide +kernel
theorem dX4_seek_46 : decode cX4_seek 46 = .ok (.iconst 1, 1) := by decide +kernel
theorem dX4_seek_47 : decode cX4_seek 47 = .ok (.iadd, 1) := by decide +kernel
theorem dX4_seek_48 : decode cX4_seek 48 = .ok (.putfield 52, 3) := by decide +kernel
theorem dX4_seek_51 : decode cX4_seek 51 = .ok (.aload_n 0, 1) := by decide +kernel
theorem dX4_seek_52 : decode cX4_seek 52 = .ok (.aload_n 0, 1) := by decide +kernel
theorem dX4_seek_53 : decode cX4_seek 53 = .ok (.getfield 24, 3) := by decide +kernel
theorem dX4_seek_56 : decode cX4_seek 56 = .ok (.ifCond .eq 19, 3) := by decide +kernel
theorem dX4_seek_59 : decode cX4_seek 59 = .ok (.aload_n 1, 1) := by decide +kernel
theorem dX4_seek_60 : decode cX4_seek 60 = .ok (.getfield 50, 3) := by decide +kernel
theorem dX4_seek_63 : decode cX4_seek 63 = .ok (.iconst 1, 1) := by decide +kernel
theorem dX4_seek_64 : decode cX4_seek 64 = .ok (.isub, 1) := by decide +kernel
theorem dX4_seek_65 : decode cX4_seek 65 = .ok (.aload_n 1, 1) := by decide +kernel
theorem dX4_seek_66 : decode cX4_seek 66 = .ok (.getfield 55, 3) := by decide +kernel
theorem dX4_seek_69 : decode cX4_seek 69 = .ok (.iload_n 3, 1) := by decide +kernel
theorem dX4_seek_70 : decode cX4_seek 70 = .ok (.iaload, 1) := by decide +kernel
theorem dX4_seek_71 : decode cX4_seek 71 = .ok (.isub, 1) := by decide +kernel
theorem dX4_seek_72 : decode cX4_seek 72 = .ok (.goto 4, 3) := by decide +kernel
theorem dX4_seek_75 : decode cX4_seek 75 = .ok (.iconst 0, 1) := by decide +kernel
theorem dX4_seek_76 : decode cX4_seek 76 = .ok (.putfield 58, 3) := by decide +kernel
theorem dX4_seek_79 : decode cX4_seek 79 = .ok (.aload_n 0, 1) := by decide +kernel
theorem dX4_seek_80 : decode cX4_seek 80 = .ok (.aload_n 1, 1) := by decide +kernel
theorem dX4_seek_81 : decode cX4_seek 81 = .ok (.iload_n 2, 1) := by decide +kernel
theorem dX4_seek_82 : decode cX4_seek 82 = .ok (.iload_n 3, 1) := by decide +kernel
theorem dX4_seek_83 : decode cX4_seek 83 = .ok (.invokevirtual 61, 3) := by decide +kernel
theorem dX4_seek_86 : decode cX4_seek 86 = .ok (.aload_n 0, 1) := by decide +kernel
theorem dX4_seek_87 : decode cX4_seek 87 = .ok (.invokevirtual 65, 3) := by decide +kernel
theorem dX4_seek_90 : decode cX4_seek 90 = .ok (.aload_n 0, 1) := by decide +kernel
theorem dX4_seek_91 : decode cX4_seek 91 = .ok (.getfield 18, 3) := by decide +kernel
theorem dX4_seek_94 : decode cX4_seek 94 = .ok (.iconst 0, 1) := by decide +kernel
theorem dX4_seek_95 : decode cX4_seek 95 = .ok (.iaload, 1) := by decide +kernel
theorem dX4_seek_96 : decode cX4_seek 96 = .ok (.ldc 68, 2) := by decide +kernel
theorem dX4_seek_98 : decode cX4_seek 98 = .ok (.if_icmp .lt 5, 3) := by decide +kernel
theorem dX4_seek_101 : decode cX4_seek 101 = .ok (.iconst 0, 1) := by decide +kernel
theorem dX4_seek_102 : decode cX4_seek 102 = .ok (.ireturn, 1) := by decide +kernel
theorem dX4_seek_103 : decode cX4_seek 103 = .ok (.aload_n 0, 1) := by decide +kernel
theorem dX4_seek_104 : decode cX4_seek 104 = .ok (.aload_n 0, 1) := by decide +kernel
theorem dX4_seek_105 : decode cX4_seek 105 = .ok (.getfield 18, 3) := by decide +kernel
theorem dX4_seek_108 : decode cX4_seek 108 = .ok (.iconst 0, 1) := by decide +kernel
theorem dX4_seek_109 : decode cX4_seek 109 = .ok (.iaload, 1) := by decide +kernel
theorem dX4_seek_110 : decode cX4_seek 110 = .ok (.putfield 28, 3) := by decide +kernel
theorem dX4_seek_113 : decode cX4_seek 113 = .ok (.aload_n 0, 1) := by decide +kernel
theorem dX4_seek_114 : decode cX4_seek 114 = .ok (.invokevirtual 69, 3) := by decide +kernel
theorem dX4_seek_117 : decode cX4_seek 117 = .ok (.iconst 1, 1) := by decide +kernel
theorem dX4_seek_118 : decode cX4_seek 118 = .ok (.ireturn, 1) := by decide +kernel
set_option maxHeartbeats 1000000 in
theorem eX4_seek {w c : Nat} {W : zWd} {a : Int → Int} {T q tg : Int} {rc : Nat} {Q : Option Value → zWd → Prop} {X : zX} (hw : zWy w) (hc : zCt c) (hR : zCR W c a) (hwf : zWf T a) (hbz : zR (W w 0)) (hq0 : 0 ≤ q) (hq1 : q < a 2) (htz : zR tg) (hr1 : 1 ≤ rc) (hr4 : rc ≤ 4) (hq : ∀ W' : zWd, zOffw w W W' → W' w 0 = W w 0 → zLaid W' w a q tg rc (W w 0) → Q (some (zI (if aCost a q tg rc (W w 0) = -1 then 0 else 1))) W') : Ev MX4_seek 3 0 W [.ref w, .ref c, zI q, zI tg, zI (rc : Int)] Q X := by
  refine ev_of (ls := [.ref w, .ref c, zI q, zI tg, zI (rc : Int)]) (by decide) rfl (fun _ => rfl) (fun _ => Nat.le_of_ble_eq_true rfl) (Or.inl rfl) ?_
  unfold zR at htz
  obtain ⟨r0, r1, r2, r3, r4, r5, r6, r7, rF, rS, rP, rB⟩ := id hR
  obtain ⟨w0, w0', wW, w1, w2, w2', w3, w3', w4, w4', w5, w5', w6, w6', w7, w7', wS, wP, wT⟩ := id hwf
  have wq := zWf.sq hwf
  have hcw := hc.lt
  have hcd : c + 8 ≤ w := by rcases hw with rfl | rfl <;> omega
  have hm2 := wP q hq0 hq1
  unfold zWfP at hm2
  have hrr : 1 ≤ tg → tg ≤ a 1 → ((aR a tg : Nat) : Int) < a 0 := fun g1 g2 => (aR_spec hwf g1 g2).1
  have hzm : tg < 1 ∨ a 1 < tg ∨ ((aR a tg : Nat) : Int) < a 0 := by
    by_cases z1 : tg < 1
    · exact Or.inl z1
    · by_cases z2 : a 1 < tg
      · exact Or.inr (Or.inl z2)
      · exact Or.inr (Or.inr (hrr (by omega) (by omega)))
  by_cases hin : 1 ≤ tg ∧ tg ≤ a 1
  · have hrr9 := hrr hin.1 hin.2
    have main : ∀ mu : Int, mu = (zWm a tg (W w 0) : Nat) → RR MX4_seek 3 0 (zup (zup (zup (zup (zup W w 1 (-1)) w 2 0) w 6 (rc : Int)) w 7 (aP a q 1)) w 4 (a 0 + 1)) 76 [.ref w, .ref c, zI q, zI tg, zI (rc : Int)] [zI mu, .ref w] (zEnd MX4_seek Q X) X := by
      intro mu hmu
      refine rr_put (pc := 76) (ji := 5) dX4_seek_76 fX4_58 fp_4_5 hw.k hw.i5 rfl ?_
      have o1 : ∀ k : Nat, k ≠ w → zup (zup (zup (zup (zup (zup W w 1 (-1)) w 2 0) w 6 (rc : Int)) w 7 (aP a q 1)) w 4 (a 0 + 1)) w 5 mu k = W k := fun k hk => by rw [zup_other k hk, zup_other k hk, zup_other k hk, zup_other k hk, zup_other k hk, zup_other k hk]
      have v0 : zup (zup (zup (zup (zup (zup W w 1 (-1)) w 2 0) w 6 (rc : Int)) w 7 (aP a q 1)) w 4 (a 0 + 1)) w 5 mu w 0 = W w 0 := by simp [zup]
      have v1 : zup (zup (zup (zup (zup (zup W w 1 (-1)) w 2 0) w 6 (rc : Int)) w 7 (aP a q 1)) w 4 (a 0 + 1)) w 5 mu w 1 = -1 := by simp [zup]
      have v2 : zup (zup (zup (zup (zup (zup W w 1 (-1)) w 2 0) w 6 (rc : Int)) w 7 (aP a q 1)) w 4 (a 0 + 1)) w 5 mu w 2 = 0 := by simp [zup]
      have v4 : zup (zup (zup (zup (zup (zup W w 1 (-1)) w 2 0) w 6 (rc : Int)) w 7 (aP a q 1)) w 4 (a 0 + 1)) w 5 mu w 4 = a 0 + 1 := by simp [zup]
      have v5 : zup (zup (zup (zup (zup (zup W w 1 (-1)) w 2 0) w 6 (rc : Int)) w 7 (aP a q 1)) w 4 (a 0 + 1)) w 5 mu w 5 = mu := by simp [zup]
      have v6 : zup (zup (zup (zup (zup (zup W w 1 (-1)) w 2 0) w 6 (rc : Int)) w 7 (aP a q 1)) w 4 (a 0 + 1)) w 5 mu w 6 = rc := by simp [zup]
      have v7 : zup (zup (zup (zup (zup (zup W w 1 (-1)) w 2 0) w 6 (rc : Int)) w 7 (aP a q 1)) w 4 (a 0 + 1)) w 5 mu w 7 = aP a q 1 := by simp [zup]
      generalize zup (zup (zup (zup (zup (zup W w 1 (-1)) w 2 0) w 6 (rc : Int)) w 7 (aP a q 1)) w 4 (a 0 + 1)) w 5 mu = W1 at o1 v0 v1 v2 v4 v5 v6 v7 ⊢
      refine rr_aload_n (pc := 79) dX4_seek_79 rfl ?_
      refine rr_aload_n (pc := 80) dX4_seek_80 rfl ?_
      refine rr_iload_n (pc := 81) dX4_seek_81 rfl ?_
      refine rr_iload_n (pc := 82) dX4_seek_82 rfl ?_
      refine rr_inv0 (M' := MX4_layFootings) (k := w) (As := [_, _, _]) (pc := 83) dX4_seek_83 lX4_61 kX4_layFootings vX4_layFootings hw.k (by decide) rfl (by decide) (by decide) (Nat.le_of_ble_eq_true rfl) rfl (eX4_layFootings hw hc (CR_off hR (fun k g1 g2 => o1 k (by omega))) hwf (by rw [v0]; exact hbz) v4 hq0 hq1 (by omega) (by omega) (fun W2 o2 f2 => ?_))
      rw [v0] at f2
      have hS2 : zWS W2 w (zWF a q tg (W w 0)) (a 0 + 1).toNat (zWm a tg (W w 0)) rc (aP a q 1).toNat := ⟨by rw [o2 w (by omega), v4]; omega, by rw [o2 w (by omega), v5, hmu], by rw [o2 w (by omega), v6], by rw [o2 w (by omega), v7]; omega, fun k hk => f2 k (by omega), by unfold zWF zFt; rw [if_pos (Or.inl rfl)], by unfold zWF zFt; rw [if_pos (Or.inr (by omega))], fun k _ => zFt_rng _ _ _ _ _, by omega, by omega, by unfold zWm; split <;> omega, hr1, hr4, by omega, by omega⟩
      refine rr_aload_n (pc := 86) dX4_seek_86 rfl ?_
      refine rr_inv0 (M' := MX4_reckon) (k := w) (As := []) (pc := 87) dX4_seek_87 lX4_65 kX4_reckon vX4_reckon hw.k (by decide) rfl (by decide) (by decide) (Nat.le_of_ble_eq_true rfl) rfl (eX4_reckon hw hS2 (fun W3 o3 t3 => ?_))
      have hS3 : zWS W3 w (zWF a q tg (W w 0)) (a 0 + 1).toNat (zWm a tg (W w 0)) rc (aP a q 1).toNat := hS2.off (o3 w (by omega) (by omega)) (o3 (w + 2) (by omega) (by omega))
      have c0 : W3 (w + 3) 0 = zV (zWF a q tg (W w 0)) (a 0 + 1).toNat (zWm a tg (W w 0)) rc (aP a q 1).toNat 0 0 := (t3 0 0 (by omega) (by omega) (Or.inl ⟨hS2.2.2.2.2.2.1, rfl⟩)).1
      have hvr := zV_rng (F := (zWF a q tg (W w 0))) (L := (a 0 + 1).toNat) (must := (zWm a tg (W w 0))) (rc := rc) (bal := (aP a q 1).toNat) 0 0
      have k3 : ∀ k : Nat, (k < w ∨ w + 5 ≤ k) → W3 k = W k := fun k g => by rw [o3 k (by omega) (by omega), o2 k (by omega), o1 k (by omega)]
      have k0 : W3 w = W1 w := by rw [o3 w (by omega) (by omega), o2 w (by omega)]
      refine rr_aload_n (pc := 90) dX4_seek_90 rfl ?_
      refine rr_getR (pc := 91) dX4_seek_91 fX4_18 hw.k hw.r9 ?_
      refine rr_iconst (n := 0) dX4_seek_94 ?_
      refine rr_iald (pc := 95) dX4_seek_95 hw.a3 (by omega) (by omega) ?_
      rw [c0]
      refine rr_ldc (pc := 96) dX4_seek_96 cX4_k68 ?_
      refine rr_icmp_lt (pc := 98) (tgt := 103) dX4_seek_98 (by decide) (by unfold zR; omega) (by unfold zR; omega) (fun h98 => ?_) (fun h98 => ?_)
      · refine rr_aload_n (pc := 103) dX4_seek_103 rfl ?_
        refine rr_aload_n (pc := 104) dX4_seek_104 rfl ?_
        refine rr_getR (pc := 105) dX4_seek_105 fX4_18 hw.k hw.r9 ?_
        refine rr_iconst (n := 0) dX4_seek_108 ?_
        refine rr_iald (pc := 109) dX4_seek_109 hw.a3 (by omega) (by omega) ?_
        rw [c0]
        refine rr_put (pc := 110) (ji := 1) dX4_seek_110 fX4_28 fp_4_1 hw.k hw.i1 rfl ?_
        refine rr_aload_n (pc := 113) dX4_seek_113 rfl ?_
        refine rr_inv0 (M' := MX4_follow) (k := w) (As := []) (pc := 114) dX4_seek_114 lX4_69 kX4_follow vX4_follow hw.k (by decide) rfl (by decide) (by decide) (Nat.le_of_ble_eq_true rfl) rfl (eX4_follow hw (hS3.cg (fun j g1 g2 => zup_i (by omega)) (zup_other _ (by omega))) (fun k s g1 g2 g3 => by rw [zup_k (by omega), zup_k (by omega)]; exact t3 k s g1 g2 g3) h98 (by rw [zup_i (by omega), k0, v2]) (by rw [zup_i (by omega), k0, v0]; exact hbz) (fun W4 g1 g2 g3 g4 => ?_))
        refine rr_iconst (n := 1) dX4_seek_117 ?_
        have e1 : aCost a q tg rc (W w 0) = zV (zWF a q tg (W w 0)) (a 0 + 1).toNat (zWm a tg (W w 0)) rc (aP a q 1).toNat 0 0 := by rw [aCost_in (by omega) (by omega), zWc, if_pos h98]
        have e2 : aWay a q tg rc (W w 0) = zHp (zWF a q tg (W w 0)) (a 0 + 1).toNat (zWm a tg (W w 0)) rc (aP a q 1).toNat ((a 0 + 1).toNat + 1) 0 0 := by rw [aWay_in (by omega) (by omega), zWl, if_pos h98]
        rw [if_neg (show ¬ aCost a q tg rc (W w 0) = -1 by rw [e1]; omega)] at hq
        have hz0 : zup W3 w 1 (zV (zWF a q tg (W w 0)) (a 0 + 1).toNat (zWm a tg (W w 0)) rc (aP a q 1).toNat 0 0) w 0 = W w 0 := by rw [zup_i (by omega), k0, v0]
        rw [hz0, show (((a 0 + 1).toNat : Nat) : Int) = a 0 + 1 by omega] at g4
        exact rr_reti (pc := 118) dX4_seek_118 rfl rfl rfl rfl (hq W4 (fun k g => by rw [g2 k (by omega) (by omega), zup_other k (by omega)]; exact k3 k g) (by rw [g1 0 (by omega)]; exact hz0) ⟨by rw [e1, g1 1 (by omega), zup_s], by rw [e2]; exact g3, by rw [e2]; exact g4⟩)
      · refine rr_iconst (n := 0) dX4_seek_101 ?_
        have e1 : aCost a q tg rc (W w 0) = -1 := by rw [aCost_in (by omega) (by omega), zWc, if_neg (by omega)]
        have e2 : aWay a q tg rc (W w 0) = [] := by rw [aWay_in (by omega) (by omega), zWl, if_neg (by omega)]
        rw [e1, if_pos rfl] at hq
        exact rr_reti (pc := 102) dX4_seek_102 rfl rfl rfl rfl (hq W3 k3 (by rw [k0, v0]) ⟨by rw [e1, k0, v1], by rw [e2, k0, v2]; rfl, fun i hi => by rw [e2] at hi; cases hi⟩)
    refine rr_aload_n (pc := 0) dX4_seek_0 rfl ?_
    refine rr_iconst (n := (-1)) dX4_seek_1 ?_
    refine rr_put (pc := 2) (ji := 1) dX4_seek_2 fX4_28 fp_4_1 hw.k hw.i1 rfl ?_
    refine rr_aload_n (pc := 5) dX4_seek_5 rfl ?_
    refine rr_iconst (n := 0) dX4_seek_6 ?_
    refine rr_put (pc := 7) (ji := 2) dX4_seek_7 fX4_32 fp_4_2 hw.k hw.i2 rfl ?_
    refine rr_iload_n (pc := 10) dX4_seek_10 rfl ?_
    refine rr_iconst (n := 1) dX4_seek_11 ?_
    refine rr_icmp_lt (pc := 12) (tgt := 23) dX4_seek_12 (by decide) (by unfold zR; omega) (by unfold zR; omega) (fun h12 => ?_) (fun h12 => ?_)
    · omega
    · refine rr_iload_n (pc := 15) dX4_seek_15 rfl ?_
      refine rr_aload_n (pc := 16) dX4_seek_16 rfl ?_
      refine rr_getI (pc := 17) (ji := 1) dX4_seek_17 fX4_35 hc.k hc.i1 rfl ?_
      rw [zup_k (by omega), zup_k (by omega), r1]
      refine rr_icmp_le (pc := 20) (tgt := 25) dX4_seek_20 (by decide) (by unfold zR; omega) (by unfold zR; omega) (fun h20 => ?_) (fun h20 => ?_)
      · refine rr_aload_n (pc := 25) dX4_seek_25 rfl ?_
        refine rr_iload (pc := 26) dX4_seek_26 rfl ?_
        refine rr_put (pc := 28) (ji := 6) dX4_seek_28 fX4_40 fp_4_6 hw.k hw.i6 rfl ?_
        refine rr_aload_n (pc := 31) dX4_seek_31 rfl ?_
        refine rr_aload_n (pc := 32) dX4_seek_32 rfl ?_
        refine rr_iload_n (pc := 33) dX4_seek_33 rfl ?_
        refine rr_iconst (n := 1) dX4_seek_34 ?_
        refine rr_invN (M' := MX0_get) (k := c) (As := [_, _]) (pc := 35) dX4_seek_35 lX4_43 kX0_get vX0_get hc.k (by decide) rfl (by decide) (by decide) (Nat.le_of_ble_eq_true rfl) rfl (eX0_get hc (by omega) (by omega) (by omega) (by omega) ?_)
        rw [show ((1 : Int)) = 1 from rfl, zup_k (by omega), zup_k (by omega), zup_k (by omega), (rP q hq0 hq1).2.1]
        refine rr_put (pc := 38) (ji := 7) dX4_seek_38 fX4_47 fp_4_7 hw.k hw.i7 rfl ?_
        refine rr_aload_n (pc := 41) dX4_seek_41 rfl ?_
        refine rr_aload_n (pc := 42) dX4_seek_42 rfl ?_
        refine rr_getI (pc := 43) (ji := 0) dX4_seek_43 fX4_50 hc.k hc.i0 rfl ?_
        rw [zup_k (by omega), zup_k (by omega), zup_k (by omega), zup_k (by omega), r0]
        refine rr_iconst (n := 1) dX4_seek_46 ?_
        refine rr_iadd (pc := 47) dX4_seek_47 ?_
        refine rr_put (pc := 48) (ji := 4) dX4_seek_48 fX4_52 fp_4_4 hw.k hw.i4 rfl ?_
        refine rr_aload_n (pc := 51) dX4_seek_51 rfl ?_
        refine rr_aload_n (pc := 52) dX4_seek_52 rfl ?_
        refine rr_getI (pc := 53) (ji := 0) dX4_seek_53 fX4_24 hw.k hw.i0 rfl ?_
        rw [zup_i (by omega), zup_i (by omega), zup_i (by omega), zup_i (by omega), zup_i (by omega)]
        refine rr_if_eq (pc := 56) (tgt := 75) dX4_seek_56 (by decide) hbz (fun h56 => ?_) (fun h56 => ?_)
        · refine rr_iconst (n := 0) dX4_seek_75 ?_
          exact main _ (by unfold zWm; rw [if_pos h56]; rfl)
        · refine rr_aload_n (pc := 59) dX4_seek_59 rfl ?_
          refine rr_getI (pc := 60) (ji := 0) dX4_seek_60 fX4_50 hc.k hc.i0 rfl ?_
          rw [zup_k (by omega), zup_k (by omega), zup_k (by omega), zup_k (by omega), zup_k (by omega), r0]
          refine rr_iconst (n := 1) dX4_seek_63 ?_
          refine rr_isub (pc := 64) dX4_seek_64 ?_
          refine rr_aload_n (pc := 65) dX4_seek_65 rfl ?_
          refine rr_getR (pc := 66) dX4_seek_66 fX4_55 hc.k hc.r9 ?_
          refine rr_iload_n (pc := 69) dX4_seek_69 rfl ?_
          refine rr_iald (pc := 70) dX4_seek_70 hc.a2 (by omega) (by omega) ?_
          rw [zup_k (by omega), zup_k (by omega), zup_k (by omega), zup_k (by omega), zup_k (by omega), (rS tg (by omega) (by omega) (by omega)).1]
          refine rr_isub (pc := 71) dX4_seek_71 ?_
          refine rr_goto (pc := 72) (tgt := 76) dX4_seek_72 (by decide) ?_
          exact main _ (by unfold zWm; rw [if_neg h56]; omega)
      · omega
  · refine rr_aload_n (pc := 0) dX4_seek_0 rfl ?_
    refine rr_iconst (n := (-1)) dX4_seek_1 ?_
    refine rr_put (pc := 2) (ji := 1) dX4_seek_2 fX4_28 fp_4_1 hw.k hw.i1 rfl ?_
    refine rr_aload_n (pc := 5) dX4_seek_5 rfl ?_
    refine rr_iconst (n := 0) dX4_seek_6 ?_
    refine rr_put (pc := 7) (ji := 2) dX4_seek_7 fX4_32 fp_4_2 hw.k hw.i2 rfl ?_
    refine rr_iload_n (pc := 10) dX4_seek_10 rfl ?_
    refine rr_iconst (n := 1) dX4_seek_11 ?_
    refine rr_icmp_lt (pc := 12) (tgt := 23) dX4_seek_12 (by decide) (by unfold zR; omega) (by unfold zR; omega) (fun h12 => ?_) (fun h12 => ?_)
    · have e1 : aCost a q tg rc (W w 0) = -1 := if_pos (by omega)
      have e2 : aWay a q tg rc (W w 0) = [] := if_pos (by omega)
      rw [e1, if_pos rfl] at hq
      refine rr_iconst (n := 0) dX4_seek_23 ?_
      exact rr_reti (pc := 24) dX4_seek_24 rfl rfl rfl rfl (hq _ (fun k g => by rw [zup_other k (by omega), zup_other k (by omega)]) (by rw [zup_i (by omega), zup_i (by omega)]) ⟨by rw [e1, zup_i (by omega), zup_s], by rw [e2, zup_s]; rfl, fun i hi => by rw [e2] at hi; cases hi⟩)
    · refine rr_iload_n (pc := 15) dX4_seek_15 rfl ?_
      refine rr_aload_n (pc := 16) dX4_seek_16 rfl ?_
      refine rr_getI (pc := 17) (ji := 1) dX4_seek_17 fX4_35 hc.k hc.i1 rfl ?_
      rw [zup_k (by omega), zup_k (by omega), r1]
      refine rr_icmp_le (pc := 20) (tgt := 25) dX4_seek_20 (by decide) (by unfold zR; omega) (by unfold zR; omega) (fun h20 => ?_) (fun h20 => ?_)
      · omega
      · have e1 : aCost a q tg rc (W w 0) = -1 := if_pos (by omega)
        have e2 : aWay a q tg rc (W w 0) = [] := if_pos (by omega)
        rw [e1, if_pos rfl] at hq
        refine rr_iconst (n := 0) dX4_seek_23 ?_
        exact rr_reti (pc := 24) dX4_seek_24 rfl rfl rfl rfl (hq _ (fun k g => by rw [zup_other k (by omega), zup_other k (by omega)]) (by rw [zup_i (by omega), zup_i (by omega)]) ⟨by rw [e1, zup_i (by omega), zup_s], by rw [e2, zup_s]; rfl, fun i hi => by rw [e2] at hi; cases hi⟩)
end
section
def zGm (W : zWd) : Prop := W 98 0 = 0 ∧ W 103 0 = 1
def zOffg (W W' : zWd) : Prop := ∀ k : Nat, (k < 98 ∨ 108 ≤ k) → W' k = W k
theorem zOffg.rf {W : zWd} : zOffg W W := fun _ _ => rfl
theorem zOffg.tr {W W' W'' : zWd} (h : zOffg W W') (h2 : zOffg W' W'') : zOffg W W'' := fun k hk => (h2 k hk).trans (h k hk)
theorem zOffw.g98 {W W' : zWd} (h : zOffw 98 W W') : zOffg W W' := fun k hk => h k (by omega)
theorem zOffw.g103 {W W' : zWd} (h : zOffw 103 W W') : zOffg W W' := fun k hk => h k (by omega)
theorem zLaid.cg {W W' : zWd} {w : Nat} {a : Int → Int} {q tg bk : Int} {rc : Nat} (h : zLaid W w a q tg rc bk) (e0 : W' w = W w) (e1 : W' (w + 1) = W (w + 1)) : zLaid W' w a q tg rc bk := by
  unfold zLaid at *; rw [e0, e1]; exact h
theorem zGm.s98 {W W' : zWd} (h : zGm W) (o : zOffw 98 W W') (e : W' 98 0 = W 98 0) : zGm W' := ⟨e.trans h.1, by rw [o 103 (by omega)]; exact h.2⟩
theorem zGm.s103 {W W' : zWd} (h : zGm W) (o : zOffw 103 W W') (e : W' 103 0 = W 103 0) : zGm W' := ⟨by rw [o 98 (by omega)]; exact h.1, e.trans h.2⟩
theorem zCR.g {W W' : zWd} {c : Nat} {a : Int → Int} (h : zCR W c a) (hc : zCt c) (o : zOffg W W') : zCR W' c a := CR_off h (fun k g1 g2 => o k (by have := hc.lt; omega))
theorem z_i01 {P : Prop} [Decidable P] (h : (if P then (0 : Int) else 1) = 0) : P := by
  by_cases q : P
  · exact q
  · rw [if_neg q] at h; omega
theorem z_i01n {P : Prop} [Decidable P] (h : (if P then (0 : Int) else 1) ≠ 0) : ¬ P := fun q => by rw [if_pos q] at h; exact h rfl
theorem z_i10 {P : Prop} [Decidable P] (h : (if P then (1 : Int) else 0) = 0) : ¬ P := fun q => by rw [if_pos q] at h; omega
theorem z_i10n {P : Prop} [Decidable P] (h : (if P then (1 : Int) else 0) ≠ 0) : P := by
  by_cases q : P
  · exact q
  · rw [if_neg q] at h; exact absurd rfl h
def aRc (a : Int → Int) (q : Int) : Nat := (aP a q 0).toNat
def aHopF (a : Int → Int) (q : Int) : Int := if aP a q 2 = 0 then -1 else if aCost a q (aP a q 2) (aRc a q) 0 = -1 then 4 else if aCost a q (aP a q 2) (aRc a q) 1 = -1 then 5 else 0
theorem aCost_0 {a : Int → Int} {q bk : Int} {rc : Nat} : aCost a q 0 rc bk = -1 := if_pos (by omega)
theorem dX1_ownWay_0 : decode cX1_ownWay 0 = .ok (.iload_n 3, 1) := by decide +kernel
theorem dX1_ownWay_1 : decode cX1_ownWay 1 = .ok (.ifCond .eq 10, 3) := by decide +kernel
theorem dX1_ownWay_4 : decode cX1_ownWay 4 = .ok (.aload_n 0, 1) := by decide +kernel
theorem dX1_ownWay_5 : decode cX1_ownWay 5 = .ok (.getfield 20, 3) := by decide +kernel
theorem dX1_ownWay_8 : decode cX1_ownWay 8 = .ok (.goto 7, 3) := by decide +kernel
theorem dX1_ownWay_11 : decode cX1_ownWay 11 = .ok (.aload_n 0, 1) := by decide +kernel
theorem dX1_ownWay_12 : decode cX1_ownWay 12 = .ok (.getfield 14, 3) := by decide +kernel
theorem dX1_ownWay_15 : decode cX1_ownWay 15 = .ok (.astore 4, 2) := by decide +kernel
theorem dX1_ownWay_17 : decode cX1_ownWay 17 = .ok (.aload 4, 2) := by decide +kernel
theorem dX1_ownWay_19 : decode cX1_ownWay 19 = .ok (.aload_n 1, 1) := by decide +kernel
theorem dX1_ownWay_20 : decode cX1_ownWay 20 = .ok (.iload_n 2, 1) := by decide +kernel
theorem dX1_ownWay_21 : decode cX1_ownWay 21 = .ok (.aload_n 1, 1) := by decide +kernel
theorem dX1_ownWay_22 : decode cX1_ownWay 22 = .ok (.iload_n 2, 1) := by decide +kernel
theorem dX1_ownWay_23 : decode cX1_ownWay 23 = .ok (.iconst 2, 1) := by decide +kernel
theorem dX1_ownWay_24 : decode cX1_ownWay 24 = .ok (.invokevirtual 23, 3) := by decide +kernel
theorem dX1_ownWay_27 : decode cX1_ownWay 27 = .ok (.aload_n 1, 1) := by decide +kernel
theorem dX1_ownWay_28 : decode cX1_ownWay 28 = .ok (.iload_n 2, 1) := by decide +kernel
theorem dX1_ownWay_29 : decode cX1_ownWay 29 = .ok (.iconst 0, 1) := by decide +kernel
theorem dX1_ownWay_30 : decode cX1_ownWay 30 = .ok (.invokevirtual 23, 3) := by decide +kernel
theorem dX1_ownWay_33 : decode cX1_ownWay 33 = .ok (.invokevirtual 29, 3) := by decide +kernel
theorem dX1_ownWay_36 : decode cX1_ownWay 36 = .ok (.pop, 1) := by decide +kernel
theorem dX1_ownWay_37 : decode cX1_ownWay 37 = .ok (.aload 4, 2) := by decide +kernel
theorem dX1_ownWay_39 : decode cX1_ownWay 39 = .ok (.areturn, 1) := by decide +kernel
theorem eX1_ownWay {c : Nat} {W : zWd} {a : Int → Int} {T q : Int} {b : Int} {w : Nat} {Q : Option Value → zWd → Prop} {X : zX} (hc : zCt c) (hR : zCR W c a) (hw : zWf T a) (hg : zGm W) (hq0 : 0 ≤ q) (hq1 : q < a 2) (hbw : (b = 0 ∧ w = 98) ∨ (b = 1 ∧ w = 103)) (hq : ∀ W' : zWd, zOffg W W' → zGm W' → zLaid W' w a q (aP a q 2) (aRc a q) b → Q (some (.ref w)) W') : Ev MX1_ownWay 4 0 W [.ref 97, .ref c, zI q, zI b] Q X := by
  refine ev_of (ls := [.ref 97, .ref c, zI q, zI b, .null]) (by decide) rfl (fun _ => rfl) (fun _ => Nat.le_of_ble_eq_true rfl) (Or.inl rfl) ?_
  obtain ⟨r0, r1, r2, r3, r4, r5, r6, r7, rF, rS, rP, rB⟩ := id hR
  obtain ⟨w0, w0', wW, w1, w2, w2', w3, w3', w4, w4', w5, w5', w6, w6', w7, w7', wS, wP, wT⟩ := id hw
  have wq := zWf.sq hw
  have hm := rP q hq0 hq1
  have hm2 := wP q hq0 hq1
  unfold zWfP at hm2
  have hrc : aP a q 0 = ((aRc a q : Nat) : Int) := by unfold aRc; omega
  rcases hbw with ⟨rfl, rfl⟩ | ⟨rfl, rfl⟩
  · refine rr_iload_n (pc := 0) dX1_ownWay_0 rfl ?_
    refine rr_if_eq (pc := 1) (tgt := 11) dX1_ownWay_1 (by decide) (by unfold zR; omega) (fun h1 => ?_) (fun h1 => ?_)
    · refine rr_aload_n (pc := 11) dX1_ownWay_11 rfl ?_
      refine rr_getR (pc := 12) dX1_ownWay_12 fX1_14 zk_97 zr_97_0 ?_
      refine rr_astore (pc := 15) dX1_ownWay_15 (by decide) ?_
      refine rr_aload (pc := 17) dX1_ownWay_17 rfl ?_
      refine rr_aload_n (pc := 19) dX1_ownWay_19 rfl ?_
      refine rr_iload_n (pc := 20) dX1_ownWay_20 rfl ?_
      refine rr_aload_n (pc := 21) dX1_ownWay_21 rfl ?_
      refine rr_iload_n (pc := 22) dX1_ownWay_22 rfl ?_
      refine rr_iconst (n := 2) dX1_ownWay_23 ?_
      refine rr_invN (M' := MX0_get) (k := c) (As := [_, _]) (pc := 24) dX1_ownWay_24 lX1_23 kX0_get vX0_get hc.k (by decide) rfl (by decide) (by decide) (Nat.le_of_ble_eq_true rfl) rfl (eX0_get hc (by omega) (by omega) (by omega) (by omega) ?_)
      rw [hm.2.2.1]
      refine rr_aload_n (pc := 27) dX1_ownWay_27 rfl ?_
      refine rr_iload_n (pc := 28) dX1_ownWay_28 rfl ?_
      refine rr_iconst (n := 0) dX1_ownWay_29 ?_
      refine rr_invN (M' := MX0_get) (k := c) (As := [_, _]) (pc := 30) dX1_ownWay_30 lX1_23 kX0_get vX0_get hc.k (by decide) rfl (by decide) (by decide) (Nat.le_of_ble_eq_true rfl) rfl (eX0_get hc (by omega) (by omega) (by omega) (by omega) ?_)
      rw [hm.1, hrc]
      refine rr_invN (M' := MX4_seek) (k := 98) (As := [_, _, _, _]) (pc := 33) dX1_ownWay_33 lX1_29 kX4_seek vX4_seek zk_98 (by decide) rfl (by decide) (by decide) (Nat.le_of_ble_eq_true rfl) rfl (eX4_seek (rc := aRc a q) (Or.inl rfl) hc (hR) hw (by rw [(hg).1]; unfold zR; omega) hq0 hq1 (by unfold zR; omega) (by omega) (by omega) (fun W1 o1 z1 l1 => ?_))
      rw [hg.1] at l1
      refine rr_pop_i (pc := 36) dX1_ownWay_36 ?_
      refine rr_aload (pc := 37) dX1_ownWay_37 rfl ?_
      exact rr_reta (pc := 39) dX1_ownWay_39 rfl rfl (hq W1 o1.g98 (hg.s98 o1 z1) l1)
    · omega
  · refine rr_iload_n (pc := 0) dX1_ownWay_0 rfl ?_
    refine rr_if_eq (pc := 1) (tgt := 11) dX1_ownWay_1 (by decide) (by unfold zR; omega) (fun h1 => ?_) (fun h1 => ?_)
    · omega
    · refine rr_aload_n (pc := 4) dX1_ownWay_4 rfl ?_
      refine rr_getR (pc := 5) dX1_ownWay_5 fX1_20 zk_97 zr_97_1 ?_
      refine rr_goto (pc := 8) (tgt := 15) dX1_ownWay_8 (by decide) ?_
      refine rr_astore (pc := 15) dX1_ownWay_15 (by decide) ?_
      refine rr_aload (pc := 17) dX1_ownWay_17 rfl ?_
      refine rr_aload_n (pc := 19) dX1_ownWay_19 rfl ?_
      refine rr_iload_n (pc := 20) dX1_ownWay_20 rfl ?_
      refine rr_aload_n (pc := 21) dX1_ownWay_21 rfl ?_
      refine rr_iload_n (pc := 22) dX1_ownWay_22 rfl ?_
      refine rr_iconst (n := 2) dX1_ownWay_23 ?_
      refine rr_invN (M' := MX0_get) (k := c) (As := [_, _]) (pc := 24) dX1_ownWay_24 lX1_23 kX0_get vX0_get hc.k (by decide) rfl (by decide) (by decide) (Nat.le_of_ble_eq_true rfl) rfl (eX0_get hc (by omega) (by omega) (by omega) (by omega) ?_)
      rw [hm.2.2.1]
      refine rr_aload_n (pc := 27) dX1_ownWay_27 rfl ?_
      refine rr_iload_n (pc := 28) dX1_ownWay_28 rfl ?_
      refine rr_iconst (n := 0) dX1_ownWay_29 ?_
      refine rr_invN (M' := MX0_get) (k := c) (As := [_, _]) (pc := 30) dX1_ownWay_30 lX1_23 kX0_get vX0_get hc.k (by decide) rfl (by decide) (by decide) (Nat.le_of_ble_eq_true rfl) rfl (eX0_get hc (by omega) (by omega) (by omega) (by omega) ?_)
      rw [hm.1, hrc]
      refine rr_invN (M' := MX4_seek) (k := 103) (As := [_, _, _, _]) (pc := 33) dX1_ownWay_33 lX1_29 kX4_seek vX4_seek zk_103 (by decide) rfl (by decide) (by decide) (Nat.le_of_ble_eq_true rfl) rfl (eX4_seek (rc := aRc a q) (Or.inr rfl) hc (hR) hw (by rw [(hg).2]; unfold zR; omega) hq0 hq1 (by unfold zR; omega) (by omega) (by omega) (fun W2 o2 z2 l2 => ?_))
      rw [hg.2] at l2
      refine rr_pop_i (pc := 36) dX1_ownWay_36 ?_
      refine rr_aload (pc := 37) dX1_ownWay_37 rfl ?_
      exact rr_reta (pc := 39) dX1_ownWay_39 rfl rfl (hq W2 o2.g103 (hg.s103 o2 z2) l2)
theorem dX1_hasBothWays_0 : decode cX1_hasBothWays 0 = .ok (.aload_n 0, 1) := by decide +kernel
theorem dX1_hasBothWays_1 : decode cX1_hasBothWays 1 = .ok (.getfield 14, 3) := by decide +kernel
theorem dX1_hasBothWays_4 : decode cX1_hasBothWays 4 = .ok (.aload_n 1, 1) := by decide +kernel
theorem dX1_hasBothWays_5 : decode cX1_hasBothWays 5 = .ok (.iload_n 2, 1) := by decide +kernel
theorem dX1_hasBothWays_6 : decode cX1_hasBothWays 6 = .ok (.iload_n 3, 1) := by decide +kernel
theorem dX1_hasBothWays_7 : decode cX1_hasBothWays 7 = .ok (.iload 4, 2) := by decide +kernel
theorem dX1_hasBothWays_9 : decode cX1_hasBothWays 9 = .ok (.invokevirtual 29, 3) := by decide +kernel
theorem dX1_hasBothWays_12 : decode cX1_hasBothWays 12 = .ok (.ifCond .eq 22, 3) := by decide +kernel
theorem dX1_hasBothWays_15 : decode cX1_hasBothWays 15 = .ok (.aload_n 0, 1) := by decide +kernel
theorem dX1_hasBothWays_16 : decode cX1_hasBothWays 16 = .ok (.getfield 20, 3) := by decide +kernel
theorem dX1_hasBothWays_19 : decode cX1_hasBothWays 19 = .ok (.aload_n 1, 1) := by decide +kernel
theorem dX1_hasBothWays_20 : decode cX1_hasBothWays 20 = .ok (.iload_n 2, 1) := by decide +kernel
theorem dX1_hasBothWays_21 : decode cX1_hasBothWays 21 = .ok (.iload_n 3, 1) := by decide +kernel
theorem dX1_hasBothWays_22 : decode cX1_hasBothWays 22 = .ok (.iload 4, 2) := by decide +kernel
theorem dX1_hasBothWays_24 : decode cX1_hasBothWays 24 = .ok (.invokevirtual 29, 3) := by decide +kernel
theorem dX1_hasBothWays_27 : decode cX1_hasBothWays 27 = .ok (.ifCond .eq 7, 3) := by decide +kernel
theorem dX1_hasBothWays_30 : decode cX1_hasBothWays 30 = .ok (.iconst 1, 1) := by decide +kernel
theorem dX1_hasBothWays_31 : decode cX1_hasBothWays 31 = .ok (.goto 4, 3) := by decide +kernel
theorem dX1_hasBothWays_34 : decode cX1_hasBothWays 34 = .ok (.iconst 0, 1) := by decide +kernel
theorem dX1_hasBothWays_35 : decode cX1_hasBothWays 35 = .ok (.ireturn, 1) := by decide +kernel
theorem eX1_hasBothWays {c : Nat} {W : zWd} {a : Int → Int} {T q : Int} {tg : Int} {rc : Nat} {Q : Option Value → zWd → Prop} {X : zX} (hc : zCt c) (hR : zCR W c a) (hw : zWf T a) (hg : zGm W) (hq0 : 0 ≤ q) (hq1 : q < a 2) (htz : zR tg) (hr1 : 1 ≤ rc) (hr4 : rc ≤ 4) (hq : ∀ W' : zWd, zOffg W W' → zGm W' → Q (some (zI (if aCost a q tg rc 0 = -1 ∨ aCost a q tg rc 1 = -1 then 0 else 1))) W') : Ev MX1_hasBothWays 4 0 W [.ref 97, .ref c, zI q, zI tg, zI (rc : Int)] Q X := by
  refine ev_of (ls := [.ref 97, .ref c, zI q, zI tg, zI (rc : Int)]) (by decide) rfl (fun _ => rfl) (fun _ => Nat.le_of_ble_eq_true rfl) (Or.inl rfl) ?_
  obtain ⟨r0, r1, r2, r3, r4, r5, r6, r7, rF, rS, rP, rB⟩ := id hR
  obtain ⟨w0, w0', wW, w1, w2, w2', w3, w3', w4, w4', w5, w5', w6, w6', w7, w7', wS, wP, wT⟩ := id hw
  have wq := zWf.sq hw
  refine rr_aload_n (pc := 0) dX1_hasBothWays_0 rfl ?_
  refine rr_getR (pc := 1) dX1_hasBothWays_1 fX1_14 zk_97 zr_97_0 ?_
  refine rr_aload_n (pc := 4) dX1_hasBothWays_4 rfl ?_
  refine rr_iload_n (pc := 5) dX1_hasBothWays_5 rfl ?_
  refine rr_iload_n (pc := 6) dX1_hasBothWays_6 rfl ?_
  refine rr_iload (pc := 7) dX1_hasBothWays_7 rfl ?_
  refine rr_invN (M' := MX4_seek) (k := 98) (As := [_, _, _, _]) (pc := 9) dX1_hasBothWays_9 lX1_29 kX4_seek vX4_seek zk_98 (by decide) rfl (by decide) (by decide) (Nat.le_of_ble_eq_true rfl) rfl (eX4_seek (rc := rc) (Or.inl rfl) hc (hR) hw (by rw [(hg).1]; unfold zR; omega) hq0 hq1 htz hr1 hr4 (fun W1 o1 z1 l1 => ?_))
  rw [hg.1]
  have hg1 := hg.s98 o1 z1
  refine rr_if_eq (pc := 12) (tgt := 34) dX1_hasBothWays_12 (by decide) (by split <;> (unfold zR; omega)) (fun h12 => ?_) (fun h12 => ?_)
  · refine rr_iconst (n := 0) dX1_hasBothWays_34 ?_
    exact rr_reti (pc := 35) dX1_hasBothWays_35 rfl rfl (if_pos (Or.inl (z_i01 h12))).symm rfl (hq W1 o1.g98 hg1)
  · refine rr_aload_n (pc := 15) dX1_hasBothWays_15 rfl ?_
    refine rr_getR (pc := 16) dX1_hasBothWays_16 fX1_20 zk_97 zr_97_1 ?_
    refine rr_aload_n (pc := 19) dX1_hasBothWays_19 rfl ?_
    refine rr_iload_n (pc := 20) dX1_hasBothWays_20 rfl ?_
    refine rr_iload_n (pc := 21) dX1_hasBothWays_21 rfl ?_
    refine rr_iload (pc := 22) dX1_hasBothWays_22 rfl ?_
    refine rr_invN (M' := MX4_seek) (k := 103) (As := [_, _, _, _]) (pc := 24) dX1_hasBothWays_24 lX1_29 kX4_seek vX4_seek zk_103 (by decide) rfl (by decide) (by decide) (Nat.le_of_ble_eq_true rfl) rfl (eX4_seek (rc := rc) (Or.inr rfl) hc (hR.g hc o1.g98) hw (by rw [(hg1).2]; unfold zR; omega) hq0 hq1 htz hr1 hr4 (fun W2 o2 z2 l2 => ?_))
    rw [hg1.2]
    have hg2 := hg1.s103 o2 z2
    refine rr_if_eq (pc := 27) (tgt := 34) dX1_hasBothWays_27 (by decide) (by split <;> (unfold zR; omega)) (fun h27 => ?_) (fun h27 => ?_)
    · refine rr_iconst (n := 0) dX1_hasBothWays_34 ?_
      exact rr_reti (pc := 35) dX1_hasBothWays_35 rfl rfl (if_pos (Or.inr (z_i01 h27))).symm rfl (hq W2 (o1.g98.tr o2.g103) hg2)
    · refine rr_iconst (n := 1) dX1_hasBothWays_30 ?_
      refine rr_goto (pc := 31) (tgt := 35) dX1_hasBothWays_31 (by decide) ?_
      exact rr_reti (pc := 35) dX1_hasBothWays_35 rfl rfl (if_neg (fun z => z.elim (z_i01n h12) (z_i01n h27))).symm rfl (hq W2 (o1.g98.tr o2.g103) hg2)
theorem dX1_faultOfHops_0 : decode cX1_faultOfHops 0 = .ok (.aload_n 1, 1) := by decide +kernel
theorem dX1_faultOfHops_1 : decode cX1_faultOfHops 1 = .ok (.iload_n 2, 1) := by decide +kernel
theorem dX1_faultOfHops_2 : decode cX1_faultOfHops 2 = .ok (.iconst 2, 1) := by decide +kernel
theorem dX1_faultOfHops_3 : decode cX1_faultOfHops 3 = .ok (.invokevirtual 23, 3) := by decide +kernel
theorem dX1_faultOfHops_6 : decode cX1_faultOfHops 6 = .ok (.istore_n 3, 1) := by decide +kernel
theorem dX1_faultOfHops_7 : decode cX1_faultOfHops 7 = .ok (.aload_n 1, 1) := by decide +kernel
theorem dX1_faultOfHops_8 : decode cX1_faultOfHops 8 = .ok (.iload_n 2, 1) := by decide +kernel
theorem dX1_faultOfHops_9 : decode cX1_faultOfHops 9 = .ok (.iconst 0, 1) := by decide +kernel
theorem dX1_faultOfHops_10 : decode cX1_faultOfHops 10 = .ok (.invokevirtual 23, 3) := by decide +kernel
theorem dX1_faultOfHops_13 : decode cX1_faultOfHops 13 = .ok (.istore 4, 2) := by decide +kernel
theorem dX1_faultOfHops_15 : decode cX1_faultOfHops 15 = .ok (.iload_n 3, 1) := by decide +kernel
theorem dX1_faultOfHops_16 : decode cX1_faultOfHops 16 = .ok (.ifCond .ne 5, 3) := by decide +kernel
theorem dX1_faultOfHops_19 : decode cX1_faultOfHops 19 = .ok (.iconst (-1), 1) := by decide +kernel
theorem dX1_faultOfHops_20 : decode cX1_faultOfHops 20 = .ok (.ireturn, 1) := by decide +kernel
theorem dX1_faultOfHops_21 : decode cX1_faultOfHops 21 = .ok (.aload_n 0, 1) := by decide +kernel
theorem dX1_faultOfHops_22 : decode cX1_faultOfHops 22 = .ok (.getfield 14, 3) := by decide +kernel
theorem dX1_faultOfHops_25 : decode cX1_faultOfHops 25 = .ok (.aload_n 1, 1) := by decide +kernel
theorem dX1_faultOfHops_26 : decode cX1_faultOfHops 26 = .ok (.iload_n 2, 1) := by decide +kernel
theorem dX1_faultOfHops_27 : decode cX1_faultOfHops 27 = .ok (.iload_n 3, 1) := by decide +kernel
theorem dX1_faultOfHops_28 : decode cX1_faultOfHops 28 = .ok (.iload 4, 2) := by decide +kernel
theorem dX1_faultOfHops_30 : decode cX1_faultOfHops 30 = .ok (.invokevirtual 29, 3) := by decide +kernel
theorem dX1_faultOfHops_33 : decode cX1_faultOfHops 33 = .ok (.ifCond .ne 5, 3) := by decide +kernel
theorem dX1_faultOfHops_36 : decode cX1_faultOfHops 36 = .ok (.iconst 4, 1) := by decide +kernel
theorem dX1_faultOfHops_37 : decode cX1_faultOfHops 37 = .ok (.ireturn, 1) := by decide +kernel
theorem dX1_faultOfHops_38 : decode cX1_faultOfHops 38 = .ok (.aload_n 0, 1) := by decide +kernel
theorem dX1_faultOfHops_39 : decode cX1_faultOfHops 39 = .ok (.getfield 20, 3) := by decide +kernel
theorem dX1_faultOfHops_42 : decode cX1_faultOfHops 42 = .ok (.aload_n 1, 1) := by decide +kernel
theorem dX1_faultOfHops_43 : decode cX1_faultOfHops 43 = .ok (.iload_n 2, 1) := by decide +kernel
theorem dX1_faultOfHops_44 : decode cX1_faultOfHops 44 = .ok (.iload_n 3, 1) := by decide +kernel
theorem dX1_faultOfHops_45 : decode cX1_faultOfHops 45 = .ok (.iload 4, 2) := by decide +kernel
theorem dX1_faultOfHops_47 : decode cX1_faultOfHops 47 = .ok (.invokevirtual 29, 3) := by decide +kernel
theorem dX1_faultOfHops_50 : decode cX1_faultOfHops 50 = .ok (.ifCond .eq 7, 3) := by decide +kernel
theorem dX1_faultOfHops_53 : decode cX1_faultOfHops 53 = .ok (.iconst 0, 1) := by decide +kernel
theorem dX1_faultOfHops_54 : decode cX1_faultOfHops 54 = .ok (.goto 4, 3) := by decide +kernel
theorem dX1_faultOfHops_57 : decode cX1_faultOfHops 57 = .ok (.iconst 5, 1) := by decide +kernel
theorem dX1_faultOfHops_58 : decode cX1_faultOfHops 58 = .ok (.ireturn, 1) := by decide +kernel
theorem eX1_faultOfHops {c : Nat} {W : zWd} {a : Int → Int} {T q : Int}  {Q : Option Value → zWd → Prop} {X : zX} (hc : zCt c) (hR : zCR W c a) (hw : zWf T a) (hg : zGm W) (hq0 : 0 ≤ q) (hq1 : q < a 2) (hq : ∀ W' : zWd, zOffg W W' → zGm W' → (aHopF a q = 0 → zLaid W' 98 a q (aP a q 2) (aRc a q) 0 ∧ zLaid W' 103 a q (aP a q 2) (aRc a q) 1) → Q (some (zI (aHopF a q))) W') : Ev MX1_faultOfHops 4 0 W [.ref 97, .ref c, zI q] Q X := by
  refine ev_of (ls := [.ref 97, .ref c, zI q, .null, .null]) (by decide) rfl (fun _ => rfl) (fun _ => Nat.le_of_ble_eq_true rfl) (Or.inl rfl) ?_
  obtain ⟨r0, r1, r2, r3, r4, r5, r6, r7, rF, rS, rP, rB⟩ := id hR
  obtain ⟨w0, w0', wW, w1, w2, w2', w3, w3', w4, w4', w5, w5', w6, w6', w7, w7', wS, wP, wT⟩ := id hw
  have wq := zWf.sq hw
  have hm := rP q hq0 hq1
  have hm2 := wP q hq0 hq1
  unfold zWfP at hm2
  have hrc : aP a q 0 = ((aRc a q : Nat) : Int) := by unfold aRc; omega
  refine rr_aload_n (pc := 0) dX1_faultOfHops_0 rfl ?_
  refine rr_iload_n (pc := 1) dX1_faultOfHops_1 rfl ?_
  refine rr_iconst (n := 2) dX1_faultOfHops_2 ?_
  refine rr_invN (M' := MX0_get) (k := c) (As := [_, _]) (pc := 3) dX1_faultOfHops_3 lX1_23 kX0_get vX0_get hc.k (by decide) rfl (by decide) (by decide) (Nat.le_of_ble_eq_true rfl) rfl (eX0_get hc (by omega) (by omega) (by omega) (by omega) ?_)
  rw [hm.2.2.1]
  refine rr_istore_n (pc := 6) dX1_faultOfHops_6 (by decide) ?_
  refine rr_aload_n (pc := 7) dX1_faultOfHops_7 rfl ?_
  refine rr_iload_n (pc := 8) dX1_faultOfHops_8 rfl ?_
  refine rr_iconst (n := 0) dX1_faultOfHops_9 ?_
  refine rr_invN (M' := MX0_get) (k := c) (As := [_, _]) (pc := 10) dX1_faultOfHops_10 lX1_23 kX0_get vX0_get hc.k (by decide) rfl (by decide) (by decide) (Nat.le_of_ble_eq_true rfl) rfl (eX0_get hc (by omega) (by omega) (by omega) (by omega) ?_)
  rw [hm.1, hrc]
  refine rr_istore (pc := 13) dX1_faultOfHops_13 (by decide) ?_
  refine rr_iload_n (pc := 15) dX1_faultOfHops_15 rfl ?_
  refine rr_if_ne (pc := 16) (tgt := 21) dX1_faultOfHops_16 (by decide) (by unfold zR; omega) (fun h16 => ?_) (fun h16 => ?_)
  · refine rr_aload_n (pc := 21) dX1_faultOfHops_21 rfl ?_
    refine rr_getR (pc := 22) dX1_faultOfHops_22 fX1_14 zk_97 zr_97_0 ?_
    refine rr_aload_n (pc := 25) dX1_faultOfHops_25 rfl ?_
    refine rr_iload_n (pc := 26) dX1_faultOfHops_26 rfl ?_
    refine rr_iload_n (pc := 27) dX1_faultOfHops_27 rfl ?_
    refine rr_iload (pc := 28) dX1_faultOfHops_28 rfl ?_
    refine rr_invN (M' := MX4_seek) (k := 98) (As := [_, _, _, _]) (pc := 30) dX1_faultOfHops_30 lX1_29 kX4_seek vX4_seek zk_98 (by decide) rfl (by decide) (by decide) (Nat.le_of_ble_eq_true rfl) rfl (eX4_seek (rc := aRc a q) (Or.inl rfl) hc (hR) hw (by rw [(hg).1]; unfold zR; omega) hq0 hq1 (by unfold zR; omega) (by omega) (by omega) (fun W1 o1 z1 l1 => ?_))
    rw [hg.1] at l1 ⊢
    have hg1 := hg.s98 o1 z1
    refine rr_if_ne (pc := 33) (tgt := 38) dX1_faultOfHops_33 (by decide) (by split <;> (unfold zR; omega)) (fun h33 => ?_) (fun h33 => ?_)
    · refine rr_aload_n (pc := 38) dX1_faultOfHops_38 rfl ?_
      refine rr_getR (pc := 39) dX1_faultOfHops_39 fX1_20 zk_97 zr_97_1 ?_
      refine rr_aload_n (pc := 42) dX1_faultOfHops_42 rfl ?_
      refine rr_iload_n (pc := 43) dX1_faultOfHops_43 rfl ?_
      refine rr_iload_n (pc := 44) dX1_faultOfHops_44 rfl ?_
      refine rr_iload (pc := 45) dX1_faultOfHops_45 rfl ?_
      refine rr_invN (M' := MX4_seek) (k := 103) (As := [_, _, _, _]) (pc := 47) dX1_faultOfHops_47 lX1_29 kX4_seek vX4_seek zk_103 (by decide) rfl (by decide) (by decide) (Nat.le_of_ble_eq_true rfl) rfl (eX4_seek (rc := aRc a q) (Or.inr rfl) hc (hR.g hc o1.g98) hw (by rw [(hg1).2]; unfold zR; omega) hq0 hq1 (by unfold zR; omega) (by omega) (by omega) (fun W2 o2 z2 l2 => ?_))
      rw [hg1.2] at l2 ⊢
      have hg2 := hg1.s103 o2 z2
      refine rr_if_eq (pc := 50) (tgt := 57) dX1_faultOfHops_50 (by decide) (by split <;> (unfold zR; omega)) (fun h50 => ?_) (fun h50 => ?_)
      · refine rr_iconst (n := 5) dX1_faultOfHops_57 ?_
        have e8 : ¬ aCost a q (aP a q 2) (aRc a q) 0 = -1 := z_i01n h33
        have e9 : aHopF a q = 5 := by unfold aHopF; rw [if_neg (by omega), if_neg e8, if_pos (z_i01 h50)]
        exact rr_reti (pc := 58) dX1_faultOfHops_58 rfl rfl e9.symm rfl (hq W2 (o1.g98.tr o2.g103) hg2 (fun z => by omega))
      · refine rr_iconst (n := 0) dX1_faultOfHops_53 ?_
        refine rr_goto (pc := 54) (tgt := 58) dX1_faultOfHops_54 (by decide) ?_
        have e8 : ¬ aCost a q (aP a q 2) (aRc a q) 0 = -1 := z_i01n h33
        have e9 : aHopF a q = 0 := by unfold aHopF; rw [if_neg (by omega), if_neg e8, if_neg (z_i01n h50)]
        exact rr_reti (pc := 58) dX1_faultOfHops_58 rfl rfl e9.symm rfl (hq W2 (o1.g98.tr o2.g103) hg2 (fun _ => ⟨l1.cg (o2 98 (by omega)) (o2 99 (by omega)), l2⟩))
    · refine rr_iconst (n := 4) dX1_faultOfHops_36 ?_
      have e9 : aHopF a q = 4 := by unfold aHopF; rw [if_neg (by omega), if_pos (z_i01 h33)]
      exact rr_reti (pc := 37) dX1_faultOfHops_37 rfl rfl e9.symm rfl (hq W1 o1.g98 hg1 (fun z => by omega))
  · refine rr_iconst (n := (-1)) dX1_faultOfHops_19 ?_
    have e9 : aHopF a q = -1 := by unfold aHopF; rw [if_pos (by omega)]
    exact rr_reti (pc := 20) dX1_faultOfHops_20 rfl rfl e9.symm rfl (hq W zOffg.rf hg (fun z => by omega))
end
section
/-! TURNS -/
def aBoth (a : Int → Int) (q tg : Int) : Prop := aCost a q tg (aRc a q) 0 ≠ -1 ∧ aCost a q tg (aRc a q) 1 ≠ -1
def aPlC (a : Int → Int) (q : Int) : Nat → Int
  | 0 => 0
  | n + 1 => aPlC a q n + (if ¬ aForb a q ((n : Int) + 1) ∧ ¬ (aCost a q ((n : Int) + 1) (aRc a q) 0 = -1 ∨ aCost a q ((n : Int) + 1) (aRc a q) 1 = -1) then 1 else 0)
def aPlay (a : Int → Int) (q : Int) : Int := aPlC a q (a 1).toNat
theorem aPlC_rng (a : Int → Int) (q : Int) : ∀ n : Nat, 0 ≤ aPlC a q n ∧ aPlC a q n ≤ n := by
  intro n
  induction n with
  | zero => exact ⟨Int.le_refl _, Int.le_refl _⟩
  | succ n ih => unfold aPlC; split <;> omega
def aOth (a : Int → Int) (q : Int) : Nat → Int
  | 0 => 0
  | n + 1 => aOth a q n + (if (n : Int) = q then 0 else aPlay a n)
def aLands (P : Int → Bool) : List Int → (Int → Int) → (Int → Int)
  | [], a => a
  | r :: t, a => aLands P t (aLand a r P)
/-- hops are made: landings, and their number -/
def aMkH (a : Int → Int) (P : Int → Bool) (R : List Int) : Int → Int := iup (aLands P R a) 6 (a 6 + R.length)
theorem aLd_out (P : Int → Bool) : ∀ (n : Nat) (s : Int) (a : Int → Int) (j : Int), 1 ≤ s → s + n ≤ 21 → (j < 18 ∨ 58 ≤ j) → aLd P n s a j = a j := by
  intro n
  induction n with
  | zero => intro s a j _ _ _; rfl
  | succ n ih =>
    intro s a j h1 h2 h3
    unfold aLd
    rw [ih _ _ j (by omega) (by omega) h3]
    split
    · exact iup_n (by omega)
    · rfl
theorem aLd_cg {P P' : Int → Bool} : ∀ (n : Nat) (s : Int) (a : Int → Int), (∀ s' : Int, s ≤ s' → s' < s + n → P s' = P' s') → aLd P n s a = aLd P' n s a := by
  intro n
  induction n with
  | zero => intro s a _; rfl
  | succ n ih =>
    intro s a h
    unfold aLd
    rw [h s (by omega) (by omega)]
    exact ih _ _ (fun s' g1 g2 => h s' (by omega) (by omega))
theorem aLd_wf (P : Int → Bool) {T : Int} (hT : T + 1 ≤ 100000000) : ∀ (n : Nat) (s : Int) (a : Int → Int), 1 ≤ s → s + n ≤ a 1 + 1 → zWf (T + 1) a → (∀ s' : Int, s ≤ s' → s' ≤ a 1 → aL a s' ≤ T) → zWf (T + 1) (aLd P n s a) := by
  intro n
  induction n with
  | zero => intro s a _ _ h _; exact h
  | succ n ih =>
    intro s a h1 h2 hw hL
    have hsq := zWf.sq hw
    unfold aLd
    by_cases hP : P s
    · rw [if_pos hP]
      have h9 := hw.2.2.2.2.2.2.2.2.2.2.2.2.2.2.2.2.1 s h1 (by omega)
      have h8 := hL s (Int.le_refl _) (by omega)
      have e1 : iup a (18 + 2 * (s - 1) + 1) (a (18 + 2 * (s - 1) + 1) + 1) 1 = a 1 := iup_n (by omega)
      refine ih (s + 1) _ (by omega) (by rw [e1]; omega) ?_ (fun s' g1 g2 => ?_)
      · have h7 := WF_S (o := 1) (v := a (18 + 2 * (s - 1) + 1) + 1) hw h1 (by omega) (Or.inr ⟨rfl, by unfold aL at h9 h8; omega, by unfold aL at h9 h8; omega⟩)
        exact h7
      · rw [e1] at g2
        unfold aL
        rw [iup_n (by omega)]
        exact hL s' (by omega) g2
    · rw [if_neg hP]
      exact ih (s + 1) a (by omega) (by omega) hw (fun s' g1 g2 => hL s' (by omega) g2)
theorem aRow_in {T : Int} {a : Int → Int} {r : Int} (hw : zWf T a) (h0 : 0 ≤ r) (h1 : r < a 0) : 1 ≤ aF a r.toNat ∧ aF a r.toNat + (a (8 + r)).toNat ≤ a 1 + 1 := by
  have hf := aF_lo hw (r := r.toNat) (by omega)
  have hf2 := aF_le hw (r := r.toNat + 1) (by omega)
  have hst := aF_step (a := a) r.toNat
  rw [show ((r.toNat : Nat) : Int) = r by omega] at hst
  have hww := hw.2.2.1 r h0 h1
  omega
theorem aLand_out {T : Int} {a : Int → Int} {r : Int} {P : Int → Bool} (hw : zWf T a) {j : Int} (hj : j < 18 ∨ 58 ≤ j) : aLand a r P j = a j := by
  unfold aLand
  split
  · rfl
  · have h := aRow_in hw (r := r) (by omega) (by omega)
    have := zWf.sq hw
    exact aLd_out P _ _ a j (by omega) (by omega) hj
theorem aLand_wf {T : Int} {a : Int → Int} {r : Int} {P : Int → Bool} (hw : zWf T a) (hT : T + 1 ≤ 100000000) : zWf (T + 1) (aLand a r P) := by
  have hw1 := hw.mono (T' := T + 1) (by omega) hT
  unfold aLand
  split
  · exact hw1
  · have h := aRow_in hw (r := r) (by omega) (by omega)
    exact aLd_wf P hT _ _ a (by omega) (by omega) hw1 (fun s' g1 g2 => (hw.2.2.2.2.2.2.2.2.2.2.2.2.2.2.2.2.1 s' (by omega) g2).2.2.2)
theorem aLand_cg {T : Int} {a : Int → Int} {r : Int} {P P' : Int → Bool} (hw : zWf T a) (h : ∀ s : Int, 1 ≤ s → s ≤ a 1 → P s = P' s) : aLand a r P = aLand a r P' := by
  unfold aLand
  split
  · rfl
  · have h9 := aRow_in hw (r := r) (by omega) (by omega)
    exact aLd_cg _ _ _ (fun s' g1 g2 => h s' (by omega) (by omega))
theorem aLands_wf {P : Int → Bool} : ∀ (R : List Int) (T : Int) (a : Int → Int), zWf T a → T + R.length ≤ 100000000 → zWf (T + R.length) (aLands P R a) := by
  intro R
  induction R with
  | nil =>
    intro T a hw _
    show zWf (T + ((0 : Nat) : Int)) a
    rw [show T + ((0 : Nat) : Int) = T by omega]
    exact hw
  | cons r t ih =>
    intro T a hw hT
    have h9 : ((r :: t).length : Int) = (t.length : Int) + 1 := by simp
    rw [h9] at hT ⊢
    have h8 := ih (T + 1) (aLand a r P) (aLand_wf hw (by omega)) (by omega)
    rw [show T + ((t.length : Int) + 1) = T + 1 + t.length by omega]
    exact h8
theorem aLands_out {P : Int → Bool} {j : Int} (hj : j < 18 ∨ 58 ≤ j) : ∀ (R : List Int) (T : Int) (a : Int → Int), zWf T a → T + R.length ≤ 100000000 → aLands P R a j = a j := by
  intro R
  induction R with
  | nil => intro T a _ _; rfl
  | cons r t ih =>
    intro T a hw hT
    have h9 : ((r :: t).length : Int) = (t.length : Int) + 1 := by simp
    rw [h9] at hT
    show aLands P t (aLand a r P) j = a j
    rw [ih (T + 1) _ (aLand_wf hw (by omega)) (by omega), aLand_out hw hj]
theorem aLands_cg {P P' : Int → Bool} : ∀ (R : List Int) (T : Int) (a : Int → Int), zWf T a → T + R.length ≤ 100000000 → (∀ s : Int, 1 ≤ s → s ≤ a 1 → P s = P' s) → aLands P R a = aLands P' R a := by
  intro R
  induction R with
  | nil => intro T a _ _ _; rfl
  | cons r t ih =>
    intro T a hw hT h
    have h9 : ((r :: t).length : Int) = (t.length : Int) + 1 := by simp
    rw [h9] at hT
    show aLands P t (aLand a r P) = aLands P' t (aLand a r P')
    rw [← aLand_cg hw h]
    exact ih (T + 1) _ (aLand_wf hw (by omega)) (by omega) (fun s g1 g2 => h s g1 (by rw [aLand_out hw (by omega)] at g2; exact g2))
theorem aMkH_wf {T : Int} {a : Int → Int} {P : Int → Bool} {R : List Int} (hw : zWf T a) (hT : T + R.length ≤ 100000000) : zWf (T + R.length) (aMkH a P R) := by
  have h1 := aLands_wf (P := P) R T a hw hT
  have h6 := hw.2.2.2.2.2.2.2.2.2.2.2.2.1
  have h6' := hw.2.2.2.2.2.2.2.2.2.2.2.2.2.1
  exact WF_0 h1 (Or.inr (Or.inr ⟨Or.inr (Or.inl rfl), by omega, by omega⟩))
theorem aMkH_out {T : Int} {a : Int → Int} {P : Int → Bool} {R : List Int} (hw : zWf T a) (hT : T + R.length ≤ 100000000) {j : Int} (hj : j < 18 ∨ 58 ≤ j) (h6 : j ≠ 6) : aMkH a P R j = a j := by
  unfold aMkH
  rw [iup_n h6]
  exact aLands_out hj R T a hw hT
/-- the rows of a way -/
def aRows (a : Int → Int) (q tg : Int) (rc : Nat) (bk : Int) : List Int := (aWay a q tg rc bk).map (fun k : Nat => zRa bk (a 0 + 1) k)
theorem zHp_len {F : Nat → Int} {L must rc bal : Nat} : ∀ n k s, zV F L must rc bal k s < 1000000 → k ≤ L → (zHp F L must rc bal n k s).length ≤ L - k := by
  intro n
  induction n with
  | zero => intro k s _ _; exact Nat.zero_le _
  | succ n ih =>
    intro k s hv hk
    unfold zHp
    by_cases q : k = L
    · rw [if_pos q]; exact Nat.zero_le _
    · rw [if_neg q]
      obtain ⟨n1, n2, n3, n5, -, -⟩ := zNx_spec (F := F) (L := L) (must := must) (rc := rc) (bal := bal) (k := k) (run := s) (by omega) hv
      have := ih _ _ n5 n3.1
      have := n3.1
      simp only [List.length_cons]
      omega
theorem aWay_len {a : Int → Int} {q tg : Int} {rc : Nat} {bk : Int} (h0 : 0 ≤ a 0) (h10 : a 0 ≤ 10) : (aWay a q tg rc bk).length ≤ 11 := by
  unfold aWay
  split
  · exact Nat.zero_le _
  · unfold zWl
    split
    · have := zHp_len (F := zWF a q tg bk) (L := (a 0 + 1).toNat) (must := zWm a tg bk) (rc := rc) (bal := (aP a q 1).toNat) ((a 0 + 1).toNat + 1) 0 0 (by assumption) (Nat.zero_le _)
      omega
    · exact Nat.zero_le _
/-- the predicates of the hops: out with the own marker on the target, back without it -/
def aPr (a : Int → Int) (q own : Int) : Int → Bool := fun s => aUse a q own s.toNat
def aHopO (a : Int → Int) (p : Int) : Int → Int := aMkH a (aPr a p (aP a p 2)) (aRows a p (aP a p 2) (aRc a p) 0)
def aHopB (a a1 : Int → Int) (p : Int) : Int → Int :=
  let a2 := iup a1 (58 + 17 * p + 5) 0
  aMkH a2 (aPr a p 0) (aRows a p (aP a p 2) (aRc a p) 1)
/-- a turn without a fault: hops, the marker is picked up, the target moves on -/
def aGood (a : Int → Int) (p : Int) : Int → Int :=
  let a3 := aHopB a (aHopO a p) p
  let a4 := aMove a3 p
  iup a4 7 (a4 7 + 1)
theorem zMks_own {a : Int → Int} {p v : Int} (hp : 0 ≤ p) : ∀ n : Nat, zMks (iup a (58 + 17 * p + 5) v) p n = zMks a p n := by
  intro n
  induction n with
  | zero => rfl
  | succ n ih =>
    unfold zMks
    rw [ih]
    by_cases q : (n : Int) = p
    · rw [if_neg (fun z => z.1 q), if_neg (fun z => z.1 q)]
    · rw [aP_up (by omega)]
theorem aUse_own {T : Int} {a : Int → Int} {p v own : Int} {i : Nat} (hw : zWf T a) (hp : 0 ≤ p) (hi : i ≤ 20) : aUse (iup a (58 + 17 * p + 5) v) p own i = aUse a p own i := by
  unfold aUse aForb
  rw [zMks_own hp, aO_upP hp (by omega) (by omega), show iup a (58 + 17 * p + 5) v 2 = a 2 from iup_n (by omega)]
theorem zFt_own {T : Int} {a : Int → Int} {p v own bk : Int} {k : Nat} (hw : zWf T a) (hp : 0 ≤ p) : zFt (iup a (58 + 17 * p + 5) v) p own bk k = zFt a p own bk k := by
  have hsq := zWf.sq hw
  have n0 : iup a (58 + 17 * p + 5) v 0 = a 0 := iup_n (by omega)
  unfold zFt
  rw [n0]
  by_cases h : k = 0 ∨ a 0 + 1 ≤ (k : Int)
  · rw [if_pos h, if_pos h]
  · rw [if_neg h, if_neg h]
    have hr : 0 ≤ zRa bk (a 0 + 1) k ∧ zRa bk (a 0 + 1) k < a 0 := by unfold zRa; split <;> omega
    have h10 := hw.2.1
    have hri := aRow_in hw hr.1 hr.2
    have hww := hw.2.2.1 _ hr.1 hr.2
    rw [aF_cg (a := a) (fun j _ hj => iup_n (by omega)) _ (by omega), show iup a (58 + 17 * p + 5) v (8 + zRa bk (a 0 + 1) k) = a (8 + zRa bk (a 0 + 1) k) from iup_n (by omega)]
    refine zFo_cg (aUse_own hw hp (by omega)) ?_ (fun h2 => aUse_own hw hp (by omega)) (fun h2 => ?_)
    · show decide (aO (iup a _ v) _ = p) = _
      rw [aO_upP hp (by omega) (by omega)]
    · show decide (aO (iup a _ v) _ = p) = _
      rw [aO_upP hp (by omega) (by omega)]
theorem aCost_own {T : Int} {a : Int → Int} {p v tg bk : Int} {rc : Nat} (hw : zWf T a) (hp : 0 ≤ p) : aCost (iup a (58 + 17 * p + 5) v) p tg rc bk = aCost a p tg rc bk ∧ aWay (iup a (58 + 17 * p + 5) v) p tg rc bk = aWay a p tg rc bk := by
  have hF : zWF (iup a (58 + 17 * p + 5) v) p tg bk = zWF a p tg bk := by funext k; exact zFt_own hw hp
  have n0 : iup a (58 + 17 * p + 5) v 0 = a 0 := iup_n (by omega)
  have n1 : iup a (58 + 17 * p + 5) v 1 = a 1 := iup_n (by omega)
  have hm : zWm (iup a (58 + 17 * p + 5) v) tg bk = zWm a tg bk := by
    unfold zWm
    rw [n0, aR_cg (a := a) (fun j _ hj => iup_n (by omega))]
  unfold aCost aWay
  rw [hF, n0, n1, hm, aP_up (by omega)]
  exact ⟨rfl, rfl⟩
theorem aHopF_own {T : Int} {a : Int → Int} {p v : Int} (hw : zWf T a) (hp : 0 ≤ p) : aHopF (iup a (58 + 17 * p + 5) v) p = aHopF a p := by
  unfold aHopF aRc
  rw [aP_up (by omega), aP_up (by omega), (aCost_own hw hp).1, (aCost_own hw hp).1]
def aTfault (a : Int → Int) (pw sd : Int) : Int := if aFault a (a 4) pw sd = 0 then aHopF a (a 4) else aFault a (a 4) pw sd
def aTurn (a : Int → Int) (pw sd : Int) : Int → Int :=
  let p := a 4
  let am := iup a (58 + 17 * p + 5) (if aFault a p pw sd = 0 then aP a p 2 else 0)
  let f := aTfault a pw sd
  aEnd (aFlt (if f = 0 then aGood am p else am) p f) p f
end
section
theorem dX1_playableSquares_0 : decode cX1_playableSquares 0 = .ok (.aload_n 1, 1) := by decide +kernel
theorem dX1_playableSquares_1 : decode cX1_playableSquares 1 = .ok (.iload_n 2, 1) := by decide +kernel
theorem dX1_playableSquares_2 : decode cX1_playableSquares 2 = .ok (.iconst 0, 1) := by decide +kernel
theorem dX1_playableSquares_3 : decode cX1_playableSquares 3 = .ok (.invokevirtual 23, 3) := by decide +kernel
theorem dX1_playableSquares_6 : decode cX1_playableSquares 6 = .ok (.istore_n 3, 1) := by decide +kernel
theorem dX1_playableSquares_7 : decode cX1_playableSquares 7 = .ok (.iconst 0, 1) := by decide +kernel
theorem dX1_playableSquares_8 : decode cX1_playableSquares 8 = .ok (.istore 4, 2) := by decide +kernel
theorem dX1_playableSquares_10 : decode cX1_playableSquares 10 = .ok (.iconst 1, 1) := by decide +kernel
theorem dX1_playableSquares_11 : decode cX1_playableSquares 11 = .ok (.istore 5, 2) := by decide +kernel
theorem dX1_playableSquares_13 : decode cX1_playableSquares 13 = .ok (.iload 5, 2) := by decide +kernel
theorem dX1_playableSquares_15 : decode cX1_playableSquares 15 = .ok (.aload_n 1, 1) := by decide +kernel
theorem dX1_playableSquares_16 : decode cX1_playableSquares 16 = .ok (.getfield 33, 3) := by decide +kernel
theorem dX1_playableSquares_19 : decode cX1_playableSquares 19 = .ok (.if_icmp .gt 34, 3) := by decide +kernel
theorem dX1_playableSquares_22 : decode cX1_playableSquares 22 = .ok (.aload_n 1, 1) := by decide +kernel
theorem dX1_playableSquares_23 : decode cX1_playableSquares 23 = .ok (.iload_n 2, 1) := by decide +kernel
theorem dX1_playableSquares_24 : decode cX1_playableSquares 24 = .ok (.iload 5, 2) := by decide +kernel
theorem dX1_playableSquares_26 : decode cX1_playableSquares 26 = .ok (.invokevirtual 37, 3) := by decide +kernel
theorem dX1_playableSquares_29 : decode cX1_playableSquares 29 = .ok (.ifCond .ne 18, 3) := by decide +kernel
theorem dX1_playableSquares_32 : decode cX1_playableSquares 32 = .ok (.aload_n 0, 1) := by decide +kernel
theorem dX1_playableSquares_33 : decode cX1_playableSquares 33 = .ok (.aload_n 1, 1) := by decide +kernel
theorem dX1_playableSquares_34 : decode cX1_playableSquares 34 = .ok (.iload_n 2, 1) := by decide +kernel
theorem dX1_playableSquares_35 : decode cX1_playableSquares 35 = .ok (.iload 5, 2) := by decide +kernel
theorem dX1_playableSquares_37 : decode cX1_playableSquares 37 = .ok (.iload_n 3, 1) := by decide +kernel
theorem dX1_playableSquares_38 : decode cX1_playableSquares 38 = .ok (.invokevirtual 41, 3) := by decide +kernel
theorem dX1_playableSquares_41 : decode cX1_playableSquares 41 = .ok (.ifCond .eq 6, 3) := by decide +kernel
theorem dX1_playableSquares_44 : decode cX1_playableSquares 44 = .ok (.iinc 4 1, 3) := by decide +kernel
theorem dX1_playableSquares_47 : decode cX1_playableSquares 47 = .ok (.iinc 5 1, 3) := by decide +kernel
theorem dX1_playableSquares_50 : decode cX1_playableSquares 50 = .ok (.goto (-37), 3) := by decide +kernel
theorem dX1_playableSquares_53 : decode cX1_playableSquares 53 = .ok (.iload 4, 2) := by decide +kernel
theorem dX1_playableSquares_55 : decode cX1_playableSquares 55 = .ok (.ireturn, 1) := by decide +kernel
theorem eX1_playableSquares {c : Nat} {W : zWd} {a : Int → Int} {T q : Int}  {Q : Option Value → zWd → Prop} {X : zX} (hc : zCt c) (hR : zCR W c a) (hw : zWf T a) (hg : zGm W) (hq0 : 0 ≤ q) (hq1 : q < a 2) (hq : ∀ W' : zWd, zOffg W W' → zGm W' → Q (some (zI (aPlay a q))) W') : Ev MX1_playableSquares 5 0 W [.ref 97, .ref c, zI q] Q X := by
  refine ev_of (ls := [.ref 97, .ref c, zI q, .null, .null, .null]) (by decide) rfl (fun _ => rfl) (fun _ => Nat.le_of_ble_eq_true rfl) (Or.inl rfl) ?_
  obtain ⟨r0, r1, r2, r3, r4, r5, r6, r7, rF, rS, rP, rB⟩ := id hR
  obtain ⟨w0, w0', wW, w1, w2, w2', w3, w3', w4, w4', w5, w5', w6, w6', w7, w7', wS, wP, wT⟩ := id hw
  have wq := zWf.sq hw
  have hm := rP q hq0 hq1
  have hm2 := wP q hq0 hq1
  unfold zWfP at hm2
  have hrc9 : aP a q 0 = ((aRc a q : Nat) : Int) := by unfold aRc; omega
  have hrc : 1 ≤ aRc a q ∧ aRc a q ≤ 4 := by omega
  have loop : ∀ (n : Nat) (i : Int) (Wi : zWd), 1 ≤ i → i ≤ a 1 + 1 → zOffg W Wi → zGm Wi → (a 1 + 1 - i).toNat < n → RR MX1_playableSquares 5 0 Wi 13 [.ref 97, .ref c, zI q, zI (aRc a q : Nat), zI (aPlC a q (i - 1).toNat), zI i] [] (zEnd MX1_playableSquares Q X) X := by
    intro n
    induction n with
    | zero => intro i Wi _ _ _ _ hm9; omega
    | succ n ih =>
      intro i Wi h1 h2 hO hG hm9
      have hC := hR.g hc hO
      obtain ⟨q0, q1, q2, q3, q4, q5, q6, q7, qF, qS, qP, qB⟩ := id hC
      have hp := aPlC_rng a q (i - 1).toNat
      refine rr_iload (pc := 13) dX1_playableSquares_13 rfl ?_
      refine rr_aload_n (pc := 15) dX1_playableSquares_15 rfl ?_
      refine rr_getI (pc := 16) (ji := 1) dX1_playableSquares_16 fX1_33 hc.k hc.i1 rfl ?_
      refine rr_icmp_gt (pc := 19) (tgt := 53) dX1_playableSquares_19 (by decide) (by unfold zR; omega) (by unfold zR; omega) (fun h19 => ?_) (fun h19 => ?_)
      · refine rr_iload (pc := 53) dX1_playableSquares_53 rfl ?_
        exact rr_reti (pc := 55) dX1_playableSquares_55 rfl rfl (by unfold aPlay; rw [show (i - 1).toNat = (a 1).toNat by omega]) rfl (hq Wi hO hG)
      · refine rr_aload_n (pc := 22) dX1_playableSquares_22 rfl ?_
        refine rr_iload_n (pc := 23) dX1_playableSquares_23 rfl ?_
        refine rr_iload (pc := 24) dX1_playableSquares_24 rfl ?_
        refine rr_invN (M' := MX0_isForbidden) (k := c) (As := [_, _]) (pc := 26) dX1_playableSquares_26 lX1_37 kX0_isForbidden vX0_isForbidden hc.k (by decide) rfl (by decide) (by decide) (Nat.le_of_ble_eq_true rfl) rfl (eX0_isForbidden hc hC hw (by omega) (by omega) (by unfold zR; omega) ?_)
        refine rr_if_ne (pc := 29) (tgt := 47) dX1_playableSquares_29 (by decide) (by split <;> (unfold zR; omega)) (fun h29 => ?_) (fun h29 => ?_)
        · refine rr_iinc (pc := 47) dX1_playableSquares_47 rfl (by decide) ?_
          refine rr_goto (pc := 50) (tgt := 13) dX1_playableSquares_50 (by decide) ?_
          have g9 := ih (i + 1) Wi (by omega) (by omega) hO hG (by omega)
          rw [show (i + 1 - 1).toNat = (i - 1).toNat + 1 by omega] at g9
          unfold aPlC at g9
          rw [show (((i - 1).toNat : Nat) : Int) + 1 = i by omega, if_neg (fun z => z.1 (z_i10n h29)), Int.add_zero] at g9
          exact g9
        · refine rr_aload_n (pc := 32) dX1_playableSquares_32 rfl ?_
          refine rr_aload_n (pc := 33) dX1_playableSquares_33 rfl ?_
          refine rr_iload_n (pc := 34) dX1_playableSquares_34 rfl ?_
          refine rr_iload (pc := 35) dX1_playableSquares_35 rfl ?_
          refine rr_iload_n (pc := 37) dX1_playableSquares_37 rfl ?_
          refine rr_inv0 (M' := MX1_hasBothWays) (k := 97) (As := [_, _, _, _]) (pc := 38) dX1_playableSquares_38 lX1_41 kX1_hasBothWays vX1_hasBothWays zk_97 (by decide) rfl (by decide) (by decide) (Nat.le_of_ble_eq_true rfl) rfl (eX1_hasBothWays hc hC hw hG hq0 hq1 (by unfold zR; omega) hrc.1 hrc.2 (fun W1 o1 z1 => ?_))
          refine rr_if_eq (pc := 41) (tgt := 47) dX1_playableSquares_41 (by decide) (by split <;> (unfold zR; omega)) (fun h41 => ?_) (fun h41 => ?_)
          · refine rr_iinc (pc := 47) dX1_playableSquares_47 rfl (by decide) ?_
            refine rr_goto (pc := 50) (tgt := 13) dX1_playableSquares_50 (by decide) ?_
            have g9 := ih (i + 1) W1 (by omega) (by omega) (hO.tr o1) z1 (by omega)
            rw [show (i + 1 - 1).toNat = (i - 1).toNat + 1 by omega] at g9
            unfold aPlC at g9
            rw [show (((i - 1).toNat : Nat) : Int) + 1 = i by omega] at g9
            rw [if_neg (fun z => z.2 (z_i01 h41)), Int.add_zero] at g9
            exact g9
          · refine rr_iinc (pc := 44) dX1_playableSquares_44 rfl (by decide) ?_
            refine rr_iinc (pc := 47) dX1_playableSquares_47 rfl (by decide) ?_
            refine rr_goto (pc := 50) (tgt := 13) dX1_playableSquares_50 (by decide) ?_
            have g9 := ih (i + 1) W1 (by omega) (by omega) (hO.tr o1) z1 (by omega)
            rw [show (i + 1 - 1).toNat = (i - 1).toNat + 1 by omega] at g9
            unfold aPlC at g9
            rw [show (((i - 1).toNat : Nat) : Int) + 1 = i by omega] at g9
            rw [if_pos ⟨z_i10 h29, z_i01n h41⟩] at g9
            exact g9
  refine rr_aload_n (pc := 0) dX1_playableSquares_0 rfl ?_
  refine rr_iload_n (pc := 1) dX1_playableSquares_1 rfl ?_
  refine rr_iconst (n := 0) dX1_playableSquares_2 ?_
  refine rr_invN (M' := MX0_get) (k := c) (As := [_, _]) (pc := 3) dX1_playableSquares_3 lX1_23 kX0_get vX0_get hc.k (by decide) rfl (by decide) (by decide) (Nat.le_of_ble_eq_true rfl) rfl (eX0_get hc (by omega) (by omega) (by omega) (by omega) ?_)
  rw [hm.1, hrc9]
  refine rr_istore_n (pc := 6) dX1_playableSquares_6 (by decide) ?_
  refine rr_iconst (n := 0) dX1_playableSquares_7 ?_
  refine rr_istore (pc := 8) dX1_playableSquares_8 (by decide) ?_
  refine rr_iconst (n := 1) dX1_playableSquares_10 ?_
  refine rr_istore (pc := 11) dX1_playableSquares_11 (by decide) ?_
  exact loop _ 1 W (by omega) (by omega) zOffg.rf hg (Nat.lt_succ_self _)
theorem aPlay_rng {a : Int → Int} {q : Int} (h : a 1 ≤ 20) : 0 ≤ aPlay a q ∧ aPlay a q ≤ 20 := by
  have := aPlC_rng a q (a 1).toNat
  unfold aPlay
  omega
theorem aOth_rng {a : Int → Int} {q : Int} (h : a 1 ≤ 20) : ∀ n : Nat, 0 ≤ aOth a q n ∧ aOth a q n ≤ 20 * n := by
  intro n
  induction n with
  | zero => exact ⟨Int.le_refl _, Int.le_refl _⟩
  | succ n ih =>
    have := aPlay_rng (a := a) (q := n) h
    unfold aOth; split <;> omega
theorem dX1_playableByOthers_0 : decode cX1_playableByOthers 0 = .ok (.iconst 0, 1) := by decide +kernel
theorem dX1_playableByOthers_1 : decode cX1_playableByOthers 1 = .ok (.istore_n 3, 1) := by decide +kernel
theorem dX1_playableByOthers_2 : decode cX1_playableByOthers 2 = .ok (.iconst 0, 1) := by decide +kernel
theorem dX1_playableByOthers_3 : decode cX1_playableByOthers 3 = .ok (.istore 4, 2) := by decide +kernel
theorem dX1_playableByOthers_5 : decode cX1_playableByOthers 5 = .ok (.iload 4, 2) := by decide +kernel
theorem dX1_playableByOthers_7 : decode cX1_playableByOthers 7 = .ok (.aload_n 1, 1) := by decide +kernel
theorem dX1_playableByOthers_8 : decode cX1_playableByOthers 8 = .ok (.getfield 44, 3) := by decide +kernel
theorem dX1_playableByOthers_11 : decode cX1_playableByOthers 11 = .ok (.if_icmp .ge 25, 3) := by decide +kernel
theorem dX1_playableByOthers_14 : decode cX1_playableByOthers 14 = .ok (.iload 4, 2) := by decide +kernel
theorem dX1_playableByOthers_16 : decode cX1_playableByOthers 16 = .ok (.iload_n 2, 1) := by decide +kernel
theorem dX1_playableByOthers_17 : decode cX1_playableByOthers 17 = .ok (.if_icmp .eq 13, 3) := by decide +kernel
theorem dX1_playableByOthers_20 : decode cX1_playableByOthers 20 = .ok (.iload_n 3, 1) := by decide +kernel
theorem dX1_playableByOthers_21 : decode cX1_playableByOthers 21 = .ok (.aload_n 0, 1) := by decide +kernel
theorem dX1_playableByOthers_22 : decode cX1_playableByOthers 22 = .ok (.aload_n 1, 1) := by decide +kernel
theorem dX1_playableByOthers_23 : decode cX1_playableByOthers 23 = .ok (.iload 4, 2) := by decide +kernel
theorem dX1_playableByOthers_25 : decode cX1_playableByOthers 25 = .ok (.invokevirtual 47, 3) := by decide +kernel
theorem dX1_playableByOthers_28 : decode cX1_playableByOthers 28 = .ok (.iadd, 1) := by decide +kernel
theorem dX1_playableByOthers_29 : decode cX1_playableByOthers 29 = .ok (.istore_n 3, 1) := by decide +kernel
theorem dX1_playableByOthers_30 : decode cX1_playableByOthers 30 = .ok (.iinc 4 1, 3) := by decide +kernel
theorem dX1_playableByOthers_33 : decode cX1_playableByOthers 33 = .ok (.goto (-28), 3) := by decide +kernel
theorem dX1_playableByOthers_36 : decode cX1_playableByOthers 36 = .ok (.iload_n 3, 1) := by decide +kernel
theorem dX1_playableByOthers_37 : decode cX1_playableByOthers 37 = .ok (.ireturn, 1) := by decide +kernel
theorem eX1_playableByOthers {c : Nat} {W : zWd} {a : Int → Int} {T q : Int}  {Q : Option Value → zWd → Prop} {X : zX} (hc : zCt c) (hR : zCR W c a) (hw : zWf T a) (hg : zGm W) (hq0 : 0 ≤ q) (hq1 : q < a 2) (hq : ∀ W' : zWd, zOffg W W' → zGm W' → Q (some (zI (aOth a q (a 2).toNat))) W') : Ev MX1_playableByOthers 6 0 W [.ref 97, .ref c, zI q] Q X := by
  refine ev_of (ls := [.ref 97, .ref c, zI q, .null, .null]) (by decide) rfl (fun _ => rfl) (fun _ => Nat.le_of_ble_eq_true rfl) (Or.inl rfl) ?_
  obtain ⟨r0, r1, r2, r3, r4, r5, r6, r7, rF, rS, rP, rB⟩ := id hR
  obtain ⟨w0, w0', wW, w1, w2, w2', w3, w3', w4, w4', w5, w5', w6, w6', w7, w7', wS, wP, wT⟩ := id hw
  have wq := zWf.sq hw
  have loop : ∀ (n : Nat) (i : Int) (Wi : zWd), 0 ≤ i → i ≤ a 2 → zOffg W Wi → zGm Wi → (a 2 - i).toNat < n → RR MX1_playableByOthers 6 0 Wi 5 [.ref 97, .ref c, zI q, zI (aOth a q i.toNat), zI i] [] (zEnd MX1_playableByOthers Q X) X := by
    intro n
    induction n with
    | zero => intro i Wi _ _ _ _ hm9; omega
    | succ n ih =>
      intro i Wi h1 h2 hO hG hm9
      have hC := hR.g hc hO
      obtain ⟨q0, q1, q2, q3, q4, q5, q6, q7, qF, qS, qP, qB⟩ := id hC
      have hp := aOth_rng (a := a) (q := q) (by omega) i.toNat
      refine rr_iload (pc := 5) dX1_playableByOthers_5 rfl ?_
      refine rr_aload_n (pc := 7) dX1_playableByOthers_7 rfl ?_
      refine rr_getI (pc := 8) (ji := 2) dX1_playableByOthers_8 fX1_44 hc.k hc.i2 rfl ?_
      refine rr_icmp_ge (pc := 11) (tgt := 36) dX1_playableByOthers_11 (by decide) (by unfold zR; omega) (by unfold zR; omega) (fun h11 => ?_) (fun h11 => ?_)
      · refine rr_iload_n (pc := 36) dX1_playableByOthers_36 rfl ?_
        exact rr_reti (pc := 37) dX1_playableByOthers_37 rfl rfl (by rw [show i.toNat = (a 2).toNat by omega]) rfl (hq Wi hO hG)
      · refine rr_iload (pc := 14) dX1_playableByOthers_14 rfl ?_
        refine rr_iload_n (pc := 16) dX1_playableByOthers_16 rfl ?_
        refine rr_icmp_eq (pc := 17) (tgt := 30) dX1_playableByOthers_17 (by decide) (by unfold zR; omega) (by unfold zR; omega) (fun h17 => ?_) (fun h17 => ?_)
        · refine rr_iinc (pc := 30) dX1_playableByOthers_30 rfl (by decide) ?_
          refine rr_goto (pc := 33) (tgt := 5) dX1_playableByOthers_33 (by decide) ?_
          have g9 := ih (i + 1) Wi (by omega) (by omega) hO hG (by omega)
          rw [show (i + 1).toNat = i.toNat + 1 by omega] at g9
          unfold aOth at g9
          rw [show ((i.toNat : Nat) : Int) = i by omega, if_pos h17, Int.add_zero] at g9
          exact g9
        · refine rr_iload_n (pc := 20) dX1_playableByOthers_20 rfl ?_
          refine rr_aload_n (pc := 21) dX1_playableByOthers_21 rfl ?_
          refine rr_aload_n (pc := 22) dX1_playableByOthers_22 rfl ?_
          refine rr_iload (pc := 23) dX1_playableByOthers_23 rfl ?_
          refine rr_inv0 (M' := MX1_playableSquares) (k := 97) (As := [_, _]) (pc := 25) dX1_playableByOthers_25 lX1_47 kX1_playableSquares vX1_playableSquares zk_97 (by decide) rfl (by decide) (by decide) (Nat.le_of_ble_eq_true rfl) rfl (eX1_playableSquares hc hC hw hG (by omega) (by omega) (fun W1 o1 z1 => ?_))
          refine rr_iadd (pc := 28) dX1_playableByOthers_28 ?_
          refine rr_istore_n (pc := 29) dX1_playableByOthers_29 (by decide) ?_
          refine rr_iinc (pc := 30) dX1_playableByOthers_30 rfl (by decide) ?_
          refine rr_goto (pc := 33) (tgt := 5) dX1_playableByOthers_33 (by decide) ?_
          have g9 := ih (i + 1) W1 (by omega) (by omega) (hO.tr o1) z1 (by omega)
          rw [show (i + 1).toNat = i.toNat + 1 by omega] at g9
          unfold aOth at g9
          rw [show ((i.toNat : Nat) : Int) = i by omega, if_neg h17] at g9
          exact g9
  refine rr_iconst (n := 0) dX1_playableByOthers_0 ?_
  refine rr_istore_n (pc := 1) dX1_playableByOthers_1 (by decide) ?_
  refine rr_iconst (n := 0) dX1_playableByOthers_2 ?_
  refine rr_istore (pc := 3) dX1_playableByOthers_3 (by decide) ?_
  exact loop _ 0 W (by omega) (by omega) zOffg.rf hg (Nat.lt_succ_self _)
/-- the squares that a hop may land on -/
def aUm (a : Int → Int) (q : Int) : Int → Bool := fun s => (aUset a q (zMks a (-1) (a 2).toNat)).testBit s.toNat
theorem zMks_21 {T : Int} {a : Int → Int} {w : Int} (hw : zWf T a) : zMks a w (a 2).toNat < 2097152 := by
  have hsq := zWf.sq hw
  have h9 := zMks_lt (a := a) (w := w) (a 2).toNat (fun q h0 h1 => by
    have hm2 := hw.2.2.2.2.2.2.2.2.2.2.2.2.2.2.2.2.2.1 q h0 (by omega)
    unfold zWfP at hm2
    omega)
  exact h9
theorem z_drop {R : List Int} {i : Nat} (h : i < R.length) : R.drop i = R.getD i 0 :: R.drop (i + 1) := by
  rw [List.drop_eq_getElem_cons h, List.getD_eq_getElem?_getD, List.getElem?_eq_getElem h]; rfl
theorem aO_S1 {a : Int → Int} {s s' v : Int} : aO (iup a (18 + 2 * (s - 1) + 1) v) s' = aO a s' := by unfold aO; rw [iup_n (by omega)]
theorem aLd_O (P : Int → Bool) : ∀ (n : Nat) (s : Int) (a : Int → Int) (s' : Int), aO (aLd P n s a) s' = aO a s' := by
  intro n
  induction n with
  | zero => intro s a s'; rfl
  | succ n ih =>
    intro s a s'
    unfold aLd
    rw [ih]
    split
    · exact aO_S1
    · rfl
theorem aLand_O {a : Int → Int} {r : Int} {P : Int → Bool} {s' : Int} : aO (aLand a r P) s' = aO a s' := by
  unfold aLand; split
  · rfl
  · exact aLd_O P _ _ a s'
theorem aLands_O {P : Int → Bool} {s' : Int} : ∀ (R : List Int) (a : Int → Int), aO (aLands P R a) s' = aO a s' := by
  intro R
  induction R with
  | nil => intro a; rfl
  | cons r t ih => intro a; show aO (aLands P t (aLand a r P)) s' = _; rw [ih, aLand_O]
theorem dX1_makeHops_0 : decode cX1_makeHops 0 = .ok (.aload_n 0, 1) := by decide +kernel
theorem dX1_makeHops_1 : decode cX1_makeHops 1 = .ok (.iload_n 1, 1) := by decide +kernel
theorem dX1_makeHops_2 : decode cX1_makeHops 2 = .ok (.aload_n 0, 1) := by decide +kernel
theorem dX1_makeHops_3 : decode cX1_makeHops 3 = .ok (.iconst (-1), 1) := by decide +kernel
theorem dX1_makeHops_4 : decode cX1_makeHops 4 = .ok (.invokevirtual 83, 3) := by decide +kernel
theorem dX1_makeHops_7 : decode cX1_makeHops 7 = .ok (.invokevirtual 87, 3) := by decide +kernel
theorem dX1_makeHops_10 : decode cX1_makeHops 10 = .ok (.istore_n 3, 1) := by decide +kernel
theorem dX1_makeHops_11 : decode cX1_makeHops 11 = .ok (.iconst 0, 1) := by decide +kernel
theorem dX1_makeHops_12 : decode cX1_makeHops 12 = .ok (.istore 4, 2) := by decide +kernel
theorem dX1_makeHops_14 : decode cX1_makeHops 14 = .ok (.iload 4, 2) := by decide +kernel
theorem dX1_makeHops_16 : decode cX1_makeHops 16 = .ok (.aload_n 2, 1) := by decide +kernel
theorem dX1_makeHops_17 : decode cX1_makeHops 17 = .ok (.getfield 90, 3) := by decide +kernel
theorem dX1_makeHops_20 : decode cX1_makeHops 20 = .ok (.if_icmp .ge 21, 3) := by decide +kernel
theorem dX1_makeHops_23 : decode cX1_makeHops 23 = .ok (.aload_n 0, 1) := by decide +kernel
theorem dX1_makeHops_24 : decode cX1_makeHops 24 = .ok (.aload_n 2, 1) := by decide +kernel
theorem dX1_makeHops_25 : decode cX1_makeHops 25 = .ok (.getfield 93, 3) := by decide +kernel
theorem dX1_makeHops_28 : decode cX1_makeHops 28 = .ok (.iload 4, 2) := by decide +kernel
theorem dX1_makeHops_30 : decode cX1_makeHops 30 = .ok (.iaload, 1) := by decide +kernel
theorem dX1_makeHops_31 : decode cX1_makeHops 31 = .ok (.iload_n 3, 1) := by decide +kernel
theorem dX1_makeHops_32 : decode cX1_makeHops 32 = .ok (.invokevirtual 97, 3) := by decide +kernel
theorem dX1_makeHops_35 : decode cX1_makeHops 35 = .ok (.iinc 4 1, 3) := by decide +kernel
theorem dX1_makeHops_38 : decode cX1_makeHops 38 = .ok (.goto (-24), 3) := by decide +kernel
theorem dX1_makeHops_41 : decode cX1_makeHops 41 = .ok (.aload_n 0, 1) := by decide +kernel
theorem dX1_makeHops_42 : decode cX1_makeHops 42 = .ok (.dup, 1) := by decide +kernel
theorem dX1_makeHops_43 : decode cX1_makeHops 43 = .ok (.getfield 101, 3) := by decide +kernel
theorem dX1_makeHops_46 : decode cX1_makeHops 46 = .ok (.aload_n 2, 1) := by decide +kernel
theorem dX1_makeHops_47 : decode cX1_makeHops 47 = .ok (.getfield 90, 3) := by decide +kernel
theorem dX1_makeHops_50 : decode cX1_makeHops 50 = .ok (.iadd, 1) := by decide +kernel
theorem dX1_makeHops_51 : decode cX1_makeHops 51 = .ok (.putfield 101, 3) := by decide +kernel
theorem dX1_makeHops_54 : decode cX1_makeHops 54 = .ok (.return_, 1) := by decide +kernel
theorem eX1_makeHops {c w : Nat} {W : zWd} {a : Int → Int} {T q : Int} {R : List Int}  {Q : Option Value → zWd → Prop} {X : zX} (hc : zCt c) (hw9 : zWy w) (hR : zCR W c a) (hw : zWf T a) (hqz : zR q) (hT : T + R.length ≤ 100000000) (hR11 : R.length ≤ 11) (hl : W w 2 = R.length) (hrows : ∀ i : Nat, i < R.length → W (w + 1) i = R.getD i 0) (hRz : ∀ i : Nat, i < R.length → zR (R.getD i 0)) (hq : ∀ W' : zWd, zOff c W W' → zCR W' c (aMkH a (aUm a q) R) → Q none W') : Ev MX1_makeHops 2 0 W [.ref c, zI q, .ref w] Q X := by
  refine ev_of (ls := [.ref c, zI q, .ref w, .null, .null]) (by decide) rfl (fun _ => rfl) (fun _ => Nat.le_of_ble_eq_true rfl) (Or.inl rfl) ?_
  obtain ⟨r0, r1, r2, r3, r4, r5, r6, r7, rF, rS, rP, rB⟩ := id hR
  obtain ⟨w0, w0', wW, w1, w2, w2', w3, w3', w4, w4', w5, w5', w6, w6', w7, w7', wS, wP, wT⟩ := id hw
  have wq := zWf.sq hw
  have hu := aUset_lt (q := q) (m := zMks a (-1) (a 2).toNat) wq.2
  have w98 : 98 ≤ w := by rcases hw9 with h | h <;> omega
  have loop : ∀ (n : Nat) (i : Nat) (Wi : zWd) (ai : Int → Int), i ≤ R.length → zOff c W Wi → zCR Wi c ai → zWf (T + (i : Nat)) ai → aLands (aUm a q) (R.drop i) ai = aLands (aUm a q) R a → R.length - i < n → RR MX1_makeHops 2 0 Wi 14 [.ref c, zI q, .ref w, zI (aUset a q (zMks a (-1) (a 2).toNat) : Nat), zI (i : Int)] [] (zEnd MX1_makeHops Q X) X := by
    intro n
    induction n with
    | zero => intro i Wi ai _ _ _ _ _ hm9; omega
    | succ n ih =>
      intro i Wi ai h2 hO hC hF hL hm9
      have k2 : Wi w 2 = R.length := by rw [hO w (by have := hc.lt; omega)]; exact hl
      have k1 : Wi (w + 1) = W (w + 1) := hO (w + 1) (by have := hc.lt; omega)
      refine rr_iload (pc := 14) dX1_makeHops_14 rfl ?_
      refine rr_aload_n (pc := 16) dX1_makeHops_16 rfl ?_
      refine rr_getI (pc := 17) (ji := 2) dX1_makeHops_17 fX1_90 hw9.k hw9.i2 rfl ?_
      rw [k2]
      refine rr_icmp_ge (pc := 20) (tgt := 41) dX1_makeHops_20 (by decide) (by unfold zR; omega) (by unfold zR; omega) (fun h20 => ?_) (fun h20 => ?_)
      · refine rr_aload_n (pc := 41) dX1_makeHops_41 rfl ?_
        refine rr_dup_r (pc := 42) dX1_makeHops_42 ?_
        refine rr_getI (pc := 43) (ji := 6) dX1_makeHops_43 fX1_101 hc.k hc.i6 rfl ?_
        rw [hC.2.2.2.2.2.2.1]
        refine rr_aload_n (pc := 46) dX1_makeHops_46 rfl ?_
        refine rr_getI (pc := 47) (ji := 2) dX1_makeHops_47 fX1_90 hw9.k hw9.i2 rfl ?_
        rw [k2]
        refine rr_iadd (pc := 50) dX1_makeHops_50 ?_
        refine rr_put (pc := 51) (ji := 6) dX1_makeHops_51 fX1_101 fp_0_6 hc.k hc.i6 rfl ?_
        rw [List.drop_of_length_le (by omega)] at hL
        have hL : ai = aLands (aUm a q) R a := hL
        have h6 : ai 6 = a 6 := by rw [hL]; exact aLands_out (by omega) R T a hw hT
        have hX : aMkH a (aUm a q) R = iup ai 6 (ai 6 + R.length) := by unfold aMkH; rw [← hL, h6]
        rw [hX] at hq
        exact rr_retv (pc := 54) dX1_makeHops_54 rfl rfl (hq _ (hO.up (by omega)) (CR_0 hC (by omega)))
      · refine rr_aload_n (pc := 23) dX1_makeHops_23 rfl ?_
        refine rr_aload_n (pc := 24) dX1_makeHops_24 rfl ?_
        refine rr_getR (pc := 25) dX1_makeHops_25 fX1_93 hw9.k hw9.r3 ?_
        refine rr_iload (pc := 28) dX1_makeHops_28 rfl ?_
        refine rr_iald (pc := 30) dX1_makeHops_30 hw9.a1 (by omega) (by omega) ?_
        rw [k1, hrows i (by omega)]
        refine rr_iload_n (pc := 31) dX1_makeHops_31 rfl ?_
        refine rr_invN (M' := MX0_addLandings) (k := c) (As := [_, _]) (pc := 32) dX1_makeHops_32 lX1_97 kX0_addLandings vX0_addLandings hc.k (by decide) rfl (by decide) (by decide) (Nat.le_of_ble_eq_true rfl) rfl (eX0_addLandings (r := R.getD i 0) hc hC hF (hRz _ (by omega)) hu (fun W1 o1 c1 => ?_))
        refine rr_iinc (pc := 35) dX1_makeHops_35 rfl (by decide) ?_
        refine rr_goto (pc := 38) (tgt := 14) dX1_makeHops_38 (by decide) ?_
        exact ih (i + 1) W1 _ (by omega) (hO.tr o1) c1 (by rw [show T + ((i + 1 : Nat) : Int) = T + (i : Nat) + 1 by omega]; exact aLand_wf hF (by omega)) (by rw [z_drop (show i < R.length by omega)] at hL; exact hL) (by omega)
  refine rr_aload_n (pc := 0) dX1_makeHops_0 rfl ?_
  refine rr_iload_n (pc := 1) dX1_makeHops_1 rfl ?_
  refine rr_aload_n (pc := 2) dX1_makeHops_2 rfl ?_
  refine rr_iconst (n := (-1)) dX1_makeHops_3 ?_
  refine rr_invN (M' := MX0_markedSquares) (k := c) (As := [_]) (pc := 4) dX1_makeHops_4 lX1_83 kX0_markedSquares vX0_markedSquares hc.k (by decide) rfl (by decide) (by decide) (Nat.le_of_ble_eq_true rfl) rfl (eX0_markedSquares hc hR hw (by unfold zR; omega) ?_)
  refine rr_invN (M' := MX0_usableSet) (k := c) (As := [_, _]) (pc := 7) dX1_makeHops_7 lX1_87 kX0_usableSet vX0_usableSet hc.k (by decide) rfl (by decide) (by decide) (Nat.le_of_ble_eq_true rfl) rfl (eX0_usableSet hc hR hw hqz (zMks_21 hw) ?_)
  refine rr_istore_n (pc := 10) dX1_makeHops_10 (by decide) ?_
  refine rr_iconst (n := 0) dX1_makeHops_11 ?_
  refine rr_istore (pc := 12) dX1_makeHops_12 (by decide) ?_
  exact loop _ 0 W a (by omega) zOff.rf hR (by rw [show T + ((0 : Nat) : Int) = T by omega]; exact hw) rfl (Nat.lt_succ_self _)
end
section
theorem z_mapD {f : Nat → Int} {l : List Nat} {i : Nat} (h : i < l.length) : (l.map f).getD i 0 = f (l.getD i 0) := by
  rw [List.getD_eq_getElem?_getD, List.getD_eq_getElem?_getD, List.getElem?_map, List.getElem?_eq_getElem h]; rfl
theorem zHp_mem {F : Nat → Int} {L must rc bal : Nat} : ∀ n k s, zV F L must rc bal k s < 1000000 → k ≤ L → ∀ x ∈ zHp F L must rc bal n k s, x ≤ L := by
  intro n
  induction n with
  | zero => intro k s _ _ x hx; cases hx
  | succ n ih =>
    intro k s hv hk x hx
    unfold zHp at hx
    by_cases q : k = L
    · rw [if_pos q] at hx; cases hx
    · rw [if_neg q] at hx
      obtain ⟨n1, n2, n3, n5, -, -⟩ := zNx_spec (F := F) (L := L) (must := must) (rc := rc) (bal := bal) (k := k) (run := s) (by omega) hv
      rcases List.mem_cons.mp hx with rfl | hx
      · exact n3.1
      · exact ih _ _ n5 n3.1 x hx
theorem aWay_mem {a : Int → Int} {q tg : Int} {rc : Nat} {bk : Int} : ∀ x ∈ aWay a q tg rc bk, x ≤ (a 0 + 1).toNat := by
  intro x hx
  unfold aWay at hx
  split at hx
  · cases hx
  · unfold zWl at hx
    split at hx
    · exact zHp_mem _ 0 0 (by assumption) (Nat.zero_le _) x hx
    · cases hx
theorem aWay_R {a : Int → Int} {q tg : Int} {rc : Nat} {bk : Int} (h0 : 0 ≤ a 0) (h10 : a 0 ≤ 10) : ∀ i : Nat, i < (aRows a q tg rc bk).length → zR ((aRows a q tg rc bk).getD i 0) := by
  intro i hi
  unfold aRows at hi ⊢
  rw [List.length_map] at hi
  rw [z_mapD hi]
  have hm : (aWay a q tg rc bk).getD i 0 ≤ (a 0 + 1).toNat := by
    rw [List.getD_eq_getElem?_getD, List.getElem?_eq_getElem hi]
    exact aWay_mem _ (List.getElem_mem hi)
  unfold zRa zR
  split <;> omega
theorem aRows_len {a : Int → Int} {q tg : Int} {rc : Nat} {bk : Int} : (aRows a q tg rc bk).length = (aWay a q tg rc bk).length := List.length_map ..
theorem aRows_at {W : zWd} {w : Nat} {a : Int → Int} {q tg : Int} {rc : Nat} {bk : Int} (h : zLaid W w a q tg rc bk) : W w 2 = (aRows a q tg rc bk).length ∧ ∀ i : Nat, i < (aRows a q tg rc bk).length → W (w + 1) i = (aRows a q tg rc bk).getD i 0 := by
  refine ⟨by rw [aRows_len]; exact h.2.1, fun i hi => ?_⟩
  rw [aRows_len] at hi
  rw [h.2.2 i hi, show (aRows a q tg rc bk).getD i 0 = _ from z_mapD hi]
theorem aUm_pr {T : Int} {a : Int → Int} {q own s : Int} (hw : zWf T a) (hq0 : 0 ≤ q) (hq1 : q < a 2) (ho : aP a q 5 = own) (h1 : 1 ≤ s) (h2 : s ≤ a 1) : aUm a q s = aPr a q own s := by
  have hsq := zWf.sq hw
  have h5 : ∀ p : Int, 0 ≤ p → p < ((a 2).toNat : Int) → 0 ≤ aP a p 5 := fun p g0 g1 => by
    have hm2 := hw.2.2.2.2.2.2.2.2.2.2.2.2.2.2.2.2.2.1 p g0 (by omega)
    unfold zWfP at hm2
    omega
  unfold aUm aPr aUse
  rw [Bool.eq_iff_iff, aUset_bit (by omega), Bool.and_eq_true, Bool.and_eq_true, decide_eq_true_eq, decide_eq_true_eq, Bool.not_eq_true']
  have e1 := zMks_bit (a := a) (w := -1) (a 2).toNat h5 s.toNat
  have e2 := zMks_bit (a := a) (w := q) (a 2).toNat h5 s.toNat
  constructor
  · rintro ⟨g1, g2, g3, g4⟩
    refine ⟨⟨fun z => ?_, g3⟩, ?_⟩
    · have : (zMks a (-1) (a 2).toNat).testBit s.toNat = true := e1.mpr ⟨q, hq0, by omega, by omega, by omega, by omega⟩
      rw [this] at g4; cases g4
    · rw [← Bool.not_eq_true]
      intro z
      obtain ⟨q', z0, z1, z2, z3⟩ := e2.mp z
      have : (zMks a (-1) (a 2).toNat).testBit s.toNat = true := e1.mpr ⟨q', z0, z1, by omega, z3⟩
      rw [this] at g4; cases g4
  · rintro ⟨⟨g1, g2⟩, g3⟩
    refine ⟨by omega, by omega, g2, ?_⟩
    rw [← Bool.not_eq_true]
    intro z
    obtain ⟨q', z0, z1, z2, z3, z4⟩ := e1.mp z
    by_cases hqq : q' = q
    · subst hqq; exact g1 (z4.symm.trans ho)
    · have : (zMks a q (a 2).toNat).testBit s.toNat = true := e2.mpr ⟨q', z0, z1, hqq, z3, z4⟩
      rw [this] at g3; cases g3
theorem aMkH_cg {T : Int} {a : Int → Int} {P P' : Int → Bool} {R : List Int} (hw : zWf T a) (hT : T + R.length ≤ 100000000) (h : ∀ s : Int, 1 ≤ s → s ≤ a 1 → P s = P' s) : aMkH a P R = aMkH a P' R := by
  unfold aMkH; rw [aLands_cg R T a hw hT h]
theorem aMkH_O {a : Int → Int} {P : Int → Bool} {R : List Int} {s' : Int} (h : 1 ≤ s') : aO (aMkH a P R) s' = aO a s' := by
  rw [← aLands_O (P := P) R a]
  unfold aMkH aO
  rw [iup_n (by omega)]
theorem zMks_cg {a a' : Int → Int} {w : Int} : ∀ n : Nat, (∀ q : Nat, q < n → aP a' q 5 = aP a q 5) → zMks a' w n = zMks a w n := by
  intro n
  induction n with
  | zero => intro _; rfl
  | succ n ih =>
    intro h
    unfold zMks
    rw [ih (fun q g => h q (by omega)), h n (by omega)]
theorem aMkH_P {T : Int} {a : Int → Int} {P : Int → Bool} {R : List Int} {q w : Int} (hw : zWf T a) (hT : T + R.length ≤ 100000000) (hq : 0 ≤ q) (h0 : 0 ≤ w) : aP (aMkH a P R) q w = aP a q w := aMkH_out hw hT (by omega) (by omega)
/-- after the hops out, and the marker is picked up -/
theorem aPr_back {T : Int} {a : Int → Int} {P : Int → Bool} {R : List Int} {q s : Int} (hw : zWf T a) (hT : T + R.length ≤ 100000000) (hq0 : 0 ≤ q) (h1 : 1 ≤ s) (h2 : s ≤ a 1) : aPr (iup (aMkH a P R) (58 + 17 * q + 5) 0) q 0 s = aPr a q 0 s := by
  have hsq := zWf.sq hw
  have hw1 := aMkH_wf (P := P) hw hT
  unfold aPr
  rw [aUse_own hw1 hq0 (by omega)]
  unfold aUse aForb
  rw [aMkH_O (by omega), aMkH_out hw hT (by omega) (by omega), zMks_cg (a := a) (a' := aMkH a P R) _ (fun q' _ => aMkH_P hw hT (by omega) (by omega))]
theorem aMove_wf {T : Int} {a : Int → Int} {p : Int} (hw : zWf T a) (hT : T + 1 ≤ 100000000) (h0 : 0 ≤ p) (h1 : p < a 2) : zWf (T + 1) (aMove a p) := by
  have hsq := zWf.sq hw
  have hm2 := hw.2.2.2.2.2.2.2.2.2.2.2.2.2.2.2.2.2.1 p h0 h1
  unfold zWfP at hm2
  have hw1 := hw.mono (T' := T + 1) (by omega) hT
  unfold aMove
  split
  · have o1 := aOpen_rng (a := a) (p := p) (s := 1) (by omega) (by omega)
    have f1 := WF_P (w := 4) (v := aP a p 4 + 1) (p := p) hw1 h0 (by unfold zWr; omega)
    have f2 := WF_P (w := 3) (v := if aP a p 3 + 1 < 9 then aP a p 3 + 1 else 9) (p := p) f1 h0 (by unfold zWr; split <;> omega)
    exact WF_P (w := 2) (v := aOpen a p 1) (p := p) f2 h0 (by unfold zWr; rw [iup_n (by omega), iup_n (by omega)]; omega)
  · have o1 := aOpen_rng (a := a) (p := p) (s := aP a p 2 + 1) (by omega) (by omega)
    exact WF_P (w := 2) (v := aOpen a p (aP a p 2 + 1)) (p := p) hw1 h0 (by unfold zWr; omega)
theorem aMove_n {a : Int → Int} {p j : Int} (h0 : 0 ≤ p) (hj : j < 58) : aMove a p j = a j := by
  unfold aMove
  split
  · show iup (iup (iup a _ _) _ _) _ _ j = a j
    rw [iup_n (by omega), iup_n (by omega), iup_n (by omega)]
  · exact iup_n (by omega)
theorem aHopB_wf {T : Int} {a : Int → Int} {p : Int} (hw : zWf T a) (hT : T + 24 ≤ 100000000) (h0 : 0 ≤ p) : zWf (T + (aRows a p (aP a p 2) (aRc a p) 0).length) (aHopO a p) ∧ zWf (T + (aRows a p (aP a p 2) (aRc a p) 0).length) (iup (aHopO a p) (58 + 17 * p + 5) 0) ∧ zWf (T + (aRows a p (aP a p 2) (aRc a p) 0).length + (aRows a p (aP a p 2) (aRc a p) 1).length) (aHopB a (aHopO a p) p) ∧ (aRows a p (aP a p 2) (aRc a p) 0).length ≤ 11 ∧ (aRows a p (aP a p 2) (aRc a p) 1).length ≤ 11 := by
  have l0 := aWay_len (a := a) (q := p) (tg := aP a p 2) (rc := aRc a p) (bk := 0) (by have := hw.1; omega) hw.2.1
  have l1 := aWay_len (a := a) (q := p) (tg := aP a p 2) (rc := aRc a p) (bk := 1) (by have := hw.1; omega) hw.2.1
  rw [← aRows_len] at l0 l1
  have f1 := aMkH_wf (P := aPr a p (aP a p 2)) (R := aRows a p (aP a p 2) (aRc a p) 0) hw (by omega)
  have sq1 := zWf.sq f1
  have f2 := WF_P (w := 5) (v := 0) (p := p) f1 h0 (by unfold zWr; omega)
  exact ⟨f1, f2, aMkH_wf f2 (by omega), l0, l1⟩
theorem aGood_n {T : Int} {a : Int → Int} {p j : Int} (hw : zWf T a) (hT : T + 24 ≤ 100000000) (h0 : 0 ≤ p) (hj : j < 18) (h6 : j ≠ 6) (h7 : j ≠ 7) : aGood a p j = a j := by
  obtain ⟨f1, f2, f3, l0, l1⟩ := aHopB_wf hw hT h0
  show iup (aMove (aHopB a (aHopO a p) p) p) 7 _ j = a j
  rw [iup_n h7, aMove_n h0 (by omega)]
  show aMkH (iup (aHopO a p) (58 + 17 * p + 5) 0) _ _ j = a j
  rw [aMkH_out f2 (by omega) (by omega) h6, iup_n (by omega)]
  exact aMkH_out hw (by omega) (by omega) h6
theorem aGood_wf {T : Int} {a : Int → Int} {p : Int} (hw : zWf T a) (hT : T + 24 ≤ 100000000) (h0 : 0 ≤ p) (h1 : p < a 2) : zWf (T + 24) (aGood a p) := by
  obtain ⟨f1, f2, f3, l0, l1⟩ := aHopB_wf hw hT h0
  have e2 : aHopB a (aHopO a p) p 2 = a 2 := by
    show aMkH (iup (aHopO a p) (58 + 17 * p + 5) 0) _ _ 2 = a 2
    rw [aMkH_out f2 (by omega) (by omega) (by omega), iup_n (by omega)]
    exact aMkH_out hw (by omega) (by omega) (by omega)
  have f4 := aMove_wf (p := p) f3 (by omega) h0 (by rw [e2]; exact h1)
  have h7 := f4.2.2.2.2.2.2.2.2.2.2.2.2.2.2.1
  have h7' := f4.2.2.2.2.2.2.2.2.2.2.2.2.2.2.2.1
  exact WF_0 (f4.mono (by omega) (by omega)) (Or.inr (Or.inr ⟨Or.inr (Or.inr rfl), by omega, by omega⟩))
theorem dX1_hopOutAndBack_0 : decode cX1_hopOutAndBack 0 = .ok (.aload_n 1, 1) := by decide +kernel
theorem dX1_hopOutAndBack_1 : decode cX1_hopOutAndBack 1 = .ok (.iload_n 2, 1) := by decide +kernel
theorem dX1_hopOutAndBack_2 : decode cX1_hopOutAndBack 2 = .ok (.aload_n 0, 1) := by decide +kernel
theorem dX1_hopOutAndBack_3 : decode cX1_hopOutAndBack 3 = .ok (.getfield 14, 3) := by decide +kernel
theorem dX1_hopOutAndBack_6 : decode cX1_hopOutAndBack 6 = .ok (.invokestatic 73, 3) := by decide +kernel
theorem dX1_hopOutAndBack_9 : decode cX1_hopOutAndBack 9 = .ok (.aload_n 1, 1) := by decide +kernel
theorem dX1_hopOutAndBack_10 : decode cX1_hopOutAndBack 10 = .ok (.iload_n 2, 1) := by decide +kernel
theorem dX1_hopOutAndBack_11 : decode cX1_hopOutAndBack 11 = .ok (.iconst 5, 1) := by decide +kernel
theorem dX1_hopOutAndBack_12 : decode cX1_hopOutAndBack 12 = .ok (.iconst (-1), 1) := by decide +kernel
theorem dX1_hopOutAndBack_13 : decode cX1_hopOutAndBack 13 = .ok (.invokevirtual 58, 3) := by decide +kernel
theorem dX1_hopOutAndBack_16 : decode cX1_hopOutAndBack 16 = .ok (.aload_n 1, 1) := by decide +kernel
theorem dX1_hopOutAndBack_17 : decode cX1_hopOutAndBack 17 = .ok (.iload_n 2, 1) := by decide +kernel
theorem dX1_hopOutAndBack_18 : decode cX1_hopOutAndBack 18 = .ok (.aload_n 0, 1) := by decide +kernel
theorem dX1_hopOutAndBack_19 : decode cX1_hopOutAndBack 19 = .ok (.getfield 20, 3) := by decide +kernel
theorem dX1_hopOutAndBack_22 : decode cX1_hopOutAndBack 22 = .ok (.invokestatic 73, 3) := by decide +kernel
theorem dX1_hopOutAndBack_25 : decode cX1_hopOutAndBack 25 = .ok (.aload_n 1, 1) := by decide +kernel
theorem dX1_hopOutAndBack_26 : decode cX1_hopOutAndBack 26 = .ok (.iload_n 2, 1) := by decide +kernel
theorem dX1_hopOutAndBack_27 : decode cX1_hopOutAndBack 27 = .ok (.invokevirtual 77, 3) := by decide +kernel
theorem dX1_hopOutAndBack_30 : decode cX1_hopOutAndBack 30 = .ok (.aload_n 1, 1) := by decide +kernel
theorem dX1_hopOutAndBack_31 : decode cX1_hopOutAndBack 31 = .ok (.dup, 1) := by decide +kernel
theorem dX1_hopOutAndBack_32 : decode cX1_hopOutAndBack 32 = .ok (.getfield 80, 3) := by decide +kernel
theorem dX1_hopOutAndBack_35 : decode cX1_hopOutAndBack 35 = .ok (.iconst 1, 1) := by decide +kernel
theorem dX1_hopOutAndBack_36 : decode cX1_hopOutAndBack 36 = .ok (.iadd, 1) := by decide +kernel
theorem dX1_hopOutAndBack_37 : decode cX1_hopOutAndBack 37 = .ok (.putfield 80, 3) := by decide +kernel
theorem dX1_hopOutAndBack_40 : decode cX1_hopOutAndBack 40 = .ok (.return_, 1) := by decide +kernel
theorem eX1_hopOutAndBack {c : Nat} {W : zWd} {a : Int → Int} {T q : Int}  {Q : Option Value → zWd → Prop} {X : zX} (hc : zCt c) (hR : zCR W c a) (hw : zWf T a) (hq0 : 0 ≤ q) (hq1 : q < a 2) (hT : T + 24 ≤ 100000000) (h5 : aP a q 5 = aP a q 2) (hl0 : zLaid W 98 a q (aP a q 2) (aRc a q) 0) (hl1 : zLaid W 103 a q (aP a q 2) (aRc a q) 1) (hq : ∀ W' : zWd, zOff c W W' → zCR W' c (aGood a q) → Q none W') : Ev MX1_hopOutAndBack 3 0 W [.ref 97, .ref c, zI q] Q X := by
  refine ev_of (ls := [.ref 97, .ref c, zI q]) (by decide) rfl (fun _ => rfl) (fun _ => Nat.le_of_ble_eq_true rfl) (Or.inl rfl) ?_
  obtain ⟨r0, r1, r2, r3, r4, r5, r6, r7, rF, rS, rP, rB⟩ := id hR
  obtain ⟨w0, w0', wW, w1, w2, w2', w3, w3', w4, w4', w5, w5', w6, w6', w7, w7', wS, wP, wT⟩ := id hw
  have wq := zWf.sq hw
  obtain ⟨f1, f2, f3, n0, n1⟩ := aHopB_wf (p := q) hw hT hq0
  refine rr_aload_n (pc := 0) dX1_hopOutAndBack_0 rfl ?_
  refine rr_iload_n (pc := 1) dX1_hopOutAndBack_1 rfl ?_
  refine rr_aload_n (pc := 2) dX1_hopOutAndBack_2 rfl ?_
  refine rr_getR (pc := 3) dX1_hopOutAndBack_3 fX1_14 zk_97 zr_97_0 ?_
  refine rr_sta0 (M' := MX1_makeHops) (As := [_, _, _]) (pc := 6) dX1_hopOutAndBack_6 lX1_73 kX1_makeHops sX1_makeHops (by decide) (by decide) (Nat.le_of_ble_eq_true rfl) rfl (eX1_makeHops hc (Or.inl rfl) hR hw (by unfold zR; omega) (by omega) n0 (aRows_at hl0).1 (aRows_at hl0).2 (aWay_R (by omega) w0') (fun W1 o1 c1 => ?_))
  rw [show aMkH a (aUm a q) (aRows a q (aP a q 2) (aRc a q) 0) = aHopO a q from aMkH_cg hw (by omega) (fun s g1 g2 => aUm_pr hw hq0 hq1 h5 g1 g2)] at c1
  refine rr_aload_n (pc := 9) dX1_hopOutAndBack_9 rfl ?_
  refine rr_iload_n (pc := 10) dX1_hopOutAndBack_10 rfl ?_
  refine rr_iconst (n := 5) dX1_hopOutAndBack_11 ?_
  refine rr_iconst (n := (-1)) dX1_hopOutAndBack_12 ?_
  refine rr_invN (M' := MX0_put) (k := c) (As := [_, _, _]) (pc := 13) dX1_hopOutAndBack_13 lX1_58 kX0_put vX0_put hc.k (by decide) rfl (by decide) (by decide) (Nat.le_of_ble_eq_true rfl) rfl (eX0_put hc (by omega) (by omega) (by omega) (by omega) ?_)
  have c2 := CR_P (j := 5) (w := 5) (v := -1) (v' := 0) c1 hq0 (Or.inr (Or.inl ⟨rfl, rfl, rfl⟩))
  have o2 : zOff c W (zup W1 (c + 5) (q * 10 + 5) (-1)) := o1.tr (zOff.rf.up (by omega))
  generalize zup W1 (c + 5) (q * 10 + 5) (-1) = W2 at c2 o2 ⊢
  have d2 : zLaid W2 103 a q (aP a q 2) (aRc a q) 1 := hl1.cg (o2 103 (by have := hc.lt; omega)) (o2 104 (by have := hc.lt; omega))
  have e5 : aP (iup (aHopO a q) (58 + 17 * q + 5) 0) q 5 = 0 := iup_s
  have e2 : iup (aHopO a q) (58 + 17 * q + 5) 0 2 = a 2 := by rw [iup_n (by omega)]; exact aMkH_out hw (by omega) (by omega) (by omega)
  have e1 : iup (aHopO a q) (58 + 17 * q + 5) 0 1 = a 1 := by rw [iup_n (by omega)]; exact aMkH_out hw (by omega) (by omega) (by omega)
  refine rr_aload_n (pc := 16) dX1_hopOutAndBack_16 rfl ?_
  refine rr_iload_n (pc := 17) dX1_hopOutAndBack_17 rfl ?_
  refine rr_aload_n (pc := 18) dX1_hopOutAndBack_18 rfl ?_
  refine rr_getR (pc := 19) dX1_hopOutAndBack_19 fX1_20 zk_97 zr_97_1 ?_
  refine rr_sta0 (M' := MX1_makeHops) (As := [_, _, _]) (pc := 22) dX1_hopOutAndBack_22 lX1_73 kX1_makeHops sX1_makeHops (by decide) (by decide) (Nat.le_of_ble_eq_true rfl) rfl (eX1_makeHops hc (Or.inr rfl) c2 f2 (by unfold zR; omega) (by omega) n1 (aRows_at d2).1 (aRows_at d2).2 (aWay_R (by omega) w0') (fun W3 o3 c3 => ?_))
  rw [show aMkH (iup (aHopO a q) (58 + 17 * q + 5) 0) (aUm (iup (aHopO a q) (58 + 17 * q + 5) 0) q) (aRows a q (aP a q 2) (aRc a q) 1) = aHopB a (aHopO a q) q from aMkH_cg f2 (by omega) (fun s g1 g2 => by rw [aUm_pr f2 hq0 (by rw [e2]; exact hq1) e5 g1 g2]; exact aPr_back hw (by omega) hq0 g1 (by rw [e1] at g2; exact g2))] at c3
  have e3 : aHopB a (aHopO a q) q 2 = a 2 := by
    refine Eq.trans (aMkH_out f2 (by omega) (by omega) (by omega)) e2
  refine rr_aload_n (pc := 25) dX1_hopOutAndBack_25 rfl ?_
  refine rr_iload_n (pc := 26) dX1_hopOutAndBack_26 rfl ?_
  refine rr_invN (M' := MX0_moveTargetOn) (k := c) (As := [_]) (pc := 27) dX1_hopOutAndBack_27 lX1_77 kX0_moveTargetOn vX0_moveTargetOn hc.k (by decide) rfl (by decide) (by decide) (Nat.le_of_ble_eq_true rfl) rfl (eX0_moveTargetOn hc c3 f3 (by omega) hq0 (by rw [e3]; exact hq1) (fun W4 o4 c4 => ?_))
  refine rr_aload_n (pc := 30) dX1_hopOutAndBack_30 rfl ?_
  refine rr_dup_r (pc := 31) dX1_hopOutAndBack_31 ?_
  refine rr_getI (pc := 32) (ji := 7) dX1_hopOutAndBack_32 fX1_80 hc.k hc.i7 rfl ?_
  rw [c4.2.2.2.2.2.2.2.1]
  refine rr_iconst (n := 1) dX1_hopOutAndBack_35 ?_
  refine rr_iadd (pc := 36) dX1_hopOutAndBack_36 ?_
  refine rr_put (pc := 37) (ji := 7) dX1_hopOutAndBack_37 fX1_80 fp_0_7 hc.k hc.i7 rfl ?_
  exact rr_retv (pc := 40) dX1_hopOutAndBack_40 rfl rfl (hq _ (((o2.tr o3).tr o4).up (by omega)) (CR_0 c4 (by omega)))
end
section
/-- what a turn on the court c may change -/
def zOffp (c : Nat) (W W' : zWd) : Prop := ∀ k : Nat, (k < c ∨ c + 8 ≤ k) → (k < 98 ∨ 108 ≤ k) → W' k = W k
theorem zOffp.rf {c : Nat} {W : zWd} : zOffp c W W := fun _ _ _ => rfl
theorem zOffp.tr {c : Nat} {W W' W'' : zWd} (h : zOffp c W W') (h2 : zOffp c W' W'') : zOffp c W W'' := fun k g1 g2 => (h2 k g1 g2).trans (h k g1 g2)
theorem zOff.p {c : Nat} {W W' : zWd} (h : zOff c W W') : zOffp c W W' := fun k g1 _ => h k g1
theorem zOffg.p {c : Nat} {W W' : zWd} (h : zOffg W W') : zOffp c W W' := fun k _ g2 => h k g2
theorem zGm.c {c : Nat} {W W' : zWd} (h : zGm W) (hc : zCt c) (o : zOff c W W') : zGm W' := by
  have := hc.lt
  exact ⟨by rw [o 98 (by omega)]; exact h.1, by rw [o 103 (by omega)]; exact h.2⟩
theorem aHopF_rng {a : Int → Int} {q : Int} (h : aP a q 2 ≠ 0) : aHopF a q = 0 ∨ aHopF a q = 4 ∨ aHopF a q = 5 := by
  unfold aHopF
  rw [if_neg h]
  split
  · omega
  · split <;> omega
theorem aFault_rng {a : Int → Int} {q pw sd : Int} : 0 ≤ aFault a q pw sd ∧ aFault a q pw sd ≤ 3 := by
  unfold aFault; (repeat' split) <;> omega
theorem aFault_tg {T : Int} {a : Int → Int} {q pw sd : Int} (hw : zWf T a) (hs : 0 ≤ sd) (h : aFault a q pw sd = 0) : 1 ≤ aP a q 2 := by
  unfold aFault at h
  by_cases h1 : pw + a 3 < 0 ∨ a 0 ≤ (pw + a 3) / 10
  · rw [if_pos h1] at h; omega
  · rw [if_neg h1] at h
    by_cases h2 : (pw + a 3) % 10 = 0
    · rw [if_pos h2] at h; omega
    · rw [if_neg h2] at h
      by_cases h3 : aF a ((pw + a 3) / 10).toNat + (if a (8 + (pw + a 3) / 10) = 2 then sd else 0) = aP a q 2
      · have h4 := aF_lo hw (r := ((pw + a 3) / 10).toNat) (by omega)
        have : 0 ≤ (if a (8 + (pw + a 3) / 10) = 2 then sd else 0) := by split <;> omega
        omega
      · rw [if_neg h3] at h; omega
theorem aTfault_rng {T : Int} {a : Int → Int} {pw sd : Int} (hw : zWf T a) (hs : 0 ≤ sd) : 0 ≤ aTfault a pw sd ∧ aTfault a pw sd ≤ 5 := by
  unfold aTfault
  have h3 := aFault_rng (a := a) (q := a 4) (pw := pw) (sd := sd)
  split
  · have h4 := aHopF_rng (a := a) (q := a 4) (by have := aFault_tg hw hs (by assumption); omega)
    omega
  · omega
theorem aP2_own {a : Int → Int} {p v : Int} : aP (iup a (58 + 17 * p + 5) v) p 2 = aP a p 2 := iup_n (by omega)
theorem aRc_own {a : Int → Int} {p v : Int} : aRc (iup a (58 + 17 * p + 5) v) p = aRc a p := by unfold aRc; rw [aP_up (by omega)]
theorem aMk_wf {T : Int} {a : Int → Int} {pw sd : Int} (hw : zWf T a) : zWf T (iup a (58 + 17 * a 4 + 5) (if aFault a (a 4) pw sd = 0 then aP a (a 4) 2 else 0)) := by
  have h4 := hw.2.2.2.2.2.2.2.2.1
  have h4' := hw.2.2.2.2.2.2.2.2.2.1
  have hsq := zWf.sq hw
  have hm2 := hw.2.2.2.2.2.2.2.2.2.2.2.2.2.2.2.2.2.1 (a 4) h4 h4'
  unfold zWfP at hm2
  exact WF_P hw h4 (by unfold zWr; split <;> omega)
theorem aFlt_wf {T : Int} {a : Int → Int} {p f : Int} (hw : zWf T a) (hT : T + 1 ≤ 100000000) (h0 : 0 ≤ p) (h1 : p < a 2) : zWf (T + 1) (aFlt a p f) := by
  have hm2 := hw.2.2.2.2.2.2.2.2.2.2.2.2.2.2.2.2.2.1 p h0 h1
  unfold zWfP at hm2
  have hw1 := hw.mono (T' := T + 1) (by omega) hT
  unfold aFlt
  split
  · exact hw1
  · exact WF_P hw1 h0 (by unfold zWr; omega)
theorem aFlt_n {a : Int → Int} {p f j : Int} (h0 : 0 ≤ p) (hj : j < 58) : aFlt a p f j = a j := by
  unfold aFlt; split
  · rfl
  · exact iup_n (by omega)
theorem aEnd_wf {T : Int} {a : Int → Int} {p f : Int} (hw : zWf T a) (hT : T + 1 ≤ 100000000) (h0 : 0 ≤ p) (h1 : p < a 2) (hf0 : 0 ≤ f) (hf5 : f ≤ 5) : zWf (T + 1) (aEnd a p f) := by
  have hm2 := hw.2.2.2.2.2.2.2.2.2.2.2.2.2.2.2.2.2.1 p h0 h1
  unfold zWfP at hm2
  have h5 := hw.2.2.2.2.2.2.2.2.2.2.1
  have h5' := hw.2.2.2.2.2.2.2.2.2.2.2.1
  have hw1 := hw.mono (T' := T + 1) (by omega) hT
  have f1 := WF_P (w := 6) (v := aP a p 6 + 1) (p := p) hw1 h0 (by unfold zWr; omega)
  have f2 := WF_P (w := 8) (v := f) (p := p) f1 h0 (by unfold zWr; omega)
  have f3 := WF_0 (j := 5) (v := a 5 + 1) f2 (Or.inr (Or.inr ⟨Or.inl rfl, by omega, by omega⟩))
  have hmod := Int.emod_nonneg (p + 1) (show a 2 ≠ 0 by omega)
  have hmod2 := Int.emod_lt_of_pos (p + 1) (show 0 < a 2 by omega)
  have e2 : iup (iup (iup a (58 + 17 * p + 6) (aP a p 6 + 1)) (58 + 17 * p + 8) f) 5 (a 5 + 1) 2 = a 2 := by rw [iup_n (by omega), iup_n (by omega), iup_n (by omega)]
  have e5 : iup (iup a (58 + 17 * p + 6) (aP a p 6 + 1)) (58 + 17 * p + 8) f 5 = a 5 := by rw [iup_n (by omega), iup_n (by omega)]
  unfold aEnd
  exact WF_0 f3 (Or.inr (Or.inl ⟨rfl, hmod, by rw [e2]; exact hmod2⟩))
def aTm (a : Int → Int) (pw sd : Int) : Int → Int := iup a (58 + 17 * a 4 + 5) (if aFault a (a 4) pw sd = 0 then aP a (a 4) 2 else 0)
def aTg (a : Int → Int) (pw sd : Int) : Int → Int := if aTfault a pw sd = 0 then aGood (aTm a pw sd) (a 4) else aTm a pw sd
theorem aTurn_eq {a : Int → Int} {pw sd : Int} : aTurn a pw sd = aEnd (aFlt (aTg a pw sd) (a 4) (aTfault a pw sd)) (a 4) (aTfault a pw sd) := rfl
theorem aTg_wf {T : Int} {a : Int → Int} {pw sd : Int} (hw : zWf T a) (hT : T + 26 ≤ 100000000) : zWf (T + 24) (aTg a pw sd) ∧ aTg a pw sd 2 = a 2 ∧ aTg a pw sd 4 = a 4 := by
  have h4 := hw.2.2.2.2.2.2.2.2.1
  have h4' := hw.2.2.2.2.2.2.2.2.2.1
  have f1 : zWf T (aTm a pw sd) := aMk_wf hw
  have e2 : aTm a pw sd 2 = a 2 := iup_n (by omega)
  have e4 : aTm a pw sd 4 = a 4 := iup_n (by omega)
  unfold aTg
  split
  · exact ⟨aGood_wf f1 (by omega) h4 (by rw [e2]; exact h4'), (aGood_n f1 (by omega) h4 (by omega) (by omega) (by omega)).trans e2, (aGood_n f1 (by omega) h4 (by omega) (by omega) (by omega)).trans e4⟩
  · exact ⟨f1.mono (by omega) (by omega), e2, e4⟩
theorem aTurn_wf {T : Int} {a : Int → Int} {pw sd : Int} (hw : zWf T a) (hT : T + 26 ≤ 100000000) (hs : 0 ≤ sd) : zWf (T + 26) (aTurn a pw sd) := by
  have h4 := hw.2.2.2.2.2.2.2.2.1
  have h4' := hw.2.2.2.2.2.2.2.2.2.1
  obtain ⟨f1, e2, e4⟩ := aTg_wf (pw := pw) (sd := sd) hw hT
  have hr := aTfault_rng (pw := pw) (sd := sd) hw hs
  have f2 := aFlt_wf (p := a 4) (f := aTfault a pw sd) f1 (by omega) h4 (by rw [e2]; exact h4')
  rw [aTurn_eq]
  have f3 := aEnd_wf (p := a 4) (f := aTfault a pw sd) f2 (by omega) h4 (by rw [aFlt_n h4 (by omega), e2]; exact h4') hr.1 hr.2
  exact f3.mono (by omega) (by omega)
theorem dX1_playTurn_0 : decode cX1_playTurn 0 = .ok (.aload_n 1, 1) := by decide +kernel
theorem dX1_playTurn_1 : decode cX1_playTurn 1 = .ok (.getfield 51, 3) := by decide +kernel
theorem dX1_playTurn_4 : decode cX1_playTurn 4 = .ok (.istore 4, 2) := by decide +kernel
theorem dX1_playTurn_6 : decode cX1_playTurn 6 = .ok (.aload_n 1, 1) := by decide +kernel
theorem dX1_playTurn_7 : decode cX1_playTurn 7 = .ok (.iload 4, 2) := by decide +kernel
theorem dX1_playTurn_9 : decode cX1_playTurn 9 = .ok (.iload_n 2, 1) := by decide +kernel
theorem dX1_playTurn_10 : decode cX1_playTurn 10 = .ok (.iload_n 3, 1) := by decide +kernel
theorem dX1_playTurn_11 : decode cX1_playTurn 11 = .ok (.invokevirtual 54, 3) := by decide +kernel
theorem dX1_playTurn_14 : decode cX1_playTurn 14 = .ok (.istore 5, 2) := by decide +kernel
theorem dX1_playTurn_16 : decode cX1_playTurn 16 = .ok (.iload 5, 2) := by decide +kernel
theorem dX1_playTurn_18 : decode cX1_playTurn 18 = .ok (.ifCond .eq 14, 3) := by decide +kernel
theorem dX1_playTurn_21 : decode cX1_playTurn 21 = .ok (.aload_n 1, 1) := by decide +kernel
theorem dX1_playTurn_22 : decode cX1_playTurn 22 = .ok (.iload 4, 2) := by decide +kernel
theorem dX1_playTurn_24 : decode cX1_playTurn 24 = .ok (.iconst 5, 1) := by decide +kernel
theorem dX1_playTurn_25 : decode cX1_playTurn 25 = .ok (.iconst (-1), 1) := by decide +kernel
theorem dX1_playTurn_26 : decode cX1_playTurn 26 = .ok (.invokevirtual 58, 3) := by decide +kernel
theorem dX1_playTurn_29 : decode cX1_playTurn 29 = .ok (.goto 26, 3) := by decide +kernel
theorem dX1_playTurn_32 : decode cX1_playTurn 32 = .ok (.aload_n 1, 1) := by decide +kernel
theorem dX1_playTurn_33 : decode cX1_playTurn 33 = .ok (.iload 4, 2) := by decide +kernel
theorem dX1_playTurn_35 : decode cX1_playTurn 35 = .ok (.iconst 5, 1) := by decide +kernel
theorem dX1_playTurn_36 : decode cX1_playTurn 36 = .ok (.aload_n 1, 1) := by decide +kernel
theorem dX1_playTurn_37 : decode cX1_playTurn 37 = .ok (.iload 4, 2) := by decide +kernel
theorem dX1_playTurn_39 : decode cX1_playTurn 39 = .ok (.iconst 2, 1) := by decide +kernel
theorem dX1_playTurn_40 : decode cX1_playTurn 40 = .ok (.invokevirtual 23, 3) := by decide +kernel
theorem dX1_playTurn_43 : decode cX1_playTurn 43 = .ok (.invokevirtual 58, 3) := by decide +kernel
theorem dX1_playTurn_46 : decode cX1_playTurn 46 = .ok (.aload_n 0, 1) := by decide +kernel
theorem dX1_playTurn_47 : decode cX1_playTurn 47 = .ok (.aload_n 1, 1) := by decide +kernel
theorem dX1_playTurn_48 : decode cX1_playTurn 48 = .ok (.iload 4, 2) := by decide +kernel
theorem dX1_playTurn_50 : decode cX1_playTurn 50 = .ok (.invokevirtual 62, 3) := by decide +kernel
theorem dX1_playTurn_53 : decode cX1_playTurn 53 = .ok (.istore 5, 2) := by decide +kernel
theorem dX1_playTurn_55 : decode cX1_playTurn 55 = .ok (.iload 5, 2) := by decide +kernel
theorem dX1_playTurn_57 : decode cX1_playTurn 57 = .ok (.ifCond .ne 10, 3) := by decide +kernel
theorem dX1_playTurn_60 : decode cX1_playTurn 60 = .ok (.aload_n 0, 1) := by decide +kernel
theorem dX1_playTurn_61 : decode cX1_playTurn 61 = .ok (.aload_n 1, 1) := by decide +kernel
theorem dX1_playTurn_62 : decode cX1_playTurn 62 = .ok (.iload 4, 2) := by decide +kernel
theorem dX1_playTurn_64 : decode cX1_playTurn 64 = .ok (.invokevirtual 65, 3) := by decide +kernel
theorem dX1_playTurn_67 : decode cX1_playTurn 67 = .ok (.aload_n 1, 1) := by decide +kernel
theorem dX1_playTurn_68 : decode cX1_playTurn 68 = .ok (.iload 5, 2) := by decide +kernel
theorem dX1_playTurn_70 : decode cX1_playTurn 70 = .ok (.invokevirtual 69, 3) := by decide +kernel
theorem dX1_playTurn_73 : decode cX1_playTurn 73 = .ok (.iload 5, 2) := by decide +kernel
theorem dX1_playTurn_75 : decode cX1_playTurn 75 = .ok (.ireturn, 1) := by decide +kernel
theorem eX1_playTurn {c : Nat} {W : zWd} {a : Int → Int} {T : Int} {pw sd : Int} {Q : Option Value → zWd → Prop} {X : zX} (hc : zCt c) (hR : zCR W c a) (hw : zWf T a) (hg : zGm W) (hT : T + 26 ≤ 100000000) (hp0 : 0 ≤ pw) (hp1 : pw ≤ 199) (hd0 : 0 ≤ sd) (hd1 : sd ≤ 1) (hq : ∀ W' : zWd, zOffp c W W' → zGm W' → zCR W' c (aTurn a pw sd) → Q (some (zI (aTfault a pw sd))) W') : Ev MX1_playTurn 5 0 W [.ref 97, .ref c, zI pw, zI sd] Q X := by
  refine ev_of (ls := [.ref 97, .ref c, zI pw, zI sd, .null, .null]) (by decide) rfl (fun _ => rfl) (fun _ => Nat.le_of_ble_eq_true rfl) (Or.inl rfl) ?_
  obtain ⟨r0, r1, r2, r3, r4, r5, r6, r7, rF, rS, rP, rB⟩ := id hR
  obtain ⟨w0, w0', wW, w1, w2, w2', w3, w3', w4, w4', w5, w5', w6, w6', w7, w7', wS, wP, wT⟩ := id hw
  have wq := zWf.sq hw
  have hm := rP (a 4) w4 w4'
  have hm2 := wP (a 4) w4 w4'
  unfold zWfP at hm2
  refine rr_aload_n (pc := 0) dX1_playTurn_0 rfl ?_
  refine rr_getI (pc := 1) (ji := 4) dX1_playTurn_1 fX1_51 hc.k hc.i4 rfl ?_
  rw [r4]
  refine rr_istore (pc := 4) dX1_playTurn_4 (by decide) ?_
  refine rr_aload_n (pc := 6) dX1_playTurn_6 rfl ?_
  refine rr_iload (pc := 7) dX1_playTurn_7 rfl ?_
  refine rr_iload_n (pc := 9) dX1_playTurn_9 rfl ?_
  refine rr_iload_n (pc := 10) dX1_playTurn_10 rfl ?_
  refine rr_invN (M' := MX0_faultOfThrow) (k := c) (As := [_, _, _]) (pc := 11) dX1_playTurn_11 lX1_54 kX0_faultOfThrow vX0_faultOfThrow hc.k (by decide) rfl (by decide) (by decide) (Nat.le_of_ble_eq_true rfl) rfl (eX0_faultOfThrow hc hR hw w4 w4' hp0 hp1 hd0 hd1 ?_)
  refine rr_istore (pc := 14) dX1_playTurn_14 (by decide) ?_
  refine rr_iload (pc := 16) dX1_playTurn_16 rfl ?_
  refine rr_if_eq (pc := 18) (tgt := 32) dX1_playTurn_18 (by decide) (by have := aFault_rng (a := a) (q := a 4) (pw := pw) (sd := sd); unfold zR; omega) (fun h18 => ?_) (fun h18 => ?_)
  · refine rr_aload_n (pc := 32) dX1_playTurn_32 rfl ?_
    refine rr_iload (pc := 33) dX1_playTurn_33 rfl ?_
    refine rr_iconst (n := 5) dX1_playTurn_35 ?_
    refine rr_aload_n (pc := 36) dX1_playTurn_36 rfl ?_
    refine rr_iload (pc := 37) dX1_playTurn_37 rfl ?_
    refine rr_iconst (n := 2) dX1_playTurn_39 ?_
    refine rr_invN (M' := MX0_get) (k := c) (As := [_, _]) (pc := 40) dX1_playTurn_40 lX1_23 kX0_get vX0_get hc.k (by decide) rfl (by decide) (by decide) (Nat.le_of_ble_eq_true rfl) rfl (eX0_get hc (by omega) (by omega) (by omega) (by omega) ?_)
    rw [hm.2.2.1]
    refine rr_invN (M' := MX0_put) (k := c) (As := [_, _, _]) (pc := 43) dX1_playTurn_43 lX1_58 kX0_put vX0_put hc.k (by decide) rfl (by decide) (by decide) (Nat.le_of_ble_eq_true rfl) rfl (eX0_put hc (by omega) (by omega) (by omega) (by omega) ?_)
    have htg := aFault_tg hw hd0 h18
    have c1 := CR_P (j := 5) (w := 5) (v := aP a (a 4) 2) (v' := aP a (a 4) 2) hR w4 (Or.inr (Or.inl ⟨rfl, rfl, by rw [if_neg (by omega)]⟩))
    have o1 : zOff c W (zup W (c + 5) (a 4 * 10 + 5) (aP a (a 4) 2)) := zOff.rf.up (by omega)
    generalize zup W (c + 5) (a 4 * 10 + 5) (aP a (a 4) 2) = W1 at c1 o1 ⊢
    have f1 := WF_P (w := 5) (v := aP a (a 4) 2) (p := a 4) hw w4 (by unfold zWr; omega)
    have hgm := hg.c hc o1
    have em : aTm a pw sd = iup a (58 + 17 * a 4 + 5) (aP a (a 4) 2) := by unfold aTm; rw [if_pos h18]
    have ef : aTfault a pw sd = aHopF a (a 4) := if_pos h18
    refine rr_aload_n (pc := 46) dX1_playTurn_46 rfl ?_
    refine rr_aload_n (pc := 47) dX1_playTurn_47 rfl ?_
    refine rr_iload (pc := 48) dX1_playTurn_48 rfl ?_
    refine rr_inv0 (M' := MX1_faultOfHops) (k := 97) (As := [_, _]) (pc := 50) dX1_playTurn_50 lX1_62 kX1_faultOfHops vX1_faultOfHops zk_97 (by decide) rfl (by decide) (by decide) (Nat.le_of_ble_eq_true rfl) rfl (eX1_faultOfHops hc c1 f1 hgm w4 (by rw [iup_n (by omega)]; exact w4') (fun W2 o2 g2 l2 => ?_))
    rw [aHopF_own hw w4] at l2 ⊢
    rw [← ef] at l2 ⊢
    rw [← em] at l2 c1 f1
    have c2 := c1.g hc o2
    have hfr := aTfault_rng (pw := pw) (sd := sd) hw hd0
    refine rr_istore (pc := 53) dX1_playTurn_53 (by decide) ?_
    refine rr_iload (pc := 55) dX1_playTurn_55 rfl ?_
    refine rr_if_ne (pc := 57) (tgt := 67) dX1_playTurn_57 (by decide) (by unfold zR; omega) (fun h57 => ?_) (fun h57 => ?_)
    · have c3 := c2
      rw [show aTm a pw sd = aTg a pw sd from (if_neg h57).symm] at c3
      have o3 := o1.p.tr (zOffg.p (c := c) o2)
      have g3 := g2
      generalize W2 = W3 at c3 o3 g3 ⊢
      refine rr_aload_n (pc := 67) dX1_playTurn_67 rfl ?_
      refine rr_iload (pc := 68) dX1_playTurn_68 rfl ?_
      obtain ⟨f3, e3, e4⟩ := aTg_wf (pw := pw) (sd := sd) hw hT
      refine rr_invN (M' := MX0_endTurn) (k := c) (As := [_]) (pc := 70) dX1_playTurn_70 lX1_69 kX0_endTurn vX0_endTurn hc.k (by decide) rfl (by decide) (by decide) (Nat.le_of_ble_eq_true rfl) rfl (eX0_endTurn hc c3 f3 (by omega) (by omega) (fun W4 o4 c4 => ?_))
      rw [e4, ← aTurn_eq] at c4
      refine rr_iload (pc := 73) dX1_playTurn_73 rfl ?_
      exact rr_reti (pc := 75) dX1_playTurn_75 rfl rfl rfl rfl (hq W4 (o3.tr o4.p) (g3.c hc o4) c4)
    · refine rr_aload_n (pc := 60) dX1_playTurn_60 rfl ?_
      refine rr_aload_n (pc := 61) dX1_playTurn_61 rfl ?_
      refine rr_iload (pc := 62) dX1_playTurn_62 rfl ?_
      refine rr_inv0 (M' := MX1_hopOutAndBack) (k := 97) (As := [_, _]) (pc := 64) dX1_playTurn_64 lX1_65 kX1_hopOutAndBack vX1_hopOutAndBack zk_97 (by decide) rfl (by decide) (by decide) (Nat.le_of_ble_eq_true rfl) rfl (eX1_hopOutAndBack hc c2 f1 w4 (by rw [em, iup_n (by omega)]; exact w4') (by omega) (by rw [em]; exact iup_s.trans aP2_own.symm) (l2 h57).1 (l2 h57).2 (fun W3 o3 c3 => ?_))
      rw [show aGood (aTm a pw sd) (a 4) = aTg a pw sd from (if_pos h57).symm] at c3
      have g3 := g2.c hc o3
      have o3 := (o1.p.tr (zOffg.p (c := c) o2)).tr o3.p
      refine rr_aload_n (pc := 67) dX1_playTurn_67 rfl ?_
      refine rr_iload (pc := 68) dX1_playTurn_68 rfl ?_
      obtain ⟨f3, e3, e4⟩ := aTg_wf (pw := pw) (sd := sd) hw hT
      refine rr_invN (M' := MX0_endTurn) (k := c) (As := [_]) (pc := 70) dX1_playTurn_70 lX1_69 kX0_endTurn vX0_endTurn hc.k (by decide) rfl (by decide) (by decide) (Nat.le_of_ble_eq_true rfl) rfl (eX0_endTurn hc c3 f3 (by omega) (by omega) (fun W4 o4 c4 => ?_))
      rw [e4, ← aTurn_eq] at c4
      refine rr_iload (pc := 73) dX1_playTurn_73 rfl ?_
      exact rr_reti (pc := 75) dX1_playTurn_75 rfl rfl rfl rfl (hq W4 (o3.tr o4.p) (g3.c hc o4) c4)
  · refine rr_aload_n (pc := 21) dX1_playTurn_21 rfl ?_
    refine rr_iload (pc := 22) dX1_playTurn_22 rfl ?_
    refine rr_iconst (n := 5) dX1_playTurn_24 ?_
    refine rr_iconst (n := (-1)) dX1_playTurn_25 ?_
    refine rr_invN (M' := MX0_put) (k := c) (As := [_, _, _]) (pc := 26) dX1_playTurn_26 lX1_58 kX0_put vX0_put hc.k (by decide) rfl (by decide) (by decide) (Nat.le_of_ble_eq_true rfl) rfl (eX0_put hc (by omega) (by omega) (by omega) (by omega) ?_)
    have c1 := CR_P (j := 5) (w := 5) (v := -1) (v' := 0) hR w4 (Or.inr (Or.inl ⟨rfl, rfl, rfl⟩))
    have o1 : zOff c W (zup W (c + 5) (a 4 * 10 + 5) (-1)) := zOff.rf.up (by omega)
    generalize zup W (c + 5) (a 4 * 10 + 5) (-1) = W1 at c1 o1 ⊢
    have ef : aTfault a pw sd = aFault a (a 4) pw sd := if_neg h18
    have hfr := aFault_rng (a := a) (q := a 4) (pw := pw) (sd := sd)
    have eg : aTg a pw sd = iup a (58 + 17 * a 4 + 5) 0 := by
      have h9 : aTm a pw sd = iup a (58 + 17 * a 4 + 5) 0 := by unfold aTm; rw [if_neg h18]
      unfold aTg; rw [if_neg (by rw [ef]; exact h18)]; exact h9
    rw [← eg] at c1
    rw [← ef]
    have hgm := hg.c hc o1
    refine rr_goto (pc := 29) (tgt := 55) dX1_playTurn_29 (by decide) ?_
    refine rr_iload (pc := 55) dX1_playTurn_55 rfl ?_
    refine rr_if_ne (pc := 57) (tgt := 67) dX1_playTurn_57 (by decide) (by unfold zR; omega) (fun h57 => ?_) (fun h57 => ?_)
    · have c3 := c1
      have o3 := o1.p
      have g3 := hgm
      generalize W1 = W3 at c3 o3 g3 ⊢
      refine rr_aload_n (pc := 67) dX1_playTurn_67 rfl ?_
      refine rr_iload (pc := 68) dX1_playTurn_68 rfl ?_
      obtain ⟨f3, e3, e4⟩ := aTg_wf (pw := pw) (sd := sd) hw hT
      refine rr_invN (M' := MX0_endTurn) (k := c) (As := [_]) (pc := 70) dX1_playTurn_70 lX1_69 kX0_endTurn vX0_endTurn hc.k (by decide) rfl (by decide) (by decide) (Nat.le_of_ble_eq_true rfl) rfl (eX0_endTurn hc c3 f3 (by omega) (by omega) (fun W4 o4 c4 => ?_))
      rw [e4, ← aTurn_eq] at c4
      refine rr_iload (pc := 73) dX1_playTurn_73 rfl ?_
      exact rr_reti (pc := 75) dX1_playTurn_75 rfl rfl rfl rfl (hq W4 (o3.tr o4.p) (g3.c hc o4) c4)
    · exact absurd (ef.symm.trans h57) h18
end
section
theorem aEnd_n {a : Int → Int} {p f j : Int} (h0 : 0 ≤ p) (hj : j < 58) (h4 : j ≠ 4) (h5 : j ≠ 5) : aEnd a p f j = a j := by
  show iup (iup (iup (iup a _ _) _ _) 5 _) 4 _ j = a j
  rw [iup_n h4, iup_n h5, iup_n (by omega), iup_n (by omega)]
theorem aTurn_n {T : Int} {a : Int → Int} {pw sd j : Int} (hw : zWf T a) (hT : T + 26 ≤ 100000000) (hj : j < 18) (h4 : j ≠ 4) (h5 : j ≠ 5) (h6 : j ≠ 6) (h7 : j ≠ 7) : aTurn a pw sd j = a j := by
  have q4 := hw.2.2.2.2.2.2.2.2.1
  rw [aTurn_eq, aEnd_n q4 (by omega) h4 h5, aFlt_n q4 (by omega)]
  have e : aTm a pw sd j = a j := iup_n (by omega)
  unfold aTg
  split
  · exact (aGood_n (aMk_wf hw) (by omega) q4 hj h6 h7).trans e
  · exact e
/-- the throw of one who plays on: at the target, with the least power -/
def aLp (a : Int → Int) (s : Int) : Int := if 0 < 10 * (aR a s : Int) + 1 - a 3 then 10 * (aR a s : Int) + 1 - a 3 else 0
def aSd (a : Int → Int) (s : Int) : Int := s - aF a (aR a s)
def aBp (a : Int → Int) : Int := if aP a (a 4) 2 = 0 then 0 else aLp a (aP a (a 4) 2)
def aBs (a : Int → Int) : Int := if aP a (a 4) 2 = 0 then 0 else aSd a (aP a (a 4) 2)
def aNext (a : Int → Int) : Int → Int := aTurn a (aBp a) (aBs a)
def aUnt (w : Int) : Nat → Int → (Int → Int) → Int × (Int → Int)
  | 0, _, a => (-1, a)
  | n + 1, i, a => if aP a (a 4) 4 < aP (aNext a) (a 4) 4 ∧ (w = -1 ∨ w = a 4) then (i, aNext a) else aUnt w n (i + 1) (aNext a)
theorem aLp_rng {T : Int} {a : Int → Int} (hw : zWf T a) {s : Int} (h1 : 1 ≤ s) (h2 : s ≤ a 1) : 0 ≤ aLp a s ∧ aLp a s ≤ 100 := by
  have h := aR_spec hw h1 h2
  have h3 := hw.2.2.2.2.2.2.1
  have h10 := hw.2.1
  unfold aLp; split <;> omega
theorem aSd_rng {T : Int} {a : Int → Int} (hw : zWf T a) {s : Int} (h1 : 1 ≤ s) (h2 : s ≤ a 1) : 0 ≤ aSd a s ∧ aSd a s ≤ 1 := by
  have h := aR_spec hw h1 h2
  have h3 := hw.2.2.1 (aR a s : Nat) (by omega) h.1
  have hst := aF_step (a := a) (aR a s)
  unfold aSd; omega
theorem aB_rng {T : Int} {a : Int → Int} (hw : zWf T a) : 0 ≤ aBp a ∧ aBp a ≤ 100 ∧ 0 ≤ aBs a ∧ aBs a ≤ 1 := by
  have h4 := hw.2.2.2.2.2.2.2.2.1
  have h4' := hw.2.2.2.2.2.2.2.2.2.1
  have hm2 := hw.2.2.2.2.2.2.2.2.2.2.2.2.2.2.2.2.2.1 (a 4) h4 h4'
  unfold zWfP at hm2
  unfold aBp aBs
  by_cases h : aP a (a 4) 2 = 0
  · rw [if_pos h, if_pos h]; omega
  · rw [if_neg h, if_neg h]
    have g1 := aLp_rng hw (s := aP a (a 4) 2) (by omega) (by omega)
    have g2 := aSd_rng hw (s := aP a (a 4) 2) (by omega) (by omega)
    omega
theorem aNext_wf {T : Int} {a : Int → Int} (hw : zWf T a) (hT : T + 26 ≤ 100000000) : zWf (T + 26) (aNext a) := aTurn_wf hw hT (aB_rng hw).2.2.1
theorem aUnt_wf {w : Int} : ∀ (n : Nat) (i T : Int) (a : Int → Int), zWf T a → T + 26 * n ≤ 100000000 → zWf (T + 26 * n) (aUnt w n i a).2 := by
  intro n
  induction n with
  | zero => intro i T a hw _; rw [show T + 26 * ((0 : Nat) : Int) = T by omega]; exact hw
  | succ n ih =>
    intro i T a hw hT
    have h1 := aNext_wf hw (by omega)
    unfold aUnt
    split
    · exact h1.mono (by omega) hT
    · rw [show T + 26 * ((n + 1 : Nat) : Int) = T + 26 + 26 * n by omega]
      exact ih _ _ _ h1 (by omega)
theorem dX1_playUntilCrown_0 : decode cX1_playUntilCrown 0 = .ok (.iconst 1, 1) := by decide +kernel
theorem dX1_playUntilCrown_1 : decode cX1_playUntilCrown 1 = .ok (.istore_n 3, 1) := by decide +kernel
theorem dX1_playUntilCrown_2 : decode cX1_playUntilCrown 2 = .ok (.iload_n 3, 1) := by decide +kernel
theorem dX1_playUntilCrown_3 : decode cX1_playUntilCrown 3 = .ok (.sipush 300, 3) := by decide +kernel
theorem dX1_playUntilCrown_6 : decode cX1_playUntilCrown 6 = .ok (.if_icmp .gt 102, 3) := by decide +kernel
theorem dX1_playUntilCrown_9 : decode cX1_playUntilCrown 9 = .ok (.aload_n 1, 1) := by decide +kernel
theorem dX1_playUntilCrown_10 : decode cX1_playUntilCrown 10 = .ok (.getfield 51, 3) := by decide +kernel
theorem dX1_playUntilCrown_13 : decode cX1_playUntilCrown 13 = .ok (.istore 4, 2) := by decide +kernel
theorem dX1_playUntilCrown_15 : decode cX1_playUntilCrown 15 = .ok (.aload_n 1, 1) := by decide +kernel
theorem dX1_playUntilCrown_16 : decode cX1_playUntilCrown 16 = .ok (.iload 4, 2) := by decide +kernel
theorem dX1_playUntilCrown_18 : decode cX1_playUntilCrown 18 = .ok (.iconst 4, 1) := by decide +kernel
theorem dX1_playUntilCrown_19 : decode cX1_playUntilCrown 19 = .ok (.invokevirtual 23, 3) := by decide +kernel
theorem dX1_playUntilCrown_22 : decode cX1_playUntilCrown 22 = .ok (.istore 5, 2) := by decide +kernel
theorem dX1_playUntilCrown_24 : decode cX1_playUntilCrown 24 = .ok (.aload_n 1, 1) := by decide +kernel
theorem dX1_playUntilCrown_25 : decode cX1_playUntilCrown 25 = .ok (.iload 4, 2) := by decide +kernel
theorem dX1_playUntilCrown_27 : decode cX1_playUntilCrown 27 = .ok (.iconst 2, 1) := by decide +kernel
theorem dX1_playUntilCrown_28 : decode cX1_playUntilCrown 28 = .ok (.invokevirtual 23, 3) := by decide +kernel
theorem dX1_playUntilCrown_31 : decode cX1_playUntilCrown 31 = .ok (.istore 6, 2) := by decide +kernel
theorem dX1_playUntilCrown_33 : decode cX1_playUntilCrown 33 = .ok (.iload 6, 2) := by decide +kernel
theorem dX1_playUntilCrown_35 : decode cX1_playUntilCrown 35 = .ok (.ifCond .ne 7, 3) := by decide +kernel
theorem dX1_playUntilCrown_38 : decode cX1_playUntilCrown 38 = .ok (.iconst 0, 1) := by decide +kernel
theorem dX1_playUntilCrown_39 : decode cX1_playUntilCrown 39 = .ok (.goto 9, 3) := by decide +kernel
theorem dX1_playUntilCrown_42 : decode cX1_playUntilCrown 42 = .ok (.aload_n 1, 1) := by decide +kernel
theorem dX1_playUntilCrown_43 : decode cX1_playUntilCrown 43 = .ok (.iload 6, 2) := by decide +kernel
theorem dX1_playUntilCrown_45 : decode cX1_playUntilCrown 45 = .ok (.invokevirtual 104, 3) := by decide +kernel
theorem dX1_playUntilCrown_48 : decode cX1_playUntilCrown 48 = .ok (.istore 7, 2) := by decide +kernel
theorem dX1_playUntilCrown_50 : decode cX1_playUntilCrown 50 = .ok (.iload 6, 2) := by decide +kernel
theorem dX1_playUntilCrown_52 : decode cX1_playUntilCrown 52 = .ok (.ifCond .ne 7, 3) := by decide +kernel
theorem dX1_playUntilCrown_55 : decode cX1_playUntilCrown 55 = .ok (.iconst 0, 1) := by decide +kernel
theorem dX1_playUntilCrown_56 : decode cX1_playUntilCrown 56 = .ok (.goto 9, 3) := by decide +kernel
theorem dX1_playUntilCrown_59 : decode cX1_playUntilCrown 59 = .ok (.aload_n 1, 1) := by decide +kernel
theorem dX1_playUntilCrown_60 : decode cX1_playUntilCrown 60 = .ok (.iload 6, 2) := by decide +kernel
theorem dX1_playUntilCrown_62 : decode cX1_playUntilCrown 62 = .ok (.invokevirtual 107, 3) := by decide +kernel
theorem dX1_playUntilCrown_65 : decode cX1_playUntilCrown 65 = .ok (.istore 8, 2) := by decide +kernel
theorem dX1_playUntilCrown_67 : decode cX1_playUntilCrown 67 = .ok (.aload_n 0, 1) := by decide +kernel
theorem dX1_playUntilCrown_68 : decode cX1_playUntilCrown 68 = .ok (.aload_n 1, 1) := by decide +kernel
theorem dX1_playUntilCrown_69 : decode cX1_playUntilCrown 69 = .ok (.iload 7, 2) := by decide +kernel
theorem dX1_playUntilCrown_71 : decode cX1_playUntilCrown 71 = .ok (.iload 8, 2) := by decide +kernel
theorem dX1_playUntilCrown_73 : decode cX1_playUntilCrown 73 = .ok (.invokevirtual 110, 3) := by decide +kernel
theorem dX1_playUntilCrown_76 : decode cX1_playUntilCrown 76 = .ok (.pop, 1) := by decide +kernel
theorem dX1_playUntilCrown_77 : decode cX1_playUntilCrown 77 = .ok (.aload_n 1, 1) := by decide +kernel
theorem dX1_playUntilCrown_78 : decode cX1_playUntilCrown 78 = .ok (.iload 4, 2) := by decide +kernel
theorem dX1_playUntilCrown_80 : decode cX1_playUntilCrown 80 = .ok (.iconst 4, 1) := by decide +kernel
theorem dX1_playUntilCrown_81 : decode cX1_playUntilCrown 81 = .ok (.invokevirtual 23, 3) := by decide +kernel
theorem dX1_playUntilCrown_84 : decode cX1_playUntilCrown 84 = .ok (.iload 5, 2) := by decide +kernel
theorem dX1_playUntilCrown_86 : decode cX1_playUntilCrown 86 = .ok (.if_icmp .le 16, 3) := by decide +kernel
theorem dX1_playUntilCrown_89 : decode cX1_playUntilCrown 89 = .ok (.iload_n 2, 1) := by decide +kernel
theorem dX1_playUntilCrown_90 : decode cX1_playUntilCrown 90 = .ok (.iconst (-1), 1) := by decide +kernel
theorem dX1_playUntilCrown_91 : decode cX1_playUntilCrown 91 = .ok (.if_icmp .eq 9, 3) := by decide +kernel
theorem dX1_playUntilCrown_94 : decode cX1_playUntilCrown 94 = .ok (.iload_n 2, 1) := by decide +kernel
theorem dX1_playUntilCrown_95 : decode cX1_playUntilCrown 95 = .ok (.iload 4, 2) := by decide +kernel
theorem dX1_playUntilCrown_97 : decode cX1_playUntilCrown 97 = .ok (.if_icmp .ne 5, 3) := by decide +kernel
theorem dX1_playUntilCrown_100 : decode cX1_playUntilCrown 100 = .ok (.iload_n 3, 1) := by decide +kernel
theorem dX1_playUntilCrown_101 : decode cX1_playUntilCrown 101 = .ok (.ireturn, 1) := by decide +kernel
theorem dX1_playUntilCrown_102 : decode cX1_playUntilCrown 102 = .ok (.iinc 3 1, 3) := by decide +kernel
theorem dX1_playUntilCrown_105 : decode cX1_playUntilCrown 105 = .ok (.goto (-103), 3) := by decide +kernel
theorem dX1_playUntilCrown_108 : decode cX1_playUntilCrown 108 = .ok (.iconst (-1), 1) := by decide +kernel
theorem dX1_playUntilCrown_109 : decode cX1_playUntilCrown 109 = .ok (.ireturn, 1) := by decide +kernel
theorem eX1_playUntilCrown {c : Nat} {W : zWd} {a : Int → Int} {T : Int} {w : Int} {Q : Option Value → zWd → Prop} {X : zX} (hc : zCt c) (hR : zCR W c a) (hw : zWf T a) (hg : zGm W) (hT : T + 7826 ≤ 100000000) (hwz : zR w) (hq : ∀ W' : zWd, zOffp c W W' → zGm W' → zCR W' c (aUnt w 300 1 a).2 → Q (some (zI (aUnt w 300 1 a).1)) W') : Ev MX1_playUntilCrown 6 0 W [.ref 97, .ref c, zI w] Q X := by
  refine ev_of (ls := [.ref 97, .ref c, zI w, .null, .null, .null, .null, .null, .null]) (by decide) rfl (fun _ => rfl) (fun _ => Nat.le_of_ble_eq_true rfl) (Or.inl rfl) ?_
  unfold zR at hwz
  have loop : ∀ (n : Nat) (i : Int) (Wi : zWd) (ai : Int → Int) (x4 x5 x6 x7 x8 : Value), 1 ≤ i → i ≤ 301 → zOffp c W Wi → zGm Wi → zCR Wi c ai → zWf (T + 26 * (i - 1)) ai → aUnt w (301 - i).toNat i ai = aUnt w 300 1 a → (301 - i).toNat < n → RR MX1_playUntilCrown 6 0 Wi 2 [.ref 97, .ref c, zI w, zI i, x4, x5, x6, x7, x8] [] (zEnd MX1_playUntilCrown Q X) X := by
    intro n
    induction n with
    | zero => intro i Wi ai x4 x5 x6 x7 x8 _ _ _ _ _ _ _ hm9; omega
    | succ n ih =>
      intro i Wi ai x4 x5 x6 x7 x8 h1 h2 hO hG hC hF hL hm9
      obtain ⟨q0, q1, q2, q3, q4, q5, q6, q7, qF, qS, qP, qB⟩ := id hC
      have hF2 := hF
      obtain ⟨v0, v0', vW, v1, v2, v2', v3, v3', v4, v4', v5, v5', v6, v6', v7, v7', vS, vP, vT⟩ := id hF2
      have hm := qP (ai 4) v4 v4'
      have hm2 := vP (ai 4) v4 v4'
      unfold zWfP at hm2
      have hsq := zWf.sq hF
      have hbr := aB_rng hF
      refine rr_iload_n (pc := 2) dX1_playUntilCrown_2 rfl ?_
      refine rr_sipush (n := (300)) dX1_playUntilCrown_3 ?_
      refine rr_icmp_gt (pc := 6) (tgt := 108) dX1_playUntilCrown_6 (by decide) (by unfold zR; omega) (by unfold zR; omega) (fun h6 => ?_) (fun h6 => ?_)
      · refine rr_iconst (n := (-1)) dX1_playUntilCrown_108 ?_
        rw [show (301 - i).toNat = 0 by omega] at hL
        have hL1 := congrArg Prod.fst hL
        have hL2 := congrArg Prod.snd hL
        exact rr_reti (pc := 109) dX1_playUntilCrown_109 rfl rfl hL1 rfl (hq Wi hO hG (hL2 ▸ hC))
      · refine rr_aload_n (pc := 9) dX1_playUntilCrown_9 rfl ?_
        refine rr_getI (pc := 10) (ji := 4) dX1_playUntilCrown_10 fX1_51 hc.k hc.i4 rfl ?_
        rw [q4]
        have en : (301 - i).toNat = (301 - (i + 1)).toNat + 1 := by omega
        rw [en] at hL
        unfold aUnt at hL
        refine rr_istore (pc := 13) dX1_playUntilCrown_13 (by decide) ?_
        refine rr_aload_n (pc := 15) dX1_playUntilCrown_15 rfl ?_
        refine rr_iload (pc := 16) dX1_playUntilCrown_16 rfl ?_
        refine rr_iconst (n := 4) dX1_playUntilCrown_18 ?_
        refine rr_invN (M' := MX0_get) (k := c) (As := [_, _]) (pc := 19) dX1_playUntilCrown_19 lX1_23 kX0_get vX0_get hc.k (by decide) rfl (by decide) (by decide) (Nat.le_of_ble_eq_true rfl) rfl (eX0_get hc (by omega) (by omega) (by omega) (by omega) ?_)
        rw [hm.2.2.2.2.1]
        refine rr_istore (pc := 22) dX1_playUntilCrown_22 (by decide) ?_
        refine rr_aload_n (pc := 24) dX1_playUntilCrown_24 rfl ?_
        refine rr_iload (pc := 25) dX1_playUntilCrown_25 rfl ?_
        refine rr_iconst (n := 2) dX1_playUntilCrown_27 ?_
        refine rr_invN (M' := MX0_get) (k := c) (As := [_, _]) (pc := 28) dX1_playUntilCrown_28 lX1_23 kX0_get vX0_get hc.k (by decide) rfl (by decide) (by decide) (Nat.le_of_ble_eq_true rfl) rfl (eX0_get hc (by omega) (by omega) (by omega) (by omega) ?_)
        rw [hm.2.2.1]
        refine rr_istore (pc := 31) dX1_playUntilCrown_31 (by decide) ?_
        refine rr_iload (pc := 33) dX1_playUntilCrown_33 rfl ?_
        refine rr_if_ne (pc := 35) (tgt := 42) dX1_playUntilCrown_35 (by decide) (by unfold zR; omega) (fun h35 => ?_) (fun h35 => ?_)
        · refine rr_aload_n (pc := 42) dX1_playUntilCrown_42 rfl ?_
          refine rr_iload (pc := 43) dX1_playUntilCrown_43 rfl ?_
          refine rr_invN (M' := MX0_leastPower) (k := c) (As := [_]) (pc := 45) dX1_playUntilCrown_45 lX1_104 kX0_leastPower vX0_leastPower hc.k (by decide) rfl (by decide) (by decide) (Nat.le_of_ble_eq_true rfl) rfl (eX0_leastPower hc hC hF (by omega) (by omega) ?_)
          refine rr_eqS (congrArg (fun z => [zI z]) (show _ = aBp ai from (if_neg h35).symm)) ?_
          refine rr_istore (pc := 48) dX1_playUntilCrown_48 (by decide) ?_
          refine rr_iload (pc := 50) dX1_playUntilCrown_50 rfl ?_
          refine rr_if_ne (pc := 52) (tgt := 59) dX1_playUntilCrown_52 (by decide) (by unfold zR; omega) (fun h52 => ?_) (fun h52 => ?_)
          · refine rr_aload_n (pc := 59) dX1_playUntilCrown_59 rfl ?_
            refine rr_iload (pc := 60) dX1_playUntilCrown_60 rfl ?_
            refine rr_invN (M' := MX0_sideOf) (k := c) (As := [_]) (pc := 62) dX1_playUntilCrown_62 lX1_107 kX0_sideOf vX0_sideOf hc.k (by decide) rfl (by decide) (by decide) (Nat.le_of_ble_eq_true rfl) rfl (eX0_sideOf hc hC hF (by omega) (by omega) ?_)
            refine rr_eqS (congrArg (fun z => [zI z]) (show _ = aBs ai from (if_neg h35).symm)) ?_
            refine rr_istore (pc := 65) dX1_playUntilCrown_65 (by decide) ?_
            refine rr_aload_n (pc := 67) dX1_playUntilCrown_67 rfl ?_
            refine rr_aload_n (pc := 68) dX1_playUntilCrown_68 rfl ?_
            refine rr_iload (pc := 69) dX1_playUntilCrown_69 rfl ?_
            refine rr_iload (pc := 71) dX1_playUntilCrown_71 rfl ?_
            refine rr_inv0 (M' := MX1_playTurn) (k := 97) (As := [_, _, _]) (pc := 73) dX1_playUntilCrown_73 lX1_110 kX1_playTurn vX1_playTurn zk_97 (by decide) rfl (by decide) (by decide) (Nat.le_of_ble_eq_true rfl) rfl (eX1_playTurn hc hC hF hG (by omega) (by omega) (by omega) (by omega) (by omega) (fun W1 o1 g1 c1 => ?_))
            have c1 : zCR W1 c (aNext ai) := c1
            have f1 := aNext_wf hF (by omega)
            have e2 : aNext ai 2 = ai 2 := aTurn_n hF (by omega) (by omega) (by omega) (by omega) (by omega) (by omega)
            have hn := c1.2.2.2.2.2.2.2.2.2.2.1 (ai 4) v4 (by rw [e2]; exact v4')
            have hn2 := f1.2.2.2.2.2.2.2.2.2.2.2.2.2.2.2.2.2.1 (ai 4) v4 (by rw [e2]; exact v4')
            unfold zWfP at hn2
            have hrf := aTfault_rng (pw := aBp ai) (sd := aBs ai) hF hbr.2.2.1
            refine rr_pop_i (pc := 76) dX1_playUntilCrown_76 ?_
            refine rr_aload_n (pc := 77) dX1_playUntilCrown_77 rfl ?_
            refine rr_iload (pc := 78) dX1_playUntilCrown_78 rfl ?_
            refine rr_iconst (n := 4) dX1_playUntilCrown_80 ?_
            refine rr_invN (M' := MX0_get) (k := c) (As := [_, _]) (pc := 81) dX1_playUntilCrown_81 lX1_23 kX0_get vX0_get hc.k (by decide) rfl (by decide) (by decide) (Nat.le_of_ble_eq_true rfl) rfl (eX0_get hc (by omega) (by omega) (by omega) (by omega) ?_)
            rw [hn.2.2.2.2.1]
            refine rr_iload (pc := 84) dX1_playUntilCrown_84 rfl ?_
            refine rr_icmp_le (pc := 86) (tgt := 102) dX1_playUntilCrown_86 (by decide) (by unfold zR; omega) (by unfold zR; omega) (fun h86 => ?_) (fun h86 => ?_)
            · rw [if_neg (by omega)] at hL
              refine rr_iinc (pc := 102) dX1_playUntilCrown_102 rfl (by decide) ?_
              refine rr_goto (pc := 105) (tgt := 2) dX1_playUntilCrown_105 (by decide) ?_
              exact ih (i + 1) W1 (aNext ai) _ _ _ _ _ (by omega) (by omega) (hO.tr o1) g1 c1 (by rw [show T + 26 * (i + 1 - 1) = T + 26 * (i - 1) + 26 by omega]; exact f1) hL (by omega)
            · refine rr_iload_n (pc := 89) dX1_playUntilCrown_89 rfl ?_
              refine rr_iconst (n := (-1)) dX1_playUntilCrown_90 ?_
              refine rr_icmp_eq (pc := 91) (tgt := 100) dX1_playUntilCrown_91 (by decide) (by unfold zR; omega) (by unfold zR; omega) (fun h91 => ?_) (fun h91 => ?_)
              · refine rr_iload_n (pc := 100) dX1_playUntilCrown_100 rfl ?_
                rw [if_pos ⟨by omega, by omega⟩] at hL
                have hL1 := congrArg Prod.fst hL
                have hL2 := congrArg Prod.snd hL
                exact rr_reti (pc := 101) dX1_playUntilCrown_101 rfl rfl hL1 rfl (hq W1 (hO.tr o1) g1 (hL2 ▸ c1))
              · refine rr_iload_n (pc := 94) dX1_playUntilCrown_94 rfl ?_
                refine rr_iload (pc := 95) dX1_playUntilCrown_95 rfl ?_
                refine rr_icmp_ne (pc := 97) (tgt := 102) dX1_playUntilCrown_97 (by decide) (by unfold zR; omega) (by unfold zR; omega) (fun h97 => ?_) (fun h97 => ?_)
                · rw [if_neg (by omega)] at hL
                  refine rr_iinc (pc := 102) dX1_playUntilCrown_102 rfl (by decide) ?_
                  refine rr_goto (pc := 105) (tgt := 2) dX1_playUntilCrown_105 (by decide) ?_
                  exact ih (i + 1) W1 (aNext ai) _ _ _ _ _ (by omega) (by omega) (hO.tr o1) g1 c1 (by rw [show T + 26 * (i + 1 - 1) = T + 26 * (i - 1) + 26 by omega]; exact f1) hL (by omega)
                · refine rr_iload_n (pc := 100) dX1_playUntilCrown_100 rfl ?_
                  rw [if_pos ⟨by omega, by omega⟩] at hL
                  have hL1 := congrArg Prod.fst hL
                  have hL2 := congrArg Prod.snd hL
                  exact rr_reti (pc := 101) dX1_playUntilCrown_101 rfl rfl hL1 rfl (hq W1 (hO.tr o1) g1 (hL2 ▸ c1))
          · omega
        · refine rr_iconst (n := 0) dX1_playUntilCrown_38 ?_
          refine rr_goto (pc := 39) (tgt := 48) dX1_playUntilCrown_39 (by decide) ?_
          have e35 : aP ai (ai 4) 2 = 0 := by omega
          refine rr_eqS (congrArg (fun z => [zI z]) (show _ = aBp ai from (if_pos e35).symm)) ?_
          refine rr_istore (pc := 48) dX1_playUntilCrown_48 (by decide) ?_
          refine rr_iload (pc := 50) dX1_playUntilCrown_50 rfl ?_
          refine rr_if_ne (pc := 52) (tgt := 59) dX1_playUntilCrown_52 (by decide) (by unfold zR; omega) (fun h52 => ?_) (fun h52 => ?_)
          · omega
          · refine rr_iconst (n := 0) dX1_playUntilCrown_55 ?_
            refine rr_goto (pc := 56) (tgt := 65) dX1_playUntilCrown_56 (by decide) ?_
            refine rr_eqS (congrArg (fun z => [zI z]) (show _ = aBs ai from (if_pos e35).symm)) ?_
            refine rr_istore (pc := 65) dX1_playUntilCrown_65 (by decide) ?_
            refine rr_aload_n (pc := 67) dX1_playUntilCrown_67 rfl ?_
            refine rr_aload_n (pc := 68) dX1_playUntilCrown_68 rfl ?_
            refine rr_iload (pc := 69) dX1_playUntilCrown_69 rfl ?_
            refine rr_iload (pc := 71) dX1_playUntilCrown_71 rfl ?_
            refine rr_inv0 (M' := MX1_playTurn) (k := 97) (As := [_, _, _]) (pc := 73) dX1_playUntilCrown_73 lX1_110 kX1_playTurn vX1_playTurn zk_97 (by decide) rfl (by decide) (by decide) (Nat.le_of_ble_eq_true rfl) rfl (eX1_playTurn hc hC hF hG (by omega) (by omega) (by omega) (by omega) (by omega) (fun W1 o1 g1 c1 => ?_))
            have c1 : zCR W1 c (aNext ai) := c1
            have f1 := aNext_wf hF (by omega)
            have e2 : aNext ai 2 = ai 2 := aTurn_n hF (by omega) (by omega) (by omega) (by omega) (by omega) (by omega)
            have hn := c1.2.2.2.2.2.2.2.2.2.2.1 (ai 4) v4 (by rw [e2]; exact v4')
            have hn2 := f1.2.2.2.2.2.2.2.2.2.2.2.2.2.2.2.2.2.1 (ai 4) v4 (by rw [e2]; exact v4')
            unfold zWfP at hn2
            have hrf := aTfault_rng (pw := aBp ai) (sd := aBs ai) hF hbr.2.2.1
            refine rr_pop_i (pc := 76) dX1_playUntilCrown_76 ?_
            refine rr_aload_n (pc := 77) dX1_playUntilCrown_77 rfl ?_
            refine rr_iload (pc := 78) dX1_playUntilCrown_78 rfl ?_
            refine rr_iconst (n := 4) dX1_playUntilCrown_80 ?_
            refine rr_invN (M' := MX0_get) (k := c) (As := [_, _]) (pc := 81) dX1_playUntilCrown_81 lX1_23 kX0_get vX0_get hc.k (by decide) rfl (by decide) (by decide) (Nat.le_of_ble_eq_true rfl) rfl (eX0_get hc (by omega) (by omega) (by omega) (by omega) ?_)
            rw [hn.2.2.2.2.1]
            refine rr_iload (pc := 84) dX1_playUntilCrown_84 rfl ?_
            refine rr_icmp_le (pc := 86) (tgt := 102) dX1_playUntilCrown_86 (by decide) (by unfold zR; omega) (by unfold zR; omega) (fun h86 => ?_) (fun h86 => ?_)
            · rw [if_neg (by omega)] at hL
              refine rr_iinc (pc := 102) dX1_playUntilCrown_102 rfl (by decide) ?_
              refine rr_goto (pc := 105) (tgt := 2) dX1_playUntilCrown_105 (by decide) ?_
              exact ih (i + 1) W1 (aNext ai) _ _ _ _ _ (by omega) (by omega) (hO.tr o1) g1 c1 (by rw [show T + 26 * (i + 1 - 1) = T + 26 * (i - 1) + 26 by omega]; exact f1) hL (by omega)
            · refine rr_iload_n (pc := 89) dX1_playUntilCrown_89 rfl ?_
              refine rr_iconst (n := (-1)) dX1_playUntilCrown_90 ?_
              refine rr_icmp_eq (pc := 91) (tgt := 100) dX1_playUntilCrown_91 (by decide) (by unfold zR; omega) (by unfold zR; omega) (fun h91 => ?_) (fun h91 => ?_)
              · refine rr_iload_n (pc := 100) dX1_playUntilCrown_100 rfl ?_
                rw [if_pos ⟨by omega, by omega⟩] at hL
                have hL1 := congrArg Prod.fst hL
                have hL2 := congrArg Prod.snd hL
                exact rr_reti (pc := 101) dX1_playUntilCrown_101 rfl rfl hL1 rfl (hq W1 (hO.tr o1) g1 (hL2 ▸ c1))
              · refine rr_iload_n (pc := 94) dX1_playUntilCrown_94 rfl ?_
                refine rr_iload (pc := 95) dX1_playUntilCrown_95 rfl ?_
                refine rr_icmp_ne (pc := 97) (tgt := 102) dX1_playUntilCrown_97 (by decide) (by unfold zR; omega) (by unfold zR; omega) (fun h97 => ?_) (fun h97 => ?_)
                · rw [if_neg (by omega)] at hL
                  refine rr_iinc (pc := 102) dX1_playUntilCrown_102 rfl (by decide) ?_
                  refine rr_goto (pc := 105) (tgt := 2) dX1_playUntilCrown_105 (by decide) ?_
                  exact ih (i + 1) W1 (aNext ai) _ _ _ _ _ (by omega) (by omega) (hO.tr o1) g1 c1 (by rw [show T + 26 * (i + 1 - 1) = T + 26 * (i - 1) + 26 by omega]; exact f1) hL (by omega)
                · refine rr_iload_n (pc := 100) dX1_playUntilCrown_100 rfl ?_
                  rw [if_pos ⟨by omega, by omega⟩] at hL
                  have hL1 := congrArg Prod.fst hL
                  have hL2 := congrArg Prod.snd hL
                  exact rr_reti (pc := 101) dX1_playUntilCrown_101 rfl rfl hL1 rfl (hq W1 (hO.tr o1) g1 (hL2 ▸ c1))
  refine rr_iconst (n := 1) dX1_playUntilCrown_0 ?_
  refine rr_istore_n (pc := 1) dX1_playUntilCrown_1 (by decide) ?_
  exact loop _ 1 W a _ _ _ _ _ (by omega) (by omega) zOffp.rf hg hR (by rw [show T + 26 * ((1 : Int) - 1) = T by omega]; exact hw) rfl (Nat.lt_succ_self _)
end
section
/-! THROW SITES, by program (wip/whole/gen/throws.py) -/
theorem zW_sub {ws : List Cond} (ps : List Nat) (hp : ws = ps.filterMap (fun i => lw_tbl[i]?)) (h : ws.all (fun w => goodWord w || zNw w) = true) : ∀ w ∈ ws, w ∈ zWs ∨ w ∈ zNst := by
  intro w hw
  have h1 := List.all_eq_true.mp h w hw
  rw [hp] at hw
  obtain ⟨i, -, hi⟩ := List.mem_filterMap.mp hw
  have hm : w ∈ lw_tbl := List.mem_of_getElem? hi
  rw [Bool.or_eq_true] at h1
  exact h1.imp (fun g => List.mem_filter.mpr ⟨hm, g⟩) (fun g => List.mem_filter.mpr ⟨hm, g⟩)
def zNms : List String := ["java/lang/RuntimeException", "java/lang/Exception"]
theorem zNms_fit : ∀ n ∈ zNms, Bundle.fit n = true := by decide +kernel
set_option maxRecDepth 100000 in
theorem zat_IS_77 : ∀ w ∈ vx_atS "HopscotchCourt" 77 "java/lang/IllegalStateException" zNms, w ∈ zWs ∨ w ∈ zNst := zW_sub [137, 763, 772, 776, 779, 781, 764, 765, 156, 157, 766, 771, 777, 797, 753, 798, 755, 799, 757, 767, 769, 759, 793, 794, 796, 759, 784, 785, 786, 787, 745, 787, 788, 789, 790, 747, 790, 791, 792, 793, 749, 783, 742, 743, 750, 751, 752, 754, 756, 758, 762, 761, 760] (by decide +kernel) (by decide +kernel)
set_option maxRecDepth 100000 in
theorem zat_IA_138 : ∀ w ∈ vx_atS "HopscotchCourt" 138 "java/lang/IllegalArgumentException" zNms, w ∈ zWs ∨ w ∈ zNst := zW_sub [137, 763, 772, 776, 779, 781, 764, 765, 156, 157, 766, 771, 777, 797, 753, 798, 755, 799, 757, 767, 769, 759, 793, 794, 796, 759, 843, 844, 845, 787, 745, 787, 788, 789, 790, 747, 790, 791, 792, 793, 749, 842, 833, 834, 835, 774, 836, 837, 838, 839, 762, 761, 840] (by decide +kernel) (by decide +kernel)
set_option maxRecDepth 100000 in
theorem zat_IO_218 : ∀ w ∈ vx_atS "HopscotchCourt" 218 "java/lang/IndexOutOfBoundsException" zNms, w ∈ zWs ∨ w ∈ zNst := zW_sub [137, 763, 772, 776, 779, 781, 764, 765, 156, 157, 766, 771, 777, 797, 753, 798, 755, 799, 757, 767, 769, 759, 793, 794, 796, 759, 871, 872, 873, 787, 745, 787, 788, 789, 790, 747, 790, 791, 792, 793, 749, 870, 861, 862, 863, 775, 864, 865, 866, 867, 762, 761, 868] (by decide +kernel) (by decide +kernel)
theorem zini_IA : Cond.initialized "java/lang/IllegalArgumentException" ∈ zWs := zWs_in 148 (by decide +kernel) rfl
theorem zfit_IA : Bundle.fit "java/lang/IllegalArgumentException" = true := by decide +kernel
theorem zini_IO : Cond.initialized "java/lang/IndexOutOfBoundsException" ∈ zWs := zWs_in 149 (by decide +kernel) rfl
theorem zfit_IO : Bundle.fit "java/lang/IndexOutOfBoundsException" = true := by decide +kernel
theorem zini_IS : Cond.initialized "java/lang/IllegalStateException" ∈ zWs := zWs_in 140 (by decide +kernel) rfl
theorem zfit_IS : Bundle.fit "java/lang/IllegalStateException" = true := by decide +kernel
theorem zcl_73 : Cond.classLink "HopscotchCourt" 73 "java/lang/IllegalStateException" ∈ zWs := zWs_in 741 (by decide +kernel) rfl
theorem zcl_134 : Cond.classLink "HopscotchCourt" 134 "java/lang/IllegalArgumentException" ∈ zWs := zWs_in 832 (by decide +kernel) rfl
theorem zcl_214 : Cond.classLink "HopscotchCourt" 214 "java/lang/IndexOutOfBoundsException" ∈ zWs := zWs_in 860 (by decide +kernel) rfl
theorem tX6_append_44 : zThrow MX6_append 44 "java/lang/IllegalStateException" ∨ zThrowW MX6_append 44 "java/lang/IllegalStateException" := Or.inl ⟨73, 75, 77, 22, "the text is too long", [116, 104, 101, 32, 116, 101, 120, 116, 32, 105, 115, 32, 116, 111, 111, 32, 108, 111, 110, 103], zNms, by decide +kernel, by decide +kernel, by decide +kernel, by decide +kernel, by decide +kernel, zfit_IS, zNms_fit, by decide, zcl_73, zini_IS, rfl, zat_IS_77⟩
theorem tX6_count_148 : zThrow MX6_count 148 "java/lang/IllegalArgumentException" ∨ zThrowW MX6_count 148 "java/lang/IllegalArgumentException" := Or.inl ⟨134, 136, 138, 23, "no such count", [110, 111, 32, 115, 117, 99, 104, 32, 99, 111, 117, 110, 116], zNms, by decide +kernel, by decide +kernel, by decide +kernel, by decide +kernel, by decide +kernel, zfit_IA, zNms_fit, by decide, zcl_134, zini_IA, rfl, zat_IA_138⟩
theorem tX6_player_15 : zThrow MX6_player 15 "java/lang/IllegalArgumentException" ∨ zThrowW MX6_player 15 "java/lang/IllegalArgumentException" := Or.inl ⟨134, 142, 138, 24, "no such number of a player", [110, 111, 32, 115, 117, 99, 104, 32, 110, 117, 109, 98, 101, 114, 32, 111, 102, 32, 97, 32, 112, 108, 97, 121, 101, 114], zNms, by decide +kernel, by decide +kernel, by decide +kernel, by decide +kernel, by decide +kernel, zfit_IA, zNms_fit, by decide, zcl_134, zini_IA, rfl, zat_IA_138⟩
theorem tX6_square_88 : zThrow MX6_square 88 "java/lang/IllegalArgumentException" ∨ zThrowW MX6_square 88 "java/lang/IllegalArgumentException" := Or.inl ⟨134, 170, 138, 25, "no such number of a square", [110, 111, 32, 115, 117, 99, 104, 32, 110, 117, 109, 98, 101, 114, 32, 111, 102, 32, 97, 32, 115, 113, 117, 97, 114, 101], zNms, by decide +kernel, by decide +kernel, by decide +kernel, by decide +kernel, by decide +kernel, zfit_IA, zNms_fit, by decide, zcl_134, zini_IA, rfl, zat_IA_138⟩
theorem tX6_place_9 : zThrow MX6_place 9 "java/lang/IndexOutOfBoundsException" ∨ zThrowW MX6_place 9 "java/lang/IndexOutOfBoundsException" := Or.inl ⟨214, 216, 218, 26, "no such hop", [110, 111, 32, 115, 117, 99, 104, 32, 104, 111, 112], zNms, by decide +kernel, by decide +kernel, by decide +kernel, by decide +kernel, by decide +kernel, zfit_IO, zNms_fit, by decide, zcl_214, zini_IO, rfl, zat_IO_218⟩
theorem tX6_setDrift_12 : zThrow MX6_setDrift 12 "java/lang/IllegalArgumentException" ∨ zThrowW MX6_setDrift 12 "java/lang/IllegalArgumentException" := Or.inr ⟨134, 261, 138, 27, "no such drift", [110, 111, 32, 115, 117, 99, 104, 32, 100, 114, 105, 102, 116], zNms, by decide +kernel, by decide +kernel, by decide +kernel, by decide +kernel, by decide +kernel, zfit_IA, zNms_fit, by decide, zcl_134, zini_IA, rfl, zat_IA_138⟩
theorem tX6_setPlayer_14 : zThrow MX6_setPlayer 14 "java/lang/IllegalArgumentException" ∨ zThrowW MX6_setPlayer 14 "java/lang/IllegalArgumentException" := Or.inr ⟨134, 263, 138, 28, "no such number to set", [110, 111, 32, 115, 117, 99, 104, 32, 110, 117, 109, 98, 101, 114, 32, 116, 111, 32, 115, 101, 116], zNms, by decide +kernel, by decide +kernel, by decide +kernel, by decide +kernel, by decide +kernel, zfit_IA, zNms_fit, by decide, zcl_134, zini_IA, rfl, zat_IA_138⟩
theorem tX6_setPlayer_48 : zThrow MX6_setPlayer 48 "java/lang/IllegalArgumentException" ∨ zThrowW MX6_setPlayer 48 "java/lang/IllegalArgumentException" := Or.inr ⟨134, 271, 138, 29, "no such value", [110, 111, 32, 115, 117, 99, 104, 32, 118, 97, 108, 117, 101], zNms, by decide +kernel, by decide +kernel, by decide +kernel, by decide +kernel, by decide +kernel, zfit_IA, zNms_fit, by decide, zcl_134, zini_IA, rfl, zat_IA_138⟩
theorem tX6_undo_10 : zThrow MX6_undo 10 "java/lang/IllegalStateException" ∨ zThrowW MX6_undo 10 "java/lang/IllegalStateException" := Or.inr ⟨73, 276, 77, 30, "no change to undo", [110, 111, 32, 99, 104, 97, 110, 103, 101, 32, 116, 111, 32, 117, 110, 100, 111], zNms, by decide +kernel, by decide +kernel, by decide +kernel, by decide +kernel, by decide +kernel, zfit_IS, zNms_fit, by decide, zcl_73, zini_IS, rfl, zat_IS_77⟩
theorem tX6_restore_13 : zThrow MX6_restore 13 "java/lang/IllegalStateException" ∨ zThrowW MX6_restore 13 "java/lang/IllegalStateException" := Or.inr ⟨73, 284, 77, 31, "nothing is saved there", [110, 111, 116, 104, 105, 110, 103, 32, 105, 115, 32, 115, 97, 118, 101, 100, 32, 116, 104, 101, 114, 101], zNms, by decide +kernel, by decide +kernel, by decide +kernel, by decide +kernel, by decide +kernel, zfit_IS, zNms_fit, by decide, zcl_73, zini_IS, rfl, zat_IS_77⟩
theorem tX6_writtenByte_15 : zThrow MX6_writtenByte 15 "java/lang/IndexOutOfBoundsException" ∨ zThrowW MX6_writtenByte 15 "java/lang/IndexOutOfBoundsException" := Or.inr ⟨214, 290, 218, 32, "no such byte", [110, 111, 32, 115, 117, 99, 104, 32, 98, 121, 116, 101], zNms, by decide +kernel, by decide +kernel, by decide +kernel, by decide +kernel, by decide +kernel, zfit_IO, zNms_fit, by decide, zcl_214, zini_IO, rfl, zat_IO_218⟩
theorem tX6_checkPlayer_15 : zThrow MX6_checkPlayer 15 "java/lang/IndexOutOfBoundsException" ∨ zThrowW MX6_checkPlayer 15 "java/lang/IndexOutOfBoundsException" := Or.inr ⟨214, 296, 218, 33, "no such player", [110, 111, 32, 115, 117, 99, 104, 32, 112, 108, 97, 121, 101, 114], zNms, by decide +kernel, by decide +kernel, by decide +kernel, by decide +kernel, by decide +kernel, zfit_IO, zNms_fit, by decide, zcl_214, zini_IO, rfl, zat_IO_218⟩
theorem tX6_checkSquare_16 : zThrow MX6_checkSquare 16 "java/lang/IndexOutOfBoundsException" ∨ zThrowW MX6_checkSquare 16 "java/lang/IndexOutOfBoundsException" := Or.inr ⟨214, 298, 218, 34, "no such square", [110, 111, 32, 115, 117, 99, 104, 32, 115, 113, 117, 97, 114, 101], zNms, by decide +kernel, by decide +kernel, by decide +kernel, by decide +kernel, by decide +kernel, zfit_IO, zNms_fit, by decide, zcl_214, zini_IO, rfl, zat_IO_218⟩
theorem tX6_checkRow_15 : zThrow MX6_checkRow 15 "java/lang/IndexOutOfBoundsException" ∨ zThrowW MX6_checkRow 15 "java/lang/IndexOutOfBoundsException" := Or.inr ⟨214, 300, 218, 35, "no such row", [110, 111, 32, 115, 117, 99, 104, 32, 114, 111, 119], zNms, by decide +kernel, by decide +kernel, by decide +kernel, by decide +kernel, by decide +kernel, zfit_IO, zNms_fit, by decide, zcl_214, zini_IO, rfl, zat_IO_218⟩
theorem tX6_checkSlot_9 : zThrow MX6_checkSlot 9 "java/lang/IndexOutOfBoundsException" ∨ zThrowW MX6_checkSlot 9 "java/lang/IndexOutOfBoundsException" := Or.inr ⟨214, 302, 218, 36, "no such slot", [110, 111, 32, 115, 117, 99, 104, 32, 115, 108, 111, 116], zNms, by decide +kernel, by decide +kernel, by decide +kernel, by decide +kernel, by decide +kernel, zfit_IO, zNms_fit, by decide, zcl_214, zini_IO, rfl, zat_IO_218⟩
theorem tX6_checkThrow_20 : zThrow MX6_checkThrow 20 "java/lang/IllegalArgumentException" ∨ zThrowW MX6_checkThrow 20 "java/lang/IllegalArgumentException" := Or.inr ⟨134, 304, 138, 37, "no such throw", [110, 111, 32, 115, 117, 99, 104, 32, 116, 104, 114, 111, 119], zNms, by decide +kernel, by decide +kernel, by decide +kernel, by decide +kernel, by decide +kernel, zfit_IA, zNms_fit, by decide, zcl_134, zini_IA, rfl, zat_IA_138⟩
end
section
theorem dX6_checkPlayer_0 : decode cX6_checkPlayer 0 = .ok (.iload_n 1, 1) := by decide +kernel
theorem dX6_checkPlayer_1 : decode cX6_checkPlayer 1 = .ok (.ifCond .lt 14, 3) := by decide +kernel
theorem dX6_checkPlayer_4 : decode cX6_checkPlayer 4 = .ok (.iload_n 1, 1) := by decide +kernel
theorem dX6_checkPlayer_5 : decode cX6_checkPlayer 5 = .ok (.aload_n 0, 1) := by decide +kernel
theorem dX6_checkPlayer_6 : decode cX6_checkPlayer 6 = .ok (.getfield 12, 3) := by decide +kernel
theorem dX6_checkPlayer_9 : decode cX6_checkPlayer 9 = .ok (.getfield 106, 3) := by decide +kernel
theorem dX6_checkPlayer_12 : decode cX6_checkPlayer 12 = .ok (.if_icmp .lt 14, 3) := by decide +kernel
theorem dX6_checkPlayer_15 : decode cX6_checkPlayer 15 = .ok (.new 214, 3) := by decide +kernel
theorem dX6_checkPlayer_18 : decode cX6_checkPlayer 18 = .ok (.dup, 1) := by decide +kernel
theorem dX6_checkPlayer_19 : decode cX6_checkPlayer 19 = .ok (.ldc_w 296, 3) := by decide +kernel
theorem dX6_checkPlayer_22 : decode cX6_checkPlayer 22 = .ok (.invokespecial 218, 3) := by decide +kernel
theorem dX6_checkPlayer_25 : decode cX6_checkPlayer 25 = .ok (.athrow, 1) := by decide +kernel
theorem dX6_checkPlayer_26 : decode cX6_checkPlayer 26 = .ok (.return_, 1) := by decide +kernel
theorem eX6_checkPlayer {W : zWd} {p : Int} {Q : Option Value → zWd → Prop} {X : zX} (hz : zR p) (hn : zR (W 0 2)) (hq : 0 ≤ p → p < W 0 2 → Q none W) (hx : ¬ (0 ≤ p ∧ p < W 0 2) → X "java/lang/IndexOutOfBoundsException" W) : Ev MX6_checkPlayer 7 1 W [.ref 96, zI p] Q X := by
  refine ev_of (ls := [.ref 96, zI p]) (by decide) rfl (fun _ => rfl) (fun _ => Nat.le_of_ble_eq_true rfl) (Or.inr (by decide)) ?_
  refine rr_iload_n (pc := 0) dX6_checkPlayer_0 rfl ?_
  refine rr_if_lt (pc := 1) (tgt := 15) dX6_checkPlayer_1 (by decide) hz (fun h1 => ?_) (fun h1 => ?_)
  · exact rr_thr (by decide) tX6_checkPlayer_15 (hx (by omega))
  · refine rr_iload_n (pc := 4) dX6_checkPlayer_4 rfl ?_
    refine rr_aload_n (pc := 5) dX6_checkPlayer_5 rfl ?_
    refine rr_getR (pc := 6) dX6_checkPlayer_6 fX6_12 zk_96 zr_96_0 ?_
    refine rr_getI (pc := 9) (ji := 2) dX6_checkPlayer_9 fX6_106 zCt_0.k zCt_0.i2 rfl ?_
    refine rr_icmp_lt (pc := 12) (tgt := 26) dX6_checkPlayer_12 (by decide) hz hn (fun h12 => ?_) (fun h12 => ?_)
    · exact rr_retv (pc := 26) dX6_checkPlayer_26 rfl rfl (hq (by omega) (by omega))
    · exact rr_thr (by decide) tX6_checkPlayer_15 (hx (by omega))
theorem dX6_checkSquare_0 : decode cX6_checkSquare 0 = .ok (.iload_n 1, 1) := by decide +kernel
theorem dX6_checkSquare_1 : decode cX6_checkSquare 1 = .ok (.iconst 1, 1) := by decide +kernel
theorem dX6_checkSquare_2 : decode cX6_checkSquare 2 = .ok (.if_icmp .lt 14, 3) := by decide +kernel
theorem dX6_checkSquare_5 : decode cX6_checkSquare 5 = .ok (.iload_n 1, 1) := by decide +kernel
theorem dX6_checkSquare_6 : decode cX6_checkSquare 6 = .ok (.aload_n 0, 1) := by decide +kernel
theorem dX6_checkSquare_7 : decode cX6_checkSquare 7 = .ok (.getfield 12, 3) := by decide +kernel
theorem dX6_checkSquare_10 : decode cX6_checkSquare 10 = .ok (.getfield 97, 3) := by decide +kernel
theorem dX6_checkSquare_13 : decode cX6_checkSquare 13 = .ok (.if_icmp .le 14, 3) := by decide +kernel
theorem dX6_checkSquare_16 : decode cX6_checkSquare 16 = .ok (.new 214, 3) := by decide +kernel
theorem dX6_checkSquare_19 : decode cX6_checkSquare 19 = .ok (.dup, 1) := by decide +kernel
theorem dX6_checkSquare_20 : decode cX6_checkSquare 20 = .ok (.ldc_w 298, 3) := by decide +kernel
theorem dX6_checkSquare_23 : decode cX6_checkSquare 23 = .ok (.invokespecial 218, 3) := by decide +kernel
theorem dX6_checkSquare_26 : decode cX6_checkSquare 26 = .ok (.athrow, 1) := by decide +kernel
theorem dX6_checkSquare_27 : decode cX6_checkSquare 27 = .ok (.return_, 1) := by decide +kernel
theorem eX6_checkSquare {W : zWd} {s : Int} {Q : Option Value → zWd → Prop} {X : zX} (hz : zR s) (hn : zR (W 0 1)) (hq : 1 ≤ s → s ≤ W 0 1 → Q none W) (hx : ¬ (1 ≤ s ∧ s ≤ W 0 1) → X "java/lang/IndexOutOfBoundsException" W) : Ev MX6_checkSquare 7 1 W [.ref 96, zI s] Q X := by
  refine ev_of (ls := [.ref 96, zI s]) (by decide) rfl (fun _ => rfl) (fun _ => Nat.le_of_ble_eq_true rfl) (Or.inr (by decide)) ?_
  refine rr_iload_n (pc := 0) dX6_checkSquare_0 rfl ?_
  refine rr_iconst (n := 1) dX6_checkSquare_1 ?_
  refine rr_icmp_lt (pc := 2) (tgt := 16) dX6_checkSquare_2 (by decide) hz (by unfold zR; omega) (fun h2 => ?_) (fun h2 => ?_)
  · exact rr_thr (by decide) tX6_checkSquare_16 (hx (by omega))
  · refine rr_iload_n (pc := 5) dX6_checkSquare_5 rfl ?_
    refine rr_aload_n (pc := 6) dX6_checkSquare_6 rfl ?_
    refine rr_getR (pc := 7) dX6_checkSquare_7 fX6_12 zk_96 zr_96_0 ?_
    refine rr_getI (pc := 10) (ji := 1) dX6_checkSquare_10 fX6_97 zCt_0.k zCt_0.i1 rfl ?_
    refine rr_icmp_le (pc := 13) (tgt := 27) dX6_checkSquare_13 (by decide) hz hn (fun h13 => ?_) (fun h13 => ?_)
    · exact rr_retv (pc := 27) dX6_checkSquare_27 rfl rfl (hq (by omega) (by omega))
    · exact rr_thr (by decide) tX6_checkSquare_16 (hx (by omega))
theorem dX6_checkRow_0 : decode cX6_checkRow 0 = .ok (.iload_n 1, 1) := by decide +kernel
theorem dX6_checkRow_1 : decode cX6_checkRow 1 = .ok (.ifCond .lt 14, 3) := by decide +kernel
theorem dX6_checkRow_4 : decode cX6_checkRow 4 = .ok (.iload_n 1, 1) := by decide +kernel
theorem dX6_checkRow_5 : decode cX6_checkRow 5 = .ok (.aload_n 0, 1) := by decide +kernel
theorem dX6_checkRow_6 : decode cX6_checkRow 6 = .ok (.getfield 12, 3) := by decide +kernel
theorem dX6_checkRow_9 : decode cX6_checkRow 9 = .ok (.getfield 103, 3) := by decide +kernel
theorem dX6_checkRow_12 : decode cX6_checkRow 12 = .ok (.if_icmp .lt 14, 3) := by decide +kernel
theorem dX6_checkRow_15 : decode cX6_checkRow 15 = .ok (.new 214, 3) := by decide +kernel
theorem dX6_checkRow_18 : decode cX6_checkRow 18 = .ok (.dup, 1) := by decide +kernel
theorem dX6_checkRow_19 : decode cX6_checkRow 19 = .ok (.ldc_w 300, 3) := by decide +kernel
theorem dX6_checkRow_22 : decode cX6_checkRow 22 = .ok (.invokespecial 218, 3) := by decide +kernel
theorem dX6_checkRow_25 : decode cX6_checkRow 25 = .ok (.athrow, 1) := by decide +kernel
theorem dX6_checkRow_26 : decode cX6_checkRow 26 = .ok (.return_, 1) := by decide +kernel
theorem eX6_checkRow {W : zWd} {r : Int} {Q : Option Value → zWd → Prop} {X : zX} (hz : zR r) (hn : zR (W 0 0)) (hq : 0 ≤ r → r < W 0 0 → Q none W) (hx : ¬ (0 ≤ r ∧ r < W 0 0) → X "java/lang/IndexOutOfBoundsException" W) : Ev MX6_checkRow 7 1 W [.ref 96, zI r] Q X := by
  refine ev_of (ls := [.ref 96, zI r]) (by decide) rfl (fun _ => rfl) (fun _ => Nat.le_of_ble_eq_true rfl) (Or.inr (by decide)) ?_
  refine rr_iload_n (pc := 0) dX6_checkRow_0 rfl ?_
  refine rr_if_lt (pc := 1) (tgt := 15) dX6_checkRow_1 (by decide) hz (fun h1 => ?_) (fun h1 => ?_)
  · exact rr_thr (by decide) tX6_checkRow_15 (hx (by omega))
  · refine rr_iload_n (pc := 4) dX6_checkRow_4 rfl ?_
    refine rr_aload_n (pc := 5) dX6_checkRow_5 rfl ?_
    refine rr_getR (pc := 6) dX6_checkRow_6 fX6_12 zk_96 zr_96_0 ?_
    refine rr_getI (pc := 9) (ji := 0) dX6_checkRow_9 fX6_103 zCt_0.k zCt_0.i0 rfl ?_
    refine rr_icmp_lt (pc := 12) (tgt := 26) dX6_checkRow_12 (by decide) hz hn (fun h12 => ?_) (fun h12 => ?_)
    · exact rr_retv (pc := 26) dX6_checkRow_26 rfl rfl (hq (by omega) (by omega))
    · exact rr_thr (by decide) tX6_checkRow_15 (hx (by omega))
theorem dX6_checkSlot_0 : decode cX6_checkSlot 0 = .ok (.iload_n 0, 1) := by decide +kernel
theorem dX6_checkSlot_1 : decode cX6_checkSlot 1 = .ok (.ifCond .lt 8, 3) := by decide +kernel
theorem dX6_checkSlot_4 : decode cX6_checkSlot 4 = .ok (.iload_n 0, 1) := by decide +kernel
theorem dX6_checkSlot_5 : decode cX6_checkSlot 5 = .ok (.iconst 2, 1) := by decide +kernel
theorem dX6_checkSlot_6 : decode cX6_checkSlot 6 = .ok (.if_icmp .lt 14, 3) := by decide +kernel
theorem dX6_checkSlot_9 : decode cX6_checkSlot 9 = .ok (.new 214, 3) := by decide +kernel
theorem dX6_checkSlot_12 : decode cX6_checkSlot 12 = .ok (.dup, 1) := by decide +kernel
theorem dX6_checkSlot_13 : decode cX6_checkSlot 13 = .ok (.ldc_w 302, 3) := by decide +kernel
theorem dX6_checkSlot_16 : decode cX6_checkSlot 16 = .ok (.invokespecial 218, 3) := by decide +kernel
theorem dX6_checkSlot_19 : decode cX6_checkSlot 19 = .ok (.athrow, 1) := by decide +kernel
theorem dX6_checkSlot_20 : decode cX6_checkSlot 20 = .ok (.return_, 1) := by decide +kernel
theorem eX6_checkSlot {W : zWd} {r : Int} {Q : Option Value → zWd → Prop} {X : zX} (hz : zR r) (hq : 0 ≤ r → r < 2 → Q none W) (hx : ¬ (0 ≤ r ∧ r < 2) → X "java/lang/IndexOutOfBoundsException" W) : Ev MX6_checkSlot 7 1 W [zI r] Q X := by
  refine ev_of (ls := [zI r]) (by decide) rfl (fun _ => rfl) (fun _ => Nat.le_of_ble_eq_true rfl) (Or.inr (by decide)) ?_
  refine rr_iload_n (pc := 0) dX6_checkSlot_0 rfl ?_
  refine rr_if_lt (pc := 1) (tgt := 9) dX6_checkSlot_1 (by decide) hz (fun h1 => ?_) (fun h1 => ?_)
  · exact rr_thr (by decide) tX6_checkSlot_9 (hx (by omega))
  · refine rr_iload_n (pc := 4) dX6_checkSlot_4 rfl ?_
    refine rr_iconst (n := 2) dX6_checkSlot_5 ?_
    refine rr_icmp_lt (pc := 6) (tgt := 20) dX6_checkSlot_6 (by decide) hz (by unfold zR; omega) (fun h6 => ?_) (fun h6 => ?_)
    · exact rr_retv (pc := 20) dX6_checkSlot_20 rfl rfl (hq (by omega) (by omega))
    · exact rr_thr (by decide) tX6_checkSlot_9 (hx (by omega))
theorem dX6_checkThrow_0 : decode cX6_checkThrow 0 = .ok (.iload_n 0, 1) := by decide +kernel
theorem dX6_checkThrow_1 : decode cX6_checkThrow 1 = .ok (.ifCond .lt 19, 3) := by decide +kernel
theorem dX6_checkThrow_4 : decode cX6_checkThrow 4 = .ok (.iload_n 0, 1) := by decide +kernel
theorem dX6_checkThrow_5 : decode cX6_checkThrow 5 = .ok (.sipush 199, 3) := by decide +kernel
theorem dX6_checkThrow_8 : decode cX6_checkThrow 8 = .ok (.if_icmp .gt 12, 3) := by decide +kernel
theorem dX6_checkThrow_11 : decode cX6_checkThrow 11 = .ok (.iload_n 1, 1) := by decide +kernel
theorem dX6_checkThrow_12 : decode cX6_checkThrow 12 = .ok (.ifCond .lt 8, 3) := by decide +kernel
theorem dX6_checkThrow_15 : decode cX6_checkThrow 15 = .ok (.iload_n 1, 1) := by decide +kernel
theorem dX6_checkThrow_16 : decode cX6_checkThrow 16 = .ok (.iconst 1, 1) := by decide +kernel
theorem dX6_checkThrow_17 : decode cX6_checkThrow 17 = .ok (.if_icmp .le 14, 3) := by decide +kernel
theorem dX6_checkThrow_20 : decode cX6_checkThrow 20 = .ok (.new 134, 3) := by decide +kernel
theorem dX6_checkThrow_23 : decode cX6_checkThrow 23 = .ok (.dup, 1) := by decide +kernel
theorem dX6_checkThrow_24 : decode cX6_checkThrow 24 = .ok (.ldc_w 304, 3) := by decide +kernel
theorem dX6_checkThrow_27 : decode cX6_checkThrow 27 = .ok (.invokespecial 138, 3) := by decide +kernel
theorem dX6_checkThrow_30 : decode cX6_checkThrow 30 = .ok (.athrow, 1) := by decide +kernel
theorem dX6_checkThrow_31 : decode cX6_checkThrow 31 = .ok (.return_, 1) := by decide +kernel
theorem eX6_checkThrow {W : zWd} {r s : Int} {Q : Option Value → zWd → Prop} {X : zX} (hz : zR r) (hz2 : zR s) (hq : 0 ≤ r → r ≤ 199 → 0 ≤ s → s ≤ 1 → Q none W) (hx : ¬ (0 ≤ r ∧ r ≤ 199 ∧ 0 ≤ s ∧ s ≤ 1) → X "java/lang/IllegalArgumentException" W) : Ev MX6_checkThrow 7 1 W [zI r, zI s] Q X := by
  refine ev_of (ls := [zI r, zI s]) (by decide) rfl (fun _ => rfl) (fun _ => Nat.le_of_ble_eq_true rfl) (Or.inr (by decide)) ?_
  refine rr_iload_n (pc := 0) dX6_checkThrow_0 rfl ?_
  refine rr_if_lt (pc := 1) (tgt := 20) dX6_checkThrow_1 (by decide) hz (fun h1 => ?_) (fun h1 => ?_)
  · exact rr_thr (by decide) tX6_checkThrow_20 (hx (by omega))
  · refine rr_iload_n (pc := 4) dX6_checkThrow_4 rfl ?_
    refine rr_sipush (n := (199)) dX6_checkThrow_5 ?_
    refine rr_icmp_gt (pc := 8) (tgt := 20) dX6_checkThrow_8 (by decide) hz (by unfold zR; omega) (fun h8 => ?_) (fun h8 => ?_)
    · exact rr_thr (by decide) tX6_checkThrow_20 (hx (by omega))
    · refine rr_iload_n (pc := 11) dX6_checkThrow_11 rfl ?_
      refine rr_if_lt (pc := 12) (tgt := 20) dX6_checkThrow_12 (by decide) hz2 (fun h12 => ?_) (fun h12 => ?_)
      · exact rr_thr (by decide) tX6_checkThrow_20 (hx (by omega))
      · refine rr_iload_n (pc := 15) dX6_checkThrow_15 rfl ?_
        refine rr_iconst (n := 1) dX6_checkThrow_16 ?_
        refine rr_icmp_le (pc := 17) (tgt := 31) dX6_checkThrow_17 (by decide) hz2 (by unfold zR; omega) (fun h17 => ?_) (fun h17 => ?_)
        · exact rr_retv (pc := 31) dX6_checkThrow_31 rfl rfl (hq (by omega) (by omega) (by omega) (by omega))
        · exact rr_thr (by decide) tX6_checkThrow_20 (hx (by omega))
/-- what 'count' answers -/
def vCount (a : Int → Int) (w : Int) : Int := if w = 6 then a 1 - (aNown a (-1) : Nat) else if w = 7 then (zCnt (fun q : Nat => decide (aP a q 5 ≠ 0)) (a 2).toNat : Nat) else if w = 8 then a 6 else if w = 9 then a 7 else if w = 10 then (aRich a (a 2).toNat).1 else a w
theorem dX6_count_0 : decode cX6_count 0 = .ok (.iload_n 1, 1) := by decide +kernel
theorem dX6_count_1 : decode cX6_count 1 = .ok (.tableswitch 147 0 10 #[59, 67, 75, 83, 91, 99, 107, 115, 123, 131, 139], 59) := by decide +kernel
theorem dX6_count_60 : decode cX6_count 60 = .ok (.aload_n 0, 1) := by decide +kernel
theorem dX6_count_61 : decode cX6_count 61 = .ok (.getfield 12, 3) := by decide +kernel
theorem dX6_count_64 : decode cX6_count 64 = .ok (.getfield 103, 3) := by decide +kernel
theorem dX6_count_67 : decode cX6_count 67 = .ok (.ireturn, 1) := by decide +kernel
theorem dX6_count_68 : decode cX6_count 68 = .ok (.aload_n 0, 1) := by decide +kernel
theorem dX6_count_69 : decode cX6_count 69 = .ok (.getfield 12, 3) := by decide +kernel
theorem dX6_count_72 : decode cX6_count 72 = .ok (.getfield 97, 3) := by decide +kernel
theorem dX6_count_75 : decode cX6_count 75 = .ok (.ireturn, 1) := by decide +kernel
theorem dX6_count_76 : decode cX6_count 76 = .ok (.aload_n 0, 1) := by decide +kernel
theorem dX6_count_77 : decode cX6_count 77 = .ok (.getfield 12, 3) := by decide +kernel
theorem dX6_count_80 : decode cX6_count 80 = .ok (.getfield 106, 3) := by decide +kernel
theorem dX6_count_83 : decode cX6_count 83 = .ok (.ireturn, 1) := by decide +kernel
theorem dX6_count_84 : decode cX6_count 84 = .ok (.aload_n 0, 1) := by decide +kernel
theorem dX6_count_85 : decode cX6_count 85 = .ok (.getfield 12, 3) := by decide +kernel
theorem dX6_count_88 : decode cX6_count 88 = .ok (.getfield 109, 3) := by decide +kernel
theorem dX6_count_91 : decode cX6_count 91 = .ok (.ireturn, 1) := by decide +kernel
theorem dX6_count_92 : decode cX6_count 92 = .ok (.aload_n 0, 1) := by decide +kernel
theorem dX6_count_93 : decode cX6_count 93 = .ok (.getfield 12, 3) := by decide +kernel
theorem dX6_count_96 : decode cX6_count 96 = .ok (.getfield 112, 3) := by decide +kernel
theorem dX6_count_99 : decode cX6_count 99 = .ok (.ireturn, 1) := by decide +kernel
theorem dX6_count_100 : decode cX6_count 100 = .ok (.aload_n 0, 1) := by decide +kernel
theorem dX6_count_101 : decode cX6_count 101 = .ok (.getfield 12, 3) := by decide +kernel
theorem dX6_count_104 : decode cX6_count 104 = .ok (.getfield 115, 3) := by decide +kernel
theorem dX6_count_107 : decode cX6_count 107 = .ok (.ireturn, 1) := by decide +kernel
theorem dX6_count_108 : decode cX6_count 108 = .ok (.aload_n 0, 1) := by decide +kernel
theorem dX6_count_109 : decode cX6_count 109 = .ok (.getfield 12, 3) := by decide +kernel
theorem dX6_count_112 : decode cX6_count 112 = .ok (.invokevirtual 118, 3) := by decide +kernel
theorem dX6_count_115 : decode cX6_count 115 = .ok (.ireturn, 1) := by decide +kernel
theorem dX6_count_116 : decode cX6_count 116 = .ok (.aload_n 0, 1) := by decide +kernel
theorem dX6_count_117 : decode cX6_count 117 = .ok (.getfield 12, 3) := by decide +kernel
theorem dX6_count_120 : decode cX6_count 120 = .ok (.invokevirtual 122, 3) := by decide +kernel
theorem dX6_count_123 : decode cX6_count 123 = .ok (.ireturn, 1) := by decide +kernel
theorem dX6_count_124 : decode cX6_count 124 = .ok (.aload_n 0, 1) := by decide +kernel
theorem dX6_count_125 : decode cX6_count 125 = .ok (.getfield 12, 3) := by decide +kernel
theorem dX6_count_128 : decode cX6_count 128 = .ok (.getfield 125, 3) := by decide +kernel
theorem dX6_count_131 : decode cX6_count 131 = .ok (.ireturn, 1) := by decide +kernel
theorem dX6_count_132 : decode cX6_count 132 = .ok (.aload_n 0, 1) := by decide +kernel
theorem dX6_count_133 : decode cX6_count 133 = .ok (.getfield 12, 3) := by decide +kernel
theorem dX6_count_136 : decode cX6_count 136 = .ok (.getfield 128, 3) := by decide +kernel
theorem dX6_count_139 : decode cX6_count 139 = .ok (.ireturn, 1) := by decide +kernel
theorem dX6_count_140 : decode cX6_count 140 = .ok (.aload_n 0, 1) := by decide +kernel
theorem dX6_count_141 : decode cX6_count 141 = .ok (.getfield 12, 3) := by decide +kernel
theorem dX6_count_144 : decode cX6_count 144 = .ok (.invokevirtual 131, 3) := by decide +kernel
theorem dX6_count_147 : decode cX6_count 147 = .ok (.ireturn, 1) := by decide +kernel
theorem dX6_count_148 : decode cX6_count 148 = .ok (.new 134, 3) := by decide +kernel
theorem dX6_count_151 : decode cX6_count 151 = .ok (.dup, 1) := by decide +kernel
theorem dX6_count_152 : decode cX6_count 152 = .ok (.ldc 136, 2) := by decide +kernel
theorem dX6_count_154 : decode cX6_count 154 = .ok (.invokespecial 138, 3) := by decide +kernel
theorem dX6_count_157 : decode cX6_count 157 = .ok (.athrow, 1) := by decide +kernel
theorem eX6_count {W : zWd} {a : Int → Int} {T : Int} {w : Int} {Q : Option Value → zWd → Prop} {X : zX} (hR : zCR W 0 a) (hw : zWf T a) (hz : zR w) (hq : 0 ≤ w → w ≤ 10 → Q (some (zI (vCount a w))) W) (hx : ¬ (0 ≤ w ∧ w ≤ 10) → X "java/lang/IllegalArgumentException" W) : Ev MX6_count 7 1 W [.ref 96, zI w] Q X := by
  refine ev_of (ls := [.ref 96, zI w]) (by decide) rfl (fun _ => rfl) (fun _ => Nat.le_of_ble_eq_true rfl) (Or.inr (by decide)) ?_
  obtain ⟨r0, r1, r2, r3, r4, r5, r6, r7, rF, rS, rP, rB⟩ := id hR
  obtain ⟨w0, w0', wW, w1, w2, w2', w3, w3', w4, w4', w5, w5', w6, w6', w7, w7', wS, wP, wT⟩ := id hw
  have wq := zWf.sq hw
  refine rr_iload_n (pc := 0) dX6_count_0 rfl ?_
  by_cases hsw : 0 ≤ w ∧ w ≤ 10
  · have hsv : w = 0 ∨ w = 1 ∨ w = 2 ∨ w = 3 ∨ w = 4 ∨ w = 5 ∨ w = 6 ∨ w = 7 ∨ w = 8 ∨ w = 9 ∨ w = 10 := by omega
    rcases hsv with rfl | rfl | rfl | rfl | rfl | rfl | rfl | rfl | rfl | rfl | rfl
    · refine rr_tabI (pc := 1) (tgt := 60) dX6_count_1 (by unfold zR; omega) (by decide) (by decide) rfl (by decide) ?_
      refine rr_aload_n (pc := 60) dX6_count_60 rfl ?_
      refine rr_getR (pc := 61) dX6_count_61 fX6_12 zk_96 zr_96_0 ?_
      refine rr_getI (pc := 64) (ji := 0) dX6_count_64 fX6_103 zCt_0.k zCt_0.i0 rfl ?_
      exact rr_reti (pc := 67) dX6_count_67 rfl rfl r0 rfl (hq (by omega) (by omega))
    · refine rr_tabI (pc := 1) (tgt := 68) dX6_count_1 (by unfold zR; omega) (by decide) (by decide) rfl (by decide) ?_
      refine rr_aload_n (pc := 68) dX6_count_68 rfl ?_
      refine rr_getR (pc := 69) dX6_count_69 fX6_12 zk_96 zr_96_0 ?_
      refine rr_getI (pc := 72) (ji := 1) dX6_count_72 fX6_97 zCt_0.k zCt_0.i1 rfl ?_
      exact rr_reti (pc := 75) dX6_count_75 rfl rfl r1 rfl (hq (by omega) (by omega))
    · refine rr_tabI (pc := 1) (tgt := 76) dX6_count_1 (by unfold zR; omega) (by decide) (by decide) rfl (by decide) ?_
      refine rr_aload_n (pc := 76) dX6_count_76 rfl ?_
      refine rr_getR (pc := 77) dX6_count_77 fX6_12 zk_96 zr_96_0 ?_
      refine rr_getI (pc := 80) (ji := 2) dX6_count_80 fX6_106 zCt_0.k zCt_0.i2 rfl ?_
      exact rr_reti (pc := 83) dX6_count_83 rfl rfl r2 rfl (hq (by omega) (by omega))
    · refine rr_tabI (pc := 1) (tgt := 84) dX6_count_1 (by unfold zR; omega) (by decide) (by decide) rfl (by decide) ?_
      refine rr_aload_n (pc := 84) dX6_count_84 rfl ?_
      refine rr_getR (pc := 85) dX6_count_85 fX6_12 zk_96 zr_96_0 ?_
      refine rr_getI (pc := 88) (ji := 3) dX6_count_88 fX6_109 zCt_0.k zCt_0.i3 rfl ?_
      exact rr_reti (pc := 91) dX6_count_91 rfl rfl r3 rfl (hq (by omega) (by omega))
    · refine rr_tabI (pc := 1) (tgt := 92) dX6_count_1 (by unfold zR; omega) (by decide) (by decide) rfl (by decide) ?_
      refine rr_aload_n (pc := 92) dX6_count_92 rfl ?_
      refine rr_getR (pc := 93) dX6_count_93 fX6_12 zk_96 zr_96_0 ?_
      refine rr_getI (pc := 96) (ji := 4) dX6_count_96 fX6_112 zCt_0.k zCt_0.i4 rfl ?_
      exact rr_reti (pc := 99) dX6_count_99 rfl rfl r4 rfl (hq (by omega) (by omega))
    · refine rr_tabI (pc := 1) (tgt := 100) dX6_count_1 (by unfold zR; omega) (by decide) (by decide) rfl (by decide) ?_
      refine rr_aload_n (pc := 100) dX6_count_100 rfl ?_
      refine rr_getR (pc := 101) dX6_count_101 fX6_12 zk_96 zr_96_0 ?_
      refine rr_getI (pc := 104) (ji := 5) dX6_count_104 fX6_115 zCt_0.k zCt_0.i5 rfl ?_
      exact rr_reti (pc := 107) dX6_count_107 rfl rfl r5 rfl (hq (by omega) (by omega))
    · refine rr_tabI (pc := 1) (tgt := 108) dX6_count_1 (by unfold zR; omega) (by decide) (by decide) rfl (by decide) ?_
      refine rr_aload_n (pc := 108) dX6_count_108 rfl ?_
      refine rr_getR (pc := 109) dX6_count_109 fX6_12 zk_96 zr_96_0 ?_
      refine rr_invN (M' := MX0_ownedSquares) (k := 0) (As := []) (pc := 112) dX6_count_112 lX6_118 kX0_ownedSquares vX0_ownedSquares zCt_0.k (by decide) rfl (by decide) (by decide) (Nat.le_of_ble_eq_true rfl) rfl (eX0_ownedSquares zCt_0 hR hw ?_)
      exact rr_reti (pc := 115) dX6_count_115 rfl rfl rfl rfl (hq (by omega) (by omega))
    · refine rr_tabI (pc := 1) (tgt := 116) dX6_count_1 (by unfold zR; omega) (by decide) (by decide) rfl (by decide) ?_
      refine rr_aload_n (pc := 116) dX6_count_116 rfl ?_
      refine rr_getR (pc := 117) dX6_count_117 fX6_12 zk_96 zr_96_0 ?_
      refine rr_invN (M' := MX0_lyingMarkers) (k := 0) (As := []) (pc := 120) dX6_count_120 lX6_122 kX0_lyingMarkers vX0_lyingMarkers zCt_0.k (by decide) rfl (by decide) (by decide) (Nat.le_of_ble_eq_true rfl) rfl (eX0_lyingMarkers zCt_0 hR hw ?_)
      exact rr_reti (pc := 123) dX6_count_123 rfl rfl rfl rfl (hq (by omega) (by omega))
    · refine rr_tabI (pc := 1) (tgt := 124) dX6_count_1 (by unfold zR; omega) (by decide) (by decide) rfl (by decide) ?_
      refine rr_aload_n (pc := 124) dX6_count_124 rfl ?_
      refine rr_getR (pc := 125) dX6_count_125 fX6_12 zk_96 zr_96_0 ?_
      refine rr_getI (pc := 128) (ji := 6) dX6_count_128 fX6_125 zCt_0.k zCt_0.i6 rfl ?_
      exact rr_reti (pc := 131) dX6_count_131 rfl rfl r6 rfl (hq (by omega) (by omega))
    · refine rr_tabI (pc := 1) (tgt := 132) dX6_count_1 (by unfold zR; omega) (by decide) (by decide) rfl (by decide) ?_
      refine rr_aload_n (pc := 132) dX6_count_132 rfl ?_
      refine rr_getR (pc := 133) dX6_count_133 fX6_12 zk_96 zr_96_0 ?_
      refine rr_getI (pc := 136) (ji := 7) dX6_count_136 fX6_128 zCt_0.k zCt_0.i7 rfl ?_
      exact rr_reti (pc := 139) dX6_count_139 rfl rfl r7 rfl (hq (by omega) (by omega))
    · refine rr_tabI (pc := 1) (tgt := 140) dX6_count_1 (by unfold zR; omega) (by decide) (by decide) rfl (by decide) ?_
      refine rr_aload_n (pc := 140) dX6_count_140 rfl ?_
      refine rr_getR (pc := 141) dX6_count_141 fX6_12 zk_96 zr_96_0 ?_
      refine rr_invN (M' := MX0_richest) (k := 0) (As := []) (pc := 144) dX6_count_144 lX6_131 kX0_richest vX0_richest zCt_0.k (by decide) rfl (by decide) (by decide) (Nat.le_of_ble_eq_true rfl) rfl (eX0_richest zCt_0 hR hw ?_)
      exact rr_reti (pc := 147) dX6_count_147 rfl rfl rfl rfl (hq (by omega) (by omega))
  · refine rr_tabO (pc := 1) (tgt := 148) dX6_count_1 hz (by omega) (by decide) ?_
    exact rr_thr (by decide) tX6_count_148 (hx hsw)
def vPl (a : Int → Int) (p w : Int) : Int := if w = 6 then (zSet (fun s => decide (aO a s = p)) (a 1).toNat : Nat) else if w = 5 then (if aP a p 5 = 0 then -1 else aP a p 5) else if w < 5 then aP a p w else aP a p (w - 1)
theorem vPl_at {W : zWd} {c : Nat} {a : Int → Int} {p w : Int} (h : zCRP W c a p) (h0 : 0 ≤ w) (h9 : w < 10) (h6 : w ≠ 6) : W (c + 5) (p * 10 + w) = vPl a p w := by
  obtain ⟨h1, h2, h3, h4, h5, h6', h7, h8, h9', -⟩ := h
  unfold vPl
  rw [if_neg h6]
  have hw : w = 0 ∨ w = 1 ∨ w = 2 ∨ w = 3 ∨ w = 4 ∨ w = 5 ∨ w = 7 ∨ w = 8 ∨ w = 9 := by omega
  rcases hw with rfl | rfl | rfl | rfl | rfl | rfl | rfl | rfl | rfl
  · exact h1
  · exact h2
  · exact h3
  · exact h4
  · exact h5
  · exact h6'
  · exact h7
  · exact h8
  · exact h9'
theorem dX6_player_0 : decode cX6_player 0 = .ok (.aload_n 0, 1) := by decide +kernel
theorem dX6_player_1 : decode cX6_player 1 = .ok (.iload_n 1, 1) := by decide +kernel
theorem dX6_player_2 : decode cX6_player 2 = .ok (.invokevirtual 139, 3) := by decide +kernel
theorem dX6_player_5 : decode cX6_player 5 = .ok (.iload_n 2, 1) := by decide +kernel
theorem dX6_player_6 : decode cX6_player 6 = .ok (.ifCond .lt 9, 3) := by decide +kernel
theorem dX6_player_9 : decode cX6_player 9 = .ok (.iload_n 2, 1) := by decide +kernel
theorem dX6_player_10 : decode cX6_player 10 = .ok (.bipush 10, 2) := by decide +kernel
theorem dX6_player_12 : decode cX6_player 12 = .ok (.if_icmp .lt 13, 3) := by decide +kernel
theorem dX6_player_15 : decode cX6_player 15 = .ok (.new 134, 3) := by decide +kernel
theorem dX6_player_18 : decode cX6_player 18 = .ok (.dup, 1) := by decide +kernel
theorem dX6_player_19 : decode cX6_player 19 = .ok (.ldc 142, 2) := by decide +kernel
theorem dX6_player_21 : decode cX6_player 21 = .ok (.invokespecial 138, 3) := by decide +kernel
theorem dX6_player_24 : decode cX6_player 24 = .ok (.athrow, 1) := by decide +kernel
theorem dX6_player_25 : decode cX6_player 25 = .ok (.iload_n 2, 1) := by decide +kernel
theorem dX6_player_26 : decode cX6_player 26 = .ok (.bipush 6, 2) := by decide +kernel
theorem dX6_player_28 : decode cX6_player 28 = .ok (.if_icmp .ne 14, 3) := by decide +kernel
theorem dX6_player_31 : decode cX6_player 31 = .ok (.aload_n 0, 1) := by decide +kernel
theorem dX6_player_32 : decode cX6_player 32 = .ok (.getfield 12, 3) := by decide +kernel
theorem dX6_player_35 : decode cX6_player 35 = .ok (.iload_n 1, 1) := by decide +kernel
theorem dX6_player_36 : decode cX6_player 36 = .ok (.invokevirtual 144, 3) := by decide +kernel
theorem dX6_player_39 : decode cX6_player 39 = .ok (.goto 12, 3) := by decide +kernel
theorem dX6_player_42 : decode cX6_player 42 = .ok (.aload_n 0, 1) := by decide +kernel
theorem dX6_player_43 : decode cX6_player 43 = .ok (.getfield 12, 3) := by decide +kernel
theorem dX6_player_46 : decode cX6_player 46 = .ok (.iload_n 1, 1) := by decide +kernel
theorem dX6_player_47 : decode cX6_player 47 = .ok (.iload_n 2, 1) := by decide +kernel
theorem dX6_player_48 : decode cX6_player 48 = .ok (.invokevirtual 147, 3) := by decide +kernel
theorem dX6_player_51 : decode cX6_player 51 = .ok (.ireturn, 1) := by decide +kernel
theorem eX6_player {W : zWd} {a : Int → Int} {T : Int} {p w : Int} {Q : Option Value → zWd → Prop} {X : zX} (hR : zCR W 0 a) (hw : zWf T a) (hz : zR p) (hz2 : zR w) (hq : 0 ≤ p → p < a 2 → 0 ≤ w → w < 10 → Q (some (zI (vPl a p w))) W) (hx : ¬ (0 ≤ p ∧ p < a 2) → X "java/lang/IndexOutOfBoundsException" W) (hx2 : 0 ≤ p → p < a 2 → ¬ (0 ≤ w ∧ w < 10) → X "java/lang/IllegalArgumentException" W) : Ev MX6_player 8 2 W [.ref 96, zI p, zI w] Q X := by
  refine ev_of (ls := [.ref 96, zI p, zI w]) (by decide) rfl (fun _ => rfl) (fun _ => Nat.le_of_ble_eq_true rfl) (Or.inr (by decide)) ?_
  obtain ⟨r0, r1, r2, r3, r4, r5, r6, r7, rF, rS, rP, rB⟩ := id hR
  obtain ⟨w0, w0', wW, w1, w2, w2', w3, w3', w4, w4', w5, w5', w6, w6', w7, w7', wS, wP, wT⟩ := id hw
  have wq := zWf.sq hw
  have hn0 : zR (W 0 0) := by unfold zR; omega
  have hn1 : zR (W 0 1) := by unfold zR; omega
  have hn2 : zR (W 0 2) := by unfold zR; omega
  refine rr_aload_n (pc := 0) dX6_player_0 rfl ?_
  refine rr_iload_n (pc := 1) dX6_player_1 rfl ?_
  refine rr_inv (M' := MX6_checkPlayer) (k := 96) (As := [_]) (t' := 1) (pc := 2) dX6_player_2 lX6_139 kX6_checkPlayer vX6_checkPlayer zk_96 (by decide) rfl (by decide) (by decide) (by decide) (Nat.le_of_ble_eq_true rfl) rfl (eX6_checkPlayer hz hn2 (fun k0 k1 => ?_) (fun k => hx (by omega)))
  rw [r2] at k1
  refine rr_iload_n (pc := 5) dX6_player_5 rfl ?_
  refine rr_if_lt (pc := 6) (tgt := 15) dX6_player_6 (by decide) hz2 (fun h6 => ?_) (fun h6 => ?_)
  · exact rr_thr (by decide) tX6_player_15 (hx2 k0 k1 (by omega))
  · refine rr_iload_n (pc := 9) dX6_player_9 rfl ?_
    refine rr_bipush (n := (10)) dX6_player_10 ?_
    refine rr_icmp_lt (pc := 12) (tgt := 25) dX6_player_12 (by decide) hz2 (by unfold zR; omega) (fun h12 => ?_) (fun h12 => ?_)
    · refine rr_iload_n (pc := 25) dX6_player_25 rfl ?_
      refine rr_bipush (n := (6)) dX6_player_26 ?_
      refine rr_icmp_ne (pc := 28) (tgt := 42) dX6_player_28 (by decide) hz2 (by unfold zR; omega) (fun h28 => ?_) (fun h28 => ?_)
      · refine rr_aload_n (pc := 42) dX6_player_42 rfl ?_
        refine rr_getR (pc := 43) dX6_player_43 fX6_12 zk_96 zr_96_0 ?_
        refine rr_iload_n (pc := 46) dX6_player_46 rfl ?_
        refine rr_iload_n (pc := 47) dX6_player_47 rfl ?_
        refine rr_invN (M' := MX0_get) (k := 0) (As := [_, _]) (pc := 48) dX6_player_48 lX6_147 kX0_get vX0_get zCt_0.k (by decide) rfl (by decide) (by decide) (Nat.le_of_ble_eq_true rfl) rfl (eX0_get zCt_0 (by omega) (by omega) (by omega) (by omega) ?_)
        exact rr_reti (pc := 51) dX6_player_51 rfl rfl (vPl_at (rP p k0 k1) (by omega) (by omega) (by omega)) rfl (hq k0 k1 (by omega) (by omega))
      · refine rr_aload_n (pc := 31) dX6_player_31 rfl ?_
        refine rr_getR (pc := 32) dX6_player_32 fX6_12 zk_96 zr_96_0 ?_
        refine rr_iload_n (pc := 35) dX6_player_35 rfl ?_
        refine rr_invN (M' := MX0_squaresOf) (k := 0) (As := [_]) (pc := 36) dX6_player_36 lX6_144 kX0_squaresOf vX0_squaresOf zCt_0.k (by decide) rfl (by decide) (by decide) (Nat.le_of_ble_eq_true rfl) rfl (eX0_squaresOf zCt_0 hR hw hz ?_)
        refine rr_goto (pc := 39) (tgt := 51) dX6_player_39 (by decide) ?_
        exact rr_reti (pc := 51) dX6_player_51 rfl rfl (by unfold vPl; rw [if_pos (by omega)]) rfl (hq k0 k1 (by omega) (by omega))
    · exact rr_thr (by decide) tX6_player_15 (hx2 k0 k1 (by omega))
def vSq (a : Int → Int) (s w : Int) : Int := if w = 0 then (aR a s : Nat) else if w = 1 then aSd a s else if w = 2 then aO a s else if w = 3 then (zSet0 (fun q : Nat => decide (aP a q 5 = s)) (a 2).toNat : Nat) else aL a s
theorem dX6_square_0 : decode cX6_square 0 = .ok (.aload_n 0, 1) := by decide +kernel
theorem dX6_square_1 : decode cX6_square 1 = .ok (.iload_n 1, 1) := by decide +kernel
theorem dX6_square_2 : decode cX6_square 2 = .ok (.invokevirtual 151, 3) := by decide +kernel
theorem dX6_square_5 : decode cX6_square 5 = .ok (.iload_n 2, 1) := by decide +kernel
theorem dX6_square_6 : decode cX6_square 6 = .ok (.tableswitch 82 0 4 #[34, 44, 53, 63, 72], 34) := by decide +kernel
theorem dX6_square_40 : decode cX6_square 40 = .ok (.aload_n 0, 1) := by decide +kernel
theorem dX6_square_41 : decode cX6_square 41 = .ok (.getfield 12, 3) := by decide +kernel
theorem dX6_square_44 : decode cX6_square 44 = .ok (.getfield 154, 3) := by decide +kernel
theorem dX6_square_47 : decode cX6_square 47 = .ok (.iload_n 1, 1) := by decide +kernel
theorem dX6_square_48 : decode cX6_square 48 = .ok (.iaload, 1) := by decide +kernel
theorem dX6_square_49 : decode cX6_square 49 = .ok (.ireturn, 1) := by decide +kernel
theorem dX6_square_50 : decode cX6_square 50 = .ok (.aload_n 0, 1) := by decide +kernel
theorem dX6_square_51 : decode cX6_square 51 = .ok (.getfield 12, 3) := by decide +kernel
theorem dX6_square_54 : decode cX6_square 54 = .ok (.iload_n 1, 1) := by decide +kernel
theorem dX6_square_55 : decode cX6_square 55 = .ok (.invokevirtual 158, 3) := by decide +kernel
theorem dX6_square_58 : decode cX6_square 58 = .ok (.ireturn, 1) := by decide +kernel
theorem dX6_square_59 : decode cX6_square 59 = .ok (.aload_n 0, 1) := by decide +kernel
theorem dX6_square_60 : decode cX6_square 60 = .ok (.getfield 12, 3) := by decide +kernel
theorem dX6_square_63 : decode cX6_square 63 = .ok (.getfield 161, 3) := by decide +kernel
theorem dX6_square_66 : decode cX6_square 66 = .ok (.iload_n 1, 1) := by decide +kernel
theorem dX6_square_67 : decode cX6_square 67 = .ok (.iaload, 1) := by decide +kernel
theorem dX6_square_68 : decode cX6_square 68 = .ok (.ireturn, 1) := by decide +kernel
theorem dX6_square_69 : decode cX6_square 69 = .ok (.aload_n 0, 1) := by decide +kernel
theorem dX6_square_70 : decode cX6_square 70 = .ok (.getfield 12, 3) := by decide +kernel
theorem dX6_square_73 : decode cX6_square 73 = .ok (.iload_n 1, 1) := by decide +kernel
theorem dX6_square_74 : decode cX6_square 74 = .ok (.invokevirtual 164, 3) := by decide +kernel
theorem dX6_square_77 : decode cX6_square 77 = .ok (.ireturn, 1) := by decide +kernel
theorem dX6_square_78 : decode cX6_square 78 = .ok (.aload_n 0, 1) := by decide +kernel
theorem dX6_square_79 : decode cX6_square 79 = .ok (.getfield 12, 3) := by decide +kernel
theorem dX6_square_82 : decode cX6_square 82 = .ok (.getfield 167, 3) := by decide +kernel
theorem dX6_square_85 : decode cX6_square 85 = .ok (.iload_n 1, 1) := by decide +kernel
theorem dX6_square_86 : decode cX6_square 86 = .ok (.iaload, 1) := by decide +kernel
theorem dX6_square_87 : decode cX6_square 87 = .ok (.ireturn, 1) := by decide +kernel
theorem dX6_square_88 : decode cX6_square 88 = .ok (.new 134, 3) := by decide +kernel
theorem dX6_square_91 : decode cX6_square 91 = .ok (.dup, 1) := by decide +kernel
theorem dX6_square_92 : decode cX6_square 92 = .ok (.ldc 170, 2) := by decide +kernel
theorem dX6_square_94 : decode cX6_square 94 = .ok (.invokespecial 138, 3) := by decide +kernel
theorem dX6_square_97 : decode cX6_square 97 = .ok (.athrow, 1) := by decide +kernel
theorem eX6_square {W : zWd} {a : Int → Int} {T : Int} {s w : Int} {Q : Option Value → zWd → Prop} {X : zX} (hR : zCR W 0 a) (hw : zWf T a) (hz : zR s) (hz2 : zR w) (hq : 1 ≤ s → s ≤ a 1 → 0 ≤ w → w ≤ 4 → Q (some (zI (vSq a s w))) W) (hx : ¬ (1 ≤ s ∧ s ≤ a 1) → X "java/lang/IndexOutOfBoundsException" W) (hx2 : 1 ≤ s → s ≤ a 1 → ¬ (0 ≤ w ∧ w ≤ 4) → X "java/lang/IllegalArgumentException" W) : Ev MX6_square 8 2 W [.ref 96, zI s, zI w] Q X := by
  refine ev_of (ls := [.ref 96, zI s, zI w]) (by decide) rfl (fun _ => rfl) (fun _ => Nat.le_of_ble_eq_true rfl) (Or.inr (by decide)) ?_
  obtain ⟨r0, r1, r2, r3, r4, r5, r6, r7, rF, rS, rP, rB⟩ := id hR
  obtain ⟨w0, w0', wW, w1, w2, w2', w3, w3', w4, w4', w5, w5', w6, w6', w7, w7', wS, wP, wT⟩ := id hw
  have wq := zWf.sq hw
  have hn0 : zR (W 0 0) := by unfold zR; omega
  have hn1 : zR (W 0 1) := by unfold zR; omega
  have hn2 : zR (W 0 2) := by unfold zR; omega
  refine rr_aload_n (pc := 0) dX6_square_0 rfl ?_
  refine rr_iload_n (pc := 1) dX6_square_1 rfl ?_
  refine rr_inv (M' := MX6_checkSquare) (k := 96) (As := [_]) (t' := 1) (pc := 2) dX6_square_2 lX6_151 kX6_checkSquare vX6_checkSquare zk_96 (by decide) rfl (by decide) (by decide) (by decide) (Nat.le_of_ble_eq_true rfl) rfl (eX6_checkSquare hz hn1 (fun k0 k1 => ?_) (fun k => hx (by omega)))
  rw [r1] at k1
  obtain ⟨s1, s2, s3⟩ := rS s k0 (by omega) k1
  refine rr_iload_n (pc := 5) dX6_square_5 rfl ?_
  by_cases hsw : 0 ≤ w ∧ w ≤ 4
  · have hsv : w = 0 ∨ w = 1 ∨ w = 2 ∨ w = 3 ∨ w = 4 := by omega
    rcases hsv with rfl | rfl | rfl | rfl | rfl
    · refine rr_tabI (pc := 6) (tgt := 40) dX6_square_6 (by unfold zR; omega) (by decide) (by decide) rfl (by decide) ?_
      refine rr_aload_n (pc := 40) dX6_square_40 rfl ?_
      refine rr_getR (pc := 41) dX6_square_41 fX6_12 zk_96 zr_96_0 ?_
      refine rr_getR (pc := 44) dX6_square_44 fX6_154 zCt_0.k zCt_0.r9 ?_
      refine rr_iload_n (pc := 47) dX6_square_47 rfl ?_
      refine rr_iald (pc := 48) dX6_square_48 zCt_0.a2 (by omega) (by omega) ?_
      exact rr_reti (pc := 49) dX6_square_49 rfl rfl s1 rfl (hq k0 k1 (by omega) (by omega))
    · refine rr_tabI (pc := 6) (tgt := 50) dX6_square_6 (by unfold zR; omega) (by decide) (by decide) rfl (by decide) ?_
      refine rr_aload_n (pc := 50) dX6_square_50 rfl ?_
      refine rr_getR (pc := 51) dX6_square_51 fX6_12 zk_96 zr_96_0 ?_
      refine rr_iload_n (pc := 54) dX6_square_54 rfl ?_
      refine rr_invN (M' := MX0_sideOf) (k := 0) (As := [_]) (pc := 55) dX6_square_55 lX6_158 kX0_sideOf vX0_sideOf zCt_0.k (by decide) rfl (by decide) (by decide) (Nat.le_of_ble_eq_true rfl) rfl (eX0_sideOf zCt_0 hR hw k0 k1 ?_)
      exact rr_reti (pc := 58) dX6_square_58 rfl rfl rfl rfl (hq k0 k1 (by omega) (by omega))
    · refine rr_tabI (pc := 6) (tgt := 59) dX6_square_6 (by unfold zR; omega) (by decide) (by decide) rfl (by decide) ?_
      refine rr_aload_n (pc := 59) dX6_square_59 rfl ?_
      refine rr_getR (pc := 60) dX6_square_60 fX6_12 zk_96 zr_96_0 ?_
      refine rr_getR (pc := 63) dX6_square_63 fX6_161 zCt_0.k zCt_0.r10 ?_
      refine rr_iload_n (pc := 66) dX6_square_66 rfl ?_
      refine rr_iald (pc := 67) dX6_square_67 zCt_0.a3 (by omega) (by omega) ?_
      exact rr_reti (pc := 68) dX6_square_68 rfl rfl s2 rfl (hq k0 k1 (by omega) (by omega))
    · refine rr_tabI (pc := 6) (tgt := 69) dX6_square_6 (by unfold zR; omega) (by decide) (by decide) rfl (by decide) ?_
      refine rr_aload_n (pc := 69) dX6_square_69 rfl ?_
      refine rr_getR (pc := 70) dX6_square_70 fX6_12 zk_96 zr_96_0 ?_
      refine rr_iload_n (pc := 73) dX6_square_73 rfl ?_
      refine rr_invN (M' := MX0_markersOn) (k := 0) (As := [_]) (pc := 74) dX6_square_74 lX6_164 kX0_markersOn vX0_markersOn zCt_0.k (by decide) rfl (by decide) (by decide) (Nat.le_of_ble_eq_true rfl) rfl (eX0_markersOn zCt_0 hR hw k0 k1 ?_)
      exact rr_reti (pc := 77) dX6_square_77 rfl rfl rfl rfl (hq k0 k1 (by omega) (by omega))
    · refine rr_tabI (pc := 6) (tgt := 78) dX6_square_6 (by unfold zR; omega) (by decide) (by decide) rfl (by decide) ?_
      refine rr_aload_n (pc := 78) dX6_square_78 rfl ?_
      refine rr_getR (pc := 79) dX6_square_79 fX6_12 zk_96 zr_96_0 ?_
      refine rr_getR (pc := 82) dX6_square_82 fX6_167 zCt_0.k zCt_0.r11 ?_
      refine rr_iload_n (pc := 85) dX6_square_85 rfl ?_
      refine rr_iald (pc := 86) dX6_square_86 zCt_0.a4 (by omega) (by omega) ?_
      exact rr_reti (pc := 87) dX6_square_87 rfl rfl s3 rfl (hq k0 k1 (by omega) (by omega))
  · refine rr_tabO (pc := 6) (tgt := 88) dX6_square_6 hz2 (by omega) (by decide) ?_
    exact rr_thr (by decide) tX6_square_88 (hx2 k0 k1 hsw)
def vRow (a : Int → Int) (r : Int) : Int := aF a r.toNat + (if a (8 + r) = 2 then 100 else 0)
theorem dX6_row_0 : decode cX6_row 0 = .ok (.aload_n 0, 1) := by decide +kernel
theorem dX6_row_1 : decode cX6_row 1 = .ok (.iload_n 1, 1) := by decide +kernel
theorem dX6_row_2 : decode cX6_row 2 = .ok (.invokevirtual 172, 3) := by decide +kernel
theorem dX6_row_5 : decode cX6_row 5 = .ok (.aload_n 0, 1) := by decide +kernel
theorem dX6_row_6 : decode cX6_row 6 = .ok (.getfield 12, 3) := by decide +kernel
theorem dX6_row_9 : decode cX6_row 9 = .ok (.getfield 175, 3) := by decide +kernel
theorem dX6_row_12 : decode cX6_row 12 = .ok (.iload_n 1, 1) := by decide +kernel
theorem dX6_row_13 : decode cX6_row 13 = .ok (.iaload, 1) := by decide +kernel
theorem dX6_row_14 : decode cX6_row 14 = .ok (.aload_n 0, 1) := by decide +kernel
theorem dX6_row_15 : decode cX6_row 15 = .ok (.getfield 12, 3) := by decide +kernel
theorem dX6_row_18 : decode cX6_row 18 = .ok (.iload_n 1, 1) := by decide +kernel
theorem dX6_row_19 : decode cX6_row 19 = .ok (.invokevirtual 178, 3) := by decide +kernel
theorem dX6_row_22 : decode cX6_row 22 = .ok (.iconst 2, 1) := by decide +kernel
theorem dX6_row_23 : decode cX6_row 23 = .ok (.if_icmp .ne 8, 3) := by decide +kernel
theorem dX6_row_26 : decode cX6_row 26 = .ok (.bipush 100, 2) := by decide +kernel
theorem dX6_row_28 : decode cX6_row 28 = .ok (.goto 4, 3) := by decide +kernel
theorem dX6_row_31 : decode cX6_row 31 = .ok (.iconst 0, 1) := by decide +kernel
theorem dX6_row_32 : decode cX6_row 32 = .ok (.iadd, 1) := by decide +kernel
theorem dX6_row_33 : decode cX6_row 33 = .ok (.ireturn, 1) := by decide +kernel
theorem eX6_row {W : zWd} {a : Int → Int} {T : Int} {r : Int} {Q : Option Value → zWd → Prop} {X : zX} (hR : zCR W 0 a) (hw : zWf T a) (hz : zR r) (hq : 0 ≤ r → r < a 0 → Q (some (zI (vRow a r))) W) (hx : ¬ (0 ≤ r ∧ r < a 0) → X "java/lang/IndexOutOfBoundsException" W) : Ev MX6_row 8 1 W [.ref 96, zI r] Q X := by
  refine ev_of (ls := [.ref 96, zI r]) (by decide) rfl (fun _ => rfl) (fun _ => Nat.le_of_ble_eq_true rfl) (Or.inr (by decide)) ?_
  obtain ⟨r0, r1, r2, r3, r4, r5, r6, r7, rF, rS, rP, rB⟩ := id hR
  obtain ⟨w0, w0', wW, w1, w2, w2', w3, w3', w4, w4', w5, w5', w6, w6', w7, w7', wS, wP, wT⟩ := id hw
  have wq := zWf.sq hw
  have hn0 : zR (W 0 0) := by unfold zR; omega
  have hn1 : zR (W 0 1) := by unfold zR; omega
  have hn2 : zR (W 0 2) := by unfold zR; omega
  refine rr_aload_n (pc := 0) dX6_row_0 rfl ?_
  refine rr_iload_n (pc := 1) dX6_row_1 rfl ?_
  refine rr_inv (M' := MX6_checkRow) (k := 96) (As := [_]) (t' := 1) (pc := 2) dX6_row_2 lX6_172 kX6_checkRow vX6_checkRow zk_96 (by decide) rfl (by decide) (by decide) (by decide) (Nat.le_of_ble_eq_true rfl) rfl (eX6_checkRow hz hn0 (fun k0 k1 => ?_) (fun k => hx (by omega)))
  rw [r0] at k1
  have g0 : W (0 + 1) r = aF a r.toNat := by
    have h9 := rF r.toNat (by omega) (by omega)
    rw [show ((r.toNat : Nat) : Int) = r by omega] at h9; exact h9
  have g1 : W (0 + 1) (r + 1) = aF a (r.toNat + 1) := by
    have h9 := rF (r.toNat + 1) (by omega) (by omega)
    rw [show ((r.toNat + 1 : Nat) : Int) = r + 1 by omega] at h9; exact h9
  have hst := aF_step (a := a) r.toNat
  rw [show ((r.toNat : Nat) : Int) = r by omega] at hst
  have hww := wW r k0 k1
  refine rr_aload_n (pc := 5) dX6_row_5 rfl ?_
  refine rr_getR (pc := 6) dX6_row_6 fX6_12 zk_96 zr_96_0 ?_
  refine rr_getR (pc := 9) dX6_row_9 fX6_175 zCt_0.k zCt_0.r8 ?_
  refine rr_iload_n (pc := 12) dX6_row_12 rfl ?_
  refine rr_iald (pc := 13) dX6_row_13 zCt_0.a1 (by omega) (by omega) ?_
  rw [g0]
  refine rr_aload_n (pc := 14) dX6_row_14 rfl ?_
  refine rr_getR (pc := 15) dX6_row_15 fX6_12 zk_96 zr_96_0 ?_
  refine rr_iload_n (pc := 18) dX6_row_18 rfl ?_
  refine rr_invN (M' := MX0_widthOf) (k := 0) (As := [_]) (pc := 19) dX6_row_19 lX6_178 kX0_widthOf vX0_widthOf zCt_0.k (by decide) rfl (by decide) (by decide) (Nat.le_of_ble_eq_true rfl) rfl (eX0_widthOf zCt_0 k0 (by omega) ?_)
  rw [g0, g1, show aF a (r.toNat + 1) - aF a r.toNat = a (8 + r) by omega]
  refine rr_iconst (n := 2) dX6_row_22 ?_
  refine rr_icmp_ne (pc := 23) (tgt := 31) dX6_row_23 (by decide) (by unfold zR; omega) (by unfold zR; omega) (fun h23 => ?_) (fun h23 => ?_)
  · refine rr_iconst (n := 0) dX6_row_31 ?_
    refine rr_iadd (pc := 32) dX6_row_32 ?_
    exact rr_reti (pc := 33) dX6_row_33 rfl rfl (by unfold vRow; rw [if_neg h23]) rfl (hq k0 k1)
  · refine rr_bipush (n := (100)) dX6_row_26 ?_
    refine rr_goto (pc := 28) (tgt := 32) dX6_row_28 (by decide) ?_
    refine rr_iadd (pc := 32) dX6_row_32 ?_
    exact rr_reti (pc := 33) dX6_row_33 rfl rfl (by unfold vRow; rw [if_pos h23]) rfl (hq k0 k1)
def vFt (a : Int → Int) (p r : Int) : Int := zFo (aF a r.toNat).toNat (a (8 + r)) (fun i => (aUset a p (zMks a (-1) (a 2).toNat)).testBit i) (fun i => (zSet (fun s => decide (aO a s = p)) (a 1).toNat).testBit i)
theorem dX6_footing_0 : decode cX6_footing 0 = .ok (.aload_n 0, 1) := by decide +kernel
theorem dX6_footing_1 : decode cX6_footing 1 = .ok (.iload_n 1, 1) := by decide +kernel
theorem dX6_footing_2 : decode cX6_footing 2 = .ok (.invokevirtual 139, 3) := by decide +kernel
theorem dX6_footing_5 : decode cX6_footing 5 = .ok (.aload_n 0, 1) := by decide +kernel
theorem dX6_footing_6 : decode cX6_footing 6 = .ok (.iload_n 2, 1) := by decide +kernel
theorem dX6_footing_7 : decode cX6_footing 7 = .ok (.invokevirtual 172, 3) := by decide +kernel
theorem dX6_footing_10 : decode cX6_footing 10 = .ok (.aload_n 0, 1) := by decide +kernel
theorem dX6_footing_11 : decode cX6_footing 11 = .ok (.getfield 12, 3) := by decide +kernel
theorem dX6_footing_14 : decode cX6_footing 14 = .ok (.iload_n 1, 1) := by decide +kernel
theorem dX6_footing_15 : decode cX6_footing 15 = .ok (.aload_n 0, 1) := by decide +kernel
theorem dX6_footing_16 : decode cX6_footing 16 = .ok (.getfield 12, 3) := by decide +kernel
theorem dX6_footing_19 : decode cX6_footing 19 = .ok (.iconst (-1), 1) := by decide +kernel
theorem dX6_footing_20 : decode cX6_footing 20 = .ok (.invokevirtual 181, 3) := by decide +kernel
theorem dX6_footing_23 : decode cX6_footing 23 = .ok (.invokevirtual 184, 3) := by decide +kernel
theorem dX6_footing_26 : decode cX6_footing 26 = .ok (.istore_n 3, 1) := by decide +kernel
theorem dX6_footing_27 : decode cX6_footing 27 = .ok (.aload_n 0, 1) := by decide +kernel
theorem dX6_footing_28 : decode cX6_footing 28 = .ok (.getfield 12, 3) := by decide +kernel
theorem dX6_footing_31 : decode cX6_footing 31 = .ok (.iload_n 2, 1) := by decide +kernel
theorem dX6_footing_32 : decode cX6_footing 32 = .ok (.iload_n 3, 1) := by decide +kernel
theorem dX6_footing_33 : decode cX6_footing 33 = .ok (.aload_n 0, 1) := by decide +kernel
theorem dX6_footing_34 : decode cX6_footing 34 = .ok (.getfield 12, 3) := by decide +kernel
theorem dX6_footing_37 : decode cX6_footing 37 = .ok (.iload_n 1, 1) := by decide +kernel
theorem dX6_footing_38 : decode cX6_footing 38 = .ok (.invokevirtual 144, 3) := by decide +kernel
theorem dX6_footing_41 : decode cX6_footing 41 = .ok (.invokevirtual 187, 3) := by decide +kernel
theorem dX6_footing_44 : decode cX6_footing 44 = .ok (.ireturn, 1) := by decide +kernel
theorem eX6_footing {W : zWd} {a : Int → Int} {T : Int} {p r : Int} {Q : Option Value → zWd → Prop} {X : zX} (hR : zCR W 0 a) (hw : zWf T a) (hz : zR p) (hz2 : zR r) (hq : 0 ≤ p → p < a 2 → 0 ≤ r → r < a 0 → Q (some (zI (vFt a p r))) W) (hx : ¬ ((0 ≤ p ∧ p < a 2) ∧ 0 ≤ r ∧ r < a 0) → X "java/lang/IndexOutOfBoundsException" W) : Ev MX6_footing 8 2 W [.ref 96, zI p, zI r] Q X := by
  refine ev_of (ls := [.ref 96, zI p, zI r, .null]) (by decide) rfl (fun _ => rfl) (fun _ => Nat.le_of_ble_eq_true rfl) (Or.inr (by decide)) ?_
  obtain ⟨r0, r1, r2, r3, r4, r5, r6, r7, rF, rS, rP, rB⟩ := id hR
  obtain ⟨w0, w0', wW, w1, w2, w2', w3, w3', w4, w4', w5, w5', w6, w6', w7, w7', wS, wP, wT⟩ := id hw
  have wq := zWf.sq hw
  have hn0 : zR (W 0 0) := by unfold zR; omega
  have hn1 : zR (W 0 1) := by unfold zR; omega
  have hn2 : zR (W 0 2) := by unfold zR; omega
  refine rr_aload_n (pc := 0) dX6_footing_0 rfl ?_
  refine rr_iload_n (pc := 1) dX6_footing_1 rfl ?_
  refine rr_inv (M' := MX6_checkPlayer) (k := 96) (As := [_]) (t' := 1) (pc := 2) dX6_footing_2 lX6_139 kX6_checkPlayer vX6_checkPlayer zk_96 (by decide) rfl (by decide) (by decide) (by decide) (Nat.le_of_ble_eq_true rfl) rfl (eX6_checkPlayer hz hn2 (fun k0 k1 => ?_) (fun k => hx (by omega)))
  rw [r2] at k1
  refine rr_aload_n (pc := 5) dX6_footing_5 rfl ?_
  refine rr_iload_n (pc := 6) dX6_footing_6 rfl ?_
  refine rr_inv (M' := MX6_checkRow) (k := 96) (As := [_]) (t' := 1) (pc := 7) dX6_footing_7 lX6_172 kX6_checkRow vX6_checkRow zk_96 (by decide) rfl (by decide) (by decide) (by decide) (Nat.le_of_ble_eq_true rfl) rfl (eX6_checkRow hz2 hn0 (fun j0 j1 => ?_) (fun k => hx (by omega)))
  rw [r0] at j1
  refine rr_aload_n (pc := 10) dX6_footing_10 rfl ?_
  refine rr_getR (pc := 11) dX6_footing_11 fX6_12 zk_96 zr_96_0 ?_
  refine rr_iload_n (pc := 14) dX6_footing_14 rfl ?_
  refine rr_aload_n (pc := 15) dX6_footing_15 rfl ?_
  refine rr_getR (pc := 16) dX6_footing_16 fX6_12 zk_96 zr_96_0 ?_
  refine rr_iconst (n := (-1)) dX6_footing_19 ?_
  refine rr_invN (M' := MX0_markedSquares) (k := 0) (As := [_]) (pc := 20) dX6_footing_20 lX6_181 kX0_markedSquares vX0_markedSquares zCt_0.k (by decide) rfl (by decide) (by decide) (Nat.le_of_ble_eq_true rfl) rfl (eX0_markedSquares zCt_0 hR hw (by unfold zR; omega) ?_)
  refine rr_invN (M' := MX0_usableSet) (k := 0) (As := [_, _]) (pc := 23) dX6_footing_23 lX6_184 kX0_usableSet vX0_usableSet zCt_0.k (by decide) rfl (by decide) (by decide) (Nat.le_of_ble_eq_true rfl) rfl (eX0_usableSet zCt_0 hR hw hz (zMks_21 hw) ?_)
  refine rr_istore_n (pc := 26) dX6_footing_26 (by decide) ?_
  refine rr_aload_n (pc := 27) dX6_footing_27 rfl ?_
  refine rr_getR (pc := 28) dX6_footing_28 fX6_12 zk_96 zr_96_0 ?_
  refine rr_iload_n (pc := 31) dX6_footing_31 rfl ?_
  refine rr_iload_n (pc := 32) dX6_footing_32 rfl ?_
  refine rr_aload_n (pc := 33) dX6_footing_33 rfl ?_
  refine rr_getR (pc := 34) dX6_footing_34 fX6_12 zk_96 zr_96_0 ?_
  refine rr_iload_n (pc := 37) dX6_footing_37 rfl ?_
  refine rr_invN (M' := MX0_squaresOf) (k := 0) (As := [_]) (pc := 38) dX6_footing_38 lX6_144 kX0_squaresOf vX0_squaresOf zCt_0.k (by decide) rfl (by decide) (by decide) (Nat.le_of_ble_eq_true rfl) rfl (eX0_squaresOf zCt_0 hR hw hz ?_)
  refine rr_invN (M' := MX0_footingOf) (k := 0) (As := [_, _, _]) (pc := 41) dX6_footing_41 lX6_187 kX0_footingOf vX0_footingOf zCt_0.k (by decide) rfl (by decide) (by decide) (Nat.le_of_ble_eq_true rfl) rfl (eX0_footingOf zCt_0 hR hw j0 j1 (aUset_lt wq.2) (zSet_32 _ (by omega)) ?_)
  exact rr_reti (pc := 44) dX6_footing_44 rfl rfl rfl rfl (hq k0 k1 j0 j1)
theorem dX6_throwFault_0 : decode cX6_throwFault 0 = .ok (.aload_n 0, 1) := by decide +kernel
theorem dX6_throwFault_1 : decode cX6_throwFault 1 = .ok (.iload_n 1, 1) := by decide +kernel
theorem dX6_throwFault_2 : decode cX6_throwFault 2 = .ok (.invokevirtual 139, 3) := by decide +kernel
theorem dX6_throwFault_5 : decode cX6_throwFault 5 = .ok (.iload_n 2, 1) := by decide +kernel
theorem dX6_throwFault_6 : decode cX6_throwFault 6 = .ok (.iload_n 3, 1) := by decide +kernel
theorem dX6_throwFault_7 : decode cX6_throwFault 7 = .ok (.invokestatic 191, 3) := by decide +kernel
theorem dX6_throwFault_10 : decode cX6_throwFault 10 = .ok (.aload_n 0, 1) := by decide +kernel
theorem dX6_throwFault_11 : decode cX6_throwFault 11 = .ok (.getfield 12, 3) := by decide +kernel
theorem dX6_throwFault_14 : decode cX6_throwFault 14 = .ok (.iload_n 1, 1) := by decide +kernel
theorem dX6_throwFault_15 : decode cX6_throwFault 15 = .ok (.iload_n 2, 1) := by decide +kernel
theorem dX6_throwFault_16 : decode cX6_throwFault 16 = .ok (.iload_n 3, 1) := by decide +kernel
theorem dX6_throwFault_17 : decode cX6_throwFault 17 = .ok (.invokevirtual 195, 3) := by decide +kernel
theorem dX6_throwFault_20 : decode cX6_throwFault 20 = .ok (.ireturn, 1) := by decide +kernel
theorem eX6_throwFault {W : zWd} {a : Int → Int} {T : Int} {p r s : Int} {Q : Option Value → zWd → Prop} {X : zX} (hR : zCR W 0 a) (hw : zWf T a) (hz : zR p) (hz2 : zR r) (hz3 : zR s) (hq : 0 ≤ p → p < a 2 → (0 ≤ r ∧ r ≤ 199 ∧ 0 ≤ s ∧ s ≤ 1) → Q (some (zI (aFault a p r s))) W) (hx : ¬ (0 ≤ p ∧ p < a 2) → X "java/lang/IndexOutOfBoundsException" W) (hx2 : 0 ≤ p → p < a 2 → ¬ (0 ≤ r ∧ r ≤ 199 ∧ 0 ≤ s ∧ s ≤ 1) → X "java/lang/IllegalArgumentException" W) : Ev MX6_throwFault 8 2 W [.ref 96, zI p, zI r, zI s] Q X := by
  refine ev_of (ls := [.ref 96, zI p, zI r, zI s]) (by decide) rfl (fun _ => rfl) (fun _ => Nat.le_of_ble_eq_true rfl) (Or.inr (by decide)) ?_
  obtain ⟨r0, r1, r2, r3, r4, r5, r6, r7, rF, rS, rP, rB⟩ := id hR
  obtain ⟨w0, w0', wW, w1, w2, w2', w3, w3', w4, w4', w5, w5', w6, w6', w7, w7', wS, wP, wT⟩ := id hw
  have wq := zWf.sq hw
  have hn0 : zR (W 0 0) := by unfold zR; omega
  have hn1 : zR (W 0 1) := by unfold zR; omega
  have hn2 : zR (W 0 2) := by unfold zR; omega
  refine rr_aload_n (pc := 0) dX6_throwFault_0 rfl ?_
  refine rr_iload_n (pc := 1) dX6_throwFault_1 rfl ?_
  refine rr_inv (M' := MX6_checkPlayer) (k := 96) (As := [_]) (t' := 1) (pc := 2) dX6_throwFault_2 lX6_139 kX6_checkPlayer vX6_checkPlayer zk_96 (by decide) rfl (by decide) (by decide) (by decide) (Nat.le_of_ble_eq_true rfl) rfl (eX6_checkPlayer hz hn2 (fun k0 k1 => ?_) (fun k => hx (by omega)))
  rw [r2] at k1
  refine rr_iload_n (pc := 5) dX6_throwFault_5 rfl ?_
  refine rr_iload_n (pc := 6) dX6_throwFault_6 rfl ?_
  refine rr_sta (M' := MX6_checkThrow) (As := [_, _]) (t' := 1) (pc := 7) dX6_throwFault_7 lX6_191 kX6_checkThrow sX6_checkThrow (by decide) (by decide) (by decide) (Nat.le_of_ble_eq_true rfl) rfl (eX6_checkThrow hz2 hz3 (fun j0 j1 j2 j3 => ?_) (fun k => hx2 k0 k1 (by omega)))
  refine rr_aload_n (pc := 10) dX6_throwFault_10 rfl ?_
  refine rr_getR (pc := 11) dX6_throwFault_11 fX6_12 zk_96 zr_96_0 ?_
  refine rr_iload_n (pc := 14) dX6_throwFault_14 rfl ?_
  refine rr_iload_n (pc := 15) dX6_throwFault_15 rfl ?_
  refine rr_iload_n (pc := 16) dX6_throwFault_16 rfl ?_
  refine rr_invN (M' := MX0_faultOfThrow) (k := 0) (As := [_, _, _]) (pc := 17) dX6_throwFault_17 lX6_195 kX0_faultOfThrow vX0_faultOfThrow zCt_0.k (by decide) rfl (by decide) (by decide) (Nat.le_of_ble_eq_true rfl) rfl (eX0_faultOfThrow zCt_0 hR hw k0 k1 j0 j1 j2 j3 ?_)
  exact rr_reti (pc := 20) dX6_throwFault_20 rfl rfl rfl rfl (hq k0 k1 ⟨j0, j1, j2, j3⟩)
def vBest (a : Int → Int) (p : Int) : Int := if aP a p 2 = 0 then -1 else 2 * aLp a (aP a p 2) + aSd a (aP a p 2)
theorem dX6_bestThrow_0 : decode cX6_bestThrow 0 = .ok (.aload_n 0, 1) := by decide +kernel
theorem dX6_bestThrow_1 : decode cX6_bestThrow 1 = .ok (.iload_n 1, 1) := by decide +kernel
theorem dX6_bestThrow_2 : decode cX6_bestThrow 2 = .ok (.invokevirtual 139, 3) := by decide +kernel
theorem dX6_bestThrow_5 : decode cX6_bestThrow 5 = .ok (.aload_n 0, 1) := by decide +kernel
theorem dX6_bestThrow_6 : decode cX6_bestThrow 6 = .ok (.getfield 12, 3) := by decide +kernel
theorem dX6_bestThrow_9 : decode cX6_bestThrow 9 = .ok (.iload_n 1, 1) := by decide +kernel
theorem dX6_bestThrow_10 : decode cX6_bestThrow 10 = .ok (.iconst 2, 1) := by decide +kernel
theorem dX6_bestThrow_11 : decode cX6_bestThrow 11 = .ok (.invokevirtual 147, 3) := by decide +kernel
theorem dX6_bestThrow_14 : decode cX6_bestThrow 14 = .ok (.istore_n 2, 1) := by decide +kernel
theorem dX6_bestThrow_15 : decode cX6_bestThrow 15 = .ok (.iload_n 2, 1) := by decide +kernel
theorem dX6_bestThrow_16 : decode cX6_bestThrow 16 = .ok (.ifCond .ne 7, 3) := by decide +kernel
theorem dX6_bestThrow_19 : decode cX6_bestThrow 19 = .ok (.iconst (-1), 1) := by decide +kernel
theorem dX6_bestThrow_20 : decode cX6_bestThrow 20 = .ok (.goto 22, 3) := by decide +kernel
theorem dX6_bestThrow_23 : decode cX6_bestThrow 23 = .ok (.iconst 2, 1) := by decide +kernel
theorem dX6_bestThrow_24 : decode cX6_bestThrow 24 = .ok (.aload_n 0, 1) := by decide +kernel
theorem dX6_bestThrow_25 : decode cX6_bestThrow 25 = .ok (.getfield 12, 3) := by decide +kernel
theorem dX6_bestThrow_28 : decode cX6_bestThrow 28 = .ok (.iload_n 2, 1) := by decide +kernel
theorem dX6_bestThrow_29 : decode cX6_bestThrow 29 = .ok (.invokevirtual 198, 3) := by decide +kernel
theorem dX6_bestThrow_32 : decode cX6_bestThrow 32 = .ok (.imul, 1) := by decide +kernel
theorem dX6_bestThrow_33 : decode cX6_bestThrow 33 = .ok (.aload_n 0, 1) := by decide +kernel
theorem dX6_bestThrow_34 : decode cX6_bestThrow 34 = .ok (.getfield 12, 3) := by decide +kernel
theorem dX6_bestThrow_37 : decode cX6_bestThrow 37 = .ok (.iload_n 2, 1) := by decide +kernel
theorem dX6_bestThrow_38 : decode cX6_bestThrow 38 = .ok (.invokevirtual 158, 3) := by decide +kernel
theorem dX6_bestThrow_41 : decode cX6_bestThrow 41 = .ok (.iadd, 1) := by decide +kernel
theorem dX6_bestThrow_42 : decode cX6_bestThrow 42 = .ok (.ireturn, 1) := by decide +kernel
theorem eX6_bestThrow {W : zWd} {a : Int → Int} {T : Int} {p : Int} {Q : Option Value → zWd → Prop} {X : zX} (hR : zCR W 0 a) (hw : zWf T a) (hz : zR p) (hq : 0 ≤ p → p < a 2 → Q (some (zI (vBest a p))) W) (hx : ¬ (0 ≤ p ∧ p < a 2) → X "java/lang/IndexOutOfBoundsException" W) : Ev MX6_bestThrow 8 1 W [.ref 96, zI p] Q X := by
  refine ev_of (ls := [.ref 96, zI p, .null]) (by decide) rfl (fun _ => rfl) (fun _ => Nat.le_of_ble_eq_true rfl) (Or.inr (by decide)) ?_
  obtain ⟨r0, r1, r2, r3, r4, r5, r6, r7, rF, rS, rP, rB⟩ := id hR
  obtain ⟨w0, w0', wW, w1, w2, w2', w3, w3', w4, w4', w5, w5', w6, w6', w7, w7', wS, wP, wT⟩ := id hw
  have wq := zWf.sq hw
  have hn0 : zR (W 0 0) := by unfold zR; omega
  have hn1 : zR (W 0 1) := by unfold zR; omega
  have hn2 : zR (W 0 2) := by unfold zR; omega
  refine rr_aload_n (pc := 0) dX6_bestThrow_0 rfl ?_
  refine rr_iload_n (pc := 1) dX6_bestThrow_1 rfl ?_
  refine rr_inv (M' := MX6_checkPlayer) (k := 96) (As := [_]) (t' := 1) (pc := 2) dX6_bestThrow_2 lX6_139 kX6_checkPlayer vX6_checkPlayer zk_96 (by decide) rfl (by decide) (by decide) (by decide) (Nat.le_of_ble_eq_true rfl) rfl (eX6_checkPlayer hz hn2 (fun k0 k1 => ?_) (fun k => hx (by omega)))
  rw [r2] at k1
  have hm := rP p k0 k1
  have hm2 := wP p k0 k1
  unfold zWfP at hm2
  refine rr_aload_n (pc := 5) dX6_bestThrow_5 rfl ?_
  refine rr_getR (pc := 6) dX6_bestThrow_6 fX6_12 zk_96 zr_96_0 ?_
  refine rr_iload_n (pc := 9) dX6_bestThrow_9 rfl ?_
  refine rr_iconst (n := 2) dX6_bestThrow_10 ?_
  refine rr_invN (M' := MX0_get) (k := 0) (As := [_, _]) (pc := 11) dX6_bestThrow_11 lX6_147 kX0_get vX0_get zCt_0.k (by decide) rfl (by decide) (by decide) (Nat.le_of_ble_eq_true rfl) rfl (eX0_get zCt_0 (by omega) (by omega) (by omega) (by omega) ?_)
  rw [hm.2.2.1]
  refine rr_istore_n (pc := 14) dX6_bestThrow_14 (by decide) ?_
  refine rr_iload_n (pc := 15) dX6_bestThrow_15 rfl ?_
  refine rr_if_ne (pc := 16) (tgt := 23) dX6_bestThrow_16 (by decide) (by unfold zR; omega) (fun h16 => ?_) (fun h16 => ?_)
  · refine rr_iconst (n := 2) dX6_bestThrow_23 ?_
    refine rr_aload_n (pc := 24) dX6_bestThrow_24 rfl ?_
    refine rr_getR (pc := 25) dX6_bestThrow_25 fX6_12 zk_96 zr_96_0 ?_
    refine rr_iload_n (pc := 28) dX6_bestThrow_28 rfl ?_
    refine rr_invN (M' := MX0_leastPower) (k := 0) (As := [_]) (pc := 29) dX6_bestThrow_29 lX6_198 kX0_leastPower vX0_leastPower zCt_0.k (by decide) rfl (by decide) (by decide) (Nat.le_of_ble_eq_true rfl) rfl (eX0_leastPower zCt_0 hR hw (by omega) (by omega) ?_)
    refine rr_imul (pc := 32) dX6_bestThrow_32 ?_
    refine rr_aload_n (pc := 33) dX6_bestThrow_33 rfl ?_
    refine rr_getR (pc := 34) dX6_bestThrow_34 fX6_12 zk_96 zr_96_0 ?_
    refine rr_iload_n (pc := 37) dX6_bestThrow_37 rfl ?_
    refine rr_invN (M' := MX0_sideOf) (k := 0) (As := [_]) (pc := 38) dX6_bestThrow_38 lX6_158 kX0_sideOf vX0_sideOf zCt_0.k (by decide) rfl (by decide) (by decide) (Nat.le_of_ble_eq_true rfl) rfl (eX0_sideOf zCt_0 hR hw (by omega) (by omega) ?_)
    refine rr_iadd (pc := 41) dX6_bestThrow_41 ?_
    exact rr_reti (pc := 42) dX6_bestThrow_42 rfl rfl (by unfold vBest; rw [if_neg h16]; rfl) rfl (hq k0 k1)
  · refine rr_iconst (n := (-1)) dX6_bestThrow_19 ?_
    refine rr_goto (pc := 20) (tgt := 42) dX6_bestThrow_20 (by decide) ?_
    exact rr_reti (pc := 42) dX6_bestThrow_42 rfl rfl (by unfold vBest; rw [if_pos (by omega)]) rfl (hq k0 k1)
end
